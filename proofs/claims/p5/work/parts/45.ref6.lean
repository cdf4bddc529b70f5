set_option maxRecDepth 20000 in
theorem q_X10_ifIndex (l : Launch) (V : VX) (c T Z u h : Nat) (P : NP) (L : Nat → LQ) (N : Nat) (σ : Mem) (x901 : Int32) (x902 : Int32) (h0 : HR V c ⟨T, Z, u, h, P, L⟩ σ) (hok : OKL P.n0 L) (hP : OKP P)  : Ct l V yX10_ifIndex cX10_ifIndex 5 (some .long) 2 0 0 N σ [.ref c, .int x901, .int x902] (fun r τ => HS V c (⟨T, Z, u, h, P, L⟩ : RG) [0, 2, 3, 4, 5, 6, 7, 8, 9, 10, 11, 12, 13, 14, 15, 16, 19, 20, 21, 22, 23] σ τ ∧ ∃ x : Int64, r = some (.long x)) := by
  refine Ct.of (by decide) (Nat.le_of_ble_eq_true rfl) [(0, .ref c), (1, .int x901), (2, .int x902)] rfl (fun X hX F hQ => ?_)
  have hPP := hP
  unfold OKP at hPP
  have h1 : HS V c ⟨T, Z, u, h, P, L⟩ [0, 2, 3, 4, 5, 6, 7, 8, 9, 10, 11, 12, 13, 14, 15, 16, 19, 20, 21, 22, 23] σ σ := HS.start h0
  refine m_aload_n F rfl e_X10_ifIndex_0 ?_
  refine m_iconst F (v := 0) (by decide) e_X10_ifIndex_1 ?_
  refine r_put F (g' := (⟨T, Z, u, h, P, L⟩ : RG)) e_X10_ifIndex_2 fp_X10_91 h1 (by decide) ⟨_, rfl⟩ (fun _ _ _ _ q => q) (fun _ _ _ q => q) rfl rfl (by decide) (fun σ6244 h6245 g6246 g6247 f6248 => ?_)
  refine m_aload_n F rfl e_X10_ifIndex_5 ?_
  refine m_iload_n F rfl e_X10_ifIndex_6 ?_
  refine r_callV F e_X10_ifIndex_7 (q_X10_isLease (x_l X) V c T Z u h P L _ _ x901 h6245.1 (hok.b) hP ) cb_X10_isLease ml_X10_292 im_X10_isLease se_X10_isLease h6245 rfl rfl (rest := []) rfl (Nat.le_of_ble_eq_true rfl) ⟨Nat.le_of_ble_eq_true rfl, Nat.le_of_ble_eq_true rfl⟩ ⟨Nat.le_of_ble_eq_true rfl, Nat.le_of_ble_eq_true rfl⟩ (fun r σ6249 hp => ?_)
  obtain ⟨h6250, c6252⟩ := hp
  have h6251 := HS.trans h6245 h6250 (by decide)
  rcases c6252 with rfl | ⟨n6253, h6254, e6255, rfl⟩
  · refine m_if_eq F e_X10_ifIndex_10 (fun _ => ?_) (fun q => absurd (by decide) q)
    refine m_ldc2 F kc_X10_245 e_X10_ifIndex_27 ?_
    exact m_lret F hQ e_X10_ifIndex_30 (⟨h6251, _, rfl⟩)
  · subst e6255
    refine m_if_eq F e_X10_ifIndex_10 (fun q => absurd q (by decide)) (fun _ => ?_)
    refine m_iload_n F rfl e_X10_ifIndex_13 ?_
    refine m_sipush F (v := 500) (by decide) e_X10_ifIndex_14 ?_
    refine m_icmp_lt F e_X10_ifIndex_17 (fun q17 => ?_) (fun q17 => ?_)
    · refine m_ldc2 F kc_X10_245 e_X10_ifIndex_27 ?_
      exact m_lret F hQ e_X10_ifIndex_30 (⟨h6251, _, rfl⟩)
    · obtain ⟨n6256, hn6256, rfl⟩ := nI_nn (x := x902) (fun e => q17 (Int32.lt_of_lt_of_le e (by decide)))
      have c17 : n6256 ≥ 500 := by have hh := mt (nI_ltI (a := n6256) (b := 500) (by omega) (by omega)).mpr q17; omega
      refine m_iload_n F rfl e_X10_ifIndex_20 ?_
      refine m_sipush F (v := 2000) (by decide) e_X10_ifIndex_21 ?_
      refine m_icmp_le F e_X10_ifIndex_24 (fun q24 => ?_) (fun q24 => ?_)
      · have c24 : n6256 ≤ 2000 := (nI_leI (a := n6256) (b := 2000) (by omega) (by omega)).mp q24
        refine m_aload_n F rfl e_X10_ifIndex_31 ?_
        refine m_iload_n F rfl e_X10_ifIndex_32 ?_
        refine r_callV F e_X10_ifIndex_33 (q_X10_isOn (x_l X) V c T Z u h P L _ _ n6253 h6251.1 (hok.b) hP (by omega)) cb_X10_isOn ml_X10_267 im_X10_isOn se_X10_isOn h6251 rfl rfl (rest := []) rfl (Nat.le_of_ble_eq_true rfl) ⟨Nat.le_of_ble_eq_true rfl, Nat.le_of_ble_eq_true rfl⟩ ⟨Nat.le_of_ble_eq_true rfl, Nat.le_of_ble_eq_true rfl⟩ (fun r σ6257 hp => ?_)
        obtain ⟨h6258, c6260⟩ := hp
        have h6259 := HS.trans h6251 h6258 (by decide)
        rcases c6260 with ⟨g6261, rfl⟩ | ⟨g6261, rfl⟩
        · refine m_if_ne F e_X10_ifIndex_36 (fun q => absurd (by decide) q) (fun _ => ?_)
          refine m_ldc2 F kc_X10_338 e_X10_ifIndex_39 ?_
          exact m_lret F hQ e_X10_ifIndex_42 (⟨h6259, _, rfl⟩)
        · refine m_if_ne F e_X10_ifIndex_36 (fun _ => ?_) (fun q => absurd q (by decide))
          refine m_aload_n F rfl e_X10_ifIndex_43 ?_
          refine m_iload_n F rfl e_X10_ifIndex_44 ?_
          refine r_callV F e_X10_ifIndex_45 (q_X10_isTied (x_l X) V c T Z u h P L _ _ n6253 h6259.1 (hok.b) hP (by omega)) cb_X10_isTied ml_X10_270 im_X10_isTied se_X10_isTied h6259 rfl rfl (rest := []) rfl (Nat.le_of_ble_eq_true rfl) ⟨Nat.le_of_ble_eq_true rfl, Nat.le_of_ble_eq_true rfl⟩ ⟨Nat.le_of_ble_eq_true rfl, Nat.le_of_ble_eq_true rfl⟩ (fun r σ6262 hp => ?_)
          obtain ⟨h6263, n6265, hn6265, rfl⟩ := hp
          have h6264 := HS.trans h6259 h6263 (by decide)
          refine m_if_ne F e_X10_ifIndex_48 (fun q48 => ?_) (fun q48 => ?_)
          · have c48 : n6265 ≠ 0 := by have hh := mt (nI_eq (a := n6265) (b := 0) (by omega) (by omega)).mpr q48; omega
            refine m_aload_n F rfl e_X10_ifIndex_65 ?_
            refine r_get F e_X10_ifIndex_66 fl_X10_59 h6264 rfl (fun v hv f6266 => ?_)
            obtain rfl : v = .ref (c + 16) := hv
            refine m_iconst F (v := 0) (by decide) e_X10_ifIndex_69 ?_
            refine m_aload_n F rfl e_X10_ifIndex_70 ?_
            refine r_get F e_X10_ifIndex_71 fl_X10_63 h6264 rfl (fun v hv f6267 => ?_)
            obtain rfl : v = .ref (c + 17) := hv
            refine m_iconst F (v := 0) (by decide) e_X10_ifIndex_74 ?_
            obtain ⟨f6268, e6269, te6269⟩ : ∃ f, σ6262 (c + 16) = some (aJ V 1113 f) ∧ ∀ i, i < 1113 → EJ L i (f i) := h6264.1.cell (k := 16) (by decide)
            obtain ⟨g6270, e6271⟩ : ∃ f, σ6262 (c + 17) = some (aJ V 1113 f) := h6264.1.cell (k := 17) (by decide)
            refine m_callS F e_X10_ifIndex_75 (q_copies (x_l X) V _ _ (c + 16) (c + 17) 1113 1113 0 0 f6268 g6270 e6269 e6271 (by omega) (by omega) (by omega) (by omega)) cb_X10_copies ml_X10_230 sm_X10_copies rfl (rest := []) rfl (Nat.le_of_ble_eq_true rfl) ⟨Nat.le_of_ble_eq_true rfl, Nat.le_of_ble_eq_true rfl⟩ ⟨Nat.le_of_ble_eq_true rfl, Nat.le_of_ble_eq_true rfl⟩ (k' := 0) (z' := 0) (N' := N) rfl rfl rfl (fun r σ6272 hp => ?_)
            obtain ⟨p6273, rfl⟩ := hp
            have h6274 := HS.cp (k := 17) (g' := (⟨T, Z, u, h, P, L⟩ : RG)) h6264 p6273 (by decide) (by decide) ⟨_, rfl⟩ (fun _ _ _ q => q)
            have ga6275 : GB V c 17 1113 0 L σ6272 := ⟨_, p6273.1, fun i hi => by rw [show 0 + i = i from Nat.zero_add i, cpy_at0 hi, Nat.zero_add]; exact te6269 i hi⟩
            have hl6276 := hok.2 n6253 (by omega)
            have hl6277 := hok.2 n6253 (by omega)
            have hl6278 := hok.2 n6253 (by omega)
            refine m_aload_n F rfl e_X10_ifIndex_78 ?_
            refine m_iload_n F rfl e_X10_ifIndex_79 ?_
            refine m_iload_n F rfl e_X10_ifIndex_80 ?_
            refine m_i2l F e_X10_ifIndex_81 ?_
            refine Wm.toplE (w := lN n6256) (nI_l (by omega)) ?_
            refine r_callV F e_X10_ifIndex_82 (q_X10_indexes (x_l X) V c T Z u h P L _ _ n6253 n6256 h6274.1 (hok.b) hP (by omega) (by omega) (by first | omega | assumption | decide)) cb_X10_indexes ml_X10_273 im_X10_indexes se_X10_indexes h6274 rfl rfl (rest := []) rfl (Nat.le_of_ble_eq_true rfl) ⟨Nat.le_of_ble_eq_true rfl, Nat.le_of_ble_eq_true rfl⟩ ⟨Nat.le_of_ble_eq_true rfl, Nat.le_of_ble_eq_true rfl⟩ (fun r σ6279 hp => ?_)
            obtain ⟨h6280, rfl⟩ := hp
            have h6281 := HS.trans h6274 h6280 (by decide)
            have ga6282 := ga6275.of (h6280.2 (c + 17) (by rw [kC_at (k := 17) (by decide)]; decide))
            refine m_aload_n F rfl e_X10_ifIndex_85 ?_
            refine m_iload_n F rfl e_X10_ifIndex_86 ?_
            refine m_aload_n F rfl e_X10_ifIndex_87 ?_
            refine r_getC F e_X10_ifIndex_88 fl_X10_59 h6281 ((fld_eq (h6280.2 c (by rw [show kC c c = 1 from kC_at (k := 0) (by decide)]; decide))).trans ((fld_eq (p6273.2 _ (by omega))).trans f6266)) ?_
            refine m_sipush F (v := 160) (by decide) e_X10_ifIndex_91 ?_
            refine m_iload_n F rfl e_X10_ifIndex_94 ?_
            refine m_imul F e_X10_ifIndex_95 ?_
            refine Wm.topE (w := nI (160 * n6253)) (pk_mul 160 n6253) ?_
            refine m_iconst F (v := 5) (by decide) e_X10_ifIndex_96 ?_
            refine m_iadd F e_X10_ifIndex_97 ?_
            refine Wm.topE (w := nI (160 * n6253 + 5)) (nI_add (160 * n6253) 5) ?_
            refine r_sld F (j := 160 * n6253 + 5) e_X10_ifIndex_98 h6281 (nI_clamp (by omega)) (vp_in_nI (by omega) (by decide)) (fun x6283 h6284 f6285 => ?_)
            have hl6286 := hok.2 n6253 (by omega)
            obtain rfl : x6283 = lN (L n6253).2.2.2 := (EJ_l (l := n6253) (r := 5) (by omega) (by decide)).mp h6284
            refine m_l2i F e_X10_ifIndex_99 ?_
            refine Wm.topE (w := nI ((L n6253).2.2.2)) (lN_i ((L n6253).2.2.2)) ?_
            refine m_iconst F (v := 1) (by decide) e_X10_ifIndex_100 ?_
            refine m_iadd F e_X10_ifIndex_101 ?_
            refine Wm.topE (w := nI ((L n6253).2.2.2 + 1)) (nI_add ((L n6253).2.2.2) 1) ?_
            refine m_aload_n F rfl e_X10_ifIndex_102 ?_
            refine r_getC F e_X10_ifIndex_103 fl_X10_59 h6281 ((fld_eq (h6280.2 c (by rw [show kC c c = 1 from kC_at (k := 0) (by decide)]; decide))).trans ((fld_eq (p6273.2 _ (by omega))).trans f6266)) ?_
            refine m_sipush F (v := 160) (by decide) e_X10_ifIndex_106 ?_
            refine m_iload_n F rfl e_X10_ifIndex_109 ?_
            refine m_imul F e_X10_ifIndex_110 ?_
            refine Wm.topE (w := nI (160 * n6253)) (pk_mul 160 n6253) ?_
            refine m_iconst F (v := 2) (by decide) e_X10_ifIndex_111 ?_
            refine m_iadd F e_X10_ifIndex_112 ?_
            refine Wm.topE (w := nI (160 * n6253 + 2)) (nI_add (160 * n6253) 2) ?_
            refine r_sld F (j := 160 * n6253 + 2) e_X10_ifIndex_113 h6281 (nI_clamp (by omega)) (vp_in_nI (by omega) (by decide)) (fun x6287 h6288 f6289 => ?_)
            obtain ⟨n6290, hn6290, rfl⟩ : ∃ n : Nat, n ≤ 1000000 ∧ x6287 = lN n := (EJ_l (l := n6253) (r := 2) (by omega) (by decide)).mp h6288
            refine m_ldc2 F kc_X10_245 e_X10_ifIndex_114 ?_
            refine r_callV F e_X10_ifIndex_117 (q_X10_worthBy (x_l X) V c T Z u h P L _ _ n6253 ((L n6253).2.2.2 + 1) n6290 (-1) h6281.1 (hok.b) hP (by omega) (by omega) (by omega) (by first | omega | assumption | decide)) cb_X10_worthBy ml_X10_247 im_X10_worthBy se_X10_worthBy h6281 rfl rfl (rest := []) rfl (Nat.le_of_ble_eq_true rfl) ⟨Nat.le_of_ble_eq_true rfl, Nat.le_of_ble_eq_true rfl⟩ ⟨Nat.le_of_ble_eq_true rfl, Nat.le_of_ble_eq_true rfl⟩ (fun r σ6291 hp => ?_)
            obtain ⟨h6292, x6294, rfl⟩ := hp
            have h6293 := HS.trans h6281 h6292 (by decide)
            have ga6295 := ga6282.of (h6292.2 (c + 17) (by rw [kC_at (k := 17) (by decide)]; decide))
            refine m_lstore_n F (lv' := [(3, .long x6294), (0, .ref c), (1, .int (nI n6253)), (2, .int (nI n6256))]) e_X10_ifIndex_120 (by decide) rfl ?_
            refine m_aload_n F rfl e_X10_ifIndex_121 ?_
            refine r_callV F e_X10_ifIndex_122 (q_X10_back1 (x_l X) V c T Z u h P L _ _ L h6293.1 (hok.b) hP ga6295) cb_X10_back1 ml_X10_332 im_X10_back1 se_X10_back1 h6293 rfl rfl (rest := []) rfl (Nat.le_of_ble_eq_true rfl) ⟨Nat.le_of_ble_eq_true rfl, Nat.le_of_ble_eq_true rfl⟩ ⟨Nat.le_of_ble_eq_true rfl, Nat.le_of_ble_eq_true rfl⟩ (fun r σ6296 hp => ?_)
            obtain ⟨h6297, rfl⟩ := hp
            have h6298 := HS.trans h6293 h6297 (by decide)
            have ga6299 := ga6295.of (h6297.2 (c + 17) (by rw [kC_at (k := 17) (by decide)]; decide))
            refine m_lload_n F rfl e_X10_ifIndex_125 ?_
            exact m_lret F hQ e_X10_ifIndex_126 (⟨h6298, _, rfl⟩)
          · have c48 : n6265 = 0 := (nI_eq (a := n6265) (b := 0) (by omega) (by omega)).mp q48
            refine m_aload_n F rfl e_X10_ifIndex_51 ?_
            refine r_get F e_X10_ifIndex_52 fl_X10_59 h6264 rfl (fun v hv f6300 => ?_)
            obtain rfl : v = .ref (c + 16) := hv
            refine m_sipush F (v := 160) (by decide) e_X10_ifIndex_55 ?_
            refine m_iload_n F rfl e_X10_ifIndex_58 ?_
            refine m_imul F e_X10_ifIndex_59 ?_
            refine Wm.topE (w := nI (160 * n6253)) (pk_mul 160 n6253) ?_
            refine m_bipush F (v := 6) (by decide) e_X10_ifIndex_60 ?_
            refine m_iadd F e_X10_ifIndex_62 ?_
            refine Wm.topE (w := nI (160 * n6253 + 6)) (nI_add (160 * n6253) 6) ?_
            refine r_sld F (j := 160 * n6253 + 6) e_X10_ifIndex_63 h6264 (nI_clamp (by omega)) (vp_in_nI (by omega) (by decide)) (fun x6301 h6302 f6303 => ?_)
            exact m_lret F hQ e_X10_ifIndex_64 (⟨h6264, _, rfl⟩)
      · have c24 : n6256 > 2000 := by have hh := mt (nI_leI (a := n6256) (b := 2000) (by omega) (by omega)).mpr q24; omega
        refine m_ldc2 F kc_X10_245 e_X10_ifIndex_27 ?_
        exact m_lret F hQ e_X10_ifIndex_30 (⟨h6251, _, rfl⟩)
set_option maxRecDepth 20000 in
theorem q_X10_rate (l : Launch) (V : VX) (c T Z u h : Nat) (P : NP) (L : Nat → LQ) (N : Nat) (σ : Mem) (x901 : Int32) (x902 : Int32) (h0 : HR V c ⟨T, Z, u, h, P, L⟩ σ) (hok : OKL P.n0 L) (hP : OKP P) (hp0 : u ≤ 20) (hp1 : P.kk = P.n0) : Ct l V yX10_rate cX10_rate 3 (some .long) 3 0 0 N σ [.ref c, .int x901, .int x902] (fun r τ => ∃ u9, u9 ≤ 20 ∧ ∃ L9, OKL P.n0 L9 ∧ HS V c (⟨T, Z, u9, h, P, L9⟩ : RG) [0, 2, 3, 4, 5, 6, 7, 8, 9, 10, 11, 12, 13, 14, 15, 16, 18, 19, 20, 22] σ τ ∧ ∃ x : Int64, r = some (.long x)) := by
  refine Ct.of (by decide) (Nat.le_of_ble_eq_true rfl) [(0, .ref c), (1, .int x901), (2, .int x902)] rfl (fun X hX F hQ => ?_)
  have hPP := hP
  unfold OKP at hPP
  have h1 : HS V c ⟨T, Z, u, h, P, L⟩ [0, 2, 3, 4, 5, 6, 7, 8, 9, 10, 11, 12, 13, 14, 15, 16, 18, 19, 20, 22] σ σ := HS.start h0
  refine m_aload_n F rfl e_X10_rate_0 ?_
  refine m_iconst F (v := 0) (by decide) e_X10_rate_1 ?_
  refine r_put F (g' := (⟨T, Z, u, h, P, L⟩ : RG)) e_X10_rate_2 fp_X10_91 h1 (by decide) ⟨_, rfl⟩ (fun _ _ _ _ q => q) (fun _ _ _ q => q) rfl rfl (by decide) (fun σ6304 h6305 g6306 g6307 f6308 => ?_)
  refine m_aload_n F rfl e_X10_rate_5 ?_
  refine m_iload_n F rfl e_X10_rate_6 ?_
  refine r_callV F e_X10_rate_7 (q_X10_isRunning (x_l X) V c T Z u h P L _ _ x901 h6305.1 (hok.b) hP ) cb_X10_isRunning ml_X10_301 im_X10_isRunning se_X10_isRunning h6305 rfl rfl (rest := []) rfl (Nat.le_of_ble_eq_true rfl) ⟨Nat.le_of_ble_eq_true rfl, Nat.le_of_ble_eq_true rfl⟩ ⟨Nat.le_of_ble_eq_true rfl, Nat.le_of_ble_eq_true rfl⟩ (fun r σ6309 hp => ?_)
  obtain ⟨h6310, c6312⟩ := hp
  have h6311 := HS.trans h6305 h6310 (by decide)
  rcases c6312 with rfl | ⟨n6313, h6314, h6315, e6316, rfl⟩
  · refine m_if_eq F e_X10_rate_10 (fun _ => ?_) (fun q => absurd (by decide) q)
    refine m_ldc2 F kc_X10_299 e_X10_rate_23 ?_
    exact m_lret F hQ e_X10_rate_26 (⟨u, by omega, L, hok, h6311, _, rfl⟩)
  · subst e6316
    refine m_if_eq F e_X10_rate_10 (fun q => absurd q (by decide)) (fun _ => ?_)
    refine m_iload_n F rfl e_X10_rate_13 ?_
    refine m_if_lt F e_X10_rate_14 (fun q14 => ?_) (fun q14 => ?_)
    · refine m_ldc2 F kc_X10_299 e_X10_rate_23 ?_
      exact m_lret F hQ e_X10_rate_26 (⟨u, by omega, L, hok, h6311, _, rfl⟩)
    · obtain ⟨n6317, hn6317, rfl⟩ := nI_nn (x := x902) (fun e => q14 (Int32.lt_of_lt_of_le e (by decide)))
      have c14 : n6317 ≥ 0 := by have hh := mt (nI_ltI (a := n6317) (b := 0) (by omega) (by omega)).mpr q14; omega
      refine m_iload_n F rfl e_X10_rate_17 ?_
      refine m_ldc F kc_X10_169 e_X10_rate_18 ?_
      refine m_icmp_le F e_X10_rate_20 (fun q20 => ?_) (fun q20 => ?_)
      · have c20 : n6317 ≤ 200000 := (nI_leI (a := n6317) (b := 200000) (by omega) (by omega)).mp q20
        refine m_aload_n F rfl e_X10_rate_27 ?_
        refine r_callV F e_X10_rate_28 (q_X10_remembers (x_l X) V c T Z u h P L _ _  h6311.1 (hok) hP (by first | omega | assumption | decide) (by first | omega | assumption | decide)) cb_X10_remembers ml_X10_286 im_X10_remembers se_X10_remembers h6311 rfl rfl (rest := []) rfl (Nat.le_of_ble_eq_true rfl) ⟨Nat.le_of_ble_eq_true rfl, Nat.le_of_ble_eq_true rfl⟩ ⟨Nat.le_of_ble_eq_true rfl, Nat.le_of_ble_eq_true rfl⟩ (fun r σ6318 hp => ?_)
        obtain ⟨u6321, hu6321, h6319, rfl⟩ := hp
        have h6320 := HS.trans h6311 h6319 (by decide)
        refine m_aload_n F rfl e_X10_rate_31 ?_
        refine r_get F e_X10_rate_32 fl_X10_59 h6320 rfl (fun v hv f6322 => ?_)
        obtain rfl : v = .ref (c + 16) := hv
        refine m_sipush F (v := 160) (by decide) e_X10_rate_35 ?_
        refine m_iload_n F rfl e_X10_rate_38 ?_
        refine m_imul F e_X10_rate_39 ?_
        refine Wm.topE (w := nI (160 * n6313)) (pk_mul 160 n6313) ?_
        refine m_iconst F (v := 2) (by decide) e_X10_rate_40 ?_
        refine m_iadd F e_X10_rate_41 ?_
        refine Wm.topE (w := nI (160 * n6313 + 2)) (nI_add (160 * n6313) 2) ?_
        refine m_iload_n F rfl e_X10_rate_42 ?_
        refine m_i2l F e_X10_rate_43 ?_
        refine Wm.toplE (w := lN n6317) (nI_l (by omega)) ?_
        refine r_sst F (g' := (⟨T, Z, u6321, h, P, L⟩ : RG)) (j := 160 * n6313 + 2) e_X10_rate_44 h6320 (by decide) (nI_clamp (by omega)) (vp_in_nI (by omega) (by decide)) (fun f q => EJ_same ((EJ_l (l := n6313) (r := 2) (by omega) (by decide)).mpr ⟨n6317, by omega, rfl⟩) q) (fun _ _ _ q => q) (fun σ6323 h6324 g6325 => ?_)
        refine m_aload_n F rfl e_X10_rate_45 ?_
        refine m_iload_n F rfl e_X10_rate_46 ?_
        refine r_callV F e_X10_rate_47 (q_X10_remeasures (x_l X) V c T Z u6321 h P L _ _ n6313 h6324.1 (hok.b) hP (by omega)) cb_X10_remeasures ml_X10_277 im_X10_remeasures se_X10_remeasures h6324 rfl rfl (rest := []) rfl (Nat.le_of_ble_eq_true rfl) ⟨Nat.le_of_ble_eq_true rfl, Nat.le_of_ble_eq_true rfl⟩ ⟨Nat.le_of_ble_eq_true rfl, Nat.le_of_ble_eq_true rfl⟩ (fun r σ6326 hp => ?_)
        obtain ⟨h6327, x6329, rfl⟩ := hp
        have h6328 := HS.trans h6324 h6327 (by decide)
        exact m_lret F hQ e_X10_rate_50 (⟨u6321, by omega, L, hok, h6328, _, rfl⟩)
      · have c20 : n6317 > 200000 := by have hh := mt (nI_leI (a := n6317) (b := 200000) (by omega) (by omega)).mpr q20; omega
        refine m_ldc2 F kc_X10_299 e_X10_rate_23 ?_
        exact m_lret F hQ e_X10_rate_26 (⟨u, by omega, L, hok, h6311, _, rfl⟩)
set_option maxRecDepth 20000 in
theorem q_X10_extend (l : Launch) (V : VX) (c T Z u h : Nat) (P : NP) (L : Nat → LQ) (N : Nat) (σ : Mem) (x901 : Int32) (x902 : Int32) (h0 : HR V c ⟨T, Z, u, h, P, L⟩ σ) (hok : OKL P.n0 L) (hP : OKP P) (hp0 : u ≤ 20) (hp1 : P.kk = P.n0) : Ct l V yX10_extend cX10_extend 4 (some .long) 3 0 0 N σ [.ref c, .int x901, .int x902] (fun r τ => ∃ u9, u9 ≤ 20 ∧ ∃ L9, OKL P.n0 L9 ∧ HS V c (⟨T, Z, u9, h, P, L9⟩ : RG) [0, 2, 3, 4, 5, 6, 7, 8, 9, 10, 11, 12, 13, 14, 15, 16, 18, 19, 20, 22] σ τ ∧ ∃ x : Int64, r = some (.long x)) := by
  refine Ct.of (by decide) (Nat.le_of_ble_eq_true rfl) [(0, .ref c), (1, .int x901), (2, .int x902)] rfl (fun X hX F hQ => ?_)
  have hPP := hP
  unfold OKP at hPP
  have h1 : HS V c ⟨T, Z, u, h, P, L⟩ [0, 2, 3, 4, 5, 6, 7, 8, 9, 10, 11, 12, 13, 14, 15, 16, 18, 19, 20, 22] σ σ := HS.start h0
  refine m_aload_n F rfl e_X10_extend_0 ?_
  refine m_iconst F (v := 0) (by decide) e_X10_extend_1 ?_
  refine r_put F (g' := (⟨T, Z, u, h, P, L⟩ : RG)) e_X10_extend_2 fp_X10_91 h1 (by decide) ⟨_, rfl⟩ (fun _ _ _ _ q => q) (fun _ _ _ q => q) rfl rfl (by decide) (fun σ6330 h6331 g6332 g6333 f6334 => ?_)
  refine m_aload_n F rfl e_X10_extend_5 ?_
  refine m_iload_n F rfl e_X10_extend_6 ?_
  refine r_callV F e_X10_extend_7 (q_X10_isRunning (x_l X) V c T Z u h P L _ _ x901 h6331.1 (hok.b) hP ) cb_X10_isRunning ml_X10_301 im_X10_isRunning se_X10_isRunning h6331 rfl rfl (rest := []) rfl (Nat.le_of_ble_eq_true rfl) ⟨Nat.le_of_ble_eq_true rfl, Nat.le_of_ble_eq_true rfl⟩ ⟨Nat.le_of_ble_eq_true rfl, Nat.le_of_ble_eq_true rfl⟩ (fun r σ6335 hp => ?_)
  obtain ⟨h6336, c6338⟩ := hp
  have h6337 := HS.trans h6331 h6336 (by decide)
  rcases c6338 with rfl | ⟨n6339, h6340, h6341, e6342, rfl⟩
  · refine m_if_eq F e_X10_extend_10 (fun _ => ?_) (fun q => absurd (by decide) q)
    refine m_ldc2 F kc_X10_299 e_X10_extend_33 ?_
    exact m_lret F hQ e_X10_extend_36 (⟨u, by omega, L, hok, h6337, _, rfl⟩)
  · subst e6342
    refine m_if_eq F e_X10_extend_10 (fun q => absurd q (by decide)) (fun _ => ?_)
    refine m_iload_n F rfl e_X10_extend_13 ?_
    refine m_iconst F (v := 1) (by decide) e_X10_extend_14 ?_
    refine m_icmp_lt F e_X10_extend_15 (fun q15 => ?_) (fun q15 => ?_)
    · refine m_ldc2 F kc_X10_299 e_X10_extend_33 ?_
      exact m_lret F hQ e_X10_extend_36 (⟨u, by omega, L, hok, h6337, _, rfl⟩)
    · obtain ⟨n6343, hn6343, rfl⟩ := nI_nn (x := x902) (fun e => q15 (Int32.lt_of_lt_of_le e (by decide)))
      have c15 : n6343 ≥ 1 := by have hh := mt (nI_ltI (a := n6343) (b := 1) (by omega) (by omega)).mpr q15; omega
      refine m_iload_n F rfl e_X10_extend_18 ?_
      refine m_bipush F (v := 24) (by decide) e_X10_extend_19 ?_
      refine m_icmp_gt F e_X10_extend_21 (fun q21 => ?_) (fun q21 => ?_)
      · have c21 : n6343 > 24 := (nI_ltI (a := 24) (b := n6343) (by omega) (by omega)).mp q21
        refine m_ldc2 F kc_X10_299 e_X10_extend_33 ?_
        exact m_lret F hQ e_X10_extend_36 (⟨u, by omega, L, hok, h6337, _, rfl⟩)
      · have c21 : n6343 ≤ 24 := by have hh := mt (nI_ltI (a := 24) (b := n6343) (by omega) (by omega)).mpr q21; omega
        refine m_aload_n F rfl e_X10_extend_24 ?_
        refine m_iload_n F rfl e_X10_extend_25 ?_
        refine m_iload_n F rfl e_X10_extend_26 ?_
        refine r_callV F e_X10_extend_27 (q_X10_canBeLonger (x_l X) V c T Z u h P L _ _ n6339 n6343 h6337.1 (hok.b) hP (by omega) (by omega)) cb_X10_canBeLonger ml_X10_306 im_X10_canBeLonger se_X10_canBeLonger h6337 rfl rfl (rest := []) rfl (Nat.le_of_ble_eq_true rfl) ⟨Nat.le_of_ble_eq_true rfl, Nat.le_of_ble_eq_true rfl⟩ ⟨Nat.le_of_ble_eq_true rfl, Nat.le_of_ble_eq_true rfl⟩ (fun r σ6344 hp => ?_)
        obtain ⟨h6345, c6347⟩ := hp
        have h6346 := HS.trans h6337 h6345 (by decide)
        rcases c6347 with rfl | ⟨h6348, rfl⟩
        · refine m_if_ne F e_X10_extend_30 (fun q => absurd (by decide) q) (fun _ => ?_)
          refine m_ldc2 F kc_X10_299 e_X10_extend_33 ?_
          exact m_lret F hQ e_X10_extend_36 (⟨u, by omega, L, hok, h6346, _, rfl⟩)
        · refine m_if_ne F e_X10_extend_30 (fun _ => ?_) (fun q => absurd q (by decide))
          refine m_aload_n F rfl e_X10_extend_37 ?_
          refine r_callV F e_X10_extend_38 (q_X10_remembers (x_l X) V c T Z u h P L _ _  h6346.1 (hok) hP (by first | omega | assumption | decide) (by first | omega | assumption | decide)) cb_X10_remembers ml_X10_286 im_X10_remembers se_X10_remembers h6346 rfl rfl (rest := []) rfl (Nat.le_of_ble_eq_true rfl) ⟨Nat.le_of_ble_eq_true rfl, Nat.le_of_ble_eq_true rfl⟩ ⟨Nat.le_of_ble_eq_true rfl, Nat.le_of_ble_eq_true rfl⟩ (fun r σ6349 hp => ?_)
          obtain ⟨u6352, hu6352, h6350, rfl⟩ := hp
          have h6351 := HS.trans h6346 h6350 (by decide)
          have hl6353 := hok.2 n6339 (by omega)
          have hl6354 := hok.2 n6339 (by omega)
          have hl6355 := hok.2 n6339 (by omega)
          refine m_sipush F (v := 160) (by decide) e_X10_extend_41 ?_
          refine m_iload_n F rfl e_X10_extend_44 ?_
          refine m_imul F e_X10_extend_45 ?_
          refine Wm.topE (w := nI (160 * n6339)) (pk_mul 160 n6339) ?_
          refine m_aload_n F rfl e_X10_extend_46 ?_
          refine r_get F e_X10_extend_47 fl_X10_59 h6351 rfl (fun v hv f6356 => ?_)
          obtain rfl : v = .ref (c + 16) := hv
          refine m_sipush F (v := 160) (by decide) e_X10_extend_50 ?_
          refine m_iload_n F rfl e_X10_extend_53 ?_
          refine m_imul F e_X10_extend_54 ?_
          refine Wm.topE (w := nI (160 * n6339)) (pk_mul 160 n6339) ?_
          refine m_iconst F (v := 1) (by decide) e_X10_extend_55 ?_
          refine m_iadd F e_X10_extend_56 ?_
          refine Wm.topE (w := nI (160 * n6339 + 1)) (nI_add (160 * n6339) 1) ?_
          refine r_sld F (j := 160 * n6339 + 1) e_X10_extend_57 h6351 (nI_clamp (by omega)) (vp_in_nI (by omega) (by decide)) (fun x6357 h6358 f6359 => ?_)
          have hl6360 := hok.2 n6339 (by omega)
          obtain rfl : x6357 = lN (L n6339).2.1 := (EJ_l (l := n6339) (r := 1) (by omega) (by decide)).mp h6358
          refine m_l2i F e_X10_extend_58 ?_
          refine Wm.topE (w := nI ((L n6339).2.1)) (lN_i ((L n6339).2.1)) ?_
          refine m_iadd F e_X10_extend_59 ?_
          refine Wm.topE (w := nI ((160 * n6339) + ((L n6339).2.1))) (nI_add (160 * n6339) ((L n6339).2.1)) ?_
          refine m_iconst F (v := 1) (by decide) e_X10_extend_60 ?_
          refine m_isub F e_X10_extend_61 ?_
          refine Wm.topE (w := nI (((160 * n6339) + ((L n6339).2.1)) - 1)) (pk_sub (a := (160 * n6339) + ((L n6339).2.1)) (b := 1) (by omega)) ?_
          refine m_istore_n F (lv' := [(3, .int (nI (((160 * n6339) + ((L n6339).2.1)) - 1))), (0, .ref c), (1, .int (nI n6339)), (2, .int (nI n6343))]) e_X10_extend_62 (by decide) rfl ?_
          refine m_aload_n F rfl e_X10_extend_63 ?_
          refine m_iload_n F rfl e_X10_extend_64 ?_
          refine m_iload_n F rfl e_X10_extend_65 ?_
          refine m_aload_n F rfl e_X10_extend_66 ?_
          refine r_getC F e_X10_extend_67 fl_X10_59 h6351 (f6356) ?_
          refine m_iload_n F rfl e_X10_extend_70 ?_
          refine m_bipush F (v := 13) (by decide) e_X10_extend_71 ?_
          refine m_iadd F e_X10_extend_73 ?_
          refine Wm.topE (w := nI (((160 * n6339) + ((L n6339).2.1)) - 1 + 13)) (nI_add (((160 * n6339) + ((L n6339).2.1)) - 1) 13) ?_
          refine r_sld F (j := ((160 * n6339) + ((L n6339).2.1)) - 1 + 13) e_X10_extend_74 h6351 (nI_clamp (by omega)) (vp_in_nI (by omega) (by decide)) (fun x6361 h6362 f6363 => ?_)
          refine m_aload_n F rfl e_X10_extend_75 ?_
          refine r_getC F e_X10_extend_76 fl_X10_59 h6351 (f6356) ?_
          refine m_iload_n F rfl e_X10_extend_79 ?_
          refine m_bipush F (v := 85) (by decide) e_X10_extend_80 ?_
          refine m_iadd F e_X10_extend_82 ?_
          refine Wm.topE (w := nI (((160 * n6339) + ((L n6339).2.1)) - 1 + 85)) (nI_add (((160 * n6339) + ((L n6339).2.1)) - 1) 85) ?_
          refine r_sld F (j := ((160 * n6339) + ((L n6339).2.1)) - 1 + 85) e_X10_extend_83 h6351 (nI_clamp (by omega)) (vp_in_nI (by omega) (by decide)) (fun x6364 h6365 f6366 => ?_)
          refine r_callV F e_X10_extend_84 (q_X10_adds (x_l X) V c T Z u6352 h P L _ _ n6339 n6343 x6361 x6364 h6351.1 (hok) hP (by omega) (by omega) (by first | omega | assumption | decide)) cb_X10_adds ml_X10_309 im_X10_adds se_X10_adds h6351 rfl rfl (rest := []) rfl (Nat.le_of_ble_eq_true rfl) ⟨Nat.le_of_ble_eq_true rfl, Nat.le_of_ble_eq_true rfl⟩ ⟨Nat.le_of_ble_eq_true rfl, Nat.le_of_ble_eq_true rfl⟩ (fun r σ6367 hp => ?_)
          obtain ⟨L6370, okL6370, r6371, r6372, r6373, h6368, rfl⟩ := hp
          have h6369 := HS.trans h6351 h6368 (by decide)
          refine m_aload_n F rfl e_X10_extend_87 ?_
          refine m_iload_n F rfl e_X10_extend_88 ?_
          refine r_callV F e_X10_extend_89 (q_X10_remeasures (x_l X) V c T Z u6352 h P L6370 _ _ n6339 h6369.1 (okL6370.b) hP (by omega)) cb_X10_remeasures ml_X10_277 im_X10_remeasures se_X10_remeasures h6369 rfl rfl (rest := []) rfl (Nat.le_of_ble_eq_true rfl) ⟨Nat.le_of_ble_eq_true rfl, Nat.le_of_ble_eq_true rfl⟩ ⟨Nat.le_of_ble_eq_true rfl, Nat.le_of_ble_eq_true rfl⟩ (fun r σ6374 hp => ?_)
          obtain ⟨h6375, x6377, rfl⟩ := hp
          have h6376 := HS.trans h6369 h6375 (by decide)
          exact m_lret F hQ e_X10_extend_92 (⟨u6352, by omega, L6370, okL6370, h6376, _, rfl⟩)
set_option maxRecDepth 20000 in
theorem q_X10_canTake (l : Launch) (V : VX) (c T Z u h : Nat) (P : NP) (L : Nat → LQ) (N : Nat) (σ : Mem) (x901 : Int32) (h0 : HR V c ⟨T, Z, u, h, P, L⟩ σ) (hob : OKB L) (hP : OKP P)  : Ct l V yX10_canTake cX10_canTake 2 (some .boolean) 1 0 0 N σ [.ref c, .int x901] (fun r τ => HS V c (⟨T, Z, u, h, P, L⟩ : RG) [0, 1, 2, 3, 4, 5, 6, 7, 8, 9, 10, 11, 12, 13, 14, 15, 16, 17, 18, 19, 20, 21, 22, 23] σ τ ∧ (r = some (.int 0) ∨ ∃ j n m : Nat, j ≤ 3 ∧ n ≤ 3 ∧ m ≤ 24 ∧ (L n).1 = 1 ∧ (L n).2.1 + m ≤ 72 ∧ elI τ (c + 13) j = some (nI n) ∧ elI τ (c + 14) j = some (nI m) ∧ x901 = nI j ∧ r = some (.int 1))) := by
  refine Ct.of (by decide) (Nat.le_of_ble_eq_true rfl) [(0, .ref c), (1, .int x901)] rfl (fun X hX F hQ => ?_)
  have hPP := hP
  unfold OKP at hPP
  have h1 : HS V c ⟨T, Z, u, h, P, L⟩ [0, 1, 2, 3, 4, 5, 6, 7, 8, 9, 10, 11, 12, 13, 14, 15, 16, 17, 18, 19, 20, 21, 22, 23] σ σ := HS.start h0
  refine m_iload_n F rfl e_X10_canTake_0 ?_
  refine m_if_lt F e_X10_canTake_1 (fun q1 => ?_) (fun q1 => ?_)
  · refine m_iconst F (v := 0) (by decide) e_X10_canTake_65 ?_
    exact m_zret F hQ e_X10_canTake_66 (by decide) (⟨h1, Or.inl rfl⟩)
  · obtain ⟨n6378, hn6378, rfl⟩ := nI_nn (x := x901) (fun e => q1 (Int32.lt_of_lt_of_le e (by decide)))
    have c1 : n6378 ≥ 0 := by have hh := mt (nI_ltI (a := n6378) (b := 0) (by omega) (by omega)).mpr q1; omega
    refine m_iload_n F rfl e_X10_canTake_4 ?_
    refine m_aload_n F rfl e_X10_canTake_5 ?_
    refine r_get F e_X10_canTake_6 fl_X10_13 h1 rfl (fun v hv f6379 => ?_)
    obtain rfl : v = .ref (c + 2) := hv
    refine m_iconst F (v := 3) (by decide) e_X10_canTake_9 ?_
    refine r_iald F (len := 10) (j := 3) e_X10_canTake_10 h1 (fun _ h => h) (by decide) (by decide) (by unfold vp_in; decide) (fun x6380 h6381 f6382 => ?_)
    obtain ⟨n6383, hn6383, rfl⟩ := h6381.2.2.2.2.1 rfl
    refine m_icmp_ge F e_X10_canTake_11 (fun q11 => ?_) (fun q11 => ?_)
    · have c11 : n6378 ≥ n6383 := (nI_leI (a := n6383) (b := n6378) (by omega) (by omega)).mp q11
      refine m_iconst F (v := 0) (by decide) e_X10_canTake_65 ?_
      exact m_zret F hQ e_X10_canTake_66 (by decide) (⟨h1, Or.inl rfl⟩)
    · have c11 : n6378 < n6383 := by have hh := mt (nI_leI (a := n6383) (b := n6378) (by omega) (by omega)).mpr q11; omega
      refine m_aload_n F rfl e_X10_canTake_14 ?_
      refine r_get F e_X10_canTake_15 fl_X10_59 h1 rfl (fun v hv f6384 => ?_)
      obtain rfl : v = .ref (c + 16) := hv
      refine m_sipush F (v := 640) (by decide) e_X10_canTake_18 ?_
      refine m_iload_n F rfl e_X10_canTake_21 ?_
      refine m_iadd F e_X10_canTake_22 ?_
      refine Wm.topE (w := nI (640 + n6378)) (nI_add 640 n6378) ?_
      refine r_sld F (j := 640 + n6378) e_X10_canTake_23 h1 (nI_clamp (by omega)) (vp_in_nI (by omega) (by decide)) (fun x6385 h6386 f6387 => ?_)
      refine m_lconst F (v := 0) (by decide) e_X10_canTake_24 ?_
      refine m_lcmp F e_X10_canTake_25 ?_
      refine Wm.top (fun x6388 _ => ?_)
      refine m_if_ne F e_X10_canTake_26 (fun q26 => ?_) (fun q26 => ?_)
      · refine m_iconst F (v := 0) (by decide) e_X10_canTake_65 ?_
        exact m_zret F hQ e_X10_canTake_66 (by decide) (⟨h1, Or.inl rfl⟩)
      · subst q26
        refine m_aload_n F rfl e_X10_canTake_29 ?_
        refine m_aload_n F rfl e_X10_canTake_30 ?_
        refine r_get F e_X10_canTake_31 fl_X10_46 h1 rfl (fun v hv f6389 => ?_)
        obtain rfl : v = .ref (c + 13) := hv
        refine m_iload_n F rfl e_X10_canTake_34 ?_
        refine r_iald F (len := 8) (j := n6378) e_X10_canTake_35 h1 (fun _ h => h) (by decide) (nI_clamp (by omega)) (vp_in_nI (by omega) (by decide)) (fun x6390 h6391 f6392 => ?_)
        obtain ⟨n6393, hn6393, rfl⟩ := h6391
        refine r_callV F e_X10_canTake_36 (q_X10_isOn (x_l X) V c T Z u h P L _ _ n6393 h1.1 (hob) hP (by omega)) cb_X10_isOn ml_X10_267 im_X10_isOn se_X10_isOn h1 rfl rfl (rest := []) rfl (Nat.le_of_ble_eq_true rfl) ⟨Nat.le_of_ble_eq_true rfl, Nat.le_of_ble_eq_true rfl⟩ ⟨Nat.le_of_ble_eq_true rfl, Nat.le_of_ble_eq_true rfl⟩ (fun r σ6394 hp => ?_)
        obtain ⟨h6395, c6397⟩ := hp
        have h6396 := HS.trans h1 h6395 (by decide)
        rcases c6397 with ⟨g6398, rfl⟩ | ⟨g6398, rfl⟩
        · refine m_if_eq F e_X10_canTake_39 (fun _ => ?_) (fun q => absurd (by decide) q)
          refine m_iconst F (v := 0) (by decide) e_X10_canTake_65 ?_
          exact m_zret F hQ e_X10_canTake_66 (by decide) (⟨h6396, Or.inl rfl⟩)
        · refine m_if_eq F e_X10_canTake_39 (fun q => absurd q (by decide)) (fun _ => ?_)
          refine m_aload_n F rfl e_X10_canTake_42 ?_
          refine m_aload_n F rfl e_X10_canTake_43 ?_
          refine r_getC F e_X10_canTake_44 fl_X10_46 h6396 ((fld_eq (h6395.2 c (by rw [show kC c c = 1 from kC_at (k := 0) (by decide)]; decide))).trans f6389) ?_
          refine m_iload_n F rfl e_X10_canTake_47 ?_
          refine r_iald F (len := 8) (j := n6378) e_X10_canTake_48 h6396 (fun _ h => h) (by decide) (nI_clamp (by omega)) (vp_in_nI (by omega) (by decide)) (fun x6399 h6400 f6401 => ?_)
          obtain rfl := Option.some.inj ((f6401).symm.trans ((elI_eq (h6395.2 (c + 13) (by rw [kC_at (k := 13) (by decide)]; decide))).trans f6392))
          refine m_aload_n F rfl e_X10_canTake_49 ?_
          refine r_get F e_X10_canTake_50 fl_X10_49 h6396 rfl (fun v hv f6402 => ?_)
          obtain rfl : v = .ref (c + 14) := hv
          refine m_iload_n F rfl e_X10_canTake_53 ?_
          refine r_iald F (len := 8) (j := n6378) e_X10_canTake_54 h6396 (fun _ h => h) (by decide) (nI_clamp (by omega)) (vp_in_nI (by omega) (by decide)) (fun x6403 h6404 f6405 => ?_)
          obtain ⟨n6406, hn6406, rfl⟩ := h6404
          refine r_callV F e_X10_canTake_55 (q_X10_canBeLonger (x_l X) V c T Z u h P L _ _ n6393 n6406 h6396.1 (hob) hP (by omega) (by omega)) cb_X10_canBeLonger ml_X10_306 im_X10_canBeLonger se_X10_canBeLonger h6396 rfl rfl (rest := []) rfl (Nat.le_of_ble_eq_true rfl) ⟨Nat.le_of_ble_eq_true rfl, Nat.le_of_ble_eq_true rfl⟩ ⟨Nat.le_of_ble_eq_true rfl, Nat.le_of_ble_eq_true rfl⟩ (fun r σ6407 hp => ?_)
          obtain ⟨h6408, c6410⟩ := hp
          have h6409 := HS.trans h6396 h6408 (by decide)
          rcases c6410 with rfl | ⟨h6411, rfl⟩
          · refine m_if_eq F e_X10_canTake_58 (fun _ => ?_) (fun q => absurd (by decide) q)
            refine m_iconst F (v := 0) (by decide) e_X10_canTake_65 ?_
            exact m_zret F hQ e_X10_canTake_66 (by decide) (⟨h6409, Or.inl rfl⟩)
          · refine m_if_eq F e_X10_canTake_58 (fun q => absurd q (by decide)) (fun _ => ?_)
            refine m_iconst F (v := 1) (by decide) e_X10_canTake_61 ?_
            refine m_goto F e_X10_canTake_62 ?_
            exact m_zret F hQ e_X10_canTake_66 (by decide) (⟨h6409, Or.inr ⟨n6378, n6393, n6406, by omega, by omega, by omega, by omega, by omega, (elI_eq (h6408.2 (c + 13) (by rw [kC_at (k := 13) (by decide)]; decide))).trans ((elI_eq (h6395.2 (c + 13) (by rw [kC_at (k := 13) (by decide)]; decide))).trans f6392), (elI_eq (h6408.2 (c + 14) (by rw [kC_at (k := 14) (by decide)]; decide))).trans f6405, rfl, rfl⟩⟩)
set_option maxRecDepth 20000 in
theorem q_X10_takes (l : Launch) (V : VX) (c T Z u h : Nat) (P : NP) (L : Nat → LQ) (N : Nat) (σ : Mem) (n901 : Nat) (n m : Nat) (h0 : HR V c ⟨T, Z, u, h, P, L⟩ σ) (hok : OKL P.n0 L) (hP : OKP P) (hn901 : n901 ≤ 3) (hp0 : n ≤ 3) (hp1 : m ≤ 24) (hp2 : (L n).1 = 1) (hp3 : (L n).2.1 + m ≤ 72) (hp4 : elI σ (c + 13) n901 = some (nI n)) (hp5 : elI σ (c + 14) n901 = some (nI m)) : Ct l V yX10_takes cX10_takes 3 (some .long) 3 0 0 N σ [.ref c, .int (nI n901)] (fun r τ => ∃ L9, OKL P.n0 L9 ∧ HS V c (⟨T, Z, u, h, P, L9⟩ : RG) [0, 1, 2, 3, 4, 5, 6, 7, 8, 9, 10, 11, 12, 13, 14, 15, 16, 18, 19, 20, 21, 22] σ τ ∧ ∃ x : Int64, r = some (.long x)) := by
  refine Ct.of (by decide) (Nat.le_of_ble_eq_true rfl) [(0, .ref c), (1, .int (nI n901))] rfl (fun X hX F hQ => ?_)
  have hPP := hP
  unfold OKP at hPP
  have h1 : HS V c ⟨T, Z, u, h, P, L⟩ [0, 1, 2, 3, 4, 5, 6, 7, 8, 9, 10, 11, 12, 13, 14, 15, 16, 18, 19, 20, 21, 22] σ σ := HS.start h0
  refine m_aload_n F rfl e_X10_takes_0 ?_
  refine r_get F e_X10_takes_1 fl_X10_46 h1 rfl (fun v hv f6412 => ?_)
  obtain rfl : v = .ref (c + 13) := hv
  refine m_iload_n F rfl e_X10_takes_4 ?_
  refine r_iald F (len := 8) (j := n901) e_X10_takes_5 h1 (fun _ h => h) (by decide) (nI_clamp (by omega)) (vp_in_nI (by omega) (by decide)) (fun x6413 h6414 f6415 => ?_)
  obtain rfl := Option.some.inj ((f6415).symm.trans (hp4))
  refine m_istore_n F (lv' := [(2, .int (nI n)), (0, .ref c), (1, .int (nI n901))]) e_X10_takes_6 (by decide) rfl ?_
  refine m_aload_n F rfl e_X10_takes_7 ?_
  refine r_get F e_X10_takes_8 fl_X10_59 h1 rfl (fun v hv f6416 => ?_)
  obtain rfl : v = .ref (c + 16) := hv
  refine m_sipush F (v := 640) (by decide) e_X10_takes_11 ?_
  refine m_iload_n F rfl e_X10_takes_14 ?_
  refine m_iadd F e_X10_takes_15 ?_
  refine Wm.topE (w := nI (640 + n901)) (nI_add 640 n901) ?_
  refine m_lconst F (v := 1) (by decide) e_X10_takes_16 ?_
  refine r_sst F (g' := (⟨T, Z, u, h, P, L⟩ : RG)) (j := 640 + n901) e_X10_takes_17 h1 (by decide) (nI_clamp (by omega)) (vp_in_nI (by omega) (by decide)) (fun f q => EJ_same (EJ_w (by omega)) q) (fun _ _ _ q => q) (fun σ6417 h6418 g6419 => ?_)
  refine m_aload_n F rfl e_X10_takes_18 ?_
  refine m_iload_n F rfl e_X10_takes_19 ?_
  refine m_aload_n F rfl e_X10_takes_20 ?_
  refine r_get F e_X10_takes_21 fl_X10_49 h6418 rfl (fun v hv f6420 => ?_)
  obtain rfl : v = .ref (c + 14) := hv
  refine m_iload_n F rfl e_X10_takes_24 ?_
  refine r_iald F (len := 8) (j := n901) e_X10_takes_25 h6418 (fun _ h => h) (by decide) (nI_clamp (by omega)) (vp_in_nI (by omega) (by decide)) (fun x6421 h6422 f6423 => ?_)
  obtain rfl := Option.some.inj ((f6423).symm.trans ((elI_eq (g6419 _ (by omega))).trans hp5))
  refine m_aload_n F rfl e_X10_takes_26 ?_
  refine r_get F e_X10_takes_27 fl_X10_52 h6418 rfl (fun v hv f6424 => ?_)
  obtain rfl : v = .ref (c + 15) := hv
  refine m_iload_n F rfl e_X10_takes_30 ?_
  refine r_iald F (len := 8) (j := n901) e_X10_takes_31 h6418 (fun _ h => h) (by decide) (nI_clamp (by omega)) (vp_in_nI (by omega) (by decide)) (fun x6425 h6426 f6427 => ?_)
  refine m_i2l F e_X10_takes_32 ?_
  refine Wm.topl (fun x6428 _ => ?_)
  refine m_aload_n F rfl e_X10_takes_33 ?_
  refine r_getC F e_X10_takes_34 fl_X10_52 h6418 (f6424) ?_
  refine m_iload_n F rfl e_X10_takes_37 ?_
  refine r_iald F (len := 8) (j := n901) e_X10_takes_38 h6418 (fun _ h => h) (by decide) (nI_clamp (by omega)) (vp_in_nI (by omega) (by decide)) (fun x6429 h6430 f6431 => ?_)
  obtain rfl := Option.some.inj ((f6431).symm.trans (f6427))
  refine m_i2l F e_X10_takes_39 ?_
  refine Wm.topl (fun x6432 _ => ?_)
  refine r_callV F e_X10_takes_40 (q_X10_adds (x_l X) V c T Z u h P L _ _ n m x6428 x6432 h6418.1 (hok) hP (by omega) (by omega) (by first | omega | assumption | decide)) cb_X10_adds ml_X10_309 im_X10_adds se_X10_adds h6418 rfl rfl (rest := []) rfl (Nat.le_of_ble_eq_true rfl) ⟨Nat.le_of_ble_eq_true rfl, Nat.le_of_ble_eq_true rfl⟩ ⟨Nat.le_of_ble_eq_true rfl, Nat.le_of_ble_eq_true rfl⟩ (fun r σ6433 hp => ?_)
  obtain ⟨L6436, okL6436, r6437, r6438, r6439, h6434, rfl⟩ := hp
  have h6435 := HS.trans h6418 h6434 (by decide)
  refine m_aload_n F rfl e_X10_takes_43 ?_
  refine m_iload_n F rfl e_X10_takes_44 ?_
  refine r_callV F e_X10_takes_45 (q_X10_isTied (x_l X) V c T Z u h P L6436 _ _ n h6435.1 (okL6436.b) hP (by omega)) cb_X10_isTied ml_X10_270 im_X10_isTied se_X10_isTied h6435 rfl rfl (rest := []) rfl (Nat.le_of_ble_eq_true rfl) ⟨Nat.le_of_ble_eq_true rfl, Nat.le_of_ble_eq_true rfl⟩ ⟨Nat.le_of_ble_eq_true rfl, Nat.le_of_ble_eq_true rfl⟩ (fun r σ6440 hp => ?_)
  obtain ⟨h6441, n6443, hn6443, rfl⟩ := hp
  have h6442 := HS.trans h6435 h6441 (by decide)
  refine m_if_eq F e_X10_takes_48 (fun q48 => ?_) (fun q48 => ?_)
  · have c48 : n6443 = 0 := (nI_eq (a := n6443) (b := 0) (by omega) (by omega)).mp q48
    refine m_aload_n F rfl e_X10_takes_60 ?_
    refine m_iload_n F rfl e_X10_takes_61 ?_
    refine r_callV F e_X10_takes_62 (q_X10_remeasures (x_l X) V c T Z u h P L6436 _ _ n h6442.1 (okL6436.b) hP (by omega)) cb_X10_remeasures ml_X10_277 im_X10_remeasures se_X10_remeasures h6442 rfl rfl (rest := []) rfl (Nat.le_of_ble_eq_true rfl) ⟨Nat.le_of_ble_eq_true rfl, Nat.le_of_ble_eq_true rfl⟩ ⟨Nat.le_of_ble_eq_true rfl, Nat.le_of_ble_eq_true rfl⟩ (fun r σ6444 hp => ?_)
    obtain ⟨h6445, x6447, rfl⟩ := hp
    have h6446 := HS.trans h6442 h6445 (by decide)
    exact m_lret F hQ e_X10_takes_65 (⟨L6436, okL6436, h6446, _, rfl⟩)
  · have c48 : n6443 ≠ 0 := by have hh := mt (nI_eq (a := n6443) (b := 0) (by omega) (by omega)).mpr q48; omega
    have hl6448 := okL6436.2 n (by omega)
    have hl6449 := okL6436.2 n (by omega)
    have hl6450 := okL6436.2 n (by omega)
    refine m_aload_n F rfl e_X10_takes_51 ?_
    refine m_iload_n F rfl e_X10_takes_52 ?_
    refine m_aload_n F rfl e_X10_takes_53 ?_
    refine r_callV F e_X10_takes_54 (q_X10_indexNow (x_l X) V c T Z u h P L6436 _ _  h6442.1 (okL6436.b) hP ) cb_X10_indexNow ml_X10_260 im_X10_indexNow se_X10_indexNow h6442 rfl rfl (rest := [.int (nI n), .ref c]) rfl (Nat.le_of_ble_eq_true rfl) ⟨Nat.le_of_ble_eq_true rfl, Nat.le_of_ble_eq_true rfl⟩ ⟨Nat.le_of_ble_eq_true rfl, Nat.le_of_ble_eq_true rfl⟩ (fun r σ6451 hp => ?_)
    obtain ⟨h6452, n6454, hn6454, gn6454, rfl⟩ := hp
    have h6453 := HS.trans h6442 h6452 (by decide)
    refine r_callV F e_X10_takes_57 (q_X10_indexes (x_l X) V c T Z u h P L6436 _ _ n n6454 h6453.1 (okL6436.b) hP (by omega) (by omega) (by first | omega | assumption | decide)) cb_X10_indexes ml_X10_273 im_X10_indexes se_X10_indexes h6453 rfl rfl (rest := []) rfl (Nat.le_of_ble_eq_true rfl) ⟨Nat.le_of_ble_eq_true rfl, Nat.le_of_ble_eq_true rfl⟩ ⟨Nat.le_of_ble_eq_true rfl, Nat.le_of_ble_eq_true rfl⟩ (fun r σ6455 hp => ?_)
    obtain ⟨h6456, rfl⟩ := hp
    have h6457 := HS.trans h6453 h6456 (by decide)
    refine m_aload_n F rfl e_X10_takes_60 ?_
    refine m_iload_n F rfl e_X10_takes_61 ?_
    refine r_callV F e_X10_takes_62 (q_X10_remeasures (x_l X) V c T Z u h P L6436 _ _ n h6457.1 (okL6436.b) hP (by omega)) cb_X10_remeasures ml_X10_277 im_X10_remeasures se_X10_remeasures h6457 rfl rfl (rest := []) rfl (Nat.le_of_ble_eq_true rfl) ⟨Nat.le_of_ble_eq_true rfl, Nat.le_of_ble_eq_true rfl⟩ ⟨Nat.le_of_ble_eq_true rfl, Nat.le_of_ble_eq_true rfl⟩ (fun r σ6458 hp => ?_)
    obtain ⟨h6459, x6461, rfl⟩ := hp
    have h6460 := HS.trans h6457 h6459 (by decide)
    exact m_lret F hQ e_X10_takes_65 (⟨L6436, okL6436, h6460, _, rfl⟩)
set_option maxRecDepth 20000 in
theorem q_X10_take (l : Launch) (V : VX) (c T Z u h : Nat) (P : NP) (L : Nat → LQ) (N : Nat) (σ : Mem) (x901 : Int32) (h0 : HR V c ⟨T, Z, u, h, P, L⟩ σ) (hok : OKL P.n0 L) (hP : OKP P) (hp0 : u ≤ 20) (hp1 : P.kk = P.n0) : Ct l V yX10_take cX10_take 2 (some .long) 4 0 0 N σ [.ref c, .int x901] (fun r τ => ∃ u9, u9 ≤ 20 ∧ ∃ L9, OKL P.n0 L9 ∧ HS V c (⟨T, Z, u9, h, P, L9⟩ : RG) [0, 2, 3, 4, 5, 6, 7, 8, 9, 10, 11, 12, 13, 14, 15, 16, 18, 19, 20, 22] σ τ ∧ ∃ x : Int64, r = some (.long x)) := by
  refine Ct.of (by decide) (Nat.le_of_ble_eq_true rfl) [(0, .ref c), (1, .int x901)] rfl (fun X hX F hQ => ?_)
  have hPP := hP
  unfold OKP at hPP
  have h1 : HS V c ⟨T, Z, u, h, P, L⟩ [0, 2, 3, 4, 5, 6, 7, 8, 9, 10, 11, 12, 13, 14, 15, 16, 18, 19, 20, 22] σ σ := HS.start h0
  refine m_aload_n F rfl e_X10_take_0 ?_
  refine m_iconst F (v := 0) (by decide) e_X10_take_1 ?_
  refine r_put F (g' := (⟨T, Z, u, h, P, L⟩ : RG)) e_X10_take_2 fp_X10_91 h1 (by decide) ⟨_, rfl⟩ (fun _ _ _ _ q => q) (fun _ _ _ q => q) rfl rfl (by decide) (fun σ6462 h6463 g6464 g6465 f6466 => ?_)
  refine m_aload_n F rfl e_X10_take_5 ?_
  refine m_iload_n F rfl e_X10_take_6 ?_
  refine r_callV F e_X10_take_7 (q_X10_canTake (x_l X) V c T Z u h P L _ _ x901 h6463.1 (hok.b) hP ) cb_X10_canTake ml_X10_313 im_X10_canTake se_X10_canTake h6463 rfl rfl (rest := []) rfl (Nat.le_of_ble_eq_true rfl) ⟨Nat.le_of_ble_eq_true rfl, Nat.le_of_ble_eq_true rfl⟩ ⟨Nat.le_of_ble_eq_true rfl, Nat.le_of_ble_eq_true rfl⟩ (fun r σ6467 hp => ?_)
  obtain ⟨h6468, c6470⟩ := hp
  have h6469 := HS.trans h6463 h6468 (by decide)
  rcases c6470 with rfl | ⟨n6471, n6472, n6473, h6474, h6475, h6476, h6477, h6478, f6479, f6480, e6481, rfl⟩
  · refine m_if_ne F e_X10_take_10 (fun q => absurd (by decide) q) (fun _ => ?_)
    refine m_ldc2 F kc_X10_299 e_X10_take_13 ?_
    exact m_lret F hQ e_X10_take_16 (⟨u, by omega, L, hok, h6469, _, rfl⟩)
  · subst e6481
    refine m_if_ne F e_X10_take_10 (fun _ => ?_) (fun q => absurd q (by decide))
    refine m_aload_n F rfl e_X10_take_17 ?_
    refine r_callV F e_X10_take_18 (q_X10_remembers (x_l X) V c T Z u h P L _ _  h6469.1 (hok) hP (by first | omega | assumption | decide) (by first | omega | assumption | decide)) cb_X10_remembers ml_X10_286 im_X10_remembers se_X10_remembers h6469 rfl rfl (rest := []) rfl (Nat.le_of_ble_eq_true rfl) ⟨Nat.le_of_ble_eq_true rfl, Nat.le_of_ble_eq_true rfl⟩ ⟨Nat.le_of_ble_eq_true rfl, Nat.le_of_ble_eq_true rfl⟩ (fun r σ6482 hp => ?_)
    obtain ⟨u6485, hu6485, h6483, rfl⟩ := hp
    have h6484 := HS.trans h6469 h6483 (by decide)
    refine m_aload_n F rfl e_X10_take_21 ?_
    refine m_iload_n F rfl e_X10_take_22 ?_
    refine r_callV F e_X10_take_23 (q_X10_takes (x_l X) V c T Z u6485 h P L _ _ n6471 n6472 n6473 h6484.1 hok hP (by omega) (by omega) (by omega) (by omega) (by omega) ((elI_eq (h6483.2 (c + 13) (by rw [kC_at (k := 13) (by decide)]; decide))).trans f6479) ((elI_eq (h6483.2 (c + 14) (by rw [kC_at (k := 14) (by decide)]; decide))).trans f6480)) cb_X10_takes ml_X10_316 im_X10_takes se_X10_takes h6484 rfl rfl (rest := []) rfl (Nat.le_of_ble_eq_true rfl) ⟨Nat.le_of_ble_eq_true rfl, Nat.le_of_ble_eq_true rfl⟩ ⟨Nat.le_of_ble_eq_true rfl, Nat.le_of_ble_eq_true rfl⟩ (fun r σ6486 hp => ?_)
    obtain ⟨L6490, okL6490, h6487, x6489, rfl⟩ := hp
    have h6488 := HS.trans h6484 h6487 (by decide)
    exact m_lret F hQ e_X10_take_26 (⟨u6485, by omega, L6490, okL6490, h6488, _, rfl⟩)
set_option maxRecDepth 20000 in
theorem q_X10_ifTaken (l : Launch) (V : VX) (c T Z u h : Nat) (P : NP) (L : Nat → LQ) (N : Nat) (σ : Mem) (x901 : Int32) (h0 : HR V c ⟨T, Z, u, h, P, L⟩ σ) (hok : OKL P.n0 L) (hP : OKP P)  : Ct l V yX10_ifTaken cX10_ifTaken 4 (some .long) 4 0 0 N σ [.ref c, .int x901] (fun r τ => HS V c (⟨T, Z, u, h, P, L⟩ : RG) [0, 2, 3, 4, 5, 6, 7, 8, 9, 10, 11, 12, 13, 14, 15, 16, 19, 20, 21, 22] σ τ ∧ ∃ x : Int64, r = some (.long x)) := by
  refine Ct.of (by decide) (Nat.le_of_ble_eq_true rfl) [(0, .ref c), (1, .int x901)] rfl (fun X hX F hQ => ?_)
  have hPP := hP
  unfold OKP at hPP
  have h1 : HS V c ⟨T, Z, u, h, P, L⟩ [0, 2, 3, 4, 5, 6, 7, 8, 9, 10, 11, 12, 13, 14, 15, 16, 19, 20, 21, 22] σ σ := HS.start h0
  refine m_aload_n F rfl e_X10_ifTaken_0 ?_
  refine m_iconst F (v := 0) (by decide) e_X10_ifTaken_1 ?_
  refine r_put F (g' := (⟨T, Z, u, h, P, L⟩ : RG)) e_X10_ifTaken_2 fp_X10_91 h1 (by decide) ⟨_, rfl⟩ (fun _ _ _ _ q => q) (fun _ _ _ q => q) rfl rfl (by decide) (fun σ6491 h6492 g6493 g6494 f6495 => ?_)
  refine m_aload_n F rfl e_X10_ifTaken_5 ?_
  refine m_iload_n F rfl e_X10_ifTaken_6 ?_
  refine r_callV F e_X10_ifTaken_7 (q_X10_canTake (x_l X) V c T Z u h P L _ _ x901 h6492.1 (hok.b) hP ) cb_X10_canTake ml_X10_313 im_X10_canTake se_X10_canTake h6492 rfl rfl (rest := []) rfl (Nat.le_of_ble_eq_true rfl) ⟨Nat.le_of_ble_eq_true rfl, Nat.le_of_ble_eq_true rfl⟩ ⟨Nat.le_of_ble_eq_true rfl, Nat.le_of_ble_eq_true rfl⟩ (fun r σ6496 hp => ?_)
  obtain ⟨h6497, c6499⟩ := hp
  have h6498 := HS.trans h6492 h6497 (by decide)
  rcases c6499 with rfl | ⟨n6500, n6501, n6502, h6503, h6504, h6505, h6506, h6507, f6508, f6509, e6510, rfl⟩
  · refine m_if_ne F e_X10_ifTaken_10 (fun q => absurd (by decide) q) (fun _ => ?_)
    refine m_ldc2 F kc_X10_299 e_X10_ifTaken_13 ?_
    exact m_lret F hQ e_X10_ifTaken_16 (⟨h6498, _, rfl⟩)
  · subst e6510
    refine m_if_ne F e_X10_ifTaken_10 (fun _ => ?_) (fun q => absurd q (by decide))
    refine m_aload_n F rfl e_X10_ifTaken_17 ?_
    refine r_get F e_X10_ifTaken_18 fl_X10_59 h6498 rfl (fun v hv f6511 => ?_)
    obtain rfl : v = .ref (c + 16) := hv
    refine m_iconst F (v := 0) (by decide) e_X10_ifTaken_21 ?_
    refine m_aload_n F rfl e_X10_ifTaken_22 ?_
    refine r_get F e_X10_ifTaken_23 fl_X10_63 h6498 rfl (fun v hv f6512 => ?_)
    obtain rfl : v = .ref (c + 17) := hv
    refine m_iconst F (v := 0) (by decide) e_X10_ifTaken_26 ?_
    obtain ⟨f6513, e6514, te6514⟩ : ∃ f, σ6496 (c + 16) = some (aJ V 1113 f) ∧ ∀ i, i < 1113 → EJ L i (f i) := h6498.1.cell (k := 16) (by decide)
    obtain ⟨g6515, e6516⟩ : ∃ f, σ6496 (c + 17) = some (aJ V 1113 f) := h6498.1.cell (k := 17) (by decide)
    refine m_callS F e_X10_ifTaken_27 (q_copies (x_l X) V _ _ (c + 16) (c + 17) 1113 1113 0 0 f6513 g6515 e6514 e6516 (by omega) (by omega) (by omega) (by omega)) cb_X10_copies ml_X10_230 sm_X10_copies rfl (rest := []) rfl (Nat.le_of_ble_eq_true rfl) ⟨Nat.le_of_ble_eq_true rfl, Nat.le_of_ble_eq_true rfl⟩ ⟨Nat.le_of_ble_eq_true rfl, Nat.le_of_ble_eq_true rfl⟩ (k' := 0) (z' := 0) (N' := N) rfl rfl rfl (fun r σ6517 hp => ?_)
    obtain ⟨p6518, rfl⟩ := hp
    have h6519 := HS.cp (k := 17) (g' := (⟨T, Z, u, h, P, L⟩ : RG)) h6498 p6518 (by decide) (by decide) ⟨_, rfl⟩ (fun _ _ _ q => q)
    have ga6520 : GB V c 17 1113 0 L σ6517 := ⟨_, p6518.1, fun i hi => by rw [show 0 + i = i from Nat.zero_add i, cpy_at0 hi, Nat.zero_add]; exact te6514 i hi⟩
    refine m_aload_n F rfl e_X10_ifTaken_30 ?_
    refine m_iload_n F rfl e_X10_ifTaken_31 ?_
    refine r_callV F e_X10_ifTaken_32 (q_X10_takes (x_l X) V c T Z u h P L _ _ n6500 n6501 n6502 h6519.1 hok hP (by omega) (by omega) (by omega) (by omega) (by omega) ((elI_eq (p6518.2 _ (by omega))).trans f6508) ((elI_eq (p6518.2 _ (by omega))).trans f6509)) cb_X10_takes ml_X10_316 im_X10_takes se_X10_takes h6519 rfl rfl (rest := []) rfl (Nat.le_of_ble_eq_true rfl) ⟨Nat.le_of_ble_eq_true rfl, Nat.le_of_ble_eq_true rfl⟩ ⟨Nat.le_of_ble_eq_true rfl, Nat.le_of_ble_eq_true rfl⟩ (fun r σ6521 hp => ?_)
    obtain ⟨L6525, okL6525, h6522, x6524, rfl⟩ := hp
    have h6523 := HS.trans h6519 h6522 (by decide)
    have ga6526 := ga6520.of (h6522.2 (c + 17) (by rw [kC_at (k := 17) (by decide)]; decide))
    refine m_lstore_n F (lv' := [(2, .long x6524), (0, .ref c), (1, .int (nI n6500))]) e_X10_ifTaken_35 (by decide) rfl ?_
    refine m_aload_n F rfl e_X10_ifTaken_36 ?_
    refine r_callV F e_X10_ifTaken_37 (q_X10_back1 (x_l X) V c T Z u h P L6525 _ _ L h6523.1 (okL6525.b) hP ga6526) cb_X10_back1 ml_X10_332 im_X10_back1 se_X10_back1 h6523 rfl rfl (rest := []) rfl (Nat.le_of_ble_eq_true rfl) ⟨Nat.le_of_ble_eq_true rfl, Nat.le_of_ble_eq_true rfl⟩ ⟨Nat.le_of_ble_eq_true rfl, Nat.le_of_ble_eq_true rfl⟩ (fun r σ6527 hp => ?_)
    obtain ⟨h6528, rfl⟩ := hp
    have h6529 := HS.trans h6523 h6528 (by decide)
    have ga6530 := ga6526.of (h6528.2 (c + 17) (by rw [kC_at (k := 17) (by decide)]; decide))
    refine m_lload_n F rfl e_X10_ifTaken_40 ?_
    exact m_lret F hQ e_X10_ifTaken_41 (⟨h6529, _, rfl⟩)
set_option maxRecDepth 20000 in
theorem lq_X10_takesAll_2 {V : VX} {X : MX} {N : Nat} {σ : Mem} {c T Z u h : Nat} {P : NP} {L : Nat → LQ}  {n901 : Nat} {x902 : Int32} (F : Fx V X yX10_takesAll cX10_takesAll 4 (some .boolean) (rmd 4 0 0)) (hQ : Rt V X 0 0 N (fun r τ => ∃ L9, OKL P.n0 L9 ∧ HS V c (⟨T, Z, u, h, P, L9⟩ : RG) [0, 1, 2, 3, 4, 5, 6, 7, 8, 9, 10, 11, 12, 13, 14, 15, 16, 18, 19, 20, 21, 22] σ τ ∧ ∃ n : Nat, n ≤ 1 ∧ r = some (.int (nI n)))) (hok : OKL P.n0 L) (hP : OKP P) (hn901 : n901 ≤ 3)  : ∀ (fuel : Nat) (i : Nat) (L1 : Nat → LQ) (τ : Mem), HS V c (⟨T, Z, u, h, P, L1⟩ : RG) [0, 1, 2, 3, 4, 5, 6, 7, 8, 9, 10, 11, 12, 13, 14, 15, 16, 18, 19, 20, 21, 22] σ τ → OKL P.n0 L1 → i ≤ 4 → 4 - i < fuel → Wm V X 4 N τ 0 0 2 [(0, .ref c), (1, .int (nI n901)), (2, .int x902), (3, .int (nI i))] [] := by
  intro fuel
  induction fuel with
  | zero => intros; rename_i hm; exact absurd hm (Nat.not_lt_zero _)
  | succ fuel ih =>
    intro i L1 τ h1 hok1 hi hm
    have hPP := hP
    unfold OKP at hPP
    refine m_iload_n F rfl e_X10_takesAll_2 ?_
    refine m_aload_n F rfl e_X10_takesAll_3 ?_
    refine r_get F e_X10_takesAll_4 fl_X10_13 h1 rfl (fun v hv f6531 => ?_)
    obtain rfl : v = .ref (c + 2) := hv
    refine m_iconst F (v := 3) (by decide) e_X10_takesAll_7 ?_
    refine r_iald F (len := 10) (j := 3) e_X10_takesAll_8 h1 (fun _ h => h) (by decide) (by decide) (by unfold vp_in; decide) (fun x6532 h6533 f6534 => ?_)
    obtain ⟨n6535, hn6535, rfl⟩ := h6533.2.2.2.2.1 rfl
    refine m_icmp_ge F e_X10_takesAll_9 (fun q9 => ?_) (fun q9 => ?_)
    · have c9 : i ≥ n6535 := (nI_leI (a := n6535) (b := i) (by omega) (by omega)).mp q9
      refine m_iconst F (v := 1) (by decide) e_X10_takesAll_55 ?_
      exact m_zret F hQ e_X10_takesAll_56 (by decide) (⟨L1, hok1, h1, 1, by omega, rfl⟩)
    · have c9 : i < n6535 := by have hh := mt (nI_leI (a := n6535) (b := i) (by omega) (by omega)).mpr q9; omega
      refine m_iload_n F rfl e_X10_takesAll_12 ?_
      refine m_iload_n F rfl e_X10_takesAll_13 ?_
      refine m_ishr F e_X10_takesAll_14 ?_
      refine Wm.top (fun x6536 _ => ?_)
      refine m_iconst F (v := 1) (by decide) e_X10_takesAll_15 ?_
      refine m_iand F e_X10_takesAll_16 ?_
      refine Wm.top (fun x6537 _ => ?_)
      refine m_if_ne F e_X10_takesAll_17 (fun q17 => ?_) (fun q17 => ?_)
      · refine m_aload_n F rfl e_X10_takesAll_23 ?_
        refine r_get F e_X10_takesAll_24 fl_X10_46 h1 rfl (fun v hv f6538 => ?_)
        obtain rfl : v = .ref (c + 13) := hv
        refine m_iload_n F rfl e_X10_takesAll_27 ?_
        refine r_iald F (len := 8) (j := i) e_X10_takesAll_28 h1 (fun _ h => h) (by decide) (nI_clamp (by omega)) (vp_in_nI (by omega) (by decide)) (fun x6539 h6540 f6541 => ?_)
        obtain ⟨n6542, hn6542, rfl⟩ := h6540
        refine m_iload_n F rfl e_X10_takesAll_29 ?_
        refine m_icmp_ne F e_X10_takesAll_30 (fun q30 => ?_) (fun q30 => ?_)
        · have c30 : n6542 ≠ n901 := by have hh := mt (nI_eq (a := n6542) (b := n901) (by omega) (by omega)).mpr q30; omega
          refine m_iconst F (v := 0) (by decide) e_X10_takesAll_41 ?_
          exact m_zret F hQ e_X10_takesAll_42 (by decide) (⟨L1, hok1, h1, 0, by omega, rfl⟩)
        · have c30 : n6542 = n901 := (nI_eq (a := n6542) (b := n901) (by omega) (by omega)).mp q30
          refine m_aload_n F rfl e_X10_takesAll_33 ?_
          refine m_iload_n F rfl e_X10_takesAll_34 ?_
          refine r_callV F e_X10_takesAll_35 (q_X10_canTake (x_l X) V c T Z u h P L1 _ _ (nI i) h1.1 (hok1.b) hP ) cb_X10_canTake ml_X10_313 im_X10_canTake se_X10_canTake h1 rfl rfl (rest := []) rfl (Nat.le_of_ble_eq_true rfl) ⟨Nat.le_of_ble_eq_true rfl, Nat.le_of_ble_eq_true rfl⟩ ⟨Nat.le_of_ble_eq_true rfl, Nat.le_of_ble_eq_true rfl⟩ (fun r σ6543 hp => ?_)
          obtain ⟨h6544, c6546⟩ := hp
          have h6545 := HS.trans h1 h6544 (by decide)
          rcases c6546 with rfl | ⟨n6547, n6548, n6549, h6550, h6551, h6552, h6553, h6554, f6555, f6556, e6557, rfl⟩
          · refine m_if_ne F e_X10_takesAll_38 (fun q => absurd (by decide) q) (fun _ => ?_)
            refine m_iconst F (v := 0) (by decide) e_X10_takesAll_41 ?_
            exact m_zret F hQ e_X10_takesAll_42 (by decide) (⟨L1, hok1, h6545, 0, by omega, rfl⟩)
          · have ge6557 := nI_inj (by omega) (by omega) e6557
            subst ge6557
            refine m_if_ne F e_X10_takesAll_38 (fun _ => ?_) (fun q => absurd q (by decide))
            refine m_aload_n F rfl e_X10_takesAll_43 ?_
            refine m_iload_n F rfl e_X10_takesAll_44 ?_
            refine r_callV F e_X10_takesAll_45 (q_X10_takes (x_l X) V c T Z u h P L1 _ _ i n6548 n6549 h6545.1 hok1 hP (by omega) (by omega) (by omega) (by omega) (by omega) (f6555) (f6556)) cb_X10_takes ml_X10_316 im_X10_takes se_X10_takes h6545 rfl rfl (rest := []) rfl (Nat.le_of_ble_eq_true rfl) ⟨Nat.le_of_ble_eq_true rfl, Nat.le_of_ble_eq_true rfl⟩ ⟨Nat.le_of_ble_eq_true rfl, Nat.le_of_ble_eq_true rfl⟩ (fun r σ6558 hp => ?_)
            obtain ⟨L6562, okL6562, h6559, x6561, rfl⟩ := hp
            have h6560 := HS.trans h6545 h6559 (by decide)
            refine m_pop2_2 F rfl e_X10_takesAll_48 ?_
            refine m_iinc F (v := nI (i + 1)) (lv' := [(3, .int (nI (i + 1))), (0, .ref c), (1, .int (nI n901)), (2, .int x902)]) e_X10_takesAll_49 rfl (nI_add i 1) (by decide) rfl ?_
            refine m_goto F e_X10_takesAll_52 ?_
            refine Wm.lvsub (lv' := [(0, .ref c), (1, .int (nI n901)), (2, .int x902), (3, .int (nI (i + 1)))]) ?_ [1, 2, 3, 0] rfl
            exact ih (i + 1) L6562 _ h6560 okL6562 (by omega) (by omega)
      · subst q17
        refine m_goto F e_X10_takesAll_20 ?_
        refine m_iinc F (v := nI (i + 1)) (lv' := [(3, .int (nI (i + 1))), (0, .ref c), (1, .int (nI n901)), (2, .int x902)]) e_X10_takesAll_49 rfl (nI_add i 1) (by decide) rfl ?_
        refine m_goto F e_X10_takesAll_52 ?_
        refine Wm.lvsub (lv' := [(0, .ref c), (1, .int (nI n901)), (2, .int x902), (3, .int (nI (i + 1)))]) ?_ [1, 2, 3, 0] rfl
        exact ih (i + 1) L1 _ h1 hok1 (by omega) (by omega)
set_option maxRecDepth 20000 in
theorem q_X10_takesAll (l : Launch) (V : VX) (c T Z u h : Nat) (P : NP) (L : Nat → LQ) (N : Nat) (σ : Mem) (n901 : Nat) (x902 : Int32) (h0 : HR V c ⟨T, Z, u, h, P, L⟩ σ) (hok : OKL P.n0 L) (hP : OKP P) (hn901 : n901 ≤ 3) : Ct l V yX10_takesAll cX10_takesAll 4 (some .boolean) 4 0 0 N σ [.ref c, .int (nI n901), .int x902] (fun r τ => ∃ L9, OKL P.n0 L9 ∧ HS V c (⟨T, Z, u, h, P, L9⟩ : RG) [0, 1, 2, 3, 4, 5, 6, 7, 8, 9, 10, 11, 12, 13, 14, 15, 16, 18, 19, 20, 21, 22] σ τ ∧ ∃ n : Nat, n ≤ 1 ∧ r = some (.int (nI n))) := by
  refine Ct.of (by decide) (Nat.le_of_ble_eq_true rfl) [(0, .ref c), (1, .int (nI n901)), (2, .int x902)] rfl (fun X hX F hQ => ?_)
  have hPP := hP
  unfold OKP at hPP
  have h1 : HS V c ⟨T, Z, u, h, P, L⟩ [0, 1, 2, 3, 4, 5, 6, 7, 8, 9, 10, 11, 12, 13, 14, 15, 16, 18, 19, 20, 21, 22] σ σ := HS.start h0
  refine m_iconst F (v := 0) (by decide) e_X10_takesAll_0 ?_
  refine m_istore_n F (lv' := [(3, .int 0), (0, .ref c), (1, .int (nI n901)), (2, .int x902)]) e_X10_takesAll_1 (by decide) rfl ?_
  refine Wm.lvsub (lv' := [(0, .ref c), (1, .int (nI n901)), (2, .int x902), (3, .int 0)]) ?_ [1, 2, 3, 0] rfl
  exact lq_X10_takesAll_2 F hQ hok hP hn901 (4 - 0 + 1) 0 L _ h1 hok (by omega) (Nat.lt_succ_self _)
set_option maxRecDepth 20000 in
theorem lq_X10_choose_37 {V : VX} {X : MX} {N : Nat} {σ : Mem} {c T Z u h : Nat} {P : NP} {L : Nat → LQ}   (F : Fx V X yX10_choose cX10_choose 13 (some .int) (rmd 5 0 0)) (hQ : Rt V X 0 0 N (fun r τ => HS V c (⟨T, Z, u, h, P, L⟩ : RG) [0, 2, 3, 4, 5, 6, 7, 8, 9, 10, 11, 12, 13, 14, 15, 16, 19, 20, 21, 22] σ τ ∧ ∃ x : Int32, r = some (.int x))) (hok : OKL P.n0 L) (hP : OKP P)   : ∀ (fuel : Nat) (a : Nat) (b1 : Int32) (w1 : Int64) (w2 : Int64) (i : Nat) (τ : Mem), HS V c (⟨T, Z, u, h, P, L⟩ : RG) [0, 2, 3, 4, 5, 6, 7, 8, 9, 10, 11, 12, 13, 14, 15, 16, 19, 20, 21, 22] σ τ → a ≤ 3 ∧ i ≤ 16 → 16 - i < fuel → Wm V X 13 N τ 0 0 37 [(0, .ref c), (1, .int (nI a)), (2, .int b1), (3, .long w1), (5, .long w2), (7, .int (nI i))] [] := by
  intro fuel
  induction fuel with
  | zero => intros; rename_i hm; exact absurd hm (Nat.not_lt_zero _)
  | succ fuel ih =>
    intro a b1 w1 w2 i τ h1 hi hm
    have hPP := hP
    unfold OKP at hPP
    refine m_iload F rfl e_X10_choose_37 ?_
    refine m_iconst F (v := 1) (by decide) e_X10_choose_39 ?_
    refine m_aload_n F rfl e_X10_choose_40 ?_
    refine r_get F e_X10_choose_41 fl_X10_13 h1 rfl (fun v hv f6563 => ?_)
    obtain rfl : v = .ref (c + 2) := hv
    refine m_iconst F (v := 3) (by decide) e_X10_choose_44 ?_
    refine r_iald F (len := 10) (j := 3) e_X10_choose_45 h1 (fun _ h => h) (by decide) (by decide) (by unfold vp_in; decide) (fun x6564 h6565 f6566 => ?_)
    obtain ⟨n6567, hn6567, rfl⟩ := h6565.2.2.2.2.1 rfl
    obtain ⟨n6568, hn6568, en6568⟩ := shl5 (m := n6567) (by omega)
    refine m_ishl F e_X10_choose_46 ?_
    refine Wm.topE (w := nI n6568) en6568 ?_
    refine m_icmp_ge F e_X10_choose_47 (fun q47 => ?_) (fun q47 => ?_)
    · have c47 : i ≥ n6568 := (nI_leI (a := n6568) (b := i) (by omega) (by omega)).mp q47
      refine m_iload_n F rfl e_X10_choose_142 ?_
      exact m_iret F hQ e_X10_choose_143 (⟨h1, _, rfl⟩)
    · have c47 : i < n6568 := by have hh := mt (nI_leI (a := n6568) (b := i) (by omega) (by omega)).mpr q47; omega
      refine m_aload_n F rfl e_X10_choose_50 ?_
      refine r_get F e_X10_choose_51 fl_X10_59 h1 rfl (fun v hv f6569 => ?_)
      obtain rfl : v = .ref (c + 16) := hv
      refine m_iconst F (v := 0) (by decide) e_X10_choose_54 ?_
      refine m_aload_n F rfl e_X10_choose_55 ?_
      refine r_get F e_X10_choose_56 fl_X10_63 h1 rfl (fun v hv f6570 => ?_)
      obtain rfl : v = .ref (c + 17) := hv
      refine m_iconst F (v := 0) (by decide) e_X10_choose_59 ?_
      obtain ⟨f6571, e6572, te6572⟩ : ∃ f, τ (c + 16) = some (aJ V 1113 f) ∧ ∀ i, i < 1113 → EJ L i (f i) := h1.1.cell (k := 16) (by decide)
      obtain ⟨g6573, e6574⟩ : ∃ f, τ (c + 17) = some (aJ V 1113 f) := h1.1.cell (k := 17) (by decide)
      refine m_callS F e_X10_choose_60 (q_copies (x_l X) V _ _ (c + 16) (c + 17) 1113 1113 0 0 f6571 g6573 e6572 e6574 (by omega) (by omega) (by omega) (by omega)) cb_X10_copies ml_X10_230 sm_X10_copies rfl (rest := []) rfl (Nat.le_of_ble_eq_true rfl) ⟨Nat.le_of_ble_eq_true rfl, Nat.le_of_ble_eq_true rfl⟩ ⟨Nat.le_of_ble_eq_true rfl, Nat.le_of_ble_eq_true rfl⟩ (k' := 0) (z' := 0) (N' := N) rfl rfl rfl (fun r σ6575 hp => ?_)
      obtain ⟨p6576, rfl⟩ := hp
      have h6577 := HS.cp (k := 17) (g' := (⟨T, Z, u, h, P, L⟩ : RG)) h1 p6576 (by decide) (by decide) ⟨_, rfl⟩ (fun _ _ _ q => q)
      have ga6578 : GB V c 17 1113 0 L σ6575 := ⟨_, p6576.1, fun i hi => by rw [show 0 + i = i from Nat.zero_add i, cpy_at0 hi, Nat.zero_add]; exact te6572 i hi⟩
      refine m_aload_n F rfl e_X10_choose_63 ?_
      refine m_iload_n F rfl e_X10_choose_64 ?_
      refine m_iload F rfl e_X10_choose_65 ?_
      refine r_callV F e_X10_choose_67 (q_X10_takesAll (x_l X) V c T Z u h P L _ _ a (nI i) h6577.1 (hok) hP (by omega)) cb_X10_takesAll ml_X10_346 im_X10_takesAll se_X10_takesAll h6577 rfl rfl (rest := []) rfl (Nat.le_of_ble_eq_true rfl) ⟨Nat.le_of_ble_eq_true rfl, Nat.le_of_ble_eq_true rfl⟩ ⟨Nat.le_of_ble_eq_true rfl, Nat.le_of_ble_eq_true rfl⟩ (fun r σ6579 hp => ?_)
      obtain ⟨L6583, okL6583, h6580, n6582, hn6582, rfl⟩ := hp
      have h6581 := HS.trans h6577 h6580 (by decide)
      have ga6584 := ga6578.of (h6580.2 (c + 17) (by rw [kC_at (k := 17) (by decide)]; decide))
      refine m_istore F (lv' := [(8, .int (nI n6582)), (0, .ref c), (1, .int (nI a)), (2, .int b1), (3, .long w1), (5, .long w2), (7, .int (nI i))]) e_X10_choose_70 (by decide) rfl ?_
      refine m_aload_n F rfl e_X10_choose_72 ?_
      refine r_getC F e_X10_choose_73 fl_X10_59 h6581 ((fld_eq (h6580.2 c (by rw [show kC c c = 1 from kC_at (k := 0) (by decide)]; decide))).trans ((fld_eq (p6576.2 _ (by omega))).trans f6569)) ?_
      refine m_sipush F (v := 160) (by decide) e_X10_choose_76 ?_
      refine m_iload_n F rfl e_X10_choose_79 ?_
      refine m_imul F e_X10_choose_80 ?_
      refine Wm.topE (w := nI (160 * a)) (pk_mul 160 a) ?_
      refine m_bipush F (v := 6) (by decide) e_X10_choose_81 ?_
      refine m_iadd F e_X10_choose_83 ?_
      refine Wm.topE (w := nI (160 * a + 6)) (nI_add (160 * a) 6) ?_
      refine r_sld F (j := 160 * a + 6) e_X10_choose_84 h6581 (nI_clamp (by omega)) (vp_in_nI (by omega) (by decide)) (fun x6585 h6586 f6587 => ?_)
      refine m_lstore F (lv' := [(9, .long x6585), (8, .int (nI n6582)), (0, .ref c), (1, .int (nI a)), (2, .int b1), (3, .long w1), (5, .long w2), (7, .int (nI i))]) e_X10_choose_85 (by decide) rfl ?_
      refine m_aload_n F rfl e_X10_choose_87 ?_
      refine m_iload_n F rfl e_X10_choose_88 ?_
      refine r_callV F e_X10_choose_89 (q_X10_left (x_l X) V c T Z u h P L6583 _ _ a h6581.1 (okL6583.b) hP (by omega)) cb_X10_left ml_X10_257 im_X10_left se_X10_left h6581 rfl rfl (rest := []) rfl (Nat.le_of_ble_eq_true rfl) ⟨Nat.le_of_ble_eq_true rfl, Nat.le_of_ble_eq_true rfl⟩ ⟨Nat.le_of_ble_eq_true rfl, Nat.le_of_ble_eq_true rfl⟩ (fun r σ6588 hp => ?_)
      obtain ⟨h6589, x6591, rfl⟩ := hp
      have h6590 := HS.trans h6581 h6589 (by decide)
      have ga6592 := ga6584.of (h6589.2 (c + 17) (by rw [kC_at (k := 17) (by decide)]; decide))
      refine m_i2l F e_X10_choose_92 ?_
      refine Wm.topl (fun x6593 _ => ?_)
      refine m_lstore F (lv' := [(11, .long x6593), (9, .long x6585), (8, .int (nI n6582)), (0, .ref c), (1, .int (nI a)), (2, .int b1), (3, .long w1), (5, .long w2), (7, .int (nI i))]) e_X10_choose_93 (by decide) rfl ?_
      refine m_aload_n F rfl e_X10_choose_95 ?_
      refine r_callV F e_X10_choose_96 (q_X10_back1 (x_l X) V c T Z u h P L6583 _ _ L h6590.1 (okL6583.b) hP ga6592) cb_X10_back1 ml_X10_332 im_X10_back1 se_X10_back1 h6590 rfl rfl (rest := []) rfl (Nat.le_of_ble_eq_true rfl) ⟨Nat.le_of_ble_eq_true rfl, Nat.le_of_ble_eq_true rfl⟩ ⟨Nat.le_of_ble_eq_true rfl, Nat.le_of_ble_eq_true rfl⟩ (fun r σ6594 hp => ?_)
      obtain ⟨h6595, rfl⟩ := hp
      have h6596 := HS.trans h6590 h6595 (by decide)
      have ga6597 := ga6592.of (h6595.2 (c + 17) (by rw [kC_at (k := 17) (by decide)]; decide))
      refine m_iload F rfl e_X10_choose_99 ?_
      refine m_if_eq F e_X10_choose_101 (fun q101 => ?_) (fun q101 => ?_)
      · have c101 : n6582 = 0 := (nI_eq (a := n6582) (b := 0) (by omega) (by omega)).mp q101
        refine m_iinc F (v := nI (i + 1)) (lv' := [(7, .int (nI (i + 1))), (11, .long x6593), (9, .long x6585), (8, .int (nI n6582)), (0, .ref c), (1, .int (nI a)), (2, .int b1), (3, .long w1), (5, .long w2)]) e_X10_choose_136 rfl (nI_add i 1) (by decide) rfl ?_
        refine m_goto F e_X10_choose_139 ?_
        refine Wm.lvsub (lv' := [(0, .ref c), (1, .int (nI a)), (2, .int b1), (3, .long w1), (5, .long w2), (7, .int (nI (i + 1)))]) ?_ [4, 5, 6, 7, 8, 0] rfl
        exact ih a b1 w1 w2 (i + 1) _ h6596 (by omega) (by omega)
      · have c101 : n6582 ≠ 0 := by have hh := mt (nI_eq (a := n6582) (b := 0) (by omega) (by omega)).mpr q101; omega
        refine m_iload_n F rfl e_X10_choose_104 ?_
        refine m_bipush F (v := (-2)) (by decide) e_X10_choose_105 ?_
        refine m_icmp_eq F e_X10_choose_107 (fun q107 => ?_) (fun q107 => ?_)
        · subst q107
          refine m_iload F rfl e_X10_choose_126 ?_
          refine m_istore_n F (lv' := [(2, .int (nI i)), (11, .long x6593), (9, .long x6585), (8, .int (nI n6582)), (0, .ref c), (1, .int (nI a)), (3, .long w1), (5, .long w2), (7, .int (nI i))]) e_X10_choose_128 (by decide) rfl ?_
          refine m_lload F rfl e_X10_choose_129 ?_
          refine m_lstore_n F (lv' := [(3, .long x6585), (2, .int (nI i)), (11, .long x6593), (9, .long x6585), (8, .int (nI n6582)), (0, .ref c), (1, .int (nI a)), (5, .long w2), (7, .int (nI i))]) e_X10_choose_131 (by decide) rfl ?_
          refine m_lload F rfl e_X10_choose_132 ?_
          refine m_lstore F (lv' := [(5, .long x6593), (3, .long x6585), (2, .int (nI i)), (11, .long x6593), (9, .long x6585), (8, .int (nI n6582)), (0, .ref c), (1, .int (nI a)), (7, .int (nI i))]) e_X10_choose_134 (by decide) rfl ?_
          refine m_iinc F (v := nI (i + 1)) (lv' := [(7, .int (nI (i + 1))), (5, .long x6593), (3, .long x6585), (2, .int (nI i)), (11, .long x6593), (9, .long x6585), (8, .int (nI n6582)), (0, .ref c), (1, .int (nI a))]) e_X10_choose_136 rfl (nI_add i 1) (by decide) rfl ?_
          refine m_goto F e_X10_choose_139 ?_
          refine Wm.lvsub (lv' := [(0, .ref c), (1, .int (nI a)), (2, .int (nI i)), (3, .long x6585), (5, .long x6593), (7, .int (nI (i + 1)))]) ?_ [7, 8, 3, 2, 1, 0] rfl
          exact ih a (nI i) x6585 x6593 (i + 1) _ h6596 (by omega) (by omega)
        · refine m_lload F rfl e_X10_choose_110 ?_
          refine m_lload F rfl e_X10_choose_112 ?_
          refine m_lmul F e_X10_choose_114 ?_
          refine Wm.topl (fun x6598 _ => ?_)
          refine m_lload_n F rfl e_X10_choose_115 ?_
          refine m_lload F rfl e_X10_choose_116 ?_
          refine m_lmul F e_X10_choose_118 ?_
          refine Wm.topl (fun x6599 _ => ?_)
          refine m_lcmp F e_X10_choose_119 ?_
          refine Wm.top (fun x6600 _ => ?_)
          refine m_if_lt F e_X10_choose_120 (fun q120 => ?_) (fun q120 => ?_)
          · refine m_iload F rfl e_X10_choose_126 ?_
            refine m_istore_n F (lv' := [(2, .int (nI i)), (11, .long x6593), (9, .long x6585), (8, .int (nI n6582)), (0, .ref c), (1, .int (nI a)), (3, .long w1), (5, .long w2), (7, .int (nI i))]) e_X10_choose_128 (by decide) rfl ?_
            refine m_lload F rfl e_X10_choose_129 ?_
            refine m_lstore_n F (lv' := [(3, .long x6585), (2, .int (nI i)), (11, .long x6593), (9, .long x6585), (8, .int (nI n6582)), (0, .ref c), (1, .int (nI a)), (5, .long w2), (7, .int (nI i))]) e_X10_choose_131 (by decide) rfl ?_
            refine m_lload F rfl e_X10_choose_132 ?_
            refine m_lstore F (lv' := [(5, .long x6593), (3, .long x6585), (2, .int (nI i)), (11, .long x6593), (9, .long x6585), (8, .int (nI n6582)), (0, .ref c), (1, .int (nI a)), (7, .int (nI i))]) e_X10_choose_134 (by decide) rfl ?_
            refine m_iinc F (v := nI (i + 1)) (lv' := [(7, .int (nI (i + 1))), (5, .long x6593), (3, .long x6585), (2, .int (nI i)), (11, .long x6593), (9, .long x6585), (8, .int (nI n6582)), (0, .ref c), (1, .int (nI a))]) e_X10_choose_136 rfl (nI_add i 1) (by decide) rfl ?_
            refine m_goto F e_X10_choose_139 ?_
            refine Wm.lvsub (lv' := [(0, .ref c), (1, .int (nI a)), (2, .int (nI i)), (3, .long x6585), (5, .long x6593), (7, .int (nI (i + 1)))]) ?_ [7, 8, 3, 2, 1, 0] rfl
            exact ih a (nI i) x6585 x6593 (i + 1) _ h6596 (by omega) (by omega)
          · obtain ⟨n6601, hn6601, rfl⟩ := nI_nn (x := x6600) (fun e => q120 (Int32.lt_of_lt_of_le e (by decide)))
            have c120 : n6601 ≥ 0 := by have hh := mt (nI_ltI (a := n6601) (b := 0) (by omega) (by omega)).mpr q120; omega
            refine m_goto F e_X10_choose_123 ?_
            refine m_iinc F (v := nI (i + 1)) (lv' := [(7, .int (nI (i + 1))), (11, .long x6593), (9, .long x6585), (8, .int (nI n6582)), (0, .ref c), (1, .int (nI a)), (2, .int b1), (3, .long w1), (5, .long w2)]) e_X10_choose_136 rfl (nI_add i 1) (by decide) rfl ?_
            refine m_goto F e_X10_choose_139 ?_
            refine Wm.lvsub (lv' := [(0, .ref c), (1, .int (nI a)), (2, .int b1), (3, .long w1), (5, .long w2), (7, .int (nI (i + 1)))]) ?_ [4, 5, 6, 7, 8, 0] rfl
            exact ih a b1 w1 w2 (i + 1) _ h6596 (by omega) (by omega)
set_option maxRecDepth 20000 in
theorem q_X10_choose (l : Launch) (V : VX) (c T Z u h : Nat) (P : NP) (L : Nat → LQ) (N : Nat) (σ : Mem) (x901 : Int32) (h0 : HR V c ⟨T, Z, u, h, P, L⟩ σ) (hok : OKL P.n0 L) (hP : OKP P)  : Ct l V yX10_choose cX10_choose 13 (some .int) 5 0 0 N σ [.ref c, .int x901] (fun r τ => HS V c (⟨T, Z, u, h, P, L⟩ : RG) [0, 2, 3, 4, 5, 6, 7, 8, 9, 10, 11, 12, 13, 14, 15, 16, 19, 20, 21, 22] σ τ ∧ ∃ x : Int32, r = some (.int x)) := by
  refine Ct.of (by decide) (Nat.le_of_ble_eq_true rfl) [(0, .ref c), (1, .int x901)] rfl (fun X hX F hQ => ?_)
  have hPP := hP
  unfold OKP at hPP
  have h1 : HS V c ⟨T, Z, u, h, P, L⟩ [0, 2, 3, 4, 5, 6, 7, 8, 9, 10, 11, 12, 13, 14, 15, 16, 19, 20, 21, 22] σ σ := HS.start h0
  refine m_aload_n F rfl e_X10_choose_0 ?_
  refine m_iconst F (v := 0) (by decide) e_X10_choose_1 ?_
  refine r_put F (g' := (⟨T, Z, u, h, P, L⟩ : RG)) e_X10_choose_2 fp_X10_91 h1 (by decide) ⟨_, rfl⟩ (fun _ _ _ _ q => q) (fun _ _ _ q => q) rfl rfl (by decide) (fun σ6602 h6603 g6604 g6605 f6606 => ?_)
  refine m_aload_n F rfl e_X10_choose_5 ?_
  refine m_iload_n F rfl e_X10_choose_6 ?_
  refine r_callV F e_X10_choose_7 (q_X10_isLease (x_l X) V c T Z u h P L _ _ x901 h6603.1 (hok.b) hP ) cb_X10_isLease ml_X10_292 im_X10_isLease se_X10_isLease h6603 rfl rfl (rest := []) rfl (Nat.le_of_ble_eq_true rfl) ⟨Nat.le_of_ble_eq_true rfl, Nat.le_of_ble_eq_true rfl⟩ ⟨Nat.le_of_ble_eq_true rfl, Nat.le_of_ble_eq_true rfl⟩ (fun r σ6607 hp => ?_)
  obtain ⟨h6608, c6610⟩ := hp
  have h6609 := HS.trans h6603 h6608 (by decide)
  rcases c6610 with rfl | ⟨n6611, h6612, e6613, rfl⟩
  · refine m_if_ne F e_X10_choose_10 (fun q => absurd (by decide) q) (fun _ => ?_)
    refine m_iconst F (v := (-1)) (by decide) e_X10_choose_13 ?_
    exact m_iret F hQ e_X10_choose_14 (⟨h6609, _, rfl⟩)
  · subst e6613
    refine m_if_ne F e_X10_choose_10 (fun _ => ?_) (fun q => absurd q (by decide))
    refine m_aload_n F rfl e_X10_choose_15 ?_
    refine m_iload_n F rfl e_X10_choose_16 ?_
    refine r_callV F e_X10_choose_17 (q_X10_isOn (x_l X) V c T Z u h P L _ _ n6611 h6609.1 (hok.b) hP (by omega)) cb_X10_isOn ml_X10_267 im_X10_isOn se_X10_isOn h6609 rfl rfl (rest := []) rfl (Nat.le_of_ble_eq_true rfl) ⟨Nat.le_of_ble_eq_true rfl, Nat.le_of_ble_eq_true rfl⟩ ⟨Nat.le_of_ble_eq_true rfl, Nat.le_of_ble_eq_true rfl⟩ (fun r σ6614 hp => ?_)
    obtain ⟨h6615, c6617⟩ := hp
    have h6616 := HS.trans h6609 h6615 (by decide)
    rcases c6617 with ⟨g6618, rfl⟩ | ⟨g6618, rfl⟩
    · refine m_if_ne F e_X10_choose_20 (fun q => absurd (by decide) q) (fun _ => ?_)
      refine m_bipush F (v := (-2)) (by decide) e_X10_choose_23 ?_
      exact m_iret F hQ e_X10_choose_25 (⟨h6616, _, rfl⟩)
    · refine m_if_ne F e_X10_choose_20 (fun _ => ?_) (fun q => absurd q (by decide))
      refine m_bipush F (v := (-2)) (by decide) e_X10_choose_26 ?_
      refine m_istore_n F (lv' := [(2, .int (-2)), (0, .ref c), (1, .int (nI n6611))]) e_X10_choose_28 (by decide) rfl ?_
      refine m_lconst F (v := 0) (by decide) e_X10_choose_29 ?_
      refine m_lstore_n F (lv' := [(3, .long 0), (2, .int (-2)), (0, .ref c), (1, .int (nI n6611))]) e_X10_choose_30 (by decide) rfl ?_
      refine m_lconst F (v := 1) (by decide) e_X10_choose_31 ?_
      refine m_lstore F (lv' := [(5, .long 1), (3, .long 0), (2, .int (-2)), (0, .ref c), (1, .int (nI n6611))]) e_X10_choose_32 (by decide) rfl ?_
      refine m_iconst F (v := 0) (by decide) e_X10_choose_34 ?_
      refine m_istore F (lv' := [(7, .int 0), (5, .long 1), (3, .long 0), (2, .int (-2)), (0, .ref c), (1, .int (nI n6611))]) e_X10_choose_35 (by decide) rfl ?_
      refine Wm.lvsub (lv' := [(0, .ref c), (1, .int (nI n6611)), (2, .int (-2)), (3, .long 0), (5, .long 1), (7, .int 0)]) ?_ [4, 5, 3, 2, 1, 0] rfl
      exact lq_X10_choose_37 F hQ hok hP  (16 - 0 + 1) n6611 (-2) 0 1 0 _ h6616 (by omega) (Nat.lt_succ_self _)
set_option maxRecDepth 20000 in
theorem q_X10_gives (l : Launch) (V : VX) (c T Z u h : Nat) (P : NP) (L : Nat → LQ) (N : Nat) (σ : Mem) (n901 : Nat) (x902 : Int32) (x903 : Int64) (x904 : Int64) (h0 : HR V c ⟨T, Z, u, h, P, L⟩ σ) (hob : OKB L) (hP : OKP P) (hn901 : n901 ≤ 3) : Ct l V yX10_gives cX10_gives 8 none 1 0 0 N σ [.ref c, .int (nI n901), .int x902, .long x903, .long x904] (fun r τ => HS V c (⟨T, Z, u, h, P, L⟩ : RG) [0, 1, 2, 3, 4, 5, 6, 7, 8, 9, 10, 11, 12, 13, 14, 15, 16, 18, 19, 20, 21, 22] σ τ ∧ r = none) := by
  refine Ct.of (by decide) (Nat.le_of_ble_eq_true rfl) [(0, .ref c), (1, .int (nI n901)), (2, .int x902), (3, .long x903), (5, .long x904)] rfl (fun X hX F hQ => ?_)
  have hPP := hP
  unfold OKP at hPP
  have h1 : HS V c ⟨T, Z, u, h, P, L⟩ [0, 1, 2, 3, 4, 5, 6, 7, 8, 9, 10, 11, 12, 13, 14, 15, 16, 18, 19, 20, 21, 22] σ σ := HS.start h0
  refine m_sipush F (v := 160) (by decide) e_X10_gives_0 ?_
  refine m_iload_n F rfl e_X10_gives_3 ?_
  refine m_imul F e_X10_gives_4 ?_
  refine Wm.topE (w := nI (160 * n901)) (pk_mul 160 n901) ?_
  refine m_istore F (lv' := [(7, .int (nI (160 * n901))), (0, .ref c), (1, .int (nI n901)), (2, .int x902), (3, .long x903), (5, .long x904)]) e_X10_gives_5 (by decide) rfl ?_
  refine m_aload_n F rfl e_X10_gives_7 ?_
  refine r_get F e_X10_gives_8 fl_X10_59 h1 rfl (fun v hv f6619 => ?_)
  obtain rfl : v = .ref (c + 16) := hv
  refine m_iload F rfl e_X10_gives_11 ?_
  refine m_bipush F (v := 6) (by decide) e_X10_gives_13 ?_
  refine m_iadd F e_X10_gives_15 ?_
  refine Wm.topE (w := nI (160 * n901 + 6)) (nI_add (160 * n901) 6) ?_
  refine m_dup2_11 F rfl rfl e_X10_gives_16 ?_
  refine r_sld F (j := 160 * n901 + 6) e_X10_gives_17 h1 (nI_clamp (by omega)) (vp_in_nI (by omega) (by decide)) (fun x6620 h6621 f6622 => ?_)
  refine m_lload_n F rfl e_X10_gives_18 ?_
  refine m_lsub F e_X10_gives_19 ?_
  refine Wm.topl (fun x6623 _ => ?_)
  refine r_sst F (g' := (⟨T, Z, u, h, P, L⟩ : RG)) (j := 160 * n901 + 6) e_X10_gives_20 h1 (by decide) (nI_clamp (by omega)) (vp_in_nI (by omega) (by decide)) (fun f q => EJ_same (EJ_lw (l := n901) (r := 6) (by omega) (by omega) (by omega)) q) (fun _ _ _ q => q) (fun σ6624 h6625 g6626 => ?_)
  refine m_aload_n F rfl e_X10_gives_21 ?_
  refine r_getC F e_X10_gives_22 fl_X10_59 h6625 ((fld_eq (g6626 _ (by omega))).trans f6619) ?_
  refine m_iload F rfl e_X10_gives_25 ?_
  refine m_bipush F (v := 7) (by decide) e_X10_gives_27 ?_
  refine m_iadd F e_X10_gives_29 ?_
  refine Wm.topE (w := nI (160 * n901 + 7)) (nI_add (160 * n901) 7) ?_
  refine m_dup2_11 F rfl rfl e_X10_gives_30 ?_
  refine r_sld F (j := 160 * n901 + 7) e_X10_gives_31 h6625 (nI_clamp (by omega)) (vp_in_nI (by omega) (by decide)) (fun x6627 h6628 f6629 => ?_)
  refine m_lload F rfl e_X10_gives_32 ?_
  refine m_lsub F e_X10_gives_34 ?_
  refine Wm.topl (fun x6630 _ => ?_)
  refine r_sst F (g' := (⟨T, Z, u, h, P, L⟩ : RG)) (j := 160 * n901 + 7) e_X10_gives_35 h6625 (by decide) (nI_clamp (by omega)) (vp_in_nI (by omega) (by decide)) (fun f q => EJ_same (EJ_lw (l := n901) (r := 7) (by omega) (by omega) (by omega)) q) (fun _ _ _ q => q) (fun σ6631 h6632 g6633 => ?_)
  refine m_aload_n F rfl e_X10_gives_36 ?_
  refine r_getC F e_X10_gives_37 fl_X10_59 h6632 ((fld_eq (g6633 _ (by omega))).trans ((fld_eq (g6626 _ (by omega))).trans f6619)) ?_
  refine m_iload F rfl e_X10_gives_40 ?_
  refine m_bipush F (v := 12) (by decide) e_X10_gives_42 ?_
  refine m_iadd F e_X10_gives_44 ?_
  refine Wm.topE (w := nI (160 * n901 + 12)) (nI_add (160 * n901) 12) ?_
  refine m_dup2_11 F rfl rfl e_X10_gives_45 ?_
  refine r_sld F (j := 160 * n901 + 12) e_X10_gives_46 h6632 (nI_clamp (by omega)) (vp_in_nI (by omega) (by decide)) (fun x6634 h6635 f6636 => ?_)
  refine m_lload_n F rfl e_X10_gives_47 ?_
  refine m_ladd F e_X10_gives_48 ?_
  refine Wm.topl (fun x6637 _ => ?_)
  refine r_sst F (g' := (⟨T, Z, u, h, P, L⟩ : RG)) (j := 160 * n901 + 12) e_X10_gives_49 h6632 (by decide) (nI_clamp (by omega)) (vp_in_nI (by omega) (by decide)) (fun f q => EJ_same (EJ_lw (l := n901) (r := 12) (by omega) (by omega) (by omega)) q) (fun _ _ _ q => q) (fun σ6638 h6639 g6640 => ?_)
  refine m_aload_n F rfl e_X10_gives_50 ?_
  refine m_iload_n F rfl e_X10_gives_51 ?_
  refine m_iload_n F rfl e_X10_gives_52 ?_
  refine m_lconst F (v := 0) (by decide) e_X10_gives_53 ?_
  refine m_lload_n F rfl e_X10_gives_54 ?_
  refine m_lload F rfl e_X10_gives_55 ?_
  refine m_lneg F e_X10_gives_57 ?_
  refine Wm.topl (fun x6641 _ => ?_)
  refine m_lconst F (v := 0) (by decide) e_X10_gives_58 ?_
  refine m_lconst F (v := 0) (by decide) e_X10_gives_59 ?_
  refine m_lload F rfl e_X10_gives_60 ?_
  refine m_lload_n F rfl e_X10_gives_62 ?_
  refine m_lsub F e_X10_gives_63 ?_
  refine Wm.topl (fun x6642 _ => ?_)
  refine r_callV F e_X10_gives_64 (q_X10_entry (x_l X) V c T Z u h P L _ _ x902 (nI n901) 0 x903 x6641 0 0 x6642 h6639.1 (hob) hP ) cb_X10_entry ml_X10_253 im_X10_entry se_X10_entry h6639 rfl rfl (rest := []) rfl (Nat.le_of_ble_eq_true rfl) ⟨Nat.le_of_ble_eq_true rfl, Nat.le_of_ble_eq_true rfl⟩ ⟨Nat.le_of_ble_eq_true rfl, Nat.le_of_ble_eq_true rfl⟩ (fun r σ6643 hp => ?_)
  obtain ⟨h6644, rfl⟩ := hp
  have h6645 := HS.trans h6639 h6644 (by decide)
  exact m_vret F hQ e_X10_gives_67 (⟨h6645, rfl⟩)
set_option maxRecDepth 20000 in
theorem lq_X10_part_86 {V : VX} {X : MX} {N : Nat} {σ : Mem} {c T Z u h : Nat} {P : NP} {L : Nat → LQ}   (F : Fx V X yX10_part cX10_part 9 (some .long) (rmd 3 0 0)) (hQ : Rt V X 0 0 N (fun r τ => ∃ u9, u9 ≤ 20 ∧ ∃ L9, OKL P.n0 L9 ∧ HS V c (⟨T, Z, u9, h, P, L9⟩ : RG) [0, 2, 3, 4, 5, 6, 7, 8, 9, 10, 11, 12, 13, 14, 15, 16, 18, 19, 20, 22] σ τ ∧ ∃ x : Int64, r = some (.long x))) (hok : OKL P.n0 L) (hP : OKP P) (hp0 : u ≤ 20) (hp1 : P.kk = P.n0)  : ∀ (fuel : Nat) (a : Nat) (b : Nat) (w1 : Int64) (w2 : Int64) (i : Nat) (u1 : Nat) (τ : Mem), HS V c (⟨T, Z, u1, h, P, L⟩ : RG) [0, 2, 3, 4, 5, 6, 7, 8, 9, 10, 11, 12, 13, 14, 15, 16, 18, 19, 20, 22] σ τ → u1 ≤ 20 ∧ a ≤ 3 ∧ b ≤ 999 ∧ i ≤ 72 → 72 - i < fuel → Wm V X 9 N τ 0 0 86 [(0, .ref c), (1, .int (nI a)), (2, .int (nI b)), (3, .int (nI (160 * a))), (4, .long w1), (6, .long w2), (8, .int (nI i))] [] := by
  intro fuel
  induction fuel with
  | zero => intros; rename_i hm; exact absurd hm (Nat.not_lt_zero _)
  | succ fuel ih =>
    intro a b w1 w2 i u1 τ h1 hi hm
    have hPP := hP
    unfold OKP at hPP
    refine m_iload F rfl e_X10_part_86 ?_
    refine m_i2l F e_X10_part_88 ?_
    refine Wm.toplE (w := lN i) (nI_l (by omega)) ?_
    refine m_aload_n F rfl e_X10_part_89 ?_
    refine r_get F e_X10_part_90 fl_X10_59 h1 rfl (fun v hv f6646 => ?_)
    obtain rfl : v = .ref (c + 16) := hv
    refine m_iload_n F rfl e_X10_part_93 ?_
    refine m_iconst F (v := 1) (by decide) e_X10_part_94 ?_
    refine m_iadd F e_X10_part_95 ?_
    refine Wm.topE (w := nI (160 * a + 1)) (nI_add (160 * a) 1) ?_
    refine r_sld F (j := 160 * a + 1) e_X10_part_96 h1 (nI_clamp (by omega)) (vp_in_nI (by omega) (by decide)) (fun x6647 h6648 f6649 => ?_)
    have hl6650 := hok.2 a (by omega)
    obtain rfl : x6647 = lN (L a).2.1 := (EJ_l (l := a) (r := 1) (by omega) (by decide)).mp h6648
    refine m_lcmp F e_X10_part_97 ?_
    refine m_if_ge F e_X10_part_98 (fun q98 => ?_) (fun q98 => ?_)
    · have c98 : i ≥ ((L a).2.1) := (lN_le (a := ((L a).2.1)) (b := i) (by omega) (by omega)).mp ((lg_cmp_ge _ _).mp q98)
      refine m_aload_n F rfl e_X10_part_177 ?_
      refine m_iload_n F rfl e_X10_part_178 ?_
      refine m_iconst F (v := 3) (by decide) e_X10_part_179 ?_
      refine m_lload F rfl e_X10_part_180 ?_
      refine m_lload F rfl e_X10_part_182 ?_
      refine r_callV F e_X10_part_184 (q_X10_gives (x_l X) V c T Z u1 h P L _ _ a 3 w1 w2 h1.1 (hok.b) hP (by omega)) cb_X10_gives ml_X10_319 im_X10_gives se_X10_gives h1 rfl rfl (rest := []) rfl (Nat.le_of_ble_eq_true rfl) ⟨Nat.le_of_ble_eq_true rfl, Nat.le_of_ble_eq_true rfl⟩ ⟨Nat.le_of_ble_eq_true rfl, Nat.le_of_ble_eq_true rfl⟩ (fun r σ6651 hp => ?_)
      obtain ⟨h6652, rfl⟩ := hp
      have h6653 := HS.trans h1 h6652 (by decide)
      refine m_lload F rfl e_X10_part_187 ?_
      refine m_lload F rfl e_X10_part_189 ?_
      refine m_lsub F e_X10_part_191 ?_
      refine Wm.topl (fun x6654 _ => ?_)
      exact m_lret F hQ e_X10_part_192 (⟨u1, by omega, L, hok, h6653, _, rfl⟩)
    · have c98 : i < ((L a).2.1) := by have hh := mt (fun h9 => (lg_cmp_ge (lN i) (lN ((L a).2.1))).mpr ((lN_le (a := ((L a).2.1)) (b := i) (by omega) (by omega)).mpr h9)) q98; omega
      refine m_aload_n F rfl e_X10_part_101 ?_
      refine r_getC F e_X10_part_102 fl_X10_59 h1 (f6646) ?_
      refine m_iload_n F rfl e_X10_part_105 ?_
      refine m_bipush F (v := 13) (by decide) e_X10_part_106 ?_
      refine m_iadd F e_X10_part_108 ?_
      refine Wm.topE (w := nI (160 * a + 13)) (nI_add (160 * a) 13) ?_
      refine m_iload F rfl e_X10_part_109 ?_
      refine m_iadd F e_X10_part_111 ?_
      refine Wm.topE (w := nI ((160 * a + 13) + i)) (nI_add (160 * a + 13) i) ?_
      refine m_aload_n F rfl e_X10_part_112 ?_
      refine r_getC F e_X10_part_113 fl_X10_59 h1 (f6646) ?_
      refine m_iload_n F rfl e_X10_part_116 ?_
      refine m_bipush F (v := 13) (by decide) e_X10_part_117 ?_
      refine m_iadd F e_X10_part_119 ?_
      refine Wm.topE (w := nI (160 * a + 13)) (nI_add (160 * a) 13) ?_
      refine m_iload F rfl e_X10_part_120 ?_
      refine m_iadd F e_X10_part_122 ?_
      refine Wm.topE (w := nI ((160 * a + 13) + i)) (nI_add (160 * a + 13) i) ?_
      refine r_sld F (j := (160 * a + 13) + i) e_X10_part_123 h1 (nI_clamp (by omega)) (vp_in_nI (by omega) (by decide)) (fun x6655 h6656 f6657 => ?_)
      refine m_sipush F (v := 1000) (by decide) e_X10_part_124 ?_
      refine m_iload_n F rfl e_X10_part_127 ?_
      refine m_isub F e_X10_part_128 ?_
      refine Wm.top (fun x6658 _ => ?_)
      refine m_i2l F e_X10_part_129 ?_
      refine Wm.topl (fun x6659 _ => ?_)
      refine m_lmul F e_X10_part_130 ?_
      refine Wm.topl (fun x6660 _ => ?_)
      refine m_ldc2 F kc_X10_224 e_X10_part_131 ?_
      refine m_ldiv F (by decide) e_X10_part_134 ?_
      refine Wm.topl (fun x6661 _ => ?_)
      refine r_sst F (g' := (⟨T, Z, u1, h, P, L⟩ : RG)) (j := (160 * a + 13) + i) e_X10_part_135 h1 (by decide) (nI_clamp (by omega)) (vp_in_nI (by omega) (by decide)) (fun f q => EJ_same (EJ_lw (l := a) (r := ((160 * a + 13) + i) - 160 * a) (by omega) (by omega) (by omega)) q) (fun _ _ _ q => q) (fun σ6662 h6663 g6664 => ?_)
      refine m_aload_n F rfl e_X10_part_136 ?_
      refine r_getC F e_X10_part_137 fl_X10_59 h6663 ((fld_eq (g6664 _ (by omega))).trans f6646) ?_
      refine m_iload_n F rfl e_X10_part_140 ?_
      refine m_bipush F (v := 85) (by decide) e_X10_part_141 ?_
      refine m_iadd F e_X10_part_143 ?_
      refine Wm.topE (w := nI (160 * a + 85)) (nI_add (160 * a) 85) ?_
      refine m_iload F rfl e_X10_part_144 ?_
      refine m_iadd F e_X10_part_146 ?_
      refine Wm.topE (w := nI ((160 * a + 85) + i)) (nI_add (160 * a + 85) i) ?_
      refine m_aload_n F rfl e_X10_part_147 ?_
      refine r_getC F e_X10_part_148 fl_X10_59 h6663 ((fld_eq (g6664 _ (by omega))).trans f6646) ?_
      refine m_iload_n F rfl e_X10_part_151 ?_
      refine m_bipush F (v := 85) (by decide) e_X10_part_152 ?_
      refine m_iadd F e_X10_part_154 ?_
      refine Wm.topE (w := nI (160 * a + 85)) (nI_add (160 * a) 85) ?_
      refine m_iload F rfl e_X10_part_155 ?_
      refine m_iadd F e_X10_part_157 ?_
      refine Wm.topE (w := nI ((160 * a + 85) + i)) (nI_add (160 * a + 85) i) ?_
      refine r_sld F (j := (160 * a + 85) + i) e_X10_part_158 h6663 (nI_clamp (by omega)) (vp_in_nI (by omega) (by decide)) (fun x6665 h6666 f6667 => ?_)
      refine m_sipush F (v := 1000) (by decide) e_X10_part_159 ?_
      refine m_iload_n F rfl e_X10_part_162 ?_
      refine m_isub F e_X10_part_163 ?_
      refine Wm.top (fun x6668 _ => ?_)
      refine m_i2l F e_X10_part_164 ?_
      refine Wm.topl (fun x6669 _ => ?_)
      refine m_lmul F e_X10_part_165 ?_
      refine Wm.topl (fun x6670 _ => ?_)
      refine m_ldc2 F kc_X10_224 e_X10_part_166 ?_
      refine m_ldiv F (by decide) e_X10_part_169 ?_
      refine Wm.topl (fun x6671 _ => ?_)
      refine r_sst F (g' := (⟨T, Z, u1, h, P, L⟩ : RG)) (j := (160 * a + 85) + i) e_X10_part_170 h6663 (by decide) (nI_clamp (by omega)) (vp_in_nI (by omega) (by decide)) (fun f q => EJ_same (EJ_lw (l := a) (r := ((160 * a + 85) + i) - 160 * a) (by omega) (by omega) (by omega)) q) (fun _ _ _ q => q) (fun σ6672 h6673 g6674 => ?_)
      refine m_iinc F (v := nI (i + 1)) (lv' := [(8, .int (nI (i + 1))), (0, .ref c), (1, .int (nI a)), (2, .int (nI b)), (3, .int (nI (160 * a))), (4, .long w1), (6, .long w2)]) e_X10_part_171 rfl (nI_add i 1) (by decide) rfl ?_
      refine m_goto F e_X10_part_174 ?_
      refine Wm.lvsub (lv' := [(0, .ref c), (1, .int (nI a)), (2, .int (nI b)), (3, .int (nI (160 * a))), (4, .long w1), (6, .long w2), (8, .int (nI (i + 1)))]) ?_ [1, 2, 3, 4, 5, 6, 0] rfl
      exact ih a b w1 w2 (i + 1) u1 _ h6673 (by omega) (by omega)
set_option maxRecDepth 20000 in
theorem q_X10_part (l : Launch) (V : VX) (c T Z u h : Nat) (P : NP) (L : Nat → LQ) (N : Nat) (σ : Mem) (x901 : Int32) (x902 : Int32) (h0 : HR V c ⟨T, Z, u, h, P, L⟩ σ) (hok : OKL P.n0 L) (hP : OKP P) (hp0 : u ≤ 20) (hp1 : P.kk = P.n0) : Ct l V yX10_part cX10_part 9 (some .long) 3 0 0 N σ [.ref c, .int x901, .int x902] (fun r τ => ∃ u9, u9 ≤ 20 ∧ ∃ L9, OKL P.n0 L9 ∧ HS V c (⟨T, Z, u9, h, P, L9⟩ : RG) [0, 2, 3, 4, 5, 6, 7, 8, 9, 10, 11, 12, 13, 14, 15, 16, 18, 19, 20, 22] σ τ ∧ ∃ x : Int64, r = some (.long x)) := by
  refine Ct.of (by decide) (Nat.le_of_ble_eq_true rfl) [(0, .ref c), (1, .int x901), (2, .int x902)] rfl (fun X hX F hQ => ?_)
  have hPP := hP
  unfold OKP at hPP
  have h1 : HS V c ⟨T, Z, u, h, P, L⟩ [0, 2, 3, 4, 5, 6, 7, 8, 9, 10, 11, 12, 13, 14, 15, 16, 18, 19, 20, 22] σ σ := HS.start h0
  refine m_aload_n F rfl e_X10_part_0 ?_
  refine m_iconst F (v := 0) (by decide) e_X10_part_1 ?_
  refine r_put F (g' := (⟨T, Z, u, h, P, L⟩ : RG)) e_X10_part_2 fp_X10_91 h1 (by decide) ⟨_, rfl⟩ (fun _ _ _ _ q => q) (fun _ _ _ q => q) rfl rfl (by decide) (fun σ6675 h6676 g6677 g6678 f6679 => ?_)
  refine m_aload_n F rfl e_X10_part_5 ?_
  refine m_iload_n F rfl e_X10_part_6 ?_
  refine r_callV F e_X10_part_7 (q_X10_isRunning (x_l X) V c T Z u h P L _ _ x901 h6676.1 (hok.b) hP ) cb_X10_isRunning ml_X10_301 im_X10_isRunning se_X10_isRunning h6676 rfl rfl (rest := []) rfl (Nat.le_of_ble_eq_true rfl) ⟨Nat.le_of_ble_eq_true rfl, Nat.le_of_ble_eq_true rfl⟩ ⟨Nat.le_of_ble_eq_true rfl, Nat.le_of_ble_eq_true rfl⟩ (fun r σ6680 hp => ?_)
  obtain ⟨h6681, c6683⟩ := hp
  have h6682 := HS.trans h6676 h6681 (by decide)
  rcases c6683 with rfl | ⟨n6684, h6685, h6686, e6687, rfl⟩
  · refine m_if_eq F e_X10_part_10 (fun _ => ?_) (fun q => absurd (by decide) q)
    refine m_ldc2 F kc_X10_299 e_X10_part_25 ?_
    exact m_lret F hQ e_X10_part_28 (⟨u, by omega, L, hok, h6682, _, rfl⟩)
  · subst e6687
    refine m_if_eq F e_X10_part_10 (fun q => absurd q (by decide)) (fun _ => ?_)
    refine m_iload_n F rfl e_X10_part_13 ?_
    refine m_iconst F (v := 1) (by decide) e_X10_part_14 ?_
    refine m_icmp_lt F e_X10_part_15 (fun q15 => ?_) (fun q15 => ?_)
    · refine m_ldc2 F kc_X10_299 e_X10_part_25 ?_
      exact m_lret F hQ e_X10_part_28 (⟨u, by omega, L, hok, h6682, _, rfl⟩)
    · obtain ⟨n6688, hn6688, rfl⟩ := nI_nn (x := x902) (fun e => q15 (Int32.lt_of_lt_of_le e (by decide)))
      have c15 : n6688 ≥ 1 := by have hh := mt (nI_ltI (a := n6688) (b := 1) (by omega) (by omega)).mpr q15; omega
      refine m_iload_n F rfl e_X10_part_18 ?_
      refine m_sipush F (v := 999) (by decide) e_X10_part_19 ?_
      refine m_icmp_le F e_X10_part_22 (fun q22 => ?_) (fun q22 => ?_)
      · have c22 : n6688 ≤ 999 := (nI_leI (a := n6688) (b := 999) (by omega) (by omega)).mp q22
        refine m_aload_n F rfl e_X10_part_29 ?_
        refine r_callV F e_X10_part_30 (q_X10_remembers (x_l X) V c T Z u h P L _ _  h6682.1 (hok) hP (by first | omega | assumption | decide) (by first | omega | assumption | decide)) cb_X10_remembers ml_X10_286 im_X10_remembers se_X10_remembers h6682 rfl rfl (rest := []) rfl (Nat.le_of_ble_eq_true rfl) ⟨Nat.le_of_ble_eq_true rfl, Nat.le_of_ble_eq_true rfl⟩ ⟨Nat.le_of_ble_eq_true rfl, Nat.le_of_ble_eq_true rfl⟩ (fun r σ6689 hp => ?_)
        obtain ⟨u6692, hu6692, h6690, rfl⟩ := hp
        have h6691 := HS.trans h6682 h6690 (by decide)
        refine m_sipush F (v := 160) (by decide) e_X10_part_33 ?_
        refine m_iload_n F rfl e_X10_part_36 ?_
        refine m_imul F e_X10_part_37 ?_
        refine Wm.topE (w := nI (160 * n6684)) (pk_mul 160 n6684) ?_
        refine m_istore_n F (lv' := [(3, .int (nI (160 * n6684))), (0, .ref c), (1, .int (nI n6684)), (2, .int (nI n6688))]) e_X10_part_38 (by decide) rfl ?_
        have hl6693 := hok.2 n6684 (by omega)
        have hl6694 := hok.2 n6684 (by omega)
        have hl6695 := hok.2 n6684 (by omega)
        refine m_aload_n F rfl e_X10_part_39 ?_
        refine r_get F e_X10_part_40 fl_X10_59 h6691 rfl (fun v hv f6696 => ?_)
        obtain rfl : v = .ref (c + 16) := hv
        refine m_iload_n F rfl e_X10_part_43 ?_
        refine m_bipush F (v := 6) (by decide) e_X10_part_44 ?_
        refine m_iadd F e_X10_part_46 ?_
        refine Wm.topE (w := nI (160 * n6684 + 6)) (nI_add (160 * n6684) 6) ?_
        refine r_sld F (j := 160 * n6684 + 6) e_X10_part_47 h6691 (nI_clamp (by omega)) (vp_in_nI (by omega) (by decide)) (fun x6697 h6698 f6699 => ?_)
        refine m_iload_n F rfl e_X10_part_48 ?_
        refine m_i2l F e_X10_part_49 ?_
        refine Wm.toplE (w := lN n6688) (nI_l (by omega)) ?_
        refine m_lmul F e_X10_part_50 ?_
        refine Wm.topl (fun x6700 _ => ?_)
        refine m_ldc2 F kc_X10_224 e_X10_part_51 ?_
        refine m_ldiv F (by decide) e_X10_part_54 ?_
        refine Wm.topl (fun x6701 _ => ?_)
        refine m_lstore F (lv' := [(4, .long x6701), (3, .int (nI (160 * n6684))), (0, .ref c), (1, .int (nI n6684)), (2, .int (nI n6688))]) e_X10_part_55 (by decide) rfl ?_
        refine m_aload_n F rfl e_X10_part_57 ?_
        refine r_getC F e_X10_part_58 fl_X10_59 h6691 (f6696) ?_
        refine m_iload_n F rfl e_X10_part_61 ?_
        refine m_bipush F (v := 7) (by decide) e_X10_part_62 ?_
        refine m_iadd F e_X10_part_64 ?_
        refine Wm.topE (w := nI (160 * n6684 + 7)) (nI_add (160 * n6684) 7) ?_
        refine r_sld F (j := 160 * n6684 + 7) e_X10_part_65 h6691 (nI_clamp (by omega)) (vp_in_nI (by omega) (by decide)) (fun x6702 h6703 f6704 => ?_)
        refine m_iload_n F rfl e_X10_part_66 ?_
        refine m_i2l F e_X10_part_67 ?_
        refine Wm.toplE (w := lN n6688) (nI_l (by omega)) ?_
        refine m_lmul F e_X10_part_68 ?_
        refine Wm.topl (fun x6705 _ => ?_)
        refine m_ldc2 F kc_X10_224 e_X10_part_69 ?_
        refine m_ldiv F (by decide) e_X10_part_72 ?_
        refine Wm.topl (fun x6706 _ => ?_)
        refine m_lstore F (lv' := [(6, .long x6706), (4, .long x6701), (3, .int (nI (160 * n6684))), (0, .ref c), (1, .int (nI n6684)), (2, .int (nI n6688))]) e_X10_part_73 (by decide) rfl ?_
        refine m_aload_n F rfl e_X10_part_75 ?_
        refine r_getC F e_X10_part_76 fl_X10_59 h6691 (f6696) ?_
        refine m_iload_n F rfl e_X10_part_79 ?_
        refine m_iconst F (v := 5) (by decide) e_X10_part_80 ?_
        refine m_iadd F e_X10_part_81 ?_
        refine Wm.topE (w := nI (160 * n6684 + 5)) (nI_add (160 * n6684) 5) ?_
        refine r_sld F (j := 160 * n6684 + 5) e_X10_part_82 h6691 (nI_clamp (by omega)) (vp_in_nI (by omega) (by decide)) (fun x6707 h6708 f6709 => ?_)
        have hl6710 := hok.2 n6684 (by omega)
        obtain rfl : x6707 = lN (L n6684).2.2.2 := (EJ_l (l := n6684) (r := 5) (by omega) (by decide)).mp h6708
        refine m_l2i F e_X10_part_83 ?_
        refine Wm.topE (w := nI ((L n6684).2.2.2)) (lN_i ((L n6684).2.2.2)) ?_
        refine m_istore F (lv' := [(8, .int (nI ((L n6684).2.2.2))), (6, .long x6706), (4, .long x6701), (3, .int (nI (160 * n6684))), (0, .ref c), (1, .int (nI n6684)), (2, .int (nI n6688))]) e_X10_part_84 (by decide) rfl ?_
        refine Wm.lvsub (lv' := [(0, .ref c), (1, .int (nI n6684)), (2, .int (nI n6688)), (3, .int (nI (160 * n6684))), (4, .long x6701), (6, .long x6706), (8, .int (nI ((L n6684).2.2.2)))]) ?_ [4, 5, 6, 3, 2, 1, 0] rfl
        exact lq_X10_part_86 F hQ hok hP hp0 hp1 (72 - ((L n6684).2.2.2) + 1) n6684 n6688 x6701 x6706 ((L n6684).2.2.2) u6692 _ h6691 (by omega) (Nat.lt_succ_self _)
      · have c22 : n6688 > 999 := by have hh := mt (nI_leI (a := n6688) (b := 999) (by omega) (by omega)).mpr q22; omega
        refine m_ldc2 F kc_X10_299 e_X10_part_25 ?_
        exact m_lret F hQ e_X10_part_28 (⟨u, by omega, L, hok, h6682, _, rfl⟩)
set_option maxRecDepth 20000 in
theorem q_X10_end (l : Launch) (V : VX) (c T Z u h : Nat) (P : NP) (L : Nat → LQ) (N : Nat) (σ : Mem) (x901 : Int32) (h0 : HR V c ⟨T, Z, u, h, P, L⟩ σ) (hok : OKL P.n0 L) (hP : OKP P) (hp0 : u ≤ 20) (hp1 : P.kk = P.n0) : Ct l V yX10_end cX10_end 5 (some .long) 3 0 0 N σ [.ref c, .int x901] (fun r τ => ∃ u9, u9 ≤ 20 ∧ ∃ L9, OKL P.n0 L9 ∧ HS V c (⟨T, Z, u9, h, P, L9⟩ : RG) [0, 2, 3, 4, 5, 6, 7, 8, 9, 10, 11, 12, 13, 14, 15, 16, 18, 19, 20, 22] σ τ ∧ ∃ x : Int64, r = some (.long x)) := by
  refine Ct.of (by decide) (Nat.le_of_ble_eq_true rfl) [(0, .ref c), (1, .int x901)] rfl (fun X hX F hQ => ?_)
  have hPP := hP
  unfold OKP at hPP
  have h1 : HS V c ⟨T, Z, u, h, P, L⟩ [0, 2, 3, 4, 5, 6, 7, 8, 9, 10, 11, 12, 13, 14, 15, 16, 18, 19, 20, 22] σ σ := HS.start h0
  refine m_aload_n F rfl e_X10_end_0 ?_
  refine m_iconst F (v := 0) (by decide) e_X10_end_1 ?_
  refine r_put F (g' := (⟨T, Z, u, h, P, L⟩ : RG)) e_X10_end_2 fp_X10_91 h1 (by decide) ⟨_, rfl⟩ (fun _ _ _ _ q => q) (fun _ _ _ q => q) rfl rfl (by decide) (fun σ6711 h6712 g6713 g6714 f6715 => ?_)
  refine m_aload_n F rfl e_X10_end_5 ?_
  refine m_iload_n F rfl e_X10_end_6 ?_
  refine r_callV F e_X10_end_7 (q_X10_isRunning (x_l X) V c T Z u h P L _ _ x901 h6712.1 (hok.b) hP ) cb_X10_isRunning ml_X10_301 im_X10_isRunning se_X10_isRunning h6712 rfl rfl (rest := []) rfl (Nat.le_of_ble_eq_true rfl) ⟨Nat.le_of_ble_eq_true rfl, Nat.le_of_ble_eq_true rfl⟩ ⟨Nat.le_of_ble_eq_true rfl, Nat.le_of_ble_eq_true rfl⟩ (fun r σ6716 hp => ?_)
  obtain ⟨h6717, c6719⟩ := hp
  have h6718 := HS.trans h6712 h6717 (by decide)
  rcases c6719 with rfl | ⟨n6720, h6721, h6722, e6723, rfl⟩
  · refine m_if_ne F e_X10_end_10 (fun q => absurd (by decide) q) (fun _ => ?_)
    refine m_ldc2 F kc_X10_299 e_X10_end_13 ?_
    exact m_lret F hQ e_X10_end_16 (⟨u, by omega, L, hok, h6718, _, rfl⟩)
  · subst e6723
    refine m_if_ne F e_X10_end_10 (fun _ => ?_) (fun q => absurd q (by decide))
    refine m_aload_n F rfl e_X10_end_17 ?_
    refine r_callV F e_X10_end_18 (q_X10_remembers (x_l X) V c T Z u h P L _ _  h6718.1 (hok) hP (by first | omega | assumption | decide) (by first | omega | assumption | decide)) cb_X10_remembers ml_X10_286 im_X10_remembers se_X10_remembers h6718 rfl rfl (rest := []) rfl (Nat.le_of_ble_eq_true rfl) ⟨Nat.le_of_ble_eq_true rfl, Nat.le_of_ble_eq_true rfl⟩ ⟨Nat.le_of_ble_eq_true rfl, Nat.le_of_ble_eq_true rfl⟩ (fun r σ6724 hp => ?_)
    obtain ⟨u6727, hu6727, h6725, rfl⟩ := hp
    have h6726 := HS.trans h6718 h6725 (by decide)
    refine m_sipush F (v := 160) (by decide) e_X10_end_21 ?_
    refine m_iload_n F rfl e_X10_end_24 ?_
    refine m_imul F e_X10_end_25 ?_
    refine Wm.topE (w := nI (160 * n6720)) (pk_mul 160 n6720) ?_
    refine m_istore_n F (lv' := [(2, .int (nI (160 * n6720))), (0, .ref c), (1, .int (nI n6720))]) e_X10_end_26 (by decide) rfl ?_
    have hl6728 := hok.2 n6720 (by omega)
    have hl6729 := hok.2 n6720 (by omega)
    have hl6730 := hok.2 n6720 (by omega)
    refine m_aload_n F rfl e_X10_end_27 ?_
    refine r_get F e_X10_end_28 fl_X10_59 h6726 rfl (fun v hv f6731 => ?_)
    obtain rfl : v = .ref (c + 16) := hv
    refine m_iload_n F rfl e_X10_end_31 ?_
    refine m_bipush F (v := 6) (by decide) e_X10_end_32 ?_
    refine m_iadd F e_X10_end_34 ?_
    refine Wm.topE (w := nI (160 * n6720 + 6)) (nI_add (160 * n6720) 6) ?_
    refine r_sld F (j := 160 * n6720 + 6) e_X10_end_35 h6726 (nI_clamp (by omega)) (vp_in_nI (by omega) (by decide)) (fun x6732 h6733 f6734 => ?_)
    refine m_aload_n F rfl e_X10_end_36 ?_
    refine r_getC F e_X10_end_37 fl_X10_59 h6726 (f6731) ?_
    refine m_iload_n F rfl e_X10_end_40 ?_
    refine m_bipush F (v := 7) (by decide) e_X10_end_41 ?_
    refine m_iadd F e_X10_end_43 ?_
    refine Wm.topE (w := nI (160 * n6720 + 7)) (nI_add (160 * n6720) 7) ?_
    refine r_sld F (j := 160 * n6720 + 7) e_X10_end_44 h6726 (nI_clamp (by omega)) (vp_in_nI (by omega) (by decide)) (fun x6735 h6736 f6737 => ?_)
    refine m_lsub F e_X10_end_45 ?_
    refine Wm.topl (fun x6738 _ => ?_)
    refine m_lstore_n F (lv' := [(3, .long x6738), (2, .int (nI (160 * n6720))), (0, .ref c), (1, .int (nI n6720))]) e_X10_end_46 (by decide) rfl ?_
    refine m_aload_n F rfl e_X10_end_47 ?_
    refine m_iload_n F rfl e_X10_end_48 ?_
    refine m_iconst F (v := 4) (by decide) e_X10_end_49 ?_
    refine m_aload_n F rfl e_X10_end_50 ?_
    refine r_getC F e_X10_end_51 fl_X10_59 h6726 (f6731) ?_
    refine m_iload_n F rfl e_X10_end_54 ?_
    refine m_bipush F (v := 6) (by decide) e_X10_end_55 ?_
    refine m_iadd F e_X10_end_57 ?_
    refine Wm.topE (w := nI (160 * n6720 + 6)) (nI_add (160 * n6720) 6) ?_
    refine r_sld F (j := 160 * n6720 + 6) e_X10_end_58 h6726 (nI_clamp (by omega)) (vp_in_nI (by omega) (by decide)) (fun x6739 h6740 f6741 => ?_)
    refine m_aload_n F rfl e_X10_end_59 ?_
    refine r_getC F e_X10_end_60 fl_X10_59 h6726 (f6731) ?_
    refine m_iload_n F rfl e_X10_end_63 ?_
    refine m_bipush F (v := 7) (by decide) e_X10_end_64 ?_
    refine m_iadd F e_X10_end_66 ?_
    refine Wm.topE (w := nI (160 * n6720 + 7)) (nI_add (160 * n6720) 7) ?_
    refine r_sld F (j := 160 * n6720 + 7) e_X10_end_67 h6726 (nI_clamp (by omega)) (vp_in_nI (by omega) (by decide)) (fun x6742 h6743 f6744 => ?_)
    refine r_callV F e_X10_end_68 (q_X10_gives (x_l X) V c T Z u6727 h P L _ _ n6720 4 x6739 x6742 h6726.1 (hok.b) hP (by omega)) cb_X10_gives ml_X10_319 im_X10_gives se_X10_gives h6726 rfl rfl (rest := []) rfl (Nat.le_of_ble_eq_true rfl) ⟨Nat.le_of_ble_eq_true rfl, Nat.le_of_ble_eq_true rfl⟩ ⟨Nat.le_of_ble_eq_true rfl, Nat.le_of_ble_eq_true rfl⟩ (fun r σ6745 hp => ?_)
    obtain ⟨h6746, rfl⟩ := hp
    have h6747 := HS.trans h6726 h6746 (by decide)
    refine m_aload_n F rfl e_X10_end_71 ?_
    refine r_getC F e_X10_end_72 fl_X10_59 h6747 ((fld_eq (h6746.2 c (by rw [show kC c c = 1 from kC_at (k := 0) (by decide)]; decide))).trans f6731) ?_
    refine m_iload_n F rfl e_X10_end_75 ?_
    refine m_iconst F (v := 0) (by decide) e_X10_end_76 ?_
    refine m_iadd F e_X10_end_77 ?_
    refine Wm.topE (w := nI (160 * n6720)) (nI_add (160 * n6720) 0) ?_
    refine m_ldc2 F kc_X10_234 e_X10_end_78 ?_
    refine r_sst F (g' := (⟨T, Z, u6727, h, P, (updL L n6720 (2, (L n6720).2.1, (L n6720).2.2.1, (L n6720).2.2.2))⟩ : RG)) (j := 160 * n6720) e_X10_end_81 h6747 (by decide) (nI_clamp (by omega)) (vp_in_nI (by omega) (by decide)) (fun f q => EJ_up (l := n6720) (r := 0) (by omega) (by decide) q rfl (by intro r' h1 h2 y hy; revert hy; unfold EL; split <;> simp_all)) CR.row (fun σ6748 h6749 g6750 => ?_)
    obtain ⟨L6751, eL6751⟩ : ∃ L9, L9 = (updL L n6720 (2, (L n6720).2.1, (L n6720).2.2.1, (L n6720).2.2.2)) := ⟨_, rfl⟩
    rw [← eL6751] at h6749
    have fL6751 : L6751 n6720 = (2, (L n6720).2.1, (L n6720).2.2.1, (L n6720).2.2.2) := by rw [eL6751]; exact if_pos rfl
    have fL67510 : (L6751 n6720).1 = 2 := by rw [fL6751]
    have fL67511 : (L6751 n6720).2.1 = (L n6720).2.1 := by rw [fL6751]
    have fL67512 : (L6751 n6720).2.2.1 = (L n6720).2.2.1 := by rw [fL6751]
    have fL67513 : (L6751 n6720).2.2.2 = (L n6720).2.2.2 := by rw [fL6751]
    have oL6751 : ∀ i, i ≠ n6720 → L6751 i = L i := fun i hi => by rw [eL6751]; exact if_neg hi
    have pL6751 : (L6751 4).1 = (L 4).1 := by rw [oL6751 4 (by omega)]
    refine m_lload_n F rfl e_X10_end_82 ?_
    have ok6752 : OKL P.n0 L6751 := OKL.upd hok (l := n6720) (by omega) (fun i hi => (oL6751 i hi)) (by have h9 := hok.2 n6720 (by omega); omega)
    exact m_lret F hQ e_X10_end_83 (⟨u6727, by omega, L6751, ok6752, h6749, _, rfl⟩)
set_option maxRecDepth 20000 in
theorem q_X10_down (l : Launch) (V : VX) (c T Z u h : Nat) (P : NP) (L : Nat → LQ) (N : Nat) (σ : Mem) (x901 : Int32) (x902 : Int64) (h0 : HR V c ⟨T, Z, u, h, P, L⟩ σ) (hok : OKL P.n0 L) (hP : OKP P) (hp0 : u ≤ 20) (hp1 : P.kk = P.n0) : Ct l V yX10_down cX10_down 4 (some .long) 3 0 0 N σ [.ref c, .int x901, .long x902] (fun r τ => ∃ u9, u9 ≤ 20 ∧ ∃ L9, OKL P.n0 L9 ∧ HS V c (⟨T, Z, u9, h, P, L9⟩ : RG) [0, 2, 3, 4, 5, 6, 7, 8, 9, 10, 11, 12, 13, 14, 15, 16, 18, 19, 20, 22] σ τ ∧ ∃ x : Int64, r = some (.long x)) := by
  refine Ct.of (by decide) (Nat.le_of_ble_eq_true rfl) [(0, .ref c), (1, .int x901), (2, .long x902)] rfl (fun X hX F hQ => ?_)
  have hPP := hP
  unfold OKP at hPP
  have h1 : HS V c ⟨T, Z, u, h, P, L⟩ [0, 2, 3, 4, 5, 6, 7, 8, 9, 10, 11, 12, 13, 14, 15, 16, 18, 19, 20, 22] σ σ := HS.start h0
  refine m_aload_n F rfl e_X10_down_0 ?_
  refine m_iconst F (v := 0) (by decide) e_X10_down_1 ?_
  refine r_put F (g' := (⟨T, Z, u, h, P, L⟩ : RG)) e_X10_down_2 fp_X10_91 h1 (by decide) ⟨_, rfl⟩ (fun _ _ _ _ q => q) (fun _ _ _ q => q) rfl rfl (by decide) (fun σ6753 h6754 g6755 g6756 f6757 => ?_)
  refine m_aload_n F rfl e_X10_down_5 ?_
  refine m_iload_n F rfl e_X10_down_6 ?_
  refine r_callV F e_X10_down_7 (q_X10_isRunning (x_l X) V c T Z u h P L _ _ x901 h6754.1 (hok.b) hP ) cb_X10_isRunning ml_X10_301 im_X10_isRunning se_X10_isRunning h6754 rfl rfl (rest := []) rfl (Nat.le_of_ble_eq_true rfl) ⟨Nat.le_of_ble_eq_true rfl, Nat.le_of_ble_eq_true rfl⟩ ⟨Nat.le_of_ble_eq_true rfl, Nat.le_of_ble_eq_true rfl⟩ (fun r σ6758 hp => ?_)
  obtain ⟨h6759, c6761⟩ := hp
  have h6760 := HS.trans h6754 h6759 (by decide)
  rcases c6761 with rfl | ⟨n6762, h6763, h6764, e6765, rfl⟩
  · refine m_if_eq F e_X10_down_10 (fun _ => ?_) (fun q => absurd (by decide) q)
    refine m_ldc2 F kc_X10_299 e_X10_down_37 ?_
    exact m_lret F hQ e_X10_down_40 (⟨u, by omega, L, hok, h6760, _, rfl⟩)
  · subst e6765
    refine m_if_eq F e_X10_down_10 (fun q => absurd q (by decide)) (fun _ => ?_)
    refine m_lload_n F rfl e_X10_down_13 ?_
    refine m_lconst F (v := 1) (by decide) e_X10_down_14 ?_
    refine m_lcmp F e_X10_down_15 ?_
    refine Wm.top (fun x6766 _ => ?_)
    refine m_if_lt F e_X10_down_16 (fun q16 => ?_) (fun q16 => ?_)
    · refine m_ldc2 F kc_X10_299 e_X10_down_37 ?_
      exact m_lret F hQ e_X10_down_40 (⟨u, by omega, L, hok, h6760, _, rfl⟩)
    · obtain ⟨n6767, hn6767, rfl⟩ := nI_nn (x := x6766) (fun e => q16 (Int32.lt_of_lt_of_le e (by decide)))
      have c16 : n6767 ≥ 0 := by have hh := mt (nI_ltI (a := n6767) (b := 0) (by omega) (by omega)).mpr q16; omega
      refine m_lload_n F rfl e_X10_down_19 ?_
      refine m_aload_n F rfl e_X10_down_20 ?_
      refine r_get F e_X10_down_21 fl_X10_59 h6760 rfl (fun v hv f6768 => ?_)
      obtain rfl : v = .ref (c + 16) := hv
      refine m_sipush F (v := 160) (by decide) e_X10_down_24 ?_
      refine m_iload_n F rfl e_X10_down_27 ?_
      refine m_imul F e_X10_down_28 ?_
      refine Wm.topE (w := nI (160 * n6762)) (pk_mul 160 n6762) ?_
      refine m_bipush F (v := 7) (by decide) e_X10_down_29 ?_
      refine m_iadd F e_X10_down_31 ?_
      refine Wm.topE (w := nI (160 * n6762 + 7)) (nI_add (160 * n6762) 7) ?_
      refine r_sld F (j := 160 * n6762 + 7) e_X10_down_32 h6760 (nI_clamp (by omega)) (vp_in_nI (by omega) (by decide)) (fun x6769 h6770 f6771 => ?_)
      refine m_lcmp F e_X10_down_33 ?_
      refine Wm.top (fun x6772 _ => ?_)
      refine m_if_le F e_X10_down_34 (fun q34 => ?_) (fun q34 => ?_)
      · refine m_aload_n F rfl e_X10_down_41 ?_
        refine r_callV F e_X10_down_42 (q_X10_remembers (x_l X) V c T Z u h P L _ _  h6760.1 (hok) hP (by first | omega | assumption | decide) (by first | omega | assumption | decide)) cb_X10_remembers ml_X10_286 im_X10_remembers se_X10_remembers h6760 rfl rfl (rest := []) rfl (Nat.le_of_ble_eq_true rfl) ⟨Nat.le_of_ble_eq_true rfl, Nat.le_of_ble_eq_true rfl⟩ ⟨Nat.le_of_ble_eq_true rfl, Nat.le_of_ble_eq_true rfl⟩ (fun r σ6773 hp => ?_)
        obtain ⟨u6776, hu6776, h6774, rfl⟩ := hp
        have h6775 := HS.trans h6760 h6774 (by decide)
        refine m_aload_n F rfl e_X10_down_45 ?_
        refine r_get F e_X10_down_46 fl_X10_59 h6775 rfl (fun v hv f6777 => ?_)
        obtain rfl : v = .ref (c + 16) := hv
        refine m_sipush F (v := 160) (by decide) e_X10_down_49 ?_
        refine m_iload_n F rfl e_X10_down_52 ?_
        refine m_imul F e_X10_down_53 ?_
        refine Wm.topE (w := nI (160 * n6762)) (pk_mul 160 n6762) ?_
        refine m_bipush F (v := 7) (by decide) e_X10_down_54 ?_
        refine m_iadd F e_X10_down_56 ?_
        refine Wm.topE (w := nI (160 * n6762 + 7)) (nI_add (160 * n6762) 7) ?_
        refine m_dup2_11 F rfl rfl e_X10_down_57 ?_
        refine r_sld F (j := 160 * n6762 + 7) e_X10_down_58 h6775 (nI_clamp (by omega)) (vp_in_nI (by omega) (by decide)) (fun x6778 h6779 f6780 => ?_)
        refine m_lload_n F rfl e_X10_down_59 ?_
        refine m_lsub F e_X10_down_60 ?_
        refine Wm.topl (fun x6781 _ => ?_)
        refine r_sst F (g' := (⟨T, Z, u6776, h, P, L⟩ : RG)) (j := 160 * n6762 + 7) e_X10_down_61 h6775 (by decide) (nI_clamp (by omega)) (vp_in_nI (by omega) (by decide)) (fun f q => EJ_same (EJ_lw (l := n6762) (r := 7) (by omega) (by omega) (by omega)) q) (fun _ _ _ q => q) (fun σ6782 h6783 g6784 => ?_)
        refine m_aload_n F rfl e_X10_down_62 ?_
        refine m_iconst F (v := 5) (by decide) e_X10_down_63 ?_
        refine m_iload_n F rfl e_X10_down_64 ?_
        refine m_lconst F (v := 0) (by decide) e_X10_down_65 ?_
        refine m_lconst F (v := 0) (by decide) e_X10_down_66 ?_
        refine m_lload_n F rfl e_X10_down_67 ?_
        refine m_lneg F e_X10_down_68 ?_
        refine Wm.topl (fun x6785 _ => ?_)
        refine m_lconst F (v := 0) (by decide) e_X10_down_69 ?_
        refine m_lconst F (v := 0) (by decide) e_X10_down_70 ?_
        refine m_lload_n F rfl e_X10_down_71 ?_
        refine r_callV F e_X10_down_72 (q_X10_entry (x_l X) V c T Z u6776 h P L _ _ 5 (nI n6762) 0 0 x6785 0 0 x902 h6783.1 (hok.b) hP ) cb_X10_entry ml_X10_253 im_X10_entry se_X10_entry h6783 rfl rfl (rest := []) rfl (Nat.le_of_ble_eq_true rfl) ⟨Nat.le_of_ble_eq_true rfl, Nat.le_of_ble_eq_true rfl⟩ ⟨Nat.le_of_ble_eq_true rfl, Nat.le_of_ble_eq_true rfl⟩ (fun r σ6786 hp => ?_)
        obtain ⟨h6787, rfl⟩ := hp
        have h6788 := HS.trans h6783 h6787 (by decide)
        refine m_aload_n F rfl e_X10_down_75 ?_
        refine r_getC F e_X10_down_76 fl_X10_59 h6788 ((fld_eq (h6787.2 c (by rw [show kC c c = 1 from kC_at (k := 0) (by decide)]; decide))).trans ((fld_eq (g6784 _ (by omega))).trans f6777)) ?_
        refine m_sipush F (v := 160) (by decide) e_X10_down_79 ?_
        refine m_iload_n F rfl e_X10_down_82 ?_
        refine m_imul F e_X10_down_83 ?_
        refine Wm.topE (w := nI (160 * n6762)) (pk_mul 160 n6762) ?_
        refine m_bipush F (v := 7) (by decide) e_X10_down_84 ?_
        refine m_iadd F e_X10_down_86 ?_
        refine Wm.topE (w := nI (160 * n6762 + 7)) (nI_add (160 * n6762) 7) ?_
        refine r_sld F (j := 160 * n6762 + 7) e_X10_down_87 h6788 (nI_clamp (by omega)) (vp_in_nI (by omega) (by decide)) (fun x6789 h6790 f6791 => ?_)
        exact m_lret F hQ e_X10_down_88 (⟨u6776, by omega, L, hok, h6788, _, rfl⟩)
      · obtain ⟨n6792, hn6792, rfl⟩ := nI_nn (x := x6772) (fun e => q34 (Int32.le_trans (Int32.le_of_lt e) (by decide)))
        have c34 : n6792 > 0 := by have hh := mt (nI_leI (a := n6792) (b := 0) (by omega) (by omega)).mpr q34; omega
        refine m_ldc2 F kc_X10_299 e_X10_down_37 ?_
        exact m_lret F hQ e_X10_down_40 (⟨u, by omega, L, hok, h6760, _, rfl⟩)
set_option maxRecDepth 20000 in
theorem q_X10_putOff (l : Launch) (V : VX) (c T Z u h : Nat) (P : NP) (L : Nat → LQ) (N : Nat) (σ : Mem) (x901 : Int32) (x902 : Int32) (x903 : Int32) (h0 : HR V c ⟨T, Z, u, h, P, L⟩ σ) (hok : OKL P.n0 L) (hP : OKP P) (hp0 : u ≤ 20) (hp1 : P.kk = P.n0) : Ct l V yX10_putOff cX10_putOff 5 (some .long) 3 0 0 N σ [.ref c, .int x901, .int x902, .int x903] (fun r τ => ∃ u9, u9 ≤ 20 ∧ ∃ L9, OKL P.n0 L9 ∧ HS V c (⟨T, Z, u9, h, P, L9⟩ : RG) [0, 2, 3, 4, 5, 6, 7, 8, 9, 10, 11, 12, 13, 14, 15, 16, 18, 19, 20, 22] σ τ ∧ ∃ x : Int64, r = some (.long x)) := by
  refine Ct.of (by decide) (Nat.le_of_ble_eq_true rfl) [(0, .ref c), (1, .int x901), (2, .int x902), (3, .int x903)] rfl (fun X hX F hQ => ?_)
  have hPP := hP
  unfold OKP at hPP
  have h1 : HS V c ⟨T, Z, u, h, P, L⟩ [0, 2, 3, 4, 5, 6, 7, 8, 9, 10, 11, 12, 13, 14, 15, 16, 18, 19, 20, 22] σ σ := HS.start h0
  refine m_aload_n F rfl e_X10_putOff_0 ?_
  refine m_iconst F (v := 0) (by decide) e_X10_putOff_1 ?_
  refine r_put F (g' := (⟨T, Z, u, h, P, L⟩ : RG)) e_X10_putOff_2 fp_X10_91 h1 (by decide) ⟨_, rfl⟩ (fun _ _ _ _ q => q) (fun _ _ _ q => q) rfl rfl (by decide) (fun σ6793 h6794 g6795 g6796 f6797 => ?_)
  refine m_aload_n F rfl e_X10_putOff_5 ?_
  refine m_iload_n F rfl e_X10_putOff_6 ?_
  refine r_callV F e_X10_putOff_7 (q_X10_isRunning (x_l X) V c T Z u h P L _ _ x901 h6794.1 (hok.b) hP ) cb_X10_isRunning ml_X10_301 im_X10_isRunning se_X10_isRunning h6794 rfl rfl (rest := []) rfl (Nat.le_of_ble_eq_true rfl) ⟨Nat.le_of_ble_eq_true rfl, Nat.le_of_ble_eq_true rfl⟩ ⟨Nat.le_of_ble_eq_true rfl, Nat.le_of_ble_eq_true rfl⟩ (fun r σ6798 hp => ?_)
  obtain ⟨h6799, c6801⟩ := hp
  have h6800 := HS.trans h6794 h6799 (by decide)
  rcases c6801 with rfl | ⟨n6802, h6803, h6804, e6805, rfl⟩
  · refine m_if_eq F e_X10_putOff_10 (fun _ => ?_) (fun q => absurd (by decide) q)
    refine m_ldc2 F kc_X10_299 e_X10_putOff_54 ?_
    exact m_lret F hQ e_X10_putOff_57 (⟨u, by omega, L, hok, h6800, _, rfl⟩)
  · subst e6805
    refine m_if_eq F e_X10_putOff_10 (fun q => absurd q (by decide)) (fun _ => ?_)
    have hl6806 := hok.2 n6802 (by omega)
    have hl6807 := hok.2 n6802 (by omega)
    have hl6808 := hok.2 n6802 (by omega)
    refine m_iload_n F rfl e_X10_putOff_13 ?_
    refine m_i2l F e_X10_putOff_14 ?_
    refine m_aload_n F rfl e_X10_putOff_15 ?_
    refine r_get F e_X10_putOff_16 fl_X10_59 h6800 rfl (fun v hv f6809 => ?_)
    obtain rfl : v = .ref (c + 16) := hv
    refine m_sipush F (v := 160) (by decide) e_X10_putOff_19 ?_
    refine m_iload_n F rfl e_X10_putOff_22 ?_
    refine m_imul F e_X10_putOff_23 ?_
    refine Wm.topE (w := nI (160 * n6802)) (pk_mul 160 n6802) ?_
    refine m_iconst F (v := 5) (by decide) e_X10_putOff_24 ?_
    refine m_iadd F e_X10_putOff_25 ?_
    refine Wm.topE (w := nI (160 * n6802 + 5)) (nI_add (160 * n6802) 5) ?_
    refine r_sld F (j := 160 * n6802 + 5) e_X10_putOff_26 h6800 (nI_clamp (by omega)) (vp_in_nI (by omega) (by decide)) (fun x6810 h6811 f6812 => ?_)
    have hl6813 := hok.2 n6802 (by omega)
    obtain rfl : x6810 = lN (L n6802).2.2.2 := (EJ_l (l := n6802) (r := 5) (by omega) (by decide)).mp h6811
    refine m_lcmp F e_X10_putOff_27 ?_
    refine m_if_le F e_X10_putOff_28 (fun q28 => ?_) (fun q28 => ?_)
    · refine m_ldc2 F kc_X10_299 e_X10_putOff_54 ?_
      exact m_lret F hQ e_X10_putOff_57 (⟨u, by omega, L, hok, h6800, _, rfl⟩)
    · obtain ⟨n6814, gn6814, hn6814, rfl⟩ := i2l_gt (x := x902) (g := (L n6802).2.2.2) (by omega) (fun e => q28 ((lg_cmp_le _ _).mpr e))
      refine m_iload_n F rfl e_X10_putOff_31 ?_
      refine m_iload_n F rfl e_X10_putOff_32 ?_
      refine m_icmp_le F e_X10_putOff_33 (fun q33 => ?_) (fun q33 => ?_)
      · refine m_ldc2 F kc_X10_299 e_X10_putOff_54 ?_
        exact m_lret F hQ e_X10_putOff_57 (⟨u, by omega, L, hok, h6800, _, rfl⟩)
      · obtain ⟨n6815, hn6815, rfl⟩ := nI_nn (x := x903) (fun e => q33 (Int32.le_trans (Int32.le_of_lt e) (nI_0le (by omega))))
        have c33 : n6815 > n6814 := by have hh := mt (nI_leI (a := n6815) (b := n6814) (by omega) (by omega)).mpr q33; omega
        refine m_iload_n F rfl e_X10_putOff_36 ?_
        refine m_i2l F e_X10_putOff_37 ?_
        refine Wm.toplE (w := lN n6815) (nI_l (by omega)) ?_
        refine m_aload_n F rfl e_X10_putOff_38 ?_
        refine r_getC F e_X10_putOff_39 fl_X10_59 h6800 (f6809) ?_
        refine m_sipush F (v := 160) (by decide) e_X10_putOff_42 ?_
        refine m_iload_n F rfl e_X10_putOff_45 ?_
        refine m_imul F e_X10_putOff_46 ?_
        refine Wm.topE (w := nI (160 * n6802)) (pk_mul 160 n6802) ?_
        refine m_iconst F (v := 1) (by decide) e_X10_putOff_47 ?_
        refine m_iadd F e_X10_putOff_48 ?_
        refine Wm.topE (w := nI (160 * n6802 + 1)) (nI_add (160 * n6802) 1) ?_
        refine r_sld F (j := 160 * n6802 + 1) e_X10_putOff_49 h6800 (nI_clamp (by omega)) (vp_in_nI (by omega) (by decide)) (fun x6816 h6817 f6818 => ?_)
        have hl6819 := hok.2 n6802 (by omega)
        obtain rfl : x6816 = lN (L n6802).2.1 := (EJ_l (l := n6802) (r := 1) (by omega) (by decide)).mp h6817
        refine m_lcmp F e_X10_putOff_50 ?_
        refine m_if_le F e_X10_putOff_51 (fun q51 => ?_) (fun q51 => ?_)
        · have c51 : n6815 ≤ ((L n6802).2.1) := (lN_le (a := n6815) (b := ((L n6802).2.1)) (by omega) (by omega)).mp ((lg_cmp_le _ _).mp q51)
          refine m_aload_n F rfl e_X10_putOff_58 ?_
          refine r_callV F e_X10_putOff_59 (q_X10_remembers (x_l X) V c T Z u h P L _ _  h6800.1 (hok) hP (by first | omega | assumption | decide) (by first | omega | assumption | decide)) cb_X10_remembers ml_X10_286 im_X10_remembers se_X10_remembers h6800 rfl rfl (rest := []) rfl (Nat.le_of_ble_eq_true rfl) ⟨Nat.le_of_ble_eq_true rfl, Nat.le_of_ble_eq_true rfl⟩ ⟨Nat.le_of_ble_eq_true rfl, Nat.le_of_ble_eq_true rfl⟩ (fun r σ6820 hp => ?_)
          obtain ⟨u6823, hu6823, h6821, rfl⟩ := hp
          have h6822 := HS.trans h6800 h6821 (by decide)
          refine m_sipush F (v := 160) (by decide) e_X10_putOff_62 ?_
          refine m_iload_n F rfl e_X10_putOff_65 ?_
          refine m_imul F e_X10_putOff_66 ?_
          refine Wm.topE (w := nI (160 * n6802)) (pk_mul 160 n6802) ?_
          refine m_istore F (lv' := [(4, .int (nI (160 * n6802))), (0, .ref c), (1, .int (nI n6802)), (2, .int (nI n6814)), (3, .int (nI n6815))]) e_X10_putOff_67 (by decide) rfl ?_
          refine m_aload_n F rfl e_X10_putOff_69 ?_
          refine r_get F e_X10_putOff_70 fl_X10_59 h6822 rfl (fun v hv f6824 => ?_)
          obtain rfl : v = .ref (c + 16) := hv
          refine m_iload F rfl e_X10_putOff_73 ?_
          refine m_bipush F (v := 13) (by decide) e_X10_putOff_75 ?_
          refine m_iadd F e_X10_putOff_77 ?_
          refine Wm.topE (w := nI (160 * n6802 + 13)) (nI_add (160 * n6802) 13) ?_
          refine m_iload_n F rfl e_X10_putOff_78 ?_
          refine m_iadd F e_X10_putOff_79 ?_
          refine Wm.topE (w := nI ((160 * n6802 + 13) + n6815)) (nI_add (160 * n6802 + 13) n6815) ?_
          refine m_iconst F (v := 1) (by decide) e_X10_putOff_80 ?_
          refine m_isub F e_X10_putOff_81 ?_
          refine Wm.topE (w := nI (((160 * n6802 + 13) + n6815) - 1)) (pk_sub (a := (160 * n6802 + 13) + n6815) (b := 1) (by omega)) ?_
          refine m_dup2_11 F rfl rfl e_X10_putOff_82 ?_
          refine r_sld F (j := ((160 * n6802 + 13) + n6815) - 1) e_X10_putOff_83 h6822 (nI_clamp (by omega)) (vp_in_nI (by omega) (by decide)) (fun x6825 h6826 f6827 => ?_)
          refine m_aload_n F rfl e_X10_putOff_84 ?_
          refine r_getC F e_X10_putOff_85 fl_X10_59 h6822 (f6824) ?_
          refine m_iload F rfl e_X10_putOff_88 ?_
          refine m_bipush F (v := 13) (by decide) e_X10_putOff_90 ?_
          refine m_iadd F e_X10_putOff_92 ?_
          refine Wm.topE (w := nI (160 * n6802 + 13)) (nI_add (160 * n6802) 13) ?_
          refine m_iload_n F rfl e_X10_putOff_93 ?_
          refine m_iadd F e_X10_putOff_94 ?_
          refine Wm.topE (w := nI ((160 * n6802 + 13) + n6814)) (nI_add (160 * n6802 + 13) n6814) ?_
          refine m_iconst F (v := 1) (by decide) e_X10_putOff_95 ?_
          refine m_isub F e_X10_putOff_96 ?_
          refine Wm.topE (w := nI (((160 * n6802 + 13) + n6814) - 1)) (pk_sub (a := (160 * n6802 + 13) + n6814) (b := 1) (by omega)) ?_
          refine r_sld F (j := ((160 * n6802 + 13) + n6814) - 1) e_X10_putOff_97 h6822 (nI_clamp (by omega)) (vp_in_nI (by omega) (by decide)) (fun x6828 h6829 f6830 => ?_)
          refine m_ladd F e_X10_putOff_98 ?_
          refine Wm.topl (fun x6831 _ => ?_)
          refine r_sst F (g' := (⟨T, Z, u6823, h, P, L⟩ : RG)) (j := ((160 * n6802 + 13) + n6815) - 1) e_X10_putOff_99 h6822 (by decide) (nI_clamp (by omega)) (vp_in_nI (by omega) (by decide)) (fun f q => EJ_same (EJ_lw (l := n6802) (r := (((160 * n6802 + 13) + n6815) - 1) - 160 * n6802) (by omega) (by omega) (by omega)) q) (fun _ _ _ q => q) (fun σ6832 h6833 g6834 => ?_)
          refine m_aload_n F rfl e_X10_putOff_100 ?_
          refine r_getC F e_X10_putOff_101 fl_X10_59 h6833 ((fld_eq (g6834 _ (by omega))).trans f6824) ?_
          refine m_iload F rfl e_X10_putOff_104 ?_
          refine m_bipush F (v := 85) (by decide) e_X10_putOff_106 ?_
          refine m_iadd F e_X10_putOff_108 ?_
          refine Wm.topE (w := nI (160 * n6802 + 85)) (nI_add (160 * n6802) 85) ?_
          refine m_iload_n F rfl e_X10_putOff_109 ?_
          refine m_iadd F e_X10_putOff_110 ?_
          refine Wm.topE (w := nI ((160 * n6802 + 85) + n6815)) (nI_add (160 * n6802 + 85) n6815) ?_
          refine m_iconst F (v := 1) (by decide) e_X10_putOff_111 ?_
          refine m_isub F e_X10_putOff_112 ?_
          refine Wm.topE (w := nI (((160 * n6802 + 85) + n6815) - 1)) (pk_sub (a := (160 * n6802 + 85) + n6815) (b := 1) (by omega)) ?_
          refine m_dup2_11 F rfl rfl e_X10_putOff_113 ?_
          refine r_sld F (j := ((160 * n6802 + 85) + n6815) - 1) e_X10_putOff_114 h6833 (nI_clamp (by omega)) (vp_in_nI (by omega) (by decide)) (fun x6835 h6836 f6837 => ?_)
          refine m_aload_n F rfl e_X10_putOff_115 ?_
          refine r_getC F e_X10_putOff_116 fl_X10_59 h6833 ((fld_eq (g6834 _ (by omega))).trans f6824) ?_
          refine m_iload F rfl e_X10_putOff_119 ?_
          refine m_bipush F (v := 85) (by decide) e_X10_putOff_121 ?_
          refine m_iadd F e_X10_putOff_123 ?_
          refine Wm.topE (w := nI (160 * n6802 + 85)) (nI_add (160 * n6802) 85) ?_
          refine m_iload_n F rfl e_X10_putOff_124 ?_
          refine m_iadd F e_X10_putOff_125 ?_
          refine Wm.topE (w := nI ((160 * n6802 + 85) + n6814)) (nI_add (160 * n6802 + 85) n6814) ?_
          refine m_iconst F (v := 1) (by decide) e_X10_putOff_126 ?_
          refine m_isub F e_X10_putOff_127 ?_
          refine Wm.topE (w := nI (((160 * n6802 + 85) + n6814) - 1)) (pk_sub (a := (160 * n6802 + 85) + n6814) (b := 1) (by omega)) ?_
          refine r_sld F (j := ((160 * n6802 + 85) + n6814) - 1) e_X10_putOff_128 h6833 (nI_clamp (by omega)) (vp_in_nI (by omega) (by decide)) (fun x6838 h6839 f6840 => ?_)
          refine m_ladd F e_X10_putOff_129 ?_
          refine Wm.topl (fun x6841 _ => ?_)
          refine r_sst F (g' := (⟨T, Z, u6823, h, P, L⟩ : RG)) (j := ((160 * n6802 + 85) + n6815) - 1) e_X10_putOff_130 h6833 (by decide) (nI_clamp (by omega)) (vp_in_nI (by omega) (by decide)) (fun f q => EJ_same (EJ_lw (l := n6802) (r := (((160 * n6802 + 85) + n6815) - 1) - 160 * n6802) (by omega) (by omega) (by omega)) q) (fun _ _ _ q => q) (fun σ6842 h6843 g6844 => ?_)
          refine m_aload_n F rfl e_X10_putOff_131 ?_
          refine r_getC F e_X10_putOff_132 fl_X10_59 h6843 ((fld_eq (g6844 _ (by omega))).trans ((fld_eq (g6834 _ (by omega))).trans f6824)) ?_
          refine m_iload F rfl e_X10_putOff_135 ?_
          refine m_bipush F (v := 13) (by decide) e_X10_putOff_137 ?_
          refine m_iadd F e_X10_putOff_139 ?_
          refine Wm.topE (w := nI (160 * n6802 + 13)) (nI_add (160 * n6802) 13) ?_
          refine m_iload_n F rfl e_X10_putOff_140 ?_
          refine m_iadd F e_X10_putOff_141 ?_
          refine Wm.topE (w := nI ((160 * n6802 + 13) + n6814)) (nI_add (160 * n6802 + 13) n6814) ?_
          refine m_iconst F (v := 1) (by decide) e_X10_putOff_142 ?_
          refine m_isub F e_X10_putOff_143 ?_
          refine Wm.topE (w := nI (((160 * n6802 + 13) + n6814) - 1)) (pk_sub (a := (160 * n6802 + 13) + n6814) (b := 1) (by omega)) ?_
          refine m_lconst F (v := 0) (by decide) e_X10_putOff_144 ?_
          refine r_sst F (g' := (⟨T, Z, u6823, h, P, L⟩ : RG)) (j := ((160 * n6802 + 13) + n6814) - 1) e_X10_putOff_145 h6843 (by decide) (nI_clamp (by omega)) (vp_in_nI (by omega) (by decide)) (fun f q => EJ_same (EJ_lw (l := n6802) (r := (((160 * n6802 + 13) + n6814) - 1) - 160 * n6802) (by omega) (by omega) (by omega)) q) (fun _ _ _ q => q) (fun σ6845 h6846 g6847 => ?_)
          refine m_aload_n F rfl e_X10_putOff_146 ?_
          refine r_getC F e_X10_putOff_147 fl_X10_59 h6846 ((fld_eq (g6847 _ (by omega))).trans ((fld_eq (g6844 _ (by omega))).trans ((fld_eq (g6834 _ (by omega))).trans f6824))) ?_
          refine m_iload F rfl e_X10_putOff_150 ?_
          refine m_bipush F (v := 85) (by decide) e_X10_putOff_152 ?_
          refine m_iadd F e_X10_putOff_154 ?_
          refine Wm.topE (w := nI (160 * n6802 + 85)) (nI_add (160 * n6802) 85) ?_
          refine m_iload_n F rfl e_X10_putOff_155 ?_
          refine m_iadd F e_X10_putOff_156 ?_
          refine Wm.topE (w := nI ((160 * n6802 + 85) + n6814)) (nI_add (160 * n6802 + 85) n6814) ?_
          refine m_iconst F (v := 1) (by decide) e_X10_putOff_157 ?_
          refine m_isub F e_X10_putOff_158 ?_
          refine Wm.topE (w := nI (((160 * n6802 + 85) + n6814) - 1)) (pk_sub (a := (160 * n6802 + 85) + n6814) (b := 1) (by omega)) ?_
          refine m_lconst F (v := 0) (by decide) e_X10_putOff_159 ?_
          refine r_sst F (g' := (⟨T, Z, u6823, h, P, L⟩ : RG)) (j := ((160 * n6802 + 85) + n6814) - 1) e_X10_putOff_160 h6846 (by decide) (nI_clamp (by omega)) (vp_in_nI (by omega) (by decide)) (fun f q => EJ_same (EJ_lw (l := n6802) (r := (((160 * n6802 + 85) + n6814) - 1) - 160 * n6802) (by omega) (by omega) (by omega)) q) (fun _ _ _ q => q) (fun σ6848 h6849 g6850 => ?_)
          refine m_aload_n F rfl e_X10_putOff_161 ?_
          refine m_iload_n F rfl e_X10_putOff_162 ?_
          refine r_callV F e_X10_putOff_163 (q_X10_remeasures (x_l X) V c T Z u6823 h P L _ _ n6802 h6849.1 (hok.b) hP (by omega)) cb_X10_remeasures ml_X10_277 im_X10_remeasures se_X10_remeasures h6849 rfl rfl (rest := []) rfl (Nat.le_of_ble_eq_true rfl) ⟨Nat.le_of_ble_eq_true rfl, Nat.le_of_ble_eq_true rfl⟩ ⟨Nat.le_of_ble_eq_true rfl, Nat.le_of_ble_eq_true rfl⟩ (fun r σ6851 hp => ?_)
          obtain ⟨h6852, x6854, rfl⟩ := hp
          have h6853 := HS.trans h6849 h6852 (by decide)
          exact m_lret F hQ e_X10_putOff_166 (⟨u6823, by omega, L, hok, h6853, _, rfl⟩)
        · have c51 : n6815 > ((L n6802).2.1) := by have hh := mt (fun h9 => (lg_cmp_le (lN n6815) (lN ((L n6802).2.1))).mpr ((lN_le (a := n6815) (b := ((L n6802).2.1)) (by omega) (by omega)).mpr h9)) q51; omega
          refine m_ldc2 F kc_X10_299 e_X10_putOff_54 ?_
          exact m_lret F hQ e_X10_putOff_57 (⟨u, by omega, L, hok, h6800, _, rfl⟩)
set_option maxRecDepth 20000 in
theorem lq_X10_becomes_58 {V : VX} {X : MX} {N : Nat} {σ : Mem} {c T Z u h : Nat} {P : NP} {L : Nat → LQ}  {n901 : Nat} (F : Fx V X yX10_becomes cX10_becomes 6 none (rmd 0 0 0)) (hQ : Rt V X 0 0 N (fun r τ => HS V c (⟨T, Z, u, h, P, L⟩ : RG) [0, 1, 2, 3, 4, 5, 6, 7, 8, 9, 10, 11, 12, 13, 14, 15, 16, 18, 19, 20, 21, 22, 23] σ τ ∧ r = none)) (hob : OKB L) (hP : OKP P) (hn901 : n901 ≤ 2000) (hp0 : 1 ≤ n901)  : ∀ (fuel : Nat) (t : Nat) (k : Nat) (τ : Mem), HS V c (⟨T, Z, u, h, P, L⟩ : RG) [0, 1, 2, 3, 4, 5, 6, 7, 8, 9, 10, 11, 12, 13, 14, 15, 16, 18, 19, 20, 21, 22, 23] σ τ → t ≤ 100 ∧ k ≤ 100 → 100 - k < fuel → Wm V X 6 N τ 0 0 58 [(0, .ref c), (1, .long (lN n901)), (4, .int (nI t)), (5, .int (nI k))] [] := by
  intro fuel
  induction fuel with
  | zero => intros; rename_i hm; exact absurd hm (Nat.not_lt_zero _)
  | succ fuel ih =>
    intro t k τ h1 hi hm
    have hPP := hP
    unfold OKP at hPP
    refine m_iload F rfl e_X10_becomes_58 ?_
    refine m_iload F rfl e_X10_becomes_60 ?_
    refine m_icmp_ge F e_X10_becomes_62 (fun q62 => ?_) (fun q62 => ?_)
    · have c62 : k ≥ t := (nI_leI (a := t) (b := k) (by omega) (by omega)).mp q62
      exact m_vret F hQ e_X10_becomes_83 (⟨h1, rfl⟩)
    · have c62 : k < t := by have hh := mt (nI_leI (a := t) (b := k) (by omega) (by omega)).mpr q62; omega
      refine m_aload_n F rfl e_X10_becomes_65 ?_
      refine r_get F e_X10_becomes_66 fl_X10_59 h1 rfl (fun v hv f6855 => ?_)
      obtain rfl : v = .ref (c + 16) := hv
      refine m_sipush F (v := 644) (by decide) e_X10_becomes_69 ?_
      refine m_iload F rfl e_X10_becomes_72 ?_
      refine m_iadd F e_X10_becomes_74 ?_
      refine Wm.topE (w := nI (644 + k)) (nI_add 644 k) ?_
      refine m_lload_n F rfl e_X10_becomes_75 ?_
      refine r_sst F (g' := (⟨T, Z, u, h, P, L⟩ : RG)) (j := 644 + k) e_X10_becomes_76 h1 (by decide) (nI_clamp (by omega)) (vp_in_nI (by omega) (by decide)) (fun f q => EJ_same ((EJ_i (p := k) (by omega)).mpr ⟨n901, by omega, by omega, rfl⟩) q) (fun _ _ _ q => q) (fun σ6856 h6857 g6858 => ?_)
      refine m_iinc F (v := nI (k + 1)) (lv' := [(5, .int (nI (k + 1))), (0, .ref c), (1, .long (lN n901)), (4, .int (nI t))]) e_X10_becomes_77 rfl (nI_add k 1) (by decide) rfl ?_
      refine m_goto F e_X10_becomes_80 ?_
      refine Wm.lvsub (lv' := [(0, .ref c), (1, .long (lN n901)), (4, .int (nI t)), (5, .int (nI (k + 1)))]) ?_ [1, 2, 3, 0] rfl
      exact ih t (k + 1) _ h6857 (by omega) (by omega)
set_option maxRecDepth 20000 in
theorem lq_X10_becomes_24 {V : VX} {X : MX} {N : Nat} {σ : Mem} {c T Z u h : Nat} {P : NP} {L : Nat → LQ}  {n901 : Nat} (F : Fx V X yX10_becomes cX10_becomes 6 none (rmd 0 0 0)) (hQ : Rt V X 0 0 N (fun r τ => HS V c (⟨T, Z, u, h, P, L⟩ : RG) [0, 1, 2, 3, 4, 5, 6, 7, 8, 9, 10, 11, 12, 13, 14, 15, 16, 18, 19, 20, 21, 22, 23] σ τ ∧ r = none)) (hob : OKB L) (hP : OKP P) (hn901 : n901 ≤ 2000) (hp0 : 1 ≤ n901)  : ∀ (fuel : Nat) (t : Nat) (k : Nat) (τ : Mem), HS V c (⟨T, Z, u, h, P, L⟩ : RG) [0, 1, 2, 3, 4, 5, 6, 7, 8, 9, 10, 11, 12, 13, 14, 15, 16, 18, 19, 20, 21, 22, 23] σ τ → t ≤ 100 ∧ k ≤ 7 → k < fuel → Wm V X 6 N τ 0 0 24 [(0, .ref c), (1, .long (lN n901)), (3, .int (nI ((L 4).1))), (4, .int (nI t)), (5, .int (nI k))] [] := by
  intro fuel
  induction fuel with
  | zero => intros; rename_i hm; exact absurd hm (Nat.not_lt_zero _)
  | succ fuel ih =>
    intro t k τ h1 hi hm
    have hPP := hP
    unfold OKP at hPP
    refine m_iload F rfl e_X10_becomes_24 ?_
    refine m_if_lt F e_X10_becomes_26 (fun q26 => ?_) (fun q26 => ?_)
    · have c26 : k < 0 := (nI_ltI (a := k) (b := 0) (by omega) (by omega)).mp q26
      have hl6859 := (hob).1
      have hl6860 := (hob).1
      have hl6861 := (hob).1
      refine m_iload_n F rfl e_X10_becomes_55 ?_
      refine m_istore F (lv' := [(5, .int (nI ((L 4).1))), (0, .ref c), (1, .long (lN n901)), (3, .int (nI ((L 4).1))), (4, .int (nI t))]) e_X10_becomes_56 (by decide) rfl ?_
      refine Wm.lvsub (lv' := [(0, .ref c), (1, .long (lN n901)), (4, .int (nI t)), (5, .int (nI ((L 4).1)))]) ?_ [1, 2, 4, 0] rfl
      exact lq_X10_becomes_58 F hQ hob hP hn901 hp0 (100 - ((L 4).1) + 1) t ((L 4).1) _ h1 (by omega) (Nat.lt_succ_self _)
    · have c26 : k ≥ 0 := by have hh := mt (nI_ltI (a := k) (b := 0) (by omega) (by omega)).mpr q26; omega
      have hl6862 := (hob).1
      have hl6863 := (hob).1
      have hl6864 := (hob).1
      refine m_aload_n F rfl e_X10_becomes_29 ?_
      refine r_get F e_X10_becomes_30 fl_X10_40 h1 rfl (fun v hv f6865 => ?_)
      obtain rfl : v = .ref (c + 11) := hv
      refine m_iload F rfl e_X10_becomes_33 ?_
      refine r_iald F (len := 16) (j := k) e_X10_becomes_35 h1 (fun _ h => h) (by decide) (nI_clamp (by omega)) (vp_in_nI (by omega) (by decide)) (fun x6866 h6867 f6868 => ?_)
      obtain ⟨n6869, hn6869, rfl⟩ := h6867
      refine m_iload_n F rfl e_X10_becomes_36 ?_
      refine m_icmp_le F e_X10_becomes_37 (fun q37 => ?_) (fun q37 => ?_)
      · have c37 : n6869 ≤ ((L 4).1) := (nI_leI (a := n6869) (b := ((L 4).1)) (by omega) (by omega)).mp q37
        rcases Nat.eq_zero_or_pos (k) with e49 | e49
        · subst e49
          refine m_iinc F (v := -1) (lv' := [(5, .int (-1)), (0, .ref c), (1, .long (lN n901)), (3, .int (nI ((L 4).1))), (4, .int (nI t))]) e_X10_becomes_49 rfl (by decide) (by decide) rfl ?_
          refine m_goto F e_X10_becomes_52 ?_
          refine Wm.lvsub (lv' := [(0, .ref c), (1, .long (lN n901)), (3, .int (nI ((L 4).1))), (4, .int (nI t)), (5, .int (-1))]) ?_ [1, 2, 3, 4, 0] rfl
          refine m_iload F rfl e_X10_becomes_24 ?_
          refine m_if_lt F e_X10_becomes_26 (fun _ => ?_) (fun q => absurd (by decide) q)
          have hl6870 := (hob).1
          have hl6871 := (hob).1
          have hl6872 := (hob).1
          refine m_iload_n F rfl e_X10_becomes_55 ?_
          refine m_istore F (lv' := [(5, .int (nI ((L 4).1))), (0, .ref c), (1, .long (lN n901)), (3, .int (nI ((L 4).1))), (4, .int (nI t))]) e_X10_becomes_56 (by decide) rfl ?_
          refine Wm.lvsub (lv' := [(0, .ref c), (1, .long (lN n901)), (4, .int (nI t)), (5, .int (nI ((L 4).1)))]) ?_ [1, 2, 4, 0] rfl
          exact lq_X10_becomes_58 F hQ hob hP hn901 hp0 (100 - ((L 4).1) + 1) t ((L 4).1) _ h1 (by omega) (Nat.lt_succ_self _)
        · refine m_iinc F (v := nI (k - 1)) (lv' := [(5, .int (nI (k - 1))), (0, .ref c), (1, .long (lN n901)), (3, .int (nI ((L 4).1))), (4, .int (nI t))]) e_X10_becomes_49 rfl (nI_dec (by omega)) (by decide) rfl ?_
          refine m_goto F e_X10_becomes_52 ?_
          refine Wm.lvsub (lv' := [(0, .ref c), (1, .long (lN n901)), (3, .int (nI ((L 4).1))), (4, .int (nI t)), (5, .int (nI (k - 1)))]) ?_ [1, 2, 3, 4, 0] rfl
          exact ih t (k - 1) _ h1 (by omega) (by omega)
      · have c37 : n6869 > ((L 4).1) := by have hh := mt (nI_leI (a := n6869) (b := ((L 4).1)) (by omega) (by omega)).mpr q37; omega
        refine m_aload_n F rfl e_X10_becomes_40 ?_
        refine r_getC F e_X10_becomes_41 fl_X10_40 h1 (f6865) ?_
        refine m_iload F rfl e_X10_becomes_44 ?_
        refine r_iald F (len := 16) (j := k) e_X10_becomes_46 h1 (fun _ h => h) (by decide) (nI_clamp (by omega)) (vp_in_nI (by omega) (by decide)) (fun x6873 h6874 f6875 => ?_)
        obtain rfl := Option.some.inj ((f6875).symm.trans (f6868))
        refine m_istore F (lv' := [(4, .int (nI n6869)), (0, .ref c), (1, .long (lN n901)), (3, .int (nI ((L 4).1))), (5, .int (nI k))]) e_X10_becomes_47 (by decide) rfl ?_
        rcases Nat.eq_zero_or_pos (k) with e49 | e49
        · subst e49
          refine m_iinc F (v := -1) (lv' := [(5, .int (-1)), (4, .int (nI n6869)), (0, .ref c), (1, .long (lN n901)), (3, .int (nI ((L 4).1)))]) e_X10_becomes_49 rfl (by decide) (by decide) rfl ?_
          refine m_goto F e_X10_becomes_52 ?_
          refine Wm.lvsub (lv' := [(0, .ref c), (1, .long (lN n901)), (3, .int (nI ((L 4).1))), (4, .int (nI n6869)), (5, .int (-1))]) ?_ [2, 3, 4, 1, 0] rfl
          refine m_iload F rfl e_X10_becomes_24 ?_
          refine m_if_lt F e_X10_becomes_26 (fun _ => ?_) (fun q => absurd (by decide) q)
          have hl6876 := (hob).1
          have hl6877 := (hob).1
          have hl6878 := (hob).1
          refine m_iload_n F rfl e_X10_becomes_55 ?_
          refine m_istore F (lv' := [(5, .int (nI ((L 4).1))), (0, .ref c), (1, .long (lN n901)), (3, .int (nI ((L 4).1))), (4, .int (nI n6869))]) e_X10_becomes_56 (by decide) rfl ?_
          refine Wm.lvsub (lv' := [(0, .ref c), (1, .long (lN n901)), (4, .int (nI n6869)), (5, .int (nI ((L 4).1)))]) ?_ [1, 2, 4, 0] rfl
          exact lq_X10_becomes_58 F hQ hob hP hn901 hp0 (100 - ((L 4).1) + 1) n6869 ((L 4).1) _ h1 (by omega) (Nat.lt_succ_self _)
        · refine m_iinc F (v := nI (k - 1)) (lv' := [(5, .int (nI (k - 1))), (4, .int (nI n6869)), (0, .ref c), (1, .long (lN n901)), (3, .int (nI ((L 4).1)))]) e_X10_becomes_49 rfl (nI_dec (by omega)) (by decide) rfl ?_
          refine m_goto F e_X10_becomes_52 ?_
          refine Wm.lvsub (lv' := [(0, .ref c), (1, .long (lN n901)), (3, .int (nI ((L 4).1))), (4, .int (nI n6869)), (5, .int (nI (k - 1)))]) ?_ [2, 3, 4, 1, 0] rfl
          exact ih n6869 (k - 1) _ h1 (by omega) (by omega)
set_option maxRecDepth 20000 in
theorem q_X10_becomes (l : Launch) (V : VX) (c T Z u h : Nat) (P : NP) (L : Nat → LQ) (N : Nat) (σ : Mem) (n901 : Nat) (h0 : HR V c ⟨T, Z, u, h, P, L⟩ σ) (hob : OKB L) (hP : OKP P) (hn901 : n901 ≤ 2000) (hp0 : 1 ≤ n901) : Ct l V yX10_becomes cX10_becomes 6 none 0 0 0 N σ [.ref c, .long (lN n901)] (fun r τ => HS V c (⟨T, Z, u, h, P, L⟩ : RG) [0, 1, 2, 3, 4, 5, 6, 7, 8, 9, 10, 11, 12, 13, 14, 15, 16, 18, 19, 20, 21, 22, 23] σ τ ∧ r = none) := by
  refine Ct.of (by decide) (Nat.le_of_ble_eq_true rfl) [(0, .ref c), (1, .long (lN n901))] rfl (fun X hX F hQ => ?_)
  have hPP := hP
  unfold OKP at hPP
  have h1 : HS V c ⟨T, Z, u, h, P, L⟩ [0, 1, 2, 3, 4, 5, 6, 7, 8, 9, 10, 11, 12, 13, 14, 15, 16, 18, 19, 20, 21, 22, 23] σ σ := HS.start h0
  refine m_aload_n F rfl e_X10_becomes_0 ?_
  refine r_get F e_X10_becomes_1 fl_X10_59 h1 rfl (fun v hv f6879 => ?_)
  obtain rfl : v = .ref (c + 16) := hv
  refine m_sipush F (v := 744) (by decide) e_X10_becomes_4 ?_
  refine r_sld F (j := 744) e_X10_becomes_7 h1 (by decide) (by unfold vp_in; decide) (fun x6880 h6881 f6882 => ?_)
  have hl6883 := hob.1
  obtain rfl : x6880 = lN (L 4).1 := EJ_p.mp h6881
  refine m_l2i F e_X10_becomes_8 ?_
  refine Wm.topE (w := nI ((L 4).1)) (lN_i ((L 4).1)) ?_
  refine m_istore_n F (lv' := [(3, .int (nI ((L 4).1))), (0, .ref c), (1, .long (lN n901))]) e_X10_becomes_9 (by decide) rfl ?_
  refine m_bipush F (v := 100) (by decide) e_X10_becomes_10 ?_
  refine m_istore F (lv' := [(4, .int 100), (3, .int (nI ((L 4).1))), (0, .ref c), (1, .long (lN n901))]) e_X10_becomes_12 (by decide) rfl ?_
  refine m_aload_n F rfl e_X10_becomes_14 ?_
  refine r_get F e_X10_becomes_15 fl_X10_13 h1 rfl (fun v hv f6884 => ?_)
  obtain rfl : v = .ref (c + 2) := hv
  refine m_iconst F (v := 2) (by decide) e_X10_becomes_18 ?_
  refine r_iald F (len := 10) (j := 2) e_X10_becomes_19 h1 (fun _ h => h) (by decide) (by decide) (by unfold vp_in; decide) (fun x6885 h6886 f6887 => ?_)
  obtain rfl : x6885 = nI P.n2 := h6886.2.1 rfl
  refine m_iconst F (v := 1) (by decide) e_X10_becomes_20 ?_
  refine m_isub F e_X10_becomes_21 ?_
  rcases Nat.eq_zero_or_pos (P.n2) with e21 | e21
  · rw [e21]
    refine Wm.topE (w := -1) (by decide) ?_
    refine m_istore F (lv' := [(5, .int (-1)), (4, .int 100), (3, .int (nI ((L 4).1))), (0, .ref c), (1, .long (lN n901))]) e_X10_becomes_22 (by decide) rfl ?_
    refine Wm.lvsub (lv' := [(0, .ref c), (1, .long (lN n901)), (3, .int (nI ((L 4).1))), (4, .int 100), (5, .int (-1))]) ?_ [3, 4, 2, 1, 0] rfl
    refine m_iload F rfl e_X10_becomes_24 ?_
    refine m_if_lt F e_X10_becomes_26 (fun _ => ?_) (fun q => absurd (by decide) q)
    have hl6888 := (hob).1
    have hl6889 := (hob).1
    have hl6890 := (hob).1
    refine m_iload_n F rfl e_X10_becomes_55 ?_
    refine m_istore F (lv' := [(5, .int (nI ((L 4).1))), (0, .ref c), (1, .long (lN n901)), (3, .int (nI ((L 4).1))), (4, .int 100)]) e_X10_becomes_56 (by decide) rfl ?_
    refine Wm.lvsub (lv' := [(0, .ref c), (1, .long (lN n901)), (4, .int 100), (5, .int (nI ((L 4).1)))]) ?_ [1, 2, 4, 0] rfl
    exact lq_X10_becomes_58 F hQ hob hP hn901 hp0 (100 - ((L 4).1) + 1) 100 ((L 4).1) _ h1 (by omega) (Nat.lt_succ_self _)
  · refine Wm.topE (w := nI (P.n2 - 1)) (pk_sub (a := P.n2) (b := 1) (by omega)) ?_
    refine m_istore F (lv' := [(5, .int (nI (P.n2 - 1))), (4, .int 100), (3, .int (nI ((L 4).1))), (0, .ref c), (1, .long (lN n901))]) e_X10_becomes_22 (by decide) rfl ?_
    refine Wm.lvsub (lv' := [(0, .ref c), (1, .long (lN n901)), (3, .int (nI ((L 4).1))), (4, .int 100), (5, .int (nI (P.n2 - 1)))]) ?_ [3, 4, 2, 1, 0] rfl
    exact lq_X10_becomes_24 F hQ hob hP hn901 hp0 ((P.n2 - 1) + 1) 100 (P.n2 - 1) _ h1 (by omega) (Nat.lt_succ_self _)
set_option maxRecDepth 20000 in
theorem q_X10_become (l : Launch) (V : VX) (c T Z u h : Nat) (P : NP) (L : Nat → LQ) (N : Nat) (σ : Mem) (x901 : Int32) (h0 : HR V c ⟨T, Z, u, h, P, L⟩ σ) (hok : OKL P.n0 L) (hP : OKP P) (hp0 : u ≤ 20) (hp1 : P.kk = P.n0) : Ct l V yX10_become cX10_become 3 (some .int) 2 0 0 N σ [.ref c, .int x901] (fun r τ => ∃ u9, u9 ≤ 20 ∧ ∃ L9, OKL P.n0 L9 ∧ HS V c (⟨T, Z, u9, h, P, L9⟩ : RG) [0, 2, 3, 4, 5, 6, 7, 8, 9, 10, 11, 12, 13, 14, 15, 16, 18, 19, 20, 22, 23] σ τ ∧ ∃ x : Int32, r = some (.int x)) := by
  refine Ct.of (by decide) (Nat.le_of_ble_eq_true rfl) [(0, .ref c), (1, .int x901)] rfl (fun X hX F hQ => ?_)
  have hPP := hP
  unfold OKP at hPP
  have h1 : HS V c ⟨T, Z, u, h, P, L⟩ [0, 2, 3, 4, 5, 6, 7, 8, 9, 10, 11, 12, 13, 14, 15, 16, 18, 19, 20, 22, 23] σ σ := HS.start h0
  refine m_aload_n F rfl e_X10_become_0 ?_
  refine m_iconst F (v := 0) (by decide) e_X10_become_1 ?_
  refine r_put F (g' := (⟨T, Z, u, h, P, L⟩ : RG)) e_X10_become_2 fp_X10_91 h1 (by decide) ⟨_, rfl⟩ (fun _ _ _ _ q => q) (fun _ _ _ q => q) rfl rfl (by decide) (fun σ6891 h6892 g6893 g6894 f6895 => ?_)
  refine m_iload_n F rfl e_X10_become_5 ?_
  refine m_sipush F (v := 500) (by decide) e_X10_become_6 ?_
  refine m_icmp_lt F e_X10_become_9 (fun q9 => ?_) (fun q9 => ?_)
  · refine m_iconst F (v := (-1)) (by decide) e_X10_become_19 ?_
    exact m_iret F hQ e_X10_become_20 (⟨u, by omega, L, hok, h6892, _, rfl⟩)
  · obtain ⟨n6896, hn6896, rfl⟩ := nI_nn (x := x901) (fun e => q9 (Int32.lt_of_lt_of_le e (by decide)))
    have c9 : n6896 ≥ 500 := by have hh := mt (nI_ltI (a := n6896) (b := 500) (by omega) (by omega)).mpr q9; omega
    refine m_iload_n F rfl e_X10_become_12 ?_
    refine m_sipush F (v := 2000) (by decide) e_X10_become_13 ?_
    refine m_icmp_le F e_X10_become_16 (fun q16 => ?_) (fun q16 => ?_)
    · have c16 : n6896 ≤ 2000 := (nI_leI (a := n6896) (b := 2000) (by omega) (by omega)).mp q16
      refine m_aload_n F rfl e_X10_become_21 ?_
      refine r_callV F e_X10_become_22 (q_X10_indexNow (x_l X) V c T Z u h P L _ _  h6892.1 (hok.b) hP ) cb_X10_indexNow ml_X10_260 im_X10_indexNow se_X10_indexNow h6892 rfl rfl (rest := []) rfl (Nat.le_of_ble_eq_true rfl) ⟨Nat.le_of_ble_eq_true rfl, Nat.le_of_ble_eq_true rfl⟩ ⟨Nat.le_of_ble_eq_true rfl, Nat.le_of_ble_eq_true rfl⟩ (fun r σ6897 hp => ?_)
      obtain ⟨h6898, n6900, hn6900, gn6900, rfl⟩ := hp
      have h6899 := HS.trans h6892 h6898 (by decide)
      refine m_l2i F e_X10_become_25 ?_
      refine Wm.topE (w := nI n6900) (lN_i n6900) ?_
      refine m_istore_n F (lv' := [(2, .int (nI n6900)), (0, .ref c), (1, .int (nI n6896))]) e_X10_become_26 (by decide) rfl ?_
      refine m_aload_n F rfl e_X10_become_27 ?_
      refine r_callV F e_X10_become_28 (q_X10_remembers (x_l X) V c T Z u h P L _ _  h6899.1 (hok) hP (by first | omega | assumption | decide) (by first | omega | assumption | decide)) cb_X10_remembers ml_X10_286 im_X10_remembers se_X10_remembers h6899 rfl rfl (rest := []) rfl (Nat.le_of_ble_eq_true rfl) ⟨Nat.le_of_ble_eq_true rfl, Nat.le_of_ble_eq_true rfl⟩ ⟨Nat.le_of_ble_eq_true rfl, Nat.le_of_ble_eq_true rfl⟩ (fun r σ6901 hp => ?_)
      obtain ⟨u6904, hu6904, h6902, rfl⟩ := hp
      have h6903 := HS.trans h6899 h6902 (by decide)
      refine m_aload_n F rfl e_X10_become_31 ?_
      refine m_iload_n F rfl e_X10_become_32 ?_
      refine m_i2l F e_X10_become_33 ?_
      refine Wm.toplE (w := lN n6896) (nI_l (by omega)) ?_
      refine r_callV F e_X10_become_34 (q_X10_becomes (x_l X) V c T Z u6904 h P L _ _ n6896 h6903.1 (hok.b) hP (by omega) (by first | omega | assumption | decide)) cb_X10_becomes ml_X10_322 im_X10_becomes se_X10_becomes h6903 rfl rfl (rest := []) rfl (Nat.le_of_ble_eq_true rfl) ⟨Nat.le_of_ble_eq_true rfl, Nat.le_of_ble_eq_true rfl⟩ ⟨Nat.le_of_ble_eq_true rfl, Nat.le_of_ble_eq_true rfl⟩ (fun r σ6905 hp => ?_)
      obtain ⟨h6906, rfl⟩ := hp
      have h6907 := HS.trans h6903 h6906 (by decide)
      refine m_iload_n F rfl e_X10_become_37 ?_
      exact m_iret F hQ e_X10_become_38 (⟨u6904, by omega, L, hok, h6907, _, rfl⟩)
    · have c16 : n6896 > 2000 := by have hh := mt (nI_leI (a := n6896) (b := 2000) (by omega) (by omega)).mpr q16; omega
      refine m_iconst F (v := (-1)) (by decide) e_X10_become_19 ?_
      exact m_iret F hQ e_X10_become_20 (⟨u, by omega, L, hok, h6892, _, rfl⟩)
set_option maxRecDepth 20000 in
theorem lq_X10_divisor_6 {V : VX} {X : MX} {N : Nat} {σ : Mem}  {x901 : Int64} {x902 : Int64} (F : Fx V X yX10_divisor cX10_divisor 10 (some .long) (rmd 0 0 0)) (hQ : Rt V X 0 0 N (fun r τ => τ = σ ∧ ∃ x : Int64, x ≠ 0 ∧ r = some (.long x)))  (hp0 : x902 ≠ 0)  : ∀ (fuel : Nat) (w1 : Int64) (w2 : Int64) , (w1 ≠ 0 ∨ w2 ≠ 0) → w2.toInt.natAbs < fuel → Wm V X 10 N σ 0 0 6 [(4, .long w1), (6, .long w2), (0, .long x901), (2, .long x902)] [] := by
  intro fuel
  induction fuel with
  | zero => intros; rename_i hm; exact absurd hm (Nat.not_lt_zero _)
  | succ fuel ih =>
    intro w1 w2 hi hm
    refine m_lload F rfl e_X10_divisor_6 ?_
    refine m_lconst F (v := 0) (by decide) e_X10_divisor_8 ?_
    refine m_lcmp F e_X10_divisor_9 ?_
    refine m_if_eq F e_X10_divisor_10 (fun q10 => ?_) (fun q10 => ?_)
    · have e0 : w2 = 0 := (lg_cmp_eq _ _).mp q10
      refine m_lload F rfl e_X10_divisor_31 ?_
      exact m_lret F hQ e_X10_divisor_33 (⟨rfl, w1, (hi.elim id (fun h => absurd e0 h)), rfl⟩)
    · have e1 : w2 ≠ 0 := fun e => q10 ((lg_cmp_eq _ _).mpr e)
      refine m_lload F rfl e_X10_divisor_13 ?_
      refine m_lload F rfl e_X10_divisor_15 ?_
      refine m_lrem F e1 e_X10_divisor_17 ?_
      refine m_lstore F (lv' := [(8, .long (w1 - w1 / w2 * w2)), (4, .long w1), (6, .long w2), (0, .long x901), (2, .long x902)]) e_X10_divisor_18 (by decide) rfl ?_
      refine m_lload F rfl e_X10_divisor_20 ?_
      refine m_lstore F (lv' := [(4, .long w2), (8, .long (w1 - w1 / w2 * w2)), (6, .long w2), (0, .long x901), (2, .long x902)]) e_X10_divisor_22 (by decide) rfl ?_
      refine m_lload F rfl e_X10_divisor_24 ?_
      refine m_lstore F (lv' := [(6, .long (w1 - w1 / w2 * w2)), (4, .long w2), (8, .long (w1 - w1 / w2 * w2)), (0, .long x901), (2, .long x902)]) e_X10_divisor_26 (by decide) rfl ?_
      refine m_goto F e_X10_divisor_28 ?_
      refine Wm.lvsub (lv' := [(4, .long w2), (6, .long (w1 - w1 / w2 * w2)), (0, .long x901), (2, .long x902)]) ?_ [1, 0, 3, 4] rfl
      exact ih w2 (w1 - w1 / w2 * w2) (Or.inl e1) (Nat.lt_of_lt_of_le (dv_lt e1) (Nat.le_of_lt_succ hm))
set_option maxRecDepth 20000 in
theorem q_X10_divisor (l : Launch) (V : VX) (N : Nat) (σ : Mem) (x901 : Int64) (x902 : Int64) (hp0 : x902 ≠ 0) : Ct l V yX10_divisor cX10_divisor 10 (some .long) 0 0 0 N σ [.long x901, .long x902] (fun r τ => τ = σ ∧ ∃ x : Int64, x ≠ 0 ∧ r = some (.long x)) := by
  refine Ct.of (by decide) (Nat.le_of_ble_eq_true rfl) [(0, .long x901), (2, .long x902)] rfl (fun X hX F hQ => ?_)
  refine m_lload_n F rfl e_X10_divisor_0 ?_
  refine m_lstore F (lv' := [(4, .long x901), (0, .long x901), (2, .long x902)]) e_X10_divisor_1 (by decide) rfl ?_
  refine m_lload_n F rfl e_X10_divisor_3 ?_
  refine m_lstore F (lv' := [(6, .long x902), (4, .long x901), (0, .long x901), (2, .long x902)]) e_X10_divisor_4 (by decide) rfl ?_
  refine Wm.lvsub (lv' := [(4, .long x901), (6, .long x902), (0, .long x901), (2, .long x902)]) ?_ [1, 0, 2, 3] rfl
  exact lq_X10_divisor_6 F hQ  hp0 (x902.toInt.natAbs + 1) x901 x902 (Or.inr hp0) (Nat.lt_succ_self _)
set_option maxRecDepth 20000 in
theorem lq_X10_life_94 {V : VX} {X : MX} {N : Nat} {σ : Mem} {c T Z u h : Nat} {P : NP} {L : Nat → LQ}   (F : Fx V X yX10_life cX10_life 11 (some .long) (rmd 2 0 0)) (hQ : Rt V X 0 0 N (fun r τ => HS V c (⟨T, Z, u, h, P, L⟩ : RG) [0, 2, 3, 4, 5, 6, 7, 8, 9, 10, 11, 12, 13, 14, 15, 16, 17, 18, 19, 20, 21, 22, 23] σ τ ∧ ∃ x : Int64, r = some (.long x))) (hob : OKB L) (hP : OKP P)   : ∀ (fuel : Nat) (a : Nat) (b1 : Int32) (w1 : Int64) (w2 : Int64) (w3 : Int64) (i : Nat) (τ : Mem), HS V c (⟨T, Z, u, h, P, L⟩ : RG) [0, 2, 3, 4, 5, 6, 7, 8, 9, 10, 11, 12, 13, 14, 15, 16, 17, 18, 19, 20, 21, 22, 23] σ τ → a ≤ 3 ∧ i ≤ 72 → 72 - i < fuel → Wm V X 11 N τ 0 0 94 [(0, .ref c), (1, .int (nI a)), (2, .int b1), (3, .int (nI (160 * a))), (4, .long w1), (6, .long w2), (8, .long w3), (10, .int (nI i))] [] := by
  intro fuel
  induction fuel with
  | zero => intros; rename_i hm; exact absurd hm (Nat.not_lt_zero _)
  | succ fuel ih =>
    intro a b1 w1 w2 w3 i τ h1 hi hm
    have hPP := hP
    unfold OKP at hPP
    refine m_iload F rfl e_X10_life_94 ?_
    refine m_i2l F e_X10_life_96 ?_
    refine Wm.toplE (w := lN i) (nI_l (by omega)) ?_
    refine m_aload_n F rfl e_X10_life_97 ?_
    refine r_get F e_X10_life_98 fl_X10_59 h1 rfl (fun v hv f6908 => ?_)
    obtain rfl : v = .ref (c + 16) := hv
    refine m_iload_n F rfl e_X10_life_101 ?_
    refine m_iconst F (v := 1) (by decide) e_X10_life_102 ?_
    refine m_iadd F e_X10_life_103 ?_
    refine Wm.topE (w := nI (160 * a + 1)) (nI_add (160 * a) 1) ?_
    refine r_sld F (j := 160 * a + 1) e_X10_life_104 h1 (nI_clamp (by omega)) (vp_in_nI (by omega) (by decide)) (fun x6909 h6910 f6911 => ?_)
    have hl6912 := hob.2 a (by omega)
    obtain rfl : x6909 = lN (L a).2.1 := (EJ_l (l := a) (r := 1) (by omega) (by decide)).mp h6910
    refine m_lcmp F e_X10_life_105 ?_
    refine m_if_ge F e_X10_life_106 (fun q106 => ?_) (fun q106 => ?_)
    · have c106 : i ≥ ((L a).2.1) := (lN_le (a := ((L a).2.1)) (b := i) (by omega) (by omega)).mp ((lg_cmp_ge _ _).mp q106)
      refine m_lload F rfl e_X10_life_165 ?_
      refine m_lconst F (v := 0) (by decide) e_X10_life_167 ?_
      refine m_lcmp F e_X10_life_168 ?_
      refine m_if_ne F e_X10_life_169 (fun q169 => ?_) (fun q169 => ?_)
      · have e1 : w3 ≠ 0 := fun e => q169 ((lg_cmp_eq _ _).mpr e)
        refine m_iload_n F rfl e_X10_life_176 ?_
        refine m_if_eq F e_X10_life_177 (fun q177 => ?_) (fun q177 => ?_)
        · subst q177
          refine m_lload F rfl e_X10_life_185 ?_
          refine m_lload F rfl e_X10_life_187 ?_
          refine m_lload F rfl e_X10_life_189 ?_
          refine m_callS F e_X10_life_191 (q_X10_divisor (x_l X) V _ _ w2 w3 (by first | omega | assumption | decide)) cb_X10_divisor ml_X10_340 sm_X10_divisor rfl (rest := [.long w2]) rfl (Nat.le_of_ble_eq_true rfl) ⟨Nat.le_of_ble_eq_true rfl, Nat.le_of_ble_eq_true rfl⟩ ⟨Nat.le_of_ble_eq_true rfl, Nat.le_of_ble_eq_true rfl⟩ (k' := 0) (z' := 0) (N' := N) rfl rfl rfl (fun r σ6913 hp => ?_)
          obtain ⟨rfl, x6916, hx6916, rfl⟩ := hp
          refine m_ldiv F (by assumption) e_X10_life_194 ?_
          refine Wm.topl (fun x6917 _ => ?_)
          exact m_lret F hQ e_X10_life_195 (⟨h1, _, rfl⟩)
        · refine m_lload F rfl e_X10_life_180 ?_
          refine m_goto F e_X10_life_182 ?_
          refine m_lload F rfl e_X10_life_187 ?_
          refine m_lload F rfl e_X10_life_189 ?_
          refine m_callS F e_X10_life_191 (q_X10_divisor (x_l X) V _ _ w2 w3 (by first | omega | assumption | decide)) cb_X10_divisor ml_X10_340 sm_X10_divisor rfl (rest := [.long w3]) rfl (Nat.le_of_ble_eq_true rfl) ⟨Nat.le_of_ble_eq_true rfl, Nat.le_of_ble_eq_true rfl⟩ ⟨Nat.le_of_ble_eq_true rfl, Nat.le_of_ble_eq_true rfl⟩ (k' := 0) (z' := 0) (N' := N) rfl rfl rfl (fun r σ6918 hp => ?_)
          obtain ⟨rfl, x6921, hx6921, rfl⟩ := hp
          refine m_ldiv F (by assumption) e_X10_life_194 ?_
          refine Wm.topl (fun x6922 _ => ?_)
          exact m_lret F hQ e_X10_life_195 (⟨h1, _, rfl⟩)
      · refine m_ldc2 F kc_X10_338 e_X10_life_172 ?_
        exact m_lret F hQ e_X10_life_175 (⟨h1, _, rfl⟩)
    · have c106 : i < ((L a).2.1) := by have hh := mt (fun h9 => (lg_cmp_ge (lN i) (lN ((L a).2.1))).mpr ((lN_le (a := ((L a).2.1)) (b := i) (by omega) (by omega)).mpr h9)) q106; omega
      refine m_lload F rfl e_X10_life_109 ?_
      refine m_aload_n F rfl e_X10_life_111 ?_
      refine r_getC F e_X10_life_112 fl_X10_59 h1 (f6908) ?_
      refine m_iload_n F rfl e_X10_life_115 ?_
      refine m_bipush F (v := 13) (by decide) e_X10_life_116 ?_
      refine m_iadd F e_X10_life_118 ?_
      refine Wm.topE (w := nI (160 * a + 13)) (nI_add (160 * a) 13) ?_
      refine m_iload F rfl e_X10_life_119 ?_
      refine m_iadd F e_X10_life_121 ?_
      refine Wm.topE (w := nI ((160 * a + 13) + i)) (nI_add (160 * a + 13) i) ?_
      refine r_sld F (j := (160 * a + 13) + i) e_X10_life_122 h1 (nI_clamp (by omega)) (vp_in_nI (by omega) (by decide)) (fun x6923 h6924 f6925 => ?_)
      refine m_lload F rfl e_X10_life_123 ?_
      refine m_iload F rfl e_X10_life_125 ?_
      refine m_i2l F e_X10_life_127 ?_
      refine Wm.toplE (w := lN i) (nI_l (by omega)) ?_
      refine m_ladd F e_X10_life_128 ?_
      refine Wm.topl (fun x6926 _ => ?_)
      refine m_aload_n F rfl e_X10_life_129 ?_
      refine r_getC F e_X10_life_130 fl_X10_59 h1 (f6908) ?_
      refine m_iload_n F rfl e_X10_life_133 ?_
      refine m_iconst F (v := 5) (by decide) e_X10_life_134 ?_
      refine m_iadd F e_X10_life_135 ?_
      refine Wm.topE (w := nI (160 * a + 5)) (nI_add (160 * a) 5) ?_
      refine r_sld F (j := 160 * a + 5) e_X10_life_136 h1 (nI_clamp (by omega)) (vp_in_nI (by omega) (by decide)) (fun x6927 h6928 f6929 => ?_)
      have hl6930 := hob.2 a (by omega)
      obtain rfl : x6927 = lN (L a).2.2.2 := (EJ_l (l := a) (r := 5) (by omega) (by decide)).mp h6928
      refine m_lsub F e_X10_life_137 ?_
      refine Wm.topl (fun x6931 _ => ?_)
      refine m_lmul F e_X10_life_138 ?_
      refine Wm.topl (fun x6932 _ => ?_)
      refine m_ladd F e_X10_life_139 ?_
      refine Wm.topl (fun x6933 _ => ?_)
      refine m_lstore F (lv' := [(6, .long x6933), (0, .ref c), (1, .int (nI a)), (2, .int b1), (3, .int (nI (160 * a))), (4, .long w1), (8, .long w3), (10, .int (nI i))]) e_X10_life_140 (by decide) rfl ?_
      refine m_lload F rfl e_X10_life_142 ?_
      refine m_aload_n F rfl e_X10_life_144 ?_
      refine r_getC F e_X10_life_145 fl_X10_59 h1 (f6908) ?_
      refine m_iload_n F rfl e_X10_life_148 ?_
      refine m_bipush F (v := 13) (by decide) e_X10_life_149 ?_
      refine m_iadd F e_X10_life_151 ?_
      refine Wm.topE (w := nI (160 * a + 13)) (nI_add (160 * a) 13) ?_
      refine m_iload F rfl e_X10_life_152 ?_
      refine m_iadd F e_X10_life_154 ?_
      refine Wm.topE (w := nI ((160 * a + 13) + i)) (nI_add (160 * a + 13) i) ?_
      refine r_sld F (j := (160 * a + 13) + i) e_X10_life_155 h1 (nI_clamp (by omega)) (vp_in_nI (by omega) (by decide)) (fun x6934 h6935 f6936 => ?_)
      refine m_ladd F e_X10_life_156 ?_
      refine Wm.topl (fun x6937 _ => ?_)
      refine m_lstore F (lv' := [(8, .long x6937), (6, .long x6933), (0, .ref c), (1, .int (nI a)), (2, .int b1), (3, .int (nI (160 * a))), (4, .long w1), (10, .int (nI i))]) e_X10_life_157 (by decide) rfl ?_
      refine m_iinc F (v := nI (i + 1)) (lv' := [(10, .int (nI (i + 1))), (8, .long x6937), (6, .long x6933), (0, .ref c), (1, .int (nI a)), (2, .int b1), (3, .int (nI (160 * a))), (4, .long w1)]) e_X10_life_159 rfl (nI_add i 1) (by decide) rfl ?_
      refine m_goto F e_X10_life_162 ?_
      refine Wm.lvsub (lv' := [(0, .ref c), (1, .int (nI a)), (2, .int b1), (3, .int (nI (160 * a))), (4, .long w1), (6, .long x6933), (8, .long x6937), (10, .int (nI (i + 1)))]) ?_ [3, 4, 5, 6, 7, 2, 1, 0] rfl
      exact ih a b1 w1 x6933 x6937 (i + 1) _ h1 (by omega) (by omega)
set_option maxRecDepth 20000 in
theorem q_X10_life (l : Launch) (V : VX) (c T Z u h : Nat) (P : NP) (L : Nat → LQ) (N : Nat) (σ : Mem) (x901 : Int32) (x902 : Int32) (h0 : HR V c ⟨T, Z, u, h, P, L⟩ σ) (hob : OKB L) (hP : OKP P)  : Ct l V yX10_life cX10_life 11 (some .long) 2 0 0 N σ [.ref c, .int x901, .int x902] (fun r τ => HS V c (⟨T, Z, u, h, P, L⟩ : RG) [0, 2, 3, 4, 5, 6, 7, 8, 9, 10, 11, 12, 13, 14, 15, 16, 17, 18, 19, 20, 21, 22, 23] σ τ ∧ ∃ x : Int64, r = some (.long x)) := by
  refine Ct.of (by decide) (Nat.le_of_ble_eq_true rfl) [(0, .ref c), (1, .int x901), (2, .int x902)] rfl (fun X hX F hQ => ?_)
  have hPP := hP
  unfold OKP at hPP
  have h1 : HS V c ⟨T, Z, u, h, P, L⟩ [0, 2, 3, 4, 5, 6, 7, 8, 9, 10, 11, 12, 13, 14, 15, 16, 17, 18, 19, 20, 21, 22, 23] σ σ := HS.start h0
  refine m_aload_n F rfl e_X10_life_0 ?_
  refine m_iconst F (v := 0) (by decide) e_X10_life_1 ?_
  refine r_put F (g' := (⟨T, Z, u, h, P, L⟩ : RG)) e_X10_life_2 fp_X10_91 h1 (by decide) ⟨_, rfl⟩ (fun _ _ _ _ q => q) (fun _ _ _ q => q) rfl rfl (by decide) (fun σ6938 h6939 g6940 g6941 f6942 => ?_)
  refine m_aload_n F rfl e_X10_life_5 ?_
  refine m_iload_n F rfl e_X10_life_6 ?_
  refine r_callV F e_X10_life_7 (q_X10_isLease (x_l X) V c T Z u h P L _ _ x901 h6939.1 (hob) hP ) cb_X10_isLease ml_X10_292 im_X10_isLease se_X10_isLease h6939 rfl rfl (rest := []) rfl (Nat.le_of_ble_eq_true rfl) ⟨Nat.le_of_ble_eq_true rfl, Nat.le_of_ble_eq_true rfl⟩ ⟨Nat.le_of_ble_eq_true rfl, Nat.le_of_ble_eq_true rfl⟩ (fun r σ6943 hp => ?_)
  obtain ⟨h6944, c6946⟩ := hp
  have h6945 := HS.trans h6939 h6944 (by decide)
  rcases c6946 with rfl | ⟨n6947, h6948, e6949, rfl⟩
  · refine m_if_ne F e_X10_life_10 (fun q => absurd (by decide) q) (fun _ => ?_)
    refine m_ldc2 F kc_X10_245 e_X10_life_13 ?_
    exact m_lret F hQ e_X10_life_16 (⟨h6945, _, rfl⟩)
  · subst e6949
    refine m_if_ne F e_X10_life_10 (fun _ => ?_) (fun q => absurd q (by decide))
    refine m_sipush F (v := 160) (by decide) e_X10_life_17 ?_
    refine m_iload_n F rfl e_X10_life_20 ?_
    refine m_imul F e_X10_life_21 ?_
    refine Wm.topE (w := nI (160 * n6947)) (pk_mul 160 n6947) ?_
    refine m_istore_n F (lv' := [(3, .int (nI (160 * n6947))), (0, .ref c), (1, .int (nI n6947)), (2, .int x902)]) e_X10_life_22 (by decide) rfl ?_
    refine m_aload_n F rfl e_X10_life_23 ?_
    refine r_get F e_X10_life_24 fl_X10_59 h6945 rfl (fun v hv f6950 => ?_)
    obtain rfl : v = .ref (c + 16) := hv
    refine m_iload_n F rfl e_X10_life_27 ?_
    refine m_iconst F (v := 0) (by decide) e_X10_life_28 ?_
    refine m_iadd F e_X10_life_29 ?_
    refine Wm.topE (w := nI (160 * n6947)) (nI_add (160 * n6947) 0) ?_
    refine r_sld F (j := 160 * n6947) e_X10_life_30 h6945 (nI_clamp (by omega)) (vp_in_nI (by omega) (by decide)) (fun x6951 h6952 f6953 => ?_)
    have hl6954 := hob.2 n6947 (by omega)
    obtain rfl : x6951 = lN (L n6947).1 := (EJ_l (l := n6947) (r := 0) (by omega) (by decide)).mp h6952
    refine m_ldc2 F kc_X10_234 e_X10_life_31 ?_
    refine m_lcmp F e_X10_life_34 ?_
    refine m_if_ne F e_X10_life_35 (fun q35 => ?_) (fun q35 => ?_)
    · have c35 : ((L n6947).1) ≠ 2 := by have hh := mt (fun h9 => (lg_cmp_eq (lN ((L n6947).1)) (lN 2)).mpr ((lN_eq (a := ((L n6947).1)) (b := 2) (by omega) (by omega)).mpr h9)) q35; omega
      refine m_aload_n F rfl e_X10_life_42 ?_
      refine r_getC F e_X10_life_43 fl_X10_59 h6945 (f6950) ?_
      refine m_iload_n F rfl e_X10_life_46 ?_
      refine m_iconst F (v := 0) (by decide) e_X10_life_47 ?_
      refine m_iadd F e_X10_life_48 ?_
      refine Wm.topE (w := nI (160 * n6947)) (nI_add (160 * n6947) 0) ?_
      refine r_sld F (j := 160 * n6947) e_X10_life_49 h6945 (nI_clamp (by omega)) (vp_in_nI (by omega) (by decide)) (fun x6955 h6956 f6957 => ?_)
      have hl6958 := hob.2 n6947 (by omega)
      obtain rfl : x6955 = lN (L n6947).1 := (EJ_l (l := n6947) (r := 0) (by omega) (by decide)).mp h6956
      refine m_lconst F (v := 1) (by decide) e_X10_life_50 ?_
      refine m_lcmp F e_X10_life_51 ?_
      refine m_if_ne F e_X10_life_52 (fun q52 => ?_) (fun q52 => ?_)
      · have c52 : ((L n6947).1) ≠ 1 := by have hh := mt (fun h9 => (lg_cmp_eq (lN ((L n6947).1)) (lN 1)).mpr ((lN_eq (a := ((L n6947).1)) (b := 1) (by omega) (by omega)).mpr h9)) q52; omega
        refine m_aload_n F rfl e_X10_life_59 ?_
        refine r_get F e_X10_life_60 fl_X10_19 h6945 rfl (fun v hv f6959 => ?_)
        obtain rfl : v = .ref (c + 4) := hv
        refine m_iload_n F rfl e_X10_life_63 ?_
        refine r_iald F (len := 8) (j := n6947) e_X10_life_64 h6945 (fun _ h => h) (by decide) (nI_clamp (by omega)) (vp_in_nI (by omega) (by decide)) (fun x6960 h6961 f6962 => ?_)
        refine m_i2l F e_X10_life_65 ?_
        refine Wm.topl (fun x6963 _ => ?_)
        refine m_aload_n F rfl e_X10_life_66 ?_
        refine r_getC F e_X10_life_67 fl_X10_59 h6945 (f6950) ?_
        refine m_sipush F (v := 744) (by decide) e_X10_life_70 ?_
        refine r_sld F (j := 744) e_X10_life_73 h6945 (by decide) (by unfold vp_in; decide) (fun x6964 h6965 f6966 => ?_)
        have hl6967 := hob.1
        obtain rfl : x6964 = lN (L 4).1 := EJ_p.mp h6965
        refine m_lsub F e_X10_life_74 ?_
        refine Wm.topl (fun x6968 _ => ?_)
        refine m_lstore F (lv' := [(4, .long x6968), (3, .int (nI (160 * n6947))), (0, .ref c), (1, .int (nI n6947)), (2, .int x902)]) e_X10_life_75 (by decide) rfl ?_
        refine m_lconst F (v := 0) (by decide) e_X10_life_77 ?_
        refine m_lstore F (lv' := [(6, .long 0), (4, .long x6968), (3, .int (nI (160 * n6947))), (0, .ref c), (1, .int (nI n6947)), (2, .int x902)]) e_X10_life_78 (by decide) rfl ?_
        refine m_lconst F (v := 0) (by decide) e_X10_life_80 ?_
        refine m_lstore F (lv' := [(8, .long 0), (6, .long 0), (4, .long x6968), (3, .int (nI (160 * n6947))), (0, .ref c), (1, .int (nI n6947)), (2, .int x902)]) e_X10_life_81 (by decide) rfl ?_
        refine m_aload_n F rfl e_X10_life_83 ?_
        refine r_getC F e_X10_life_84 fl_X10_59 h6945 (f6950) ?_
        refine m_iload_n F rfl e_X10_life_87 ?_
        refine m_iconst F (v := 5) (by decide) e_X10_life_88 ?_
        refine m_iadd F e_X10_life_89 ?_
        refine Wm.topE (w := nI (160 * n6947 + 5)) (nI_add (160 * n6947) 5) ?_
        refine r_sld F (j := 160 * n6947 + 5) e_X10_life_90 h6945 (nI_clamp (by omega)) (vp_in_nI (by omega) (by decide)) (fun x6969 h6970 f6971 => ?_)
        have hl6972 := hob.2 n6947 (by omega)
        obtain rfl : x6969 = lN (L n6947).2.2.2 := (EJ_l (l := n6947) (r := 5) (by omega) (by decide)).mp h6970
        refine m_l2i F e_X10_life_91 ?_
        refine Wm.topE (w := nI ((L n6947).2.2.2)) (lN_i ((L n6947).2.2.2)) ?_
        refine m_istore F (lv' := [(10, .int (nI ((L n6947).2.2.2))), (8, .long 0), (6, .long 0), (4, .long x6968), (3, .int (nI (160 * n6947))), (0, .ref c), (1, .int (nI n6947)), (2, .int x902)]) e_X10_life_92 (by decide) rfl ?_
        refine Wm.lvsub (lv' := [(0, .ref c), (1, .int (nI n6947)), (2, .int x902), (3, .int (nI (160 * n6947))), (4, .long x6968), (6, .long 0), (8, .long 0), (10, .int (nI ((L n6947).2.2.2)))]) ?_ [5, 6, 7, 4, 3, 2, 1, 0] rfl
        exact lq_X10_life_94 F hQ hob hP  (72 - ((L n6947).2.2.2) + 1) n6947 x902 x6968 0 0 ((L n6947).2.2.2) _ h6945 (by omega) (Nat.lt_succ_self _)
      · have c52 : ((L n6947).1) = 1 := (lN_eq (a := ((L n6947).1)) (b := 1) (by omega) (by omega)).mp ((lg_cmp_eq _ _).mp q52)
        refine m_lconst F (v := 0) (by decide) e_X10_life_55 ?_
        refine m_goto F e_X10_life_56 ?_
        refine m_lstore F (lv' := [(4, .long 0), (3, .int (nI (160 * n6947))), (0, .ref c), (1, .int (nI n6947)), (2, .int x902)]) e_X10_life_75 (by decide) rfl ?_
        refine m_lconst F (v := 0) (by decide) e_X10_life_77 ?_
        refine m_lstore F (lv' := [(6, .long 0), (4, .long 0), (3, .int (nI (160 * n6947))), (0, .ref c), (1, .int (nI n6947)), (2, .int x902)]) e_X10_life_78 (by decide) rfl ?_
        refine m_lconst F (v := 0) (by decide) e_X10_life_80 ?_
        refine m_lstore F (lv' := [(8, .long 0), (6, .long 0), (4, .long 0), (3, .int (nI (160 * n6947))), (0, .ref c), (1, .int (nI n6947)), (2, .int x902)]) e_X10_life_81 (by decide) rfl ?_
        refine m_aload_n F rfl e_X10_life_83 ?_
        refine r_getC F e_X10_life_84 fl_X10_59 h6945 (f6950) ?_
        refine m_iload_n F rfl e_X10_life_87 ?_
        refine m_iconst F (v := 5) (by decide) e_X10_life_88 ?_
        refine m_iadd F e_X10_life_89 ?_
        refine Wm.topE (w := nI (160 * n6947 + 5)) (nI_add (160 * n6947) 5) ?_
        refine r_sld F (j := 160 * n6947 + 5) e_X10_life_90 h6945 (nI_clamp (by omega)) (vp_in_nI (by omega) (by decide)) (fun x6973 h6974 f6975 => ?_)
        have hl6976 := hob.2 n6947 (by omega)
        obtain rfl : x6973 = lN (L n6947).2.2.2 := (EJ_l (l := n6947) (r := 5) (by omega) (by decide)).mp h6974
        refine m_l2i F e_X10_life_91 ?_
        refine Wm.topE (w := nI ((L n6947).2.2.2)) (lN_i ((L n6947).2.2.2)) ?_
        refine m_istore F (lv' := [(10, .int (nI ((L n6947).2.2.2))), (8, .long 0), (6, .long 0), (4, .long 0), (3, .int (nI (160 * n6947))), (0, .ref c), (1, .int (nI n6947)), (2, .int x902)]) e_X10_life_92 (by decide) rfl ?_
        refine Wm.lvsub (lv' := [(0, .ref c), (1, .int (nI n6947)), (2, .int x902), (3, .int (nI (160 * n6947))), (4, .long 0), (6, .long 0), (8, .long 0), (10, .int (nI ((L n6947).2.2.2)))]) ?_ [5, 6, 7, 4, 3, 2, 1, 0] rfl
        exact lq_X10_life_94 F hQ hob hP  (72 - ((L n6947).2.2.2) + 1) n6947 x902 0 0 0 ((L n6947).2.2.2) _ h6945 (by omega) (Nat.lt_succ_self _)
    · have c35 : ((L n6947).1) = 2 := (lN_eq (a := ((L n6947).1)) (b := 2) (by omega) (by omega)).mp ((lg_cmp_eq _ _).mp q35)
      refine m_ldc2 F kc_X10_338 e_X10_life_38 ?_
      exact m_lret F hQ e_X10_life_41 (⟨h6945, _, rfl⟩)
set_option maxRecDepth 20000 in
theorem q_X10_draw (l : Launch) (V : VX) (c T Z u h : Nat) (P : NP) (L : Nat → LQ) (N : Nat) (σ : Mem) (n901 : Nat) (h0 : HR V c ⟨T, Z, u, h, P, L⟩ σ) (hob : OKB L) (hP : OKP P) (hn901 : n901 ≤ 21) (hp0 : 1 ≤ n901) : Ct l V yX10_draw cX10_draw 2 (some .int) 0 0 0 N σ [.ref c, .int (nI n901)] (fun r τ => HS V c (⟨T, Z, u, h, P, L⟩ : RG) [0, 2, 3, 4, 5, 6, 7, 8, 9, 10, 11, 12, 13, 14, 15, 16, 17, 18, 19, 20, 21, 22, 23] σ τ ∧ ∃ x : Int32, r = some (.int x)) := by
  refine Ct.of (by decide) (Nat.le_of_ble_eq_true rfl) [(0, .ref c), (1, .int (nI n901))] rfl (fun X hX F hQ => ?_)
  have hPP := hP
  unfold OKP at hPP
  have h1 : HS V c ⟨T, Z, u, h, P, L⟩ [0, 2, 3, 4, 5, 6, 7, 8, 9, 10, 11, 12, 13, 14, 15, 16, 17, 18, 19, 20, 21, 22, 23] σ σ := HS.start h0
  refine m_aload_n F rfl e_X10_draw_0 ?_
  refine m_aload_n F rfl e_X10_draw_1 ?_
  refine r_get F e_X10_draw_2 fl_X10_353 h1 rfl (fun v hv f6977 => ?_)
  obtain ⟨x6978, rfl⟩ := hv
  refine m_ldcw F kc_X10_356 e_X10_draw_5 ?_
  refine m_imul F e_X10_draw_8 ?_
  refine Wm.top (fun x6979 _ => ?_)
  refine m_sipush F (v := 12345) (by decide) e_X10_draw_9 ?_
  refine m_iadd F e_X10_draw_12 ?_
  refine Wm.top (fun x6980 _ => ?_)
  refine m_ldcw F kc_X10_357 e_X10_draw_13 ?_
  refine m_iand F e_X10_draw_16 ?_
  refine Wm.top (fun x6981 _ => ?_)
  refine r_put F (g' := (⟨T, Z, u, h, P, L⟩ : RG)) e_X10_draw_17 fp_X10_353 h1 (by decide) ⟨_, rfl⟩ (fun _ _ _ _ q => q) (fun _ _ _ q => q) rfl rfl (by decide) (fun σ6982 h6983 g6984 g6985 f6986 => ?_)
  refine m_aload_n F rfl e_X10_draw_20 ?_
  refine r_getC F e_X10_draw_21 fl_X10_353 h6983 (f6986) ?_
  refine m_bipush F (v := 16) (by decide) e_X10_draw_24 ?_
  refine m_ishr F e_X10_draw_26 ?_
  refine Wm.top (fun x6987 _ => ?_)
  refine m_iload_n F rfl e_X10_draw_27 ?_
  refine m_irem F (fun e => by have h9 := nI_inj (a := n901) (b := 0) (by omega) (by omega) e; omega) e_X10_draw_28 ?_
  refine Wm.top (fun x6988 _ => ?_)
  exact m_iret F hQ e_X10_draw_29 (⟨h6983, _, rfl⟩)
set_option maxRecDepth 20000 in
theorem q_X10_held (l : Launch) (V : VX) (N : Nat) (σ : Mem) (x901 : Int64)  : Ct l V yX10_held cX10_held 2 (some .long) 0 0 0 N σ [.long x901] (fun r τ => τ = σ ∧ ∃ n : Nat, 1 ≤ n ∧ n ≤ 2000 ∧ r = some (.long (lN n))) := by
  refine Ct.of (by decide) (Nat.le_of_ble_eq_true rfl) [(0, .long x901)] rfl (fun X hX F hQ => ?_)
  refine m_lload_n F rfl e_X10_held_0 ?_
  refine m_ldc2 F kc_X10_358 e_X10_held_1 ?_
  refine m_lcmp F e_X10_held_4 ?_
  refine m_if_ge F e_X10_held_5 (fun q5 => ?_) (fun q5 => ?_)
  · have e5 : ¬ x901 < 500 := Int64.not_lt.mpr ((lg_cmp_ge _ _).mp q5)
    refine m_lload_n F rfl e_X10_held_12 ?_
    refine m_ldc2 F kc_X10_360 e_X10_held_13 ?_
    refine m_lcmp F e_X10_held_16 ?_
    refine m_if_le F e_X10_held_17 (fun q17 => ?_) (fun q17 => ?_)
    · have e17 : ¬ 2000 < x901 := Int64.not_lt.mpr ((lg_cmp_le _ _).mp q17)
      refine m_lload_n F rfl e_X10_held_24 ?_
      exact m_lret F hQ e_X10_held_25 ((by obtain ⟨n9, g9, h9, e9⟩ := lN_of e5 e17; exact ⟨rfl, n9, g9, h9, by rw [e9]⟩))
    · refine m_ldc2 F kc_X10_360 e_X10_held_20 ?_
      exact m_lret F hQ e_X10_held_23 (⟨rfl, 2000, by omega, by omega, rfl⟩)
  · refine m_ldc2 F kc_X10_358 e_X10_held_8 ?_
    exact m_lret F hQ e_X10_held_11 (⟨rfl, 500, by omega, by omega, rfl⟩)
set_option maxRecDepth 20000 in
theorem lq_X10_chance_125 {V : VX} {X : MX} {N : Nat} {σ : Mem} {c T Z u h : Nat} {P : NP} {L : Nat → LQ}   (F : Fx V X yX10_chance cX10_chance 13 (some .long) (rmd 4 0 0)) (hQ : Rt V X 0 0 N (fun r τ => HS V c (⟨T, Z, u, h, P, L⟩ : RG) [0, 2, 3, 4, 5, 6, 7, 8, 9, 10, 11, 12, 13, 14, 15, 16, 18, 20, 21, 22] σ τ ∧ ∃ x : Int64, r = some (.long x))) (hok : OKL P.n0 L) (hP : OKP P)  {fuelO : Nat} (hO : ∀ (a : Nat) (b : Nat) (w1 : Int64) (w2 : Int64) (w3 : Int64) (k : Nat) (τ : Mem), HS V c (⟨T, Z, u, h, P, L⟩ : RG) [0, 2, 3, 4, 5, 6, 7, 8, 9, 10, 11, 12, 13, 14, 15, 16, 18, 20, 21, 22] σ τ → a ≤ 10 ∧ b ≤ 2 ∧ k ≤ a ∧ (L 4).1 ≤ 87 ∧ GB V c 18 1113 0 L τ → a - k < fuelO → Wm V X 13 N τ 0 0 116 [(0, .ref c), (2, .int (nI a)), (3, .int (nI b)), (4, .long w1), (6, .long w2), (8, .long w3), (10, .int (nI k))] []) : ∀ (fuel : Nat) (a : Nat) (b : Nat) (w1 : Int64) (w2 : Int64) (w3 : Int64) (k : Nat) (p : Nat) (L1 : Nat → LQ) (τ : Mem), HS V c (⟨T, Z, u, h, P, L1⟩ : RG) [0, 2, 3, 4, 5, 6, 7, 8, 9, 10, 11, 12, 13, 14, 15, 16, 18, 20, 21, 22] σ τ → OKL P.n0 L1 → a ≤ 10 ∧ b ≤ 2 ∧ k < a ∧ (L 4).1 ≤ 87 ∧ a - k ≤ fuelO ∧ p ≤ 12 ∧ (L1 4).1 = (L 4).1 + p ∧ GB V c 18 1113 0 L τ → 12 - p < fuel → Wm V X 13 N τ 0 0 125 [(0, .ref c), (2, .int (nI a)), (3, .int (nI b)), (4, .long w1), (6, .long w2), (8, .long w3), (10, .int (nI k)), (11, .int (nI p))] [] := by
  intro fuel
  induction fuel with
  | zero => intros; rename_i hm; exact absurd hm (Nat.not_lt_zero _)
  | succ fuel ih =>
    intro a b w1 w2 w3 k p L1 τ h1 hok1 hi hm
    have hPP := hP
    unfold OKP at hPP
    have ga0 := hi.2.2.2.2.2.2.2
    refine m_iload F rfl e_X10_chance_125 ?_
    refine m_bipush F (v := 12) (by decide) e_X10_chance_127 ?_
    refine m_icmp_ge F e_X10_chance_129 (fun q129 => ?_) (fun q129 => ?_)
    · have c129 : p ≥ 12 := (nI_leI (a := 12) (b := p) (by omega) (by omega)).mp q129
      refine m_aload_n F rfl e_X10_chance_165 ?_
      refine r_callV F e_X10_chance_166 (q_X10_owedAll (x_l X) V c T Z u h P L1 _ _  h1.1 (hok1.b) hP ) cb_X10_owedAll ml_X10_335 im_X10_owedAll se_X10_owedAll h1 rfl rfl (rest := []) rfl (Nat.le_of_ble_eq_true rfl) ⟨Nat.le_of_ble_eq_true rfl, Nat.le_of_ble_eq_true rfl⟩ ⟨Nat.le_of_ble_eq_true rfl, Nat.le_of_ble_eq_true rfl⟩ (fun r σ6989 hp => ?_)
      obtain ⟨h6990, x6992, rfl⟩ := hp
      have h6991 := HS.trans h1 h6990 (by decide)
      have ga6993 := ga0.of (h6990.2 (c + 18) (by rw [kC_at (k := 18) (by decide)]; decide))
      refine m_lstore F (lv' := [(11, .long x6992), (0, .ref c), (2, .int (nI a)), (3, .int (nI b)), (4, .long w1), (6, .long w2), (8, .long w3), (10, .int (nI k))]) e_X10_chance_169 (by decide) rfl ?_
      refine m_lload F rfl e_X10_chance_171 ?_
      refine m_lload F rfl e_X10_chance_173 ?_
      refine m_ladd F e_X10_chance_175 ?_
      refine Wm.topl (fun x6994 _ => ?_)
      refine m_lstore F (lv' := [(4, .long x6994), (11, .long x6992), (0, .ref c), (2, .int (nI a)), (3, .int (nI b)), (6, .long w2), (8, .long w3), (10, .int (nI k))]) e_X10_chance_176 (by decide) rfl ?_
      refine m_iload F rfl e_X10_chance_178 ?_
      refine m_if_eq F e_X10_chance_180 (fun q180 => ?_) (fun q180 => ?_)
      · have c180 : k = 0 := (nI_eq (a := k) (b := 0) (by omega) (by omega)).mp q180
        refine m_lload F rfl e_X10_chance_191 ?_
        refine m_goto F e_X10_chance_193 ?_
        refine m_lstore F (lv' := [(6, .long x6992), (4, .long x6994), (11, .long x6992), (0, .ref c), (2, .int (nI a)), (3, .int (nI b)), (8, .long w3), (10, .int (nI k))]) e_X10_chance_198 (by decide) rfl ?_
        refine m_iload F rfl e_X10_chance_200 ?_
        refine m_if_eq F e_X10_chance_202 (fun q202 => ?_) (fun q202 => ?_)
        · have c202 : k = 0 := (nI_eq (a := k) (b := 0) (by omega) (by omega)).mp q202
          refine m_lload F rfl e_X10_chance_213 ?_
          refine m_goto F e_X10_chance_215 ?_
          refine m_lstore F (lv' := [(8, .long x6992), (6, .long x6992), (4, .long x6994), (11, .long x6992), (0, .ref c), (2, .int (nI a)), (3, .int (nI b)), (10, .int (nI k))]) e_X10_chance_220 (by decide) rfl ?_
          refine m_aload_n F rfl e_X10_chance_222 ?_
          refine r_get F e_X10_chance_223 fl_X10_66 h6991 rfl (fun v hv f6995 => ?_)
          obtain rfl : v = .ref (c + 18) := hv
          refine m_iconst F (v := 0) (by decide) e_X10_chance_226 ?_
          refine m_aload_n F rfl e_X10_chance_227 ?_
          refine r_get F e_X10_chance_228 fl_X10_59 h6991 rfl (fun v hv f6996 => ?_)
          obtain rfl : v = .ref (c + 16) := hv
          refine m_iconst F (v := 0) (by decide) e_X10_chance_231 ?_
          have xe6998 := ga6993
          obtain ⟨f6997, e6998, te6998⟩ := xe6998
          obtain ⟨g6999, e7000, te7000⟩ : ∃ f, σ6989 (c + 16) = some (aJ V 1113 f) ∧ _ := h6991.1.cell (k := 16) (by decide)
          refine m_callS F e_X10_chance_232 (q_copies (x_l X) V _ _ (c + 18) (c + 16) 1113 1113 0 0 f6997 g6999 e6998 e7000 (by omega) (by omega) (by omega) (by omega)) cb_X10_copies ml_X10_230 sm_X10_copies rfl (rest := []) rfl (Nat.le_of_ble_eq_true rfl) ⟨Nat.le_of_ble_eq_true rfl, Nat.le_of_ble_eq_true rfl⟩ ⟨Nat.le_of_ble_eq_true rfl, Nat.le_of_ble_eq_true rfl⟩ (k' := 0) (z' := 0) (N' := N) rfl rfl rfl (fun r σ7001 hp => ?_)
          obtain ⟨p7002, rfl⟩ := hp
          have h7003 := HS.cpS (L2 := L) (o := 0) h6991 (by decide) te6998 p7002
          have ga7004 := ga6993.of (p7002.2 _ (by omega))
          refine m_iinc F (v := nI (k + 1)) (lv' := [(10, .int (nI (k + 1))), (8, .long x6992), (6, .long x6992), (4, .long x6994), (11, .long x6992), (0, .ref c), (2, .int (nI a)), (3, .int (nI b))]) e_X10_chance_235 rfl (nI_add k 1) (by decide) rfl ?_
          refine m_goto F e_X10_chance_238 ?_
          refine Wm.lvsub (lv' := [(0, .ref c), (2, .int (nI a)), (3, .int (nI b)), (4, .long x6994), (6, .long x6992), (8, .long x6992), (10, .int (nI (k + 1)))]) ?_ [5, 6, 7, 3, 2, 1, 0] rfl
          exact hO a b x6994 x6992 x6992 (k + 1) _ h7003 ⟨by omega, by omega, by omega, by omega, by assumption⟩ (by omega)
        · have c202 : k ≠ 0 := by have hh := mt (nI_eq (a := k) (b := 0) (by omega) (by omega)).mpr q202; omega
          refine m_lload F rfl e_X10_chance_205 ?_
          refine m_lload F rfl e_X10_chance_207 ?_
          refine m_lcmp F e_X10_chance_209 ?_
          refine Wm.top (fun x7005 _ => ?_)
          refine m_if_ge F e_X10_chance_210 (fun q210 => ?_) (fun q210 => ?_)
          · obtain ⟨n7006, hn7006, rfl⟩ := nI_nn (x := x7005) (fun e => Int32.lt_irrefl (Int32.lt_of_lt_of_le e (Int32.le_trans (by decide) q210)))
            have c210 : n7006 ≥ 0 := (nI_leI (a := 0) (b := n7006) (by omega) (by omega)).mp q210
            refine m_lload F rfl e_X10_chance_218 ?_
            refine m_lstore F (lv' := [(8, .long w3), (6, .long x6992), (4, .long x6994), (11, .long x6992), (0, .ref c), (2, .int (nI a)), (3, .int (nI b)), (10, .int (nI k))]) e_X10_chance_220 (by decide) rfl ?_
            refine m_aload_n F rfl e_X10_chance_222 ?_
            refine r_get F e_X10_chance_223 fl_X10_66 h6991 rfl (fun v hv f7007 => ?_)
            obtain rfl : v = .ref (c + 18) := hv
            refine m_iconst F (v := 0) (by decide) e_X10_chance_226 ?_
            refine m_aload_n F rfl e_X10_chance_227 ?_
            refine r_get F e_X10_chance_228 fl_X10_59 h6991 rfl (fun v hv f7008 => ?_)
            obtain rfl : v = .ref (c + 16) := hv
            refine m_iconst F (v := 0) (by decide) e_X10_chance_231 ?_
            have xe7010 := ga6993
            obtain ⟨f7009, e7010, te7010⟩ := xe7010
            obtain ⟨g7011, e7012, te7012⟩ : ∃ f, σ6989 (c + 16) = some (aJ V 1113 f) ∧ _ := h6991.1.cell (k := 16) (by decide)
            refine m_callS F e_X10_chance_232 (q_copies (x_l X) V _ _ (c + 18) (c + 16) 1113 1113 0 0 f7009 g7011 e7010 e7012 (by omega) (by omega) (by omega) (by omega)) cb_X10_copies ml_X10_230 sm_X10_copies rfl (rest := []) rfl (Nat.le_of_ble_eq_true rfl) ⟨Nat.le_of_ble_eq_true rfl, Nat.le_of_ble_eq_true rfl⟩ ⟨Nat.le_of_ble_eq_true rfl, Nat.le_of_ble_eq_true rfl⟩ (k' := 0) (z' := 0) (N' := N) rfl rfl rfl (fun r σ7013 hp => ?_)
            obtain ⟨p7014, rfl⟩ := hp
            have h7015 := HS.cpS (L2 := L) (o := 0) h6991 (by decide) te7010 p7014
            have ga7016 := ga6993.of (p7014.2 _ (by omega))
            refine m_iinc F (v := nI (k + 1)) (lv' := [(10, .int (nI (k + 1))), (8, .long w3), (6, .long x6992), (4, .long x6994), (11, .long x6992), (0, .ref c), (2, .int (nI a)), (3, .int (nI b))]) e_X10_chance_235 rfl (nI_add k 1) (by decide) rfl ?_
            refine m_goto F e_X10_chance_238 ?_
            refine Wm.lvsub (lv' := [(0, .ref c), (2, .int (nI a)), (3, .int (nI b)), (4, .long x6994), (6, .long x6992), (8, .long w3), (10, .int (nI (k + 1)))]) ?_ [5, 6, 7, 3, 2, 1, 0] rfl
            exact hO a b x6994 x6992 w3 (k + 1) _ h7015 ⟨by omega, by omega, by omega, by omega, by assumption⟩ (by omega)
          · refine m_lload F rfl e_X10_chance_213 ?_
            refine m_goto F e_X10_chance_215 ?_
            refine m_lstore F (lv' := [(8, .long x6992), (6, .long x6992), (4, .long x6994), (11, .long x6992), (0, .ref c), (2, .int (nI a)), (3, .int (nI b)), (10, .int (nI k))]) e_X10_chance_220 (by decide) rfl ?_
            refine m_aload_n F rfl e_X10_chance_222 ?_
            refine r_get F e_X10_chance_223 fl_X10_66 h6991 rfl (fun v hv f7017 => ?_)
            obtain rfl : v = .ref (c + 18) := hv
            refine m_iconst F (v := 0) (by decide) e_X10_chance_226 ?_
            refine m_aload_n F rfl e_X10_chance_227 ?_
            refine r_get F e_X10_chance_228 fl_X10_59 h6991 rfl (fun v hv f7018 => ?_)
            obtain rfl : v = .ref (c + 16) := hv
            refine m_iconst F (v := 0) (by decide) e_X10_chance_231 ?_
            have xe7020 := ga6993
            obtain ⟨f7019, e7020, te7020⟩ := xe7020
            obtain ⟨g7021, e7022, te7022⟩ : ∃ f, σ6989 (c + 16) = some (aJ V 1113 f) ∧ _ := h6991.1.cell (k := 16) (by decide)
            refine m_callS F e_X10_chance_232 (q_copies (x_l X) V _ _ (c + 18) (c + 16) 1113 1113 0 0 f7019 g7021 e7020 e7022 (by omega) (by omega) (by omega) (by omega)) cb_X10_copies ml_X10_230 sm_X10_copies rfl (rest := []) rfl (Nat.le_of_ble_eq_true rfl) ⟨Nat.le_of_ble_eq_true rfl, Nat.le_of_ble_eq_true rfl⟩ ⟨Nat.le_of_ble_eq_true rfl, Nat.le_of_ble_eq_true rfl⟩ (k' := 0) (z' := 0) (N' := N) rfl rfl rfl (fun r σ7023 hp => ?_)
            obtain ⟨p7024, rfl⟩ := hp
            have h7025 := HS.cpS (L2 := L) (o := 0) h6991 (by decide) te7020 p7024
            have ga7026 := ga6993.of (p7024.2 _ (by omega))
            refine m_iinc F (v := nI (k + 1)) (lv' := [(10, .int (nI (k + 1))), (8, .long x6992), (6, .long x6992), (4, .long x6994), (11, .long x6992), (0, .ref c), (2, .int (nI a)), (3, .int (nI b))]) e_X10_chance_235 rfl (nI_add k 1) (by decide) rfl ?_
            refine m_goto F e_X10_chance_238 ?_
            refine Wm.lvsub (lv' := [(0, .ref c), (2, .int (nI a)), (3, .int (nI b)), (4, .long x6994), (6, .long x6992), (8, .long x6992), (10, .int (nI (k + 1)))]) ?_ [5, 6, 7, 3, 2, 1, 0] rfl
            exact hO a b x6994 x6992 x6992 (k + 1) _ h7025 ⟨by omega, by omega, by omega, by omega, by assumption⟩ (by omega)
      · have c180 : k ≠ 0 := by have hh := mt (nI_eq (a := k) (b := 0) (by omega) (by omega)).mpr q180; omega
        refine m_lload F rfl e_X10_chance_183 ?_
        refine m_lload F rfl e_X10_chance_185 ?_
        refine m_lcmp F e_X10_chance_187 ?_
        refine Wm.top (fun x7027 _ => ?_)
        refine m_if_le F e_X10_chance_188 (fun q188 => ?_) (fun q188 => ?_)
        · refine m_lload F rfl e_X10_chance_196 ?_
          refine m_lstore F (lv' := [(6, .long w2), (4, .long x6994), (11, .long x6992), (0, .ref c), (2, .int (nI a)), (3, .int (nI b)), (8, .long w3), (10, .int (nI k))]) e_X10_chance_198 (by decide) rfl ?_
          refine m_iload F rfl e_X10_chance_200 ?_
          refine m_if_eq F e_X10_chance_202 (fun q202 => ?_) (fun q202 => ?_)
          · have c202 : k = 0 := (nI_eq (a := k) (b := 0) (by omega) (by omega)).mp q202
            refine m_lload F rfl e_X10_chance_213 ?_
            refine m_goto F e_X10_chance_215 ?_
            refine m_lstore F (lv' := [(8, .long x6992), (6, .long w2), (4, .long x6994), (11, .long x6992), (0, .ref c), (2, .int (nI a)), (3, .int (nI b)), (10, .int (nI k))]) e_X10_chance_220 (by decide) rfl ?_
            refine m_aload_n F rfl e_X10_chance_222 ?_
            refine r_get F e_X10_chance_223 fl_X10_66 h6991 rfl (fun v hv f7028 => ?_)
            obtain rfl : v = .ref (c + 18) := hv
            refine m_iconst F (v := 0) (by decide) e_X10_chance_226 ?_
            refine m_aload_n F rfl e_X10_chance_227 ?_
            refine r_get F e_X10_chance_228 fl_X10_59 h6991 rfl (fun v hv f7029 => ?_)
            obtain rfl : v = .ref (c + 16) := hv
            refine m_iconst F (v := 0) (by decide) e_X10_chance_231 ?_
            have xe7031 := ga6993
            obtain ⟨f7030, e7031, te7031⟩ := xe7031
            obtain ⟨g7032, e7033, te7033⟩ : ∃ f, σ6989 (c + 16) = some (aJ V 1113 f) ∧ _ := h6991.1.cell (k := 16) (by decide)
            refine m_callS F e_X10_chance_232 (q_copies (x_l X) V _ _ (c + 18) (c + 16) 1113 1113 0 0 f7030 g7032 e7031 e7033 (by omega) (by omega) (by omega) (by omega)) cb_X10_copies ml_X10_230 sm_X10_copies rfl (rest := []) rfl (Nat.le_of_ble_eq_true rfl) ⟨Nat.le_of_ble_eq_true rfl, Nat.le_of_ble_eq_true rfl⟩ ⟨Nat.le_of_ble_eq_true rfl, Nat.le_of_ble_eq_true rfl⟩ (k' := 0) (z' := 0) (N' := N) rfl rfl rfl (fun r σ7034 hp => ?_)
            obtain ⟨p7035, rfl⟩ := hp
            have h7036 := HS.cpS (L2 := L) (o := 0) h6991 (by decide) te7031 p7035
            have ga7037 := ga6993.of (p7035.2 _ (by omega))
            refine m_iinc F (v := nI (k + 1)) (lv' := [(10, .int (nI (k + 1))), (8, .long x6992), (6, .long w2), (4, .long x6994), (11, .long x6992), (0, .ref c), (2, .int (nI a)), (3, .int (nI b))]) e_X10_chance_235 rfl (nI_add k 1) (by decide) rfl ?_
            refine m_goto F e_X10_chance_238 ?_
            refine Wm.lvsub (lv' := [(0, .ref c), (2, .int (nI a)), (3, .int (nI b)), (4, .long x6994), (6, .long w2), (8, .long x6992), (10, .int (nI (k + 1)))]) ?_ [5, 6, 7, 3, 2, 1, 0] rfl
            exact hO a b x6994 w2 x6992 (k + 1) _ h7036 ⟨by omega, by omega, by omega, by omega, by assumption⟩ (by omega)
          · have c202 : k ≠ 0 := by have hh := mt (nI_eq (a := k) (b := 0) (by omega) (by omega)).mpr q202; omega
            refine m_lload F rfl e_X10_chance_205 ?_
            refine m_lload F rfl e_X10_chance_207 ?_
            refine m_lcmp F e_X10_chance_209 ?_
            refine Wm.top (fun x7038 _ => ?_)
            refine m_if_ge F e_X10_chance_210 (fun q210 => ?_) (fun q210 => ?_)
            · obtain ⟨n7039, hn7039, rfl⟩ := nI_nn (x := x7038) (fun e => Int32.lt_irrefl (Int32.lt_of_lt_of_le e (Int32.le_trans (by decide) q210)))
              have c210 : n7039 ≥ 0 := (nI_leI (a := 0) (b := n7039) (by omega) (by omega)).mp q210
              refine m_lload F rfl e_X10_chance_218 ?_
              refine m_lstore F (lv' := [(8, .long w3), (6, .long w2), (4, .long x6994), (11, .long x6992), (0, .ref c), (2, .int (nI a)), (3, .int (nI b)), (10, .int (nI k))]) e_X10_chance_220 (by decide) rfl ?_
              refine m_aload_n F rfl e_X10_chance_222 ?_
              refine r_get F e_X10_chance_223 fl_X10_66 h6991 rfl (fun v hv f7040 => ?_)
              obtain rfl : v = .ref (c + 18) := hv
              refine m_iconst F (v := 0) (by decide) e_X10_chance_226 ?_
              refine m_aload_n F rfl e_X10_chance_227 ?_
              refine r_get F e_X10_chance_228 fl_X10_59 h6991 rfl (fun v hv f7041 => ?_)
              obtain rfl : v = .ref (c + 16) := hv
              refine m_iconst F (v := 0) (by decide) e_X10_chance_231 ?_
              have xe7043 := ga6993
              obtain ⟨f7042, e7043, te7043⟩ := xe7043
              obtain ⟨g7044, e7045, te7045⟩ : ∃ f, σ6989 (c + 16) = some (aJ V 1113 f) ∧ _ := h6991.1.cell (k := 16) (by decide)
              refine m_callS F e_X10_chance_232 (q_copies (x_l X) V _ _ (c + 18) (c + 16) 1113 1113 0 0 f7042 g7044 e7043 e7045 (by omega) (by omega) (by omega) (by omega)) cb_X10_copies ml_X10_230 sm_X10_copies rfl (rest := []) rfl (Nat.le_of_ble_eq_true rfl) ⟨Nat.le_of_ble_eq_true rfl, Nat.le_of_ble_eq_true rfl⟩ ⟨Nat.le_of_ble_eq_true rfl, Nat.le_of_ble_eq_true rfl⟩ (k' := 0) (z' := 0) (N' := N) rfl rfl rfl (fun r σ7046 hp => ?_)
              obtain ⟨p7047, rfl⟩ := hp
              have h7048 := HS.cpS (L2 := L) (o := 0) h6991 (by decide) te7043 p7047
              have ga7049 := ga6993.of (p7047.2 _ (by omega))
              refine m_iinc F (v := nI (k + 1)) (lv' := [(10, .int (nI (k + 1))), (8, .long w3), (6, .long w2), (4, .long x6994), (11, .long x6992), (0, .ref c), (2, .int (nI a)), (3, .int (nI b))]) e_X10_chance_235 rfl (nI_add k 1) (by decide) rfl ?_
              refine m_goto F e_X10_chance_238 ?_
              refine Wm.lvsub (lv' := [(0, .ref c), (2, .int (nI a)), (3, .int (nI b)), (4, .long x6994), (6, .long w2), (8, .long w3), (10, .int (nI (k + 1)))]) ?_ [5, 6, 7, 3, 2, 1, 0] rfl
              exact hO a b x6994 w2 w3 (k + 1) _ h7048 ⟨by omega, by omega, by omega, by omega, by assumption⟩ (by omega)
            · refine m_lload F rfl e_X10_chance_213 ?_
              refine m_goto F e_X10_chance_215 ?_
              refine m_lstore F (lv' := [(8, .long x6992), (6, .long w2), (4, .long x6994), (11, .long x6992), (0, .ref c), (2, .int (nI a)), (3, .int (nI b)), (10, .int (nI k))]) e_X10_chance_220 (by decide) rfl ?_
              refine m_aload_n F rfl e_X10_chance_222 ?_
              refine r_get F e_X10_chance_223 fl_X10_66 h6991 rfl (fun v hv f7050 => ?_)
              obtain rfl : v = .ref (c + 18) := hv
              refine m_iconst F (v := 0) (by decide) e_X10_chance_226 ?_
              refine m_aload_n F rfl e_X10_chance_227 ?_
              refine r_get F e_X10_chance_228 fl_X10_59 h6991 rfl (fun v hv f7051 => ?_)
              obtain rfl : v = .ref (c + 16) := hv
              refine m_iconst F (v := 0) (by decide) e_X10_chance_231 ?_
              have xe7053 := ga6993
              obtain ⟨f7052, e7053, te7053⟩ := xe7053
              obtain ⟨g7054, e7055, te7055⟩ : ∃ f, σ6989 (c + 16) = some (aJ V 1113 f) ∧ _ := h6991.1.cell (k := 16) (by decide)
              refine m_callS F e_X10_chance_232 (q_copies (x_l X) V _ _ (c + 18) (c + 16) 1113 1113 0 0 f7052 g7054 e7053 e7055 (by omega) (by omega) (by omega) (by omega)) cb_X10_copies ml_X10_230 sm_X10_copies rfl (rest := []) rfl (Nat.le_of_ble_eq_true rfl) ⟨Nat.le_of_ble_eq_true rfl, Nat.le_of_ble_eq_true rfl⟩ ⟨Nat.le_of_ble_eq_true rfl, Nat.le_of_ble_eq_true rfl⟩ (k' := 0) (z' := 0) (N' := N) rfl rfl rfl (fun r σ7056 hp => ?_)
              obtain ⟨p7057, rfl⟩ := hp
              have h7058 := HS.cpS (L2 := L) (o := 0) h6991 (by decide) te7053 p7057
              have ga7059 := ga6993.of (p7057.2 _ (by omega))
              refine m_iinc F (v := nI (k + 1)) (lv' := [(10, .int (nI (k + 1))), (8, .long x6992), (6, .long w2), (4, .long x6994), (11, .long x6992), (0, .ref c), (2, .int (nI a)), (3, .int (nI b))]) e_X10_chance_235 rfl (nI_add k 1) (by decide) rfl ?_
              refine m_goto F e_X10_chance_238 ?_
              refine Wm.lvsub (lv' := [(0, .ref c), (2, .int (nI a)), (3, .int (nI b)), (4, .long x6994), (6, .long w2), (8, .long x6992), (10, .int (nI (k + 1)))]) ?_ [5, 6, 7, 3, 2, 1, 0] rfl
              exact hO a b x6994 w2 x6992 (k + 1) _ h7058 ⟨by omega, by omega, by omega, by omega, by assumption⟩ (by omega)
        · obtain ⟨n7060, hn7060, rfl⟩ := nI_nn (x := x7027) (fun e => q188 (Int32.le_trans (Int32.le_of_lt e) (by decide)))
          have c188 : n7060 > 0 := by have hh := mt (nI_leI (a := n7060) (b := 0) (by omega) (by omega)).mpr q188; omega
          refine m_lload F rfl e_X10_chance_191 ?_
          refine m_goto F e_X10_chance_193 ?_
          refine m_lstore F (lv' := [(6, .long x6992), (4, .long x6994), (11, .long x6992), (0, .ref c), (2, .int (nI a)), (3, .int (nI b)), (8, .long w3), (10, .int (nI k))]) e_X10_chance_198 (by decide) rfl ?_
          refine m_iload F rfl e_X10_chance_200 ?_
          refine m_if_eq F e_X10_chance_202 (fun q202 => ?_) (fun q202 => ?_)
          · have c202 : k = 0 := (nI_eq (a := k) (b := 0) (by omega) (by omega)).mp q202
            refine m_lload F rfl e_X10_chance_213 ?_
            refine m_goto F e_X10_chance_215 ?_
            refine m_lstore F (lv' := [(8, .long x6992), (6, .long x6992), (4, .long x6994), (11, .long x6992), (0, .ref c), (2, .int (nI a)), (3, .int (nI b)), (10, .int (nI k))]) e_X10_chance_220 (by decide) rfl ?_
            refine m_aload_n F rfl e_X10_chance_222 ?_
            refine r_get F e_X10_chance_223 fl_X10_66 h6991 rfl (fun v hv f7061 => ?_)
            obtain rfl : v = .ref (c + 18) := hv
            refine m_iconst F (v := 0) (by decide) e_X10_chance_226 ?_
            refine m_aload_n F rfl e_X10_chance_227 ?_
            refine r_get F e_X10_chance_228 fl_X10_59 h6991 rfl (fun v hv f7062 => ?_)
            obtain rfl : v = .ref (c + 16) := hv
            refine m_iconst F (v := 0) (by decide) e_X10_chance_231 ?_
            have xe7064 := ga6993
            obtain ⟨f7063, e7064, te7064⟩ := xe7064
            obtain ⟨g7065, e7066, te7066⟩ : ∃ f, σ6989 (c + 16) = some (aJ V 1113 f) ∧ _ := h6991.1.cell (k := 16) (by decide)
            refine m_callS F e_X10_chance_232 (q_copies (x_l X) V _ _ (c + 18) (c + 16) 1113 1113 0 0 f7063 g7065 e7064 e7066 (by omega) (by omega) (by omega) (by omega)) cb_X10_copies ml_X10_230 sm_X10_copies rfl (rest := []) rfl (Nat.le_of_ble_eq_true rfl) ⟨Nat.le_of_ble_eq_true rfl, Nat.le_of_ble_eq_true rfl⟩ ⟨Nat.le_of_ble_eq_true rfl, Nat.le_of_ble_eq_true rfl⟩ (k' := 0) (z' := 0) (N' := N) rfl rfl rfl (fun r σ7067 hp => ?_)
            obtain ⟨p7068, rfl⟩ := hp
            have h7069 := HS.cpS (L2 := L) (o := 0) h6991 (by decide) te7064 p7068
            have ga7070 := ga6993.of (p7068.2 _ (by omega))
            refine m_iinc F (v := nI (k + 1)) (lv' := [(10, .int (nI (k + 1))), (8, .long x6992), (6, .long x6992), (4, .long x6994), (11, .long x6992), (0, .ref c), (2, .int (nI a)), (3, .int (nI b))]) e_X10_chance_235 rfl (nI_add k 1) (by decide) rfl ?_
            refine m_goto F e_X10_chance_238 ?_
            refine Wm.lvsub (lv' := [(0, .ref c), (2, .int (nI a)), (3, .int (nI b)), (4, .long x6994), (6, .long x6992), (8, .long x6992), (10, .int (nI (k + 1)))]) ?_ [5, 6, 7, 3, 2, 1, 0] rfl
            exact hO a b x6994 x6992 x6992 (k + 1) _ h7069 ⟨by omega, by omega, by omega, by omega, by assumption⟩ (by omega)
          · have c202 : k ≠ 0 := by have hh := mt (nI_eq (a := k) (b := 0) (by omega) (by omega)).mpr q202; omega
            refine m_lload F rfl e_X10_chance_205 ?_
            refine m_lload F rfl e_X10_chance_207 ?_
            refine m_lcmp F e_X10_chance_209 ?_
            refine Wm.top (fun x7071 _ => ?_)
            refine m_if_ge F e_X10_chance_210 (fun q210 => ?_) (fun q210 => ?_)
            · obtain ⟨n7072, hn7072, rfl⟩ := nI_nn (x := x7071) (fun e => Int32.lt_irrefl (Int32.lt_of_lt_of_le e (Int32.le_trans (by decide) q210)))
              have c210 : n7072 ≥ 0 := (nI_leI (a := 0) (b := n7072) (by omega) (by omega)).mp q210
              refine m_lload F rfl e_X10_chance_218 ?_
              refine m_lstore F (lv' := [(8, .long w3), (6, .long x6992), (4, .long x6994), (11, .long x6992), (0, .ref c), (2, .int (nI a)), (3, .int (nI b)), (10, .int (nI k))]) e_X10_chance_220 (by decide) rfl ?_
              refine m_aload_n F rfl e_X10_chance_222 ?_
              refine r_get F e_X10_chance_223 fl_X10_66 h6991 rfl (fun v hv f7073 => ?_)
              obtain rfl : v = .ref (c + 18) := hv
              refine m_iconst F (v := 0) (by decide) e_X10_chance_226 ?_
              refine m_aload_n F rfl e_X10_chance_227 ?_
              refine r_get F e_X10_chance_228 fl_X10_59 h6991 rfl (fun v hv f7074 => ?_)
              obtain rfl : v = .ref (c + 16) := hv
              refine m_iconst F (v := 0) (by decide) e_X10_chance_231 ?_
              have xe7076 := ga6993
              obtain ⟨f7075, e7076, te7076⟩ := xe7076
              obtain ⟨g7077, e7078, te7078⟩ : ∃ f, σ6989 (c + 16) = some (aJ V 1113 f) ∧ _ := h6991.1.cell (k := 16) (by decide)
              refine m_callS F e_X10_chance_232 (q_copies (x_l X) V _ _ (c + 18) (c + 16) 1113 1113 0 0 f7075 g7077 e7076 e7078 (by omega) (by omega) (by omega) (by omega)) cb_X10_copies ml_X10_230 sm_X10_copies rfl (rest := []) rfl (Nat.le_of_ble_eq_true rfl) ⟨Nat.le_of_ble_eq_true rfl, Nat.le_of_ble_eq_true rfl⟩ ⟨Nat.le_of_ble_eq_true rfl, Nat.le_of_ble_eq_true rfl⟩ (k' := 0) (z' := 0) (N' := N) rfl rfl rfl (fun r σ7079 hp => ?_)
              obtain ⟨p7080, rfl⟩ := hp
              have h7081 := HS.cpS (L2 := L) (o := 0) h6991 (by decide) te7076 p7080
              have ga7082 := ga6993.of (p7080.2 _ (by omega))
              refine m_iinc F (v := nI (k + 1)) (lv' := [(10, .int (nI (k + 1))), (8, .long w3), (6, .long x6992), (4, .long x6994), (11, .long x6992), (0, .ref c), (2, .int (nI a)), (3, .int (nI b))]) e_X10_chance_235 rfl (nI_add k 1) (by decide) rfl ?_
              refine m_goto F e_X10_chance_238 ?_
              refine Wm.lvsub (lv' := [(0, .ref c), (2, .int (nI a)), (3, .int (nI b)), (4, .long x6994), (6, .long x6992), (8, .long w3), (10, .int (nI (k + 1)))]) ?_ [5, 6, 7, 3, 2, 1, 0] rfl
              exact hO a b x6994 x6992 w3 (k + 1) _ h7081 ⟨by omega, by omega, by omega, by omega, by assumption⟩ (by omega)
            · refine m_lload F rfl e_X10_chance_213 ?_
              refine m_goto F e_X10_chance_215 ?_
              refine m_lstore F (lv' := [(8, .long x6992), (6, .long x6992), (4, .long x6994), (11, .long x6992), (0, .ref c), (2, .int (nI a)), (3, .int (nI b)), (10, .int (nI k))]) e_X10_chance_220 (by decide) rfl ?_
              refine m_aload_n F rfl e_X10_chance_222 ?_
              refine r_get F e_X10_chance_223 fl_X10_66 h6991 rfl (fun v hv f7083 => ?_)
              obtain rfl : v = .ref (c + 18) := hv
              refine m_iconst F (v := 0) (by decide) e_X10_chance_226 ?_
              refine m_aload_n F rfl e_X10_chance_227 ?_
              refine r_get F e_X10_chance_228 fl_X10_59 h6991 rfl (fun v hv f7084 => ?_)
              obtain rfl : v = .ref (c + 16) := hv
              refine m_iconst F (v := 0) (by decide) e_X10_chance_231 ?_
              have xe7086 := ga6993
              obtain ⟨f7085, e7086, te7086⟩ := xe7086
              obtain ⟨g7087, e7088, te7088⟩ : ∃ f, σ6989 (c + 16) = some (aJ V 1113 f) ∧ _ := h6991.1.cell (k := 16) (by decide)
              refine m_callS F e_X10_chance_232 (q_copies (x_l X) V _ _ (c + 18) (c + 16) 1113 1113 0 0 f7085 g7087 e7086 e7088 (by omega) (by omega) (by omega) (by omega)) cb_X10_copies ml_X10_230 sm_X10_copies rfl (rest := []) rfl (Nat.le_of_ble_eq_true rfl) ⟨Nat.le_of_ble_eq_true rfl, Nat.le_of_ble_eq_true rfl⟩ ⟨Nat.le_of_ble_eq_true rfl, Nat.le_of_ble_eq_true rfl⟩ (k' := 0) (z' := 0) (N' := N) rfl rfl rfl (fun r σ7089 hp => ?_)
              obtain ⟨p7090, rfl⟩ := hp
              have h7091 := HS.cpS (L2 := L) (o := 0) h6991 (by decide) te7086 p7090
              have ga7092 := ga6993.of (p7090.2 _ (by omega))
              refine m_iinc F (v := nI (k + 1)) (lv' := [(10, .int (nI (k + 1))), (8, .long x6992), (6, .long x6992), (4, .long x6994), (11, .long x6992), (0, .ref c), (2, .int (nI a)), (3, .int (nI b))]) e_X10_chance_235 rfl (nI_add k 1) (by decide) rfl ?_
              refine m_goto F e_X10_chance_238 ?_
              refine Wm.lvsub (lv' := [(0, .ref c), (2, .int (nI a)), (3, .int (nI b)), (4, .long x6994), (6, .long x6992), (8, .long x6992), (10, .int (nI (k + 1)))]) ?_ [5, 6, 7, 3, 2, 1, 0] rfl
              exact hO a b x6994 x6992 x6992 (k + 1) _ h7091 ⟨by omega, by omega, by omega, by omega, by assumption⟩ (by omega)
    · have c129 : p < 12 := by have hh := mt (nI_leI (a := 12) (b := p) (by omega) (by omega)).mpr q129; omega
      refine m_aload_n F rfl e_X10_chance_132 ?_
      refine m_aload_n F rfl e_X10_chance_133 ?_
      refine r_callV F e_X10_chance_134 (q_X10_indexNow (x_l X) V c T Z u h P L1 _ _  h1.1 (hok1.b) hP ) cb_X10_indexNow ml_X10_260 im_X10_indexNow se_X10_indexNow h1 rfl rfl (rest := [.ref c]) rfl (Nat.le_of_ble_eq_true rfl) ⟨Nat.le_of_ble_eq_true rfl, Nat.le_of_ble_eq_true rfl⟩ ⟨Nat.le_of_ble_eq_true rfl, Nat.le_of_ble_eq_true rfl⟩ (fun r σ7093 hp => ?_)
      obtain ⟨h7094, n7096, hn7096, gn7096, rfl⟩ := hp
      have h7095 := HS.trans h1 h7094 (by decide)
      have ga7097 := ga0.of (h7094.2 (c + 18) (by rw [kC_at (k := 18) (by decide)]; decide))
      refine m_aload_n F rfl e_X10_chance_137 ?_
      refine m_bipush F (v := 21) (by decide) e_X10_chance_138 ?_
      refine r_callV F e_X10_chance_140 (q_X10_draw (x_l X) V c T Z u h P L1 _ _ 21 h7095.1 (hok1.b) hP (by omega) (by first | omega | assumption | decide)) cb_X10_draw ml_X10_364 im_X10_draw se_X10_draw h7095 rfl rfl (rest := [.long (lN n7096), .ref c]) rfl (Nat.le_of_ble_eq_true rfl) ⟨Nat.le_of_ble_eq_true rfl, Nat.le_of_ble_eq_true rfl⟩ ⟨Nat.le_of_ble_eq_true rfl, Nat.le_of_ble_eq_true rfl⟩ (fun r σ7098 hp => ?_)
      obtain ⟨h7099, x7101, rfl⟩ := hp
      have h7100 := HS.trans h7095 h7099 (by decide)
      have ga7102 := ga7097.of (h7099.2 (c + 18) (by rw [kC_at (k := 18) (by decide)]; decide))
      refine m_i2l F e_X10_chance_143 ?_
      refine Wm.topl (fun x7103 _ => ?_)
      refine m_ladd F e_X10_chance_144 ?_
      refine Wm.topl (fun x7104 _ => ?_)
      refine m_ldc2 F kc_X10_367 e_X10_chance_145 ?_
      refine m_lsub F e_X10_chance_148 ?_
      refine Wm.topl (fun x7105 _ => ?_)
      refine m_callS F e_X10_chance_149 (q_X10_held (x_l X) V _ _ x7105 ) cb_X10_held ml_X10_369 sm_X10_held rfl (rest := [.ref c]) rfl (Nat.le_of_ble_eq_true rfl) ⟨Nat.le_of_ble_eq_true rfl, Nat.le_of_ble_eq_true rfl⟩ ⟨Nat.le_of_ble_eq_true rfl, Nat.le_of_ble_eq_true rfl⟩ (k' := 0) (z' := 0) (N' := N) rfl rfl rfl (fun r σ7106 hp => ?_)
      obtain ⟨rfl, n7109, gn7109, hn7109, rfl⟩ := hp
      refine r_callV F e_X10_chance_152 (q_X10_becomes (x_l X) V c T Z u h P L1 _ _ n7109 h7100.1 (hok1.b) hP (by omega) (by first | omega | assumption | decide)) cb_X10_becomes ml_X10_322 im_X10_becomes se_X10_becomes h7100 rfl rfl (rest := []) rfl (Nat.le_of_ble_eq_true rfl) ⟨Nat.le_of_ble_eq_true rfl, Nat.le_of_ble_eq_true rfl⟩ ⟨Nat.le_of_ble_eq_true rfl, Nat.le_of_ble_eq_true rfl⟩ (fun r σ7110 hp => ?_)
      obtain ⟨h7111, rfl⟩ := hp
      have h7112 := HS.trans h7100 h7111 (by decide)
      have ga7113 := ga7102.of (h7111.2 (c + 18) (by rw [kC_at (k := 18) (by decide)]; decide))
      refine m_aload_n F rfl e_X10_chance_155 ?_
      refine r_callV F e_X10_chance_156 (q_X10_periodGoes (x_l X) V c T Z u h P L1 _ _  h7112.1 (hok1) hP (by first | omega | assumption | decide)) cb_X10_periodGoes ml_X10_289 im_X10_periodGoes se_X10_periodGoes h7112 rfl rfl (rest := []) rfl (Nat.le_of_ble_eq_true rfl) ⟨Nat.le_of_ble_eq_true rfl, Nat.le_of_ble_eq_true rfl⟩ ⟨Nat.le_of_ble_eq_true rfl, Nat.le_of_ble_eq_true rfl⟩ (fun r σ7114 hp => ?_)
      obtain ⟨L7117, okL7117, r7118, h7115, rfl⟩ := hp
      have h7116 := HS.trans h7112 h7115 (by decide)
      have ga7119 := ga7113.of (h7115.2 (c + 18) (by rw [kC_at (k := 18) (by decide)]; decide))
      refine m_iinc F (v := nI (p + 1)) (lv' := [(11, .int (nI (p + 1))), (0, .ref c), (2, .int (nI a)), (3, .int (nI b)), (4, .long w1), (6, .long w2), (8, .long w3), (10, .int (nI k))]) e_X10_chance_159 rfl (nI_add p 1) (by decide) rfl ?_
      refine m_goto F e_X10_chance_162 ?_
      refine Wm.lvsub (lv' := [(0, .ref c), (2, .int (nI a)), (3, .int (nI b)), (4, .long w1), (6, .long w2), (8, .long w3), (10, .int (nI k)), (11, .int (nI (p + 1)))]) ?_ [1, 2, 3, 4, 5, 6, 7, 0] rfl
      exact ih a b w1 w2 w3 k (p + 1) L7117 _ h7116 okL7117 ⟨by omega, by omega, by omega, by omega, by omega, by omega, by omega, by assumption⟩ (by omega)
set_option maxRecDepth 20000 in
theorem lq_X10_chance_116 {V : VX} {X : MX} {N : Nat} {σ : Mem} {c T Z u h : Nat} {P : NP} {L : Nat → LQ}   (F : Fx V X yX10_chance cX10_chance 13 (some .long) (rmd 4 0 0)) (hQ : Rt V X 0 0 N (fun r τ => HS V c (⟨T, Z, u, h, P, L⟩ : RG) [0, 2, 3, 4, 5, 6, 7, 8, 9, 10, 11, 12, 13, 14, 15, 16, 18, 20, 21, 22] σ τ ∧ ∃ x : Int64, r = some (.long x))) (hok : OKL P.n0 L) (hP : OKP P)   : ∀ (fuel : Nat) (a : Nat) (b : Nat) (w1 : Int64) (w2 : Int64) (w3 : Int64) (k : Nat) (τ : Mem), HS V c (⟨T, Z, u, h, P, L⟩ : RG) [0, 2, 3, 4, 5, 6, 7, 8, 9, 10, 11, 12, 13, 14, 15, 16, 18, 20, 21, 22] σ τ → a ≤ 10 ∧ b ≤ 2 ∧ k ≤ a ∧ (L 4).1 ≤ 87 ∧ GB V c 18 1113 0 L τ → a - k < fuel → Wm V X 13 N τ 0 0 116 [(0, .ref c), (2, .int (nI a)), (3, .int (nI b)), (4, .long w1), (6, .long w2), (8, .long w3), (10, .int (nI k))] [] := by
  intro fuel
  induction fuel with
  | zero => intros; rename_i hm; exact absurd hm (Nat.not_lt_zero _)
  | succ fuel ih =>
    intro a b w1 w2 w3 k τ h1 hi hm
    have hPP := hP
    unfold OKP at hPP
    have ga0 := hi.2.2.2.2
    refine m_iload F rfl e_X10_chance_116 ?_
    refine m_iload_n F rfl e_X10_chance_118 ?_
    refine m_icmp_ge F e_X10_chance_119 (fun q119 => ?_) (fun q119 => ?_)
    · have c119 : k ≥ a := (nI_leI (a := a) (b := k) (by omega) (by omega)).mp q119
      refine m_iload_n F rfl e_X10_chance_241 ?_
      refine m_if_ne F e_X10_chance_242 (fun q242 => ?_) (fun q242 => ?_)
      · have c242 : b ≠ 0 := by have hh := mt (nI_eq (a := b) (b := 0) (by omega) (by omega)).mpr q242; omega
        refine m_iload_n F rfl e_X10_chance_250 ?_
        refine m_iconst F (v := 1) (by decide) e_X10_chance_251 ?_
        refine m_icmp_ne F e_X10_chance_252 (fun q252 => ?_) (fun q252 => ?_)
        · have c252 : b ≠ 1 := by have hh := mt (nI_eq (a := b) (b := 1) (by omega) (by omega)).mpr q252; omega
          refine m_lload F rfl e_X10_chance_260 ?_
          exact m_lret F hQ e_X10_chance_262 (⟨h1, _, rfl⟩)
        · have c252 : b = 1 := (nI_eq (a := b) (b := 1) (by omega) (by omega)).mp q252
          refine m_lload F rfl e_X10_chance_255 ?_
          refine m_goto F e_X10_chance_257 ?_
          exact m_lret F hQ e_X10_chance_262 (⟨h1, _, rfl⟩)
      · have c242 : b = 0 := (nI_eq (a := b) (b := 0) (by omega) (by omega)).mp q242
        refine m_lload F rfl e_X10_chance_245 ?_
        refine m_goto F e_X10_chance_247 ?_
        exact m_lret F hQ e_X10_chance_262 (⟨h1, _, rfl⟩)
    · have c119 : k < a := by have hh := mt (nI_leI (a := a) (b := k) (by omega) (by omega)).mpr q119; omega
      refine m_iconst F (v := 0) (by decide) e_X10_chance_122 ?_
      refine m_istore F (lv' := [(11, .int 0), (0, .ref c), (2, .int (nI a)), (3, .int (nI b)), (4, .long w1), (6, .long w2), (8, .long w3), (10, .int (nI k))]) e_X10_chance_123 (by decide) rfl ?_
      refine Wm.lvsub (lv' := [(0, .ref c), (2, .int (nI a)), (3, .int (nI b)), (4, .long w1), (6, .long w2), (8, .long w3), (10, .int (nI k)), (11, .int 0)]) ?_ [1, 2, 3, 4, 5, 6, 7, 0] rfl
      exact lq_X10_chance_125 F hQ hok hP  ih (12 - 0 + 1) a b w1 w2 w3 k 0 L _ h1 hok ⟨by omega, by omega, by omega, by omega, by omega, by omega, by omega, by assumption⟩ (Nat.lt_succ_self _)
set_option maxRecDepth 20000 in
theorem q_X10_chance (l : Launch) (V : VX) (c T Z u h : Nat) (P : NP) (L : Nat → LQ) (N : Nat) (σ : Mem) (x901 : Int32) (x902 : Int32) (x903 : Int32) (h0 : HR V c ⟨T, Z, u, h, P, L⟩ σ) (hok : OKL P.n0 L) (hP : OKP P)  : Ct l V yX10_chance cX10_chance 13 (some .long) 4 0 0 N σ [.ref c, .int x901, .int x902, .int x903] (fun r τ => HS V c (⟨T, Z, u, h, P, L⟩ : RG) [0, 2, 3, 4, 5, 6, 7, 8, 9, 10, 11, 12, 13, 14, 15, 16, 18, 20, 21, 22] σ τ ∧ ∃ x : Int64, r = some (.long x)) := by
  refine Ct.of (by decide) (Nat.le_of_ble_eq_true rfl) [(0, .ref c), (1, .int x901), (2, .int x902), (3, .int x903)] rfl (fun X hX F hQ => ?_)
  have hPP := hP
  unfold OKP at hPP
  have h1 : HS V c ⟨T, Z, u, h, P, L⟩ [0, 2, 3, 4, 5, 6, 7, 8, 9, 10, 11, 12, 13, 14, 15, 16, 18, 20, 21, 22] σ σ := HS.start h0
  refine m_aload_n F rfl e_X10_chance_0 ?_
  refine m_iconst F (v := 0) (by decide) e_X10_chance_1 ?_
  refine r_put F (g' := (⟨T, Z, u, h, P, L⟩ : RG)) e_X10_chance_2 fp_X10_91 h1 (by decide) ⟨_, rfl⟩ (fun _ _ _ _ q => q) (fun _ _ _ q => q) rfl rfl (by decide) (fun σ7120 h7121 g7122 g7123 f7124 => ?_)
  refine m_iload_n F rfl e_X10_chance_5 ?_
  refine m_iconst F (v := (-1)) (by decide) e_X10_chance_6 ?_
  refine m_icmp_lt F e_X10_chance_7 (fun q7 => ?_) (fun q7 => ?_)
  · refine m_ldc2 F kc_X10_245 e_X10_chance_30 ?_
    exact m_lret F hQ e_X10_chance_33 (⟨h7121, _, rfl⟩)
  · refine m_iload_n F rfl e_X10_chance_10 ?_
    refine m_iconst F (v := 1) (by decide) e_X10_chance_11 ?_
    refine m_icmp_lt F e_X10_chance_12 (fun q12 => ?_) (fun q12 => ?_)
    · refine m_ldc2 F kc_X10_245 e_X10_chance_30 ?_
      exact m_lret F hQ e_X10_chance_33 (⟨h7121, _, rfl⟩)
    · obtain ⟨n7125, hn7125, rfl⟩ := nI_nn (x := x902) (fun e => q12 (Int32.lt_of_lt_of_le e (by decide)))
      have c12 : n7125 ≥ 1 := by have hh := mt (nI_ltI (a := n7125) (b := 1) (by omega) (by omega)).mpr q12; omega
      refine m_iload_n F rfl e_X10_chance_15 ?_
      refine m_bipush F (v := 10) (by decide) e_X10_chance_16 ?_
      refine m_icmp_gt F e_X10_chance_18 (fun q18 => ?_) (fun q18 => ?_)
      · have c18 : n7125 > 10 := (nI_ltI (a := 10) (b := n7125) (by omega) (by omega)).mp q18
        refine m_ldc2 F kc_X10_245 e_X10_chance_30 ?_
        exact m_lret F hQ e_X10_chance_33 (⟨h7121, _, rfl⟩)
      · have c18 : n7125 ≤ 10 := by have hh := mt (nI_ltI (a := 10) (b := n7125) (by omega) (by omega)).mpr q18; omega
        refine m_iload_n F rfl e_X10_chance_21 ?_
        refine m_if_lt F e_X10_chance_22 (fun q22 => ?_) (fun q22 => ?_)
        · refine m_ldc2 F kc_X10_245 e_X10_chance_30 ?_
          exact m_lret F hQ e_X10_chance_33 (⟨h7121, _, rfl⟩)
        · obtain ⟨n7126, hn7126, rfl⟩ := nI_nn (x := x903) (fun e => q22 (Int32.lt_of_lt_of_le e (by decide)))
          have c22 : n7126 ≥ 0 := by have hh := mt (nI_ltI (a := n7126) (b := 0) (by omega) (by omega)).mpr q22; omega
          refine m_iload_n F rfl e_X10_chance_25 ?_
          refine m_iconst F (v := 2) (by decide) e_X10_chance_26 ?_
          refine m_icmp_le F e_X10_chance_27 (fun q27 => ?_) (fun q27 => ?_)
          · have c27 : n7126 ≤ 2 := (nI_leI (a := n7126) (b := 2) (by omega) (by omega)).mp q27
            refine m_aload_n F rfl e_X10_chance_34 ?_
            refine r_get F e_X10_chance_35 fl_X10_59 h7121 rfl (fun v hv f7127 => ?_)
            obtain rfl : v = .ref (c + 16) := hv
            refine m_sipush F (v := 744) (by decide) e_X10_chance_38 ?_
            refine r_sld F (j := 744) e_X10_chance_41 h7121 (by decide) (by unfold vp_in; decide) (fun x7128 h7129 f7130 => ?_)
            have hl7131 := hok.1
            obtain rfl : x7128 = lN (L 4).1 := EJ_p.mp h7129
            refine m_ldc2 F kc_X10_362 e_X10_chance_42 ?_
            refine m_ladd F e_X10_chance_45 ?_
            refine Wm.toplE (w := lN ((L 4).1 + 12)) (lN_add ((L 4).1) 12) ?_
            refine m_ldc2 F kc_X10_284 e_X10_chance_46 ?_
            refine m_lcmp F e_X10_chance_49 ?_
            refine m_if_le F e_X10_chance_50 (fun q50 => ?_) (fun q50 => ?_)
            · have c50 : ((L 4).1 + 12) ≤ 99 := (lN_le (a := ((L 4).1 + 12)) (b := 99) (by omega) (by omega)).mp ((lg_cmp_le _ _).mp q50)
              refine m_aload_n F rfl e_X10_chance_57 ?_
              refine m_iload_n F rfl e_X10_chance_58 ?_
              refine m_iconst F (v := (-1)) (by decide) e_X10_chance_59 ?_
              refine m_icmp_ne F e_X10_chance_60 (fun q60 => ?_) (fun q60 => ?_)
              · refine m_iload_n F rfl e_X10_chance_87 ?_
                refine r_put F (g' := (⟨T, Z, u, h, P, L⟩ : RG)) e_X10_chance_88 fp_X10_353 h7121 (by decide) ⟨_, rfl⟩ (fun _ _ _ _ q => q) (fun _ _ _ q => q) rfl rfl (by decide) (fun σ7132 h7133 g7134 g7135 f7136 => ?_)
                refine m_lconst F (v := 0) (by decide) e_X10_chance_91 ?_
                refine m_lstore F (lv' := [(4, .long 0), (0, .ref c), (1, .int x901), (2, .int (nI n7125)), (3, .int (nI n7126))]) e_X10_chance_92 (by decide) rfl ?_
                refine m_lconst F (v := 0) (by decide) e_X10_chance_94 ?_
                refine m_lstore F (lv' := [(6, .long 0), (4, .long 0), (0, .ref c), (1, .int x901), (2, .int (nI n7125)), (3, .int (nI n7126))]) e_X10_chance_95 (by decide) rfl ?_
                refine m_lconst F (v := 0) (by decide) e_X10_chance_97 ?_
                refine m_lstore F (lv' := [(8, .long 0), (6, .long 0), (4, .long 0), (0, .ref c), (1, .int x901), (2, .int (nI n7125)), (3, .int (nI n7126))]) e_X10_chance_98 (by decide) rfl ?_
                refine m_aload_n F rfl e_X10_chance_100 ?_
                refine r_getC F e_X10_chance_101 fl_X10_59 h7133 ((g7135 27 (by decide)).trans f7127) ?_
                refine m_iconst F (v := 0) (by decide) e_X10_chance_104 ?_
                refine m_aload_n F rfl e_X10_chance_105 ?_
                refine r_get F e_X10_chance_106 fl_X10_66 h7133 rfl (fun v hv f7137 => ?_)
                obtain rfl : v = .ref (c + 18) := hv
                refine m_iconst F (v := 0) (by decide) e_X10_chance_109 ?_
                obtain ⟨f7138, e7139, te7139⟩ : ∃ f, σ7132 (c + 16) = some (aJ V 1113 f) ∧ ∀ i, i < 1113 → EJ L i (f i) := h7133.1.cell (k := 16) (by decide)
                obtain ⟨g7140, e7141⟩ : ∃ f, σ7132 (c + 18) = some (aJ V 1113 f) := h7133.1.cell (k := 18) (by decide)
                refine m_callS F e_X10_chance_110 (q_copies (x_l X) V _ _ (c + 16) (c + 18) 1113 1113 0 0 f7138 g7140 e7139 e7141 (by omega) (by omega) (by omega) (by omega)) cb_X10_copies ml_X10_230 sm_X10_copies rfl (rest := []) rfl (Nat.le_of_ble_eq_true rfl) ⟨Nat.le_of_ble_eq_true rfl, Nat.le_of_ble_eq_true rfl⟩ ⟨Nat.le_of_ble_eq_true rfl, Nat.le_of_ble_eq_true rfl⟩ (k' := 0) (z' := 0) (N' := N) rfl rfl rfl (fun r σ7142 hp => ?_)
                obtain ⟨p7143, rfl⟩ := hp
                have h7144 := HS.cp (k := 18) (g' := (⟨T, Z, u, h, P, L⟩ : RG)) h7133 p7143 (by decide) (by decide) ⟨_, rfl⟩ (fun _ _ _ q => q)
                have ga7145 : GB V c 18 1113 0 L σ7142 := ⟨_, p7143.1, fun i hi => by rw [show 0 + i = i from Nat.zero_add i, cpy_at0 hi, Nat.zero_add]; exact te7139 i hi⟩
                refine m_iconst F (v := 0) (by decide) e_X10_chance_113 ?_
                refine m_istore F (lv' := [(10, .int 0), (8, .long 0), (6, .long 0), (4, .long 0), (0, .ref c), (1, .int x901), (2, .int (nI n7125)), (3, .int (nI n7126))]) e_X10_chance_114 (by decide) rfl ?_
                refine Wm.lvsub (lv' := [(0, .ref c), (2, .int (nI n7125)), (3, .int (nI n7126)), (4, .long 0), (6, .long 0), (8, .long 0), (10, .int 0)]) ?_ [4, 6, 7, 3, 2, 1, 0] rfl
                exact lq_X10_chance_116 F hQ hok hP  (n7125 - 0 + 1) n7125 n7126 0 0 0 0 _ h7144 ⟨by omega, by omega, by omega, by omega, by assumption⟩ (Nat.lt_succ_self _)
              · subst q60
                refine m_aload_n F rfl e_X10_chance_63 ?_
                refine r_get F e_X10_chance_64 fl_X10_13 h7121 rfl (fun v hv f7146 => ?_)
                obtain rfl : v = .ref (c + 2) := hv
                refine m_iconst F (v := 4) (by decide) e_X10_chance_67 ?_
                refine r_iald F (len := 10) (j := 4) e_X10_chance_68 h7121 (fun _ h => h) (by decide) (by decide) (by unfold vp_in; decide) (fun x7147 h7148 f7149 => ?_)
                refine m_if_ne F e_X10_chance_69 (fun q69 => ?_) (fun q69 => ?_)
                · refine m_aload_n F rfl e_X10_chance_76 ?_
                  refine r_getC F e_X10_chance_77 fl_X10_13 h7121 (f7146) ?_
                  refine m_iconst F (v := 4) (by decide) e_X10_chance_80 ?_
                  refine r_iald F (len := 10) (j := 4) e_X10_chance_81 h7121 (fun _ h => h) (by decide) (by decide) (by unfold vp_in; decide) (fun x7150 h7151 f7152 => ?_)
                  obtain rfl := Option.some.inj ((f7152).symm.trans (f7149))
                  refine m_iconst F (v := 1) (by decide) e_X10_chance_82 ?_
                  refine m_isub F e_X10_chance_83 ?_
                  refine Wm.top (fun x7153 _ => ?_)
                  refine m_goto F e_X10_chance_84 ?_
                  refine r_put F (g' := (⟨T, Z, u, h, P, L⟩ : RG)) e_X10_chance_88 fp_X10_353 h7121 (by decide) ⟨_, rfl⟩ (fun _ _ _ _ q => q) (fun _ _ _ q => q) rfl rfl (by decide) (fun σ7154 h7155 g7156 g7157 f7158 => ?_)
                  refine m_lconst F (v := 0) (by decide) e_X10_chance_91 ?_
                  refine m_lstore F (lv' := [(4, .long 0), (0, .ref c), (1, .int (-1)), (2, .int (nI n7125)), (3, .int (nI n7126))]) e_X10_chance_92 (by decide) rfl ?_
                  refine m_lconst F (v := 0) (by decide) e_X10_chance_94 ?_
                  refine m_lstore F (lv' := [(6, .long 0), (4, .long 0), (0, .ref c), (1, .int (-1)), (2, .int (nI n7125)), (3, .int (nI n7126))]) e_X10_chance_95 (by decide) rfl ?_
                  refine m_lconst F (v := 0) (by decide) e_X10_chance_97 ?_
                  refine m_lstore F (lv' := [(8, .long 0), (6, .long 0), (4, .long 0), (0, .ref c), (1, .int (-1)), (2, .int (nI n7125)), (3, .int (nI n7126))]) e_X10_chance_98 (by decide) rfl ?_
                  refine m_aload_n F rfl e_X10_chance_100 ?_
                  refine r_getC F e_X10_chance_101 fl_X10_59 h7155 ((g7157 27 (by decide)).trans f7127) ?_
                  refine m_iconst F (v := 0) (by decide) e_X10_chance_104 ?_
                  refine m_aload_n F rfl e_X10_chance_105 ?_
                  refine r_get F e_X10_chance_106 fl_X10_66 h7155 rfl (fun v hv f7159 => ?_)
                  obtain rfl : v = .ref (c + 18) := hv
                  refine m_iconst F (v := 0) (by decide) e_X10_chance_109 ?_
                  obtain ⟨f7160, e7161, te7161⟩ : ∃ f, σ7154 (c + 16) = some (aJ V 1113 f) ∧ ∀ i, i < 1113 → EJ L i (f i) := h7155.1.cell (k := 16) (by decide)
                  obtain ⟨g7162, e7163⟩ : ∃ f, σ7154 (c + 18) = some (aJ V 1113 f) := h7155.1.cell (k := 18) (by decide)
                  refine m_callS F e_X10_chance_110 (q_copies (x_l X) V _ _ (c + 16) (c + 18) 1113 1113 0 0 f7160 g7162 e7161 e7163 (by omega) (by omega) (by omega) (by omega)) cb_X10_copies ml_X10_230 sm_X10_copies rfl (rest := []) rfl (Nat.le_of_ble_eq_true rfl) ⟨Nat.le_of_ble_eq_true rfl, Nat.le_of_ble_eq_true rfl⟩ ⟨Nat.le_of_ble_eq_true rfl, Nat.le_of_ble_eq_true rfl⟩ (k' := 0) (z' := 0) (N' := N) rfl rfl rfl (fun r σ7164 hp => ?_)
                  obtain ⟨p7165, rfl⟩ := hp
                  have h7166 := HS.cp (k := 18) (g' := (⟨T, Z, u, h, P, L⟩ : RG)) h7155 p7165 (by decide) (by decide) ⟨_, rfl⟩ (fun _ _ _ q => q)
                  have ga7167 : GB V c 18 1113 0 L σ7164 := ⟨_, p7165.1, fun i hi => by rw [show 0 + i = i from Nat.zero_add i, cpy_at0 hi, Nat.zero_add]; exact te7161 i hi⟩
                  refine m_iconst F (v := 0) (by decide) e_X10_chance_113 ?_
                  refine m_istore F (lv' := [(10, .int 0), (8, .long 0), (6, .long 0), (4, .long 0), (0, .ref c), (1, .int (-1)), (2, .int (nI n7125)), (3, .int (nI n7126))]) e_X10_chance_114 (by decide) rfl ?_
                  refine Wm.lvsub (lv' := [(0, .ref c), (2, .int (nI n7125)), (3, .int (nI n7126)), (4, .long 0), (6, .long 0), (8, .long 0), (10, .int 0)]) ?_ [4, 6, 7, 3, 2, 1, 0] rfl
                  exact lq_X10_chance_116 F hQ hok hP  (n7125 - 0 + 1) n7125 n7126 0 0 0 0 _ h7166 ⟨by omega, by omega, by omega, by omega, by assumption⟩ (Nat.lt_succ_self _)
                · subst q69
                  refine m_iconst F (v := 0) (by decide) e_X10_chance_72 ?_
                  refine m_goto F e_X10_chance_73 ?_
                  refine r_put F (g' := (⟨T, Z, u, h, P, L⟩ : RG)) e_X10_chance_88 fp_X10_353 h7121 (by decide) ⟨_, rfl⟩ (fun _ _ _ _ q => q) (fun _ _ _ q => q) rfl rfl (by decide) (fun σ7168 h7169 g7170 g7171 f7172 => ?_)
                  refine m_lconst F (v := 0) (by decide) e_X10_chance_91 ?_
                  refine m_lstore F (lv' := [(4, .long 0), (0, .ref c), (1, .int (-1)), (2, .int (nI n7125)), (3, .int (nI n7126))]) e_X10_chance_92 (by decide) rfl ?_
                  refine m_lconst F (v := 0) (by decide) e_X10_chance_94 ?_
                  refine m_lstore F (lv' := [(6, .long 0), (4, .long 0), (0, .ref c), (1, .int (-1)), (2, .int (nI n7125)), (3, .int (nI n7126))]) e_X10_chance_95 (by decide) rfl ?_
                  refine m_lconst F (v := 0) (by decide) e_X10_chance_97 ?_
                  refine m_lstore F (lv' := [(8, .long 0), (6, .long 0), (4, .long 0), (0, .ref c), (1, .int (-1)), (2, .int (nI n7125)), (3, .int (nI n7126))]) e_X10_chance_98 (by decide) rfl ?_
                  refine m_aload_n F rfl e_X10_chance_100 ?_
                  refine r_getC F e_X10_chance_101 fl_X10_59 h7169 ((g7171 27 (by decide)).trans f7127) ?_
                  refine m_iconst F (v := 0) (by decide) e_X10_chance_104 ?_
                  refine m_aload_n F rfl e_X10_chance_105 ?_
                  refine r_get F e_X10_chance_106 fl_X10_66 h7169 rfl (fun v hv f7173 => ?_)
                  obtain rfl : v = .ref (c + 18) := hv
                  refine m_iconst F (v := 0) (by decide) e_X10_chance_109 ?_
                  obtain ⟨f7174, e7175, te7175⟩ : ∃ f, σ7168 (c + 16) = some (aJ V 1113 f) ∧ ∀ i, i < 1113 → EJ L i (f i) := h7169.1.cell (k := 16) (by decide)
                  obtain ⟨g7176, e7177⟩ : ∃ f, σ7168 (c + 18) = some (aJ V 1113 f) := h7169.1.cell (k := 18) (by decide)
                  refine m_callS F e_X10_chance_110 (q_copies (x_l X) V _ _ (c + 16) (c + 18) 1113 1113 0 0 f7174 g7176 e7175 e7177 (by omega) (by omega) (by omega) (by omega)) cb_X10_copies ml_X10_230 sm_X10_copies rfl (rest := []) rfl (Nat.le_of_ble_eq_true rfl) ⟨Nat.le_of_ble_eq_true rfl, Nat.le_of_ble_eq_true rfl⟩ ⟨Nat.le_of_ble_eq_true rfl, Nat.le_of_ble_eq_true rfl⟩ (k' := 0) (z' := 0) (N' := N) rfl rfl rfl (fun r σ7178 hp => ?_)
                  obtain ⟨p7179, rfl⟩ := hp
                  have h7180 := HS.cp (k := 18) (g' := (⟨T, Z, u, h, P, L⟩ : RG)) h7169 p7179 (by decide) (by decide) ⟨_, rfl⟩ (fun _ _ _ q => q)
                  have ga7181 : GB V c 18 1113 0 L σ7178 := ⟨_, p7179.1, fun i hi => by rw [show 0 + i = i from Nat.zero_add i, cpy_at0 hi, Nat.zero_add]; exact te7175 i hi⟩
                  refine m_iconst F (v := 0) (by decide) e_X10_chance_113 ?_
                  refine m_istore F (lv' := [(10, .int 0), (8, .long 0), (6, .long 0), (4, .long 0), (0, .ref c), (1, .int (-1)), (2, .int (nI n7125)), (3, .int (nI n7126))]) e_X10_chance_114 (by decide) rfl ?_
                  refine Wm.lvsub (lv' := [(0, .ref c), (2, .int (nI n7125)), (3, .int (nI n7126)), (4, .long 0), (6, .long 0), (8, .long 0), (10, .int 0)]) ?_ [4, 6, 7, 3, 2, 1, 0] rfl
                  exact lq_X10_chance_116 F hQ hok hP  (n7125 - 0 + 1) n7125 n7126 0 0 0 0 _ h7180 ⟨by omega, by omega, by omega, by omega, by assumption⟩ (Nat.lt_succ_self _)
            · have c50 : ((L 4).1 + 12) > 99 := by have hh := mt (fun h9 => (lg_cmp_le (lN ((L 4).1 + 12)) (lN 99)).mpr ((lN_le (a := ((L 4).1 + 12)) (b := 99) (by omega) (by omega)).mpr h9)) q50; omega
              refine m_ldc2 F kc_X10_338 e_X10_chance_53 ?_
              exact m_lret F hQ e_X10_chance_56 (⟨h7121, _, rfl⟩)
          · have c27 : n7126 > 2 := by have hh := mt (nI_leI (a := n7126) (b := 2) (by omega) (by omega)).mpr q27; omega
            refine m_ldc2 F kc_X10_245 e_X10_chance_30 ?_
            exact m_lret F hQ e_X10_chance_33 (⟨h7121, _, rfl⟩)
set_option maxRecDepth 20000 in
theorem q_X10_undo (l : Launch) (V : VX) (c T Z u h : Nat) (P : NP) (L : Nat → LQ) (N : Nat) (σ : Mem)  (h0 : HR V c ⟨T, Z, u, h, P, L⟩ σ) (hok : OKL P.n0 L) (hP : OKP P) (hp0 : u ≤ 20) (hp1 : P.kk = P.n0) : Ct l V yX10_undo cX10_undo 1 (some .int) 1 0 0 N σ [.ref c] (fun r τ => ∃ u9, u9 ≤ 20 ∧ ∃ L9, OKL P.n0 L9 ∧ HS V c (⟨T, Z, u9, h, P, L9⟩ : RG) [0, 2, 3, 4, 5, 6, 7, 8, 9, 10, 11, 12, 13, 14, 15, 16, 18, 19, 20, 21, 22, 23] σ τ ∧ ∃ x : Int32, r = some (.int x)) := by
  refine Ct.of (by decide) (Nat.le_of_ble_eq_true rfl) [(0, .ref c)] rfl (fun X hX F hQ => ?_)
  have hPP := hP
  unfold OKP at hPP
  have h1 : HS V c ⟨T, Z, u, h, P, L⟩ [0, 2, 3, 4, 5, 6, 7, 8, 9, 10, 11, 12, 13, 14, 15, 16, 18, 19, 20, 21, 22, 23] σ σ := HS.start h0
  refine m_aload_n F rfl e_X10_undo_0 ?_
  refine m_iconst F (v := 0) (by decide) e_X10_undo_1 ?_
  refine r_put F (g' := (⟨T, Z, u, h, P, L⟩ : RG)) e_X10_undo_2 fp_X10_91 h1 (by decide) ⟨_, rfl⟩ (fun _ _ _ _ q => q) (fun _ _ _ q => q) rfl rfl (by decide) (fun σ7182 h7183 g7184 g7185 f7186 => ?_)
  refine m_aload_n F rfl e_X10_undo_5 ?_
  refine r_get F e_X10_undo_6 fl_X10_214 h7183 rfl (fun v hv f7187 => ?_)
  obtain rfl : v = .int (nI (u)) := hv
  refine m_if_ne F e_X10_undo_9 (fun q9 => ?_) (fun q9 => ?_)
  · have c9 : u ≠ 0 := by have hh := mt (nI_eq (a := u) (b := 0) (by omega) (by omega)).mpr q9; omega
    obtain ⟨kf, ke, kg⟩ : ∃ f, σ7182 (c + 20) = some (aJ V 22260 f) ∧ ∀ j, j < u → GR P.kk (fun i => f (1113 * j + i)) := h7183.1.cell (k := 20) (by decide)
    obtain ⟨L8, ok8, t8⟩ := kg (u - 1) (by omega)
    rw [hp1] at ok8
    have ga7188 : GB V c 20 22260 (1113 * (u - 1)) L8 σ7182 := ⟨kf, ke, t8⟩
    obtain ⟨kf, ke, kg⟩ : ∃ f, σ7182 (c + 20) = some (aJ V 22260 f) ∧ ∀ j, j < u → GR P.kk (fun i => f (1113 * j + i)) := h7183.1.cell (k := 20) (by decide)
    obtain ⟨L8, ok8, t8⟩ := kg (u - 1) (by omega)
    rw [hp1] at ok8
    have ga7189 : GB V c 20 22260 (1113 * (u - 1)) L8 σ7182 := ⟨kf, ke, t8⟩
    obtain ⟨kf, ke, kg⟩ : ∃ f, σ7182 (c + 20) = some (aJ V 22260 f) ∧ ∀ j, j < u → GR P.kk (fun i => f (1113 * j + i)) := h7183.1.cell (k := 20) (by decide)
    obtain ⟨L8, ok8, t8⟩ := kg (u - 1) (by omega)
    rw [hp1] at ok8
    have ga7190 : GB V c 20 22260 (1113 * (u - 1)) L8 σ7182 := ⟨kf, ke, t8⟩
    refine m_aload_n F rfl e_X10_undo_14 ?_
    refine m_dup F rfl e_X10_undo_15 ?_
    refine r_getC F e_X10_undo_16 fl_X10_214 h7183 (f7187) ?_
    refine m_iconst F (v := 1) (by decide) e_X10_undo_19 ?_
    refine m_isub F e_X10_undo_20 ?_
    refine Wm.topE (w := nI (u - 1)) (pk_sub (a := u) (b := 1) (by omega)) ?_
    refine r_put F (g' := (⟨T, Z, u - 1, h, P, L⟩ : RG)) e_X10_undo_21 fp_X10_214 h7183 (by decide) rfl ctl_u (CR.und (by omega)) rfl rfl (by decide) (fun σ7191 h7192 g7193 g7194 f7195 => ?_)
    have ga7196 := ga7190.of (g7193 _ (by omega))
    refine m_aload_n F rfl e_X10_undo_24 ?_
    refine r_get F e_X10_undo_25 fl_X10_72 h7192 rfl (fun v hv f7197 => ?_)
    obtain rfl : v = .ref (c + 20) := hv
    refine m_sipush F (v := 1113) (by decide) e_X10_undo_28 ?_
    refine m_aload_n F rfl e_X10_undo_31 ?_
    refine r_getC F e_X10_undo_32 fl_X10_214 h7192 (f7195) ?_
    refine m_imul F e_X10_undo_35 ?_
    refine Wm.topE (w := nI (1113 * (u - 1))) (pk_mul 1113 (u - 1)) ?_
    refine m_aload_n F rfl e_X10_undo_36 ?_
    refine r_get F e_X10_undo_37 fl_X10_59 h7192 rfl (fun v hv f7198 => ?_)
    obtain rfl : v = .ref (c + 16) := hv
    refine m_iconst F (v := 0) (by decide) e_X10_undo_40 ?_
    have xe7200 := ga7196
    obtain ⟨f7199, e7200, te7200⟩ := xe7200
    obtain ⟨g7201, e7202, te7202⟩ : ∃ f, σ7191 (c + 16) = some (aJ V 1113 f) ∧ _ := h7192.1.cell (k := 16) (by decide)
    refine m_callS F e_X10_undo_41 (q_copies (x_l X) V _ _ (c + 20) (c + 16) 22260 1113 (1113 * (u - 1)) 0 f7199 g7201 e7200 e7202 (by omega) (by omega) (by omega) (by omega)) cb_X10_copies ml_X10_230 sm_X10_copies rfl (rest := []) rfl (Nat.le_of_ble_eq_true rfl) ⟨Nat.le_of_ble_eq_true rfl, Nat.le_of_ble_eq_true rfl⟩ ⟨Nat.le_of_ble_eq_true rfl, Nat.le_of_ble_eq_true rfl⟩ (k' := 0) (z' := 0) (N' := N) rfl rfl rfl (fun r σ7203 hp => ?_)
    obtain ⟨p7204, rfl⟩ := hp
    have h7205 := HS.cpS (L2 := L8) (o := 1113 * (u - 1)) h7192 (by decide) te7200 p7204
    have ga7206 := ga7196.of (p7204.2 _ (by omega))
    refine m_aload_n F rfl e_X10_undo_44 ?_
    refine r_getC F e_X10_undo_45 fl_X10_214 h7205 ((fld_eq (p7204.2 _ (by omega))).trans f7195) ?_
    exact m_iret F hQ e_X10_undo_48 (⟨u - 1, by omega, L8, ok8, h7205, _, rfl⟩)
  · have c9 : u = 0 := (nI_eq (a := u) (b := 0) (by omega) (by omega)).mp q9
    refine m_iconst F (v := (-1)) (by decide) e_X10_undo_12 ?_
    exact m_iret F hQ e_X10_undo_13 (⟨u, by omega, L, hok, h7183, _, rfl⟩)
set_option maxRecDepth 20000 in
theorem q_X10_keep (l : Launch) (V : VX) (c T Z u h : Nat) (P : NP) (L : Nat → LQ) (N : Nat) (σ : Mem)  (h0 : HR V c ⟨T, Z, u, h, P, L⟩ σ) (hok : OKL P.n0 L) (hP : OKP P) (hp0 : P.kk = P.n0) : Ct l V yX10_keep cX10_keep 1 (some .int) 1 0 0 N σ [.ref c] (fun r τ => HS V c (⟨T, Z, u, 1, P, L⟩ : RG) [0, 2, 3, 4, 5, 6, 7, 8, 9, 10, 11, 12, 13, 14, 15, 16, 17, 18, 19, 21, 22, 23] σ τ ∧ ∃ x : Int32, r = some (.int x)) := by
  refine Ct.of (by decide) (Nat.le_of_ble_eq_true rfl) [(0, .ref c)] rfl (fun X hX F hQ => ?_)
  have hPP := hP
  unfold OKP at hPP
  have h1 : HS V c ⟨T, Z, u, h, P, L⟩ [0, 2, 3, 4, 5, 6, 7, 8, 9, 10, 11, 12, 13, 14, 15, 16, 17, 18, 19, 21, 22, 23] σ σ := HS.start h0
  have hkk := hp0
  refine m_aload_n F rfl e_X10_keep_0 ?_
  refine m_iconst F (v := 0) (by decide) e_X10_keep_1 ?_
  refine r_put F (g' := (⟨T, Z, u, h, P, L⟩ : RG)) e_X10_keep_2 fp_X10_91 h1 (by decide) ⟨_, rfl⟩ (fun _ _ _ _ q => q) (fun _ _ _ q => q) rfl rfl (by decide) (fun σ7207 h7208 g7209 g7210 f7211 => ?_)
  refine m_aload_n F rfl e_X10_keep_5 ?_
  refine r_get F e_X10_keep_6 fl_X10_59 h7208 rfl (fun v hv f7212 => ?_)
  obtain rfl : v = .ref (c + 16) := hv
  refine m_iconst F (v := 0) (by decide) e_X10_keep_9 ?_
  refine m_aload_n F rfl e_X10_keep_10 ?_
  refine r_get F e_X10_keep_11 fl_X10_69 h7208 rfl (fun v hv f7213 => ?_)
  obtain rfl : v = .ref (c + 19) := hv
  refine m_iconst F (v := 0) (by decide) e_X10_keep_14 ?_
  obtain ⟨f7214, e7215, te7215⟩ : ∃ f, σ7207 (c + 16) = some (aJ V 1113 f) ∧ ∀ i, i < 1113 → EJ L i (f i) := h7208.1.cell (k := 16) (by decide)
  obtain ⟨g7216, e7217, te7217⟩ : ∃ f, σ7207 (c + 19) = some (aJ V 1113 f) ∧ _ := h7208.1.cell (k := 19) (by decide)
  refine m_callS F e_X10_keep_15 (q_copies (x_l X) V _ _ (c + 16) (c + 19) 1113 1113 0 0 f7214 g7216 e7215 e7217 (by omega) (by omega) (by omega) (by omega)) cb_X10_copies ml_X10_230 sm_X10_copies rfl (rest := []) rfl (Nat.le_of_ble_eq_true rfl) ⟨Nat.le_of_ble_eq_true rfl, Nat.le_of_ble_eq_true rfl⟩ ⟨Nat.le_of_ble_eq_true rfl, Nat.le_of_ble_eq_true rfl⟩ (k' := 0) (z' := 0) (N' := N) rfl rfl rfl (fun r σ7218 hp => ?_)
  obtain ⟨p7219, rfl⟩ := hp
  have h7220 := HS.cp (k := 19) (g' := (⟨T, Z, u, h, P, L⟩ : RG)) h7208 p7219 (by decide) (by decide) ⟨_, rfl, fun _ => ⟨L, by rw [hkk]; exact hok, fun i hi => by rw [cpy_at0 hi, Nat.zero_add]; exact te7215 i hi⟩⟩ (fun _ _ _ q => q)
  have ga7221 : GB V c 19 1113 0 L σ7218 := ⟨_, p7219.1, fun i hi => by rw [show 0 + i = i from Nat.zero_add i, cpy_at0 hi, Nat.zero_add]; exact te7215 i hi⟩
  refine m_aload_n F rfl e_X10_keep_18 ?_
  refine m_iconst F (v := 1) (by decide) e_X10_keep_19 ?_
  obtain ⟨fs, e1, ty⟩ : ∃ fs, σ7218 c = some (ob 8 fs) ∧ TyO c (⟨T, Z, u, h, P, L⟩ : RG) fs := h7220.1.cell (k := 0) (by decide)
  refine r_putM F (g := (⟨T, Z, u, h, P, L⟩ : RG)) (g' := (⟨T, Z, u, 1, P, L⟩ : RG)) e_X10_keep_20 fp_X10_217 e1 ty h7220.2 (by decide) rfl ctl_h (fun a ha => ?_) (by decide) rfl (by decide) (fun σ7222 h7223 _ _ _ => ?_)
  · by_cases h9 : kC c a = 20
    · have h8 := kC_un (k := 19) h9
      subst h8
      rw [h9]
      obtain ⟨f4, e4, t4⟩ := ga7221
      exact ⟨f4, e4, fun _ => ⟨L, by show OKL P.kk L; rw [hkk]; exact hok, fun i hi => by have h5 := t4 i hi; rw [Nat.zero_add] at h5; exact h5⟩⟩
    · exact CR.himg _ (fun e => ha (by have h8 := kC_un (k := 0) e; omega)) h9 _ (h7220.1 a)
  refine m_aload_n F rfl e_X10_keep_23 ?_
  refine r_get F e_X10_keep_24 fl_X10_59 h7223 rfl (fun v hv f7224 => ?_)
  obtain rfl : v = .ref (c + 16) := hv
  refine m_sipush F (v := 744) (by decide) e_X10_keep_27 ?_
  refine r_sld F (j := 744) e_X10_keep_30 h7223 (by decide) (by unfold vp_in; decide) (fun x7225 h7226 f7227 => ?_)
  have hl7228 := hok.1
  obtain rfl : x7225 = lN (L 4).1 := EJ_p.mp h7226
  refine m_l2i F e_X10_keep_31 ?_
  refine Wm.topE (w := nI ((L 4).1)) (lN_i ((L 4).1)) ?_
  exact m_iret F hQ e_X10_keep_32 (⟨h7223, _, rfl⟩)
set_option maxRecDepth 20000 in
theorem q_X10_back (l : Launch) (V : VX) (c T Z u h : Nat) (P : NP) (L : Nat → LQ) (N : Nat) (σ : Mem)  (h0 : HR V c ⟨T, Z, u, h, P, L⟩ σ) (hok : OKL P.n0 L) (hP : OKP P) (hp0 : h ≤ 1) (hp1 : u ≤ 20) (hp2 : P.kk = P.n0) : Ct l V yX10_back cX10_back 1 (some .int) 1 0 0 N σ [.ref c] (fun r τ => ∃ u9, u9 ≤ 20 ∧ ∃ L9, OKL P.n0 L9 ∧ HS V c (⟨T, Z, u9, h, P, L9⟩ : RG) [0, 2, 3, 4, 5, 6, 7, 8, 9, 10, 11, 12, 13, 14, 15, 16, 18, 19, 20, 21, 22, 23] σ τ ∧ ∃ x : Int32, r = some (.int x)) := by
  refine Ct.of (by decide) (Nat.le_of_ble_eq_true rfl) [(0, .ref c)] rfl (fun X hX F hQ => ?_)
  have hPP := hP
  unfold OKP at hPP
  have h1 : HS V c ⟨T, Z, u, h, P, L⟩ [0, 2, 3, 4, 5, 6, 7, 8, 9, 10, 11, 12, 13, 14, 15, 16, 18, 19, 20, 21, 22, 23] σ σ := HS.start h0
  refine m_aload_n F rfl e_X10_back_0 ?_
  refine m_iconst F (v := 0) (by decide) e_X10_back_1 ?_
  refine r_put F (g' := (⟨T, Z, u, h, P, L⟩ : RG)) e_X10_back_2 fp_X10_91 h1 (by decide) ⟨_, rfl⟩ (fun _ _ _ _ q => q) (fun _ _ _ q => q) rfl rfl (by decide) (fun σ7229 h7230 g7231 g7232 f7233 => ?_)
  refine m_aload_n F rfl e_X10_back_5 ?_
  refine r_get F e_X10_back_6 fl_X10_217 h7230 rfl (fun v hv f7234 => ?_)
  obtain rfl : v = .int (nI (h)) := hv
  refine m_if_ne F e_X10_back_9 (fun q9 => ?_) (fun q9 => ?_)
  · have c9 : h ≠ 0 := by have hh := mt (nI_eq (a := h) (b := 0) (by omega) (by omega)).mpr q9; omega
    obtain ⟨kf, ke, kg⟩ : ∃ f, σ7229 (c + 19) = some (aJ V 1113 f) ∧ (h = 1 → GR P.kk f) := h7230.1.cell (k := 19) (by decide)
    obtain ⟨L8, ok8, t8⟩ := kg (by omega)
    rw [hp2] at ok8
    have ga7235 : GB V c 19 1113 0 L8 σ7229 := ⟨kf, ke, fun i hi => by rw [Nat.zero_add]; exact t8 i hi⟩
    obtain ⟨kf, ke, kg⟩ : ∃ f, σ7229 (c + 19) = some (aJ V 1113 f) ∧ (h = 1 → GR P.kk f) := h7230.1.cell (k := 19) (by decide)
    obtain ⟨L8, ok8, t8⟩ := kg (by omega)
    rw [hp2] at ok8
    have ga7236 : GB V c 19 1113 0 L8 σ7229 := ⟨kf, ke, fun i hi => by rw [Nat.zero_add]; exact t8 i hi⟩
    obtain ⟨kf, ke, kg⟩ : ∃ f, σ7229 (c + 19) = some (aJ V 1113 f) ∧ (h = 1 → GR P.kk f) := h7230.1.cell (k := 19) (by decide)
    obtain ⟨L8, ok8, t8⟩ := kg (by omega)
    rw [hp2] at ok8
    have ga7237 : GB V c 19 1113 0 L8 σ7229 := ⟨kf, ke, fun i hi => by rw [Nat.zero_add]; exact t8 i hi⟩
    refine m_aload_n F rfl e_X10_back_14 ?_
    refine r_get F e_X10_back_15 fl_X10_69 h7230 rfl (fun v hv f7238 => ?_)
    obtain rfl : v = .ref (c + 19) := hv
    refine m_iconst F (v := 0) (by decide) e_X10_back_18 ?_
    refine m_aload_n F rfl e_X10_back_19 ?_
    refine r_get F e_X10_back_20 fl_X10_59 h7230 rfl (fun v hv f7239 => ?_)
    obtain rfl : v = .ref (c + 16) := hv
    refine m_iconst F (v := 0) (by decide) e_X10_back_23 ?_
    have xe7241 := ga7237
    obtain ⟨f7240, e7241, te7241⟩ := xe7241
    obtain ⟨g7242, e7243, te7243⟩ : ∃ f, σ7229 (c + 16) = some (aJ V 1113 f) ∧ _ := h7230.1.cell (k := 16) (by decide)
    refine m_callS F e_X10_back_24 (q_copies (x_l X) V _ _ (c + 19) (c + 16) 1113 1113 0 0 f7240 g7242 e7241 e7243 (by omega) (by omega) (by omega) (by omega)) cb_X10_copies ml_X10_230 sm_X10_copies rfl (rest := []) rfl (Nat.le_of_ble_eq_true rfl) ⟨Nat.le_of_ble_eq_true rfl, Nat.le_of_ble_eq_true rfl⟩ ⟨Nat.le_of_ble_eq_true rfl, Nat.le_of_ble_eq_true rfl⟩ (k' := 0) (z' := 0) (N' := N) rfl rfl rfl (fun r σ7244 hp => ?_)
    obtain ⟨p7245, rfl⟩ := hp
    have h7246 := HS.cpS (L2 := L8) (o := 0) h7230 (by decide) te7241 p7245
    have ga7247 := ga7237.of (p7245.2 _ (by omega))
    refine m_aload_n F rfl e_X10_back_27 ?_
    refine m_iconst F (v := 0) (by decide) e_X10_back_28 ?_
    refine r_put F (g' := (⟨T, Z, 0, h, P, L8⟩ : RG)) e_X10_back_29 fp_X10_214 h7246 (by decide) rfl ctl_u (CR.und (Nat.zero_le _)) rfl rfl (by decide) (fun σ7248 h7249 g7250 g7251 f7252 => ?_)
    have ga7253 := ga7247.of (g7250 _ (by omega))
    refine m_aload_n F rfl e_X10_back_32 ?_
    refine r_getC F e_X10_back_33 fl_X10_59 h7249 ((g7251 27 (by decide)).trans ((fld_eq (p7245.2 _ (by omega))).trans f7239)) ?_
    refine m_sipush F (v := 744) (by decide) e_X10_back_36 ?_
    refine r_sld F (j := 744) e_X10_back_39 h7249 (by decide) (by unfold vp_in; decide) (fun x7254 h7255 f7256 => ?_)
    have hl7257 := ok8.1
    obtain rfl : x7254 = lN (L8 4).1 := EJ_p.mp h7255
    refine m_l2i F e_X10_back_40 ?_
    refine Wm.topE (w := nI ((L8 4).1)) (lN_i ((L8 4).1)) ?_
    exact m_iret F hQ e_X10_back_41 (⟨0, by omega, L8, ok8, h7249, _, rfl⟩)
  · have c9 : h = 0 := (nI_eq (a := h) (b := 0) (by omega) (by omega)).mp q9
    refine m_iconst F (v := (-1)) (by decide) e_X10_back_12 ?_
    exact m_iret F hQ e_X10_back_13 (⟨u, by omega, L, hok, h7230, _, rfl⟩)
set_option maxRecDepth 20000 in
theorem q_X10_lease (l : Launch) (V : VX) (c T Z u h : Nat) (P : NP) (L : Nat → LQ) (N : Nat) (σ : Mem) (x901 : Int32) (x902 : Int32) (h0 : HR V c ⟨T, Z, u, h, P, L⟩ σ) (hob : OKB L) (hP : OKP P)  : Ct l V yX10_lease cX10_lease 4 (some .int) 2 0 0 N σ [.ref c, .int x901, .int x902] (fun r τ => HS V c (⟨T, Z, u, h, P, L⟩ : RG) [0, 2, 3, 4, 5, 6, 7, 8, 9, 10, 11, 12, 13, 14, 15, 16, 17, 18, 19, 20, 21, 22, 23] σ τ ∧ ∃ x : Int32, r = some (.int x)) := by
  refine Ct.of (by decide) (Nat.le_of_ble_eq_true rfl) [(0, .ref c), (1, .int x901), (2, .int x902)] rfl (fun X hX F hQ => ?_)
  have hPP := hP
  unfold OKP at hPP
  have h1 : HS V c ⟨T, Z, u, h, P, L⟩ [0, 2, 3, 4, 5, 6, 7, 8, 9, 10, 11, 12, 13, 14, 15, 16, 17, 18, 19, 20, 21, 22, 23] σ σ := HS.start h0
  refine m_aload_n F rfl e_X10_lease_0 ?_
  refine m_iconst F (v := 0) (by decide) e_X10_lease_1 ?_
  refine r_put F (g' := (⟨T, Z, u, h, P, L⟩ : RG)) e_X10_lease_2 fp_X10_91 h1 (by decide) ⟨_, rfl⟩ (fun _ _ _ _ q => q) (fun _ _ _ q => q) rfl rfl (by decide) (fun σ7258 h7259 g7260 g7261 f7262 => ?_)
  refine m_aload_n F rfl e_X10_lease_5 ?_
  refine m_iload_n F rfl e_X10_lease_6 ?_
  refine r_callV F e_X10_lease_7 (q_X10_isLease (x_l X) V c T Z u h P L _ _ x901 h7259.1 (hob) hP ) cb_X10_isLease ml_X10_292 im_X10_isLease se_X10_isLease h7259 rfl rfl (rest := []) rfl (Nat.le_of_ble_eq_true rfl) ⟨Nat.le_of_ble_eq_true rfl, Nat.le_of_ble_eq_true rfl⟩ ⟨Nat.le_of_ble_eq_true rfl, Nat.le_of_ble_eq_true rfl⟩ (fun r σ7263 hp => ?_)
  obtain ⟨h7264, c7266⟩ := hp
  have h7265 := HS.trans h7259 h7264 (by decide)
  rcases c7266 with rfl | ⟨n7267, h7268, e7269, rfl⟩
  · refine m_if_ne F e_X10_lease_10 (fun q => absurd (by decide) q) (fun _ => ?_)
    refine m_aload_n F rfl e_X10_lease_13 ?_
    refine m_iconst F (v := 1) (by decide) e_X10_lease_14 ?_
    refine r_put F (g' := (⟨T, Z, u, h, P, L⟩ : RG)) e_X10_lease_15 fp_X10_91 h7265 (by decide) ⟨_, rfl⟩ (fun _ _ _ _ q => q) (fun _ _ _ q => q) rfl rfl (by decide) (fun σ7270 h7271 g7272 g7273 f7274 => ?_)
    refine m_iconst F (v := 0) (by decide) e_X10_lease_18 ?_
    exact m_iret F hQ e_X10_lease_19 (⟨h7271, _, rfl⟩)
  · subst e7269
    refine m_if_ne F e_X10_lease_10 (fun _ => ?_) (fun q => absurd q (by decide))
    refine m_sipush F (v := 160) (by decide) e_X10_lease_20 ?_
    refine m_iload_n F rfl e_X10_lease_23 ?_
    refine m_imul F e_X10_lease_24 ?_
    refine Wm.topE (w := nI (160 * n7267)) (pk_mul 160 n7267) ?_
    refine m_istore_n F (lv' := [(3, .int (nI (160 * n7267))), (0, .ref c), (1, .int (nI n7267)), (2, .int x902)]) e_X10_lease_25 (by decide) rfl ?_
    refine m_iload_n F rfl e_X10_lease_26 ?_
    by_cases ho27 : (x902 : Int32).toInt < 0 ∨ 8 < (x902 : Int32).toInt
    · refine m_tableOut F e_X10_lease_27 ho27 (tgt := 195) (by decide) ?_
      refine m_aload_n F rfl e_X10_lease_195 ?_
      refine m_iconst F (v := 2) (by decide) e_X10_lease_196 ?_
      refine r_put F (g' := (⟨T, Z, u, h, P, L⟩ : RG)) e_X10_lease_197 fp_X10_91 h7265 (by decide) ⟨_, rfl⟩ (fun _ _ _ _ q => q) (fun _ _ _ q => q) rfl rfl (by decide) (fun σ7275 h7276 g7277 g7278 f7279 => ?_)
      refine m_iconst F (v := 0) (by decide) e_X10_lease_200 ?_
      exact m_iret F hQ e_X10_lease_201 (⟨h7276, _, rfl⟩)
    have hs27 : (x902 : Int32).toInt = 0 ∨ (x902 : Int32).toInt = 1 ∨ (x902 : Int32).toInt = 2 ∨ (x902 : Int32).toInt = 3 ∨ (x902 : Int32).toInt = 4 ∨ (x902 : Int32).toInt = 5 ∨ (x902 : Int32).toInt = 6 ∨ (x902 : Int32).toInt = 7 ∨ (x902 : Int32).toInt = 8 := by omega
    rcases hs27 with hv | hv | hv | hv | hv | hv | hv | hv | hv
    · refine m_tableIn F e_X10_lease_27 (by omega) (by omega) (off := 49) (tgt := 76) (by rw [hv]; rfl) (by decide) ?_
      refine m_aload_n F rfl e_X10_lease_76 ?_
      refine r_get F e_X10_lease_77 fl_X10_19 h7265 rfl (fun v hv f7280 => ?_)
      obtain rfl : v = .ref (c + 4) := hv
      refine m_iload_n F rfl e_X10_lease_80 ?_
      refine r_iald F (len := 8) (j := n7267) e_X10_lease_81 h7265 (fun _ h => h) (by decide) (nI_clamp (by omega)) (vp_in_nI (by omega) (by decide)) (fun x7281 h7282 f7283 => ?_)
      exact m_iret F hQ e_X10_lease_82 (⟨h7265, _, rfl⟩)
    · refine m_tableIn F e_X10_lease_27 (by omega) (by omega) (off := 56) (tgt := 83) (by rw [hv]; rfl) (by decide) ?_
      refine m_aload_n F rfl e_X10_lease_83 ?_
      refine r_get F e_X10_lease_84 fl_X10_59 h7265 rfl (fun v hv f7284 => ?_)
      obtain rfl : v = .ref (c + 16) := hv
      refine m_iload_n F rfl e_X10_lease_87 ?_
      refine m_iconst F (v := 1) (by decide) e_X10_lease_88 ?_
      refine m_iadd F e_X10_lease_89 ?_
      refine Wm.topE (w := nI (160 * n7267 + 1)) (nI_add (160 * n7267) 1) ?_
      refine r_sld F (j := 160 * n7267 + 1) e_X10_lease_90 h7265 (nI_clamp (by omega)) (vp_in_nI (by omega) (by decide)) (fun x7285 h7286 f7287 => ?_)
      have hl7288 := hob.2 n7267 (by omega)
      obtain rfl : x7285 = lN (L n7267).2.1 := (EJ_l (l := n7267) (r := 1) (by omega) (by decide)).mp h7286
      refine m_l2i F e_X10_lease_91 ?_
      refine Wm.topE (w := nI ((L n7267).2.1)) (lN_i ((L n7267).2.1)) ?_
      exact m_iret F hQ e_X10_lease_92 (⟨h7265, _, rfl⟩)
    · refine m_tableIn F e_X10_lease_27 (by omega) (by omega) (off := 66) (tgt := 93) (by rw [hv]; rfl) (by decide) ?_
      refine m_aload_n F rfl e_X10_lease_93 ?_
      refine r_get F e_X10_lease_94 fl_X10_59 h7265 rfl (fun v hv f7289 => ?_)
      obtain rfl : v = .ref (c + 16) := hv
      refine m_iload_n F rfl e_X10_lease_97 ?_
      refine m_iconst F (v := 2) (by decide) e_X10_lease_98 ?_
      refine m_iadd F e_X10_lease_99 ?_
      refine Wm.topE (w := nI (160 * n7267 + 2)) (nI_add (160 * n7267) 2) ?_
      refine r_sld F (j := 160 * n7267 + 2) e_X10_lease_100 h7265 (nI_clamp (by omega)) (vp_in_nI (by omega) (by decide)) (fun x7290 h7291 f7292 => ?_)
      obtain ⟨n7293, hn7293, rfl⟩ : ∃ n : Nat, n ≤ 1000000 ∧ x7290 = lN n := (EJ_l (l := n7267) (r := 2) (by omega) (by decide)).mp h7291
      refine m_l2i F e_X10_lease_101 ?_
      refine Wm.topE (w := nI n7293) (lN_i n7293) ?_
      exact m_iret F hQ e_X10_lease_102 (⟨h7265, _, rfl⟩)
    · refine m_tableIn F e_X10_lease_27 (by omega) (by omega) (off := 76) (tgt := 103) (by rw [hv]; rfl) (by decide) ?_
      refine m_aload_n F rfl e_X10_lease_103 ?_
      refine r_get F e_X10_lease_104 fl_X10_59 h7265 rfl (fun v hv f7294 => ?_)
      obtain rfl : v = .ref (c + 16) := hv
      refine m_iload_n F rfl e_X10_lease_107 ?_
      refine m_iconst F (v := 0) (by decide) e_X10_lease_108 ?_
      refine m_iadd F e_X10_lease_109 ?_
      refine Wm.topE (w := nI (160 * n7267)) (nI_add (160 * n7267) 0) ?_
      refine r_sld F (j := 160 * n7267) e_X10_lease_110 h7265 (nI_clamp (by omega)) (vp_in_nI (by omega) (by decide)) (fun x7295 h7296 f7297 => ?_)
      have hl7298 := hob.2 n7267 (by omega)
      obtain rfl : x7295 = lN (L n7267).1 := (EJ_l (l := n7267) (r := 0) (by omega) (by decide)).mp h7296
      refine m_l2i F e_X10_lease_111 ?_
      refine Wm.topE (w := nI ((L n7267).1)) (lN_i ((L n7267).1)) ?_
      exact m_iret F hQ e_X10_lease_112 (⟨h7265, _, rfl⟩)
    · refine m_tableIn F e_X10_lease_27 (by omega) (by omega) (off := 86) (tgt := 113) (by rw [hv]; rfl) (by decide) ?_
      refine m_aload_n F rfl e_X10_lease_113 ?_
      refine r_get F e_X10_lease_114 fl_X10_59 h7265 rfl (fun v hv f7299 => ?_)
      obtain rfl : v = .ref (c + 16) := hv
      refine m_iload_n F rfl e_X10_lease_117 ?_
      refine m_iconst F (v := 0) (by decide) e_X10_lease_118 ?_
      refine m_iadd F e_X10_lease_119 ?_
      refine Wm.topE (w := nI (160 * n7267)) (nI_add (160 * n7267) 0) ?_
      refine r_sld F (j := 160 * n7267) e_X10_lease_120 h7265 (nI_clamp (by omega)) (vp_in_nI (by omega) (by decide)) (fun x7300 h7301 f7302 => ?_)
      have hl7303 := hob.2 n7267 (by omega)
      obtain rfl : x7300 = lN (L n7267).1 := (EJ_l (l := n7267) (r := 0) (by omega) (by decide)).mp h7301
      refine m_ldc2 F kc_X10_234 e_X10_lease_121 ?_
      refine m_lcmp F e_X10_lease_124 ?_
      refine m_if_ne F e_X10_lease_125 (fun q125 => ?_) (fun q125 => ?_)
      · have c125 : ((L n7267).1) ≠ 2 := by have hh := mt (fun h9 => (lg_cmp_eq (lN ((L n7267).1)) (lN 2)).mpr ((lN_eq (a := ((L n7267).1)) (b := 2) (by omega) (by omega)).mpr h9)) q125; omega
        refine m_aload_n F rfl e_X10_lease_132 ?_
        refine m_iload_n F rfl e_X10_lease_133 ?_
        refine r_callV F e_X10_lease_134 (q_X10_left (x_l X) V c T Z u h P L _ _ n7267 h7265.1 (hob) hP (by omega)) cb_X10_left ml_X10_257 im_X10_left se_X10_left h7265 rfl rfl (rest := []) rfl (Nat.le_of_ble_eq_true rfl) ⟨Nat.le_of_ble_eq_true rfl, Nat.le_of_ble_eq_true rfl⟩ ⟨Nat.le_of_ble_eq_true rfl, Nat.le_of_ble_eq_true rfl⟩ (fun r σ7304 hp => ?_)
        obtain ⟨h7305, x7307, rfl⟩ := hp
        have h7306 := HS.trans h7265 h7305 (by decide)
        exact m_iret F hQ e_X10_lease_137 (⟨h7306, _, rfl⟩)
      · have c125 : ((L n7267).1) = 2 := (lN_eq (a := ((L n7267).1)) (b := 2) (by omega) (by omega)).mp ((lg_cmp_eq _ _).mp q125)
        refine m_iconst F (v := 0) (by decide) e_X10_lease_128 ?_
        refine m_goto F e_X10_lease_129 ?_
        exact m_iret F hQ e_X10_lease_137 (⟨h7265, _, rfl⟩)
    · refine m_tableIn F e_X10_lease_27 (by omega) (by omega) (off := 111) (tgt := 138) (by rw [hv]; rfl) (by decide) ?_
      refine m_aload_n F rfl e_X10_lease_138 ?_
      refine r_get F e_X10_lease_139 fl_X10_59 h7265 rfl (fun v hv f7308 => ?_)
      obtain rfl : v = .ref (c + 16) := hv
      refine m_iload_n F rfl e_X10_lease_142 ?_
      refine m_iconst F (v := 3) (by decide) e_X10_lease_143 ?_
      refine m_iadd F e_X10_lease_144 ?_
      refine Wm.topE (w := nI (160 * n7267 + 3)) (nI_add (160 * n7267) 3) ?_
      refine r_sld F (j := 160 * n7267 + 3) e_X10_lease_145 h7265 (nI_clamp (by omega)) (vp_in_nI (by omega) (by decide)) (fun x7309 h7310 f7311 => ?_)
      have hl7312 := hob.2 n7267 (by omega)
      obtain rfl : x7309 = lN (L n7267).2.2.1 := (EJ_l (l := n7267) (r := 3) (by omega) (by decide)).mp h7310
      refine m_l2i F e_X10_lease_146 ?_
      refine Wm.topE (w := nI ((L n7267).2.2.1)) (lN_i ((L n7267).2.2.1)) ?_
      exact m_iret F hQ e_X10_lease_147 (⟨h7265, _, rfl⟩)
    · refine m_tableIn F e_X10_lease_27 (by omega) (by omega) (off := 121) (tgt := 148) (by rw [hv]; rfl) (by decide) ?_
      refine m_aload_n F rfl e_X10_lease_148 ?_
      refine r_get F e_X10_lease_149 fl_X10_34 h7265 rfl (fun v hv f7313 => ?_)
      obtain rfl : v = .ref (c + 9) := hv
      refine m_iload_n F rfl e_X10_lease_152 ?_
      refine r_iald F (len := 8) (j := n7267) e_X10_lease_153 h7265 (fun _ h => h) (by decide) (nI_clamp (by omega)) (vp_in_nI (by omega) (by decide)) (fun x7314 h7315 f7316 => ?_)
      refine m_if_ne F e_X10_lease_154 (fun q154 => ?_) (fun q154 => ?_)
      · refine m_aload_n F rfl e_X10_lease_161 ?_
        refine r_getC F e_X10_lease_162 fl_X10_34 h7265 (f7313) ?_
        refine m_iload_n F rfl e_X10_lease_165 ?_
        refine r_iald F (len := 8) (j := n7267) e_X10_lease_166 h7265 (fun _ h => h) (by decide) (nI_clamp (by omega)) (vp_in_nI (by omega) (by decide)) (fun x7317 h7318 f7319 => ?_)
        obtain rfl := Option.some.inj ((f7319).symm.trans (f7316))
        refine m_iconst F (v := 1) (by decide) e_X10_lease_167 ?_
        refine m_isub F e_X10_lease_168 ?_
        refine Wm.top (fun x7320 _ => ?_)
        exact m_iret F hQ e_X10_lease_169 (⟨h7265, _, rfl⟩)
      · subst q154
        refine m_iconst F (v := 0) (by decide) e_X10_lease_157 ?_
        refine m_goto F e_X10_lease_158 ?_
        exact m_iret F hQ e_X10_lease_169 (⟨h7265, _, rfl⟩)
    · refine m_tableIn F e_X10_lease_27 (by omega) (by omega) (off := 143) (tgt := 170) (by rw [hv]; rfl) (by decide) ?_
      refine m_aload_n F rfl e_X10_lease_170 ?_
      refine r_get F e_X10_lease_171 fl_X10_75 h7265 rfl (fun v hv f7321 => ?_)
      obtain rfl : v = .ref (c + 21) := hv
      refine m_iload_n F rfl e_X10_lease_174 ?_
      refine r_zald F (j := n7267) e_X10_lease_175 h7265 (nI_clamp (by omega)) (vp_in_nI (by omega) (by decide)) (fun n7322 hn7322 f7323 => ?_)
      refine m_if_eq F e_X10_lease_176 (fun q176 => ?_) (fun q176 => ?_)
      · have c176 : n7322 = 0 := (nI_eq (a := n7322) (b := 0) (by omega) (by omega)).mp q176
        refine m_iconst F (v := 0) (by decide) e_X10_lease_183 ?_
        exact m_iret F hQ e_X10_lease_184 (⟨h7265, _, rfl⟩)
      · have c176 : n7322 ≠ 0 := by have hh := mt (nI_eq (a := n7322) (b := 0) (by omega) (by omega)).mpr q176; omega
        refine m_iconst F (v := 1) (by decide) e_X10_lease_179 ?_
        refine m_goto F e_X10_lease_180 ?_
        exact m_iret F hQ e_X10_lease_184 (⟨h7265, _, rfl⟩)
    · refine m_tableIn F e_X10_lease_27 (by omega) (by omega) (off := 158) (tgt := 185) (by rw [hv]; rfl) (by decide) ?_
      refine m_aload_n F rfl e_X10_lease_185 ?_
      refine r_get F e_X10_lease_186 fl_X10_59 h7265 rfl (fun v hv f7324 => ?_)
      obtain rfl : v = .ref (c + 16) := hv
      refine m_iload_n F rfl e_X10_lease_189 ?_
      refine m_iconst F (v := 4) (by decide) e_X10_lease_190 ?_
      refine m_iadd F e_X10_lease_191 ?_
      refine Wm.topE (w := nI (160 * n7267 + 4)) (nI_add (160 * n7267) 4) ?_
      refine r_sld F (j := 160 * n7267 + 4) e_X10_lease_192 h7265 (nI_clamp (by omega)) (vp_in_nI (by omega) (by decide)) (fun x7325 h7326 f7327 => ?_)
      refine m_l2i F e_X10_lease_193 ?_
      refine Wm.top (fun x7328 _ => ?_)
      exact m_iret F hQ e_X10_lease_194 (⟨h7265, _, rfl⟩)
set_option maxRecDepth 20000 in
theorem lq_X10_feed_20 {V : VX} {X : MX} {N : Nat} {σ : Mem} {c T Z u h : Nat} {P : NP} {L : Nat → LQ}  {x901 : Int32} {x902 : Int32} {x903 : Int32} {x904 : Int32} {x905 : Int32} (F : Fx V X yX10_feed cX10_feed 8 (some .int) (rmd 0 0 0)) (hQ : Rt V X 0 0 N (fun r τ => (680 < T ∧ HS V c (⟨T, Z, u, h, P, L⟩ : RG) [0, 3, 4, 5, 6, 7, 8, 9, 10, 11, 12, 13, 14, 15, 16, 17, 18, 19, 20, 21, 22, 23] σ τ ∧ r = some (.int (-1))) ∨ (T ≤ 680 ∧ HS V c (⟨T + 20, Z, u, h, P, L⟩ : RG) [0, 3, 4, 5, 6, 7, 8, 9, 10, 11, 12, 13, 14, 15, 16, 17, 18, 19, 20, 21, 22, 23] σ τ ∧ r = some (.int (nI (T + 20)))))) (hob : OKB L) (hP : OKP P) (hp0 : T ≤ 700)  : ∀ (fuel : Nat) (i : Nat) (τ : Mem), HS V c (⟨T, Z, u, h, P, L⟩ : RG) [0, 3, 4, 5, 6, 7, 8, 9, 10, 11, 12, 13, 14, 15, 16, 17, 18, 19, 20, 21, 22, 23] σ τ → i ≤ 20 ∧ T ≤ 680 → 20 - i < fuel → Wm V X 8 N τ 0 0 20 [(0, .ref c), (1, .int x901), (2, .int x902), (3, .int x903), (4, .int x904), (5, .int x905), (6, .int (nI i))] [] := by
  intro fuel
  induction fuel with
  | zero => intros; rename_i hm; exact absurd hm (Nat.not_lt_zero _)
  | succ fuel ih =>
    intro i τ h1 hi hm
    have hPP := hP
    unfold OKP at hPP
    refine m_iload F rfl e_X10_feed_20 ?_
    refine m_bipush F (v := 20) (by decide) e_X10_feed_22 ?_
    refine m_icmp_ge F e_X10_feed_24 (fun q24 => ?_) (fun q24 => ?_)
    · have c24 : i ≥ 20 := (nI_leI (a := 20) (b := i) (by omega) (by omega)).mp q24
      refine m_aload_n F rfl e_X10_feed_110 ?_
      refine m_dup F rfl e_X10_feed_111 ?_
      refine r_get F e_X10_feed_112 fl_X10_94 h1 rfl (fun v hv f7329 => ?_)
      obtain rfl : v = .int (nI (T)) := hv
      refine m_bipush F (v := 20) (by decide) e_X10_feed_115 ?_
      refine m_iadd F e_X10_feed_117 ?_
      refine Wm.topE (w := nI (T + 20)) (nI_add T 20) ?_
      refine r_put F (g' := (⟨T + 20, Z, u, h, P, L⟩ : RG)) e_X10_feed_118 fp_X10_94 h1 (by decide) rfl ctl_T CR.ctl rfl rfl (by decide) (fun σ7330 h7331 g7332 g7333 f7334 => ?_)
      refine m_aload_n F rfl e_X10_feed_121 ?_
      refine r_getC F e_X10_feed_122 fl_X10_94 h7331 (f7334) ?_
      exact m_iret F hQ e_X10_feed_125 (Or.inr ⟨by omega, h7331, rfl⟩)
    · have c24 : i < 20 := by have hh := mt (nI_leI (a := 20) (b := i) (by omega) (by omega)).mpr q24; omega
      refine m_iload F rfl e_X10_feed_27 ?_
      refine m_iconst F (v := 4) (by decide) e_X10_feed_29 ?_
      refine m_icmp_ge F e_X10_feed_30 (fun q30 => ?_) (fun q30 => ?_)
      · have c30 : i ≥ 4 := (nI_leI (a := 4) (b := i) (by omega) (by omega)).mp q30
        refine m_iload F rfl e_X10_feed_37 ?_
        refine m_bipush F (v := 8) (by decide) e_X10_feed_39 ?_
        refine m_icmp_ge F e_X10_feed_41 (fun q41 => ?_) (fun q41 => ?_)
        · have c41 : i ≥ 8 := (nI_leI (a := 8) (b := i) (by omega) (by omega)).mp q41
          refine m_iload F rfl e_X10_feed_48 ?_
          refine m_bipush F (v := 12) (by decide) e_X10_feed_50 ?_
          refine m_icmp_ge F e_X10_feed_52 (fun q52 => ?_) (fun q52 => ?_)
          · have c52 : i ≥ 12 := (nI_leI (a := 12) (b := i) (by omega) (by omega)).mp q52
            refine m_iload F rfl e_X10_feed_59 ?_
            refine m_bipush F (v := 16) (by decide) e_X10_feed_61 ?_
            refine m_icmp_ge F e_X10_feed_63 (fun q63 => ?_) (fun q63 => ?_)
            · have c63 : i ≥ 16 := (nI_leI (a := 16) (b := i) (by omega) (by omega)).mp q63
              refine m_iload F rfl e_X10_feed_71 ?_
              refine m_istore F (lv' := [(7, .int x905), (0, .ref c), (1, .int x901), (2, .int x902), (3, .int x903), (4, .int x904), (5, .int x905), (6, .int (nI i))]) e_X10_feed_73 (by decide) rfl ?_
              refine m_aload_n F rfl e_X10_feed_75 ?_
              refine r_get F e_X10_feed_76 fl_X10_7 h1 rfl (fun v hv f7335 => ?_)
              obtain rfl : v = .ref (c + 1) := hv
              refine m_aload_n F rfl e_X10_feed_79 ?_
              refine r_get F e_X10_feed_80 fl_X10_94 h1 rfl (fun v hv f7336 => ?_)
              obtain rfl : v = .int (nI (T)) := hv
              refine m_iload F rfl e_X10_feed_83 ?_
              refine m_iadd F e_X10_feed_85 ?_
              refine Wm.topE (w := nI (T + i)) (nI_add T i) ?_
              refine m_iload F rfl e_X10_feed_86 ?_
              refine m_bipush F (v := 24) (by decide) e_X10_feed_88 ?_
              refine m_bipush F (v := 8) (by decide) e_X10_feed_90 ?_
              refine m_iload F rfl e_X10_feed_92 ?_
              refine m_iconst F (v := 4) (by decide) e_X10_feed_94 ?_
              refine m_irem F (by decide) e_X10_feed_95 ?_
              refine Wm.topE (w := nI (i % 4)) (pk_rem (a := i) (d := 4) (by omega) (by decide) (by decide)) ?_
              refine m_imul F e_X10_feed_96 ?_
              refine Wm.topE (w := nI (8 * (i % 4))) (pk_mul 8 (i % 4)) ?_
              refine m_isub F e_X10_feed_97 ?_
              refine Wm.top (fun x7337 _ => ?_)
              refine m_ishr F e_X10_feed_98 ?_
              refine Wm.top (fun x7338 _ => ?_)
              refine m_sipush F (v := 255) (by decide) e_X10_feed_99 ?_
              refine m_iand F e_X10_feed_102 ?_
              refine Wm.top (fun x7339 _ => ?_)
              refine r_iast F (g' := (⟨T, Z, u, h, P, L⟩ : RG)) (len := 700) (j := T + i) e_X10_feed_103 h1 (fun _ h => h) (fun f h => ⟨f, rfl, h⟩) (by decide) (by decide) (nI_clamp (by omega)) (vp_in_nI (by omega) (by decide)) trivial (fun _ _ _ h => h) (fun _ _ _ h => h) (fun σ7340 h7341 g7342 f7343 g7344 => ?_)
              refine m_iinc F (v := nI (i + 1)) (lv' := [(6, .int (nI (i + 1))), (7, .int x905), (0, .ref c), (1, .int x901), (2, .int x902), (3, .int x903), (4, .int x904), (5, .int x905)]) e_X10_feed_104 rfl (nI_add i 1) (by decide) rfl ?_
              refine m_goto F e_X10_feed_107 ?_
              refine Wm.lvsub (lv' := [(0, .ref c), (1, .int x901), (2, .int x902), (3, .int x903), (4, .int x904), (5, .int x905), (6, .int (nI (i + 1)))]) ?_ [2, 3, 4, 5, 6, 7, 0] rfl
              exact ih (i + 1) _ h7341 (by omega) (by omega)
            · have c63 : i < 16 := by have hh := mt (nI_leI (a := 16) (b := i) (by omega) (by omega)).mpr q63; omega
              refine m_iload F rfl e_X10_feed_66 ?_
              refine m_goto F e_X10_feed_68 ?_
              refine m_istore F (lv' := [(7, .int x904), (0, .ref c), (1, .int x901), (2, .int x902), (3, .int x903), (4, .int x904), (5, .int x905), (6, .int (nI i))]) e_X10_feed_73 (by decide) rfl ?_
              refine m_aload_n F rfl e_X10_feed_75 ?_
              refine r_get F e_X10_feed_76 fl_X10_7 h1 rfl (fun v hv f7345 => ?_)
              obtain rfl : v = .ref (c + 1) := hv
              refine m_aload_n F rfl e_X10_feed_79 ?_
              refine r_get F e_X10_feed_80 fl_X10_94 h1 rfl (fun v hv f7346 => ?_)
              obtain rfl : v = .int (nI (T)) := hv
              refine m_iload F rfl e_X10_feed_83 ?_
              refine m_iadd F e_X10_feed_85 ?_
              refine Wm.topE (w := nI (T + i)) (nI_add T i) ?_
              refine m_iload F rfl e_X10_feed_86 ?_
              refine m_bipush F (v := 24) (by decide) e_X10_feed_88 ?_
              refine m_bipush F (v := 8) (by decide) e_X10_feed_90 ?_
              refine m_iload F rfl e_X10_feed_92 ?_
              refine m_iconst F (v := 4) (by decide) e_X10_feed_94 ?_
              refine m_irem F (by decide) e_X10_feed_95 ?_
              refine Wm.topE (w := nI (i % 4)) (pk_rem (a := i) (d := 4) (by omega) (by decide) (by decide)) ?_
              refine m_imul F e_X10_feed_96 ?_
              refine Wm.topE (w := nI (8 * (i % 4))) (pk_mul 8 (i % 4)) ?_
              refine m_isub F e_X10_feed_97 ?_
              refine Wm.top (fun x7347 _ => ?_)
              refine m_ishr F e_X10_feed_98 ?_
              refine Wm.top (fun x7348 _ => ?_)
              refine m_sipush F (v := 255) (by decide) e_X10_feed_99 ?_
              refine m_iand F e_X10_feed_102 ?_
              refine Wm.top (fun x7349 _ => ?_)
              refine r_iast F (g' := (⟨T, Z, u, h, P, L⟩ : RG)) (len := 700) (j := T + i) e_X10_feed_103 h1 (fun _ h => h) (fun f h => ⟨f, rfl, h⟩) (by decide) (by decide) (nI_clamp (by omega)) (vp_in_nI (by omega) (by decide)) trivial (fun _ _ _ h => h) (fun _ _ _ h => h) (fun σ7350 h7351 g7352 f7353 g7354 => ?_)
              refine m_iinc F (v := nI (i + 1)) (lv' := [(6, .int (nI (i + 1))), (7, .int x904), (0, .ref c), (1, .int x901), (2, .int x902), (3, .int x903), (4, .int x904), (5, .int x905)]) e_X10_feed_104 rfl (nI_add i 1) (by decide) rfl ?_
              refine m_goto F e_X10_feed_107 ?_
              refine Wm.lvsub (lv' := [(0, .ref c), (1, .int x901), (2, .int x902), (3, .int x903), (4, .int x904), (5, .int x905), (6, .int (nI (i + 1)))]) ?_ [2, 3, 4, 5, 6, 7, 0] rfl
              exact ih (i + 1) _ h7351 (by omega) (by omega)
          · have c52 : i < 12 := by have hh := mt (nI_leI (a := 12) (b := i) (by omega) (by omega)).mpr q52; omega
            refine m_iload_n F rfl e_X10_feed_55 ?_
            refine m_goto F e_X10_feed_56 ?_
            refine m_istore F (lv' := [(7, .int x903), (0, .ref c), (1, .int x901), (2, .int x902), (3, .int x903), (4, .int x904), (5, .int x905), (6, .int (nI i))]) e_X10_feed_73 (by decide) rfl ?_
            refine m_aload_n F rfl e_X10_feed_75 ?_
            refine r_get F e_X10_feed_76 fl_X10_7 h1 rfl (fun v hv f7355 => ?_)
            obtain rfl : v = .ref (c + 1) := hv
            refine m_aload_n F rfl e_X10_feed_79 ?_
            refine r_get F e_X10_feed_80 fl_X10_94 h1 rfl (fun v hv f7356 => ?_)
            obtain rfl : v = .int (nI (T)) := hv
            refine m_iload F rfl e_X10_feed_83 ?_
            refine m_iadd F e_X10_feed_85 ?_
            refine Wm.topE (w := nI (T + i)) (nI_add T i) ?_
            refine m_iload F rfl e_X10_feed_86 ?_
            refine m_bipush F (v := 24) (by decide) e_X10_feed_88 ?_
            refine m_bipush F (v := 8) (by decide) e_X10_feed_90 ?_
            refine m_iload F rfl e_X10_feed_92 ?_
            refine m_iconst F (v := 4) (by decide) e_X10_feed_94 ?_
            refine m_irem F (by decide) e_X10_feed_95 ?_
            refine Wm.topE (w := nI (i % 4)) (pk_rem (a := i) (d := 4) (by omega) (by decide) (by decide)) ?_
            refine m_imul F e_X10_feed_96 ?_
            refine Wm.topE (w := nI (8 * (i % 4))) (pk_mul 8 (i % 4)) ?_
            refine m_isub F e_X10_feed_97 ?_
            refine Wm.top (fun x7357 _ => ?_)
            refine m_ishr F e_X10_feed_98 ?_
            refine Wm.top (fun x7358 _ => ?_)
            refine m_sipush F (v := 255) (by decide) e_X10_feed_99 ?_
            refine m_iand F e_X10_feed_102 ?_
            refine Wm.top (fun x7359 _ => ?_)
            refine r_iast F (g' := (⟨T, Z, u, h, P, L⟩ : RG)) (len := 700) (j := T + i) e_X10_feed_103 h1 (fun _ h => h) (fun f h => ⟨f, rfl, h⟩) (by decide) (by decide) (nI_clamp (by omega)) (vp_in_nI (by omega) (by decide)) trivial (fun _ _ _ h => h) (fun _ _ _ h => h) (fun σ7360 h7361 g7362 f7363 g7364 => ?_)
            refine m_iinc F (v := nI (i + 1)) (lv' := [(6, .int (nI (i + 1))), (7, .int x903), (0, .ref c), (1, .int x901), (2, .int x902), (3, .int x903), (4, .int x904), (5, .int x905)]) e_X10_feed_104 rfl (nI_add i 1) (by decide) rfl ?_
            refine m_goto F e_X10_feed_107 ?_
            refine Wm.lvsub (lv' := [(0, .ref c), (1, .int x901), (2, .int x902), (3, .int x903), (4, .int x904), (5, .int x905), (6, .int (nI (i + 1)))]) ?_ [2, 3, 4, 5, 6, 7, 0] rfl
            exact ih (i + 1) _ h7361 (by omega) (by omega)
        · have c41 : i < 8 := by have hh := mt (nI_leI (a := 8) (b := i) (by omega) (by omega)).mpr q41; omega
          refine m_iload_n F rfl e_X10_feed_44 ?_
          refine m_goto F e_X10_feed_45 ?_
          refine m_istore F (lv' := [(7, .int x902), (0, .ref c), (1, .int x901), (2, .int x902), (3, .int x903), (4, .int x904), (5, .int x905), (6, .int (nI i))]) e_X10_feed_73 (by decide) rfl ?_
          refine m_aload_n F rfl e_X10_feed_75 ?_
          refine r_get F e_X10_feed_76 fl_X10_7 h1 rfl (fun v hv f7365 => ?_)
          obtain rfl : v = .ref (c + 1) := hv
          refine m_aload_n F rfl e_X10_feed_79 ?_
          refine r_get F e_X10_feed_80 fl_X10_94 h1 rfl (fun v hv f7366 => ?_)
          obtain rfl : v = .int (nI (T)) := hv
          refine m_iload F rfl e_X10_feed_83 ?_
          refine m_iadd F e_X10_feed_85 ?_
          refine Wm.topE (w := nI (T + i)) (nI_add T i) ?_
          refine m_iload F rfl e_X10_feed_86 ?_
          refine m_bipush F (v := 24) (by decide) e_X10_feed_88 ?_
          refine m_bipush F (v := 8) (by decide) e_X10_feed_90 ?_
          refine m_iload F rfl e_X10_feed_92 ?_
          refine m_iconst F (v := 4) (by decide) e_X10_feed_94 ?_
          refine m_irem F (by decide) e_X10_feed_95 ?_
          refine Wm.topE (w := nI (i % 4)) (pk_rem (a := i) (d := 4) (by omega) (by decide) (by decide)) ?_
          refine m_imul F e_X10_feed_96 ?_
          refine Wm.topE (w := nI (8 * (i % 4))) (pk_mul 8 (i % 4)) ?_
          refine m_isub F e_X10_feed_97 ?_
          refine Wm.top (fun x7367 _ => ?_)
          refine m_ishr F e_X10_feed_98 ?_
          refine Wm.top (fun x7368 _ => ?_)
          refine m_sipush F (v := 255) (by decide) e_X10_feed_99 ?_
          refine m_iand F e_X10_feed_102 ?_
          refine Wm.top (fun x7369 _ => ?_)
          refine r_iast F (g' := (⟨T, Z, u, h, P, L⟩ : RG)) (len := 700) (j := T + i) e_X10_feed_103 h1 (fun _ h => h) (fun f h => ⟨f, rfl, h⟩) (by decide) (by decide) (nI_clamp (by omega)) (vp_in_nI (by omega) (by decide)) trivial (fun _ _ _ h => h) (fun _ _ _ h => h) (fun σ7370 h7371 g7372 f7373 g7374 => ?_)
          refine m_iinc F (v := nI (i + 1)) (lv' := [(6, .int (nI (i + 1))), (7, .int x902), (0, .ref c), (1, .int x901), (2, .int x902), (3, .int x903), (4, .int x904), (5, .int x905)]) e_X10_feed_104 rfl (nI_add i 1) (by decide) rfl ?_
          refine m_goto F e_X10_feed_107 ?_
          refine Wm.lvsub (lv' := [(0, .ref c), (1, .int x901), (2, .int x902), (3, .int x903), (4, .int x904), (5, .int x905), (6, .int (nI (i + 1)))]) ?_ [2, 3, 4, 5, 6, 7, 0] rfl
          exact ih (i + 1) _ h7371 (by omega) (by omega)
      · have c30 : i < 4 := by have hh := mt (nI_leI (a := 4) (b := i) (by omega) (by omega)).mpr q30; omega
        refine m_iload_n F rfl e_X10_feed_33 ?_
        refine m_goto F e_X10_feed_34 ?_
        refine m_istore F (lv' := [(7, .int x901), (0, .ref c), (1, .int x901), (2, .int x902), (3, .int x903), (4, .int x904), (5, .int x905), (6, .int (nI i))]) e_X10_feed_73 (by decide) rfl ?_
        refine m_aload_n F rfl e_X10_feed_75 ?_
        refine r_get F e_X10_feed_76 fl_X10_7 h1 rfl (fun v hv f7375 => ?_)
        obtain rfl : v = .ref (c + 1) := hv
        refine m_aload_n F rfl e_X10_feed_79 ?_
        refine r_get F e_X10_feed_80 fl_X10_94 h1 rfl (fun v hv f7376 => ?_)
        obtain rfl : v = .int (nI (T)) := hv
        refine m_iload F rfl e_X10_feed_83 ?_
        refine m_iadd F e_X10_feed_85 ?_
        refine Wm.topE (w := nI (T + i)) (nI_add T i) ?_
        refine m_iload F rfl e_X10_feed_86 ?_
        refine m_bipush F (v := 24) (by decide) e_X10_feed_88 ?_
        refine m_bipush F (v := 8) (by decide) e_X10_feed_90 ?_
        refine m_iload F rfl e_X10_feed_92 ?_
        refine m_iconst F (v := 4) (by decide) e_X10_feed_94 ?_
        refine m_irem F (by decide) e_X10_feed_95 ?_
        refine Wm.topE (w := nI (i % 4)) (pk_rem (a := i) (d := 4) (by omega) (by decide) (by decide)) ?_
        refine m_imul F e_X10_feed_96 ?_
        refine Wm.topE (w := nI (8 * (i % 4))) (pk_mul 8 (i % 4)) ?_
        refine m_isub F e_X10_feed_97 ?_
        refine Wm.top (fun x7377 _ => ?_)
        refine m_ishr F e_X10_feed_98 ?_
        refine Wm.top (fun x7378 _ => ?_)
        refine m_sipush F (v := 255) (by decide) e_X10_feed_99 ?_
        refine m_iand F e_X10_feed_102 ?_
        refine Wm.top (fun x7379 _ => ?_)
        refine r_iast F (g' := (⟨T, Z, u, h, P, L⟩ : RG)) (len := 700) (j := T + i) e_X10_feed_103 h1 (fun _ h => h) (fun f h => ⟨f, rfl, h⟩) (by decide) (by decide) (nI_clamp (by omega)) (vp_in_nI (by omega) (by decide)) trivial (fun _ _ _ h => h) (fun _ _ _ h => h) (fun σ7380 h7381 g7382 f7383 g7384 => ?_)
        refine m_iinc F (v := nI (i + 1)) (lv' := [(6, .int (nI (i + 1))), (7, .int x901), (0, .ref c), (1, .int x901), (2, .int x902), (3, .int x903), (4, .int x904), (5, .int x905)]) e_X10_feed_104 rfl (nI_add i 1) (by decide) rfl ?_
        refine m_goto F e_X10_feed_107 ?_
        refine Wm.lvsub (lv' := [(0, .ref c), (1, .int x901), (2, .int x902), (3, .int x903), (4, .int x904), (5, .int x905), (6, .int (nI (i + 1)))]) ?_ [2, 3, 4, 5, 6, 7, 0] rfl
        exact ih (i + 1) _ h7381 (by omega) (by omega)
set_option maxRecDepth 20000 in
theorem q_X10_feed (l : Launch) (V : VX) (c T Z u h : Nat) (P : NP) (L : Nat → LQ) (N : Nat) (σ : Mem) (x901 : Int32) (x902 : Int32) (x903 : Int32) (x904 : Int32) (x905 : Int32) (h0 : HR V c ⟨T, Z, u, h, P, L⟩ σ) (hob : OKB L) (hP : OKP P) (hp0 : T ≤ 700) : Ct l V yX10_feed cX10_feed 8 (some .int) 0 0 0 N σ [.ref c, .int x901, .int x902, .int x903, .int x904, .int x905] (fun r τ => (680 < T ∧ HS V c (⟨T, Z, u, h, P, L⟩ : RG) [0, 3, 4, 5, 6, 7, 8, 9, 10, 11, 12, 13, 14, 15, 16, 17, 18, 19, 20, 21, 22, 23] σ τ ∧ r = some (.int (-1))) ∨ (T ≤ 680 ∧ HS V c (⟨T + 20, Z, u, h, P, L⟩ : RG) [0, 3, 4, 5, 6, 7, 8, 9, 10, 11, 12, 13, 14, 15, 16, 17, 18, 19, 20, 21, 22, 23] σ τ ∧ r = some (.int (nI (T + 20))))) := by
  refine Ct.of (by decide) (Nat.le_of_ble_eq_true rfl) [(0, .ref c), (1, .int x901), (2, .int x902), (3, .int x903), (4, .int x904), (5, .int x905)] rfl (fun X hX F hQ => ?_)
  have hPP := hP
  unfold OKP at hPP
  have h1 : HS V c ⟨T, Z, u, h, P, L⟩ [0, 3, 4, 5, 6, 7, 8, 9, 10, 11, 12, 13, 14, 15, 16, 17, 18, 19, 20, 21, 22, 23] σ σ := HS.start h0
  refine m_aload_n F rfl e_X10_feed_0 ?_
  refine m_iconst F (v := 0) (by decide) e_X10_feed_1 ?_
  refine r_put F (g' := (⟨T, Z, u, h, P, L⟩ : RG)) e_X10_feed_2 fp_X10_91 h1 (by decide) ⟨_, rfl⟩ (fun _ _ _ _ q => q) (fun _ _ _ q => q) rfl rfl (by decide) (fun σ7385 h7386 g7387 g7388 f7389 => ?_)
  refine m_aload_n F rfl e_X10_feed_5 ?_
  refine r_get F e_X10_feed_6 fl_X10_94 h7386 rfl (fun v hv f7390 => ?_)
  obtain rfl : v = .int (nI (T)) := hv
  refine m_sipush F (v := 680) (by decide) e_X10_feed_9 ?_
  refine m_icmp_le F e_X10_feed_12 (fun q12 => ?_) (fun q12 => ?_)
  · have c12 : T ≤ 680 := (nI_leI (a := T) (b := 680) (by omega) (by omega)).mp q12
    refine m_iconst F (v := 0) (by decide) e_X10_feed_17 ?_
    refine m_istore F (lv' := [(6, .int 0), (0, .ref c), (1, .int x901), (2, .int x902), (3, .int x903), (4, .int x904), (5, .int x905)]) e_X10_feed_18 (by decide) rfl ?_
    refine Wm.lvsub (lv' := [(0, .ref c), (1, .int x901), (2, .int x902), (3, .int x903), (4, .int x904), (5, .int x905), (6, .int 0)]) ?_ [1, 2, 3, 4, 5, 6, 0] rfl
    exact lq_X10_feed_20 F hQ hob hP hp0 (20 - 0 + 1) 0 _ h7386 (by omega) (Nat.lt_succ_self _)
  · have c12 : T > 680 := by have hh := mt (nI_leI (a := T) (b := 680) (by omega) (by omega)).mpr q12; omega
    refine m_iconst F (v := (-1)) (by decide) e_X10_feed_15 ?_
    exact m_iret F hQ e_X10_feed_16 (Or.inl ⟨by omega, h7386, rfl⟩)
