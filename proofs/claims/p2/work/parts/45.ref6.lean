set_option maxRecDepth 20000 in
theorem q_X10_ifIndex (l : Launch) (V : VX) (c T Z u h : Nat) (P : NP) (L : Nat → LQ) (N : Nat) (σ : Mem) (x901 : Int32) (x902 : Int32) (h0 : HR V c ⟨T, Z, u, h, P, L⟩ σ) (hok : OKL P.n0 L) (hP : OKP P)  : Ct l V yX10_ifIndex cX10_ifIndex 5 (some .long) 2 0 0 N σ [.ref c, .int x901, .int x902] (fun r τ => HS V c (⟨T, Z, u, h, P, L⟩ : RG) [0, 2, 3, 4, 5, 6, 7, 8, 9, 10, 11, 12, 13, 14, 15, 16, 19, 20, 21, 22, 23] σ τ ∧ ∃ x : Int64, r = some (.long x)) := by
  refine Ct.of (by decide) (Nat.le_of_ble_eq_true rfl) [(0, .ref c), (1, .int x901), (2, .int x902)] rfl (fun X hX F hQ => ?_)
  have hPP := hP
  unfold OKP at hPP
  have h1 : HS V c ⟨T, Z, u, h, P, L⟩ [0, 2, 3, 4, 5, 6, 7, 8, 9, 10, 11, 12, 13, 14, 15, 16, 19, 20, 21, 22, 23] σ σ := HS.start h0
  refine m_aload_n F rfl e_X10_ifIndex_0 ?_
  refine m_iconst F (v := 0) (by decide) e_X10_ifIndex_1 ?_
  refine r_put F (g' := (⟨T, Z, u, h, P, L⟩ : RG)) e_X10_ifIndex_2 fp_X10_91 h1 (by decide) ⟨_, rfl⟩ (fun _ _ _ _ q => q) (fun _ _ _ q => q) rfl rfl (by decide) (fun σ6609 h6610 g6611 g6612 f6613 => ?_)
  refine m_aload_n F rfl e_X10_ifIndex_5 ?_
  refine m_iload_n F rfl e_X10_ifIndex_6 ?_
  refine r_callV F e_X10_ifIndex_7 (q_X10_isLease (x_l X) V c T Z u h P L _ _ x901 h6610.1 (hok.b) hP ) cb_X10_isLease ml_X10_292 im_X10_isLease se_X10_isLease h6610 rfl rfl (rest := []) rfl (Nat.le_of_ble_eq_true rfl) ⟨Nat.le_of_ble_eq_true rfl, Nat.le_of_ble_eq_true rfl⟩ ⟨Nat.le_of_ble_eq_true rfl, Nat.le_of_ble_eq_true rfl⟩ (fun r σ6614 hp => ?_)
  obtain ⟨h6615, c6617⟩ := hp
  have h6616 := HS.trans h6610 h6615 (by decide)
  rcases c6617 with rfl | ⟨n6618, h6619, e6620, rfl⟩
  · refine m_if_eq F e_X10_ifIndex_10 (fun _ => ?_) (fun q => absurd (by decide) q)
    refine m_ldc2 F kc_X10_245 e_X10_ifIndex_27 ?_
    exact m_lret F hQ e_X10_ifIndex_30 (⟨h6616, _, rfl⟩)
  · subst e6620
    refine m_if_eq F e_X10_ifIndex_10 (fun q => absurd q (by decide)) (fun _ => ?_)
    refine m_iload_n F rfl e_X10_ifIndex_13 ?_
    refine m_sipush F (v := 500) (by decide) e_X10_ifIndex_14 ?_
    refine m_icmp_lt F e_X10_ifIndex_17 (fun q17 => ?_) (fun q17 => ?_)
    · refine m_ldc2 F kc_X10_245 e_X10_ifIndex_27 ?_
      exact m_lret F hQ e_X10_ifIndex_30 (⟨h6616, _, rfl⟩)
    · obtain ⟨n6621, hn6621, rfl⟩ := nI_nn (x := x902) (fun e => q17 (Int32.lt_of_lt_of_le e (by decide)))
      have c17 : n6621 ≥ 500 := by have hh := mt (nI_ltI (a := n6621) (b := 500) (by omega) (by omega)).mpr q17; omega
      refine m_iload_n F rfl e_X10_ifIndex_20 ?_
      refine m_sipush F (v := 2000) (by decide) e_X10_ifIndex_21 ?_
      refine m_icmp_le F e_X10_ifIndex_24 (fun q24 => ?_) (fun q24 => ?_)
      · have c24 : n6621 ≤ 2000 := (nI_leI (a := n6621) (b := 2000) (by omega) (by omega)).mp q24
        refine m_aload_n F rfl e_X10_ifIndex_31 ?_
        refine m_iload_n F rfl e_X10_ifIndex_32 ?_
        refine r_callV F e_X10_ifIndex_33 (q_X10_isOn (x_l X) V c T Z u h P L _ _ n6618 h6616.1 (hok.b) hP (by omega)) cb_X10_isOn ml_X10_267 im_X10_isOn se_X10_isOn h6616 rfl rfl (rest := []) rfl (Nat.le_of_ble_eq_true rfl) ⟨Nat.le_of_ble_eq_true rfl, Nat.le_of_ble_eq_true rfl⟩ ⟨Nat.le_of_ble_eq_true rfl, Nat.le_of_ble_eq_true rfl⟩ (fun r σ6622 hp => ?_)
        obtain ⟨h6623, c6625⟩ := hp
        have h6624 := HS.trans h6616 h6623 (by decide)
        rcases c6625 with ⟨g6626, rfl⟩ | ⟨g6626, rfl⟩
        · refine m_if_ne F e_X10_ifIndex_36 (fun q => absurd (by decide) q) (fun _ => ?_)
          refine m_ldc2 F kc_X10_338 e_X10_ifIndex_39 ?_
          exact m_lret F hQ e_X10_ifIndex_42 (⟨h6624, _, rfl⟩)
        · refine m_if_ne F e_X10_ifIndex_36 (fun _ => ?_) (fun q => absurd q (by decide))
          refine m_aload_n F rfl e_X10_ifIndex_43 ?_
          refine m_iload_n F rfl e_X10_ifIndex_44 ?_
          refine r_callV F e_X10_ifIndex_45 (q_X10_isTied (x_l X) V c T Z u h P L _ _ n6618 h6624.1 (hok.b) hP (by omega)) cb_X10_isTied ml_X10_270 im_X10_isTied se_X10_isTied h6624 rfl rfl (rest := []) rfl (Nat.le_of_ble_eq_true rfl) ⟨Nat.le_of_ble_eq_true rfl, Nat.le_of_ble_eq_true rfl⟩ ⟨Nat.le_of_ble_eq_true rfl, Nat.le_of_ble_eq_true rfl⟩ (fun r σ6627 hp => ?_)
          obtain ⟨h6628, n6630, hn6630, rfl⟩ := hp
          have h6629 := HS.trans h6624 h6628 (by decide)
          refine m_if_ne F e_X10_ifIndex_48 (fun q48 => ?_) (fun q48 => ?_)
          · have c48 : n6630 ≠ 0 := by have hh := mt (nI_eq (a := n6630) (b := 0) (by omega) (by omega)).mpr q48; omega
            refine m_aload_n F rfl e_X10_ifIndex_65 ?_
            refine r_get F e_X10_ifIndex_66 fl_X10_59 h6629 rfl (fun v hv f6631 => ?_)
            obtain rfl : v = .ref (c + 16) := hv
            refine m_iconst F (v := 0) (by decide) e_X10_ifIndex_69 ?_
            refine m_aload_n F rfl e_X10_ifIndex_70 ?_
            refine r_get F e_X10_ifIndex_71 fl_X10_63 h6629 rfl (fun v hv f6632 => ?_)
            obtain rfl : v = .ref (c + 17) := hv
            refine m_iconst F (v := 0) (by decide) e_X10_ifIndex_74 ?_
            obtain ⟨f6633, e6634, te6634⟩ : ∃ f, σ6627 (c + 16) = some (aJ V 1113 f) ∧ ∀ i, i < 1113 → EJ L i (f i) := h6629.1.cell (k := 16) (by decide)
            obtain ⟨g6635, e6636⟩ : ∃ f, σ6627 (c + 17) = some (aJ V 1113 f) := h6629.1.cell (k := 17) (by decide)
            refine m_callS F e_X10_ifIndex_75 (q_copies (x_l X) V _ _ (c + 16) (c + 17) 1113 1113 0 0 f6633 g6635 e6634 e6636 (by omega) (by omega) (by omega) (by omega)) cb_X10_copies ml_X10_230 sm_X10_copies rfl (rest := []) rfl (Nat.le_of_ble_eq_true rfl) ⟨Nat.le_of_ble_eq_true rfl, Nat.le_of_ble_eq_true rfl⟩ ⟨Nat.le_of_ble_eq_true rfl, Nat.le_of_ble_eq_true rfl⟩ (k' := 0) (z' := 0) (N' := N) rfl rfl rfl (fun r σ6637 hp => ?_)
            obtain ⟨p6638, rfl⟩ := hp
            have h6639 := HS.cp (k := 17) (g' := (⟨T, Z, u, h, P, L⟩ : RG)) h6629 p6638 (by decide) (by decide) ⟨_, rfl⟩ (fun _ _ _ q => q)
            have ga6640 : GB V c 17 1113 0 L σ6637 := ⟨_, p6638.1, fun i hi => by rw [show 0 + i = i from Nat.zero_add i, cpy_at0 hi, Nat.zero_add]; exact te6634 i hi⟩
            have hl6641 := hok.2 n6618 (by omega)
            have hl6642 := hok.2 n6618 (by omega)
            have hl6643 := hok.2 n6618 (by omega)
            refine m_aload_n F rfl e_X10_ifIndex_78 ?_
            refine m_iload_n F rfl e_X10_ifIndex_79 ?_
            refine m_iload_n F rfl e_X10_ifIndex_80 ?_
            refine m_i2l F e_X10_ifIndex_81 ?_
            refine Wm.toplE (w := lN n6621) (nI_l (by omega)) ?_
            refine r_callV F e_X10_ifIndex_82 (q_X10_indexes (x_l X) V c T Z u h P L _ _ n6618 n6621 h6639.1 (hok.b) hP (by omega) (by omega) (by first | omega | assumption | decide)) cb_X10_indexes ml_X10_273 im_X10_indexes se_X10_indexes h6639 rfl rfl (rest := []) rfl (Nat.le_of_ble_eq_true rfl) ⟨Nat.le_of_ble_eq_true rfl, Nat.le_of_ble_eq_true rfl⟩ ⟨Nat.le_of_ble_eq_true rfl, Nat.le_of_ble_eq_true rfl⟩ (fun r σ6644 hp => ?_)
            obtain ⟨h6645, rfl⟩ := hp
            have h6646 := HS.trans h6639 h6645 (by decide)
            have ga6647 := ga6640.of (h6645.2 (c + 17) (by rw [kC_at (k := 17) (by decide)]; decide))
            refine m_aload_n F rfl e_X10_ifIndex_85 ?_
            refine m_iload_n F rfl e_X10_ifIndex_86 ?_
            refine m_aload_n F rfl e_X10_ifIndex_87 ?_
            refine r_getC F e_X10_ifIndex_88 fl_X10_59 h6646 ((fld_eq (h6645.2 c (by rw [show kC c c = 1 from kC_at (k := 0) (by decide)]; decide))).trans ((fld_eq (p6638.2 _ (by omega))).trans f6631)) ?_
            refine m_sipush F (v := 160) (by decide) e_X10_ifIndex_91 ?_
            refine m_iload_n F rfl e_X10_ifIndex_94 ?_
            refine m_imul F e_X10_ifIndex_95 ?_
            refine Wm.topE (w := nI (160 * n6618)) (pk_mul 160 n6618) ?_
            refine m_iconst F (v := 5) (by decide) e_X10_ifIndex_96 ?_
            refine m_iadd F e_X10_ifIndex_97 ?_
            refine Wm.topE (w := nI (160 * n6618 + 5)) (nI_add (160 * n6618) 5) ?_
            refine r_sld F (j := 160 * n6618 + 5) e_X10_ifIndex_98 h6646 (nI_clamp (by omega)) (vp_in_nI (by omega) (by decide)) (fun x6648 h6649 f6650 => ?_)
            have hl6651 := hok.2 n6618 (by omega)
            obtain rfl : x6648 = lN (L n6618).2.2.2 := (EJ_l (l := n6618) (r := 5) (by omega) (by decide)).mp h6649
            refine m_l2i F e_X10_ifIndex_99 ?_
            refine Wm.topE (w := nI ((L n6618).2.2.2)) (lN_i ((L n6618).2.2.2)) ?_
            refine m_iconst F (v := 1) (by decide) e_X10_ifIndex_100 ?_
            refine m_iadd F e_X10_ifIndex_101 ?_
            refine Wm.topE (w := nI ((L n6618).2.2.2 + 1)) (nI_add ((L n6618).2.2.2) 1) ?_
            refine m_aload_n F rfl e_X10_ifIndex_102 ?_
            refine r_getC F e_X10_ifIndex_103 fl_X10_59 h6646 ((fld_eq (h6645.2 c (by rw [show kC c c = 1 from kC_at (k := 0) (by decide)]; decide))).trans ((fld_eq (p6638.2 _ (by omega))).trans f6631)) ?_
            refine m_sipush F (v := 160) (by decide) e_X10_ifIndex_106 ?_
            refine m_iload_n F rfl e_X10_ifIndex_109 ?_
            refine m_imul F e_X10_ifIndex_110 ?_
            refine Wm.topE (w := nI (160 * n6618)) (pk_mul 160 n6618) ?_
            refine m_iconst F (v := 2) (by decide) e_X10_ifIndex_111 ?_
            refine m_iadd F e_X10_ifIndex_112 ?_
            refine Wm.topE (w := nI (160 * n6618 + 2)) (nI_add (160 * n6618) 2) ?_
            refine r_sld F (j := 160 * n6618 + 2) e_X10_ifIndex_113 h6646 (nI_clamp (by omega)) (vp_in_nI (by omega) (by decide)) (fun x6652 h6653 f6654 => ?_)
            obtain ⟨n6655, hn6655, rfl⟩ : ∃ n : Nat, n ≤ 1000000 ∧ x6652 = lN n := (EJ_l (l := n6618) (r := 2) (by omega) (by decide)).mp h6653
            refine m_ldc2 F kc_X10_245 e_X10_ifIndex_114 ?_
            refine r_callV F e_X10_ifIndex_117 (q_X10_worthBy (x_l X) V c T Z u h P L _ _ n6618 ((L n6618).2.2.2 + 1) n6655 (-1) h6646.1 (hok.b) hP (by omega) (by omega) (by omega) (by first | omega | assumption | decide)) cb_X10_worthBy ml_X10_247 im_X10_worthBy se_X10_worthBy h6646 rfl rfl (rest := []) rfl (Nat.le_of_ble_eq_true rfl) ⟨Nat.le_of_ble_eq_true rfl, Nat.le_of_ble_eq_true rfl⟩ ⟨Nat.le_of_ble_eq_true rfl, Nat.le_of_ble_eq_true rfl⟩ (fun r σ6656 hp => ?_)
            obtain ⟨h6657, x6659, rfl⟩ := hp
            have h6658 := HS.trans h6646 h6657 (by decide)
            have ga6660 := ga6647.of (h6657.2 (c + 17) (by rw [kC_at (k := 17) (by decide)]; decide))
            refine m_lstore_n F (lv' := [(3, .long x6659), (0, .ref c), (1, .int (nI n6618)), (2, .int (nI n6621))]) e_X10_ifIndex_120 (by decide) rfl ?_
            refine m_aload_n F rfl e_X10_ifIndex_121 ?_
            refine r_callV F e_X10_ifIndex_122 (q_X10_back1 (x_l X) V c T Z u h P L _ _ L h6658.1 (hok.b) hP ga6660) cb_X10_back1 ml_X10_332 im_X10_back1 se_X10_back1 h6658 rfl rfl (rest := []) rfl (Nat.le_of_ble_eq_true rfl) ⟨Nat.le_of_ble_eq_true rfl, Nat.le_of_ble_eq_true rfl⟩ ⟨Nat.le_of_ble_eq_true rfl, Nat.le_of_ble_eq_true rfl⟩ (fun r σ6661 hp => ?_)
            obtain ⟨h6662, rfl⟩ := hp
            have h6663 := HS.trans h6658 h6662 (by decide)
            have ga6664 := ga6660.of (h6662.2 (c + 17) (by rw [kC_at (k := 17) (by decide)]; decide))
            refine m_lload_n F rfl e_X10_ifIndex_125 ?_
            exact m_lret F hQ e_X10_ifIndex_126 (⟨h6663, _, rfl⟩)
          · have c48 : n6630 = 0 := (nI_eq (a := n6630) (b := 0) (by omega) (by omega)).mp q48
            refine m_aload_n F rfl e_X10_ifIndex_51 ?_
            refine r_get F e_X10_ifIndex_52 fl_X10_59 h6629 rfl (fun v hv f6665 => ?_)
            obtain rfl : v = .ref (c + 16) := hv
            refine m_sipush F (v := 160) (by decide) e_X10_ifIndex_55 ?_
            refine m_iload_n F rfl e_X10_ifIndex_58 ?_
            refine m_imul F e_X10_ifIndex_59 ?_
            refine Wm.topE (w := nI (160 * n6618)) (pk_mul 160 n6618) ?_
            refine m_bipush F (v := 6) (by decide) e_X10_ifIndex_60 ?_
            refine m_iadd F e_X10_ifIndex_62 ?_
            refine Wm.topE (w := nI (160 * n6618 + 6)) (nI_add (160 * n6618) 6) ?_
            refine r_sld F (j := 160 * n6618 + 6) e_X10_ifIndex_63 h6629 (nI_clamp (by omega)) (vp_in_nI (by omega) (by decide)) (fun x6666 h6667 f6668 => ?_)
            exact m_lret F hQ e_X10_ifIndex_64 (⟨h6629, _, rfl⟩)
      · have c24 : n6621 > 2000 := by have hh := mt (nI_leI (a := n6621) (b := 2000) (by omega) (by omega)).mpr q24; omega
        refine m_ldc2 F kc_X10_245 e_X10_ifIndex_27 ?_
        exact m_lret F hQ e_X10_ifIndex_30 (⟨h6616, _, rfl⟩)
set_option maxRecDepth 20000 in
theorem q_X10_rate (l : Launch) (V : VX) (c T Z u h : Nat) (P : NP) (L : Nat → LQ) (N : Nat) (σ : Mem) (x901 : Int32) (x902 : Int32) (h0 : HR V c ⟨T, Z, u, h, P, L⟩ σ) (hok : OKL P.n0 L) (hP : OKP P) (hp0 : u ≤ 20) (hp1 : P.kk = P.n0) : Ct l V yX10_rate cX10_rate 3 (some .long) 3 0 0 N σ [.ref c, .int x901, .int x902] (fun r τ => ∃ u9, u9 ≤ 20 ∧ ∃ L9, OKL P.n0 L9 ∧ HS V c (⟨T, Z, u9, h, P, L9⟩ : RG) [0, 2, 3, 4, 5, 6, 7, 8, 9, 10, 11, 12, 13, 14, 15, 16, 18, 19, 20, 22] σ τ ∧ ∃ x : Int64, r = some (.long x)) := by
  refine Ct.of (by decide) (Nat.le_of_ble_eq_true rfl) [(0, .ref c), (1, .int x901), (2, .int x902)] rfl (fun X hX F hQ => ?_)
  have hPP := hP
  unfold OKP at hPP
  have h1 : HS V c ⟨T, Z, u, h, P, L⟩ [0, 2, 3, 4, 5, 6, 7, 8, 9, 10, 11, 12, 13, 14, 15, 16, 18, 19, 20, 22] σ σ := HS.start h0
  refine m_aload_n F rfl e_X10_rate_0 ?_
  refine m_iconst F (v := 0) (by decide) e_X10_rate_1 ?_
  refine r_put F (g' := (⟨T, Z, u, h, P, L⟩ : RG)) e_X10_rate_2 fp_X10_91 h1 (by decide) ⟨_, rfl⟩ (fun _ _ _ _ q => q) (fun _ _ _ q => q) rfl rfl (by decide) (fun σ6669 h6670 g6671 g6672 f6673 => ?_)
  refine m_aload_n F rfl e_X10_rate_5 ?_
  refine m_iload_n F rfl e_X10_rate_6 ?_
  refine r_callV F e_X10_rate_7 (q_X10_isRunning (x_l X) V c T Z u h P L _ _ x901 h6670.1 (hok.b) hP ) cb_X10_isRunning ml_X10_301 im_X10_isRunning se_X10_isRunning h6670 rfl rfl (rest := []) rfl (Nat.le_of_ble_eq_true rfl) ⟨Nat.le_of_ble_eq_true rfl, Nat.le_of_ble_eq_true rfl⟩ ⟨Nat.le_of_ble_eq_true rfl, Nat.le_of_ble_eq_true rfl⟩ (fun r σ6674 hp => ?_)
  obtain ⟨h6675, c6677⟩ := hp
  have h6676 := HS.trans h6670 h6675 (by decide)
  rcases c6677 with rfl | ⟨n6678, h6679, h6680, e6681, rfl⟩
  · refine m_if_eq F e_X10_rate_10 (fun _ => ?_) (fun q => absurd (by decide) q)
    refine m_ldc2 F kc_X10_299 e_X10_rate_23 ?_
    exact m_lret F hQ e_X10_rate_26 (⟨u, by omega, L, hok, h6676, _, rfl⟩)
  · subst e6681
    refine m_if_eq F e_X10_rate_10 (fun q => absurd q (by decide)) (fun _ => ?_)
    refine m_iload_n F rfl e_X10_rate_13 ?_
    refine m_if_lt F e_X10_rate_14 (fun q14 => ?_) (fun q14 => ?_)
    · refine m_ldc2 F kc_X10_299 e_X10_rate_23 ?_
      exact m_lret F hQ e_X10_rate_26 (⟨u, by omega, L, hok, h6676, _, rfl⟩)
    · obtain ⟨n6682, hn6682, rfl⟩ := nI_nn (x := x902) (fun e => q14 (Int32.lt_of_lt_of_le e (by decide)))
      have c14 : n6682 ≥ 0 := by have hh := mt (nI_ltI (a := n6682) (b := 0) (by omega) (by omega)).mpr q14; omega
      refine m_iload_n F rfl e_X10_rate_17 ?_
      refine m_ldc F kc_X10_169 e_X10_rate_18 ?_
      refine m_icmp_le F e_X10_rate_20 (fun q20 => ?_) (fun q20 => ?_)
      · have c20 : n6682 ≤ 200000 := (nI_leI (a := n6682) (b := 200000) (by omega) (by omega)).mp q20
        refine m_aload_n F rfl e_X10_rate_27 ?_
        refine r_callV F e_X10_rate_28 (q_X10_remembers (x_l X) V c T Z u h P L _ _  h6676.1 (hok) hP (by first | omega | assumption | decide) (by first | omega | assumption | decide)) cb_X10_remembers ml_X10_286 im_X10_remembers se_X10_remembers h6676 rfl rfl (rest := []) rfl (Nat.le_of_ble_eq_true rfl) ⟨Nat.le_of_ble_eq_true rfl, Nat.le_of_ble_eq_true rfl⟩ ⟨Nat.le_of_ble_eq_true rfl, Nat.le_of_ble_eq_true rfl⟩ (fun r σ6683 hp => ?_)
        obtain ⟨u6686, hu6686, h6684, rfl⟩ := hp
        have h6685 := HS.trans h6676 h6684 (by decide)
        refine m_aload_n F rfl e_X10_rate_31 ?_
        refine r_get F e_X10_rate_32 fl_X10_59 h6685 rfl (fun v hv f6687 => ?_)
        obtain rfl : v = .ref (c + 16) := hv
        refine m_sipush F (v := 160) (by decide) e_X10_rate_35 ?_
        refine m_iload_n F rfl e_X10_rate_38 ?_
        refine m_imul F e_X10_rate_39 ?_
        refine Wm.topE (w := nI (160 * n6678)) (pk_mul 160 n6678) ?_
        refine m_iconst F (v := 2) (by decide) e_X10_rate_40 ?_
        refine m_iadd F e_X10_rate_41 ?_
        refine Wm.topE (w := nI (160 * n6678 + 2)) (nI_add (160 * n6678) 2) ?_
        refine m_iload_n F rfl e_X10_rate_42 ?_
        refine m_i2l F e_X10_rate_43 ?_
        refine Wm.toplE (w := lN n6682) (nI_l (by omega)) ?_
        refine r_sst F (g' := (⟨T, Z, u6686, h, P, L⟩ : RG)) (j := 160 * n6678 + 2) e_X10_rate_44 h6685 (by decide) (nI_clamp (by omega)) (vp_in_nI (by omega) (by decide)) (fun f q => EJ_same ((EJ_l (l := n6678) (r := 2) (by omega) (by decide)).mpr ⟨n6682, by omega, rfl⟩) q) (fun _ _ _ q => q) (fun σ6688 h6689 g6690 => ?_)
        refine m_aload_n F rfl e_X10_rate_45 ?_
        refine m_iload_n F rfl e_X10_rate_46 ?_
        refine r_callV F e_X10_rate_47 (q_X10_remeasures (x_l X) V c T Z u6686 h P L _ _ n6678 h6689.1 (hok.b) hP (by omega)) cb_X10_remeasures ml_X10_277 im_X10_remeasures se_X10_remeasures h6689 rfl rfl (rest := []) rfl (Nat.le_of_ble_eq_true rfl) ⟨Nat.le_of_ble_eq_true rfl, Nat.le_of_ble_eq_true rfl⟩ ⟨Nat.le_of_ble_eq_true rfl, Nat.le_of_ble_eq_true rfl⟩ (fun r σ6691 hp => ?_)
        obtain ⟨h6692, x6694, rfl⟩ := hp
        have h6693 := HS.trans h6689 h6692 (by decide)
        exact m_lret F hQ e_X10_rate_50 (⟨u6686, by omega, L, hok, h6693, _, rfl⟩)
      · have c20 : n6682 > 200000 := by have hh := mt (nI_leI (a := n6682) (b := 200000) (by omega) (by omega)).mpr q20; omega
        refine m_ldc2 F kc_X10_299 e_X10_rate_23 ?_
        exact m_lret F hQ e_X10_rate_26 (⟨u, by omega, L, hok, h6676, _, rfl⟩)
set_option maxRecDepth 20000 in
theorem q_X10_extend (l : Launch) (V : VX) (c T Z u h : Nat) (P : NP) (L : Nat → LQ) (N : Nat) (σ : Mem) (x901 : Int32) (x902 : Int32) (h0 : HR V c ⟨T, Z, u, h, P, L⟩ σ) (hok : OKL P.n0 L) (hP : OKP P) (hp0 : u ≤ 20) (hp1 : P.kk = P.n0) : Ct l V yX10_extend cX10_extend 4 (some .long) 3 0 0 N σ [.ref c, .int x901, .int x902] (fun r τ => ∃ u9, u9 ≤ 20 ∧ ∃ L9, OKL P.n0 L9 ∧ HS V c (⟨T, Z, u9, h, P, L9⟩ : RG) [0, 2, 3, 4, 5, 6, 7, 8, 9, 10, 11, 12, 13, 14, 15, 16, 18, 19, 20, 22] σ τ ∧ ∃ x : Int64, r = some (.long x)) := by
  refine Ct.of (by decide) (Nat.le_of_ble_eq_true rfl) [(0, .ref c), (1, .int x901), (2, .int x902)] rfl (fun X hX F hQ => ?_)
  have hPP := hP
  unfold OKP at hPP
  have h1 : HS V c ⟨T, Z, u, h, P, L⟩ [0, 2, 3, 4, 5, 6, 7, 8, 9, 10, 11, 12, 13, 14, 15, 16, 18, 19, 20, 22] σ σ := HS.start h0
  refine m_aload_n F rfl e_X10_extend_0 ?_
  refine m_iconst F (v := 0) (by decide) e_X10_extend_1 ?_
  refine r_put F (g' := (⟨T, Z, u, h, P, L⟩ : RG)) e_X10_extend_2 fp_X10_91 h1 (by decide) ⟨_, rfl⟩ (fun _ _ _ _ q => q) (fun _ _ _ q => q) rfl rfl (by decide) (fun σ6695 h6696 g6697 g6698 f6699 => ?_)
  refine m_aload_n F rfl e_X10_extend_5 ?_
  refine m_iload_n F rfl e_X10_extend_6 ?_
  refine r_callV F e_X10_extend_7 (q_X10_isRunning (x_l X) V c T Z u h P L _ _ x901 h6696.1 (hok.b) hP ) cb_X10_isRunning ml_X10_301 im_X10_isRunning se_X10_isRunning h6696 rfl rfl (rest := []) rfl (Nat.le_of_ble_eq_true rfl) ⟨Nat.le_of_ble_eq_true rfl, Nat.le_of_ble_eq_true rfl⟩ ⟨Nat.le_of_ble_eq_true rfl, Nat.le_of_ble_eq_true rfl⟩ (fun r σ6700 hp => ?_)
  obtain ⟨h6701, c6703⟩ := hp
  have h6702 := HS.trans h6696 h6701 (by decide)
  rcases c6703 with rfl | ⟨n6704, h6705, h6706, e6707, rfl⟩
  · refine m_if_eq F e_X10_extend_10 (fun _ => ?_) (fun q => absurd (by decide) q)
    refine m_ldc2 F kc_X10_299 e_X10_extend_33 ?_
    exact m_lret F hQ e_X10_extend_36 (⟨u, by omega, L, hok, h6702, _, rfl⟩)
  · subst e6707
    refine m_if_eq F e_X10_extend_10 (fun q => absurd q (by decide)) (fun _ => ?_)
    refine m_iload_n F rfl e_X10_extend_13 ?_
    refine m_iconst F (v := 1) (by decide) e_X10_extend_14 ?_
    refine m_icmp_lt F e_X10_extend_15 (fun q15 => ?_) (fun q15 => ?_)
    · refine m_ldc2 F kc_X10_299 e_X10_extend_33 ?_
      exact m_lret F hQ e_X10_extend_36 (⟨u, by omega, L, hok, h6702, _, rfl⟩)
    · obtain ⟨n6708, hn6708, rfl⟩ := nI_nn (x := x902) (fun e => q15 (Int32.lt_of_lt_of_le e (by decide)))
      have c15 : n6708 ≥ 1 := by have hh := mt (nI_ltI (a := n6708) (b := 1) (by omega) (by omega)).mpr q15; omega
      refine m_iload_n F rfl e_X10_extend_18 ?_
      refine m_bipush F (v := 24) (by decide) e_X10_extend_19 ?_
      refine m_icmp_gt F e_X10_extend_21 (fun q21 => ?_) (fun q21 => ?_)
      · have c21 : n6708 > 24 := (nI_ltI (a := 24) (b := n6708) (by omega) (by omega)).mp q21
        refine m_ldc2 F kc_X10_299 e_X10_extend_33 ?_
        exact m_lret F hQ e_X10_extend_36 (⟨u, by omega, L, hok, h6702, _, rfl⟩)
      · have c21 : n6708 ≤ 24 := by have hh := mt (nI_ltI (a := 24) (b := n6708) (by omega) (by omega)).mpr q21; omega
        refine m_aload_n F rfl e_X10_extend_24 ?_
        refine m_iload_n F rfl e_X10_extend_25 ?_
        refine m_iload_n F rfl e_X10_extend_26 ?_
        refine r_callV F e_X10_extend_27 (q_X10_canBeLonger (x_l X) V c T Z u h P L _ _ n6704 n6708 h6702.1 (hok.b) hP (by omega) (by omega)) cb_X10_canBeLonger ml_X10_306 im_X10_canBeLonger se_X10_canBeLonger h6702 rfl rfl (rest := []) rfl (Nat.le_of_ble_eq_true rfl) ⟨Nat.le_of_ble_eq_true rfl, Nat.le_of_ble_eq_true rfl⟩ ⟨Nat.le_of_ble_eq_true rfl, Nat.le_of_ble_eq_true rfl⟩ (fun r σ6709 hp => ?_)
        obtain ⟨h6710, c6712⟩ := hp
        have h6711 := HS.trans h6702 h6710 (by decide)
        rcases c6712 with rfl | ⟨h6713, rfl⟩
        · refine m_if_ne F e_X10_extend_30 (fun q => absurd (by decide) q) (fun _ => ?_)
          refine m_ldc2 F kc_X10_299 e_X10_extend_33 ?_
          exact m_lret F hQ e_X10_extend_36 (⟨u, by omega, L, hok, h6711, _, rfl⟩)
        · refine m_if_ne F e_X10_extend_30 (fun _ => ?_) (fun q => absurd q (by decide))
          refine m_aload_n F rfl e_X10_extend_37 ?_
          refine r_callV F e_X10_extend_38 (q_X10_remembers (x_l X) V c T Z u h P L _ _  h6711.1 (hok) hP (by first | omega | assumption | decide) (by first | omega | assumption | decide)) cb_X10_remembers ml_X10_286 im_X10_remembers se_X10_remembers h6711 rfl rfl (rest := []) rfl (Nat.le_of_ble_eq_true rfl) ⟨Nat.le_of_ble_eq_true rfl, Nat.le_of_ble_eq_true rfl⟩ ⟨Nat.le_of_ble_eq_true rfl, Nat.le_of_ble_eq_true rfl⟩ (fun r σ6714 hp => ?_)
          obtain ⟨u6717, hu6717, h6715, rfl⟩ := hp
          have h6716 := HS.trans h6711 h6715 (by decide)
          have hl6718 := hok.2 n6704 (by omega)
          have hl6719 := hok.2 n6704 (by omega)
          have hl6720 := hok.2 n6704 (by omega)
          refine m_sipush F (v := 160) (by decide) e_X10_extend_41 ?_
          refine m_iload_n F rfl e_X10_extend_44 ?_
          refine m_imul F e_X10_extend_45 ?_
          refine Wm.topE (w := nI (160 * n6704)) (pk_mul 160 n6704) ?_
          refine m_aload_n F rfl e_X10_extend_46 ?_
          refine r_get F e_X10_extend_47 fl_X10_59 h6716 rfl (fun v hv f6721 => ?_)
          obtain rfl : v = .ref (c + 16) := hv
          refine m_sipush F (v := 160) (by decide) e_X10_extend_50 ?_
          refine m_iload_n F rfl e_X10_extend_53 ?_
          refine m_imul F e_X10_extend_54 ?_
          refine Wm.topE (w := nI (160 * n6704)) (pk_mul 160 n6704) ?_
          refine m_iconst F (v := 1) (by decide) e_X10_extend_55 ?_
          refine m_iadd F e_X10_extend_56 ?_
          refine Wm.topE (w := nI (160 * n6704 + 1)) (nI_add (160 * n6704) 1) ?_
          refine r_sld F (j := 160 * n6704 + 1) e_X10_extend_57 h6716 (nI_clamp (by omega)) (vp_in_nI (by omega) (by decide)) (fun x6722 h6723 f6724 => ?_)
          have hl6725 := hok.2 n6704 (by omega)
          obtain rfl : x6722 = lN (L n6704).2.1 := (EJ_l (l := n6704) (r := 1) (by omega) (by decide)).mp h6723
          refine m_l2i F e_X10_extend_58 ?_
          refine Wm.topE (w := nI ((L n6704).2.1)) (lN_i ((L n6704).2.1)) ?_
          refine m_iadd F e_X10_extend_59 ?_
          refine Wm.topE (w := nI ((160 * n6704) + ((L n6704).2.1))) (nI_add (160 * n6704) ((L n6704).2.1)) ?_
          refine m_iconst F (v := 1) (by decide) e_X10_extend_60 ?_
          refine m_isub F e_X10_extend_61 ?_
          refine Wm.topE (w := nI (((160 * n6704) + ((L n6704).2.1)) - 1)) (pk_sub (a := (160 * n6704) + ((L n6704).2.1)) (b := 1) (by omega)) ?_
          refine m_istore_n F (lv' := [(3, .int (nI (((160 * n6704) + ((L n6704).2.1)) - 1))), (0, .ref c), (1, .int (nI n6704)), (2, .int (nI n6708))]) e_X10_extend_62 (by decide) rfl ?_
          refine m_aload_n F rfl e_X10_extend_63 ?_
          refine m_iload_n F rfl e_X10_extend_64 ?_
          refine m_iload_n F rfl e_X10_extend_65 ?_
          refine m_aload_n F rfl e_X10_extend_66 ?_
          refine r_getC F e_X10_extend_67 fl_X10_59 h6716 (f6721) ?_
          refine m_iload_n F rfl e_X10_extend_70 ?_
          refine m_bipush F (v := 13) (by decide) e_X10_extend_71 ?_
          refine m_iadd F e_X10_extend_73 ?_
          refine Wm.topE (w := nI (((160 * n6704) + ((L n6704).2.1)) - 1 + 13)) (nI_add (((160 * n6704) + ((L n6704).2.1)) - 1) 13) ?_
          refine r_sld F (j := ((160 * n6704) + ((L n6704).2.1)) - 1 + 13) e_X10_extend_74 h6716 (nI_clamp (by omega)) (vp_in_nI (by omega) (by decide)) (fun x6726 h6727 f6728 => ?_)
          refine m_aload_n F rfl e_X10_extend_75 ?_
          refine r_getC F e_X10_extend_76 fl_X10_59 h6716 (f6721) ?_
          refine m_iload_n F rfl e_X10_extend_79 ?_
          refine m_bipush F (v := 85) (by decide) e_X10_extend_80 ?_
          refine m_iadd F e_X10_extend_82 ?_
          refine Wm.topE (w := nI (((160 * n6704) + ((L n6704).2.1)) - 1 + 85)) (nI_add (((160 * n6704) + ((L n6704).2.1)) - 1) 85) ?_
          refine r_sld F (j := ((160 * n6704) + ((L n6704).2.1)) - 1 + 85) e_X10_extend_83 h6716 (nI_clamp (by omega)) (vp_in_nI (by omega) (by decide)) (fun x6729 h6730 f6731 => ?_)
          refine r_callV F e_X10_extend_84 (q_X10_adds (x_l X) V c T Z u6717 h P L _ _ n6704 n6708 x6726 x6729 h6716.1 (hok) hP (by omega) (by omega) (by first | omega | assumption | decide)) cb_X10_adds ml_X10_309 im_X10_adds se_X10_adds h6716 rfl rfl (rest := []) rfl (Nat.le_of_ble_eq_true rfl) ⟨Nat.le_of_ble_eq_true rfl, Nat.le_of_ble_eq_true rfl⟩ ⟨Nat.le_of_ble_eq_true rfl, Nat.le_of_ble_eq_true rfl⟩ (fun r σ6732 hp => ?_)
          obtain ⟨L6735, okL6735, r6736, r6737, r6738, h6733, rfl⟩ := hp
          have h6734 := HS.trans h6716 h6733 (by decide)
          refine m_aload_n F rfl e_X10_extend_87 ?_
          refine m_iload_n F rfl e_X10_extend_88 ?_
          refine r_callV F e_X10_extend_89 (q_X10_remeasures (x_l X) V c T Z u6717 h P L6735 _ _ n6704 h6734.1 (okL6735.b) hP (by omega)) cb_X10_remeasures ml_X10_277 im_X10_remeasures se_X10_remeasures h6734 rfl rfl (rest := []) rfl (Nat.le_of_ble_eq_true rfl) ⟨Nat.le_of_ble_eq_true rfl, Nat.le_of_ble_eq_true rfl⟩ ⟨Nat.le_of_ble_eq_true rfl, Nat.le_of_ble_eq_true rfl⟩ (fun r σ6739 hp => ?_)
          obtain ⟨h6740, x6742, rfl⟩ := hp
          have h6741 := HS.trans h6734 h6740 (by decide)
          exact m_lret F hQ e_X10_extend_92 (⟨u6717, by omega, L6735, okL6735, h6741, _, rfl⟩)
set_option maxRecDepth 20000 in
theorem q_X10_canTake (l : Launch) (V : VX) (c T Z u h : Nat) (P : NP) (L : Nat → LQ) (N : Nat) (σ : Mem) (x901 : Int32) (h0 : HR V c ⟨T, Z, u, h, P, L⟩ σ) (hob : OKB L) (hP : OKP P)  : Ct l V yX10_canTake cX10_canTake 2 (some .boolean) 1 0 0 N σ [.ref c, .int x901] (fun r τ => HS V c (⟨T, Z, u, h, P, L⟩ : RG) [0, 1, 2, 3, 4, 5, 6, 7, 8, 9, 10, 11, 12, 13, 14, 15, 16, 17, 18, 19, 20, 21, 22, 23] σ τ ∧ (r = some (.int 0) ∨ ∃ j n m : Nat, j ≤ 3 ∧ n ≤ 3 ∧ m ≤ 24 ∧ (L n).1 = 1 ∧ (L n).2.1 + m ≤ 72 ∧ elI τ (c + 13) j = some (nI n) ∧ elI τ (c + 14) j = some (nI m) ∧ x901 = nI j ∧ r = some (.int 1))) := by
  refine Ct.of (by decide) (Nat.le_of_ble_eq_true rfl) [(0, .ref c), (1, .int x901)] rfl (fun X hX F hQ => ?_)
  have hPP := hP
  unfold OKP at hPP
  have h1 : HS V c ⟨T, Z, u, h, P, L⟩ [0, 1, 2, 3, 4, 5, 6, 7, 8, 9, 10, 11, 12, 13, 14, 15, 16, 17, 18, 19, 20, 21, 22, 23] σ σ := HS.start h0
  refine m_iload_n F rfl e_X10_canTake_0 ?_
  refine m_if_lt F e_X10_canTake_1 (fun q1 => ?_) (fun q1 => ?_)
  · refine m_iconst F (v := 0) (by decide) e_X10_canTake_65 ?_
    exact m_zret F hQ e_X10_canTake_66 (by decide) (⟨h1, Or.inl rfl⟩)
  · obtain ⟨n6743, hn6743, rfl⟩ := nI_nn (x := x901) (fun e => q1 (Int32.lt_of_lt_of_le e (by decide)))
    have c1 : n6743 ≥ 0 := by have hh := mt (nI_ltI (a := n6743) (b := 0) (by omega) (by omega)).mpr q1; omega
    refine m_iload_n F rfl e_X10_canTake_4 ?_
    refine m_aload_n F rfl e_X10_canTake_5 ?_
    refine r_get F e_X10_canTake_6 fl_X10_13 h1 rfl (fun v hv f6744 => ?_)
    obtain rfl : v = .ref (c + 2) := hv
    refine m_iconst F (v := 3) (by decide) e_X10_canTake_9 ?_
    refine r_iald F (len := 10) (j := 3) e_X10_canTake_10 h1 (fun _ h => h) (by decide) (by decide) (by unfold vp_in; decide) (fun x6745 h6746 f6747 => ?_)
    obtain ⟨n6748, hn6748, rfl⟩ := h6746.2.2.2.2.1 rfl
    refine m_icmp_ge F e_X10_canTake_11 (fun q11 => ?_) (fun q11 => ?_)
    · have c11 : n6743 ≥ n6748 := (nI_leI (a := n6748) (b := n6743) (by omega) (by omega)).mp q11
      refine m_iconst F (v := 0) (by decide) e_X10_canTake_65 ?_
      exact m_zret F hQ e_X10_canTake_66 (by decide) (⟨h1, Or.inl rfl⟩)
    · have c11 : n6743 < n6748 := by have hh := mt (nI_leI (a := n6748) (b := n6743) (by omega) (by omega)).mpr q11; omega
      refine m_aload_n F rfl e_X10_canTake_14 ?_
      refine r_get F e_X10_canTake_15 fl_X10_59 h1 rfl (fun v hv f6749 => ?_)
      obtain rfl : v = .ref (c + 16) := hv
      refine m_sipush F (v := 640) (by decide) e_X10_canTake_18 ?_
      refine m_iload_n F rfl e_X10_canTake_21 ?_
      refine m_iadd F e_X10_canTake_22 ?_
      refine Wm.topE (w := nI (640 + n6743)) (nI_add 640 n6743) ?_
      refine r_sld F (j := 640 + n6743) e_X10_canTake_23 h1 (nI_clamp (by omega)) (vp_in_nI (by omega) (by decide)) (fun x6750 h6751 f6752 => ?_)
      refine m_lconst F (v := 0) (by decide) e_X10_canTake_24 ?_
      refine m_lcmp F e_X10_canTake_25 ?_
      refine Wm.top (fun x6753 _ => ?_)
      refine m_if_ne F e_X10_canTake_26 (fun q26 => ?_) (fun q26 => ?_)
      · refine m_iconst F (v := 0) (by decide) e_X10_canTake_65 ?_
        exact m_zret F hQ e_X10_canTake_66 (by decide) (⟨h1, Or.inl rfl⟩)
      · subst q26
        refine m_aload_n F rfl e_X10_canTake_29 ?_
        refine m_aload_n F rfl e_X10_canTake_30 ?_
        refine r_get F e_X10_canTake_31 fl_X10_46 h1 rfl (fun v hv f6754 => ?_)
        obtain rfl : v = .ref (c + 13) := hv
        refine m_iload_n F rfl e_X10_canTake_34 ?_
        refine r_iald F (len := 8) (j := n6743) e_X10_canTake_35 h1 (fun _ h => h) (by decide) (nI_clamp (by omega)) (vp_in_nI (by omega) (by decide)) (fun x6755 h6756 f6757 => ?_)
        obtain ⟨n6758, hn6758, rfl⟩ := h6756
        refine r_callV F e_X10_canTake_36 (q_X10_isOn (x_l X) V c T Z u h P L _ _ n6758 h1.1 (hob) hP (by omega)) cb_X10_isOn ml_X10_267 im_X10_isOn se_X10_isOn h1 rfl rfl (rest := []) rfl (Nat.le_of_ble_eq_true rfl) ⟨Nat.le_of_ble_eq_true rfl, Nat.le_of_ble_eq_true rfl⟩ ⟨Nat.le_of_ble_eq_true rfl, Nat.le_of_ble_eq_true rfl⟩ (fun r σ6759 hp => ?_)
        obtain ⟨h6760, c6762⟩ := hp
        have h6761 := HS.trans h1 h6760 (by decide)
        rcases c6762 with ⟨g6763, rfl⟩ | ⟨g6763, rfl⟩
        · refine m_if_eq F e_X10_canTake_39 (fun _ => ?_) (fun q => absurd (by decide) q)
          refine m_iconst F (v := 0) (by decide) e_X10_canTake_65 ?_
          exact m_zret F hQ e_X10_canTake_66 (by decide) (⟨h6761, Or.inl rfl⟩)
        · refine m_if_eq F e_X10_canTake_39 (fun q => absurd q (by decide)) (fun _ => ?_)
          refine m_aload_n F rfl e_X10_canTake_42 ?_
          refine m_aload_n F rfl e_X10_canTake_43 ?_
          refine r_getC F e_X10_canTake_44 fl_X10_46 h6761 ((fld_eq (h6760.2 c (by rw [show kC c c = 1 from kC_at (k := 0) (by decide)]; decide))).trans f6754) ?_
          refine m_iload_n F rfl e_X10_canTake_47 ?_
          refine r_iald F (len := 8) (j := n6743) e_X10_canTake_48 h6761 (fun _ h => h) (by decide) (nI_clamp (by omega)) (vp_in_nI (by omega) (by decide)) (fun x6764 h6765 f6766 => ?_)
          obtain rfl := Option.some.inj ((f6766).symm.trans ((elI_eq (h6760.2 (c + 13) (by rw [kC_at (k := 13) (by decide)]; decide))).trans f6757))
          refine m_aload_n F rfl e_X10_canTake_49 ?_
          refine r_get F e_X10_canTake_50 fl_X10_49 h6761 rfl (fun v hv f6767 => ?_)
          obtain rfl : v = .ref (c + 14) := hv
          refine m_iload_n F rfl e_X10_canTake_53 ?_
          refine r_iald F (len := 8) (j := n6743) e_X10_canTake_54 h6761 (fun _ h => h) (by decide) (nI_clamp (by omega)) (vp_in_nI (by omega) (by decide)) (fun x6768 h6769 f6770 => ?_)
          obtain ⟨n6771, hn6771, rfl⟩ := h6769
          refine r_callV F e_X10_canTake_55 (q_X10_canBeLonger (x_l X) V c T Z u h P L _ _ n6758 n6771 h6761.1 (hob) hP (by omega) (by omega)) cb_X10_canBeLonger ml_X10_306 im_X10_canBeLonger se_X10_canBeLonger h6761 rfl rfl (rest := []) rfl (Nat.le_of_ble_eq_true rfl) ⟨Nat.le_of_ble_eq_true rfl, Nat.le_of_ble_eq_true rfl⟩ ⟨Nat.le_of_ble_eq_true rfl, Nat.le_of_ble_eq_true rfl⟩ (fun r σ6772 hp => ?_)
          obtain ⟨h6773, c6775⟩ := hp
          have h6774 := HS.trans h6761 h6773 (by decide)
          rcases c6775 with rfl | ⟨h6776, rfl⟩
          · refine m_if_eq F e_X10_canTake_58 (fun _ => ?_) (fun q => absurd (by decide) q)
            refine m_iconst F (v := 0) (by decide) e_X10_canTake_65 ?_
            exact m_zret F hQ e_X10_canTake_66 (by decide) (⟨h6774, Or.inl rfl⟩)
          · refine m_if_eq F e_X10_canTake_58 (fun q => absurd q (by decide)) (fun _ => ?_)
            refine m_iconst F (v := 1) (by decide) e_X10_canTake_61 ?_
            refine m_goto F e_X10_canTake_62 ?_
            exact m_zret F hQ e_X10_canTake_66 (by decide) (⟨h6774, Or.inr ⟨n6743, n6758, n6771, by omega, by omega, by omega, by omega, by omega, (elI_eq (h6773.2 (c + 13) (by rw [kC_at (k := 13) (by decide)]; decide))).trans ((elI_eq (h6760.2 (c + 13) (by rw [kC_at (k := 13) (by decide)]; decide))).trans f6757), (elI_eq (h6773.2 (c + 14) (by rw [kC_at (k := 14) (by decide)]; decide))).trans f6770, rfl, rfl⟩⟩)
set_option maxRecDepth 20000 in
theorem q_X10_takes (l : Launch) (V : VX) (c T Z u h : Nat) (P : NP) (L : Nat → LQ) (N : Nat) (σ : Mem) (n901 : Nat) (n m : Nat) (h0 : HR V c ⟨T, Z, u, h, P, L⟩ σ) (hok : OKL P.n0 L) (hP : OKP P) (hn901 : n901 ≤ 3) (hp0 : n ≤ 3) (hp1 : m ≤ 24) (hp2 : (L n).1 = 1) (hp3 : (L n).2.1 + m ≤ 72) (hp4 : elI σ (c + 13) n901 = some (nI n)) (hp5 : elI σ (c + 14) n901 = some (nI m)) : Ct l V yX10_takes cX10_takes 3 (some .long) 3 0 0 N σ [.ref c, .int (nI n901)] (fun r τ => ∃ L9, OKL P.n0 L9 ∧ HS V c (⟨T, Z, u, h, P, L9⟩ : RG) [0, 1, 2, 3, 4, 5, 6, 7, 8, 9, 10, 11, 12, 13, 14, 15, 16, 18, 19, 20, 21, 22] σ τ ∧ ∃ x : Int64, r = some (.long x)) := by
  refine Ct.of (by decide) (Nat.le_of_ble_eq_true rfl) [(0, .ref c), (1, .int (nI n901))] rfl (fun X hX F hQ => ?_)
  have hPP := hP
  unfold OKP at hPP
  have h1 : HS V c ⟨T, Z, u, h, P, L⟩ [0, 1, 2, 3, 4, 5, 6, 7, 8, 9, 10, 11, 12, 13, 14, 15, 16, 18, 19, 20, 21, 22] σ σ := HS.start h0
  refine m_aload_n F rfl e_X10_takes_0 ?_
  refine r_get F e_X10_takes_1 fl_X10_46 h1 rfl (fun v hv f6777 => ?_)
  obtain rfl : v = .ref (c + 13) := hv
  refine m_iload_n F rfl e_X10_takes_4 ?_
  refine r_iald F (len := 8) (j := n901) e_X10_takes_5 h1 (fun _ h => h) (by decide) (nI_clamp (by omega)) (vp_in_nI (by omega) (by decide)) (fun x6778 h6779 f6780 => ?_)
  obtain rfl := Option.some.inj ((f6780).symm.trans (hp4))
  refine m_istore_n F (lv' := [(2, .int (nI n)), (0, .ref c), (1, .int (nI n901))]) e_X10_takes_6 (by decide) rfl ?_
  refine m_aload_n F rfl e_X10_takes_7 ?_
  refine r_get F e_X10_takes_8 fl_X10_59 h1 rfl (fun v hv f6781 => ?_)
  obtain rfl : v = .ref (c + 16) := hv
  refine m_sipush F (v := 640) (by decide) e_X10_takes_11 ?_
  refine m_iload_n F rfl e_X10_takes_14 ?_
  refine m_iadd F e_X10_takes_15 ?_
  refine Wm.topE (w := nI (640 + n901)) (nI_add 640 n901) ?_
  refine m_lconst F (v := 1) (by decide) e_X10_takes_16 ?_
  refine r_sst F (g' := (⟨T, Z, u, h, P, L⟩ : RG)) (j := 640 + n901) e_X10_takes_17 h1 (by decide) (nI_clamp (by omega)) (vp_in_nI (by omega) (by decide)) (fun f q => EJ_same (EJ_w (by omega)) q) (fun _ _ _ q => q) (fun σ6782 h6783 g6784 => ?_)
  refine m_aload_n F rfl e_X10_takes_18 ?_
  refine m_iload_n F rfl e_X10_takes_19 ?_
  refine m_aload_n F rfl e_X10_takes_20 ?_
  refine r_get F e_X10_takes_21 fl_X10_49 h6783 rfl (fun v hv f6785 => ?_)
  obtain rfl : v = .ref (c + 14) := hv
  refine m_iload_n F rfl e_X10_takes_24 ?_
  refine r_iald F (len := 8) (j := n901) e_X10_takes_25 h6783 (fun _ h => h) (by decide) (nI_clamp (by omega)) (vp_in_nI (by omega) (by decide)) (fun x6786 h6787 f6788 => ?_)
  obtain rfl := Option.some.inj ((f6788).symm.trans ((elI_eq (g6784 _ (by omega))).trans hp5))
  refine m_aload_n F rfl e_X10_takes_26 ?_
  refine r_get F e_X10_takes_27 fl_X10_52 h6783 rfl (fun v hv f6789 => ?_)
  obtain rfl : v = .ref (c + 15) := hv
  refine m_iload_n F rfl e_X10_takes_30 ?_
  refine r_iald F (len := 8) (j := n901) e_X10_takes_31 h6783 (fun _ h => h) (by decide) (nI_clamp (by omega)) (vp_in_nI (by omega) (by decide)) (fun x6790 h6791 f6792 => ?_)
  refine m_i2l F e_X10_takes_32 ?_
  refine Wm.topl (fun x6793 _ => ?_)
  refine m_aload_n F rfl e_X10_takes_33 ?_
  refine r_getC F e_X10_takes_34 fl_X10_52 h6783 (f6789) ?_
  refine m_iload_n F rfl e_X10_takes_37 ?_
  refine r_iald F (len := 8) (j := n901) e_X10_takes_38 h6783 (fun _ h => h) (by decide) (nI_clamp (by omega)) (vp_in_nI (by omega) (by decide)) (fun x6794 h6795 f6796 => ?_)
  obtain rfl := Option.some.inj ((f6796).symm.trans (f6792))
  refine m_i2l F e_X10_takes_39 ?_
  refine Wm.topl (fun x6797 _ => ?_)
  refine r_callV F e_X10_takes_40 (q_X10_adds (x_l X) V c T Z u h P L _ _ n m x6793 x6797 h6783.1 (hok) hP (by omega) (by omega) (by first | omega | assumption | decide)) cb_X10_adds ml_X10_309 im_X10_adds se_X10_adds h6783 rfl rfl (rest := []) rfl (Nat.le_of_ble_eq_true rfl) ⟨Nat.le_of_ble_eq_true rfl, Nat.le_of_ble_eq_true rfl⟩ ⟨Nat.le_of_ble_eq_true rfl, Nat.le_of_ble_eq_true rfl⟩ (fun r σ6798 hp => ?_)
  obtain ⟨L6801, okL6801, r6802, r6803, r6804, h6799, rfl⟩ := hp
  have h6800 := HS.trans h6783 h6799 (by decide)
  refine m_aload_n F rfl e_X10_takes_43 ?_
  refine m_iload_n F rfl e_X10_takes_44 ?_
  refine r_callV F e_X10_takes_45 (q_X10_isTied (x_l X) V c T Z u h P L6801 _ _ n h6800.1 (okL6801.b) hP (by omega)) cb_X10_isTied ml_X10_270 im_X10_isTied se_X10_isTied h6800 rfl rfl (rest := []) rfl (Nat.le_of_ble_eq_true rfl) ⟨Nat.le_of_ble_eq_true rfl, Nat.le_of_ble_eq_true rfl⟩ ⟨Nat.le_of_ble_eq_true rfl, Nat.le_of_ble_eq_true rfl⟩ (fun r σ6805 hp => ?_)
  obtain ⟨h6806, n6808, hn6808, rfl⟩ := hp
  have h6807 := HS.trans h6800 h6806 (by decide)
  refine m_if_eq F e_X10_takes_48 (fun q48 => ?_) (fun q48 => ?_)
  · have c48 : n6808 = 0 := (nI_eq (a := n6808) (b := 0) (by omega) (by omega)).mp q48
    refine m_aload_n F rfl e_X10_takes_60 ?_
    refine m_iload_n F rfl e_X10_takes_61 ?_
    refine r_callV F e_X10_takes_62 (q_X10_remeasures (x_l X) V c T Z u h P L6801 _ _ n h6807.1 (okL6801.b) hP (by omega)) cb_X10_remeasures ml_X10_277 im_X10_remeasures se_X10_remeasures h6807 rfl rfl (rest := []) rfl (Nat.le_of_ble_eq_true rfl) ⟨Nat.le_of_ble_eq_true rfl, Nat.le_of_ble_eq_true rfl⟩ ⟨Nat.le_of_ble_eq_true rfl, Nat.le_of_ble_eq_true rfl⟩ (fun r σ6809 hp => ?_)
    obtain ⟨h6810, x6812, rfl⟩ := hp
    have h6811 := HS.trans h6807 h6810 (by decide)
    exact m_lret F hQ e_X10_takes_65 (⟨L6801, okL6801, h6811, _, rfl⟩)
  · have c48 : n6808 ≠ 0 := by have hh := mt (nI_eq (a := n6808) (b := 0) (by omega) (by omega)).mpr q48; omega
    have hl6813 := okL6801.2 n (by omega)
    have hl6814 := okL6801.2 n (by omega)
    have hl6815 := okL6801.2 n (by omega)
    refine m_aload_n F rfl e_X10_takes_51 ?_
    refine m_iload_n F rfl e_X10_takes_52 ?_
    refine m_aload_n F rfl e_X10_takes_53 ?_
    refine r_callV F e_X10_takes_54 (q_X10_indexNow (x_l X) V c T Z u h P L6801 _ _  h6807.1 (okL6801.b) hP ) cb_X10_indexNow ml_X10_260 im_X10_indexNow se_X10_indexNow h6807 rfl rfl (rest := [.int (nI n), .ref c]) rfl (Nat.le_of_ble_eq_true rfl) ⟨Nat.le_of_ble_eq_true rfl, Nat.le_of_ble_eq_true rfl⟩ ⟨Nat.le_of_ble_eq_true rfl, Nat.le_of_ble_eq_true rfl⟩ (fun r σ6816 hp => ?_)
    obtain ⟨h6817, n6819, hn6819, gn6819, rfl⟩ := hp
    have h6818 := HS.trans h6807 h6817 (by decide)
    refine r_callV F e_X10_takes_57 (q_X10_indexes (x_l X) V c T Z u h P L6801 _ _ n n6819 h6818.1 (okL6801.b) hP (by omega) (by omega) (by first | omega | assumption | decide)) cb_X10_indexes ml_X10_273 im_X10_indexes se_X10_indexes h6818 rfl rfl (rest := []) rfl (Nat.le_of_ble_eq_true rfl) ⟨Nat.le_of_ble_eq_true rfl, Nat.le_of_ble_eq_true rfl⟩ ⟨Nat.le_of_ble_eq_true rfl, Nat.le_of_ble_eq_true rfl⟩ (fun r σ6820 hp => ?_)
    obtain ⟨h6821, rfl⟩ := hp
    have h6822 := HS.trans h6818 h6821 (by decide)
    refine m_aload_n F rfl e_X10_takes_60 ?_
    refine m_iload_n F rfl e_X10_takes_61 ?_
    refine r_callV F e_X10_takes_62 (q_X10_remeasures (x_l X) V c T Z u h P L6801 _ _ n h6822.1 (okL6801.b) hP (by omega)) cb_X10_remeasures ml_X10_277 im_X10_remeasures se_X10_remeasures h6822 rfl rfl (rest := []) rfl (Nat.le_of_ble_eq_true rfl) ⟨Nat.le_of_ble_eq_true rfl, Nat.le_of_ble_eq_true rfl⟩ ⟨Nat.le_of_ble_eq_true rfl, Nat.le_of_ble_eq_true rfl⟩ (fun r σ6823 hp => ?_)
    obtain ⟨h6824, x6826, rfl⟩ := hp
    have h6825 := HS.trans h6822 h6824 (by decide)
    exact m_lret F hQ e_X10_takes_65 (⟨L6801, okL6801, h6825, _, rfl⟩)
set_option maxRecDepth 20000 in
theorem q_X10_take (l : Launch) (V : VX) (c T Z u h : Nat) (P : NP) (L : Nat → LQ) (N : Nat) (σ : Mem) (x901 : Int32) (h0 : HR V c ⟨T, Z, u, h, P, L⟩ σ) (hok : OKL P.n0 L) (hP : OKP P) (hp0 : u ≤ 20) (hp1 : P.kk = P.n0) : Ct l V yX10_take cX10_take 2 (some .long) 4 0 0 N σ [.ref c, .int x901] (fun r τ => ∃ u9, u9 ≤ 20 ∧ ∃ L9, OKL P.n0 L9 ∧ HS V c (⟨T, Z, u9, h, P, L9⟩ : RG) [0, 2, 3, 4, 5, 6, 7, 8, 9, 10, 11, 12, 13, 14, 15, 16, 18, 19, 20, 22] σ τ ∧ ∃ x : Int64, r = some (.long x)) := by
  refine Ct.of (by decide) (Nat.le_of_ble_eq_true rfl) [(0, .ref c), (1, .int x901)] rfl (fun X hX F hQ => ?_)
  have hPP := hP
  unfold OKP at hPP
  have h1 : HS V c ⟨T, Z, u, h, P, L⟩ [0, 2, 3, 4, 5, 6, 7, 8, 9, 10, 11, 12, 13, 14, 15, 16, 18, 19, 20, 22] σ σ := HS.start h0
  refine m_aload_n F rfl e_X10_take_0 ?_
  refine m_iconst F (v := 0) (by decide) e_X10_take_1 ?_
  refine r_put F (g' := (⟨T, Z, u, h, P, L⟩ : RG)) e_X10_take_2 fp_X10_91 h1 (by decide) ⟨_, rfl⟩ (fun _ _ _ _ q => q) (fun _ _ _ q => q) rfl rfl (by decide) (fun σ6827 h6828 g6829 g6830 f6831 => ?_)
  refine m_aload_n F rfl e_X10_take_5 ?_
  refine m_iload_n F rfl e_X10_take_6 ?_
  refine r_callV F e_X10_take_7 (q_X10_canTake (x_l X) V c T Z u h P L _ _ x901 h6828.1 (hok.b) hP ) cb_X10_canTake ml_X10_313 im_X10_canTake se_X10_canTake h6828 rfl rfl (rest := []) rfl (Nat.le_of_ble_eq_true rfl) ⟨Nat.le_of_ble_eq_true rfl, Nat.le_of_ble_eq_true rfl⟩ ⟨Nat.le_of_ble_eq_true rfl, Nat.le_of_ble_eq_true rfl⟩ (fun r σ6832 hp => ?_)
  obtain ⟨h6833, c6835⟩ := hp
  have h6834 := HS.trans h6828 h6833 (by decide)
  rcases c6835 with rfl | ⟨n6836, n6837, n6838, h6839, h6840, h6841, h6842, h6843, f6844, f6845, e6846, rfl⟩
  · refine m_if_ne F e_X10_take_10 (fun q => absurd (by decide) q) (fun _ => ?_)
    refine m_ldc2 F kc_X10_299 e_X10_take_13 ?_
    exact m_lret F hQ e_X10_take_16 (⟨u, by omega, L, hok, h6834, _, rfl⟩)
  · subst e6846
    refine m_if_ne F e_X10_take_10 (fun _ => ?_) (fun q => absurd q (by decide))
    refine m_aload_n F rfl e_X10_take_17 ?_
    refine r_callV F e_X10_take_18 (q_X10_remembers (x_l X) V c T Z u h P L _ _  h6834.1 (hok) hP (by first | omega | assumption | decide) (by first | omega | assumption | decide)) cb_X10_remembers ml_X10_286 im_X10_remembers se_X10_remembers h6834 rfl rfl (rest := []) rfl (Nat.le_of_ble_eq_true rfl) ⟨Nat.le_of_ble_eq_true rfl, Nat.le_of_ble_eq_true rfl⟩ ⟨Nat.le_of_ble_eq_true rfl, Nat.le_of_ble_eq_true rfl⟩ (fun r σ6847 hp => ?_)
    obtain ⟨u6850, hu6850, h6848, rfl⟩ := hp
    have h6849 := HS.trans h6834 h6848 (by decide)
    refine m_aload_n F rfl e_X10_take_21 ?_
    refine m_iload_n F rfl e_X10_take_22 ?_
    refine r_callV F e_X10_take_23 (q_X10_takes (x_l X) V c T Z u6850 h P L _ _ n6836 n6837 n6838 h6849.1 hok hP (by omega) (by omega) (by omega) (by omega) (by omega) ((elI_eq (h6848.2 (c + 13) (by rw [kC_at (k := 13) (by decide)]; decide))).trans f6844) ((elI_eq (h6848.2 (c + 14) (by rw [kC_at (k := 14) (by decide)]; decide))).trans f6845)) cb_X10_takes ml_X10_316 im_X10_takes se_X10_takes h6849 rfl rfl (rest := []) rfl (Nat.le_of_ble_eq_true rfl) ⟨Nat.le_of_ble_eq_true rfl, Nat.le_of_ble_eq_true rfl⟩ ⟨Nat.le_of_ble_eq_true rfl, Nat.le_of_ble_eq_true rfl⟩ (fun r σ6851 hp => ?_)
    obtain ⟨L6855, okL6855, h6852, x6854, rfl⟩ := hp
    have h6853 := HS.trans h6849 h6852 (by decide)
    exact m_lret F hQ e_X10_take_26 (⟨u6850, by omega, L6855, okL6855, h6853, _, rfl⟩)
set_option maxRecDepth 20000 in
theorem q_X10_ifTaken (l : Launch) (V : VX) (c T Z u h : Nat) (P : NP) (L : Nat → LQ) (N : Nat) (σ : Mem) (x901 : Int32) (h0 : HR V c ⟨T, Z, u, h, P, L⟩ σ) (hok : OKL P.n0 L) (hP : OKP P)  : Ct l V yX10_ifTaken cX10_ifTaken 4 (some .long) 4 0 0 N σ [.ref c, .int x901] (fun r τ => HS V c (⟨T, Z, u, h, P, L⟩ : RG) [0, 2, 3, 4, 5, 6, 7, 8, 9, 10, 11, 12, 13, 14, 15, 16, 19, 20, 21, 22] σ τ ∧ ∃ x : Int64, r = some (.long x)) := by
  refine Ct.of (by decide) (Nat.le_of_ble_eq_true rfl) [(0, .ref c), (1, .int x901)] rfl (fun X hX F hQ => ?_)
  have hPP := hP
  unfold OKP at hPP
  have h1 : HS V c ⟨T, Z, u, h, P, L⟩ [0, 2, 3, 4, 5, 6, 7, 8, 9, 10, 11, 12, 13, 14, 15, 16, 19, 20, 21, 22] σ σ := HS.start h0
  refine m_aload_n F rfl e_X10_ifTaken_0 ?_
  refine m_iconst F (v := 0) (by decide) e_X10_ifTaken_1 ?_
  refine r_put F (g' := (⟨T, Z, u, h, P, L⟩ : RG)) e_X10_ifTaken_2 fp_X10_91 h1 (by decide) ⟨_, rfl⟩ (fun _ _ _ _ q => q) (fun _ _ _ q => q) rfl rfl (by decide) (fun σ6856 h6857 g6858 g6859 f6860 => ?_)
  refine m_aload_n F rfl e_X10_ifTaken_5 ?_
  refine m_iload_n F rfl e_X10_ifTaken_6 ?_
  refine r_callV F e_X10_ifTaken_7 (q_X10_canTake (x_l X) V c T Z u h P L _ _ x901 h6857.1 (hok.b) hP ) cb_X10_canTake ml_X10_313 im_X10_canTake se_X10_canTake h6857 rfl rfl (rest := []) rfl (Nat.le_of_ble_eq_true rfl) ⟨Nat.le_of_ble_eq_true rfl, Nat.le_of_ble_eq_true rfl⟩ ⟨Nat.le_of_ble_eq_true rfl, Nat.le_of_ble_eq_true rfl⟩ (fun r σ6861 hp => ?_)
  obtain ⟨h6862, c6864⟩ := hp
  have h6863 := HS.trans h6857 h6862 (by decide)
  rcases c6864 with rfl | ⟨n6865, n6866, n6867, h6868, h6869, h6870, h6871, h6872, f6873, f6874, e6875, rfl⟩
  · refine m_if_ne F e_X10_ifTaken_10 (fun q => absurd (by decide) q) (fun _ => ?_)
    refine m_ldc2 F kc_X10_299 e_X10_ifTaken_13 ?_
    exact m_lret F hQ e_X10_ifTaken_16 (⟨h6863, _, rfl⟩)
  · subst e6875
    refine m_if_ne F e_X10_ifTaken_10 (fun _ => ?_) (fun q => absurd q (by decide))
    refine m_aload_n F rfl e_X10_ifTaken_17 ?_
    refine r_get F e_X10_ifTaken_18 fl_X10_59 h6863 rfl (fun v hv f6876 => ?_)
    obtain rfl : v = .ref (c + 16) := hv
    refine m_iconst F (v := 0) (by decide) e_X10_ifTaken_21 ?_
    refine m_aload_n F rfl e_X10_ifTaken_22 ?_
    refine r_get F e_X10_ifTaken_23 fl_X10_63 h6863 rfl (fun v hv f6877 => ?_)
    obtain rfl : v = .ref (c + 17) := hv
    refine m_iconst F (v := 0) (by decide) e_X10_ifTaken_26 ?_
    obtain ⟨f6878, e6879, te6879⟩ : ∃ f, σ6861 (c + 16) = some (aJ V 1113 f) ∧ ∀ i, i < 1113 → EJ L i (f i) := h6863.1.cell (k := 16) (by decide)
    obtain ⟨g6880, e6881⟩ : ∃ f, σ6861 (c + 17) = some (aJ V 1113 f) := h6863.1.cell (k := 17) (by decide)
    refine m_callS F e_X10_ifTaken_27 (q_copies (x_l X) V _ _ (c + 16) (c + 17) 1113 1113 0 0 f6878 g6880 e6879 e6881 (by omega) (by omega) (by omega) (by omega)) cb_X10_copies ml_X10_230 sm_X10_copies rfl (rest := []) rfl (Nat.le_of_ble_eq_true rfl) ⟨Nat.le_of_ble_eq_true rfl, Nat.le_of_ble_eq_true rfl⟩ ⟨Nat.le_of_ble_eq_true rfl, Nat.le_of_ble_eq_true rfl⟩ (k' := 0) (z' := 0) (N' := N) rfl rfl rfl (fun r σ6882 hp => ?_)
    obtain ⟨p6883, rfl⟩ := hp
    have h6884 := HS.cp (k := 17) (g' := (⟨T, Z, u, h, P, L⟩ : RG)) h6863 p6883 (by decide) (by decide) ⟨_, rfl⟩ (fun _ _ _ q => q)
    have ga6885 : GB V c 17 1113 0 L σ6882 := ⟨_, p6883.1, fun i hi => by rw [show 0 + i = i from Nat.zero_add i, cpy_at0 hi, Nat.zero_add]; exact te6879 i hi⟩
    refine m_aload_n F rfl e_X10_ifTaken_30 ?_
    refine m_iload_n F rfl e_X10_ifTaken_31 ?_
    refine r_callV F e_X10_ifTaken_32 (q_X10_takes (x_l X) V c T Z u h P L _ _ n6865 n6866 n6867 h6884.1 hok hP (by omega) (by omega) (by omega) (by omega) (by omega) ((elI_eq (p6883.2 _ (by omega))).trans f6873) ((elI_eq (p6883.2 _ (by omega))).trans f6874)) cb_X10_takes ml_X10_316 im_X10_takes se_X10_takes h6884 rfl rfl (rest := []) rfl (Nat.le_of_ble_eq_true rfl) ⟨Nat.le_of_ble_eq_true rfl, Nat.le_of_ble_eq_true rfl⟩ ⟨Nat.le_of_ble_eq_true rfl, Nat.le_of_ble_eq_true rfl⟩ (fun r σ6886 hp => ?_)
    obtain ⟨L6890, okL6890, h6887, x6889, rfl⟩ := hp
    have h6888 := HS.trans h6884 h6887 (by decide)
    have ga6891 := ga6885.of (h6887.2 (c + 17) (by rw [kC_at (k := 17) (by decide)]; decide))
    refine m_lstore_n F (lv' := [(2, .long x6889), (0, .ref c), (1, .int (nI n6865))]) e_X10_ifTaken_35 (by decide) rfl ?_
    refine m_aload_n F rfl e_X10_ifTaken_36 ?_
    refine r_callV F e_X10_ifTaken_37 (q_X10_back1 (x_l X) V c T Z u h P L6890 _ _ L h6888.1 (okL6890.b) hP ga6891) cb_X10_back1 ml_X10_332 im_X10_back1 se_X10_back1 h6888 rfl rfl (rest := []) rfl (Nat.le_of_ble_eq_true rfl) ⟨Nat.le_of_ble_eq_true rfl, Nat.le_of_ble_eq_true rfl⟩ ⟨Nat.le_of_ble_eq_true rfl, Nat.le_of_ble_eq_true rfl⟩ (fun r σ6892 hp => ?_)
    obtain ⟨h6893, rfl⟩ := hp
    have h6894 := HS.trans h6888 h6893 (by decide)
    have ga6895 := ga6891.of (h6893.2 (c + 17) (by rw [kC_at (k := 17) (by decide)]; decide))
    refine m_lload_n F rfl e_X10_ifTaken_40 ?_
    exact m_lret F hQ e_X10_ifTaken_41 (⟨h6894, _, rfl⟩)
set_option maxRecDepth 20000 in
theorem lq_X10_takesAll_2 {V : VX} {X : MX} {N : Nat} {σ : Mem} {c T Z u h : Nat} {P : NP} {L : Nat → LQ}  {n901 : Nat} {x902 : Int32} (F : Fx V X yX10_takesAll cX10_takesAll 4 (some .boolean) (rmd 4 0 0)) (hQ : Rt V X 0 0 N (fun r τ => ∃ L9, OKL P.n0 L9 ∧ HS V c (⟨T, Z, u, h, P, L9⟩ : RG) [0, 1, 2, 3, 4, 5, 6, 7, 8, 9, 10, 11, 12, 13, 14, 15, 16, 18, 19, 20, 21, 22] σ τ ∧ ∃ n : Nat, n ≤ 1 ∧ r = some (.int (nI n)))) (hok : OKL P.n0 L) (hP : OKP P) (hn901 : n901 ≤ 3)  : ∀ (fuel : Nat) (i : Nat) (L1 : Nat → LQ) (τ : Mem), HS V c (⟨T, Z, u, h, P, L1⟩ : RG) [0, 1, 2, 3, 4, 5, 6, 7, 8, 9, 10, 11, 12, 13, 14, 15, 16, 18, 19, 20, 21, 22] σ τ → OKL P.n0 L1 → i ≤ 4 → 4 - i < fuel → Wm V X 4 N τ 0 0 2 [(0, .ref c), (1, .int (nI n901)), (2, .int x902), (3, .int (nI i))] [] := by
  intro fuel
  induction fuel with
  | zero => intros; rename_i hm; exact absurd hm (Nat.not_lt_zero _)
  | succ fuel ih =>
    intro i L1 τ h1 hok1 hi hm
    have hPP := hP
    unfold OKP at hPP
    refine m_iload_n F rfl e_X10_takesAll_2 ?_
    refine m_aload_n F rfl e_X10_takesAll_3 ?_
    refine r_get F e_X10_takesAll_4 fl_X10_13 h1 rfl (fun v hv f6896 => ?_)
    obtain rfl : v = .ref (c + 2) := hv
    refine m_iconst F (v := 3) (by decide) e_X10_takesAll_7 ?_
    refine r_iald F (len := 10) (j := 3) e_X10_takesAll_8 h1 (fun _ h => h) (by decide) (by decide) (by unfold vp_in; decide) (fun x6897 h6898 f6899 => ?_)
    obtain ⟨n6900, hn6900, rfl⟩ := h6898.2.2.2.2.1 rfl
    refine m_icmp_ge F e_X10_takesAll_9 (fun q9 => ?_) (fun q9 => ?_)
    · have c9 : i ≥ n6900 := (nI_leI (a := n6900) (b := i) (by omega) (by omega)).mp q9
      refine m_iconst F (v := 1) (by decide) e_X10_takesAll_55 ?_
      exact m_zret F hQ e_X10_takesAll_56 (by decide) (⟨L1, hok1, h1, 1, by omega, rfl⟩)
    · have c9 : i < n6900 := by have hh := mt (nI_leI (a := n6900) (b := i) (by omega) (by omega)).mpr q9; omega
      refine m_iload_n F rfl e_X10_takesAll_12 ?_
      refine m_iload_n F rfl e_X10_takesAll_13 ?_
      refine m_ishr F e_X10_takesAll_14 ?_
      refine Wm.top (fun x6901 _ => ?_)
      refine m_iconst F (v := 1) (by decide) e_X10_takesAll_15 ?_
      refine m_iand F e_X10_takesAll_16 ?_
      refine Wm.top (fun x6902 _ => ?_)
      refine m_if_ne F e_X10_takesAll_17 (fun q17 => ?_) (fun q17 => ?_)
      · refine m_aload_n F rfl e_X10_takesAll_23 ?_
        refine r_get F e_X10_takesAll_24 fl_X10_46 h1 rfl (fun v hv f6903 => ?_)
        obtain rfl : v = .ref (c + 13) := hv
        refine m_iload_n F rfl e_X10_takesAll_27 ?_
        refine r_iald F (len := 8) (j := i) e_X10_takesAll_28 h1 (fun _ h => h) (by decide) (nI_clamp (by omega)) (vp_in_nI (by omega) (by decide)) (fun x6904 h6905 f6906 => ?_)
        obtain ⟨n6907, hn6907, rfl⟩ := h6905
        refine m_iload_n F rfl e_X10_takesAll_29 ?_
        refine m_icmp_ne F e_X10_takesAll_30 (fun q30 => ?_) (fun q30 => ?_)
        · have c30 : n6907 ≠ n901 := by have hh := mt (nI_eq (a := n6907) (b := n901) (by omega) (by omega)).mpr q30; omega
          refine m_iconst F (v := 0) (by decide) e_X10_takesAll_41 ?_
          exact m_zret F hQ e_X10_takesAll_42 (by decide) (⟨L1, hok1, h1, 0, by omega, rfl⟩)
        · have c30 : n6907 = n901 := (nI_eq (a := n6907) (b := n901) (by omega) (by omega)).mp q30
          refine m_aload_n F rfl e_X10_takesAll_33 ?_
          refine m_iload_n F rfl e_X10_takesAll_34 ?_
          refine r_callV F e_X10_takesAll_35 (q_X10_canTake (x_l X) V c T Z u h P L1 _ _ (nI i) h1.1 (hok1.b) hP ) cb_X10_canTake ml_X10_313 im_X10_canTake se_X10_canTake h1 rfl rfl (rest := []) rfl (Nat.le_of_ble_eq_true rfl) ⟨Nat.le_of_ble_eq_true rfl, Nat.le_of_ble_eq_true rfl⟩ ⟨Nat.le_of_ble_eq_true rfl, Nat.le_of_ble_eq_true rfl⟩ (fun r σ6908 hp => ?_)
          obtain ⟨h6909, c6911⟩ := hp
          have h6910 := HS.trans h1 h6909 (by decide)
          rcases c6911 with rfl | ⟨n6912, n6913, n6914, h6915, h6916, h6917, h6918, h6919, f6920, f6921, e6922, rfl⟩
          · refine m_if_ne F e_X10_takesAll_38 (fun q => absurd (by decide) q) (fun _ => ?_)
            refine m_iconst F (v := 0) (by decide) e_X10_takesAll_41 ?_
            exact m_zret F hQ e_X10_takesAll_42 (by decide) (⟨L1, hok1, h6910, 0, by omega, rfl⟩)
          · have ge6922 := nI_inj (by omega) (by omega) e6922
            subst ge6922
            refine m_if_ne F e_X10_takesAll_38 (fun _ => ?_) (fun q => absurd q (by decide))
            refine m_aload_n F rfl e_X10_takesAll_43 ?_
            refine m_iload_n F rfl e_X10_takesAll_44 ?_
            refine r_callV F e_X10_takesAll_45 (q_X10_takes (x_l X) V c T Z u h P L1 _ _ i n6913 n6914 h6910.1 hok1 hP (by omega) (by omega) (by omega) (by omega) (by omega) (f6920) (f6921)) cb_X10_takes ml_X10_316 im_X10_takes se_X10_takes h6910 rfl rfl (rest := []) rfl (Nat.le_of_ble_eq_true rfl) ⟨Nat.le_of_ble_eq_true rfl, Nat.le_of_ble_eq_true rfl⟩ ⟨Nat.le_of_ble_eq_true rfl, Nat.le_of_ble_eq_true rfl⟩ (fun r σ6923 hp => ?_)
            obtain ⟨L6927, okL6927, h6924, x6926, rfl⟩ := hp
            have h6925 := HS.trans h6910 h6924 (by decide)
            refine m_pop2_2 F rfl e_X10_takesAll_48 ?_
            refine m_iinc F (v := nI (i + 1)) (lv' := [(3, .int (nI (i + 1))), (0, .ref c), (1, .int (nI n901)), (2, .int x902)]) e_X10_takesAll_49 rfl (nI_add i 1) (by decide) rfl ?_
            refine m_goto F e_X10_takesAll_52 ?_
            refine Wm.lvsub (lv' := [(0, .ref c), (1, .int (nI n901)), (2, .int x902), (3, .int (nI (i + 1)))]) ?_ [1, 2, 3, 0] rfl
            exact ih (i + 1) L6927 _ h6925 okL6927 (by omega) (by omega)
      · subst q17
        refine m_goto F e_X10_takesAll_20 ?_
        refine m_iinc F (v := nI (i + 1)) (lv' := [(3, .int (nI (i + 1))), (0, .ref c), (1, .int (nI n901)), (2, .int x902)]) e_X10_takesAll_49 rfl (nI_add i 1) (by decide) rfl ?_
        refine m_goto F e_X10_takesAll_52 ?_
        refine Wm.lvsub (lv' := [(0, .ref c), (1, .int (nI n901)), (2, .int x902), (3, .int (nI (i + 1)))]) ?_ [1, 2, 3, 0] rfl
        exact ih (i + 1) L1 _ h1 hok1 (by omega) (by omega)
set_option maxRecDepth 20000 in
theorem q_X10_takesAll (l : Launch) (V : VX) (c T Z u h : Nat) (P : NP) (L : Nat → LQ) (N : Nat) (σ : Mem) (n901 : Nat) (x902 : Int32) (h0 : HR V c ⟨T, Z, u, h, P, L⟩ σ) (hok : OKL P.n0 L) (hP : OKP P) (hn901 : n901 ≤ 3) : Ct l V yX10_takesAll cX10_takesAll 4 (some .boolean) 4 0 0 N σ [.ref c, .int (nI n901), .int x902] (fun r τ => ∃ L9, OKL P.n0 L9 ∧ HS V c (⟨T, Z, u, h, P, L9⟩ : RG) [0, 1, 2, 3, 4, 5, 6, 7, 8, 9, 10, 11, 12, 13, 14, 15, 16, 18, 19, 20, 21, 22] σ τ ∧ ∃ n : Nat, n ≤ 1 ∧ r = some (.int (nI n))) := by
  refine Ct.of (by decide) (Nat.le_of_ble_eq_true rfl) [(0, .ref c), (1, .int (nI n901)), (2, .int x902)] rfl (fun X hX F hQ => ?_)
  have hPP := hP
  unfold OKP at hPP
  have h1 : HS V c ⟨T, Z, u, h, P, L⟩ [0, 1, 2, 3, 4, 5, 6, 7, 8, 9, 10, 11, 12, 13, 14, 15, 16, 18, 19, 20, 21, 22] σ σ := HS.start h0
  refine m_iconst F (v := 0) (by decide) e_X10_takesAll_0 ?_
  refine m_istore_n F (lv' := [(3, .int 0), (0, .ref c), (1, .int (nI n901)), (2, .int x902)]) e_X10_takesAll_1 (by decide) rfl ?_
  refine Wm.lvsub (lv' := [(0, .ref c), (1, .int (nI n901)), (2, .int x902), (3, .int 0)]) ?_ [1, 2, 3, 0] rfl
  exact lq_X10_takesAll_2 F hQ hok hP hn901 (4 - 0 + 1) 0 L _ h1 hok (by omega) (Nat.lt_succ_self _)
set_option maxRecDepth 20000 in
theorem lq_X10_choose_37 {V : VX} {X : MX} {N : Nat} {σ : Mem} {c T Z u h : Nat} {P : NP} {L : Nat → LQ}   (F : Fx V X yX10_choose cX10_choose 13 (some .int) (rmd 5 0 0)) (hQ : Rt V X 0 0 N (fun r τ => HS V c (⟨T, Z, u, h, P, L⟩ : RG) [0, 2, 3, 4, 5, 6, 7, 8, 9, 10, 11, 12, 13, 14, 15, 16, 19, 20, 21, 22] σ τ ∧ ∃ x : Int32, r = some (.int x))) (hok : OKL P.n0 L) (hP : OKP P)   : ∀ (fuel : Nat) (a : Nat) (b1 : Int32) (w1 : Int64) (w2 : Int64) (i : Nat) (τ : Mem), HS V c (⟨T, Z, u, h, P, L⟩ : RG) [0, 2, 3, 4, 5, 6, 7, 8, 9, 10, 11, 12, 13, 14, 15, 16, 19, 20, 21, 22] σ τ → a ≤ 3 ∧ i ≤ 16 → 16 - i < fuel → Wm V X 13 N τ 0 0 37 [(0, .ref c), (1, .int (nI a)), (2, .int b1), (3, .long w1), (5, .long w2), (7, .int (nI i))] [] := by
  intro fuel
  induction fuel with
  | zero => intros; rename_i hm; exact absurd hm (Nat.not_lt_zero _)
  | succ fuel ih =>
    intro a b1 w1 w2 i τ h1 hi hm
    have hPP := hP
    unfold OKP at hPP
    refine m_iload F rfl e_X10_choose_37 ?_
    refine m_iconst F (v := 1) (by decide) e_X10_choose_39 ?_
    refine m_aload_n F rfl e_X10_choose_40 ?_
    refine r_get F e_X10_choose_41 fl_X10_13 h1 rfl (fun v hv f6928 => ?_)
    obtain rfl : v = .ref (c + 2) := hv
    refine m_iconst F (v := 3) (by decide) e_X10_choose_44 ?_
    refine r_iald F (len := 10) (j := 3) e_X10_choose_45 h1 (fun _ h => h) (by decide) (by decide) (by unfold vp_in; decide) (fun x6929 h6930 f6931 => ?_)
    obtain ⟨n6932, hn6932, rfl⟩ := h6930.2.2.2.2.1 rfl
    obtain ⟨n6933, hn6933, en6933⟩ := shl5 (m := n6932) (by omega)
    refine m_ishl F e_X10_choose_46 ?_
    refine Wm.topE (w := nI n6933) en6933 ?_
    refine m_icmp_ge F e_X10_choose_47 (fun q47 => ?_) (fun q47 => ?_)
    · have c47 : i ≥ n6933 := (nI_leI (a := n6933) (b := i) (by omega) (by omega)).mp q47
      refine m_iload_n F rfl e_X10_choose_142 ?_
      exact m_iret F hQ e_X10_choose_143 (⟨h1, _, rfl⟩)
    · have c47 : i < n6933 := by have hh := mt (nI_leI (a := n6933) (b := i) (by omega) (by omega)).mpr q47; omega
      refine m_aload_n F rfl e_X10_choose_50 ?_
      refine r_get F e_X10_choose_51 fl_X10_59 h1 rfl (fun v hv f6934 => ?_)
      obtain rfl : v = .ref (c + 16) := hv
      refine m_iconst F (v := 0) (by decide) e_X10_choose_54 ?_
      refine m_aload_n F rfl e_X10_choose_55 ?_
      refine r_get F e_X10_choose_56 fl_X10_63 h1 rfl (fun v hv f6935 => ?_)
      obtain rfl : v = .ref (c + 17) := hv
      refine m_iconst F (v := 0) (by decide) e_X10_choose_59 ?_
      obtain ⟨f6936, e6937, te6937⟩ : ∃ f, τ (c + 16) = some (aJ V 1113 f) ∧ ∀ i, i < 1113 → EJ L i (f i) := h1.1.cell (k := 16) (by decide)
      obtain ⟨g6938, e6939⟩ : ∃ f, τ (c + 17) = some (aJ V 1113 f) := h1.1.cell (k := 17) (by decide)
      refine m_callS F e_X10_choose_60 (q_copies (x_l X) V _ _ (c + 16) (c + 17) 1113 1113 0 0 f6936 g6938 e6937 e6939 (by omega) (by omega) (by omega) (by omega)) cb_X10_copies ml_X10_230 sm_X10_copies rfl (rest := []) rfl (Nat.le_of_ble_eq_true rfl) ⟨Nat.le_of_ble_eq_true rfl, Nat.le_of_ble_eq_true rfl⟩ ⟨Nat.le_of_ble_eq_true rfl, Nat.le_of_ble_eq_true rfl⟩ (k' := 0) (z' := 0) (N' := N) rfl rfl rfl (fun r σ6940 hp => ?_)
      obtain ⟨p6941, rfl⟩ := hp
      have h6942 := HS.cp (k := 17) (g' := (⟨T, Z, u, h, P, L⟩ : RG)) h1 p6941 (by decide) (by decide) ⟨_, rfl⟩ (fun _ _ _ q => q)
      have ga6943 : GB V c 17 1113 0 L σ6940 := ⟨_, p6941.1, fun i hi => by rw [show 0 + i = i from Nat.zero_add i, cpy_at0 hi, Nat.zero_add]; exact te6937 i hi⟩
      refine m_aload_n F rfl e_X10_choose_63 ?_
      refine m_iload_n F rfl e_X10_choose_64 ?_
      refine m_iload F rfl e_X10_choose_65 ?_
      refine r_callV F e_X10_choose_67 (q_X10_takesAll (x_l X) V c T Z u h P L _ _ a (nI i) h6942.1 (hok) hP (by omega)) cb_X10_takesAll ml_X10_346 im_X10_takesAll se_X10_takesAll h6942 rfl rfl (rest := []) rfl (Nat.le_of_ble_eq_true rfl) ⟨Nat.le_of_ble_eq_true rfl, Nat.le_of_ble_eq_true rfl⟩ ⟨Nat.le_of_ble_eq_true rfl, Nat.le_of_ble_eq_true rfl⟩ (fun r σ6944 hp => ?_)
      obtain ⟨L6948, okL6948, h6945, n6947, hn6947, rfl⟩ := hp
      have h6946 := HS.trans h6942 h6945 (by decide)
      have ga6949 := ga6943.of (h6945.2 (c + 17) (by rw [kC_at (k := 17) (by decide)]; decide))
      refine m_istore F (lv' := [(8, .int (nI n6947)), (0, .ref c), (1, .int (nI a)), (2, .int b1), (3, .long w1), (5, .long w2), (7, .int (nI i))]) e_X10_choose_70 (by decide) rfl ?_
      refine m_aload_n F rfl e_X10_choose_72 ?_
      refine r_getC F e_X10_choose_73 fl_X10_59 h6946 ((fld_eq (h6945.2 c (by rw [show kC c c = 1 from kC_at (k := 0) (by decide)]; decide))).trans ((fld_eq (p6941.2 _ (by omega))).trans f6934)) ?_
      refine m_sipush F (v := 160) (by decide) e_X10_choose_76 ?_
      refine m_iload_n F rfl e_X10_choose_79 ?_
      refine m_imul F e_X10_choose_80 ?_
      refine Wm.topE (w := nI (160 * a)) (pk_mul 160 a) ?_
      refine m_bipush F (v := 6) (by decide) e_X10_choose_81 ?_
      refine m_iadd F e_X10_choose_83 ?_
      refine Wm.topE (w := nI (160 * a + 6)) (nI_add (160 * a) 6) ?_
      refine r_sld F (j := 160 * a + 6) e_X10_choose_84 h6946 (nI_clamp (by omega)) (vp_in_nI (by omega) (by decide)) (fun x6950 h6951 f6952 => ?_)
      refine m_lstore F (lv' := [(9, .long x6950), (8, .int (nI n6947)), (0, .ref c), (1, .int (nI a)), (2, .int b1), (3, .long w1), (5, .long w2), (7, .int (nI i))]) e_X10_choose_85 (by decide) rfl ?_
      refine m_aload_n F rfl e_X10_choose_87 ?_
      refine m_iload_n F rfl e_X10_choose_88 ?_
      refine r_callV F e_X10_choose_89 (q_X10_left (x_l X) V c T Z u h P L6948 _ _ a h6946.1 (okL6948.b) hP (by omega)) cb_X10_left ml_X10_257 im_X10_left se_X10_left h6946 rfl rfl (rest := []) rfl (Nat.le_of_ble_eq_true rfl) ⟨Nat.le_of_ble_eq_true rfl, Nat.le_of_ble_eq_true rfl⟩ ⟨Nat.le_of_ble_eq_true rfl, Nat.le_of_ble_eq_true rfl⟩ (fun r σ6953 hp => ?_)
      obtain ⟨h6954, x6956, rfl⟩ := hp
      have h6955 := HS.trans h6946 h6954 (by decide)
      have ga6957 := ga6949.of (h6954.2 (c + 17) (by rw [kC_at (k := 17) (by decide)]; decide))
      refine m_i2l F e_X10_choose_92 ?_
      refine Wm.topl (fun x6958 _ => ?_)
      refine m_lstore F (lv' := [(11, .long x6958), (9, .long x6950), (8, .int (nI n6947)), (0, .ref c), (1, .int (nI a)), (2, .int b1), (3, .long w1), (5, .long w2), (7, .int (nI i))]) e_X10_choose_93 (by decide) rfl ?_
      refine m_aload_n F rfl e_X10_choose_95 ?_
      refine r_callV F e_X10_choose_96 (q_X10_back1 (x_l X) V c T Z u h P L6948 _ _ L h6955.1 (okL6948.b) hP ga6957) cb_X10_back1 ml_X10_332 im_X10_back1 se_X10_back1 h6955 rfl rfl (rest := []) rfl (Nat.le_of_ble_eq_true rfl) ⟨Nat.le_of_ble_eq_true rfl, Nat.le_of_ble_eq_true rfl⟩ ⟨Nat.le_of_ble_eq_true rfl, Nat.le_of_ble_eq_true rfl⟩ (fun r σ6959 hp => ?_)
      obtain ⟨h6960, rfl⟩ := hp
      have h6961 := HS.trans h6955 h6960 (by decide)
      have ga6962 := ga6957.of (h6960.2 (c + 17) (by rw [kC_at (k := 17) (by decide)]; decide))
      refine m_iload F rfl e_X10_choose_99 ?_
      refine m_if_eq F e_X10_choose_101 (fun q101 => ?_) (fun q101 => ?_)
      · have c101 : n6947 = 0 := (nI_eq (a := n6947) (b := 0) (by omega) (by omega)).mp q101
        refine m_iinc F (v := nI (i + 1)) (lv' := [(7, .int (nI (i + 1))), (11, .long x6958), (9, .long x6950), (8, .int (nI n6947)), (0, .ref c), (1, .int (nI a)), (2, .int b1), (3, .long w1), (5, .long w2)]) e_X10_choose_136 rfl (nI_add i 1) (by decide) rfl ?_
        refine m_goto F e_X10_choose_139 ?_
        refine Wm.lvsub (lv' := [(0, .ref c), (1, .int (nI a)), (2, .int b1), (3, .long w1), (5, .long w2), (7, .int (nI (i + 1)))]) ?_ [4, 5, 6, 7, 8, 0] rfl
        exact ih a b1 w1 w2 (i + 1) _ h6961 (by omega) (by omega)
      · have c101 : n6947 ≠ 0 := by have hh := mt (nI_eq (a := n6947) (b := 0) (by omega) (by omega)).mpr q101; omega
        refine m_iload_n F rfl e_X10_choose_104 ?_
        refine m_bipush F (v := (-2)) (by decide) e_X10_choose_105 ?_
        refine m_icmp_eq F e_X10_choose_107 (fun q107 => ?_) (fun q107 => ?_)
        · subst q107
          refine m_iload F rfl e_X10_choose_126 ?_
          refine m_istore_n F (lv' := [(2, .int (nI i)), (11, .long x6958), (9, .long x6950), (8, .int (nI n6947)), (0, .ref c), (1, .int (nI a)), (3, .long w1), (5, .long w2), (7, .int (nI i))]) e_X10_choose_128 (by decide) rfl ?_
          refine m_lload F rfl e_X10_choose_129 ?_
          refine m_lstore_n F (lv' := [(3, .long x6950), (2, .int (nI i)), (11, .long x6958), (9, .long x6950), (8, .int (nI n6947)), (0, .ref c), (1, .int (nI a)), (5, .long w2), (7, .int (nI i))]) e_X10_choose_131 (by decide) rfl ?_
          refine m_lload F rfl e_X10_choose_132 ?_
          refine m_lstore F (lv' := [(5, .long x6958), (3, .long x6950), (2, .int (nI i)), (11, .long x6958), (9, .long x6950), (8, .int (nI n6947)), (0, .ref c), (1, .int (nI a)), (7, .int (nI i))]) e_X10_choose_134 (by decide) rfl ?_
          refine m_iinc F (v := nI (i + 1)) (lv' := [(7, .int (nI (i + 1))), (5, .long x6958), (3, .long x6950), (2, .int (nI i)), (11, .long x6958), (9, .long x6950), (8, .int (nI n6947)), (0, .ref c), (1, .int (nI a))]) e_X10_choose_136 rfl (nI_add i 1) (by decide) rfl ?_
          refine m_goto F e_X10_choose_139 ?_
          refine Wm.lvsub (lv' := [(0, .ref c), (1, .int (nI a)), (2, .int (nI i)), (3, .long x6950), (5, .long x6958), (7, .int (nI (i + 1)))]) ?_ [7, 8, 3, 2, 1, 0] rfl
          exact ih a (nI i) x6950 x6958 (i + 1) _ h6961 (by omega) (by omega)
        · refine m_lload F rfl e_X10_choose_110 ?_
          refine m_lload F rfl e_X10_choose_112 ?_
          refine m_lmul F e_X10_choose_114 ?_
          refine Wm.topl (fun x6963 _ => ?_)
          refine m_lload_n F rfl e_X10_choose_115 ?_
          refine m_lload F rfl e_X10_choose_116 ?_
          refine m_lmul F e_X10_choose_118 ?_
          refine Wm.topl (fun x6964 _ => ?_)
          refine m_lcmp F e_X10_choose_119 ?_
          refine Wm.top (fun x6965 _ => ?_)
          refine m_if_lt F e_X10_choose_120 (fun q120 => ?_) (fun q120 => ?_)
          · refine m_iload F rfl e_X10_choose_126 ?_
            refine m_istore_n F (lv' := [(2, .int (nI i)), (11, .long x6958), (9, .long x6950), (8, .int (nI n6947)), (0, .ref c), (1, .int (nI a)), (3, .long w1), (5, .long w2), (7, .int (nI i))]) e_X10_choose_128 (by decide) rfl ?_
            refine m_lload F rfl e_X10_choose_129 ?_
            refine m_lstore_n F (lv' := [(3, .long x6950), (2, .int (nI i)), (11, .long x6958), (9, .long x6950), (8, .int (nI n6947)), (0, .ref c), (1, .int (nI a)), (5, .long w2), (7, .int (nI i))]) e_X10_choose_131 (by decide) rfl ?_
            refine m_lload F rfl e_X10_choose_132 ?_
            refine m_lstore F (lv' := [(5, .long x6958), (3, .long x6950), (2, .int (nI i)), (11, .long x6958), (9, .long x6950), (8, .int (nI n6947)), (0, .ref c), (1, .int (nI a)), (7, .int (nI i))]) e_X10_choose_134 (by decide) rfl ?_
            refine m_iinc F (v := nI (i + 1)) (lv' := [(7, .int (nI (i + 1))), (5, .long x6958), (3, .long x6950), (2, .int (nI i)), (11, .long x6958), (9, .long x6950), (8, .int (nI n6947)), (0, .ref c), (1, .int (nI a))]) e_X10_choose_136 rfl (nI_add i 1) (by decide) rfl ?_
            refine m_goto F e_X10_choose_139 ?_
            refine Wm.lvsub (lv' := [(0, .ref c), (1, .int (nI a)), (2, .int (nI i)), (3, .long x6950), (5, .long x6958), (7, .int (nI (i + 1)))]) ?_ [7, 8, 3, 2, 1, 0] rfl
            exact ih a (nI i) x6950 x6958 (i + 1) _ h6961 (by omega) (by omega)
          · obtain ⟨n6966, hn6966, rfl⟩ := nI_nn (x := x6965) (fun e => q120 (Int32.lt_of_lt_of_le e (by decide)))
            have c120 : n6966 ≥ 0 := by have hh := mt (nI_ltI (a := n6966) (b := 0) (by omega) (by omega)).mpr q120; omega
            refine m_goto F e_X10_choose_123 ?_
            refine m_iinc F (v := nI (i + 1)) (lv' := [(7, .int (nI (i + 1))), (11, .long x6958), (9, .long x6950), (8, .int (nI n6947)), (0, .ref c), (1, .int (nI a)), (2, .int b1), (3, .long w1), (5, .long w2)]) e_X10_choose_136 rfl (nI_add i 1) (by decide) rfl ?_
            refine m_goto F e_X10_choose_139 ?_
            refine Wm.lvsub (lv' := [(0, .ref c), (1, .int (nI a)), (2, .int b1), (3, .long w1), (5, .long w2), (7, .int (nI (i + 1)))]) ?_ [4, 5, 6, 7, 8, 0] rfl
            exact ih a b1 w1 w2 (i + 1) _ h6961 (by omega) (by omega)
set_option maxRecDepth 20000 in
theorem q_X10_choose (l : Launch) (V : VX) (c T Z u h : Nat) (P : NP) (L : Nat → LQ) (N : Nat) (σ : Mem) (x901 : Int32) (h0 : HR V c ⟨T, Z, u, h, P, L⟩ σ) (hok : OKL P.n0 L) (hP : OKP P)  : Ct l V yX10_choose cX10_choose 13 (some .int) 5 0 0 N σ [.ref c, .int x901] (fun r τ => HS V c (⟨T, Z, u, h, P, L⟩ : RG) [0, 2, 3, 4, 5, 6, 7, 8, 9, 10, 11, 12, 13, 14, 15, 16, 19, 20, 21, 22] σ τ ∧ ∃ x : Int32, r = some (.int x)) := by
  refine Ct.of (by decide) (Nat.le_of_ble_eq_true rfl) [(0, .ref c), (1, .int x901)] rfl (fun X hX F hQ => ?_)
  have hPP := hP
  unfold OKP at hPP
  have h1 : HS V c ⟨T, Z, u, h, P, L⟩ [0, 2, 3, 4, 5, 6, 7, 8, 9, 10, 11, 12, 13, 14, 15, 16, 19, 20, 21, 22] σ σ := HS.start h0
  refine m_aload_n F rfl e_X10_choose_0 ?_
  refine m_iconst F (v := 0) (by decide) e_X10_choose_1 ?_
  refine r_put F (g' := (⟨T, Z, u, h, P, L⟩ : RG)) e_X10_choose_2 fp_X10_91 h1 (by decide) ⟨_, rfl⟩ (fun _ _ _ _ q => q) (fun _ _ _ q => q) rfl rfl (by decide) (fun σ6967 h6968 g6969 g6970 f6971 => ?_)
  refine m_aload_n F rfl e_X10_choose_5 ?_
  refine m_iload_n F rfl e_X10_choose_6 ?_
  refine r_callV F e_X10_choose_7 (q_X10_isLease (x_l X) V c T Z u h P L _ _ x901 h6968.1 (hok.b) hP ) cb_X10_isLease ml_X10_292 im_X10_isLease se_X10_isLease h6968 rfl rfl (rest := []) rfl (Nat.le_of_ble_eq_true rfl) ⟨Nat.le_of_ble_eq_true rfl, Nat.le_of_ble_eq_true rfl⟩ ⟨Nat.le_of_ble_eq_true rfl, Nat.le_of_ble_eq_true rfl⟩ (fun r σ6972 hp => ?_)
  obtain ⟨h6973, c6975⟩ := hp
  have h6974 := HS.trans h6968 h6973 (by decide)
  rcases c6975 with rfl | ⟨n6976, h6977, e6978, rfl⟩
  · refine m_if_ne F e_X10_choose_10 (fun q => absurd (by decide) q) (fun _ => ?_)
    refine m_iconst F (v := (-1)) (by decide) e_X10_choose_13 ?_
    exact m_iret F hQ e_X10_choose_14 (⟨h6974, _, rfl⟩)
  · subst e6978
    refine m_if_ne F e_X10_choose_10 (fun _ => ?_) (fun q => absurd q (by decide))
    refine m_aload_n F rfl e_X10_choose_15 ?_
    refine m_iload_n F rfl e_X10_choose_16 ?_
    refine r_callV F e_X10_choose_17 (q_X10_isOn (x_l X) V c T Z u h P L _ _ n6976 h6974.1 (hok.b) hP (by omega)) cb_X10_isOn ml_X10_267 im_X10_isOn se_X10_isOn h6974 rfl rfl (rest := []) rfl (Nat.le_of_ble_eq_true rfl) ⟨Nat.le_of_ble_eq_true rfl, Nat.le_of_ble_eq_true rfl⟩ ⟨Nat.le_of_ble_eq_true rfl, Nat.le_of_ble_eq_true rfl⟩ (fun r σ6979 hp => ?_)
    obtain ⟨h6980, c6982⟩ := hp
    have h6981 := HS.trans h6974 h6980 (by decide)
    rcases c6982 with ⟨g6983, rfl⟩ | ⟨g6983, rfl⟩
    · refine m_if_ne F e_X10_choose_20 (fun q => absurd (by decide) q) (fun _ => ?_)
      refine m_bipush F (v := (-2)) (by decide) e_X10_choose_23 ?_
      exact m_iret F hQ e_X10_choose_25 (⟨h6981, _, rfl⟩)
    · refine m_if_ne F e_X10_choose_20 (fun _ => ?_) (fun q => absurd q (by decide))
      refine m_bipush F (v := (-2)) (by decide) e_X10_choose_26 ?_
      refine m_istore_n F (lv' := [(2, .int (-2)), (0, .ref c), (1, .int (nI n6976))]) e_X10_choose_28 (by decide) rfl ?_
      refine m_lconst F (v := 0) (by decide) e_X10_choose_29 ?_
      refine m_lstore_n F (lv' := [(3, .long 0), (2, .int (-2)), (0, .ref c), (1, .int (nI n6976))]) e_X10_choose_30 (by decide) rfl ?_
      refine m_lconst F (v := 1) (by decide) e_X10_choose_31 ?_
      refine m_lstore F (lv' := [(5, .long 1), (3, .long 0), (2, .int (-2)), (0, .ref c), (1, .int (nI n6976))]) e_X10_choose_32 (by decide) rfl ?_
      refine m_iconst F (v := 0) (by decide) e_X10_choose_34 ?_
      refine m_istore F (lv' := [(7, .int 0), (5, .long 1), (3, .long 0), (2, .int (-2)), (0, .ref c), (1, .int (nI n6976))]) e_X10_choose_35 (by decide) rfl ?_
      refine Wm.lvsub (lv' := [(0, .ref c), (1, .int (nI n6976)), (2, .int (-2)), (3, .long 0), (5, .long 1), (7, .int 0)]) ?_ [4, 5, 3, 2, 1, 0] rfl
      exact lq_X10_choose_37 F hQ hok hP  (16 - 0 + 1) n6976 (-2) 0 1 0 _ h6981 (by omega) (Nat.lt_succ_self _)
set_option maxRecDepth 20000 in
theorem q_X10_gives (l : Launch) (V : VX) (c T Z u h : Nat) (P : NP) (L : Nat → LQ) (N : Nat) (σ : Mem) (n901 : Nat) (x902 : Int32) (x903 : Int64) (x904 : Int64) (h0 : HR V c ⟨T, Z, u, h, P, L⟩ σ) (hob : OKB L) (hP : OKP P) (hn901 : n901 ≤ 3) : Ct l V yX10_gives cX10_gives 8 none 1 0 0 N σ [.ref c, .int (nI n901), .int x902, .long x903, .long x904] (fun r τ => HS V c (⟨T, Z, u, h, P, L⟩ : RG) [0, 1, 2, 3, 4, 5, 6, 7, 8, 9, 10, 11, 12, 13, 14, 15, 16, 18, 19, 20, 21, 22] σ τ ∧ r = none) := by
  refine Ct.of (by decide) (Nat.le_of_ble_eq_true rfl) [(0, .ref c), (1, .int (nI n901)), (2, .int x902), (3, .long x903), (5, .long x904)] rfl (fun X hX F hQ => ?_)
  have hPP := hP
  unfold OKP at hPP
  have h1 : HS V c ⟨T, Z, u, h, P, L⟩ [0, 1, 2, 3, 4, 5, 6, 7, 8, 9, 10, 11, 12, 13, 14, 15, 16, 18, 19, 20, 21, 22] σ σ := HS.start h0
  refine m_sipush F (v := 160) (by decide) e_X10_gives_0 ?_
  refine m_iload_n F rfl e_X10_gives_3 ?_
  refine m_imul F e_X10_gives_4 ?_
  refine Wm.topE (w := nI (160 * n901)) (pk_mul 160 n901) ?_
  refine m_istore F (lv' := [(7, .int (nI (160 * n901))), (0, .ref c), (1, .int (nI n901)), (2, .int x902), (3, .long x903), (5, .long x904)]) e_X10_gives_5 (by decide) rfl ?_
  refine m_aload_n F rfl e_X10_gives_7 ?_
  refine r_get F e_X10_gives_8 fl_X10_59 h1 rfl (fun v hv f6984 => ?_)
  obtain rfl : v = .ref (c + 16) := hv
  refine m_iload F rfl e_X10_gives_11 ?_
  refine m_bipush F (v := 6) (by decide) e_X10_gives_13 ?_
  refine m_iadd F e_X10_gives_15 ?_
  refine Wm.topE (w := nI (160 * n901 + 6)) (nI_add (160 * n901) 6) ?_
  refine m_dup2_11 F rfl rfl e_X10_gives_16 ?_
  refine r_sld F (j := 160 * n901 + 6) e_X10_gives_17 h1 (nI_clamp (by omega)) (vp_in_nI (by omega) (by decide)) (fun x6985 h6986 f6987 => ?_)
  refine m_lload_n F rfl e_X10_gives_18 ?_
  refine m_lsub F e_X10_gives_19 ?_
  refine Wm.topl (fun x6988 _ => ?_)
  refine r_sst F (g' := (⟨T, Z, u, h, P, L⟩ : RG)) (j := 160 * n901 + 6) e_X10_gives_20 h1 (by decide) (nI_clamp (by omega)) (vp_in_nI (by omega) (by decide)) (fun f q => EJ_same (EJ_lw (l := n901) (r := 6) (by omega) (by omega) (by omega)) q) (fun _ _ _ q => q) (fun σ6989 h6990 g6991 => ?_)
  refine m_aload_n F rfl e_X10_gives_21 ?_
  refine r_getC F e_X10_gives_22 fl_X10_59 h6990 ((fld_eq (g6991 _ (by omega))).trans f6984) ?_
  refine m_iload F rfl e_X10_gives_25 ?_
  refine m_bipush F (v := 7) (by decide) e_X10_gives_27 ?_
  refine m_iadd F e_X10_gives_29 ?_
  refine Wm.topE (w := nI (160 * n901 + 7)) (nI_add (160 * n901) 7) ?_
  refine m_dup2_11 F rfl rfl e_X10_gives_30 ?_
  refine r_sld F (j := 160 * n901 + 7) e_X10_gives_31 h6990 (nI_clamp (by omega)) (vp_in_nI (by omega) (by decide)) (fun x6992 h6993 f6994 => ?_)
  refine m_lload F rfl e_X10_gives_32 ?_
  refine m_lsub F e_X10_gives_34 ?_
  refine Wm.topl (fun x6995 _ => ?_)
  refine r_sst F (g' := (⟨T, Z, u, h, P, L⟩ : RG)) (j := 160 * n901 + 7) e_X10_gives_35 h6990 (by decide) (nI_clamp (by omega)) (vp_in_nI (by omega) (by decide)) (fun f q => EJ_same (EJ_lw (l := n901) (r := 7) (by omega) (by omega) (by omega)) q) (fun _ _ _ q => q) (fun σ6996 h6997 g6998 => ?_)
  refine m_aload_n F rfl e_X10_gives_36 ?_
  refine r_getC F e_X10_gives_37 fl_X10_59 h6997 ((fld_eq (g6998 _ (by omega))).trans ((fld_eq (g6991 _ (by omega))).trans f6984)) ?_
  refine m_iload F rfl e_X10_gives_40 ?_
  refine m_bipush F (v := 12) (by decide) e_X10_gives_42 ?_
  refine m_iadd F e_X10_gives_44 ?_
  refine Wm.topE (w := nI (160 * n901 + 12)) (nI_add (160 * n901) 12) ?_
  refine m_dup2_11 F rfl rfl e_X10_gives_45 ?_
  refine r_sld F (j := 160 * n901 + 12) e_X10_gives_46 h6997 (nI_clamp (by omega)) (vp_in_nI (by omega) (by decide)) (fun x6999 h7000 f7001 => ?_)
  refine m_lload_n F rfl e_X10_gives_47 ?_
  refine m_ladd F e_X10_gives_48 ?_
  refine Wm.topl (fun x7002 _ => ?_)
  refine r_sst F (g' := (⟨T, Z, u, h, P, L⟩ : RG)) (j := 160 * n901 + 12) e_X10_gives_49 h6997 (by decide) (nI_clamp (by omega)) (vp_in_nI (by omega) (by decide)) (fun f q => EJ_same (EJ_lw (l := n901) (r := 12) (by omega) (by omega) (by omega)) q) (fun _ _ _ q => q) (fun σ7003 h7004 g7005 => ?_)
  refine m_aload_n F rfl e_X10_gives_50 ?_
  refine m_iload_n F rfl e_X10_gives_51 ?_
  refine m_iload_n F rfl e_X10_gives_52 ?_
  refine m_lconst F (v := 0) (by decide) e_X10_gives_53 ?_
  refine m_lload_n F rfl e_X10_gives_54 ?_
  refine m_lload F rfl e_X10_gives_55 ?_
  refine m_lneg F e_X10_gives_57 ?_
  refine Wm.topl (fun x7006 _ => ?_)
  refine m_lconst F (v := 0) (by decide) e_X10_gives_58 ?_
  refine m_lconst F (v := 0) (by decide) e_X10_gives_59 ?_
  refine m_lload F rfl e_X10_gives_60 ?_
  refine m_lload_n F rfl e_X10_gives_62 ?_
  refine m_lsub F e_X10_gives_63 ?_
  refine Wm.topl (fun x7007 _ => ?_)
  refine r_callV F e_X10_gives_64 (q_X10_entry (x_l X) V c T Z u h P L _ _ x902 (nI n901) 0 x903 x7006 0 0 x7007 h7004.1 (hob) hP ) cb_X10_entry ml_X10_253 im_X10_entry se_X10_entry h7004 rfl rfl (rest := []) rfl (Nat.le_of_ble_eq_true rfl) ⟨Nat.le_of_ble_eq_true rfl, Nat.le_of_ble_eq_true rfl⟩ ⟨Nat.le_of_ble_eq_true rfl, Nat.le_of_ble_eq_true rfl⟩ (fun r σ7008 hp => ?_)
  obtain ⟨h7009, rfl⟩ := hp
  have h7010 := HS.trans h7004 h7009 (by decide)
  exact m_vret F hQ e_X10_gives_67 (⟨h7010, rfl⟩)
set_option maxRecDepth 20000 in
theorem lq_X10_part_86 {V : VX} {X : MX} {N : Nat} {σ : Mem} {c T Z u h : Nat} {P : NP} {L : Nat → LQ}   (F : Fx V X yX10_part cX10_part 9 (some .long) (rmd 3 0 0)) (hQ : Rt V X 0 0 N (fun r τ => ∃ u9, u9 ≤ 20 ∧ ∃ L9, OKL P.n0 L9 ∧ HS V c (⟨T, Z, u9, h, P, L9⟩ : RG) [0, 2, 3, 4, 5, 6, 7, 8, 9, 10, 11, 12, 13, 14, 15, 16, 18, 19, 20, 22] σ τ ∧ ∃ x : Int64, r = some (.long x))) (hok : OKL P.n0 L) (hP : OKP P) (hp0 : u ≤ 20) (hp1 : P.kk = P.n0)  : ∀ (fuel : Nat) (a : Nat) (b : Nat) (w1 : Int64) (w2 : Int64) (i : Nat) (u1 : Nat) (τ : Mem), HS V c (⟨T, Z, u1, h, P, L⟩ : RG) [0, 2, 3, 4, 5, 6, 7, 8, 9, 10, 11, 12, 13, 14, 15, 16, 18, 19, 20, 22] σ τ → u1 ≤ 20 ∧ a ≤ 3 ∧ b ≤ 999 ∧ i ≤ 72 → 72 - i < fuel → Wm V X 9 N τ 0 0 86 [(0, .ref c), (1, .int (nI a)), (2, .int (nI b)), (3, .int (nI (160 * a))), (4, .long w1), (6, .long w2), (8, .int (nI i))] [] := by
  intro fuel
  induction fuel with
  | zero => intros; rename_i hm; exact absurd hm (Nat.not_lt_zero _)
  | succ fuel ih =>
    intro a b w1 w2 i u1 τ h1 hi hm
    have hPP := hP
    unfold OKP at hPP
    refine m_iload F rfl e_X10_part_86 ?_
    refine m_i2l F e_X10_part_88 ?_
    refine Wm.toplE (w := lN i) (nI_l (by omega)) ?_
    refine m_aload_n F rfl e_X10_part_89 ?_
    refine r_get F e_X10_part_90 fl_X10_59 h1 rfl (fun v hv f7011 => ?_)
    obtain rfl : v = .ref (c + 16) := hv
    refine m_iload_n F rfl e_X10_part_93 ?_
    refine m_iconst F (v := 1) (by decide) e_X10_part_94 ?_
    refine m_iadd F e_X10_part_95 ?_
    refine Wm.topE (w := nI (160 * a + 1)) (nI_add (160 * a) 1) ?_
    refine r_sld F (j := 160 * a + 1) e_X10_part_96 h1 (nI_clamp (by omega)) (vp_in_nI (by omega) (by decide)) (fun x7012 h7013 f7014 => ?_)
    have hl7015 := hok.2 a (by omega)
    obtain rfl : x7012 = lN (L a).2.1 := (EJ_l (l := a) (r := 1) (by omega) (by decide)).mp h7013
    refine m_lcmp F e_X10_part_97 ?_
    refine m_if_ge F e_X10_part_98 (fun q98 => ?_) (fun q98 => ?_)
    · have c98 : i ≥ ((L a).2.1) := (lN_le (a := ((L a).2.1)) (b := i) (by omega) (by omega)).mp ((lg_cmp_ge _ _).mp q98)
      refine m_aload_n F rfl e_X10_part_177 ?_
      refine m_iload_n F rfl e_X10_part_178 ?_
      refine m_iconst F (v := 3) (by decide) e_X10_part_179 ?_
      refine m_lload F rfl e_X10_part_180 ?_
      refine m_lload F rfl e_X10_part_182 ?_
      refine r_callV F e_X10_part_184 (q_X10_gives (x_l X) V c T Z u1 h P L _ _ a 3 w1 w2 h1.1 (hok.b) hP (by omega)) cb_X10_gives ml_X10_319 im_X10_gives se_X10_gives h1 rfl rfl (rest := []) rfl (Nat.le_of_ble_eq_true rfl) ⟨Nat.le_of_ble_eq_true rfl, Nat.le_of_ble_eq_true rfl⟩ ⟨Nat.le_of_ble_eq_true rfl, Nat.le_of_ble_eq_true rfl⟩ (fun r σ7016 hp => ?_)
      obtain ⟨h7017, rfl⟩ := hp
      have h7018 := HS.trans h1 h7017 (by decide)
      refine m_lload F rfl e_X10_part_187 ?_
      refine m_lload F rfl e_X10_part_189 ?_
      refine m_lsub F e_X10_part_191 ?_
      refine Wm.topl (fun x7019 _ => ?_)
      exact m_lret F hQ e_X10_part_192 (⟨u1, by omega, L, hok, h7018, _, rfl⟩)
    · have c98 : i < ((L a).2.1) := by have hh := mt (fun h9 => (lg_cmp_ge (lN i) (lN ((L a).2.1))).mpr ((lN_le (a := ((L a).2.1)) (b := i) (by omega) (by omega)).mpr h9)) q98; omega
      refine m_aload_n F rfl e_X10_part_101 ?_
      refine r_getC F e_X10_part_102 fl_X10_59 h1 (f7011) ?_
      refine m_iload_n F rfl e_X10_part_105 ?_
      refine m_bipush F (v := 13) (by decide) e_X10_part_106 ?_
      refine m_iadd F e_X10_part_108 ?_
      refine Wm.topE (w := nI (160 * a + 13)) (nI_add (160 * a) 13) ?_
      refine m_iload F rfl e_X10_part_109 ?_
      refine m_iadd F e_X10_part_111 ?_
      refine Wm.topE (w := nI ((160 * a + 13) + i)) (nI_add (160 * a + 13) i) ?_
      refine m_aload_n F rfl e_X10_part_112 ?_
      refine r_getC F e_X10_part_113 fl_X10_59 h1 (f7011) ?_
      refine m_iload_n F rfl e_X10_part_116 ?_
      refine m_bipush F (v := 13) (by decide) e_X10_part_117 ?_
      refine m_iadd F e_X10_part_119 ?_
      refine Wm.topE (w := nI (160 * a + 13)) (nI_add (160 * a) 13) ?_
      refine m_iload F rfl e_X10_part_120 ?_
      refine m_iadd F e_X10_part_122 ?_
      refine Wm.topE (w := nI ((160 * a + 13) + i)) (nI_add (160 * a + 13) i) ?_
      refine r_sld F (j := (160 * a + 13) + i) e_X10_part_123 h1 (nI_clamp (by omega)) (vp_in_nI (by omega) (by decide)) (fun x7020 h7021 f7022 => ?_)
      refine m_sipush F (v := 1000) (by decide) e_X10_part_124 ?_
      refine m_iload_n F rfl e_X10_part_127 ?_
      refine m_isub F e_X10_part_128 ?_
      refine Wm.top (fun x7023 _ => ?_)
      refine m_i2l F e_X10_part_129 ?_
      refine Wm.topl (fun x7024 _ => ?_)
      refine m_lmul F e_X10_part_130 ?_
      refine Wm.topl (fun x7025 _ => ?_)
      refine m_ldc2 F kc_X10_224 e_X10_part_131 ?_
      refine m_ldiv F (by decide) e_X10_part_134 ?_
      refine Wm.topl (fun x7026 _ => ?_)
      refine r_sst F (g' := (⟨T, Z, u1, h, P, L⟩ : RG)) (j := (160 * a + 13) + i) e_X10_part_135 h1 (by decide) (nI_clamp (by omega)) (vp_in_nI (by omega) (by decide)) (fun f q => EJ_same (EJ_lw (l := a) (r := ((160 * a + 13) + i) - 160 * a) (by omega) (by omega) (by omega)) q) (fun _ _ _ q => q) (fun σ7027 h7028 g7029 => ?_)
      refine m_aload_n F rfl e_X10_part_136 ?_
      refine r_getC F e_X10_part_137 fl_X10_59 h7028 ((fld_eq (g7029 _ (by omega))).trans f7011) ?_
      refine m_iload_n F rfl e_X10_part_140 ?_
      refine m_bipush F (v := 85) (by decide) e_X10_part_141 ?_
      refine m_iadd F e_X10_part_143 ?_
      refine Wm.topE (w := nI (160 * a + 85)) (nI_add (160 * a) 85) ?_
      refine m_iload F rfl e_X10_part_144 ?_
      refine m_iadd F e_X10_part_146 ?_
      refine Wm.topE (w := nI ((160 * a + 85) + i)) (nI_add (160 * a + 85) i) ?_
      refine m_aload_n F rfl e_X10_part_147 ?_
      refine r_getC F e_X10_part_148 fl_X10_59 h7028 ((fld_eq (g7029 _ (by omega))).trans f7011) ?_
      refine m_iload_n F rfl e_X10_part_151 ?_
      refine m_bipush F (v := 85) (by decide) e_X10_part_152 ?_
      refine m_iadd F e_X10_part_154 ?_
      refine Wm.topE (w := nI (160 * a + 85)) (nI_add (160 * a) 85) ?_
      refine m_iload F rfl e_X10_part_155 ?_
      refine m_iadd F e_X10_part_157 ?_
      refine Wm.topE (w := nI ((160 * a + 85) + i)) (nI_add (160 * a + 85) i) ?_
      refine r_sld F (j := (160 * a + 85) + i) e_X10_part_158 h7028 (nI_clamp (by omega)) (vp_in_nI (by omega) (by decide)) (fun x7030 h7031 f7032 => ?_)
      refine m_sipush F (v := 1000) (by decide) e_X10_part_159 ?_
      refine m_iload_n F rfl e_X10_part_162 ?_
      refine m_isub F e_X10_part_163 ?_
      refine Wm.top (fun x7033 _ => ?_)
      refine m_i2l F e_X10_part_164 ?_
      refine Wm.topl (fun x7034 _ => ?_)
      refine m_lmul F e_X10_part_165 ?_
      refine Wm.topl (fun x7035 _ => ?_)
      refine m_ldc2 F kc_X10_224 e_X10_part_166 ?_
      refine m_ldiv F (by decide) e_X10_part_169 ?_
      refine Wm.topl (fun x7036 _ => ?_)
      refine r_sst F (g' := (⟨T, Z, u1, h, P, L⟩ : RG)) (j := (160 * a + 85) + i) e_X10_part_170 h7028 (by decide) (nI_clamp (by omega)) (vp_in_nI (by omega) (by decide)) (fun f q => EJ_same (EJ_lw (l := a) (r := ((160 * a + 85) + i) - 160 * a) (by omega) (by omega) (by omega)) q) (fun _ _ _ q => q) (fun σ7037 h7038 g7039 => ?_)
      refine m_iinc F (v := nI (i + 1)) (lv' := [(8, .int (nI (i + 1))), (0, .ref c), (1, .int (nI a)), (2, .int (nI b)), (3, .int (nI (160 * a))), (4, .long w1), (6, .long w2)]) e_X10_part_171 rfl (nI_add i 1) (by decide) rfl ?_
      refine m_goto F e_X10_part_174 ?_
      refine Wm.lvsub (lv' := [(0, .ref c), (1, .int (nI a)), (2, .int (nI b)), (3, .int (nI (160 * a))), (4, .long w1), (6, .long w2), (8, .int (nI (i + 1)))]) ?_ [1, 2, 3, 4, 5, 6, 0] rfl
      exact ih a b w1 w2 (i + 1) u1 _ h7038 (by omega) (by omega)
set_option maxRecDepth 20000 in
theorem q_X10_part (l : Launch) (V : VX) (c T Z u h : Nat) (P : NP) (L : Nat → LQ) (N : Nat) (σ : Mem) (x901 : Int32) (x902 : Int32) (h0 : HR V c ⟨T, Z, u, h, P, L⟩ σ) (hok : OKL P.n0 L) (hP : OKP P) (hp0 : u ≤ 20) (hp1 : P.kk = P.n0) : Ct l V yX10_part cX10_part 9 (some .long) 3 0 0 N σ [.ref c, .int x901, .int x902] (fun r τ => ∃ u9, u9 ≤ 20 ∧ ∃ L9, OKL P.n0 L9 ∧ HS V c (⟨T, Z, u9, h, P, L9⟩ : RG) [0, 2, 3, 4, 5, 6, 7, 8, 9, 10, 11, 12, 13, 14, 15, 16, 18, 19, 20, 22] σ τ ∧ ∃ x : Int64, r = some (.long x)) := by
  refine Ct.of (by decide) (Nat.le_of_ble_eq_true rfl) [(0, .ref c), (1, .int x901), (2, .int x902)] rfl (fun X hX F hQ => ?_)
  have hPP := hP
  unfold OKP at hPP
  have h1 : HS V c ⟨T, Z, u, h, P, L⟩ [0, 2, 3, 4, 5, 6, 7, 8, 9, 10, 11, 12, 13, 14, 15, 16, 18, 19, 20, 22] σ σ := HS.start h0
  refine m_aload_n F rfl e_X10_part_0 ?_
  refine m_iconst F (v := 0) (by decide) e_X10_part_1 ?_
  refine r_put F (g' := (⟨T, Z, u, h, P, L⟩ : RG)) e_X10_part_2 fp_X10_91 h1 (by decide) ⟨_, rfl⟩ (fun _ _ _ _ q => q) (fun _ _ _ q => q) rfl rfl (by decide) (fun σ7040 h7041 g7042 g7043 f7044 => ?_)
  refine m_aload_n F rfl e_X10_part_5 ?_
  refine m_iload_n F rfl e_X10_part_6 ?_
  refine r_callV F e_X10_part_7 (q_X10_isRunning (x_l X) V c T Z u h P L _ _ x901 h7041.1 (hok.b) hP ) cb_X10_isRunning ml_X10_301 im_X10_isRunning se_X10_isRunning h7041 rfl rfl (rest := []) rfl (Nat.le_of_ble_eq_true rfl) ⟨Nat.le_of_ble_eq_true rfl, Nat.le_of_ble_eq_true rfl⟩ ⟨Nat.le_of_ble_eq_true rfl, Nat.le_of_ble_eq_true rfl⟩ (fun r σ7045 hp => ?_)
  obtain ⟨h7046, c7048⟩ := hp
  have h7047 := HS.trans h7041 h7046 (by decide)
  rcases c7048 with rfl | ⟨n7049, h7050, h7051, e7052, rfl⟩
  · refine m_if_eq F e_X10_part_10 (fun _ => ?_) (fun q => absurd (by decide) q)
    refine m_ldc2 F kc_X10_299 e_X10_part_25 ?_
    exact m_lret F hQ e_X10_part_28 (⟨u, by omega, L, hok, h7047, _, rfl⟩)
  · subst e7052
    refine m_if_eq F e_X10_part_10 (fun q => absurd q (by decide)) (fun _ => ?_)
    refine m_iload_n F rfl e_X10_part_13 ?_
    refine m_iconst F (v := 1) (by decide) e_X10_part_14 ?_
    refine m_icmp_lt F e_X10_part_15 (fun q15 => ?_) (fun q15 => ?_)
    · refine m_ldc2 F kc_X10_299 e_X10_part_25 ?_
      exact m_lret F hQ e_X10_part_28 (⟨u, by omega, L, hok, h7047, _, rfl⟩)
    · obtain ⟨n7053, hn7053, rfl⟩ := nI_nn (x := x902) (fun e => q15 (Int32.lt_of_lt_of_le e (by decide)))
      have c15 : n7053 ≥ 1 := by have hh := mt (nI_ltI (a := n7053) (b := 1) (by omega) (by omega)).mpr q15; omega
      refine m_iload_n F rfl e_X10_part_18 ?_
      refine m_sipush F (v := 999) (by decide) e_X10_part_19 ?_
      refine m_icmp_le F e_X10_part_22 (fun q22 => ?_) (fun q22 => ?_)
      · have c22 : n7053 ≤ 999 := (nI_leI (a := n7053) (b := 999) (by omega) (by omega)).mp q22
        refine m_aload_n F rfl e_X10_part_29 ?_
        refine r_callV F e_X10_part_30 (q_X10_remembers (x_l X) V c T Z u h P L _ _  h7047.1 (hok) hP (by first | omega | assumption | decide) (by first | omega | assumption | decide)) cb_X10_remembers ml_X10_286 im_X10_remembers se_X10_remembers h7047 rfl rfl (rest := []) rfl (Nat.le_of_ble_eq_true rfl) ⟨Nat.le_of_ble_eq_true rfl, Nat.le_of_ble_eq_true rfl⟩ ⟨Nat.le_of_ble_eq_true rfl, Nat.le_of_ble_eq_true rfl⟩ (fun r σ7054 hp => ?_)
        obtain ⟨u7057, hu7057, h7055, rfl⟩ := hp
        have h7056 := HS.trans h7047 h7055 (by decide)
        refine m_sipush F (v := 160) (by decide) e_X10_part_33 ?_
        refine m_iload_n F rfl e_X10_part_36 ?_
        refine m_imul F e_X10_part_37 ?_
        refine Wm.topE (w := nI (160 * n7049)) (pk_mul 160 n7049) ?_
        refine m_istore_n F (lv' := [(3, .int (nI (160 * n7049))), (0, .ref c), (1, .int (nI n7049)), (2, .int (nI n7053))]) e_X10_part_38 (by decide) rfl ?_
        have hl7058 := hok.2 n7049 (by omega)
        have hl7059 := hok.2 n7049 (by omega)
        have hl7060 := hok.2 n7049 (by omega)
        refine m_aload_n F rfl e_X10_part_39 ?_
        refine r_get F e_X10_part_40 fl_X10_59 h7056 rfl (fun v hv f7061 => ?_)
        obtain rfl : v = .ref (c + 16) := hv
        refine m_iload_n F rfl e_X10_part_43 ?_
        refine m_bipush F (v := 6) (by decide) e_X10_part_44 ?_
        refine m_iadd F e_X10_part_46 ?_
        refine Wm.topE (w := nI (160 * n7049 + 6)) (nI_add (160 * n7049) 6) ?_
        refine r_sld F (j := 160 * n7049 + 6) e_X10_part_47 h7056 (nI_clamp (by omega)) (vp_in_nI (by omega) (by decide)) (fun x7062 h7063 f7064 => ?_)
        refine m_iload_n F rfl e_X10_part_48 ?_
        refine m_i2l F e_X10_part_49 ?_
        refine Wm.toplE (w := lN n7053) (nI_l (by omega)) ?_
        refine m_lmul F e_X10_part_50 ?_
        refine Wm.topl (fun x7065 _ => ?_)
        refine m_ldc2 F kc_X10_224 e_X10_part_51 ?_
        refine m_ldiv F (by decide) e_X10_part_54 ?_
        refine Wm.topl (fun x7066 _ => ?_)
        refine m_lstore F (lv' := [(4, .long x7066), (3, .int (nI (160 * n7049))), (0, .ref c), (1, .int (nI n7049)), (2, .int (nI n7053))]) e_X10_part_55 (by decide) rfl ?_
        refine m_aload_n F rfl e_X10_part_57 ?_
        refine r_getC F e_X10_part_58 fl_X10_59 h7056 (f7061) ?_
        refine m_iload_n F rfl e_X10_part_61 ?_
        refine m_bipush F (v := 7) (by decide) e_X10_part_62 ?_
        refine m_iadd F e_X10_part_64 ?_
        refine Wm.topE (w := nI (160 * n7049 + 7)) (nI_add (160 * n7049) 7) ?_
        refine r_sld F (j := 160 * n7049 + 7) e_X10_part_65 h7056 (nI_clamp (by omega)) (vp_in_nI (by omega) (by decide)) (fun x7067 h7068 f7069 => ?_)
        refine m_iload_n F rfl e_X10_part_66 ?_
        refine m_i2l F e_X10_part_67 ?_
        refine Wm.toplE (w := lN n7053) (nI_l (by omega)) ?_
        refine m_lmul F e_X10_part_68 ?_
        refine Wm.topl (fun x7070 _ => ?_)
        refine m_ldc2 F kc_X10_224 e_X10_part_69 ?_
        refine m_ldiv F (by decide) e_X10_part_72 ?_
        refine Wm.topl (fun x7071 _ => ?_)
        refine m_lstore F (lv' := [(6, .long x7071), (4, .long x7066), (3, .int (nI (160 * n7049))), (0, .ref c), (1, .int (nI n7049)), (2, .int (nI n7053))]) e_X10_part_73 (by decide) rfl ?_
        refine m_aload_n F rfl e_X10_part_75 ?_
        refine r_getC F e_X10_part_76 fl_X10_59 h7056 (f7061) ?_
        refine m_iload_n F rfl e_X10_part_79 ?_
        refine m_iconst F (v := 5) (by decide) e_X10_part_80 ?_
        refine m_iadd F e_X10_part_81 ?_
        refine Wm.topE (w := nI (160 * n7049 + 5)) (nI_add (160 * n7049) 5) ?_
        refine r_sld F (j := 160 * n7049 + 5) e_X10_part_82 h7056 (nI_clamp (by omega)) (vp_in_nI (by omega) (by decide)) (fun x7072 h7073 f7074 => ?_)
        have hl7075 := hok.2 n7049 (by omega)
        obtain rfl : x7072 = lN (L n7049).2.2.2 := (EJ_l (l := n7049) (r := 5) (by omega) (by decide)).mp h7073
        refine m_l2i F e_X10_part_83 ?_
        refine Wm.topE (w := nI ((L n7049).2.2.2)) (lN_i ((L n7049).2.2.2)) ?_
        refine m_istore F (lv' := [(8, .int (nI ((L n7049).2.2.2))), (6, .long x7071), (4, .long x7066), (3, .int (nI (160 * n7049))), (0, .ref c), (1, .int (nI n7049)), (2, .int (nI n7053))]) e_X10_part_84 (by decide) rfl ?_
        refine Wm.lvsub (lv' := [(0, .ref c), (1, .int (nI n7049)), (2, .int (nI n7053)), (3, .int (nI (160 * n7049))), (4, .long x7066), (6, .long x7071), (8, .int (nI ((L n7049).2.2.2)))]) ?_ [4, 5, 6, 3, 2, 1, 0] rfl
        exact lq_X10_part_86 F hQ hok hP hp0 hp1 (72 - ((L n7049).2.2.2) + 1) n7049 n7053 x7066 x7071 ((L n7049).2.2.2) u7057 _ h7056 (by omega) (Nat.lt_succ_self _)
      · have c22 : n7053 > 999 := by have hh := mt (nI_leI (a := n7053) (b := 999) (by omega) (by omega)).mpr q22; omega
        refine m_ldc2 F kc_X10_299 e_X10_part_25 ?_
        exact m_lret F hQ e_X10_part_28 (⟨u, by omega, L, hok, h7047, _, rfl⟩)
set_option maxRecDepth 20000 in
theorem q_X10_end (l : Launch) (V : VX) (c T Z u h : Nat) (P : NP) (L : Nat → LQ) (N : Nat) (σ : Mem) (x901 : Int32) (h0 : HR V c ⟨T, Z, u, h, P, L⟩ σ) (hok : OKL P.n0 L) (hP : OKP P) (hp0 : u ≤ 20) (hp1 : P.kk = P.n0) : Ct l V yX10_end cX10_end 5 (some .long) 3 0 0 N σ [.ref c, .int x901] (fun r τ => ∃ u9, u9 ≤ 20 ∧ ∃ L9, OKL P.n0 L9 ∧ HS V c (⟨T, Z, u9, h, P, L9⟩ : RG) [0, 2, 3, 4, 5, 6, 7, 8, 9, 10, 11, 12, 13, 14, 15, 16, 18, 19, 20, 22] σ τ ∧ ∃ x : Int64, r = some (.long x)) := by
  refine Ct.of (by decide) (Nat.le_of_ble_eq_true rfl) [(0, .ref c), (1, .int x901)] rfl (fun X hX F hQ => ?_)
  have hPP := hP
  unfold OKP at hPP
  have h1 : HS V c ⟨T, Z, u, h, P, L⟩ [0, 2, 3, 4, 5, 6, 7, 8, 9, 10, 11, 12, 13, 14, 15, 16, 18, 19, 20, 22] σ σ := HS.start h0
  refine m_aload_n F rfl e_X10_end_0 ?_
  refine m_iconst F (v := 0) (by decide) e_X10_end_1 ?_
  refine r_put F (g' := (⟨T, Z, u, h, P, L⟩ : RG)) e_X10_end_2 fp_X10_91 h1 (by decide) ⟨_, rfl⟩ (fun _ _ _ _ q => q) (fun _ _ _ q => q) rfl rfl (by decide) (fun σ7076 h7077 g7078 g7079 f7080 => ?_)
  refine m_aload_n F rfl e_X10_end_5 ?_
  refine m_iload_n F rfl e_X10_end_6 ?_
  refine r_callV F e_X10_end_7 (q_X10_isRunning (x_l X) V c T Z u h P L _ _ x901 h7077.1 (hok.b) hP ) cb_X10_isRunning ml_X10_301 im_X10_isRunning se_X10_isRunning h7077 rfl rfl (rest := []) rfl (Nat.le_of_ble_eq_true rfl) ⟨Nat.le_of_ble_eq_true rfl, Nat.le_of_ble_eq_true rfl⟩ ⟨Nat.le_of_ble_eq_true rfl, Nat.le_of_ble_eq_true rfl⟩ (fun r σ7081 hp => ?_)
  obtain ⟨h7082, c7084⟩ := hp
  have h7083 := HS.trans h7077 h7082 (by decide)
  rcases c7084 with rfl | ⟨n7085, h7086, h7087, e7088, rfl⟩
  · refine m_if_ne F e_X10_end_10 (fun q => absurd (by decide) q) (fun _ => ?_)
    refine m_ldc2 F kc_X10_299 e_X10_end_13 ?_
    exact m_lret F hQ e_X10_end_16 (⟨u, by omega, L, hok, h7083, _, rfl⟩)
  · subst e7088
    refine m_if_ne F e_X10_end_10 (fun _ => ?_) (fun q => absurd q (by decide))
    refine m_aload_n F rfl e_X10_end_17 ?_
    refine r_callV F e_X10_end_18 (q_X10_remembers (x_l X) V c T Z u h P L _ _  h7083.1 (hok) hP (by first | omega | assumption | decide) (by first | omega | assumption | decide)) cb_X10_remembers ml_X10_286 im_X10_remembers se_X10_remembers h7083 rfl rfl (rest := []) rfl (Nat.le_of_ble_eq_true rfl) ⟨Nat.le_of_ble_eq_true rfl, Nat.le_of_ble_eq_true rfl⟩ ⟨Nat.le_of_ble_eq_true rfl, Nat.le_of_ble_eq_true rfl⟩ (fun r σ7089 hp => ?_)
    obtain ⟨u7092, hu7092, h7090, rfl⟩ := hp
    have h7091 := HS.trans h7083 h7090 (by decide)
    refine m_sipush F (v := 160) (by decide) e_X10_end_21 ?_
    refine m_iload_n F rfl e_X10_end_24 ?_
    refine m_imul F e_X10_end_25 ?_
    refine Wm.topE (w := nI (160 * n7085)) (pk_mul 160 n7085) ?_
    refine m_istore_n F (lv' := [(2, .int (nI (160 * n7085))), (0, .ref c), (1, .int (nI n7085))]) e_X10_end_26 (by decide) rfl ?_
    have hl7093 := hok.2 n7085 (by omega)
    have hl7094 := hok.2 n7085 (by omega)
    have hl7095 := hok.2 n7085 (by omega)
    refine m_aload_n F rfl e_X10_end_27 ?_
    refine r_get F e_X10_end_28 fl_X10_59 h7091 rfl (fun v hv f7096 => ?_)
    obtain rfl : v = .ref (c + 16) := hv
    refine m_iload_n F rfl e_X10_end_31 ?_
    refine m_bipush F (v := 6) (by decide) e_X10_end_32 ?_
    refine m_iadd F e_X10_end_34 ?_
    refine Wm.topE (w := nI (160 * n7085 + 6)) (nI_add (160 * n7085) 6) ?_
    refine r_sld F (j := 160 * n7085 + 6) e_X10_end_35 h7091 (nI_clamp (by omega)) (vp_in_nI (by omega) (by decide)) (fun x7097 h7098 f7099 => ?_)
    refine m_aload_n F rfl e_X10_end_36 ?_
    refine r_getC F e_X10_end_37 fl_X10_59 h7091 (f7096) ?_
    refine m_iload_n F rfl e_X10_end_40 ?_
    refine m_bipush F (v := 7) (by decide) e_X10_end_41 ?_
    refine m_iadd F e_X10_end_43 ?_
    refine Wm.topE (w := nI (160 * n7085 + 7)) (nI_add (160 * n7085) 7) ?_
    refine r_sld F (j := 160 * n7085 + 7) e_X10_end_44 h7091 (nI_clamp (by omega)) (vp_in_nI (by omega) (by decide)) (fun x7100 h7101 f7102 => ?_)
    refine m_lsub F e_X10_end_45 ?_
    refine Wm.topl (fun x7103 _ => ?_)
    refine m_lstore_n F (lv' := [(3, .long x7103), (2, .int (nI (160 * n7085))), (0, .ref c), (1, .int (nI n7085))]) e_X10_end_46 (by decide) rfl ?_
    refine m_aload_n F rfl e_X10_end_47 ?_
    refine m_iload_n F rfl e_X10_end_48 ?_
    refine m_iconst F (v := 4) (by decide) e_X10_end_49 ?_
    refine m_aload_n F rfl e_X10_end_50 ?_
    refine r_getC F e_X10_end_51 fl_X10_59 h7091 (f7096) ?_
    refine m_iload_n F rfl e_X10_end_54 ?_
    refine m_bipush F (v := 6) (by decide) e_X10_end_55 ?_
    refine m_iadd F e_X10_end_57 ?_
    refine Wm.topE (w := nI (160 * n7085 + 6)) (nI_add (160 * n7085) 6) ?_
    refine r_sld F (j := 160 * n7085 + 6) e_X10_end_58 h7091 (nI_clamp (by omega)) (vp_in_nI (by omega) (by decide)) (fun x7104 h7105 f7106 => ?_)
    refine m_aload_n F rfl e_X10_end_59 ?_
    refine r_getC F e_X10_end_60 fl_X10_59 h7091 (f7096) ?_
    refine m_iload_n F rfl e_X10_end_63 ?_
    refine m_bipush F (v := 7) (by decide) e_X10_end_64 ?_
    refine m_iadd F e_X10_end_66 ?_
    refine Wm.topE (w := nI (160 * n7085 + 7)) (nI_add (160 * n7085) 7) ?_
    refine r_sld F (j := 160 * n7085 + 7) e_X10_end_67 h7091 (nI_clamp (by omega)) (vp_in_nI (by omega) (by decide)) (fun x7107 h7108 f7109 => ?_)
    refine r_callV F e_X10_end_68 (q_X10_gives (x_l X) V c T Z u7092 h P L _ _ n7085 4 x7104 x7107 h7091.1 (hok.b) hP (by omega)) cb_X10_gives ml_X10_319 im_X10_gives se_X10_gives h7091 rfl rfl (rest := []) rfl (Nat.le_of_ble_eq_true rfl) ⟨Nat.le_of_ble_eq_true rfl, Nat.le_of_ble_eq_true rfl⟩ ⟨Nat.le_of_ble_eq_true rfl, Nat.le_of_ble_eq_true rfl⟩ (fun r σ7110 hp => ?_)
    obtain ⟨h7111, rfl⟩ := hp
    have h7112 := HS.trans h7091 h7111 (by decide)
    refine m_aload_n F rfl e_X10_end_71 ?_
    refine r_getC F e_X10_end_72 fl_X10_59 h7112 ((fld_eq (h7111.2 c (by rw [show kC c c = 1 from kC_at (k := 0) (by decide)]; decide))).trans f7096) ?_
    refine m_iload_n F rfl e_X10_end_75 ?_
    refine m_iconst F (v := 0) (by decide) e_X10_end_76 ?_
    refine m_iadd F e_X10_end_77 ?_
    refine Wm.topE (w := nI (160 * n7085)) (nI_add (160 * n7085) 0) ?_
    refine m_ldc2 F kc_X10_234 e_X10_end_78 ?_
    refine r_sst F (g' := (⟨T, Z, u7092, h, P, (updL L n7085 (2, (L n7085).2.1, (L n7085).2.2.1, (L n7085).2.2.2))⟩ : RG)) (j := 160 * n7085) e_X10_end_81 h7112 (by decide) (nI_clamp (by omega)) (vp_in_nI (by omega) (by decide)) (fun f q => EJ_up (l := n7085) (r := 0) (by omega) (by decide) q rfl (by intro r' h1 h2 y hy; revert hy; unfold EL; split <;> simp_all)) CR.row (fun σ7113 h7114 g7115 => ?_)
    obtain ⟨L7116, eL7116⟩ : ∃ L9, L9 = (updL L n7085 (2, (L n7085).2.1, (L n7085).2.2.1, (L n7085).2.2.2)) := ⟨_, rfl⟩
    rw [← eL7116] at h7114
    have fL7116 : L7116 n7085 = (2, (L n7085).2.1, (L n7085).2.2.1, (L n7085).2.2.2) := by rw [eL7116]; exact if_pos rfl
    have fL71160 : (L7116 n7085).1 = 2 := by rw [fL7116]
    have fL71161 : (L7116 n7085).2.1 = (L n7085).2.1 := by rw [fL7116]
    have fL71162 : (L7116 n7085).2.2.1 = (L n7085).2.2.1 := by rw [fL7116]
    have fL71163 : (L7116 n7085).2.2.2 = (L n7085).2.2.2 := by rw [fL7116]
    have oL7116 : ∀ i, i ≠ n7085 → L7116 i = L i := fun i hi => by rw [eL7116]; exact if_neg hi
    have pL7116 : (L7116 4).1 = (L 4).1 := by rw [oL7116 4 (by omega)]
    refine m_lload_n F rfl e_X10_end_82 ?_
    have ok7117 : OKL P.n0 L7116 := OKL.upd hok (l := n7085) (by omega) (fun i hi => (oL7116 i hi)) (by have h9 := hok.2 n7085 (by omega); omega)
    exact m_lret F hQ e_X10_end_83 (⟨u7092, by omega, L7116, ok7117, h7114, _, rfl⟩)
set_option maxRecDepth 20000 in
theorem q_X10_down (l : Launch) (V : VX) (c T Z u h : Nat) (P : NP) (L : Nat → LQ) (N : Nat) (σ : Mem) (x901 : Int32) (x902 : Int64) (h0 : HR V c ⟨T, Z, u, h, P, L⟩ σ) (hok : OKL P.n0 L) (hP : OKP P) (hp0 : u ≤ 20) (hp1 : P.kk = P.n0) : Ct l V yX10_down cX10_down 4 (some .long) 3 0 0 N σ [.ref c, .int x901, .long x902] (fun r τ => ∃ u9, u9 ≤ 20 ∧ ∃ L9, OKL P.n0 L9 ∧ HS V c (⟨T, Z, u9, h, P, L9⟩ : RG) [0, 2, 3, 4, 5, 6, 7, 8, 9, 10, 11, 12, 13, 14, 15, 16, 18, 19, 20, 22] σ τ ∧ ∃ x : Int64, r = some (.long x)) := by
  refine Ct.of (by decide) (Nat.le_of_ble_eq_true rfl) [(0, .ref c), (1, .int x901), (2, .long x902)] rfl (fun X hX F hQ => ?_)
  have hPP := hP
  unfold OKP at hPP
  have h1 : HS V c ⟨T, Z, u, h, P, L⟩ [0, 2, 3, 4, 5, 6, 7, 8, 9, 10, 11, 12, 13, 14, 15, 16, 18, 19, 20, 22] σ σ := HS.start h0
  refine m_aload_n F rfl e_X10_down_0 ?_
  refine m_iconst F (v := 0) (by decide) e_X10_down_1 ?_
  refine r_put F (g' := (⟨T, Z, u, h, P, L⟩ : RG)) e_X10_down_2 fp_X10_91 h1 (by decide) ⟨_, rfl⟩ (fun _ _ _ _ q => q) (fun _ _ _ q => q) rfl rfl (by decide) (fun σ7118 h7119 g7120 g7121 f7122 => ?_)
  refine m_aload_n F rfl e_X10_down_5 ?_
  refine m_iload_n F rfl e_X10_down_6 ?_
  refine r_callV F e_X10_down_7 (q_X10_isRunning (x_l X) V c T Z u h P L _ _ x901 h7119.1 (hok.b) hP ) cb_X10_isRunning ml_X10_301 im_X10_isRunning se_X10_isRunning h7119 rfl rfl (rest := []) rfl (Nat.le_of_ble_eq_true rfl) ⟨Nat.le_of_ble_eq_true rfl, Nat.le_of_ble_eq_true rfl⟩ ⟨Nat.le_of_ble_eq_true rfl, Nat.le_of_ble_eq_true rfl⟩ (fun r σ7123 hp => ?_)
  obtain ⟨h7124, c7126⟩ := hp
  have h7125 := HS.trans h7119 h7124 (by decide)
  rcases c7126 with rfl | ⟨n7127, h7128, h7129, e7130, rfl⟩
  · refine m_if_eq F e_X10_down_10 (fun _ => ?_) (fun q => absurd (by decide) q)
    refine m_ldc2 F kc_X10_299 e_X10_down_37 ?_
    exact m_lret F hQ e_X10_down_40 (⟨u, by omega, L, hok, h7125, _, rfl⟩)
  · subst e7130
    refine m_if_eq F e_X10_down_10 (fun q => absurd q (by decide)) (fun _ => ?_)
    refine m_lload_n F rfl e_X10_down_13 ?_
    refine m_lconst F (v := 1) (by decide) e_X10_down_14 ?_
    refine m_lcmp F e_X10_down_15 ?_
    refine Wm.top (fun x7131 _ => ?_)
    refine m_if_lt F e_X10_down_16 (fun q16 => ?_) (fun q16 => ?_)
    · refine m_ldc2 F kc_X10_299 e_X10_down_37 ?_
      exact m_lret F hQ e_X10_down_40 (⟨u, by omega, L, hok, h7125, _, rfl⟩)
    · obtain ⟨n7132, hn7132, rfl⟩ := nI_nn (x := x7131) (fun e => q16 (Int32.lt_of_lt_of_le e (by decide)))
      have c16 : n7132 ≥ 0 := by have hh := mt (nI_ltI (a := n7132) (b := 0) (by omega) (by omega)).mpr q16; omega
      refine m_lload_n F rfl e_X10_down_19 ?_
      refine m_aload_n F rfl e_X10_down_20 ?_
      refine r_get F e_X10_down_21 fl_X10_59 h7125 rfl (fun v hv f7133 => ?_)
      obtain rfl : v = .ref (c + 16) := hv
      refine m_sipush F (v := 160) (by decide) e_X10_down_24 ?_
      refine m_iload_n F rfl e_X10_down_27 ?_
      refine m_imul F e_X10_down_28 ?_
      refine Wm.topE (w := nI (160 * n7127)) (pk_mul 160 n7127) ?_
      refine m_bipush F (v := 7) (by decide) e_X10_down_29 ?_
      refine m_iadd F e_X10_down_31 ?_
      refine Wm.topE (w := nI (160 * n7127 + 7)) (nI_add (160 * n7127) 7) ?_
      refine r_sld F (j := 160 * n7127 + 7) e_X10_down_32 h7125 (nI_clamp (by omega)) (vp_in_nI (by omega) (by decide)) (fun x7134 h7135 f7136 => ?_)
      refine m_lcmp F e_X10_down_33 ?_
      refine Wm.top (fun x7137 _ => ?_)
      refine m_if_le F e_X10_down_34 (fun q34 => ?_) (fun q34 => ?_)
      · refine m_aload_n F rfl e_X10_down_41 ?_
        refine r_callV F e_X10_down_42 (q_X10_remembers (x_l X) V c T Z u h P L _ _  h7125.1 (hok) hP (by first | omega | assumption | decide) (by first | omega | assumption | decide)) cb_X10_remembers ml_X10_286 im_X10_remembers se_X10_remembers h7125 rfl rfl (rest := []) rfl (Nat.le_of_ble_eq_true rfl) ⟨Nat.le_of_ble_eq_true rfl, Nat.le_of_ble_eq_true rfl⟩ ⟨Nat.le_of_ble_eq_true rfl, Nat.le_of_ble_eq_true rfl⟩ (fun r σ7138 hp => ?_)
        obtain ⟨u7141, hu7141, h7139, rfl⟩ := hp
        have h7140 := HS.trans h7125 h7139 (by decide)
        refine m_aload_n F rfl e_X10_down_45 ?_
        refine r_get F e_X10_down_46 fl_X10_59 h7140 rfl (fun v hv f7142 => ?_)
        obtain rfl : v = .ref (c + 16) := hv
        refine m_sipush F (v := 160) (by decide) e_X10_down_49 ?_
        refine m_iload_n F rfl e_X10_down_52 ?_
        refine m_imul F e_X10_down_53 ?_
        refine Wm.topE (w := nI (160 * n7127)) (pk_mul 160 n7127) ?_
        refine m_bipush F (v := 7) (by decide) e_X10_down_54 ?_
        refine m_iadd F e_X10_down_56 ?_
        refine Wm.topE (w := nI (160 * n7127 + 7)) (nI_add (160 * n7127) 7) ?_
        refine m_dup2_11 F rfl rfl e_X10_down_57 ?_
        refine r_sld F (j := 160 * n7127 + 7) e_X10_down_58 h7140 (nI_clamp (by omega)) (vp_in_nI (by omega) (by decide)) (fun x7143 h7144 f7145 => ?_)
        refine m_lload_n F rfl e_X10_down_59 ?_
        refine m_lsub F e_X10_down_60 ?_
        refine Wm.topl (fun x7146 _ => ?_)
        refine r_sst F (g' := (⟨T, Z, u7141, h, P, L⟩ : RG)) (j := 160 * n7127 + 7) e_X10_down_61 h7140 (by decide) (nI_clamp (by omega)) (vp_in_nI (by omega) (by decide)) (fun f q => EJ_same (EJ_lw (l := n7127) (r := 7) (by omega) (by omega) (by omega)) q) (fun _ _ _ q => q) (fun σ7147 h7148 g7149 => ?_)
        refine m_aload_n F rfl e_X10_down_62 ?_
        refine m_iconst F (v := 5) (by decide) e_X10_down_63 ?_
        refine m_iload_n F rfl e_X10_down_64 ?_
        refine m_lconst F (v := 0) (by decide) e_X10_down_65 ?_
        refine m_lconst F (v := 0) (by decide) e_X10_down_66 ?_
        refine m_lload_n F rfl e_X10_down_67 ?_
        refine m_lneg F e_X10_down_68 ?_
        refine Wm.topl (fun x7150 _ => ?_)
        refine m_lconst F (v := 0) (by decide) e_X10_down_69 ?_
        refine m_lconst F (v := 0) (by decide) e_X10_down_70 ?_
        refine m_lload_n F rfl e_X10_down_71 ?_
        refine r_callV F e_X10_down_72 (q_X10_entry (x_l X) V c T Z u7141 h P L _ _ 5 (nI n7127) 0 0 x7150 0 0 x902 h7148.1 (hok.b) hP ) cb_X10_entry ml_X10_253 im_X10_entry se_X10_entry h7148 rfl rfl (rest := []) rfl (Nat.le_of_ble_eq_true rfl) ⟨Nat.le_of_ble_eq_true rfl, Nat.le_of_ble_eq_true rfl⟩ ⟨Nat.le_of_ble_eq_true rfl, Nat.le_of_ble_eq_true rfl⟩ (fun r σ7151 hp => ?_)
        obtain ⟨h7152, rfl⟩ := hp
        have h7153 := HS.trans h7148 h7152 (by decide)
        refine m_aload_n F rfl e_X10_down_75 ?_
        refine r_getC F e_X10_down_76 fl_X10_59 h7153 ((fld_eq (h7152.2 c (by rw [show kC c c = 1 from kC_at (k := 0) (by decide)]; decide))).trans ((fld_eq (g7149 _ (by omega))).trans f7142)) ?_
        refine m_sipush F (v := 160) (by decide) e_X10_down_79 ?_
        refine m_iload_n F rfl e_X10_down_82 ?_
        refine m_imul F e_X10_down_83 ?_
        refine Wm.topE (w := nI (160 * n7127)) (pk_mul 160 n7127) ?_
        refine m_bipush F (v := 7) (by decide) e_X10_down_84 ?_
        refine m_iadd F e_X10_down_86 ?_
        refine Wm.topE (w := nI (160 * n7127 + 7)) (nI_add (160 * n7127) 7) ?_
        refine r_sld F (j := 160 * n7127 + 7) e_X10_down_87 h7153 (nI_clamp (by omega)) (vp_in_nI (by omega) (by decide)) (fun x7154 h7155 f7156 => ?_)
        exact m_lret F hQ e_X10_down_88 (⟨u7141, by omega, L, hok, h7153, _, rfl⟩)
      · obtain ⟨n7157, hn7157, rfl⟩ := nI_nn (x := x7137) (fun e => q34 (Int32.le_trans (Int32.le_of_lt e) (by decide)))
        have c34 : n7157 > 0 := by have hh := mt (nI_leI (a := n7157) (b := 0) (by omega) (by omega)).mpr q34; omega
        refine m_ldc2 F kc_X10_299 e_X10_down_37 ?_
        exact m_lret F hQ e_X10_down_40 (⟨u, by omega, L, hok, h7125, _, rfl⟩)
set_option maxRecDepth 20000 in
theorem q_X10_putOff (l : Launch) (V : VX) (c T Z u h : Nat) (P : NP) (L : Nat → LQ) (N : Nat) (σ : Mem) (x901 : Int32) (x902 : Int32) (x903 : Int32) (h0 : HR V c ⟨T, Z, u, h, P, L⟩ σ) (hok : OKL P.n0 L) (hP : OKP P) (hp0 : u ≤ 20) (hp1 : P.kk = P.n0) : Ct l V yX10_putOff cX10_putOff 5 (some .long) 3 0 0 N σ [.ref c, .int x901, .int x902, .int x903] (fun r τ => ∃ u9, u9 ≤ 20 ∧ ∃ L9, OKL P.n0 L9 ∧ HS V c (⟨T, Z, u9, h, P, L9⟩ : RG) [0, 2, 3, 4, 5, 6, 7, 8, 9, 10, 11, 12, 13, 14, 15, 16, 18, 19, 20, 22] σ τ ∧ ∃ x : Int64, r = some (.long x)) := by
  refine Ct.of (by decide) (Nat.le_of_ble_eq_true rfl) [(0, .ref c), (1, .int x901), (2, .int x902), (3, .int x903)] rfl (fun X hX F hQ => ?_)
  have hPP := hP
  unfold OKP at hPP
  have h1 : HS V c ⟨T, Z, u, h, P, L⟩ [0, 2, 3, 4, 5, 6, 7, 8, 9, 10, 11, 12, 13, 14, 15, 16, 18, 19, 20, 22] σ σ := HS.start h0
  refine m_aload_n F rfl e_X10_putOff_0 ?_
  refine m_iconst F (v := 0) (by decide) e_X10_putOff_1 ?_
  refine r_put F (g' := (⟨T, Z, u, h, P, L⟩ : RG)) e_X10_putOff_2 fp_X10_91 h1 (by decide) ⟨_, rfl⟩ (fun _ _ _ _ q => q) (fun _ _ _ q => q) rfl rfl (by decide) (fun σ7158 h7159 g7160 g7161 f7162 => ?_)
  refine m_aload_n F rfl e_X10_putOff_5 ?_
  refine m_iload_n F rfl e_X10_putOff_6 ?_
  refine r_callV F e_X10_putOff_7 (q_X10_isRunning (x_l X) V c T Z u h P L _ _ x901 h7159.1 (hok.b) hP ) cb_X10_isRunning ml_X10_301 im_X10_isRunning se_X10_isRunning h7159 rfl rfl (rest := []) rfl (Nat.le_of_ble_eq_true rfl) ⟨Nat.le_of_ble_eq_true rfl, Nat.le_of_ble_eq_true rfl⟩ ⟨Nat.le_of_ble_eq_true rfl, Nat.le_of_ble_eq_true rfl⟩ (fun r σ7163 hp => ?_)
  obtain ⟨h7164, c7166⟩ := hp
  have h7165 := HS.trans h7159 h7164 (by decide)
  rcases c7166 with rfl | ⟨n7167, h7168, h7169, e7170, rfl⟩
  · refine m_if_eq F e_X10_putOff_10 (fun _ => ?_) (fun q => absurd (by decide) q)
    refine m_ldc2 F kc_X10_299 e_X10_putOff_54 ?_
    exact m_lret F hQ e_X10_putOff_57 (⟨u, by omega, L, hok, h7165, _, rfl⟩)
  · subst e7170
    refine m_if_eq F e_X10_putOff_10 (fun q => absurd q (by decide)) (fun _ => ?_)
    have hl7171 := hok.2 n7167 (by omega)
    have hl7172 := hok.2 n7167 (by omega)
    have hl7173 := hok.2 n7167 (by omega)
    refine m_iload_n F rfl e_X10_putOff_13 ?_
    refine m_i2l F e_X10_putOff_14 ?_
    refine m_aload_n F rfl e_X10_putOff_15 ?_
    refine r_get F e_X10_putOff_16 fl_X10_59 h7165 rfl (fun v hv f7174 => ?_)
    obtain rfl : v = .ref (c + 16) := hv
    refine m_sipush F (v := 160) (by decide) e_X10_putOff_19 ?_
    refine m_iload_n F rfl e_X10_putOff_22 ?_
    refine m_imul F e_X10_putOff_23 ?_
    refine Wm.topE (w := nI (160 * n7167)) (pk_mul 160 n7167) ?_
    refine m_iconst F (v := 5) (by decide) e_X10_putOff_24 ?_
    refine m_iadd F e_X10_putOff_25 ?_
    refine Wm.topE (w := nI (160 * n7167 + 5)) (nI_add (160 * n7167) 5) ?_
    refine r_sld F (j := 160 * n7167 + 5) e_X10_putOff_26 h7165 (nI_clamp (by omega)) (vp_in_nI (by omega) (by decide)) (fun x7175 h7176 f7177 => ?_)
    have hl7178 := hok.2 n7167 (by omega)
    obtain rfl : x7175 = lN (L n7167).2.2.2 := (EJ_l (l := n7167) (r := 5) (by omega) (by decide)).mp h7176
    refine m_lcmp F e_X10_putOff_27 ?_
    refine m_if_le F e_X10_putOff_28 (fun q28 => ?_) (fun q28 => ?_)
    · refine m_ldc2 F kc_X10_299 e_X10_putOff_54 ?_
      exact m_lret F hQ e_X10_putOff_57 (⟨u, by omega, L, hok, h7165, _, rfl⟩)
    · obtain ⟨n7179, gn7179, hn7179, rfl⟩ := i2l_gt (x := x902) (g := (L n7167).2.2.2) (by omega) (fun e => q28 ((lg_cmp_le _ _).mpr e))
      refine m_iload_n F rfl e_X10_putOff_31 ?_
      refine m_iload_n F rfl e_X10_putOff_32 ?_
      refine m_icmp_le F e_X10_putOff_33 (fun q33 => ?_) (fun q33 => ?_)
      · refine m_ldc2 F kc_X10_299 e_X10_putOff_54 ?_
        exact m_lret F hQ e_X10_putOff_57 (⟨u, by omega, L, hok, h7165, _, rfl⟩)
      · obtain ⟨n7180, hn7180, rfl⟩ := nI_nn (x := x903) (fun e => q33 (Int32.le_trans (Int32.le_of_lt e) (nI_0le (by omega))))
        have c33 : n7180 > n7179 := by have hh := mt (nI_leI (a := n7180) (b := n7179) (by omega) (by omega)).mpr q33; omega
        refine m_iload_n F rfl e_X10_putOff_36 ?_
        refine m_i2l F e_X10_putOff_37 ?_
        refine Wm.toplE (w := lN n7180) (nI_l (by omega)) ?_
        refine m_aload_n F rfl e_X10_putOff_38 ?_
        refine r_getC F e_X10_putOff_39 fl_X10_59 h7165 (f7174) ?_
        refine m_sipush F (v := 160) (by decide) e_X10_putOff_42 ?_
        refine m_iload_n F rfl e_X10_putOff_45 ?_
        refine m_imul F e_X10_putOff_46 ?_
        refine Wm.topE (w := nI (160 * n7167)) (pk_mul 160 n7167) ?_
        refine m_iconst F (v := 1) (by decide) e_X10_putOff_47 ?_
        refine m_iadd F e_X10_putOff_48 ?_
        refine Wm.topE (w := nI (160 * n7167 + 1)) (nI_add (160 * n7167) 1) ?_
        refine r_sld F (j := 160 * n7167 + 1) e_X10_putOff_49 h7165 (nI_clamp (by omega)) (vp_in_nI (by omega) (by decide)) (fun x7181 h7182 f7183 => ?_)
        have hl7184 := hok.2 n7167 (by omega)
        obtain rfl : x7181 = lN (L n7167).2.1 := (EJ_l (l := n7167) (r := 1) (by omega) (by decide)).mp h7182
        refine m_lcmp F e_X10_putOff_50 ?_
        refine m_if_le F e_X10_putOff_51 (fun q51 => ?_) (fun q51 => ?_)
        · have c51 : n7180 ≤ ((L n7167).2.1) := (lN_le (a := n7180) (b := ((L n7167).2.1)) (by omega) (by omega)).mp ((lg_cmp_le _ _).mp q51)
          refine m_aload_n F rfl e_X10_putOff_58 ?_
          refine r_callV F e_X10_putOff_59 (q_X10_remembers (x_l X) V c T Z u h P L _ _  h7165.1 (hok) hP (by first | omega | assumption | decide) (by first | omega | assumption | decide)) cb_X10_remembers ml_X10_286 im_X10_remembers se_X10_remembers h7165 rfl rfl (rest := []) rfl (Nat.le_of_ble_eq_true rfl) ⟨Nat.le_of_ble_eq_true rfl, Nat.le_of_ble_eq_true rfl⟩ ⟨Nat.le_of_ble_eq_true rfl, Nat.le_of_ble_eq_true rfl⟩ (fun r σ7185 hp => ?_)
          obtain ⟨u7188, hu7188, h7186, rfl⟩ := hp
          have h7187 := HS.trans h7165 h7186 (by decide)
          refine m_sipush F (v := 160) (by decide) e_X10_putOff_62 ?_
          refine m_iload_n F rfl e_X10_putOff_65 ?_
          refine m_imul F e_X10_putOff_66 ?_
          refine Wm.topE (w := nI (160 * n7167)) (pk_mul 160 n7167) ?_
          refine m_istore F (lv' := [(4, .int (nI (160 * n7167))), (0, .ref c), (1, .int (nI n7167)), (2, .int (nI n7179)), (3, .int (nI n7180))]) e_X10_putOff_67 (by decide) rfl ?_
          refine m_aload_n F rfl e_X10_putOff_69 ?_
          refine r_get F e_X10_putOff_70 fl_X10_59 h7187 rfl (fun v hv f7189 => ?_)
          obtain rfl : v = .ref (c + 16) := hv
          refine m_iload F rfl e_X10_putOff_73 ?_
          refine m_bipush F (v := 13) (by decide) e_X10_putOff_75 ?_
          refine m_iadd F e_X10_putOff_77 ?_
          refine Wm.topE (w := nI (160 * n7167 + 13)) (nI_add (160 * n7167) 13) ?_
          refine m_iload_n F rfl e_X10_putOff_78 ?_
          refine m_iadd F e_X10_putOff_79 ?_
          refine Wm.topE (w := nI ((160 * n7167 + 13) + n7180)) (nI_add (160 * n7167 + 13) n7180) ?_
          refine m_iconst F (v := 1) (by decide) e_X10_putOff_80 ?_
          refine m_isub F e_X10_putOff_81 ?_
          refine Wm.topE (w := nI (((160 * n7167 + 13) + n7180) - 1)) (pk_sub (a := (160 * n7167 + 13) + n7180) (b := 1) (by omega)) ?_
          refine m_dup2_11 F rfl rfl e_X10_putOff_82 ?_
          refine r_sld F (j := ((160 * n7167 + 13) + n7180) - 1) e_X10_putOff_83 h7187 (nI_clamp (by omega)) (vp_in_nI (by omega) (by decide)) (fun x7190 h7191 f7192 => ?_)
          refine m_aload_n F rfl e_X10_putOff_84 ?_
          refine r_getC F e_X10_putOff_85 fl_X10_59 h7187 (f7189) ?_
          refine m_iload F rfl e_X10_putOff_88 ?_
          refine m_bipush F (v := 13) (by decide) e_X10_putOff_90 ?_
          refine m_iadd F e_X10_putOff_92 ?_
          refine Wm.topE (w := nI (160 * n7167 + 13)) (nI_add (160 * n7167) 13) ?_
          refine m_iload_n F rfl e_X10_putOff_93 ?_
          refine m_iadd F e_X10_putOff_94 ?_
          refine Wm.topE (w := nI ((160 * n7167 + 13) + n7179)) (nI_add (160 * n7167 + 13) n7179) ?_
          refine m_iconst F (v := 1) (by decide) e_X10_putOff_95 ?_
          refine m_isub F e_X10_putOff_96 ?_
          refine Wm.topE (w := nI (((160 * n7167 + 13) + n7179) - 1)) (pk_sub (a := (160 * n7167 + 13) + n7179) (b := 1) (by omega)) ?_
          refine r_sld F (j := ((160 * n7167 + 13) + n7179) - 1) e_X10_putOff_97 h7187 (nI_clamp (by omega)) (vp_in_nI (by omega) (by decide)) (fun x7193 h7194 f7195 => ?_)
          refine m_ladd F e_X10_putOff_98 ?_
          refine Wm.topl (fun x7196 _ => ?_)
          refine r_sst F (g' := (⟨T, Z, u7188, h, P, L⟩ : RG)) (j := ((160 * n7167 + 13) + n7180) - 1) e_X10_putOff_99 h7187 (by decide) (nI_clamp (by omega)) (vp_in_nI (by omega) (by decide)) (fun f q => EJ_same (EJ_lw (l := n7167) (r := (((160 * n7167 + 13) + n7180) - 1) - 160 * n7167) (by omega) (by omega) (by omega)) q) (fun _ _ _ q => q) (fun σ7197 h7198 g7199 => ?_)
          refine m_aload_n F rfl e_X10_putOff_100 ?_
          refine r_getC F e_X10_putOff_101 fl_X10_59 h7198 ((fld_eq (g7199 _ (by omega))).trans f7189) ?_
          refine m_iload F rfl e_X10_putOff_104 ?_
          refine m_bipush F (v := 85) (by decide) e_X10_putOff_106 ?_
          refine m_iadd F e_X10_putOff_108 ?_
          refine Wm.topE (w := nI (160 * n7167 + 85)) (nI_add (160 * n7167) 85) ?_
          refine m_iload_n F rfl e_X10_putOff_109 ?_
          refine m_iadd F e_X10_putOff_110 ?_
          refine Wm.topE (w := nI ((160 * n7167 + 85) + n7180)) (nI_add (160 * n7167 + 85) n7180) ?_
          refine m_iconst F (v := 1) (by decide) e_X10_putOff_111 ?_
          refine m_isub F e_X10_putOff_112 ?_
          refine Wm.topE (w := nI (((160 * n7167 + 85) + n7180) - 1)) (pk_sub (a := (160 * n7167 + 85) + n7180) (b := 1) (by omega)) ?_
          refine m_dup2_11 F rfl rfl e_X10_putOff_113 ?_
          refine r_sld F (j := ((160 * n7167 + 85) + n7180) - 1) e_X10_putOff_114 h7198 (nI_clamp (by omega)) (vp_in_nI (by omega) (by decide)) (fun x7200 h7201 f7202 => ?_)
          refine m_aload_n F rfl e_X10_putOff_115 ?_
          refine r_getC F e_X10_putOff_116 fl_X10_59 h7198 ((fld_eq (g7199 _ (by omega))).trans f7189) ?_
          refine m_iload F rfl e_X10_putOff_119 ?_
          refine m_bipush F (v := 85) (by decide) e_X10_putOff_121 ?_
          refine m_iadd F e_X10_putOff_123 ?_
          refine Wm.topE (w := nI (160 * n7167 + 85)) (nI_add (160 * n7167) 85) ?_
          refine m_iload_n F rfl e_X10_putOff_124 ?_
          refine m_iadd F e_X10_putOff_125 ?_
          refine Wm.topE (w := nI ((160 * n7167 + 85) + n7179)) (nI_add (160 * n7167 + 85) n7179) ?_
          refine m_iconst F (v := 1) (by decide) e_X10_putOff_126 ?_
          refine m_isub F e_X10_putOff_127 ?_
          refine Wm.topE (w := nI (((160 * n7167 + 85) + n7179) - 1)) (pk_sub (a := (160 * n7167 + 85) + n7179) (b := 1) (by omega)) ?_
          refine r_sld F (j := ((160 * n7167 + 85) + n7179) - 1) e_X10_putOff_128 h7198 (nI_clamp (by omega)) (vp_in_nI (by omega) (by decide)) (fun x7203 h7204 f7205 => ?_)
          refine m_ladd F e_X10_putOff_129 ?_
          refine Wm.topl (fun x7206 _ => ?_)
          refine r_sst F (g' := (⟨T, Z, u7188, h, P, L⟩ : RG)) (j := ((160 * n7167 + 85) + n7180) - 1) e_X10_putOff_130 h7198 (by decide) (nI_clamp (by omega)) (vp_in_nI (by omega) (by decide)) (fun f q => EJ_same (EJ_lw (l := n7167) (r := (((160 * n7167 + 85) + n7180) - 1) - 160 * n7167) (by omega) (by omega) (by omega)) q) (fun _ _ _ q => q) (fun σ7207 h7208 g7209 => ?_)
          refine m_aload_n F rfl e_X10_putOff_131 ?_
          refine r_getC F e_X10_putOff_132 fl_X10_59 h7208 ((fld_eq (g7209 _ (by omega))).trans ((fld_eq (g7199 _ (by omega))).trans f7189)) ?_
          refine m_iload F rfl e_X10_putOff_135 ?_
          refine m_bipush F (v := 13) (by decide) e_X10_putOff_137 ?_
          refine m_iadd F e_X10_putOff_139 ?_
          refine Wm.topE (w := nI (160 * n7167 + 13)) (nI_add (160 * n7167) 13) ?_
          refine m_iload_n F rfl e_X10_putOff_140 ?_
          refine m_iadd F e_X10_putOff_141 ?_
          refine Wm.topE (w := nI ((160 * n7167 + 13) + n7179)) (nI_add (160 * n7167 + 13) n7179) ?_
          refine m_iconst F (v := 1) (by decide) e_X10_putOff_142 ?_
          refine m_isub F e_X10_putOff_143 ?_
          refine Wm.topE (w := nI (((160 * n7167 + 13) + n7179) - 1)) (pk_sub (a := (160 * n7167 + 13) + n7179) (b := 1) (by omega)) ?_
          refine m_lconst F (v := 0) (by decide) e_X10_putOff_144 ?_
          refine r_sst F (g' := (⟨T, Z, u7188, h, P, L⟩ : RG)) (j := ((160 * n7167 + 13) + n7179) - 1) e_X10_putOff_145 h7208 (by decide) (nI_clamp (by omega)) (vp_in_nI (by omega) (by decide)) (fun f q => EJ_same (EJ_lw (l := n7167) (r := (((160 * n7167 + 13) + n7179) - 1) - 160 * n7167) (by omega) (by omega) (by omega)) q) (fun _ _ _ q => q) (fun σ7210 h7211 g7212 => ?_)
          refine m_aload_n F rfl e_X10_putOff_146 ?_
          refine r_getC F e_X10_putOff_147 fl_X10_59 h7211 ((fld_eq (g7212 _ (by omega))).trans ((fld_eq (g7209 _ (by omega))).trans ((fld_eq (g7199 _ (by omega))).trans f7189))) ?_
          refine m_iload F rfl e_X10_putOff_150 ?_
          refine m_bipush F (v := 85) (by decide) e_X10_putOff_152 ?_
          refine m_iadd F e_X10_putOff_154 ?_
          refine Wm.topE (w := nI (160 * n7167 + 85)) (nI_add (160 * n7167) 85) ?_
          refine m_iload_n F rfl e_X10_putOff_155 ?_
          refine m_iadd F e_X10_putOff_156 ?_
          refine Wm.topE (w := nI ((160 * n7167 + 85) + n7179)) (nI_add (160 * n7167 + 85) n7179) ?_
          refine m_iconst F (v := 1) (by decide) e_X10_putOff_157 ?_
          refine m_isub F e_X10_putOff_158 ?_
          refine Wm.topE (w := nI (((160 * n7167 + 85) + n7179) - 1)) (pk_sub (a := (160 * n7167 + 85) + n7179) (b := 1) (by omega)) ?_
          refine m_lconst F (v := 0) (by decide) e_X10_putOff_159 ?_
          refine r_sst F (g' := (⟨T, Z, u7188, h, P, L⟩ : RG)) (j := ((160 * n7167 + 85) + n7179) - 1) e_X10_putOff_160 h7211 (by decide) (nI_clamp (by omega)) (vp_in_nI (by omega) (by decide)) (fun f q => EJ_same (EJ_lw (l := n7167) (r := (((160 * n7167 + 85) + n7179) - 1) - 160 * n7167) (by omega) (by omega) (by omega)) q) (fun _ _ _ q => q) (fun σ7213 h7214 g7215 => ?_)
          refine m_aload_n F rfl e_X10_putOff_161 ?_
          refine m_iload_n F rfl e_X10_putOff_162 ?_
          refine r_callV F e_X10_putOff_163 (q_X10_remeasures (x_l X) V c T Z u7188 h P L _ _ n7167 h7214.1 (hok.b) hP (by omega)) cb_X10_remeasures ml_X10_277 im_X10_remeasures se_X10_remeasures h7214 rfl rfl (rest := []) rfl (Nat.le_of_ble_eq_true rfl) ⟨Nat.le_of_ble_eq_true rfl, Nat.le_of_ble_eq_true rfl⟩ ⟨Nat.le_of_ble_eq_true rfl, Nat.le_of_ble_eq_true rfl⟩ (fun r σ7216 hp => ?_)
          obtain ⟨h7217, x7219, rfl⟩ := hp
          have h7218 := HS.trans h7214 h7217 (by decide)
          exact m_lret F hQ e_X10_putOff_166 (⟨u7188, by omega, L, hok, h7218, _, rfl⟩)
        · have c51 : n7180 > ((L n7167).2.1) := by have hh := mt (fun h9 => (lg_cmp_le (lN n7180) (lN ((L n7167).2.1))).mpr ((lN_le (a := n7180) (b := ((L n7167).2.1)) (by omega) (by omega)).mpr h9)) q51; omega
          refine m_ldc2 F kc_X10_299 e_X10_putOff_54 ?_
          exact m_lret F hQ e_X10_putOff_57 (⟨u, by omega, L, hok, h7165, _, rfl⟩)
set_option maxRecDepth 20000 in
theorem lq_X10_becomes_58 {V : VX} {X : MX} {N : Nat} {σ : Mem} {c T Z u h : Nat} {P : NP} {L : Nat → LQ}  {n901 : Nat} (F : Fx V X yX10_becomes cX10_becomes 6 none (rmd 0 0 0)) (hQ : Rt V X 0 0 N (fun r τ => HS V c (⟨T, Z, u, h, P, L⟩ : RG) [0, 1, 2, 3, 4, 5, 6, 7, 8, 9, 10, 11, 12, 13, 14, 15, 16, 18, 19, 20, 21, 22, 23] σ τ ∧ r = none)) (hob : OKB L) (hP : OKP P) (hn901 : n901 ≤ 2000) (hp0 : 1 ≤ n901)  : ∀ (fuel : Nat) (t : Nat) (k : Nat) (τ : Mem), HS V c (⟨T, Z, u, h, P, L⟩ : RG) [0, 1, 2, 3, 4, 5, 6, 7, 8, 9, 10, 11, 12, 13, 14, 15, 16, 18, 19, 20, 21, 22, 23] σ τ → t ≤ 100 ∧ k ≤ 100 → 100 - k < fuel → Wm V X 6 N τ 0 0 58 [(0, .ref c), (1, .long (lN n901)), (4, .int (nI t)), (5, .int (nI k))] [] := by
  intro fuel
  induction fuel with
  | zero => intros; rename_i hm; exact absurd hm (Nat.not_lt_zero _)
  | succ fuel ih =>
    intro t k τ h1 hi hm
    have hPP := hP
    unfold OKP at hPP
    refine m_iload F rfl e_X10_becomes_58 ?_
    refine m_iload F rfl e_X10_becomes_60 ?_
    refine m_icmp_ge F e_X10_becomes_62 (fun q62 => ?_) (fun q62 => ?_)
    · have c62 : k ≥ t := (nI_leI (a := t) (b := k) (by omega) (by omega)).mp q62
      exact m_vret F hQ e_X10_becomes_83 (⟨h1, rfl⟩)
    · have c62 : k < t := by have hh := mt (nI_leI (a := t) (b := k) (by omega) (by omega)).mpr q62; omega
      refine m_aload_n F rfl e_X10_becomes_65 ?_
      refine r_get F e_X10_becomes_66 fl_X10_59 h1 rfl (fun v hv f7220 => ?_)
      obtain rfl : v = .ref (c + 16) := hv
      refine m_sipush F (v := 644) (by decide) e_X10_becomes_69 ?_
      refine m_iload F rfl e_X10_becomes_72 ?_
      refine m_iadd F e_X10_becomes_74 ?_
      refine Wm.topE (w := nI (644 + k)) (nI_add 644 k) ?_
      refine m_lload_n F rfl e_X10_becomes_75 ?_
      refine r_sst F (g' := (⟨T, Z, u, h, P, L⟩ : RG)) (j := 644 + k) e_X10_becomes_76 h1 (by decide) (nI_clamp (by omega)) (vp_in_nI (by omega) (by decide)) (fun f q => EJ_same ((EJ_i (p := k) (by omega)).mpr ⟨n901, by omega, by omega, rfl⟩) q) (fun _ _ _ q => q) (fun σ7221 h7222 g7223 => ?_)
      refine m_iinc F (v := nI (k + 1)) (lv' := [(5, .int (nI (k + 1))), (0, .ref c), (1, .long (lN n901)), (4, .int (nI t))]) e_X10_becomes_77 rfl (nI_add k 1) (by decide) rfl ?_
      refine m_goto F e_X10_becomes_80 ?_
      refine Wm.lvsub (lv' := [(0, .ref c), (1, .long (lN n901)), (4, .int (nI t)), (5, .int (nI (k + 1)))]) ?_ [1, 2, 3, 0] rfl
      exact ih t (k + 1) _ h7222 (by omega) (by omega)
set_option maxRecDepth 20000 in
theorem lq_X10_becomes_24 {V : VX} {X : MX} {N : Nat} {σ : Mem} {c T Z u h : Nat} {P : NP} {L : Nat → LQ}  {n901 : Nat} (F : Fx V X yX10_becomes cX10_becomes 6 none (rmd 0 0 0)) (hQ : Rt V X 0 0 N (fun r τ => HS V c (⟨T, Z, u, h, P, L⟩ : RG) [0, 1, 2, 3, 4, 5, 6, 7, 8, 9, 10, 11, 12, 13, 14, 15, 16, 18, 19, 20, 21, 22, 23] σ τ ∧ r = none)) (hob : OKB L) (hP : OKP P) (hn901 : n901 ≤ 2000) (hp0 : 1 ≤ n901)  : ∀ (fuel : Nat) (t : Nat) (k : Nat) (τ : Mem), HS V c (⟨T, Z, u, h, P, L⟩ : RG) [0, 1, 2, 3, 4, 5, 6, 7, 8, 9, 10, 11, 12, 13, 14, 15, 16, 18, 19, 20, 21, 22, 23] σ τ → t ≤ 100 ∧ k ≤ 7 → k < fuel → Wm V X 6 N τ 0 0 24 [(0, .ref c), (1, .long (lN n901)), (3, .int (nI ((L 4).1))), (4, .int (nI t)), (5, .int (nI k))] [] := by
  intro fuel
  induction fuel with
  | zero => intros; rename_i hm; exact absurd hm (Nat.not_lt_zero _)
  | succ fuel ih =>
    intro t k τ h1 hi hm
    have hPP := hP
    unfold OKP at hPP
    refine m_iload F rfl e_X10_becomes_24 ?_
    refine m_if_lt F e_X10_becomes_26 (fun q26 => ?_) (fun q26 => ?_)
    · have c26 : k < 0 := (nI_ltI (a := k) (b := 0) (by omega) (by omega)).mp q26
      have hl7224 := (hob).1
      have hl7225 := (hob).1
      have hl7226 := (hob).1
      refine m_iload_n F rfl e_X10_becomes_55 ?_
      refine m_istore F (lv' := [(5, .int (nI ((L 4).1))), (0, .ref c), (1, .long (lN n901)), (3, .int (nI ((L 4).1))), (4, .int (nI t))]) e_X10_becomes_56 (by decide) rfl ?_
      refine Wm.lvsub (lv' := [(0, .ref c), (1, .long (lN n901)), (4, .int (nI t)), (5, .int (nI ((L 4).1)))]) ?_ [1, 2, 4, 0] rfl
      exact lq_X10_becomes_58 F hQ hob hP hn901 hp0 (100 - ((L 4).1) + 1) t ((L 4).1) _ h1 (by omega) (Nat.lt_succ_self _)
    · have c26 : k ≥ 0 := by have hh := mt (nI_ltI (a := k) (b := 0) (by omega) (by omega)).mpr q26; omega
      have hl7227 := (hob).1
      have hl7228 := (hob).1
      have hl7229 := (hob).1
      refine m_aload_n F rfl e_X10_becomes_29 ?_
      refine r_get F e_X10_becomes_30 fl_X10_40 h1 rfl (fun v hv f7230 => ?_)
      obtain rfl : v = .ref (c + 11) := hv
      refine m_iload F rfl e_X10_becomes_33 ?_
      refine r_iald F (len := 16) (j := k) e_X10_becomes_35 h1 (fun _ h => h) (by decide) (nI_clamp (by omega)) (vp_in_nI (by omega) (by decide)) (fun x7231 h7232 f7233 => ?_)
      obtain ⟨n7234, hn7234, rfl⟩ := h7232
      refine m_iload_n F rfl e_X10_becomes_36 ?_
      refine m_icmp_le F e_X10_becomes_37 (fun q37 => ?_) (fun q37 => ?_)
      · have c37 : n7234 ≤ ((L 4).1) := (nI_leI (a := n7234) (b := ((L 4).1)) (by omega) (by omega)).mp q37
        rcases Nat.eq_zero_or_pos (k) with e49 | e49
        · subst e49
          refine m_iinc F (v := -1) (lv' := [(5, .int (-1)), (0, .ref c), (1, .long (lN n901)), (3, .int (nI ((L 4).1))), (4, .int (nI t))]) e_X10_becomes_49 rfl (by decide) (by decide) rfl ?_
          refine m_goto F e_X10_becomes_52 ?_
          refine Wm.lvsub (lv' := [(0, .ref c), (1, .long (lN n901)), (3, .int (nI ((L 4).1))), (4, .int (nI t)), (5, .int (-1))]) ?_ [1, 2, 3, 4, 0] rfl
          refine m_iload F rfl e_X10_becomes_24 ?_
          refine m_if_lt F e_X10_becomes_26 (fun _ => ?_) (fun q => absurd (by decide) q)
          have hl7235 := (hob).1
          have hl7236 := (hob).1
          have hl7237 := (hob).1
          refine m_iload_n F rfl e_X10_becomes_55 ?_
          refine m_istore F (lv' := [(5, .int (nI ((L 4).1))), (0, .ref c), (1, .long (lN n901)), (3, .int (nI ((L 4).1))), (4, .int (nI t))]) e_X10_becomes_56 (by decide) rfl ?_
          refine Wm.lvsub (lv' := [(0, .ref c), (1, .long (lN n901)), (4, .int (nI t)), (5, .int (nI ((L 4).1)))]) ?_ [1, 2, 4, 0] rfl
          exact lq_X10_becomes_58 F hQ hob hP hn901 hp0 (100 - ((L 4).1) + 1) t ((L 4).1) _ h1 (by omega) (Nat.lt_succ_self _)
        · refine m_iinc F (v := nI (k - 1)) (lv' := [(5, .int (nI (k - 1))), (0, .ref c), (1, .long (lN n901)), (3, .int (nI ((L 4).1))), (4, .int (nI t))]) e_X10_becomes_49 rfl (nI_dec (by omega)) (by decide) rfl ?_
          refine m_goto F e_X10_becomes_52 ?_
          refine Wm.lvsub (lv' := [(0, .ref c), (1, .long (lN n901)), (3, .int (nI ((L 4).1))), (4, .int (nI t)), (5, .int (nI (k - 1)))]) ?_ [1, 2, 3, 4, 0] rfl
          exact ih t (k - 1) _ h1 (by omega) (by omega)
      · have c37 : n7234 > ((L 4).1) := by have hh := mt (nI_leI (a := n7234) (b := ((L 4).1)) (by omega) (by omega)).mpr q37; omega
        refine m_aload_n F rfl e_X10_becomes_40 ?_
        refine r_getC F e_X10_becomes_41 fl_X10_40 h1 (f7230) ?_
        refine m_iload F rfl e_X10_becomes_44 ?_
        refine r_iald F (len := 16) (j := k) e_X10_becomes_46 h1 (fun _ h => h) (by decide) (nI_clamp (by omega)) (vp_in_nI (by omega) (by decide)) (fun x7238 h7239 f7240 => ?_)
        obtain rfl := Option.some.inj ((f7240).symm.trans (f7233))
        refine m_istore F (lv' := [(4, .int (nI n7234)), (0, .ref c), (1, .long (lN n901)), (3, .int (nI ((L 4).1))), (5, .int (nI k))]) e_X10_becomes_47 (by decide) rfl ?_
        rcases Nat.eq_zero_or_pos (k) with e49 | e49
        · subst e49
          refine m_iinc F (v := -1) (lv' := [(5, .int (-1)), (4, .int (nI n7234)), (0, .ref c), (1, .long (lN n901)), (3, .int (nI ((L 4).1)))]) e_X10_becomes_49 rfl (by decide) (by decide) rfl ?_
          refine m_goto F e_X10_becomes_52 ?_
          refine Wm.lvsub (lv' := [(0, .ref c), (1, .long (lN n901)), (3, .int (nI ((L 4).1))), (4, .int (nI n7234)), (5, .int (-1))]) ?_ [2, 3, 4, 1, 0] rfl
          refine m_iload F rfl e_X10_becomes_24 ?_
          refine m_if_lt F e_X10_becomes_26 (fun _ => ?_) (fun q => absurd (by decide) q)
          have hl7241 := (hob).1
          have hl7242 := (hob).1
          have hl7243 := (hob).1
          refine m_iload_n F rfl e_X10_becomes_55 ?_
          refine m_istore F (lv' := [(5, .int (nI ((L 4).1))), (0, .ref c), (1, .long (lN n901)), (3, .int (nI ((L 4).1))), (4, .int (nI n7234))]) e_X10_becomes_56 (by decide) rfl ?_
          refine Wm.lvsub (lv' := [(0, .ref c), (1, .long (lN n901)), (4, .int (nI n7234)), (5, .int (nI ((L 4).1)))]) ?_ [1, 2, 4, 0] rfl
          exact lq_X10_becomes_58 F hQ hob hP hn901 hp0 (100 - ((L 4).1) + 1) n7234 ((L 4).1) _ h1 (by omega) (Nat.lt_succ_self _)
        · refine m_iinc F (v := nI (k - 1)) (lv' := [(5, .int (nI (k - 1))), (4, .int (nI n7234)), (0, .ref c), (1, .long (lN n901)), (3, .int (nI ((L 4).1)))]) e_X10_becomes_49 rfl (nI_dec (by omega)) (by decide) rfl ?_
          refine m_goto F e_X10_becomes_52 ?_
          refine Wm.lvsub (lv' := [(0, .ref c), (1, .long (lN n901)), (3, .int (nI ((L 4).1))), (4, .int (nI n7234)), (5, .int (nI (k - 1)))]) ?_ [2, 3, 4, 1, 0] rfl
          exact ih n7234 (k - 1) _ h1 (by omega) (by omega)
set_option maxRecDepth 20000 in
theorem q_X10_becomes (l : Launch) (V : VX) (c T Z u h : Nat) (P : NP) (L : Nat → LQ) (N : Nat) (σ : Mem) (n901 : Nat) (h0 : HR V c ⟨T, Z, u, h, P, L⟩ σ) (hob : OKB L) (hP : OKP P) (hn901 : n901 ≤ 2000) (hp0 : 1 ≤ n901) : Ct l V yX10_becomes cX10_becomes 6 none 0 0 0 N σ [.ref c, .long (lN n901)] (fun r τ => HS V c (⟨T, Z, u, h, P, L⟩ : RG) [0, 1, 2, 3, 4, 5, 6, 7, 8, 9, 10, 11, 12, 13, 14, 15, 16, 18, 19, 20, 21, 22, 23] σ τ ∧ r = none) := by
  refine Ct.of (by decide) (Nat.le_of_ble_eq_true rfl) [(0, .ref c), (1, .long (lN n901))] rfl (fun X hX F hQ => ?_)
  have hPP := hP
  unfold OKP at hPP
  have h1 : HS V c ⟨T, Z, u, h, P, L⟩ [0, 1, 2, 3, 4, 5, 6, 7, 8, 9, 10, 11, 12, 13, 14, 15, 16, 18, 19, 20, 21, 22, 23] σ σ := HS.start h0
  refine m_aload_n F rfl e_X10_becomes_0 ?_
  refine r_get F e_X10_becomes_1 fl_X10_59 h1 rfl (fun v hv f7244 => ?_)
  obtain rfl : v = .ref (c + 16) := hv
  refine m_sipush F (v := 744) (by decide) e_X10_becomes_4 ?_
  refine r_sld F (j := 744) e_X10_becomes_7 h1 (by decide) (by unfold vp_in; decide) (fun x7245 h7246 f7247 => ?_)
  have hl7248 := hob.1
  obtain rfl : x7245 = lN (L 4).1 := EJ_p.mp h7246
  refine m_l2i F e_X10_becomes_8 ?_
  refine Wm.topE (w := nI ((L 4).1)) (lN_i ((L 4).1)) ?_
  refine m_istore_n F (lv' := [(3, .int (nI ((L 4).1))), (0, .ref c), (1, .long (lN n901))]) e_X10_becomes_9 (by decide) rfl ?_
  refine m_bipush F (v := 100) (by decide) e_X10_becomes_10 ?_
  refine m_istore F (lv' := [(4, .int 100), (3, .int (nI ((L 4).1))), (0, .ref c), (1, .long (lN n901))]) e_X10_becomes_12 (by decide) rfl ?_
  refine m_aload_n F rfl e_X10_becomes_14 ?_
  refine r_get F e_X10_becomes_15 fl_X10_13 h1 rfl (fun v hv f7249 => ?_)
  obtain rfl : v = .ref (c + 2) := hv
  refine m_iconst F (v := 2) (by decide) e_X10_becomes_18 ?_
  refine r_iald F (len := 10) (j := 2) e_X10_becomes_19 h1 (fun _ h => h) (by decide) (by decide) (by unfold vp_in; decide) (fun x7250 h7251 f7252 => ?_)
  obtain rfl : x7250 = nI P.n2 := h7251.2.1 rfl
  refine m_iconst F (v := 1) (by decide) e_X10_becomes_20 ?_
  refine m_isub F e_X10_becomes_21 ?_
  rcases Nat.eq_zero_or_pos (P.n2) with e21 | e21
  · rw [e21]
    refine Wm.topE (w := -1) (by decide) ?_
    refine m_istore F (lv' := [(5, .int (-1)), (4, .int 100), (3, .int (nI ((L 4).1))), (0, .ref c), (1, .long (lN n901))]) e_X10_becomes_22 (by decide) rfl ?_
    refine Wm.lvsub (lv' := [(0, .ref c), (1, .long (lN n901)), (3, .int (nI ((L 4).1))), (4, .int 100), (5, .int (-1))]) ?_ [3, 4, 2, 1, 0] rfl
    refine m_iload F rfl e_X10_becomes_24 ?_
    refine m_if_lt F e_X10_becomes_26 (fun _ => ?_) (fun q => absurd (by decide) q)
    have hl7253 := (hob).1
    have hl7254 := (hob).1
    have hl7255 := (hob).1
    refine m_iload_n F rfl e_X10_becomes_55 ?_
    refine m_istore F (lv' := [(5, .int (nI ((L 4).1))), (0, .ref c), (1, .long (lN n901)), (3, .int (nI ((L 4).1))), (4, .int 100)]) e_X10_becomes_56 (by decide) rfl ?_
    refine Wm.lvsub (lv' := [(0, .ref c), (1, .long (lN n901)), (4, .int 100), (5, .int (nI ((L 4).1)))]) ?_ [1, 2, 4, 0] rfl
    exact lq_X10_becomes_58 F hQ hob hP hn901 hp0 (100 - ((L 4).1) + 1) 100 ((L 4).1) _ h1 (by omega) (Nat.lt_succ_self _)
  · refine Wm.topE (w := nI (P.n2 - 1)) (pk_sub (a := P.n2) (b := 1) (by omega)) ?_
    refine m_istore F (lv' := [(5, .int (nI (P.n2 - 1))), (4, .int 100), (3, .int (nI ((L 4).1))), (0, .ref c), (1, .long (lN n901))]) e_X10_becomes_22 (by decide) rfl ?_
    refine Wm.lvsub (lv' := [(0, .ref c), (1, .long (lN n901)), (3, .int (nI ((L 4).1))), (4, .int 100), (5, .int (nI (P.n2 - 1)))]) ?_ [3, 4, 2, 1, 0] rfl
    exact lq_X10_becomes_24 F hQ hob hP hn901 hp0 ((P.n2 - 1) + 1) 100 (P.n2 - 1) _ h1 (by omega) (Nat.lt_succ_self _)
set_option maxRecDepth 20000 in
theorem q_X10_become (l : Launch) (V : VX) (c T Z u h : Nat) (P : NP) (L : Nat → LQ) (N : Nat) (σ : Mem) (x901 : Int32) (h0 : HR V c ⟨T, Z, u, h, P, L⟩ σ) (hok : OKL P.n0 L) (hP : OKP P) (hp0 : u ≤ 20) (hp1 : P.kk = P.n0) : Ct l V yX10_become cX10_become 3 (some .int) 2 0 0 N σ [.ref c, .int x901] (fun r τ => ∃ u9, u9 ≤ 20 ∧ ∃ L9, OKL P.n0 L9 ∧ HS V c (⟨T, Z, u9, h, P, L9⟩ : RG) [0, 2, 3, 4, 5, 6, 7, 8, 9, 10, 11, 12, 13, 14, 15, 16, 18, 19, 20, 22, 23] σ τ ∧ ∃ x : Int32, r = some (.int x)) := by
  refine Ct.of (by decide) (Nat.le_of_ble_eq_true rfl) [(0, .ref c), (1, .int x901)] rfl (fun X hX F hQ => ?_)
  have hPP := hP
  unfold OKP at hPP
  have h1 : HS V c ⟨T, Z, u, h, P, L⟩ [0, 2, 3, 4, 5, 6, 7, 8, 9, 10, 11, 12, 13, 14, 15, 16, 18, 19, 20, 22, 23] σ σ := HS.start h0
  refine m_aload_n F rfl e_X10_become_0 ?_
  refine m_iconst F (v := 0) (by decide) e_X10_become_1 ?_
  refine r_put F (g' := (⟨T, Z, u, h, P, L⟩ : RG)) e_X10_become_2 fp_X10_91 h1 (by decide) ⟨_, rfl⟩ (fun _ _ _ _ q => q) (fun _ _ _ q => q) rfl rfl (by decide) (fun σ7256 h7257 g7258 g7259 f7260 => ?_)
  refine m_iload_n F rfl e_X10_become_5 ?_
  refine m_sipush F (v := 500) (by decide) e_X10_become_6 ?_
  refine m_icmp_lt F e_X10_become_9 (fun q9 => ?_) (fun q9 => ?_)
  · refine m_iconst F (v := (-1)) (by decide) e_X10_become_19 ?_
    exact m_iret F hQ e_X10_become_20 (⟨u, by omega, L, hok, h7257, _, rfl⟩)
  · obtain ⟨n7261, hn7261, rfl⟩ := nI_nn (x := x901) (fun e => q9 (Int32.lt_of_lt_of_le e (by decide)))
    have c9 : n7261 ≥ 500 := by have hh := mt (nI_ltI (a := n7261) (b := 500) (by omega) (by omega)).mpr q9; omega
    refine m_iload_n F rfl e_X10_become_12 ?_
    refine m_sipush F (v := 2000) (by decide) e_X10_become_13 ?_
    refine m_icmp_le F e_X10_become_16 (fun q16 => ?_) (fun q16 => ?_)
    · have c16 : n7261 ≤ 2000 := (nI_leI (a := n7261) (b := 2000) (by omega) (by omega)).mp q16
      refine m_aload_n F rfl e_X10_become_21 ?_
      refine r_callV F e_X10_become_22 (q_X10_indexNow (x_l X) V c T Z u h P L _ _  h7257.1 (hok.b) hP ) cb_X10_indexNow ml_X10_260 im_X10_indexNow se_X10_indexNow h7257 rfl rfl (rest := []) rfl (Nat.le_of_ble_eq_true rfl) ⟨Nat.le_of_ble_eq_true rfl, Nat.le_of_ble_eq_true rfl⟩ ⟨Nat.le_of_ble_eq_true rfl, Nat.le_of_ble_eq_true rfl⟩ (fun r σ7262 hp => ?_)
      obtain ⟨h7263, n7265, hn7265, gn7265, rfl⟩ := hp
      have h7264 := HS.trans h7257 h7263 (by decide)
      refine m_l2i F e_X10_become_25 ?_
      refine Wm.topE (w := nI n7265) (lN_i n7265) ?_
      refine m_istore_n F (lv' := [(2, .int (nI n7265)), (0, .ref c), (1, .int (nI n7261))]) e_X10_become_26 (by decide) rfl ?_
      refine m_aload_n F rfl e_X10_become_27 ?_
      refine r_callV F e_X10_become_28 (q_X10_remembers (x_l X) V c T Z u h P L _ _  h7264.1 (hok) hP (by first | omega | assumption | decide) (by first | omega | assumption | decide)) cb_X10_remembers ml_X10_286 im_X10_remembers se_X10_remembers h7264 rfl rfl (rest := []) rfl (Nat.le_of_ble_eq_true rfl) ⟨Nat.le_of_ble_eq_true rfl, Nat.le_of_ble_eq_true rfl⟩ ⟨Nat.le_of_ble_eq_true rfl, Nat.le_of_ble_eq_true rfl⟩ (fun r σ7266 hp => ?_)
      obtain ⟨u7269, hu7269, h7267, rfl⟩ := hp
      have h7268 := HS.trans h7264 h7267 (by decide)
      refine m_aload_n F rfl e_X10_become_31 ?_
      refine m_iload_n F rfl e_X10_become_32 ?_
      refine m_i2l F e_X10_become_33 ?_
      refine Wm.toplE (w := lN n7261) (nI_l (by omega)) ?_
      refine r_callV F e_X10_become_34 (q_X10_becomes (x_l X) V c T Z u7269 h P L _ _ n7261 h7268.1 (hok.b) hP (by omega) (by first | omega | assumption | decide)) cb_X10_becomes ml_X10_322 im_X10_becomes se_X10_becomes h7268 rfl rfl (rest := []) rfl (Nat.le_of_ble_eq_true rfl) ⟨Nat.le_of_ble_eq_true rfl, Nat.le_of_ble_eq_true rfl⟩ ⟨Nat.le_of_ble_eq_true rfl, Nat.le_of_ble_eq_true rfl⟩ (fun r σ7270 hp => ?_)
      obtain ⟨h7271, rfl⟩ := hp
      have h7272 := HS.trans h7268 h7271 (by decide)
      refine m_iload_n F rfl e_X10_become_37 ?_
      exact m_iret F hQ e_X10_become_38 (⟨u7269, by omega, L, hok, h7272, _, rfl⟩)
    · have c16 : n7261 > 2000 := by have hh := mt (nI_leI (a := n7261) (b := 2000) (by omega) (by omega)).mpr q16; omega
      refine m_iconst F (v := (-1)) (by decide) e_X10_become_19 ?_
      exact m_iret F hQ e_X10_become_20 (⟨u, by omega, L, hok, h7257, _, rfl⟩)
set_option maxRecDepth 20000 in
theorem lq_X10_divisor_6 {V : VX} {X : MX} {N : Nat} {σ : Mem}  {x901 : Int64} {x902 : Int64} (F : Fx V X yX10_divisor cX10_divisor 10 (some .long) (rmd 0 0 0)) (hQ : Rt V X 0 0 N (fun r τ => τ = σ ∧ ∃ x : Int64, x ≠ 0 ∧ r = some (.long x)))  (hp0 : x902 ≠ 0)  : ∀ (fuel : Nat) (w1 : Int64) (w2 : Int64) , (w1 ≠ 0 ∨ w2 ≠ 0) → w2.toInt.natAbs < fuel → Wm V X 10 N σ 0 0 6 [(4, .long w1), (6, .long w2), (0, .long x901), (2, .long x902)] [] := by
  intro fuel
  induction fuel with
  | zero => intros; rename_i hm; exact absurd hm (Nat.not_lt_zero _)
  | succ fuel ih =>
    intro w1 w2 hi hm
    refine m_lload F rfl e_X10_divisor_6 ?_
    refine m_lconst F (v := 0) (by decide) e_X10_divisor_8 ?_
    refine m_lcmp F e_X10_divisor_9 ?_
    refine m_if_eq F e_X10_divisor_10 (fun q10 => ?_) (fun q10 => ?_)
    · have e0 : w2 = 0 := (lg_cmp_eq _ _).mp q10
      refine m_lload F rfl e_X10_divisor_31 ?_
      exact m_lret F hQ e_X10_divisor_33 (⟨rfl, w1, (hi.elim id (fun h => absurd e0 h)), rfl⟩)
    · have e1 : w2 ≠ 0 := fun e => q10 ((lg_cmp_eq _ _).mpr e)
      refine m_lload F rfl e_X10_divisor_13 ?_
      refine m_lload F rfl e_X10_divisor_15 ?_
      refine m_lrem F e1 e_X10_divisor_17 ?_
      refine m_lstore F (lv' := [(8, .long (w1 - w1 / w2 * w2)), (4, .long w1), (6, .long w2), (0, .long x901), (2, .long x902)]) e_X10_divisor_18 (by decide) rfl ?_
      refine m_lload F rfl e_X10_divisor_20 ?_
      refine m_lstore F (lv' := [(4, .long w2), (8, .long (w1 - w1 / w2 * w2)), (6, .long w2), (0, .long x901), (2, .long x902)]) e_X10_divisor_22 (by decide) rfl ?_
      refine m_lload F rfl e_X10_divisor_24 ?_
      refine m_lstore F (lv' := [(6, .long (w1 - w1 / w2 * w2)), (4, .long w2), (8, .long (w1 - w1 / w2 * w2)), (0, .long x901), (2, .long x902)]) e_X10_divisor_26 (by decide) rfl ?_
      refine m_goto F e_X10_divisor_28 ?_
      refine Wm.lvsub (lv' := [(4, .long w2), (6, .long (w1 - w1 / w2 * w2)), (0, .long x901), (2, .long x902)]) ?_ [1, 0, 3, 4] rfl
      exact ih w2 (w1 - w1 / w2 * w2) (Or.inl e1) (Nat.lt_of_lt_of_le (dv_lt e1) (Nat.le_of_lt_succ hm))
set_option maxRecDepth 20000 in
theorem q_X10_divisor (l : Launch) (V : VX) (N : Nat) (σ : Mem) (x901 : Int64) (x902 : Int64) (hp0 : x902 ≠ 0) : Ct l V yX10_divisor cX10_divisor 10 (some .long) 0 0 0 N σ [.long x901, .long x902] (fun r τ => τ = σ ∧ ∃ x : Int64, x ≠ 0 ∧ r = some (.long x)) := by
  refine Ct.of (by decide) (Nat.le_of_ble_eq_true rfl) [(0, .long x901), (2, .long x902)] rfl (fun X hX F hQ => ?_)
  refine m_lload_n F rfl e_X10_divisor_0 ?_
  refine m_lstore F (lv' := [(4, .long x901), (0, .long x901), (2, .long x902)]) e_X10_divisor_1 (by decide) rfl ?_
  refine m_lload_n F rfl e_X10_divisor_3 ?_
  refine m_lstore F (lv' := [(6, .long x902), (4, .long x901), (0, .long x901), (2, .long x902)]) e_X10_divisor_4 (by decide) rfl ?_
  refine Wm.lvsub (lv' := [(4, .long x901), (6, .long x902), (0, .long x901), (2, .long x902)]) ?_ [1, 0, 2, 3] rfl
  exact lq_X10_divisor_6 F hQ  hp0 (x902.toInt.natAbs + 1) x901 x902 (Or.inr hp0) (Nat.lt_succ_self _)
set_option maxRecDepth 20000 in
theorem lq_X10_life_94 {V : VX} {X : MX} {N : Nat} {σ : Mem} {c T Z u h : Nat} {P : NP} {L : Nat → LQ}   (F : Fx V X yX10_life cX10_life 11 (some .long) (rmd 2 0 0)) (hQ : Rt V X 0 0 N (fun r τ => HS V c (⟨T, Z, u, h, P, L⟩ : RG) [0, 2, 3, 4, 5, 6, 7, 8, 9, 10, 11, 12, 13, 14, 15, 16, 17, 18, 19, 20, 21, 22, 23] σ τ ∧ ∃ x : Int64, r = some (.long x))) (hob : OKB L) (hP : OKP P)   : ∀ (fuel : Nat) (a : Nat) (b1 : Int32) (w1 : Int64) (w2 : Int64) (w3 : Int64) (i : Nat) (τ : Mem), HS V c (⟨T, Z, u, h, P, L⟩ : RG) [0, 2, 3, 4, 5, 6, 7, 8, 9, 10, 11, 12, 13, 14, 15, 16, 17, 18, 19, 20, 21, 22, 23] σ τ → a ≤ 3 ∧ i ≤ 72 → 72 - i < fuel → Wm V X 11 N τ 0 0 94 [(0, .ref c), (1, .int (nI a)), (2, .int b1), (3, .int (nI (160 * a))), (4, .long w1), (6, .long w2), (8, .long w3), (10, .int (nI i))] [] := by
  intro fuel
  induction fuel with
  | zero => intros; rename_i hm; exact absurd hm (Nat.not_lt_zero _)
  | succ fuel ih =>
    intro a b1 w1 w2 w3 i τ h1 hi hm
    have hPP := hP
    unfold OKP at hPP
    refine m_iload F rfl e_X10_life_94 ?_
    refine m_i2l F e_X10_life_96 ?_
    refine Wm.toplE (w := lN i) (nI_l (by omega)) ?_
    refine m_aload_n F rfl e_X10_life_97 ?_
    refine r_get F e_X10_life_98 fl_X10_59 h1 rfl (fun v hv f7273 => ?_)
    obtain rfl : v = .ref (c + 16) := hv
    refine m_iload_n F rfl e_X10_life_101 ?_
    refine m_iconst F (v := 1) (by decide) e_X10_life_102 ?_
    refine m_iadd F e_X10_life_103 ?_
    refine Wm.topE (w := nI (160 * a + 1)) (nI_add (160 * a) 1) ?_
    refine r_sld F (j := 160 * a + 1) e_X10_life_104 h1 (nI_clamp (by omega)) (vp_in_nI (by omega) (by decide)) (fun x7274 h7275 f7276 => ?_)
    have hl7277 := hob.2 a (by omega)
    obtain rfl : x7274 = lN (L a).2.1 := (EJ_l (l := a) (r := 1) (by omega) (by decide)).mp h7275
    refine m_lcmp F e_X10_life_105 ?_
    refine m_if_ge F e_X10_life_106 (fun q106 => ?_) (fun q106 => ?_)
    · have c106 : i ≥ ((L a).2.1) := (lN_le (a := ((L a).2.1)) (b := i) (by omega) (by omega)).mp ((lg_cmp_ge _ _).mp q106)
      refine m_lload F rfl e_X10_life_165 ?_
      refine m_lconst F (v := 0) (by decide) e_X10_life_167 ?_
      refine m_lcmp F e_X10_life_168 ?_
      refine m_if_ne F e_X10_life_169 (fun q169 => ?_) (fun q169 => ?_)
      · have e1 : w3 ≠ 0 := fun e => q169 ((lg_cmp_eq _ _).mpr e)
        refine m_iload_n F rfl e_X10_life_176 ?_
        refine m_if_eq F e_X10_life_177 (fun q177 => ?_) (fun q177 => ?_)
        · subst q177
          refine m_lload F rfl e_X10_life_185 ?_
          refine m_lload F rfl e_X10_life_187 ?_
          refine m_lload F rfl e_X10_life_189 ?_
          refine m_callS F e_X10_life_191 (q_X10_divisor (x_l X) V _ _ w2 w3 (by first | omega | assumption | decide)) cb_X10_divisor ml_X10_340 sm_X10_divisor rfl (rest := [.long w2]) rfl (Nat.le_of_ble_eq_true rfl) ⟨Nat.le_of_ble_eq_true rfl, Nat.le_of_ble_eq_true rfl⟩ ⟨Nat.le_of_ble_eq_true rfl, Nat.le_of_ble_eq_true rfl⟩ (k' := 0) (z' := 0) (N' := N) rfl rfl rfl (fun r σ7278 hp => ?_)
          obtain ⟨rfl, x7281, hx7281, rfl⟩ := hp
          refine m_ldiv F (by assumption) e_X10_life_194 ?_
          refine Wm.topl (fun x7282 _ => ?_)
          exact m_lret F hQ e_X10_life_195 (⟨h1, _, rfl⟩)
        · refine m_lload F rfl e_X10_life_180 ?_
          refine m_goto F e_X10_life_182 ?_
          refine m_lload F rfl e_X10_life_187 ?_
          refine m_lload F rfl e_X10_life_189 ?_
          refine m_callS F e_X10_life_191 (q_X10_divisor (x_l X) V _ _ w2 w3 (by first | omega | assumption | decide)) cb_X10_divisor ml_X10_340 sm_X10_divisor rfl (rest := [.long w3]) rfl (Nat.le_of_ble_eq_true rfl) ⟨Nat.le_of_ble_eq_true rfl, Nat.le_of_ble_eq_true rfl⟩ ⟨Nat.le_of_ble_eq_true rfl, Nat.le_of_ble_eq_true rfl⟩ (k' := 0) (z' := 0) (N' := N) rfl rfl rfl (fun r σ7283 hp => ?_)
          obtain ⟨rfl, x7286, hx7286, rfl⟩ := hp
          refine m_ldiv F (by assumption) e_X10_life_194 ?_
          refine Wm.topl (fun x7287 _ => ?_)
          exact m_lret F hQ e_X10_life_195 (⟨h1, _, rfl⟩)
      · refine m_ldc2 F kc_X10_338 e_X10_life_172 ?_
        exact m_lret F hQ e_X10_life_175 (⟨h1, _, rfl⟩)
    · have c106 : i < ((L a).2.1) := by have hh := mt (fun h9 => (lg_cmp_ge (lN i) (lN ((L a).2.1))).mpr ((lN_le (a := ((L a).2.1)) (b := i) (by omega) (by omega)).mpr h9)) q106; omega
      refine m_lload F rfl e_X10_life_109 ?_
      refine m_aload_n F rfl e_X10_life_111 ?_
      refine r_getC F e_X10_life_112 fl_X10_59 h1 (f7273) ?_
      refine m_iload_n F rfl e_X10_life_115 ?_
      refine m_bipush F (v := 13) (by decide) e_X10_life_116 ?_
      refine m_iadd F e_X10_life_118 ?_
      refine Wm.topE (w := nI (160 * a + 13)) (nI_add (160 * a) 13) ?_
      refine m_iload F rfl e_X10_life_119 ?_
      refine m_iadd F e_X10_life_121 ?_
      refine Wm.topE (w := nI ((160 * a + 13) + i)) (nI_add (160 * a + 13) i) ?_
      refine r_sld F (j := (160 * a + 13) + i) e_X10_life_122 h1 (nI_clamp (by omega)) (vp_in_nI (by omega) (by decide)) (fun x7288 h7289 f7290 => ?_)
      refine m_lload F rfl e_X10_life_123 ?_
      refine m_iload F rfl e_X10_life_125 ?_
      refine m_i2l F e_X10_life_127 ?_
      refine Wm.toplE (w := lN i) (nI_l (by omega)) ?_
      refine m_ladd F e_X10_life_128 ?_
      refine Wm.topl (fun x7291 _ => ?_)
      refine m_aload_n F rfl e_X10_life_129 ?_
      refine r_getC F e_X10_life_130 fl_X10_59 h1 (f7273) ?_
      refine m_iload_n F rfl e_X10_life_133 ?_
      refine m_iconst F (v := 5) (by decide) e_X10_life_134 ?_
      refine m_iadd F e_X10_life_135 ?_
      refine Wm.topE (w := nI (160 * a + 5)) (nI_add (160 * a) 5) ?_
      refine r_sld F (j := 160 * a + 5) e_X10_life_136 h1 (nI_clamp (by omega)) (vp_in_nI (by omega) (by decide)) (fun x7292 h7293 f7294 => ?_)
      have hl7295 := hob.2 a (by omega)
      obtain rfl : x7292 = lN (L a).2.2.2 := (EJ_l (l := a) (r := 5) (by omega) (by decide)).mp h7293
      refine m_lsub F e_X10_life_137 ?_
      refine Wm.topl (fun x7296 _ => ?_)
      refine m_lmul F e_X10_life_138 ?_
      refine Wm.topl (fun x7297 _ => ?_)
      refine m_ladd F e_X10_life_139 ?_
      refine Wm.topl (fun x7298 _ => ?_)
      refine m_lstore F (lv' := [(6, .long x7298), (0, .ref c), (1, .int (nI a)), (2, .int b1), (3, .int (nI (160 * a))), (4, .long w1), (8, .long w3), (10, .int (nI i))]) e_X10_life_140 (by decide) rfl ?_
      refine m_lload F rfl e_X10_life_142 ?_
      refine m_aload_n F rfl e_X10_life_144 ?_
      refine r_getC F e_X10_life_145 fl_X10_59 h1 (f7273) ?_
      refine m_iload_n F rfl e_X10_life_148 ?_
      refine m_bipush F (v := 13) (by decide) e_X10_life_149 ?_
      refine m_iadd F e_X10_life_151 ?_
      refine Wm.topE (w := nI (160 * a + 13)) (nI_add (160 * a) 13) ?_
      refine m_iload F rfl e_X10_life_152 ?_
      refine m_iadd F e_X10_life_154 ?_
      refine Wm.topE (w := nI ((160 * a + 13) + i)) (nI_add (160 * a + 13) i) ?_
      refine r_sld F (j := (160 * a + 13) + i) e_X10_life_155 h1 (nI_clamp (by omega)) (vp_in_nI (by omega) (by decide)) (fun x7299 h7300 f7301 => ?_)
      refine m_ladd F e_X10_life_156 ?_
      refine Wm.topl (fun x7302 _ => ?_)
      refine m_lstore F (lv' := [(8, .long x7302), (6, .long x7298), (0, .ref c), (1, .int (nI a)), (2, .int b1), (3, .int (nI (160 * a))), (4, .long w1), (10, .int (nI i))]) e_X10_life_157 (by decide) rfl ?_
      refine m_iinc F (v := nI (i + 1)) (lv' := [(10, .int (nI (i + 1))), (8, .long x7302), (6, .long x7298), (0, .ref c), (1, .int (nI a)), (2, .int b1), (3, .int (nI (160 * a))), (4, .long w1)]) e_X10_life_159 rfl (nI_add i 1) (by decide) rfl ?_
      refine m_goto F e_X10_life_162 ?_
      refine Wm.lvsub (lv' := [(0, .ref c), (1, .int (nI a)), (2, .int b1), (3, .int (nI (160 * a))), (4, .long w1), (6, .long x7298), (8, .long x7302), (10, .int (nI (i + 1)))]) ?_ [3, 4, 5, 6, 7, 2, 1, 0] rfl
      exact ih a b1 w1 x7298 x7302 (i + 1) _ h1 (by omega) (by omega)
set_option maxRecDepth 20000 in
theorem q_X10_life (l : Launch) (V : VX) (c T Z u h : Nat) (P : NP) (L : Nat → LQ) (N : Nat) (σ : Mem) (x901 : Int32) (x902 : Int32) (h0 : HR V c ⟨T, Z, u, h, P, L⟩ σ) (hob : OKB L) (hP : OKP P)  : Ct l V yX10_life cX10_life 11 (some .long) 2 0 0 N σ [.ref c, .int x901, .int x902] (fun r τ => HS V c (⟨T, Z, u, h, P, L⟩ : RG) [0, 2, 3, 4, 5, 6, 7, 8, 9, 10, 11, 12, 13, 14, 15, 16, 17, 18, 19, 20, 21, 22, 23] σ τ ∧ ∃ x : Int64, r = some (.long x)) := by
  refine Ct.of (by decide) (Nat.le_of_ble_eq_true rfl) [(0, .ref c), (1, .int x901), (2, .int x902)] rfl (fun X hX F hQ => ?_)
  have hPP := hP
  unfold OKP at hPP
  have h1 : HS V c ⟨T, Z, u, h, P, L⟩ [0, 2, 3, 4, 5, 6, 7, 8, 9, 10, 11, 12, 13, 14, 15, 16, 17, 18, 19, 20, 21, 22, 23] σ σ := HS.start h0
  refine m_aload_n F rfl e_X10_life_0 ?_
  refine m_iconst F (v := 0) (by decide) e_X10_life_1 ?_
  refine r_put F (g' := (⟨T, Z, u, h, P, L⟩ : RG)) e_X10_life_2 fp_X10_91 h1 (by decide) ⟨_, rfl⟩ (fun _ _ _ _ q => q) (fun _ _ _ q => q) rfl rfl (by decide) (fun σ7303 h7304 g7305 g7306 f7307 => ?_)
  refine m_aload_n F rfl e_X10_life_5 ?_
  refine m_iload_n F rfl e_X10_life_6 ?_
  refine r_callV F e_X10_life_7 (q_X10_isLease (x_l X) V c T Z u h P L _ _ x901 h7304.1 (hob) hP ) cb_X10_isLease ml_X10_292 im_X10_isLease se_X10_isLease h7304 rfl rfl (rest := []) rfl (Nat.le_of_ble_eq_true rfl) ⟨Nat.le_of_ble_eq_true rfl, Nat.le_of_ble_eq_true rfl⟩ ⟨Nat.le_of_ble_eq_true rfl, Nat.le_of_ble_eq_true rfl⟩ (fun r σ7308 hp => ?_)
  obtain ⟨h7309, c7311⟩ := hp
  have h7310 := HS.trans h7304 h7309 (by decide)
  rcases c7311 with rfl | ⟨n7312, h7313, e7314, rfl⟩
  · refine m_if_ne F e_X10_life_10 (fun q => absurd (by decide) q) (fun _ => ?_)
    refine m_ldc2 F kc_X10_245 e_X10_life_13 ?_
    exact m_lret F hQ e_X10_life_16 (⟨h7310, _, rfl⟩)
  · subst e7314
    refine m_if_ne F e_X10_life_10 (fun _ => ?_) (fun q => absurd q (by decide))
    refine m_sipush F (v := 160) (by decide) e_X10_life_17 ?_
    refine m_iload_n F rfl e_X10_life_20 ?_
    refine m_imul F e_X10_life_21 ?_
    refine Wm.topE (w := nI (160 * n7312)) (pk_mul 160 n7312) ?_
    refine m_istore_n F (lv' := [(3, .int (nI (160 * n7312))), (0, .ref c), (1, .int (nI n7312)), (2, .int x902)]) e_X10_life_22 (by decide) rfl ?_
    refine m_aload_n F rfl e_X10_life_23 ?_
    refine r_get F e_X10_life_24 fl_X10_59 h7310 rfl (fun v hv f7315 => ?_)
    obtain rfl : v = .ref (c + 16) := hv
    refine m_iload_n F rfl e_X10_life_27 ?_
    refine m_iconst F (v := 0) (by decide) e_X10_life_28 ?_
    refine m_iadd F e_X10_life_29 ?_
    refine Wm.topE (w := nI (160 * n7312)) (nI_add (160 * n7312) 0) ?_
    refine r_sld F (j := 160 * n7312) e_X10_life_30 h7310 (nI_clamp (by omega)) (vp_in_nI (by omega) (by decide)) (fun x7316 h7317 f7318 => ?_)
    have hl7319 := hob.2 n7312 (by omega)
    obtain rfl : x7316 = lN (L n7312).1 := (EJ_l (l := n7312) (r := 0) (by omega) (by decide)).mp h7317
    refine m_ldc2 F kc_X10_234 e_X10_life_31 ?_
    refine m_lcmp F e_X10_life_34 ?_
    refine m_if_ne F e_X10_life_35 (fun q35 => ?_) (fun q35 => ?_)
    · have c35 : ((L n7312).1) ≠ 2 := by have hh := mt (fun h9 => (lg_cmp_eq (lN ((L n7312).1)) (lN 2)).mpr ((lN_eq (a := ((L n7312).1)) (b := 2) (by omega) (by omega)).mpr h9)) q35; omega
      refine m_aload_n F rfl e_X10_life_42 ?_
      refine r_getC F e_X10_life_43 fl_X10_59 h7310 (f7315) ?_
      refine m_iload_n F rfl e_X10_life_46 ?_
      refine m_iconst F (v := 0) (by decide) e_X10_life_47 ?_
      refine m_iadd F e_X10_life_48 ?_
      refine Wm.topE (w := nI (160 * n7312)) (nI_add (160 * n7312) 0) ?_
      refine r_sld F (j := 160 * n7312) e_X10_life_49 h7310 (nI_clamp (by omega)) (vp_in_nI (by omega) (by decide)) (fun x7320 h7321 f7322 => ?_)
      have hl7323 := hob.2 n7312 (by omega)
      obtain rfl : x7320 = lN (L n7312).1 := (EJ_l (l := n7312) (r := 0) (by omega) (by decide)).mp h7321
      refine m_lconst F (v := 1) (by decide) e_X10_life_50 ?_
      refine m_lcmp F e_X10_life_51 ?_
      refine m_if_ne F e_X10_life_52 (fun q52 => ?_) (fun q52 => ?_)
      · have c52 : ((L n7312).1) ≠ 1 := by have hh := mt (fun h9 => (lg_cmp_eq (lN ((L n7312).1)) (lN 1)).mpr ((lN_eq (a := ((L n7312).1)) (b := 1) (by omega) (by omega)).mpr h9)) q52; omega
        refine m_aload_n F rfl e_X10_life_59 ?_
        refine r_get F e_X10_life_60 fl_X10_19 h7310 rfl (fun v hv f7324 => ?_)
        obtain rfl : v = .ref (c + 4) := hv
        refine m_iload_n F rfl e_X10_life_63 ?_
        refine r_iald F (len := 8) (j := n7312) e_X10_life_64 h7310 (fun _ h => h) (by decide) (nI_clamp (by omega)) (vp_in_nI (by omega) (by decide)) (fun x7325 h7326 f7327 => ?_)
        refine m_i2l F e_X10_life_65 ?_
        refine Wm.topl (fun x7328 _ => ?_)
        refine m_aload_n F rfl e_X10_life_66 ?_
        refine r_getC F e_X10_life_67 fl_X10_59 h7310 (f7315) ?_
        refine m_sipush F (v := 744) (by decide) e_X10_life_70 ?_
        refine r_sld F (j := 744) e_X10_life_73 h7310 (by decide) (by unfold vp_in; decide) (fun x7329 h7330 f7331 => ?_)
        have hl7332 := hob.1
        obtain rfl : x7329 = lN (L 4).1 := EJ_p.mp h7330
        refine m_lsub F e_X10_life_74 ?_
        refine Wm.topl (fun x7333 _ => ?_)
        refine m_lstore F (lv' := [(4, .long x7333), (3, .int (nI (160 * n7312))), (0, .ref c), (1, .int (nI n7312)), (2, .int x902)]) e_X10_life_75 (by decide) rfl ?_
        refine m_lconst F (v := 0) (by decide) e_X10_life_77 ?_
        refine m_lstore F (lv' := [(6, .long 0), (4, .long x7333), (3, .int (nI (160 * n7312))), (0, .ref c), (1, .int (nI n7312)), (2, .int x902)]) e_X10_life_78 (by decide) rfl ?_
        refine m_lconst F (v := 0) (by decide) e_X10_life_80 ?_
        refine m_lstore F (lv' := [(8, .long 0), (6, .long 0), (4, .long x7333), (3, .int (nI (160 * n7312))), (0, .ref c), (1, .int (nI n7312)), (2, .int x902)]) e_X10_life_81 (by decide) rfl ?_
        refine m_aload_n F rfl e_X10_life_83 ?_
        refine r_getC F e_X10_life_84 fl_X10_59 h7310 (f7315) ?_
        refine m_iload_n F rfl e_X10_life_87 ?_
        refine m_iconst F (v := 5) (by decide) e_X10_life_88 ?_
        refine m_iadd F e_X10_life_89 ?_
        refine Wm.topE (w := nI (160 * n7312 + 5)) (nI_add (160 * n7312) 5) ?_
        refine r_sld F (j := 160 * n7312 + 5) e_X10_life_90 h7310 (nI_clamp (by omega)) (vp_in_nI (by omega) (by decide)) (fun x7334 h7335 f7336 => ?_)
        have hl7337 := hob.2 n7312 (by omega)
        obtain rfl : x7334 = lN (L n7312).2.2.2 := (EJ_l (l := n7312) (r := 5) (by omega) (by decide)).mp h7335
        refine m_l2i F e_X10_life_91 ?_
        refine Wm.topE (w := nI ((L n7312).2.2.2)) (lN_i ((L n7312).2.2.2)) ?_
        refine m_istore F (lv' := [(10, .int (nI ((L n7312).2.2.2))), (8, .long 0), (6, .long 0), (4, .long x7333), (3, .int (nI (160 * n7312))), (0, .ref c), (1, .int (nI n7312)), (2, .int x902)]) e_X10_life_92 (by decide) rfl ?_
        refine Wm.lvsub (lv' := [(0, .ref c), (1, .int (nI n7312)), (2, .int x902), (3, .int (nI (160 * n7312))), (4, .long x7333), (6, .long 0), (8, .long 0), (10, .int (nI ((L n7312).2.2.2)))]) ?_ [5, 6, 7, 4, 3, 2, 1, 0] rfl
        exact lq_X10_life_94 F hQ hob hP  (72 - ((L n7312).2.2.2) + 1) n7312 x902 x7333 0 0 ((L n7312).2.2.2) _ h7310 (by omega) (Nat.lt_succ_self _)
      · have c52 : ((L n7312).1) = 1 := (lN_eq (a := ((L n7312).1)) (b := 1) (by omega) (by omega)).mp ((lg_cmp_eq _ _).mp q52)
        refine m_lconst F (v := 0) (by decide) e_X10_life_55 ?_
        refine m_goto F e_X10_life_56 ?_
        refine m_lstore F (lv' := [(4, .long 0), (3, .int (nI (160 * n7312))), (0, .ref c), (1, .int (nI n7312)), (2, .int x902)]) e_X10_life_75 (by decide) rfl ?_
        refine m_lconst F (v := 0) (by decide) e_X10_life_77 ?_
        refine m_lstore F (lv' := [(6, .long 0), (4, .long 0), (3, .int (nI (160 * n7312))), (0, .ref c), (1, .int (nI n7312)), (2, .int x902)]) e_X10_life_78 (by decide) rfl ?_
        refine m_lconst F (v := 0) (by decide) e_X10_life_80 ?_
        refine m_lstore F (lv' := [(8, .long 0), (6, .long 0), (4, .long 0), (3, .int (nI (160 * n7312))), (0, .ref c), (1, .int (nI n7312)), (2, .int x902)]) e_X10_life_81 (by decide) rfl ?_
        refine m_aload_n F rfl e_X10_life_83 ?_
        refine r_getC F e_X10_life_84 fl_X10_59 h7310 (f7315) ?_
        refine m_iload_n F rfl e_X10_life_87 ?_
        refine m_iconst F (v := 5) (by decide) e_X10_life_88 ?_
        refine m_iadd F e_X10_life_89 ?_
        refine Wm.topE (w := nI (160 * n7312 + 5)) (nI_add (160 * n7312) 5) ?_
        refine r_sld F (j := 160 * n7312 + 5) e_X10_life_90 h7310 (nI_clamp (by omega)) (vp_in_nI (by omega) (by decide)) (fun x7338 h7339 f7340 => ?_)
        have hl7341 := hob.2 n7312 (by omega)
        obtain rfl : x7338 = lN (L n7312).2.2.2 := (EJ_l (l := n7312) (r := 5) (by omega) (by decide)).mp h7339
        refine m_l2i F e_X10_life_91 ?_
        refine Wm.topE (w := nI ((L n7312).2.2.2)) (lN_i ((L n7312).2.2.2)) ?_
        refine m_istore F (lv' := [(10, .int (nI ((L n7312).2.2.2))), (8, .long 0), (6, .long 0), (4, .long 0), (3, .int (nI (160 * n7312))), (0, .ref c), (1, .int (nI n7312)), (2, .int x902)]) e_X10_life_92 (by decide) rfl ?_
        refine Wm.lvsub (lv' := [(0, .ref c), (1, .int (nI n7312)), (2, .int x902), (3, .int (nI (160 * n7312))), (4, .long 0), (6, .long 0), (8, .long 0), (10, .int (nI ((L n7312).2.2.2)))]) ?_ [5, 6, 7, 4, 3, 2, 1, 0] rfl
        exact lq_X10_life_94 F hQ hob hP  (72 - ((L n7312).2.2.2) + 1) n7312 x902 0 0 0 ((L n7312).2.2.2) _ h7310 (by omega) (Nat.lt_succ_self _)
    · have c35 : ((L n7312).1) = 2 := (lN_eq (a := ((L n7312).1)) (b := 2) (by omega) (by omega)).mp ((lg_cmp_eq _ _).mp q35)
      refine m_ldc2 F kc_X10_338 e_X10_life_38 ?_
      exact m_lret F hQ e_X10_life_41 (⟨h7310, _, rfl⟩)
set_option maxRecDepth 20000 in
theorem q_X10_draw (l : Launch) (V : VX) (c T Z u h : Nat) (P : NP) (L : Nat → LQ) (N : Nat) (σ : Mem) (n901 : Nat) (h0 : HR V c ⟨T, Z, u, h, P, L⟩ σ) (hob : OKB L) (hP : OKP P) (hn901 : n901 ≤ 21) (hp0 : 1 ≤ n901) : Ct l V yX10_draw cX10_draw 2 (some .int) 0 0 0 N σ [.ref c, .int (nI n901)] (fun r τ => HS V c (⟨T, Z, u, h, P, L⟩ : RG) [0, 2, 3, 4, 5, 6, 7, 8, 9, 10, 11, 12, 13, 14, 15, 16, 17, 18, 19, 20, 21, 22, 23] σ τ ∧ ∃ x : Int32, r = some (.int x)) := by
  refine Ct.of (by decide) (Nat.le_of_ble_eq_true rfl) [(0, .ref c), (1, .int (nI n901))] rfl (fun X hX F hQ => ?_)
  have hPP := hP
  unfold OKP at hPP
  have h1 : HS V c ⟨T, Z, u, h, P, L⟩ [0, 2, 3, 4, 5, 6, 7, 8, 9, 10, 11, 12, 13, 14, 15, 16, 17, 18, 19, 20, 21, 22, 23] σ σ := HS.start h0
  refine m_aload_n F rfl e_X10_draw_0 ?_
  refine m_aload_n F rfl e_X10_draw_1 ?_
  refine r_get F e_X10_draw_2 fl_X10_353 h1 rfl (fun v hv f7342 => ?_)
  obtain ⟨x7343, rfl⟩ := hv
  refine m_ldcw F kc_X10_356 e_X10_draw_5 ?_
  refine m_imul F e_X10_draw_8 ?_
  refine Wm.top (fun x7344 _ => ?_)
  refine m_sipush F (v := 12345) (by decide) e_X10_draw_9 ?_
  refine m_iadd F e_X10_draw_12 ?_
  refine Wm.top (fun x7345 _ => ?_)
  refine m_ldcw F kc_X10_357 e_X10_draw_13 ?_
  refine m_iand F e_X10_draw_16 ?_
  refine Wm.top (fun x7346 _ => ?_)
  refine r_put F (g' := (⟨T, Z, u, h, P, L⟩ : RG)) e_X10_draw_17 fp_X10_353 h1 (by decide) ⟨_, rfl⟩ (fun _ _ _ _ q => q) (fun _ _ _ q => q) rfl rfl (by decide) (fun σ7347 h7348 g7349 g7350 f7351 => ?_)
  refine m_aload_n F rfl e_X10_draw_20 ?_
  refine r_getC F e_X10_draw_21 fl_X10_353 h7348 (f7351) ?_
  refine m_bipush F (v := 16) (by decide) e_X10_draw_24 ?_
  refine m_ishr F e_X10_draw_26 ?_
  refine Wm.top (fun x7352 _ => ?_)
  refine m_iload_n F rfl e_X10_draw_27 ?_
  refine m_irem F (fun e => by have h9 := nI_inj (a := n901) (b := 0) (by omega) (by omega) e; omega) e_X10_draw_28 ?_
  refine Wm.top (fun x7353 _ => ?_)
  exact m_iret F hQ e_X10_draw_29 (⟨h7348, _, rfl⟩)
set_option maxRecDepth 20000 in
theorem q_X10_held (l : Launch) (V : VX) (N : Nat) (σ : Mem) (x901 : Int64)  : Ct l V yX10_held cX10_held 2 (some .long) 0 0 0 N σ [.long x901] (fun r τ => τ = σ ∧ ∃ n : Nat, 1 ≤ n ∧ n ≤ 2000 ∧ r = some (.long (lN n))) := by
  refine Ct.of (by decide) (Nat.le_of_ble_eq_true rfl) [(0, .long x901)] rfl (fun X hX F hQ => ?_)
  refine m_lload_n F rfl e_X10_held_0 ?_
  refine m_ldc2 F kc_X10_358 e_X10_held_1 ?_
  refine m_lcmp F e_X10_held_4 ?_
  refine m_if_ge F e_X10_held_5 (fun q5 => ?_) (fun q5 => ?_)
  · have e5 : ¬ x901 < 500 := Int64.not_lt.mpr ((lg_cmp_ge _ _).mp q5)
    refine m_lload_n F rfl e_X10_held_12 ?_
    refine m_ldc2 F kc_X10_360 e_X10_held_13 ?_
    refine m_lcmp F e_X10_held_16 ?_
    refine m_if_le F e_X10_held_17 (fun q17 => ?_) (fun q17 => ?_)
    · have e17 : ¬ 2000 < x901 := Int64.not_lt.mpr ((lg_cmp_le _ _).mp q17)
      refine m_lload_n F rfl e_X10_held_24 ?_
      exact m_lret F hQ e_X10_held_25 ((by obtain ⟨n9, g9, h9, e9⟩ := lN_of e5 e17; exact ⟨rfl, n9, g9, h9, by rw [e9]⟩))
    · refine m_ldc2 F kc_X10_360 e_X10_held_20 ?_
      exact m_lret F hQ e_X10_held_23 (⟨rfl, 2000, by omega, by omega, rfl⟩)
  · refine m_ldc2 F kc_X10_358 e_X10_held_8 ?_
    exact m_lret F hQ e_X10_held_11 (⟨rfl, 500, by omega, by omega, rfl⟩)
set_option maxRecDepth 20000 in
theorem lq_X10_chance_125 {V : VX} {X : MX} {N : Nat} {σ : Mem} {c T Z u h : Nat} {P : NP} {L : Nat → LQ}   (F : Fx V X yX10_chance cX10_chance 13 (some .long) (rmd 4 0 0)) (hQ : Rt V X 0 0 N (fun r τ => HS V c (⟨T, Z, u, h, P, L⟩ : RG) [0, 2, 3, 4, 5, 6, 7, 8, 9, 10, 11, 12, 13, 14, 15, 16, 18, 20, 21, 22] σ τ ∧ ∃ x : Int64, r = some (.long x))) (hok : OKL P.n0 L) (hP : OKP P)  {fuelO : Nat} (hO : ∀ (a : Nat) (b : Nat) (w1 : Int64) (w2 : Int64) (w3 : Int64) (k : Nat) (τ : Mem), HS V c (⟨T, Z, u, h, P, L⟩ : RG) [0, 2, 3, 4, 5, 6, 7, 8, 9, 10, 11, 12, 13, 14, 15, 16, 18, 20, 21, 22] σ τ → a ≤ 10 ∧ b ≤ 2 ∧ k ≤ a ∧ (L 4).1 ≤ 87 ∧ GB V c 18 1113 0 L τ → a - k < fuelO → Wm V X 13 N τ 0 0 116 [(0, .ref c), (2, .int (nI a)), (3, .int (nI b)), (4, .long w1), (6, .long w2), (8, .long w3), (10, .int (nI k))] []) : ∀ (fuel : Nat) (a : Nat) (b : Nat) (w1 : Int64) (w2 : Int64) (w3 : Int64) (k : Nat) (p : Nat) (L1 : Nat → LQ) (τ : Mem), HS V c (⟨T, Z, u, h, P, L1⟩ : RG) [0, 2, 3, 4, 5, 6, 7, 8, 9, 10, 11, 12, 13, 14, 15, 16, 18, 20, 21, 22] σ τ → OKL P.n0 L1 → a ≤ 10 ∧ b ≤ 2 ∧ k < a ∧ (L 4).1 ≤ 87 ∧ a - k ≤ fuelO ∧ p ≤ 12 ∧ (L1 4).1 = (L 4).1 + p ∧ GB V c 18 1113 0 L τ → 12 - p < fuel → Wm V X 13 N τ 0 0 125 [(0, .ref c), (2, .int (nI a)), (3, .int (nI b)), (4, .long w1), (6, .long w2), (8, .long w3), (10, .int (nI k)), (11, .int (nI p))] [] := by
  intro fuel
  induction fuel with
  | zero => intros; rename_i hm; exact absurd hm (Nat.not_lt_zero _)
  | succ fuel ih =>
    intro a b w1 w2 w3 k p L1 τ h1 hok1 hi hm
    have hPP := hP
    unfold OKP at hPP
    have ga0 := hi.2.2.2.2.2.2.2
    refine m_iload F rfl e_X10_chance_125 ?_
    refine m_bipush F (v := 12) (by decide) e_X10_chance_127 ?_
    refine m_icmp_ge F e_X10_chance_129 (fun q129 => ?_) (fun q129 => ?_)
    · have c129 : p ≥ 12 := (nI_leI (a := 12) (b := p) (by omega) (by omega)).mp q129
      refine m_aload_n F rfl e_X10_chance_165 ?_
      refine r_callV F e_X10_chance_166 (q_X10_owedAll (x_l X) V c T Z u h P L1 _ _  h1.1 (hok1.b) hP ) cb_X10_owedAll ml_X10_335 im_X10_owedAll se_X10_owedAll h1 rfl rfl (rest := []) rfl (Nat.le_of_ble_eq_true rfl) ⟨Nat.le_of_ble_eq_true rfl, Nat.le_of_ble_eq_true rfl⟩ ⟨Nat.le_of_ble_eq_true rfl, Nat.le_of_ble_eq_true rfl⟩ (fun r σ7354 hp => ?_)
      obtain ⟨h7355, x7357, rfl⟩ := hp
      have h7356 := HS.trans h1 h7355 (by decide)
      have ga7358 := ga0.of (h7355.2 (c + 18) (by rw [kC_at (k := 18) (by decide)]; decide))
      refine m_lstore F (lv' := [(11, .long x7357), (0, .ref c), (2, .int (nI a)), (3, .int (nI b)), (4, .long w1), (6, .long w2), (8, .long w3), (10, .int (nI k))]) e_X10_chance_169 (by decide) rfl ?_
      refine m_lload F rfl e_X10_chance_171 ?_
      refine m_lload F rfl e_X10_chance_173 ?_
      refine m_ladd F e_X10_chance_175 ?_
      refine Wm.topl (fun x7359 _ => ?_)
      refine m_lstore F (lv' := [(4, .long x7359), (11, .long x7357), (0, .ref c), (2, .int (nI a)), (3, .int (nI b)), (6, .long w2), (8, .long w3), (10, .int (nI k))]) e_X10_chance_176 (by decide) rfl ?_
      refine m_iload F rfl e_X10_chance_178 ?_
      refine m_if_eq F e_X10_chance_180 (fun q180 => ?_) (fun q180 => ?_)
      · have c180 : k = 0 := (nI_eq (a := k) (b := 0) (by omega) (by omega)).mp q180
        refine m_lload F rfl e_X10_chance_191 ?_
        refine m_goto F e_X10_chance_193 ?_
        refine m_lstore F (lv' := [(6, .long x7357), (4, .long x7359), (11, .long x7357), (0, .ref c), (2, .int (nI a)), (3, .int (nI b)), (8, .long w3), (10, .int (nI k))]) e_X10_chance_198 (by decide) rfl ?_
        refine m_iload F rfl e_X10_chance_200 ?_
        refine m_if_eq F e_X10_chance_202 (fun q202 => ?_) (fun q202 => ?_)
        · have c202 : k = 0 := (nI_eq (a := k) (b := 0) (by omega) (by omega)).mp q202
          refine m_lload F rfl e_X10_chance_213 ?_
          refine m_goto F e_X10_chance_215 ?_
          refine m_lstore F (lv' := [(8, .long x7357), (6, .long x7357), (4, .long x7359), (11, .long x7357), (0, .ref c), (2, .int (nI a)), (3, .int (nI b)), (10, .int (nI k))]) e_X10_chance_220 (by decide) rfl ?_
          refine m_aload_n F rfl e_X10_chance_222 ?_
          refine r_get F e_X10_chance_223 fl_X10_66 h7356 rfl (fun v hv f7360 => ?_)
          obtain rfl : v = .ref (c + 18) := hv
          refine m_iconst F (v := 0) (by decide) e_X10_chance_226 ?_
          refine m_aload_n F rfl e_X10_chance_227 ?_
          refine r_get F e_X10_chance_228 fl_X10_59 h7356 rfl (fun v hv f7361 => ?_)
          obtain rfl : v = .ref (c + 16) := hv
          refine m_iconst F (v := 0) (by decide) e_X10_chance_231 ?_
          have xe7363 := ga7358
          obtain ⟨f7362, e7363, te7363⟩ := xe7363
          obtain ⟨g7364, e7365, te7365⟩ : ∃ f, σ7354 (c + 16) = some (aJ V 1113 f) ∧ _ := h7356.1.cell (k := 16) (by decide)
          refine m_callS F e_X10_chance_232 (q_copies (x_l X) V _ _ (c + 18) (c + 16) 1113 1113 0 0 f7362 g7364 e7363 e7365 (by omega) (by omega) (by omega) (by omega)) cb_X10_copies ml_X10_230 sm_X10_copies rfl (rest := []) rfl (Nat.le_of_ble_eq_true rfl) ⟨Nat.le_of_ble_eq_true rfl, Nat.le_of_ble_eq_true rfl⟩ ⟨Nat.le_of_ble_eq_true rfl, Nat.le_of_ble_eq_true rfl⟩ (k' := 0) (z' := 0) (N' := N) rfl rfl rfl (fun r σ7366 hp => ?_)
          obtain ⟨p7367, rfl⟩ := hp
          have h7368 := HS.cpS (L2 := L) (o := 0) h7356 (by decide) te7363 p7367
          have ga7369 := ga7358.of (p7367.2 _ (by omega))
          refine m_iinc F (v := nI (k + 1)) (lv' := [(10, .int (nI (k + 1))), (8, .long x7357), (6, .long x7357), (4, .long x7359), (11, .long x7357), (0, .ref c), (2, .int (nI a)), (3, .int (nI b))]) e_X10_chance_235 rfl (nI_add k 1) (by decide) rfl ?_
          refine m_goto F e_X10_chance_238 ?_
          refine Wm.lvsub (lv' := [(0, .ref c), (2, .int (nI a)), (3, .int (nI b)), (4, .long x7359), (6, .long x7357), (8, .long x7357), (10, .int (nI (k + 1)))]) ?_ [5, 6, 7, 3, 2, 1, 0] rfl
          exact hO a b x7359 x7357 x7357 (k + 1) _ h7368 ⟨by omega, by omega, by omega, by omega, by assumption⟩ (by omega)
        · have c202 : k ≠ 0 := by have hh := mt (nI_eq (a := k) (b := 0) (by omega) (by omega)).mpr q202; omega
          refine m_lload F rfl e_X10_chance_205 ?_
          refine m_lload F rfl e_X10_chance_207 ?_
          refine m_lcmp F e_X10_chance_209 ?_
          refine Wm.top (fun x7370 _ => ?_)
          refine m_if_ge F e_X10_chance_210 (fun q210 => ?_) (fun q210 => ?_)
          · obtain ⟨n7371, hn7371, rfl⟩ := nI_nn (x := x7370) (fun e => Int32.lt_irrefl (Int32.lt_of_lt_of_le e (Int32.le_trans (by decide) q210)))
            have c210 : n7371 ≥ 0 := (nI_leI (a := 0) (b := n7371) (by omega) (by omega)).mp q210
            refine m_lload F rfl e_X10_chance_218 ?_
            refine m_lstore F (lv' := [(8, .long w3), (6, .long x7357), (4, .long x7359), (11, .long x7357), (0, .ref c), (2, .int (nI a)), (3, .int (nI b)), (10, .int (nI k))]) e_X10_chance_220 (by decide) rfl ?_
            refine m_aload_n F rfl e_X10_chance_222 ?_
            refine r_get F e_X10_chance_223 fl_X10_66 h7356 rfl (fun v hv f7372 => ?_)
            obtain rfl : v = .ref (c + 18) := hv
            refine m_iconst F (v := 0) (by decide) e_X10_chance_226 ?_
            refine m_aload_n F rfl e_X10_chance_227 ?_
            refine r_get F e_X10_chance_228 fl_X10_59 h7356 rfl (fun v hv f7373 => ?_)
            obtain rfl : v = .ref (c + 16) := hv
            refine m_iconst F (v := 0) (by decide) e_X10_chance_231 ?_
            have xe7375 := ga7358
            obtain ⟨f7374, e7375, te7375⟩ := xe7375
            obtain ⟨g7376, e7377, te7377⟩ : ∃ f, σ7354 (c + 16) = some (aJ V 1113 f) ∧ _ := h7356.1.cell (k := 16) (by decide)
            refine m_callS F e_X10_chance_232 (q_copies (x_l X) V _ _ (c + 18) (c + 16) 1113 1113 0 0 f7374 g7376 e7375 e7377 (by omega) (by omega) (by omega) (by omega)) cb_X10_copies ml_X10_230 sm_X10_copies rfl (rest := []) rfl (Nat.le_of_ble_eq_true rfl) ⟨Nat.le_of_ble_eq_true rfl, Nat.le_of_ble_eq_true rfl⟩ ⟨Nat.le_of_ble_eq_true rfl, Nat.le_of_ble_eq_true rfl⟩ (k' := 0) (z' := 0) (N' := N) rfl rfl rfl (fun r σ7378 hp => ?_)
            obtain ⟨p7379, rfl⟩ := hp
            have h7380 := HS.cpS (L2 := L) (o := 0) h7356 (by decide) te7375 p7379
            have ga7381 := ga7358.of (p7379.2 _ (by omega))
            refine m_iinc F (v := nI (k + 1)) (lv' := [(10, .int (nI (k + 1))), (8, .long w3), (6, .long x7357), (4, .long x7359), (11, .long x7357), (0, .ref c), (2, .int (nI a)), (3, .int (nI b))]) e_X10_chance_235 rfl (nI_add k 1) (by decide) rfl ?_
            refine m_goto F e_X10_chance_238 ?_
            refine Wm.lvsub (lv' := [(0, .ref c), (2, .int (nI a)), (3, .int (nI b)), (4, .long x7359), (6, .long x7357), (8, .long w3), (10, .int (nI (k + 1)))]) ?_ [5, 6, 7, 3, 2, 1, 0] rfl
            exact hO a b x7359 x7357 w3 (k + 1) _ h7380 ⟨by omega, by omega, by omega, by omega, by assumption⟩ (by omega)
          · refine m_lload F rfl e_X10_chance_213 ?_
            refine m_goto F e_X10_chance_215 ?_
            refine m_lstore F (lv' := [(8, .long x7357), (6, .long x7357), (4, .long x7359), (11, .long x7357), (0, .ref c), (2, .int (nI a)), (3, .int (nI b)), (10, .int (nI k))]) e_X10_chance_220 (by decide) rfl ?_
            refine m_aload_n F rfl e_X10_chance_222 ?_
            refine r_get F e_X10_chance_223 fl_X10_66 h7356 rfl (fun v hv f7382 => ?_)
            obtain rfl : v = .ref (c + 18) := hv
            refine m_iconst F (v := 0) (by decide) e_X10_chance_226 ?_
            refine m_aload_n F rfl e_X10_chance_227 ?_
            refine r_get F e_X10_chance_228 fl_X10_59 h7356 rfl (fun v hv f7383 => ?_)
            obtain rfl : v = .ref (c + 16) := hv
            refine m_iconst F (v := 0) (by decide) e_X10_chance_231 ?_
            have xe7385 := ga7358
            obtain ⟨f7384, e7385, te7385⟩ := xe7385
            obtain ⟨g7386, e7387, te7387⟩ : ∃ f, σ7354 (c + 16) = some (aJ V 1113 f) ∧ _ := h7356.1.cell (k := 16) (by decide)
            refine m_callS F e_X10_chance_232 (q_copies (x_l X) V _ _ (c + 18) (c + 16) 1113 1113 0 0 f7384 g7386 e7385 e7387 (by omega) (by omega) (by omega) (by omega)) cb_X10_copies ml_X10_230 sm_X10_copies rfl (rest := []) rfl (Nat.le_of_ble_eq_true rfl) ⟨Nat.le_of_ble_eq_true rfl, Nat.le_of_ble_eq_true rfl⟩ ⟨Nat.le_of_ble_eq_true rfl, Nat.le_of_ble_eq_true rfl⟩ (k' := 0) (z' := 0) (N' := N) rfl rfl rfl (fun r σ7388 hp => ?_)
            obtain ⟨p7389, rfl⟩ := hp
            have h7390 := HS.cpS (L2 := L) (o := 0) h7356 (by decide) te7385 p7389
            have ga7391 := ga7358.of (p7389.2 _ (by omega))
            refine m_iinc F (v := nI (k + 1)) (lv' := [(10, .int (nI (k + 1))), (8, .long x7357), (6, .long x7357), (4, .long x7359), (11, .long x7357), (0, .ref c), (2, .int (nI a)), (3, .int (nI b))]) e_X10_chance_235 rfl (nI_add k 1) (by decide) rfl ?_
            refine m_goto F e_X10_chance_238 ?_
            refine Wm.lvsub (lv' := [(0, .ref c), (2, .int (nI a)), (3, .int (nI b)), (4, .long x7359), (6, .long x7357), (8, .long x7357), (10, .int (nI (k + 1)))]) ?_ [5, 6, 7, 3, 2, 1, 0] rfl
            exact hO a b x7359 x7357 x7357 (k + 1) _ h7390 ⟨by omega, by omega, by omega, by omega, by assumption⟩ (by omega)
      · have c180 : k ≠ 0 := by have hh := mt (nI_eq (a := k) (b := 0) (by omega) (by omega)).mpr q180; omega
        refine m_lload F rfl e_X10_chance_183 ?_
        refine m_lload F rfl e_X10_chance_185 ?_
        refine m_lcmp F e_X10_chance_187 ?_
        refine Wm.top (fun x7392 _ => ?_)
        refine m_if_le F e_X10_chance_188 (fun q188 => ?_) (fun q188 => ?_)
        · refine m_lload F rfl e_X10_chance_196 ?_
          refine m_lstore F (lv' := [(6, .long w2), (4, .long x7359), (11, .long x7357), (0, .ref c), (2, .int (nI a)), (3, .int (nI b)), (8, .long w3), (10, .int (nI k))]) e_X10_chance_198 (by decide) rfl ?_
          refine m_iload F rfl e_X10_chance_200 ?_
          refine m_if_eq F e_X10_chance_202 (fun q202 => ?_) (fun q202 => ?_)
          · have c202 : k = 0 := (nI_eq (a := k) (b := 0) (by omega) (by omega)).mp q202
            refine m_lload F rfl e_X10_chance_213 ?_
            refine m_goto F e_X10_chance_215 ?_
            refine m_lstore F (lv' := [(8, .long x7357), (6, .long w2), (4, .long x7359), (11, .long x7357), (0, .ref c), (2, .int (nI a)), (3, .int (nI b)), (10, .int (nI k))]) e_X10_chance_220 (by decide) rfl ?_
            refine m_aload_n F rfl e_X10_chance_222 ?_
            refine r_get F e_X10_chance_223 fl_X10_66 h7356 rfl (fun v hv f7393 => ?_)
            obtain rfl : v = .ref (c + 18) := hv
            refine m_iconst F (v := 0) (by decide) e_X10_chance_226 ?_
            refine m_aload_n F rfl e_X10_chance_227 ?_
            refine r_get F e_X10_chance_228 fl_X10_59 h7356 rfl (fun v hv f7394 => ?_)
            obtain rfl : v = .ref (c + 16) := hv
            refine m_iconst F (v := 0) (by decide) e_X10_chance_231 ?_
            have xe7396 := ga7358
            obtain ⟨f7395, e7396, te7396⟩ := xe7396
            obtain ⟨g7397, e7398, te7398⟩ : ∃ f, σ7354 (c + 16) = some (aJ V 1113 f) ∧ _ := h7356.1.cell (k := 16) (by decide)
            refine m_callS F e_X10_chance_232 (q_copies (x_l X) V _ _ (c + 18) (c + 16) 1113 1113 0 0 f7395 g7397 e7396 e7398 (by omega) (by omega) (by omega) (by omega)) cb_X10_copies ml_X10_230 sm_X10_copies rfl (rest := []) rfl (Nat.le_of_ble_eq_true rfl) ⟨Nat.le_of_ble_eq_true rfl, Nat.le_of_ble_eq_true rfl⟩ ⟨Nat.le_of_ble_eq_true rfl, Nat.le_of_ble_eq_true rfl⟩ (k' := 0) (z' := 0) (N' := N) rfl rfl rfl (fun r σ7399 hp => ?_)
            obtain ⟨p7400, rfl⟩ := hp
            have h7401 := HS.cpS (L2 := L) (o := 0) h7356 (by decide) te7396 p7400
            have ga7402 := ga7358.of (p7400.2 _ (by omega))
            refine m_iinc F (v := nI (k + 1)) (lv' := [(10, .int (nI (k + 1))), (8, .long x7357), (6, .long w2), (4, .long x7359), (11, .long x7357), (0, .ref c), (2, .int (nI a)), (3, .int (nI b))]) e_X10_chance_235 rfl (nI_add k 1) (by decide) rfl ?_
            refine m_goto F e_X10_chance_238 ?_
            refine Wm.lvsub (lv' := [(0, .ref c), (2, .int (nI a)), (3, .int (nI b)), (4, .long x7359), (6, .long w2), (8, .long x7357), (10, .int (nI (k + 1)))]) ?_ [5, 6, 7, 3, 2, 1, 0] rfl
            exact hO a b x7359 w2 x7357 (k + 1) _ h7401 ⟨by omega, by omega, by omega, by omega, by assumption⟩ (by omega)
          · have c202 : k ≠ 0 := by have hh := mt (nI_eq (a := k) (b := 0) (by omega) (by omega)).mpr q202; omega
            refine m_lload F rfl e_X10_chance_205 ?_
            refine m_lload F rfl e_X10_chance_207 ?_
            refine m_lcmp F e_X10_chance_209 ?_
            refine Wm.top (fun x7403 _ => ?_)
            refine m_if_ge F e_X10_chance_210 (fun q210 => ?_) (fun q210 => ?_)
            · obtain ⟨n7404, hn7404, rfl⟩ := nI_nn (x := x7403) (fun e => Int32.lt_irrefl (Int32.lt_of_lt_of_le e (Int32.le_trans (by decide) q210)))
              have c210 : n7404 ≥ 0 := (nI_leI (a := 0) (b := n7404) (by omega) (by omega)).mp q210
              refine m_lload F rfl e_X10_chance_218 ?_
              refine m_lstore F (lv' := [(8, .long w3), (6, .long w2), (4, .long x7359), (11, .long x7357), (0, .ref c), (2, .int (nI a)), (3, .int (nI b)), (10, .int (nI k))]) e_X10_chance_220 (by decide) rfl ?_
              refine m_aload_n F rfl e_X10_chance_222 ?_
              refine r_get F e_X10_chance_223 fl_X10_66 h7356 rfl (fun v hv f7405 => ?_)
              obtain rfl : v = .ref (c + 18) := hv
              refine m_iconst F (v := 0) (by decide) e_X10_chance_226 ?_
              refine m_aload_n F rfl e_X10_chance_227 ?_
              refine r_get F e_X10_chance_228 fl_X10_59 h7356 rfl (fun v hv f7406 => ?_)
              obtain rfl : v = .ref (c + 16) := hv
              refine m_iconst F (v := 0) (by decide) e_X10_chance_231 ?_
              have xe7408 := ga7358
              obtain ⟨f7407, e7408, te7408⟩ := xe7408
              obtain ⟨g7409, e7410, te7410⟩ : ∃ f, σ7354 (c + 16) = some (aJ V 1113 f) ∧ _ := h7356.1.cell (k := 16) (by decide)
              refine m_callS F e_X10_chance_232 (q_copies (x_l X) V _ _ (c + 18) (c + 16) 1113 1113 0 0 f7407 g7409 e7408 e7410 (by omega) (by omega) (by omega) (by omega)) cb_X10_copies ml_X10_230 sm_X10_copies rfl (rest := []) rfl (Nat.le_of_ble_eq_true rfl) ⟨Nat.le_of_ble_eq_true rfl, Nat.le_of_ble_eq_true rfl⟩ ⟨Nat.le_of_ble_eq_true rfl, Nat.le_of_ble_eq_true rfl⟩ (k' := 0) (z' := 0) (N' := N) rfl rfl rfl (fun r σ7411 hp => ?_)
              obtain ⟨p7412, rfl⟩ := hp
              have h7413 := HS.cpS (L2 := L) (o := 0) h7356 (by decide) te7408 p7412
              have ga7414 := ga7358.of (p7412.2 _ (by omega))
              refine m_iinc F (v := nI (k + 1)) (lv' := [(10, .int (nI (k + 1))), (8, .long w3), (6, .long w2), (4, .long x7359), (11, .long x7357), (0, .ref c), (2, .int (nI a)), (3, .int (nI b))]) e_X10_chance_235 rfl (nI_add k 1) (by decide) rfl ?_
              refine m_goto F e_X10_chance_238 ?_
              refine Wm.lvsub (lv' := [(0, .ref c), (2, .int (nI a)), (3, .int (nI b)), (4, .long x7359), (6, .long w2), (8, .long w3), (10, .int (nI (k + 1)))]) ?_ [5, 6, 7, 3, 2, 1, 0] rfl
              exact hO a b x7359 w2 w3 (k + 1) _ h7413 ⟨by omega, by omega, by omega, by omega, by assumption⟩ (by omega)
            · refine m_lload F rfl e_X10_chance_213 ?_
              refine m_goto F e_X10_chance_215 ?_
              refine m_lstore F (lv' := [(8, .long x7357), (6, .long w2), (4, .long x7359), (11, .long x7357), (0, .ref c), (2, .int (nI a)), (3, .int (nI b)), (10, .int (nI k))]) e_X10_chance_220 (by decide) rfl ?_
              refine m_aload_n F rfl e_X10_chance_222 ?_
              refine r_get F e_X10_chance_223 fl_X10_66 h7356 rfl (fun v hv f7415 => ?_)
              obtain rfl : v = .ref (c + 18) := hv
              refine m_iconst F (v := 0) (by decide) e_X10_chance_226 ?_
              refine m_aload_n F rfl e_X10_chance_227 ?_
              refine r_get F e_X10_chance_228 fl_X10_59 h7356 rfl (fun v hv f7416 => ?_)
              obtain rfl : v = .ref (c + 16) := hv
              refine m_iconst F (v := 0) (by decide) e_X10_chance_231 ?_
              have xe7418 := ga7358
              obtain ⟨f7417, e7418, te7418⟩ := xe7418
              obtain ⟨g7419, e7420, te7420⟩ : ∃ f, σ7354 (c + 16) = some (aJ V 1113 f) ∧ _ := h7356.1.cell (k := 16) (by decide)
              refine m_callS F e_X10_chance_232 (q_copies (x_l X) V _ _ (c + 18) (c + 16) 1113 1113 0 0 f7417 g7419 e7418 e7420 (by omega) (by omega) (by omega) (by omega)) cb_X10_copies ml_X10_230 sm_X10_copies rfl (rest := []) rfl (Nat.le_of_ble_eq_true rfl) ⟨Nat.le_of_ble_eq_true rfl, Nat.le_of_ble_eq_true rfl⟩ ⟨Nat.le_of_ble_eq_true rfl, Nat.le_of_ble_eq_true rfl⟩ (k' := 0) (z' := 0) (N' := N) rfl rfl rfl (fun r σ7421 hp => ?_)
              obtain ⟨p7422, rfl⟩ := hp
              have h7423 := HS.cpS (L2 := L) (o := 0) h7356 (by decide) te7418 p7422
              have ga7424 := ga7358.of (p7422.2 _ (by omega))
              refine m_iinc F (v := nI (k + 1)) (lv' := [(10, .int (nI (k + 1))), (8, .long x7357), (6, .long w2), (4, .long x7359), (11, .long x7357), (0, .ref c), (2, .int (nI a)), (3, .int (nI b))]) e_X10_chance_235 rfl (nI_add k 1) (by decide) rfl ?_
              refine m_goto F e_X10_chance_238 ?_
              refine Wm.lvsub (lv' := [(0, .ref c), (2, .int (nI a)), (3, .int (nI b)), (4, .long x7359), (6, .long w2), (8, .long x7357), (10, .int (nI (k + 1)))]) ?_ [5, 6, 7, 3, 2, 1, 0] rfl
              exact hO a b x7359 w2 x7357 (k + 1) _ h7423 ⟨by omega, by omega, by omega, by omega, by assumption⟩ (by omega)
        · obtain ⟨n7425, hn7425, rfl⟩ := nI_nn (x := x7392) (fun e => q188 (Int32.le_trans (Int32.le_of_lt e) (by decide)))
          have c188 : n7425 > 0 := by have hh := mt (nI_leI (a := n7425) (b := 0) (by omega) (by omega)).mpr q188; omega
          refine m_lload F rfl e_X10_chance_191 ?_
          refine m_goto F e_X10_chance_193 ?_
          refine m_lstore F (lv' := [(6, .long x7357), (4, .long x7359), (11, .long x7357), (0, .ref c), (2, .int (nI a)), (3, .int (nI b)), (8, .long w3), (10, .int (nI k))]) e_X10_chance_198 (by decide) rfl ?_
          refine m_iload F rfl e_X10_chance_200 ?_
          refine m_if_eq F e_X10_chance_202 (fun q202 => ?_) (fun q202 => ?_)
          · have c202 : k = 0 := (nI_eq (a := k) (b := 0) (by omega) (by omega)).mp q202
            refine m_lload F rfl e_X10_chance_213 ?_
            refine m_goto F e_X10_chance_215 ?_
            refine m_lstore F (lv' := [(8, .long x7357), (6, .long x7357), (4, .long x7359), (11, .long x7357), (0, .ref c), (2, .int (nI a)), (3, .int (nI b)), (10, .int (nI k))]) e_X10_chance_220 (by decide) rfl ?_
            refine m_aload_n F rfl e_X10_chance_222 ?_
            refine r_get F e_X10_chance_223 fl_X10_66 h7356 rfl (fun v hv f7426 => ?_)
            obtain rfl : v = .ref (c + 18) := hv
            refine m_iconst F (v := 0) (by decide) e_X10_chance_226 ?_
            refine m_aload_n F rfl e_X10_chance_227 ?_
            refine r_get F e_X10_chance_228 fl_X10_59 h7356 rfl (fun v hv f7427 => ?_)
            obtain rfl : v = .ref (c + 16) := hv
            refine m_iconst F (v := 0) (by decide) e_X10_chance_231 ?_
            have xe7429 := ga7358
            obtain ⟨f7428, e7429, te7429⟩ := xe7429
            obtain ⟨g7430, e7431, te7431⟩ : ∃ f, σ7354 (c + 16) = some (aJ V 1113 f) ∧ _ := h7356.1.cell (k := 16) (by decide)
            refine m_callS F e_X10_chance_232 (q_copies (x_l X) V _ _ (c + 18) (c + 16) 1113 1113 0 0 f7428 g7430 e7429 e7431 (by omega) (by omega) (by omega) (by omega)) cb_X10_copies ml_X10_230 sm_X10_copies rfl (rest := []) rfl (Nat.le_of_ble_eq_true rfl) ⟨Nat.le_of_ble_eq_true rfl, Nat.le_of_ble_eq_true rfl⟩ ⟨Nat.le_of_ble_eq_true rfl, Nat.le_of_ble_eq_true rfl⟩ (k' := 0) (z' := 0) (N' := N) rfl rfl rfl (fun r σ7432 hp => ?_)
            obtain ⟨p7433, rfl⟩ := hp
            have h7434 := HS.cpS (L2 := L) (o := 0) h7356 (by decide) te7429 p7433
            have ga7435 := ga7358.of (p7433.2 _ (by omega))
            refine m_iinc F (v := nI (k + 1)) (lv' := [(10, .int (nI (k + 1))), (8, .long x7357), (6, .long x7357), (4, .long x7359), (11, .long x7357), (0, .ref c), (2, .int (nI a)), (3, .int (nI b))]) e_X10_chance_235 rfl (nI_add k 1) (by decide) rfl ?_
            refine m_goto F e_X10_chance_238 ?_
            refine Wm.lvsub (lv' := [(0, .ref c), (2, .int (nI a)), (3, .int (nI b)), (4, .long x7359), (6, .long x7357), (8, .long x7357), (10, .int (nI (k + 1)))]) ?_ [5, 6, 7, 3, 2, 1, 0] rfl
            exact hO a b x7359 x7357 x7357 (k + 1) _ h7434 ⟨by omega, by omega, by omega, by omega, by assumption⟩ (by omega)
          · have c202 : k ≠ 0 := by have hh := mt (nI_eq (a := k) (b := 0) (by omega) (by omega)).mpr q202; omega
            refine m_lload F rfl e_X10_chance_205 ?_
            refine m_lload F rfl e_X10_chance_207 ?_
            refine m_lcmp F e_X10_chance_209 ?_
            refine Wm.top (fun x7436 _ => ?_)
            refine m_if_ge F e_X10_chance_210 (fun q210 => ?_) (fun q210 => ?_)
            · obtain ⟨n7437, hn7437, rfl⟩ := nI_nn (x := x7436) (fun e => Int32.lt_irrefl (Int32.lt_of_lt_of_le e (Int32.le_trans (by decide) q210)))
              have c210 : n7437 ≥ 0 := (nI_leI (a := 0) (b := n7437) (by omega) (by omega)).mp q210
              refine m_lload F rfl e_X10_chance_218 ?_
              refine m_lstore F (lv' := [(8, .long w3), (6, .long x7357), (4, .long x7359), (11, .long x7357), (0, .ref c), (2, .int (nI a)), (3, .int (nI b)), (10, .int (nI k))]) e_X10_chance_220 (by decide) rfl ?_
              refine m_aload_n F rfl e_X10_chance_222 ?_
              refine r_get F e_X10_chance_223 fl_X10_66 h7356 rfl (fun v hv f7438 => ?_)
              obtain rfl : v = .ref (c + 18) := hv
              refine m_iconst F (v := 0) (by decide) e_X10_chance_226 ?_
              refine m_aload_n F rfl e_X10_chance_227 ?_
              refine r_get F e_X10_chance_228 fl_X10_59 h7356 rfl (fun v hv f7439 => ?_)
              obtain rfl : v = .ref (c + 16) := hv
              refine m_iconst F (v := 0) (by decide) e_X10_chance_231 ?_
              have xe7441 := ga7358
              obtain ⟨f7440, e7441, te7441⟩ := xe7441
              obtain ⟨g7442, e7443, te7443⟩ : ∃ f, σ7354 (c + 16) = some (aJ V 1113 f) ∧ _ := h7356.1.cell (k := 16) (by decide)
              refine m_callS F e_X10_chance_232 (q_copies (x_l X) V _ _ (c + 18) (c + 16) 1113 1113 0 0 f7440 g7442 e7441 e7443 (by omega) (by omega) (by omega) (by omega)) cb_X10_copies ml_X10_230 sm_X10_copies rfl (rest := []) rfl (Nat.le_of_ble_eq_true rfl) ⟨Nat.le_of_ble_eq_true rfl, Nat.le_of_ble_eq_true rfl⟩ ⟨Nat.le_of_ble_eq_true rfl, Nat.le_of_ble_eq_true rfl⟩ (k' := 0) (z' := 0) (N' := N) rfl rfl rfl (fun r σ7444 hp => ?_)
              obtain ⟨p7445, rfl⟩ := hp
              have h7446 := HS.cpS (L2 := L) (o := 0) h7356 (by decide) te7441 p7445
              have ga7447 := ga7358.of (p7445.2 _ (by omega))
              refine m_iinc F (v := nI (k + 1)) (lv' := [(10, .int (nI (k + 1))), (8, .long w3), (6, .long x7357), (4, .long x7359), (11, .long x7357), (0, .ref c), (2, .int (nI a)), (3, .int (nI b))]) e_X10_chance_235 rfl (nI_add k 1) (by decide) rfl ?_
              refine m_goto F e_X10_chance_238 ?_
              refine Wm.lvsub (lv' := [(0, .ref c), (2, .int (nI a)), (3, .int (nI b)), (4, .long x7359), (6, .long x7357), (8, .long w3), (10, .int (nI (k + 1)))]) ?_ [5, 6, 7, 3, 2, 1, 0] rfl
              exact hO a b x7359 x7357 w3 (k + 1) _ h7446 ⟨by omega, by omega, by omega, by omega, by assumption⟩ (by omega)
            · refine m_lload F rfl e_X10_chance_213 ?_
              refine m_goto F e_X10_chance_215 ?_
              refine m_lstore F (lv' := [(8, .long x7357), (6, .long x7357), (4, .long x7359), (11, .long x7357), (0, .ref c), (2, .int (nI a)), (3, .int (nI b)), (10, .int (nI k))]) e_X10_chance_220 (by decide) rfl ?_
              refine m_aload_n F rfl e_X10_chance_222 ?_
              refine r_get F e_X10_chance_223 fl_X10_66 h7356 rfl (fun v hv f7448 => ?_)
              obtain rfl : v = .ref (c + 18) := hv
              refine m_iconst F (v := 0) (by decide) e_X10_chance_226 ?_
              refine m_aload_n F rfl e_X10_chance_227 ?_
              refine r_get F e_X10_chance_228 fl_X10_59 h7356 rfl (fun v hv f7449 => ?_)
              obtain rfl : v = .ref (c + 16) := hv
              refine m_iconst F (v := 0) (by decide) e_X10_chance_231 ?_
              have xe7451 := ga7358
              obtain ⟨f7450, e7451, te7451⟩ := xe7451
              obtain ⟨g7452, e7453, te7453⟩ : ∃ f, σ7354 (c + 16) = some (aJ V 1113 f) ∧ _ := h7356.1.cell (k := 16) (by decide)
              refine m_callS F e_X10_chance_232 (q_copies (x_l X) V _ _ (c + 18) (c + 16) 1113 1113 0 0 f7450 g7452 e7451 e7453 (by omega) (by omega) (by omega) (by omega)) cb_X10_copies ml_X10_230 sm_X10_copies rfl (rest := []) rfl (Nat.le_of_ble_eq_true rfl) ⟨Nat.le_of_ble_eq_true rfl, Nat.le_of_ble_eq_true rfl⟩ ⟨Nat.le_of_ble_eq_true rfl, Nat.le_of_ble_eq_true rfl⟩ (k' := 0) (z' := 0) (N' := N) rfl rfl rfl (fun r σ7454 hp => ?_)
              obtain ⟨p7455, rfl⟩ := hp
              have h7456 := HS.cpS (L2 := L) (o := 0) h7356 (by decide) te7451 p7455
              have ga7457 := ga7358.of (p7455.2 _ (by omega))
              refine m_iinc F (v := nI (k + 1)) (lv' := [(10, .int (nI (k + 1))), (8, .long x7357), (6, .long x7357), (4, .long x7359), (11, .long x7357), (0, .ref c), (2, .int (nI a)), (3, .int (nI b))]) e_X10_chance_235 rfl (nI_add k 1) (by decide) rfl ?_
              refine m_goto F e_X10_chance_238 ?_
              refine Wm.lvsub (lv' := [(0, .ref c), (2, .int (nI a)), (3, .int (nI b)), (4, .long x7359), (6, .long x7357), (8, .long x7357), (10, .int (nI (k + 1)))]) ?_ [5, 6, 7, 3, 2, 1, 0] rfl
              exact hO a b x7359 x7357 x7357 (k + 1) _ h7456 ⟨by omega, by omega, by omega, by omega, by assumption⟩ (by omega)
    · have c129 : p < 12 := by have hh := mt (nI_leI (a := 12) (b := p) (by omega) (by omega)).mpr q129; omega
      refine m_aload_n F rfl e_X10_chance_132 ?_
      refine m_aload_n F rfl e_X10_chance_133 ?_
      refine r_callV F e_X10_chance_134 (q_X10_indexNow (x_l X) V c T Z u h P L1 _ _  h1.1 (hok1.b) hP ) cb_X10_indexNow ml_X10_260 im_X10_indexNow se_X10_indexNow h1 rfl rfl (rest := [.ref c]) rfl (Nat.le_of_ble_eq_true rfl) ⟨Nat.le_of_ble_eq_true rfl, Nat.le_of_ble_eq_true rfl⟩ ⟨Nat.le_of_ble_eq_true rfl, Nat.le_of_ble_eq_true rfl⟩ (fun r σ7458 hp => ?_)
      obtain ⟨h7459, n7461, hn7461, gn7461, rfl⟩ := hp
      have h7460 := HS.trans h1 h7459 (by decide)
      have ga7462 := ga0.of (h7459.2 (c + 18) (by rw [kC_at (k := 18) (by decide)]; decide))
      refine m_aload_n F rfl e_X10_chance_137 ?_
      refine m_bipush F (v := 21) (by decide) e_X10_chance_138 ?_
      refine r_callV F e_X10_chance_140 (q_X10_draw (x_l X) V c T Z u h P L1 _ _ 21 h7460.1 (hok1.b) hP (by omega) (by first | omega | assumption | decide)) cb_X10_draw ml_X10_364 im_X10_draw se_X10_draw h7460 rfl rfl (rest := [.long (lN n7461), .ref c]) rfl (Nat.le_of_ble_eq_true rfl) ⟨Nat.le_of_ble_eq_true rfl, Nat.le_of_ble_eq_true rfl⟩ ⟨Nat.le_of_ble_eq_true rfl, Nat.le_of_ble_eq_true rfl⟩ (fun r σ7463 hp => ?_)
      obtain ⟨h7464, x7466, rfl⟩ := hp
      have h7465 := HS.trans h7460 h7464 (by decide)
      have ga7467 := ga7462.of (h7464.2 (c + 18) (by rw [kC_at (k := 18) (by decide)]; decide))
      refine m_i2l F e_X10_chance_143 ?_
      refine Wm.topl (fun x7468 _ => ?_)
      refine m_ladd F e_X10_chance_144 ?_
      refine Wm.topl (fun x7469 _ => ?_)
      refine m_ldc2 F kc_X10_367 e_X10_chance_145 ?_
      refine m_lsub F e_X10_chance_148 ?_
      refine Wm.topl (fun x7470 _ => ?_)
      refine m_callS F e_X10_chance_149 (q_X10_held (x_l X) V _ _ x7470 ) cb_X10_held ml_X10_369 sm_X10_held rfl (rest := [.ref c]) rfl (Nat.le_of_ble_eq_true rfl) ⟨Nat.le_of_ble_eq_true rfl, Nat.le_of_ble_eq_true rfl⟩ ⟨Nat.le_of_ble_eq_true rfl, Nat.le_of_ble_eq_true rfl⟩ (k' := 0) (z' := 0) (N' := N) rfl rfl rfl (fun r σ7471 hp => ?_)
      obtain ⟨rfl, n7474, gn7474, hn7474, rfl⟩ := hp
      refine r_callV F e_X10_chance_152 (q_X10_becomes (x_l X) V c T Z u h P L1 _ _ n7474 h7465.1 (hok1.b) hP (by omega) (by first | omega | assumption | decide)) cb_X10_becomes ml_X10_322 im_X10_becomes se_X10_becomes h7465 rfl rfl (rest := []) rfl (Nat.le_of_ble_eq_true rfl) ⟨Nat.le_of_ble_eq_true rfl, Nat.le_of_ble_eq_true rfl⟩ ⟨Nat.le_of_ble_eq_true rfl, Nat.le_of_ble_eq_true rfl⟩ (fun r σ7475 hp => ?_)
      obtain ⟨h7476, rfl⟩ := hp
      have h7477 := HS.trans h7465 h7476 (by decide)
      have ga7478 := ga7467.of (h7476.2 (c + 18) (by rw [kC_at (k := 18) (by decide)]; decide))
      refine m_aload_n F rfl e_X10_chance_155 ?_
      refine r_callV F e_X10_chance_156 (q_X10_periodGoes (x_l X) V c T Z u h P L1 _ _  h7477.1 (hok1) hP (by first | omega | assumption | decide)) cb_X10_periodGoes ml_X10_289 im_X10_periodGoes se_X10_periodGoes h7477 rfl rfl (rest := []) rfl (Nat.le_of_ble_eq_true rfl) ⟨Nat.le_of_ble_eq_true rfl, Nat.le_of_ble_eq_true rfl⟩ ⟨Nat.le_of_ble_eq_true rfl, Nat.le_of_ble_eq_true rfl⟩ (fun r σ7479 hp => ?_)
      obtain ⟨L7482, okL7482, r7483, h7480, rfl⟩ := hp
      have h7481 := HS.trans h7477 h7480 (by decide)
      have ga7484 := ga7478.of (h7480.2 (c + 18) (by rw [kC_at (k := 18) (by decide)]; decide))
      refine m_iinc F (v := nI (p + 1)) (lv' := [(11, .int (nI (p + 1))), (0, .ref c), (2, .int (nI a)), (3, .int (nI b)), (4, .long w1), (6, .long w2), (8, .long w3), (10, .int (nI k))]) e_X10_chance_159 rfl (nI_add p 1) (by decide) rfl ?_
      refine m_goto F e_X10_chance_162 ?_
      refine Wm.lvsub (lv' := [(0, .ref c), (2, .int (nI a)), (3, .int (nI b)), (4, .long w1), (6, .long w2), (8, .long w3), (10, .int (nI k)), (11, .int (nI (p + 1)))]) ?_ [1, 2, 3, 4, 5, 6, 7, 0] rfl
      exact ih a b w1 w2 w3 k (p + 1) L7482 _ h7481 okL7482 ⟨by omega, by omega, by omega, by omega, by omega, by omega, by omega, by assumption⟩ (by omega)
set_option maxRecDepth 20000 in
theorem lq_X10_chance_116 {V : VX} {X : MX} {N : Nat} {σ : Mem} {c T Z u h : Nat} {P : NP} {L : Nat → LQ}   (F : Fx V X yX10_chance cX10_chance 13 (some .long) (rmd 4 0 0)) (hQ : Rt V X 0 0 N (fun r τ => HS V c (⟨T, Z, u, h, P, L⟩ : RG) [0, 2, 3, 4, 5, 6, 7, 8, 9, 10, 11, 12, 13, 14, 15, 16, 18, 20, 21, 22] σ τ ∧ ∃ x : Int64, r = some (.long x))) (hok : OKL P.n0 L) (hP : OKP P)   : ∀ (fuel : Nat) (a : Nat) (b : Nat) (w1 : Int64) (w2 : Int64) (w3 : Int64) (k : Nat) (τ : Mem), HS V c (⟨T, Z, u, h, P, L⟩ : RG) [0, 2, 3, 4, 5, 6, 7, 8, 9, 10, 11, 12, 13, 14, 15, 16, 18, 20, 21, 22] σ τ → a ≤ 10 ∧ b ≤ 2 ∧ k ≤ a ∧ (L 4).1 ≤ 87 ∧ GB V c 18 1113 0 L τ → a - k < fuel → Wm V X 13 N τ 0 0 116 [(0, .ref c), (2, .int (nI a)), (3, .int (nI b)), (4, .long w1), (6, .long w2), (8, .long w3), (10, .int (nI k))] [] := by
  intro fuel
  induction fuel with
  | zero => intros; rename_i hm; exact absurd hm (Nat.not_lt_zero _)
  | succ fuel ih =>
    intro a b w1 w2 w3 k τ h1 hi hm
    have hPP := hP
    unfold OKP at hPP
    have ga0 := hi.2.2.2.2
    refine m_iload F rfl e_X10_chance_116 ?_
    refine m_iload_n F rfl e_X10_chance_118 ?_
    refine m_icmp_ge F e_X10_chance_119 (fun q119 => ?_) (fun q119 => ?_)
    · have c119 : k ≥ a := (nI_leI (a := a) (b := k) (by omega) (by omega)).mp q119
      refine m_iload_n F rfl e_X10_chance_241 ?_
      refine m_if_ne F e_X10_chance_242 (fun q242 => ?_) (fun q242 => ?_)
      · have c242 : b ≠ 0 := by have hh := mt (nI_eq (a := b) (b := 0) (by omega) (by omega)).mpr q242; omega
        refine m_iload_n F rfl e_X10_chance_250 ?_
        refine m_iconst F (v := 1) (by decide) e_X10_chance_251 ?_
        refine m_icmp_ne F e_X10_chance_252 (fun q252 => ?_) (fun q252 => ?_)
        · have c252 : b ≠ 1 := by have hh := mt (nI_eq (a := b) (b := 1) (by omega) (by omega)).mpr q252; omega
          refine m_lload F rfl e_X10_chance_260 ?_
          exact m_lret F hQ e_X10_chance_262 (⟨h1, _, rfl⟩)
        · have c252 : b = 1 := (nI_eq (a := b) (b := 1) (by omega) (by omega)).mp q252
          refine m_lload F rfl e_X10_chance_255 ?_
          refine m_goto F e_X10_chance_257 ?_
          exact m_lret F hQ e_X10_chance_262 (⟨h1, _, rfl⟩)
      · have c242 : b = 0 := (nI_eq (a := b) (b := 0) (by omega) (by omega)).mp q242
        refine m_lload F rfl e_X10_chance_245 ?_
        refine m_goto F e_X10_chance_247 ?_
        exact m_lret F hQ e_X10_chance_262 (⟨h1, _, rfl⟩)
    · have c119 : k < a := by have hh := mt (nI_leI (a := a) (b := k) (by omega) (by omega)).mpr q119; omega
      refine m_iconst F (v := 0) (by decide) e_X10_chance_122 ?_
      refine m_istore F (lv' := [(11, .int 0), (0, .ref c), (2, .int (nI a)), (3, .int (nI b)), (4, .long w1), (6, .long w2), (8, .long w3), (10, .int (nI k))]) e_X10_chance_123 (by decide) rfl ?_
      refine Wm.lvsub (lv' := [(0, .ref c), (2, .int (nI a)), (3, .int (nI b)), (4, .long w1), (6, .long w2), (8, .long w3), (10, .int (nI k)), (11, .int 0)]) ?_ [1, 2, 3, 4, 5, 6, 7, 0] rfl
      exact lq_X10_chance_125 F hQ hok hP  ih (12 - 0 + 1) a b w1 w2 w3 k 0 L _ h1 hok ⟨by omega, by omega, by omega, by omega, by omega, by omega, by omega, by assumption⟩ (Nat.lt_succ_self _)
set_option maxRecDepth 20000 in
theorem q_X10_chance (l : Launch) (V : VX) (c T Z u h : Nat) (P : NP) (L : Nat → LQ) (N : Nat) (σ : Mem) (x901 : Int32) (x902 : Int32) (x903 : Int32) (h0 : HR V c ⟨T, Z, u, h, P, L⟩ σ) (hok : OKL P.n0 L) (hP : OKP P)  : Ct l V yX10_chance cX10_chance 13 (some .long) 4 0 0 N σ [.ref c, .int x901, .int x902, .int x903] (fun r τ => HS V c (⟨T, Z, u, h, P, L⟩ : RG) [0, 2, 3, 4, 5, 6, 7, 8, 9, 10, 11, 12, 13, 14, 15, 16, 18, 20, 21, 22] σ τ ∧ ∃ x : Int64, r = some (.long x)) := by
  refine Ct.of (by decide) (Nat.le_of_ble_eq_true rfl) [(0, .ref c), (1, .int x901), (2, .int x902), (3, .int x903)] rfl (fun X hX F hQ => ?_)
  have hPP := hP
  unfold OKP at hPP
  have h1 : HS V c ⟨T, Z, u, h, P, L⟩ [0, 2, 3, 4, 5, 6, 7, 8, 9, 10, 11, 12, 13, 14, 15, 16, 18, 20, 21, 22] σ σ := HS.start h0
  refine m_aload_n F rfl e_X10_chance_0 ?_
  refine m_iconst F (v := 0) (by decide) e_X10_chance_1 ?_
  refine r_put F (g' := (⟨T, Z, u, h, P, L⟩ : RG)) e_X10_chance_2 fp_X10_91 h1 (by decide) ⟨_, rfl⟩ (fun _ _ _ _ q => q) (fun _ _ _ q => q) rfl rfl (by decide) (fun σ7485 h7486 g7487 g7488 f7489 => ?_)
  refine m_iload_n F rfl e_X10_chance_5 ?_
  refine m_iconst F (v := (-1)) (by decide) e_X10_chance_6 ?_
  refine m_icmp_lt F e_X10_chance_7 (fun q7 => ?_) (fun q7 => ?_)
  · refine m_ldc2 F kc_X10_245 e_X10_chance_30 ?_
    exact m_lret F hQ e_X10_chance_33 (⟨h7486, _, rfl⟩)
  · refine m_iload_n F rfl e_X10_chance_10 ?_
    refine m_iconst F (v := 1) (by decide) e_X10_chance_11 ?_
    refine m_icmp_lt F e_X10_chance_12 (fun q12 => ?_) (fun q12 => ?_)
    · refine m_ldc2 F kc_X10_245 e_X10_chance_30 ?_
      exact m_lret F hQ e_X10_chance_33 (⟨h7486, _, rfl⟩)
    · obtain ⟨n7490, hn7490, rfl⟩ := nI_nn (x := x902) (fun e => q12 (Int32.lt_of_lt_of_le e (by decide)))
      have c12 : n7490 ≥ 1 := by have hh := mt (nI_ltI (a := n7490) (b := 1) (by omega) (by omega)).mpr q12; omega
      refine m_iload_n F rfl e_X10_chance_15 ?_
      refine m_bipush F (v := 10) (by decide) e_X10_chance_16 ?_
      refine m_icmp_gt F e_X10_chance_18 (fun q18 => ?_) (fun q18 => ?_)
      · have c18 : n7490 > 10 := (nI_ltI (a := 10) (b := n7490) (by omega) (by omega)).mp q18
        refine m_ldc2 F kc_X10_245 e_X10_chance_30 ?_
        exact m_lret F hQ e_X10_chance_33 (⟨h7486, _, rfl⟩)
      · have c18 : n7490 ≤ 10 := by have hh := mt (nI_ltI (a := 10) (b := n7490) (by omega) (by omega)).mpr q18; omega
        refine m_iload_n F rfl e_X10_chance_21 ?_
        refine m_if_lt F e_X10_chance_22 (fun q22 => ?_) (fun q22 => ?_)
        · refine m_ldc2 F kc_X10_245 e_X10_chance_30 ?_
          exact m_lret F hQ e_X10_chance_33 (⟨h7486, _, rfl⟩)
        · obtain ⟨n7491, hn7491, rfl⟩ := nI_nn (x := x903) (fun e => q22 (Int32.lt_of_lt_of_le e (by decide)))
          have c22 : n7491 ≥ 0 := by have hh := mt (nI_ltI (a := n7491) (b := 0) (by omega) (by omega)).mpr q22; omega
          refine m_iload_n F rfl e_X10_chance_25 ?_
          refine m_iconst F (v := 2) (by decide) e_X10_chance_26 ?_
          refine m_icmp_le F e_X10_chance_27 (fun q27 => ?_) (fun q27 => ?_)
          · have c27 : n7491 ≤ 2 := (nI_leI (a := n7491) (b := 2) (by omega) (by omega)).mp q27
            refine m_aload_n F rfl e_X10_chance_34 ?_
            refine r_get F e_X10_chance_35 fl_X10_59 h7486 rfl (fun v hv f7492 => ?_)
            obtain rfl : v = .ref (c + 16) := hv
            refine m_sipush F (v := 744) (by decide) e_X10_chance_38 ?_
            refine r_sld F (j := 744) e_X10_chance_41 h7486 (by decide) (by unfold vp_in; decide) (fun x7493 h7494 f7495 => ?_)
            have hl7496 := hok.1
            obtain rfl : x7493 = lN (L 4).1 := EJ_p.mp h7494
            refine m_ldc2 F kc_X10_362 e_X10_chance_42 ?_
            refine m_ladd F e_X10_chance_45 ?_
            refine Wm.toplE (w := lN ((L 4).1 + 12)) (lN_add ((L 4).1) 12) ?_
            refine m_ldc2 F kc_X10_284 e_X10_chance_46 ?_
            refine m_lcmp F e_X10_chance_49 ?_
            refine m_if_le F e_X10_chance_50 (fun q50 => ?_) (fun q50 => ?_)
            · have c50 : ((L 4).1 + 12) ≤ 99 := (lN_le (a := ((L 4).1 + 12)) (b := 99) (by omega) (by omega)).mp ((lg_cmp_le _ _).mp q50)
              refine m_aload_n F rfl e_X10_chance_57 ?_
              refine m_iload_n F rfl e_X10_chance_58 ?_
              refine m_iconst F (v := (-1)) (by decide) e_X10_chance_59 ?_
              refine m_icmp_ne F e_X10_chance_60 (fun q60 => ?_) (fun q60 => ?_)
              · refine m_iload_n F rfl e_X10_chance_87 ?_
                refine r_put F (g' := (⟨T, Z, u, h, P, L⟩ : RG)) e_X10_chance_88 fp_X10_353 h7486 (by decide) ⟨_, rfl⟩ (fun _ _ _ _ q => q) (fun _ _ _ q => q) rfl rfl (by decide) (fun σ7497 h7498 g7499 g7500 f7501 => ?_)
                refine m_lconst F (v := 0) (by decide) e_X10_chance_91 ?_
                refine m_lstore F (lv' := [(4, .long 0), (0, .ref c), (1, .int x901), (2, .int (nI n7490)), (3, .int (nI n7491))]) e_X10_chance_92 (by decide) rfl ?_
                refine m_lconst F (v := 0) (by decide) e_X10_chance_94 ?_
                refine m_lstore F (lv' := [(6, .long 0), (4, .long 0), (0, .ref c), (1, .int x901), (2, .int (nI n7490)), (3, .int (nI n7491))]) e_X10_chance_95 (by decide) rfl ?_
                refine m_lconst F (v := 0) (by decide) e_X10_chance_97 ?_
                refine m_lstore F (lv' := [(8, .long 0), (6, .long 0), (4, .long 0), (0, .ref c), (1, .int x901), (2, .int (nI n7490)), (3, .int (nI n7491))]) e_X10_chance_98 (by decide) rfl ?_
                refine m_aload_n F rfl e_X10_chance_100 ?_
                refine r_getC F e_X10_chance_101 fl_X10_59 h7498 ((g7500 27 (by decide)).trans f7492) ?_
                refine m_iconst F (v := 0) (by decide) e_X10_chance_104 ?_
                refine m_aload_n F rfl e_X10_chance_105 ?_
                refine r_get F e_X10_chance_106 fl_X10_66 h7498 rfl (fun v hv f7502 => ?_)
                obtain rfl : v = .ref (c + 18) := hv
                refine m_iconst F (v := 0) (by decide) e_X10_chance_109 ?_
                obtain ⟨f7503, e7504, te7504⟩ : ∃ f, σ7497 (c + 16) = some (aJ V 1113 f) ∧ ∀ i, i < 1113 → EJ L i (f i) := h7498.1.cell (k := 16) (by decide)
                obtain ⟨g7505, e7506⟩ : ∃ f, σ7497 (c + 18) = some (aJ V 1113 f) := h7498.1.cell (k := 18) (by decide)
                refine m_callS F e_X10_chance_110 (q_copies (x_l X) V _ _ (c + 16) (c + 18) 1113 1113 0 0 f7503 g7505 e7504 e7506 (by omega) (by omega) (by omega) (by omega)) cb_X10_copies ml_X10_230 sm_X10_copies rfl (rest := []) rfl (Nat.le_of_ble_eq_true rfl) ⟨Nat.le_of_ble_eq_true rfl, Nat.le_of_ble_eq_true rfl⟩ ⟨Nat.le_of_ble_eq_true rfl, Nat.le_of_ble_eq_true rfl⟩ (k' := 0) (z' := 0) (N' := N) rfl rfl rfl (fun r σ7507 hp => ?_)
                obtain ⟨p7508, rfl⟩ := hp
                have h7509 := HS.cp (k := 18) (g' := (⟨T, Z, u, h, P, L⟩ : RG)) h7498 p7508 (by decide) (by decide) ⟨_, rfl⟩ (fun _ _ _ q => q)
                have ga7510 : GB V c 18 1113 0 L σ7507 := ⟨_, p7508.1, fun i hi => by rw [show 0 + i = i from Nat.zero_add i, cpy_at0 hi, Nat.zero_add]; exact te7504 i hi⟩
                refine m_iconst F (v := 0) (by decide) e_X10_chance_113 ?_
                refine m_istore F (lv' := [(10, .int 0), (8, .long 0), (6, .long 0), (4, .long 0), (0, .ref c), (1, .int x901), (2, .int (nI n7490)), (3, .int (nI n7491))]) e_X10_chance_114 (by decide) rfl ?_
                refine Wm.lvsub (lv' := [(0, .ref c), (2, .int (nI n7490)), (3, .int (nI n7491)), (4, .long 0), (6, .long 0), (8, .long 0), (10, .int 0)]) ?_ [4, 6, 7, 3, 2, 1, 0] rfl
                exact lq_X10_chance_116 F hQ hok hP  (n7490 - 0 + 1) n7490 n7491 0 0 0 0 _ h7509 ⟨by omega, by omega, by omega, by omega, by assumption⟩ (Nat.lt_succ_self _)
              · subst q60
                refine m_aload_n F rfl e_X10_chance_63 ?_
                refine r_get F e_X10_chance_64 fl_X10_13 h7486 rfl (fun v hv f7511 => ?_)
                obtain rfl : v = .ref (c + 2) := hv
                refine m_iconst F (v := 4) (by decide) e_X10_chance_67 ?_
                refine r_iald F (len := 10) (j := 4) e_X10_chance_68 h7486 (fun _ h => h) (by decide) (by decide) (by unfold vp_in; decide) (fun x7512 h7513 f7514 => ?_)
                refine m_if_ne F e_X10_chance_69 (fun q69 => ?_) (fun q69 => ?_)
                · refine m_aload_n F rfl e_X10_chance_76 ?_
                  refine r_getC F e_X10_chance_77 fl_X10_13 h7486 (f7511) ?_
                  refine m_iconst F (v := 4) (by decide) e_X10_chance_80 ?_
                  refine r_iald F (len := 10) (j := 4) e_X10_chance_81 h7486 (fun _ h => h) (by decide) (by decide) (by unfold vp_in; decide) (fun x7515 h7516 f7517 => ?_)
                  obtain rfl := Option.some.inj ((f7517).symm.trans (f7514))
                  refine m_iconst F (v := 1) (by decide) e_X10_chance_82 ?_
                  refine m_isub F e_X10_chance_83 ?_
                  refine Wm.top (fun x7518 _ => ?_)
                  refine m_goto F e_X10_chance_84 ?_
                  refine r_put F (g' := (⟨T, Z, u, h, P, L⟩ : RG)) e_X10_chance_88 fp_X10_353 h7486 (by decide) ⟨_, rfl⟩ (fun _ _ _ _ q => q) (fun _ _ _ q => q) rfl rfl (by decide) (fun σ7519 h7520 g7521 g7522 f7523 => ?_)
                  refine m_lconst F (v := 0) (by decide) e_X10_chance_91 ?_
                  refine m_lstore F (lv' := [(4, .long 0), (0, .ref c), (1, .int (-1)), (2, .int (nI n7490)), (3, .int (nI n7491))]) e_X10_chance_92 (by decide) rfl ?_
                  refine m_lconst F (v := 0) (by decide) e_X10_chance_94 ?_
                  refine m_lstore F (lv' := [(6, .long 0), (4, .long 0), (0, .ref c), (1, .int (-1)), (2, .int (nI n7490)), (3, .int (nI n7491))]) e_X10_chance_95 (by decide) rfl ?_
                  refine m_lconst F (v := 0) (by decide) e_X10_chance_97 ?_
                  refine m_lstore F (lv' := [(8, .long 0), (6, .long 0), (4, .long 0), (0, .ref c), (1, .int (-1)), (2, .int (nI n7490)), (3, .int (nI n7491))]) e_X10_chance_98 (by decide) rfl ?_
                  refine m_aload_n F rfl e_X10_chance_100 ?_
                  refine r_getC F e_X10_chance_101 fl_X10_59 h7520 ((g7522 27 (by decide)).trans f7492) ?_
                  refine m_iconst F (v := 0) (by decide) e_X10_chance_104 ?_
                  refine m_aload_n F rfl e_X10_chance_105 ?_
                  refine r_get F e_X10_chance_106 fl_X10_66 h7520 rfl (fun v hv f7524 => ?_)
                  obtain rfl : v = .ref (c + 18) := hv
                  refine m_iconst F (v := 0) (by decide) e_X10_chance_109 ?_
                  obtain ⟨f7525, e7526, te7526⟩ : ∃ f, σ7519 (c + 16) = some (aJ V 1113 f) ∧ ∀ i, i < 1113 → EJ L i (f i) := h7520.1.cell (k := 16) (by decide)
                  obtain ⟨g7527, e7528⟩ : ∃ f, σ7519 (c + 18) = some (aJ V 1113 f) := h7520.1.cell (k := 18) (by decide)
                  refine m_callS F e_X10_chance_110 (q_copies (x_l X) V _ _ (c + 16) (c + 18) 1113 1113 0 0 f7525 g7527 e7526 e7528 (by omega) (by omega) (by omega) (by omega)) cb_X10_copies ml_X10_230 sm_X10_copies rfl (rest := []) rfl (Nat.le_of_ble_eq_true rfl) ⟨Nat.le_of_ble_eq_true rfl, Nat.le_of_ble_eq_true rfl⟩ ⟨Nat.le_of_ble_eq_true rfl, Nat.le_of_ble_eq_true rfl⟩ (k' := 0) (z' := 0) (N' := N) rfl rfl rfl (fun r σ7529 hp => ?_)
                  obtain ⟨p7530, rfl⟩ := hp
                  have h7531 := HS.cp (k := 18) (g' := (⟨T, Z, u, h, P, L⟩ : RG)) h7520 p7530 (by decide) (by decide) ⟨_, rfl⟩ (fun _ _ _ q => q)
                  have ga7532 : GB V c 18 1113 0 L σ7529 := ⟨_, p7530.1, fun i hi => by rw [show 0 + i = i from Nat.zero_add i, cpy_at0 hi, Nat.zero_add]; exact te7526 i hi⟩
                  refine m_iconst F (v := 0) (by decide) e_X10_chance_113 ?_
                  refine m_istore F (lv' := [(10, .int 0), (8, .long 0), (6, .long 0), (4, .long 0), (0, .ref c), (1, .int (-1)), (2, .int (nI n7490)), (3, .int (nI n7491))]) e_X10_chance_114 (by decide) rfl ?_
                  refine Wm.lvsub (lv' := [(0, .ref c), (2, .int (nI n7490)), (3, .int (nI n7491)), (4, .long 0), (6, .long 0), (8, .long 0), (10, .int 0)]) ?_ [4, 6, 7, 3, 2, 1, 0] rfl
                  exact lq_X10_chance_116 F hQ hok hP  (n7490 - 0 + 1) n7490 n7491 0 0 0 0 _ h7531 ⟨by omega, by omega, by omega, by omega, by assumption⟩ (Nat.lt_succ_self _)
                · subst q69
                  refine m_iconst F (v := 0) (by decide) e_X10_chance_72 ?_
                  refine m_goto F e_X10_chance_73 ?_
                  refine r_put F (g' := (⟨T, Z, u, h, P, L⟩ : RG)) e_X10_chance_88 fp_X10_353 h7486 (by decide) ⟨_, rfl⟩ (fun _ _ _ _ q => q) (fun _ _ _ q => q) rfl rfl (by decide) (fun σ7533 h7534 g7535 g7536 f7537 => ?_)
                  refine m_lconst F (v := 0) (by decide) e_X10_chance_91 ?_
                  refine m_lstore F (lv' := [(4, .long 0), (0, .ref c), (1, .int (-1)), (2, .int (nI n7490)), (3, .int (nI n7491))]) e_X10_chance_92 (by decide) rfl ?_
                  refine m_lconst F (v := 0) (by decide) e_X10_chance_94 ?_
                  refine m_lstore F (lv' := [(6, .long 0), (4, .long 0), (0, .ref c), (1, .int (-1)), (2, .int (nI n7490)), (3, .int (nI n7491))]) e_X10_chance_95 (by decide) rfl ?_
                  refine m_lconst F (v := 0) (by decide) e_X10_chance_97 ?_
                  refine m_lstore F (lv' := [(8, .long 0), (6, .long 0), (4, .long 0), (0, .ref c), (1, .int (-1)), (2, .int (nI n7490)), (3, .int (nI n7491))]) e_X10_chance_98 (by decide) rfl ?_
                  refine m_aload_n F rfl e_X10_chance_100 ?_
                  refine r_getC F e_X10_chance_101 fl_X10_59 h7534 ((g7536 27 (by decide)).trans f7492) ?_
                  refine m_iconst F (v := 0) (by decide) e_X10_chance_104 ?_
                  refine m_aload_n F rfl e_X10_chance_105 ?_
                  refine r_get F e_X10_chance_106 fl_X10_66 h7534 rfl (fun v hv f7538 => ?_)
                  obtain rfl : v = .ref (c + 18) := hv
                  refine m_iconst F (v := 0) (by decide) e_X10_chance_109 ?_
                  obtain ⟨f7539, e7540, te7540⟩ : ∃ f, σ7533 (c + 16) = some (aJ V 1113 f) ∧ ∀ i, i < 1113 → EJ L i (f i) := h7534.1.cell (k := 16) (by decide)
                  obtain ⟨g7541, e7542⟩ : ∃ f, σ7533 (c + 18) = some (aJ V 1113 f) := h7534.1.cell (k := 18) (by decide)
                  refine m_callS F e_X10_chance_110 (q_copies (x_l X) V _ _ (c + 16) (c + 18) 1113 1113 0 0 f7539 g7541 e7540 e7542 (by omega) (by omega) (by omega) (by omega)) cb_X10_copies ml_X10_230 sm_X10_copies rfl (rest := []) rfl (Nat.le_of_ble_eq_true rfl) ⟨Nat.le_of_ble_eq_true rfl, Nat.le_of_ble_eq_true rfl⟩ ⟨Nat.le_of_ble_eq_true rfl, Nat.le_of_ble_eq_true rfl⟩ (k' := 0) (z' := 0) (N' := N) rfl rfl rfl (fun r σ7543 hp => ?_)
                  obtain ⟨p7544, rfl⟩ := hp
                  have h7545 := HS.cp (k := 18) (g' := (⟨T, Z, u, h, P, L⟩ : RG)) h7534 p7544 (by decide) (by decide) ⟨_, rfl⟩ (fun _ _ _ q => q)
                  have ga7546 : GB V c 18 1113 0 L σ7543 := ⟨_, p7544.1, fun i hi => by rw [show 0 + i = i from Nat.zero_add i, cpy_at0 hi, Nat.zero_add]; exact te7540 i hi⟩
                  refine m_iconst F (v := 0) (by decide) e_X10_chance_113 ?_
                  refine m_istore F (lv' := [(10, .int 0), (8, .long 0), (6, .long 0), (4, .long 0), (0, .ref c), (1, .int (-1)), (2, .int (nI n7490)), (3, .int (nI n7491))]) e_X10_chance_114 (by decide) rfl ?_
                  refine Wm.lvsub (lv' := [(0, .ref c), (2, .int (nI n7490)), (3, .int (nI n7491)), (4, .long 0), (6, .long 0), (8, .long 0), (10, .int 0)]) ?_ [4, 6, 7, 3, 2, 1, 0] rfl
                  exact lq_X10_chance_116 F hQ hok hP  (n7490 - 0 + 1) n7490 n7491 0 0 0 0 _ h7545 ⟨by omega, by omega, by omega, by omega, by assumption⟩ (Nat.lt_succ_self _)
            · have c50 : ((L 4).1 + 12) > 99 := by have hh := mt (fun h9 => (lg_cmp_le (lN ((L 4).1 + 12)) (lN 99)).mpr ((lN_le (a := ((L 4).1 + 12)) (b := 99) (by omega) (by omega)).mpr h9)) q50; omega
              refine m_ldc2 F kc_X10_338 e_X10_chance_53 ?_
              exact m_lret F hQ e_X10_chance_56 (⟨h7486, _, rfl⟩)
          · have c27 : n7491 > 2 := by have hh := mt (nI_leI (a := n7491) (b := 2) (by omega) (by omega)).mpr q27; omega
            refine m_ldc2 F kc_X10_245 e_X10_chance_30 ?_
            exact m_lret F hQ e_X10_chance_33 (⟨h7486, _, rfl⟩)
set_option maxRecDepth 20000 in
theorem q_X10_undo (l : Launch) (V : VX) (c T Z u h : Nat) (P : NP) (L : Nat → LQ) (N : Nat) (σ : Mem)  (h0 : HR V c ⟨T, Z, u, h, P, L⟩ σ) (hok : OKL P.n0 L) (hP : OKP P) (hp0 : u ≤ 20) (hp1 : P.kk = P.n0) : Ct l V yX10_undo cX10_undo 1 (some .int) 1 0 0 N σ [.ref c] (fun r τ => ∃ u9, u9 ≤ 20 ∧ ∃ L9, OKL P.n0 L9 ∧ HS V c (⟨T, Z, u9, h, P, L9⟩ : RG) [0, 2, 3, 4, 5, 6, 7, 8, 9, 10, 11, 12, 13, 14, 15, 16, 18, 19, 20, 21, 22, 23] σ τ ∧ ∃ x : Int32, r = some (.int x)) := by
  refine Ct.of (by decide) (Nat.le_of_ble_eq_true rfl) [(0, .ref c)] rfl (fun X hX F hQ => ?_)
  have hPP := hP
  unfold OKP at hPP
  have h1 : HS V c ⟨T, Z, u, h, P, L⟩ [0, 2, 3, 4, 5, 6, 7, 8, 9, 10, 11, 12, 13, 14, 15, 16, 18, 19, 20, 21, 22, 23] σ σ := HS.start h0
  refine m_aload_n F rfl e_X10_undo_0 ?_
  refine m_iconst F (v := 0) (by decide) e_X10_undo_1 ?_
  refine r_put F (g' := (⟨T, Z, u, h, P, L⟩ : RG)) e_X10_undo_2 fp_X10_91 h1 (by decide) ⟨_, rfl⟩ (fun _ _ _ _ q => q) (fun _ _ _ q => q) rfl rfl (by decide) (fun σ7547 h7548 g7549 g7550 f7551 => ?_)
  refine m_aload_n F rfl e_X10_undo_5 ?_
  refine r_get F e_X10_undo_6 fl_X10_214 h7548 rfl (fun v hv f7552 => ?_)
  obtain rfl : v = .int (nI (u)) := hv
  refine m_if_ne F e_X10_undo_9 (fun q9 => ?_) (fun q9 => ?_)
  · have c9 : u ≠ 0 := by have hh := mt (nI_eq (a := u) (b := 0) (by omega) (by omega)).mpr q9; omega
    obtain ⟨kf, ke, kg⟩ : ∃ f, σ7547 (c + 20) = some (aJ V 22260 f) ∧ ∀ j, j < u → GR P.kk (fun i => f (1113 * j + i)) := h7548.1.cell (k := 20) (by decide)
    obtain ⟨L8, ok8, t8⟩ := kg (u - 1) (by omega)
    rw [hp1] at ok8
    have ga7553 : GB V c 20 22260 (1113 * (u - 1)) L8 σ7547 := ⟨kf, ke, t8⟩
    obtain ⟨kf, ke, kg⟩ : ∃ f, σ7547 (c + 20) = some (aJ V 22260 f) ∧ ∀ j, j < u → GR P.kk (fun i => f (1113 * j + i)) := h7548.1.cell (k := 20) (by decide)
    obtain ⟨L8, ok8, t8⟩ := kg (u - 1) (by omega)
    rw [hp1] at ok8
    have ga7554 : GB V c 20 22260 (1113 * (u - 1)) L8 σ7547 := ⟨kf, ke, t8⟩
    obtain ⟨kf, ke, kg⟩ : ∃ f, σ7547 (c + 20) = some (aJ V 22260 f) ∧ ∀ j, j < u → GR P.kk (fun i => f (1113 * j + i)) := h7548.1.cell (k := 20) (by decide)
    obtain ⟨L8, ok8, t8⟩ := kg (u - 1) (by omega)
    rw [hp1] at ok8
    have ga7555 : GB V c 20 22260 (1113 * (u - 1)) L8 σ7547 := ⟨kf, ke, t8⟩
    refine m_aload_n F rfl e_X10_undo_14 ?_
    refine m_dup F rfl e_X10_undo_15 ?_
    refine r_getC F e_X10_undo_16 fl_X10_214 h7548 (f7552) ?_
    refine m_iconst F (v := 1) (by decide) e_X10_undo_19 ?_
    refine m_isub F e_X10_undo_20 ?_
    refine Wm.topE (w := nI (u - 1)) (pk_sub (a := u) (b := 1) (by omega)) ?_
    refine r_put F (g' := (⟨T, Z, u - 1, h, P, L⟩ : RG)) e_X10_undo_21 fp_X10_214 h7548 (by decide) rfl ctl_u (CR.und (by omega)) rfl rfl (by decide) (fun σ7556 h7557 g7558 g7559 f7560 => ?_)
    have ga7561 := ga7555.of (g7558 _ (by omega))
    refine m_aload_n F rfl e_X10_undo_24 ?_
    refine r_get F e_X10_undo_25 fl_X10_72 h7557 rfl (fun v hv f7562 => ?_)
    obtain rfl : v = .ref (c + 20) := hv
    refine m_sipush F (v := 1113) (by decide) e_X10_undo_28 ?_
    refine m_aload_n F rfl e_X10_undo_31 ?_
    refine r_getC F e_X10_undo_32 fl_X10_214 h7557 (f7560) ?_
    refine m_imul F e_X10_undo_35 ?_
    refine Wm.topE (w := nI (1113 * (u - 1))) (pk_mul 1113 (u - 1)) ?_
    refine m_aload_n F rfl e_X10_undo_36 ?_
    refine r_get F e_X10_undo_37 fl_X10_59 h7557 rfl (fun v hv f7563 => ?_)
    obtain rfl : v = .ref (c + 16) := hv
    refine m_iconst F (v := 0) (by decide) e_X10_undo_40 ?_
    have xe7565 := ga7561
    obtain ⟨f7564, e7565, te7565⟩ := xe7565
    obtain ⟨g7566, e7567, te7567⟩ : ∃ f, σ7556 (c + 16) = some (aJ V 1113 f) ∧ _ := h7557.1.cell (k := 16) (by decide)
    refine m_callS F e_X10_undo_41 (q_copies (x_l X) V _ _ (c + 20) (c + 16) 22260 1113 (1113 * (u - 1)) 0 f7564 g7566 e7565 e7567 (by omega) (by omega) (by omega) (by omega)) cb_X10_copies ml_X10_230 sm_X10_copies rfl (rest := []) rfl (Nat.le_of_ble_eq_true rfl) ⟨Nat.le_of_ble_eq_true rfl, Nat.le_of_ble_eq_true rfl⟩ ⟨Nat.le_of_ble_eq_true rfl, Nat.le_of_ble_eq_true rfl⟩ (k' := 0) (z' := 0) (N' := N) rfl rfl rfl (fun r σ7568 hp => ?_)
    obtain ⟨p7569, rfl⟩ := hp
    have h7570 := HS.cpS (L2 := L8) (o := 1113 * (u - 1)) h7557 (by decide) te7565 p7569
    have ga7571 := ga7561.of (p7569.2 _ (by omega))
    refine m_aload_n F rfl e_X10_undo_44 ?_
    refine r_getC F e_X10_undo_45 fl_X10_214 h7570 ((fld_eq (p7569.2 _ (by omega))).trans f7560) ?_
    exact m_iret F hQ e_X10_undo_48 (⟨u - 1, by omega, L8, ok8, h7570, _, rfl⟩)
  · have c9 : u = 0 := (nI_eq (a := u) (b := 0) (by omega) (by omega)).mp q9
    refine m_iconst F (v := (-1)) (by decide) e_X10_undo_12 ?_
    exact m_iret F hQ e_X10_undo_13 (⟨u, by omega, L, hok, h7548, _, rfl⟩)
set_option maxRecDepth 20000 in
theorem q_X10_keep (l : Launch) (V : VX) (c T Z u h : Nat) (P : NP) (L : Nat → LQ) (N : Nat) (σ : Mem)  (h0 : HR V c ⟨T, Z, u, h, P, L⟩ σ) (hok : OKL P.n0 L) (hP : OKP P) (hp0 : P.kk = P.n0) : Ct l V yX10_keep cX10_keep 1 (some .int) 1 0 0 N σ [.ref c] (fun r τ => HS V c (⟨T, Z, u, 1, P, L⟩ : RG) [0, 2, 3, 4, 5, 6, 7, 8, 9, 10, 11, 12, 13, 14, 15, 16, 17, 18, 19, 21, 22, 23] σ τ ∧ ∃ x : Int32, r = some (.int x)) := by
  refine Ct.of (by decide) (Nat.le_of_ble_eq_true rfl) [(0, .ref c)] rfl (fun X hX F hQ => ?_)
  have hPP := hP
  unfold OKP at hPP
  have h1 : HS V c ⟨T, Z, u, h, P, L⟩ [0, 2, 3, 4, 5, 6, 7, 8, 9, 10, 11, 12, 13, 14, 15, 16, 17, 18, 19, 21, 22, 23] σ σ := HS.start h0
  have hkk := hp0
  refine m_aload_n F rfl e_X10_keep_0 ?_
  refine m_iconst F (v := 0) (by decide) e_X10_keep_1 ?_
  refine r_put F (g' := (⟨T, Z, u, h, P, L⟩ : RG)) e_X10_keep_2 fp_X10_91 h1 (by decide) ⟨_, rfl⟩ (fun _ _ _ _ q => q) (fun _ _ _ q => q) rfl rfl (by decide) (fun σ7572 h7573 g7574 g7575 f7576 => ?_)
  refine m_aload_n F rfl e_X10_keep_5 ?_
  refine r_get F e_X10_keep_6 fl_X10_59 h7573 rfl (fun v hv f7577 => ?_)
  obtain rfl : v = .ref (c + 16) := hv
  refine m_iconst F (v := 0) (by decide) e_X10_keep_9 ?_
  refine m_aload_n F rfl e_X10_keep_10 ?_
  refine r_get F e_X10_keep_11 fl_X10_69 h7573 rfl (fun v hv f7578 => ?_)
  obtain rfl : v = .ref (c + 19) := hv
  refine m_iconst F (v := 0) (by decide) e_X10_keep_14 ?_
  obtain ⟨f7579, e7580, te7580⟩ : ∃ f, σ7572 (c + 16) = some (aJ V 1113 f) ∧ ∀ i, i < 1113 → EJ L i (f i) := h7573.1.cell (k := 16) (by decide)
  obtain ⟨g7581, e7582, te7582⟩ : ∃ f, σ7572 (c + 19) = some (aJ V 1113 f) ∧ _ := h7573.1.cell (k := 19) (by decide)
  refine m_callS F e_X10_keep_15 (q_copies (x_l X) V _ _ (c + 16) (c + 19) 1113 1113 0 0 f7579 g7581 e7580 e7582 (by omega) (by omega) (by omega) (by omega)) cb_X10_copies ml_X10_230 sm_X10_copies rfl (rest := []) rfl (Nat.le_of_ble_eq_true rfl) ⟨Nat.le_of_ble_eq_true rfl, Nat.le_of_ble_eq_true rfl⟩ ⟨Nat.le_of_ble_eq_true rfl, Nat.le_of_ble_eq_true rfl⟩ (k' := 0) (z' := 0) (N' := N) rfl rfl rfl (fun r σ7583 hp => ?_)
  obtain ⟨p7584, rfl⟩ := hp
  have h7585 := HS.cp (k := 19) (g' := (⟨T, Z, u, h, P, L⟩ : RG)) h7573 p7584 (by decide) (by decide) ⟨_, rfl, fun _ => ⟨L, by rw [hkk]; exact hok, fun i hi => by rw [cpy_at0 hi, Nat.zero_add]; exact te7580 i hi⟩⟩ (fun _ _ _ q => q)
  have ga7586 : GB V c 19 1113 0 L σ7583 := ⟨_, p7584.1, fun i hi => by rw [show 0 + i = i from Nat.zero_add i, cpy_at0 hi, Nat.zero_add]; exact te7580 i hi⟩
  refine m_aload_n F rfl e_X10_keep_18 ?_
  refine m_iconst F (v := 1) (by decide) e_X10_keep_19 ?_
  obtain ⟨fs, e1, ty⟩ : ∃ fs, σ7583 c = some (ob 8 fs) ∧ TyO c (⟨T, Z, u, h, P, L⟩ : RG) fs := h7585.1.cell (k := 0) (by decide)
  refine r_putM F (g := (⟨T, Z, u, h, P, L⟩ : RG)) (g' := (⟨T, Z, u, 1, P, L⟩ : RG)) e_X10_keep_20 fp_X10_217 e1 ty h7585.2 (by decide) rfl ctl_h (fun a ha => ?_) (by decide) rfl (by decide) (fun σ7587 h7588 _ _ _ => ?_)
  · by_cases h9 : kC c a = 20
    · have h8 := kC_un (k := 19) h9
      subst h8
      rw [h9]
      obtain ⟨f4, e4, t4⟩ := ga7586
      exact ⟨f4, e4, fun _ => ⟨L, by show OKL P.kk L; rw [hkk]; exact hok, fun i hi => by have h5 := t4 i hi; rw [Nat.zero_add] at h5; exact h5⟩⟩
    · exact CR.himg _ (fun e => ha (by have h8 := kC_un (k := 0) e; omega)) h9 _ (h7585.1 a)
  refine m_aload_n F rfl e_X10_keep_23 ?_
  refine r_get F e_X10_keep_24 fl_X10_59 h7588 rfl (fun v hv f7589 => ?_)
  obtain rfl : v = .ref (c + 16) := hv
  refine m_sipush F (v := 744) (by decide) e_X10_keep_27 ?_
  refine r_sld F (j := 744) e_X10_keep_30 h7588 (by decide) (by unfold vp_in; decide) (fun x7590 h7591 f7592 => ?_)
  have hl7593 := hok.1
  obtain rfl : x7590 = lN (L 4).1 := EJ_p.mp h7591
  refine m_l2i F e_X10_keep_31 ?_
  refine Wm.topE (w := nI ((L 4).1)) (lN_i ((L 4).1)) ?_
  exact m_iret F hQ e_X10_keep_32 (⟨h7588, _, rfl⟩)
set_option maxRecDepth 20000 in
theorem q_X10_back (l : Launch) (V : VX) (c T Z u h : Nat) (P : NP) (L : Nat → LQ) (N : Nat) (σ : Mem)  (h0 : HR V c ⟨T, Z, u, h, P, L⟩ σ) (hok : OKL P.n0 L) (hP : OKP P) (hp0 : h ≤ 1) (hp1 : u ≤ 20) (hp2 : P.kk = P.n0) : Ct l V yX10_back cX10_back 1 (some .int) 1 0 0 N σ [.ref c] (fun r τ => ∃ u9, u9 ≤ 20 ∧ ∃ L9, OKL P.n0 L9 ∧ HS V c (⟨T, Z, u9, h, P, L9⟩ : RG) [0, 2, 3, 4, 5, 6, 7, 8, 9, 10, 11, 12, 13, 14, 15, 16, 18, 19, 20, 21, 22, 23] σ τ ∧ ∃ x : Int32, r = some (.int x)) := by
  refine Ct.of (by decide) (Nat.le_of_ble_eq_true rfl) [(0, .ref c)] rfl (fun X hX F hQ => ?_)
  have hPP := hP
  unfold OKP at hPP
  have h1 : HS V c ⟨T, Z, u, h, P, L⟩ [0, 2, 3, 4, 5, 6, 7, 8, 9, 10, 11, 12, 13, 14, 15, 16, 18, 19, 20, 21, 22, 23] σ σ := HS.start h0
  refine m_aload_n F rfl e_X10_back_0 ?_
  refine m_iconst F (v := 0) (by decide) e_X10_back_1 ?_
  refine r_put F (g' := (⟨T, Z, u, h, P, L⟩ : RG)) e_X10_back_2 fp_X10_91 h1 (by decide) ⟨_, rfl⟩ (fun _ _ _ _ q => q) (fun _ _ _ q => q) rfl rfl (by decide) (fun σ7594 h7595 g7596 g7597 f7598 => ?_)
  refine m_aload_n F rfl e_X10_back_5 ?_
  refine r_get F e_X10_back_6 fl_X10_217 h7595 rfl (fun v hv f7599 => ?_)
  obtain rfl : v = .int (nI (h)) := hv
  refine m_if_ne F e_X10_back_9 (fun q9 => ?_) (fun q9 => ?_)
  · have c9 : h ≠ 0 := by have hh := mt (nI_eq (a := h) (b := 0) (by omega) (by omega)).mpr q9; omega
    obtain ⟨kf, ke, kg⟩ : ∃ f, σ7594 (c + 19) = some (aJ V 1113 f) ∧ (h = 1 → GR P.kk f) := h7595.1.cell (k := 19) (by decide)
    obtain ⟨L8, ok8, t8⟩ := kg (by omega)
    rw [hp2] at ok8
    have ga7600 : GB V c 19 1113 0 L8 σ7594 := ⟨kf, ke, fun i hi => by rw [Nat.zero_add]; exact t8 i hi⟩
    obtain ⟨kf, ke, kg⟩ : ∃ f, σ7594 (c + 19) = some (aJ V 1113 f) ∧ (h = 1 → GR P.kk f) := h7595.1.cell (k := 19) (by decide)
    obtain ⟨L8, ok8, t8⟩ := kg (by omega)
    rw [hp2] at ok8
    have ga7601 : GB V c 19 1113 0 L8 σ7594 := ⟨kf, ke, fun i hi => by rw [Nat.zero_add]; exact t8 i hi⟩
    obtain ⟨kf, ke, kg⟩ : ∃ f, σ7594 (c + 19) = some (aJ V 1113 f) ∧ (h = 1 → GR P.kk f) := h7595.1.cell (k := 19) (by decide)
    obtain ⟨L8, ok8, t8⟩ := kg (by omega)
    rw [hp2] at ok8
    have ga7602 : GB V c 19 1113 0 L8 σ7594 := ⟨kf, ke, fun i hi => by rw [Nat.zero_add]; exact t8 i hi⟩
    refine m_aload_n F rfl e_X10_back_14 ?_
    refine r_get F e_X10_back_15 fl_X10_69 h7595 rfl (fun v hv f7603 => ?_)
    obtain rfl : v = .ref (c + 19) := hv
    refine m_iconst F (v := 0) (by decide) e_X10_back_18 ?_
    refine m_aload_n F rfl e_X10_back_19 ?_
    refine r_get F e_X10_back_20 fl_X10_59 h7595 rfl (fun v hv f7604 => ?_)
    obtain rfl : v = .ref (c + 16) := hv
    refine m_iconst F (v := 0) (by decide) e_X10_back_23 ?_
    have xe7606 := ga7602
    obtain ⟨f7605, e7606, te7606⟩ := xe7606
    obtain ⟨g7607, e7608, te7608⟩ : ∃ f, σ7594 (c + 16) = some (aJ V 1113 f) ∧ _ := h7595.1.cell (k := 16) (by decide)
    refine m_callS F e_X10_back_24 (q_copies (x_l X) V _ _ (c + 19) (c + 16) 1113 1113 0 0 f7605 g7607 e7606 e7608 (by omega) (by omega) (by omega) (by omega)) cb_X10_copies ml_X10_230 sm_X10_copies rfl (rest := []) rfl (Nat.le_of_ble_eq_true rfl) ⟨Nat.le_of_ble_eq_true rfl, Nat.le_of_ble_eq_true rfl⟩ ⟨Nat.le_of_ble_eq_true rfl, Nat.le_of_ble_eq_true rfl⟩ (k' := 0) (z' := 0) (N' := N) rfl rfl rfl (fun r σ7609 hp => ?_)
    obtain ⟨p7610, rfl⟩ := hp
    have h7611 := HS.cpS (L2 := L8) (o := 0) h7595 (by decide) te7606 p7610
    have ga7612 := ga7602.of (p7610.2 _ (by omega))
    refine m_aload_n F rfl e_X10_back_27 ?_
    refine m_iconst F (v := 0) (by decide) e_X10_back_28 ?_
    refine r_put F (g' := (⟨T, Z, 0, h, P, L8⟩ : RG)) e_X10_back_29 fp_X10_214 h7611 (by decide) rfl ctl_u (CR.und (Nat.zero_le _)) rfl rfl (by decide) (fun σ7613 h7614 g7615 g7616 f7617 => ?_)
    have ga7618 := ga7612.of (g7615 _ (by omega))
    refine m_aload_n F rfl e_X10_back_32 ?_
    refine r_getC F e_X10_back_33 fl_X10_59 h7614 ((g7616 27 (by decide)).trans ((fld_eq (p7610.2 _ (by omega))).trans f7604)) ?_
    refine m_sipush F (v := 744) (by decide) e_X10_back_36 ?_
    refine r_sld F (j := 744) e_X10_back_39 h7614 (by decide) (by unfold vp_in; decide) (fun x7619 h7620 f7621 => ?_)
    have hl7622 := ok8.1
    obtain rfl : x7619 = lN (L8 4).1 := EJ_p.mp h7620
    refine m_l2i F e_X10_back_40 ?_
    refine Wm.topE (w := nI ((L8 4).1)) (lN_i ((L8 4).1)) ?_
    exact m_iret F hQ e_X10_back_41 (⟨0, by omega, L8, ok8, h7614, _, rfl⟩)
  · have c9 : h = 0 := (nI_eq (a := h) (b := 0) (by omega) (by omega)).mp q9
    refine m_iconst F (v := (-1)) (by decide) e_X10_back_12 ?_
    exact m_iret F hQ e_X10_back_13 (⟨u, by omega, L, hok, h7595, _, rfl⟩)
set_option maxRecDepth 20000 in
theorem q_X10_lease (l : Launch) (V : VX) (c T Z u h : Nat) (P : NP) (L : Nat → LQ) (N : Nat) (σ : Mem) (x901 : Int32) (x902 : Int32) (h0 : HR V c ⟨T, Z, u, h, P, L⟩ σ) (hob : OKB L) (hP : OKP P)  : Ct l V yX10_lease cX10_lease 4 (some .int) 2 0 0 N σ [.ref c, .int x901, .int x902] (fun r τ => HS V c (⟨T, Z, u, h, P, L⟩ : RG) [0, 2, 3, 4, 5, 6, 7, 8, 9, 10, 11, 12, 13, 14, 15, 16, 17, 18, 19, 20, 21, 22, 23] σ τ ∧ ∃ x : Int32, r = some (.int x)) := by
  refine Ct.of (by decide) (Nat.le_of_ble_eq_true rfl) [(0, .ref c), (1, .int x901), (2, .int x902)] rfl (fun X hX F hQ => ?_)
  have hPP := hP
  unfold OKP at hPP
  have h1 : HS V c ⟨T, Z, u, h, P, L⟩ [0, 2, 3, 4, 5, 6, 7, 8, 9, 10, 11, 12, 13, 14, 15, 16, 17, 18, 19, 20, 21, 22, 23] σ σ := HS.start h0
  refine m_aload_n F rfl e_X10_lease_0 ?_
  refine m_iconst F (v := 0) (by decide) e_X10_lease_1 ?_
  refine r_put F (g' := (⟨T, Z, u, h, P, L⟩ : RG)) e_X10_lease_2 fp_X10_91 h1 (by decide) ⟨_, rfl⟩ (fun _ _ _ _ q => q) (fun _ _ _ q => q) rfl rfl (by decide) (fun σ7623 h7624 g7625 g7626 f7627 => ?_)
  refine m_aload_n F rfl e_X10_lease_5 ?_
  refine m_iload_n F rfl e_X10_lease_6 ?_
  refine r_callV F e_X10_lease_7 (q_X10_isLease (x_l X) V c T Z u h P L _ _ x901 h7624.1 (hob) hP ) cb_X10_isLease ml_X10_292 im_X10_isLease se_X10_isLease h7624 rfl rfl (rest := []) rfl (Nat.le_of_ble_eq_true rfl) ⟨Nat.le_of_ble_eq_true rfl, Nat.le_of_ble_eq_true rfl⟩ ⟨Nat.le_of_ble_eq_true rfl, Nat.le_of_ble_eq_true rfl⟩ (fun r σ7628 hp => ?_)
  obtain ⟨h7629, c7631⟩ := hp
  have h7630 := HS.trans h7624 h7629 (by decide)
  rcases c7631 with rfl | ⟨n7632, h7633, e7634, rfl⟩
  · refine m_if_ne F e_X10_lease_10 (fun q => absurd (by decide) q) (fun _ => ?_)
    refine m_aload_n F rfl e_X10_lease_13 ?_
    refine m_iconst F (v := 1) (by decide) e_X10_lease_14 ?_
    refine r_put F (g' := (⟨T, Z, u, h, P, L⟩ : RG)) e_X10_lease_15 fp_X10_91 h7630 (by decide) ⟨_, rfl⟩ (fun _ _ _ _ q => q) (fun _ _ _ q => q) rfl rfl (by decide) (fun σ7635 h7636 g7637 g7638 f7639 => ?_)
    refine m_iconst F (v := 0) (by decide) e_X10_lease_18 ?_
    exact m_iret F hQ e_X10_lease_19 (⟨h7636, _, rfl⟩)
  · subst e7634
    refine m_if_ne F e_X10_lease_10 (fun _ => ?_) (fun q => absurd q (by decide))
    refine m_sipush F (v := 160) (by decide) e_X10_lease_20 ?_
    refine m_iload_n F rfl e_X10_lease_23 ?_
    refine m_imul F e_X10_lease_24 ?_
    refine Wm.topE (w := nI (160 * n7632)) (pk_mul 160 n7632) ?_
    refine m_istore_n F (lv' := [(3, .int (nI (160 * n7632))), (0, .ref c), (1, .int (nI n7632)), (2, .int x902)]) e_X10_lease_25 (by decide) rfl ?_
    refine m_iload_n F rfl e_X10_lease_26 ?_
    by_cases ho27 : (x902 : Int32).toInt < 0 ∨ 8 < (x902 : Int32).toInt
    · refine m_tableOut F e_X10_lease_27 ho27 (tgt := 195) (by decide) ?_
      refine m_aload_n F rfl e_X10_lease_195 ?_
      refine m_iconst F (v := 2) (by decide) e_X10_lease_196 ?_
      refine r_put F (g' := (⟨T, Z, u, h, P, L⟩ : RG)) e_X10_lease_197 fp_X10_91 h7630 (by decide) ⟨_, rfl⟩ (fun _ _ _ _ q => q) (fun _ _ _ q => q) rfl rfl (by decide) (fun σ7640 h7641 g7642 g7643 f7644 => ?_)
      refine m_iconst F (v := 0) (by decide) e_X10_lease_200 ?_
      exact m_iret F hQ e_X10_lease_201 (⟨h7641, _, rfl⟩)
    have hs27 : (x902 : Int32).toInt = 0 ∨ (x902 : Int32).toInt = 1 ∨ (x902 : Int32).toInt = 2 ∨ (x902 : Int32).toInt = 3 ∨ (x902 : Int32).toInt = 4 ∨ (x902 : Int32).toInt = 5 ∨ (x902 : Int32).toInt = 6 ∨ (x902 : Int32).toInt = 7 ∨ (x902 : Int32).toInt = 8 := by omega
    rcases hs27 with hv | hv | hv | hv | hv | hv | hv | hv | hv
    · refine m_tableIn F e_X10_lease_27 (by omega) (by omega) (off := 49) (tgt := 76) (by rw [hv]; rfl) (by decide) ?_
      refine m_aload_n F rfl e_X10_lease_76 ?_
      refine r_get F e_X10_lease_77 fl_X10_19 h7630 rfl (fun v hv f7645 => ?_)
      obtain rfl : v = .ref (c + 4) := hv
      refine m_iload_n F rfl e_X10_lease_80 ?_
      refine r_iald F (len := 8) (j := n7632) e_X10_lease_81 h7630 (fun _ h => h) (by decide) (nI_clamp (by omega)) (vp_in_nI (by omega) (by decide)) (fun x7646 h7647 f7648 => ?_)
      exact m_iret F hQ e_X10_lease_82 (⟨h7630, _, rfl⟩)
    · refine m_tableIn F e_X10_lease_27 (by omega) (by omega) (off := 56) (tgt := 83) (by rw [hv]; rfl) (by decide) ?_
      refine m_aload_n F rfl e_X10_lease_83 ?_
      refine r_get F e_X10_lease_84 fl_X10_59 h7630 rfl (fun v hv f7649 => ?_)
      obtain rfl : v = .ref (c + 16) := hv
      refine m_iload_n F rfl e_X10_lease_87 ?_
      refine m_iconst F (v := 1) (by decide) e_X10_lease_88 ?_
      refine m_iadd F e_X10_lease_89 ?_
      refine Wm.topE (w := nI (160 * n7632 + 1)) (nI_add (160 * n7632) 1) ?_
      refine r_sld F (j := 160 * n7632 + 1) e_X10_lease_90 h7630 (nI_clamp (by omega)) (vp_in_nI (by omega) (by decide)) (fun x7650 h7651 f7652 => ?_)
      have hl7653 := hob.2 n7632 (by omega)
      obtain rfl : x7650 = lN (L n7632).2.1 := (EJ_l (l := n7632) (r := 1) (by omega) (by decide)).mp h7651
      refine m_l2i F e_X10_lease_91 ?_
      refine Wm.topE (w := nI ((L n7632).2.1)) (lN_i ((L n7632).2.1)) ?_
      exact m_iret F hQ e_X10_lease_92 (⟨h7630, _, rfl⟩)
    · refine m_tableIn F e_X10_lease_27 (by omega) (by omega) (off := 66) (tgt := 93) (by rw [hv]; rfl) (by decide) ?_
      refine m_aload_n F rfl e_X10_lease_93 ?_
      refine r_get F e_X10_lease_94 fl_X10_59 h7630 rfl (fun v hv f7654 => ?_)
      obtain rfl : v = .ref (c + 16) := hv
      refine m_iload_n F rfl e_X10_lease_97 ?_
      refine m_iconst F (v := 2) (by decide) e_X10_lease_98 ?_
      refine m_iadd F e_X10_lease_99 ?_
      refine Wm.topE (w := nI (160 * n7632 + 2)) (nI_add (160 * n7632) 2) ?_
      refine r_sld F (j := 160 * n7632 + 2) e_X10_lease_100 h7630 (nI_clamp (by omega)) (vp_in_nI (by omega) (by decide)) (fun x7655 h7656 f7657 => ?_)
      obtain ⟨n7658, hn7658, rfl⟩ : ∃ n : Nat, n ≤ 1000000 ∧ x7655 = lN n := (EJ_l (l := n7632) (r := 2) (by omega) (by decide)).mp h7656
      refine m_l2i F e_X10_lease_101 ?_
      refine Wm.topE (w := nI n7658) (lN_i n7658) ?_
      exact m_iret F hQ e_X10_lease_102 (⟨h7630, _, rfl⟩)
    · refine m_tableIn F e_X10_lease_27 (by omega) (by omega) (off := 76) (tgt := 103) (by rw [hv]; rfl) (by decide) ?_
      refine m_aload_n F rfl e_X10_lease_103 ?_
      refine r_get F e_X10_lease_104 fl_X10_59 h7630 rfl (fun v hv f7659 => ?_)
      obtain rfl : v = .ref (c + 16) := hv
      refine m_iload_n F rfl e_X10_lease_107 ?_
      refine m_iconst F (v := 0) (by decide) e_X10_lease_108 ?_
      refine m_iadd F e_X10_lease_109 ?_
      refine Wm.topE (w := nI (160 * n7632)) (nI_add (160 * n7632) 0) ?_
      refine r_sld F (j := 160 * n7632) e_X10_lease_110 h7630 (nI_clamp (by omega)) (vp_in_nI (by omega) (by decide)) (fun x7660 h7661 f7662 => ?_)
      have hl7663 := hob.2 n7632 (by omega)
      obtain rfl : x7660 = lN (L n7632).1 := (EJ_l (l := n7632) (r := 0) (by omega) (by decide)).mp h7661
      refine m_l2i F e_X10_lease_111 ?_
      refine Wm.topE (w := nI ((L n7632).1)) (lN_i ((L n7632).1)) ?_
      exact m_iret F hQ e_X10_lease_112 (⟨h7630, _, rfl⟩)
    · refine m_tableIn F e_X10_lease_27 (by omega) (by omega) (off := 86) (tgt := 113) (by rw [hv]; rfl) (by decide) ?_
      refine m_aload_n F rfl e_X10_lease_113 ?_
      refine r_get F e_X10_lease_114 fl_X10_59 h7630 rfl (fun v hv f7664 => ?_)
      obtain rfl : v = .ref (c + 16) := hv
      refine m_iload_n F rfl e_X10_lease_117 ?_
      refine m_iconst F (v := 0) (by decide) e_X10_lease_118 ?_
      refine m_iadd F e_X10_lease_119 ?_
      refine Wm.topE (w := nI (160 * n7632)) (nI_add (160 * n7632) 0) ?_
      refine r_sld F (j := 160 * n7632) e_X10_lease_120 h7630 (nI_clamp (by omega)) (vp_in_nI (by omega) (by decide)) (fun x7665 h7666 f7667 => ?_)
      have hl7668 := hob.2 n7632 (by omega)
      obtain rfl : x7665 = lN (L n7632).1 := (EJ_l (l := n7632) (r := 0) (by omega) (by decide)).mp h7666
      refine m_ldc2 F kc_X10_234 e_X10_lease_121 ?_
      refine m_lcmp F e_X10_lease_124 ?_
      refine m_if_ne F e_X10_lease_125 (fun q125 => ?_) (fun q125 => ?_)
      · have c125 : ((L n7632).1) ≠ 2 := by have hh := mt (fun h9 => (lg_cmp_eq (lN ((L n7632).1)) (lN 2)).mpr ((lN_eq (a := ((L n7632).1)) (b := 2) (by omega) (by omega)).mpr h9)) q125; omega
        refine m_aload_n F rfl e_X10_lease_132 ?_
        refine m_iload_n F rfl e_X10_lease_133 ?_
        refine r_callV F e_X10_lease_134 (q_X10_left (x_l X) V c T Z u h P L _ _ n7632 h7630.1 (hob) hP (by omega)) cb_X10_left ml_X10_257 im_X10_left se_X10_left h7630 rfl rfl (rest := []) rfl (Nat.le_of_ble_eq_true rfl) ⟨Nat.le_of_ble_eq_true rfl, Nat.le_of_ble_eq_true rfl⟩ ⟨Nat.le_of_ble_eq_true rfl, Nat.le_of_ble_eq_true rfl⟩ (fun r σ7669 hp => ?_)
        obtain ⟨h7670, x7672, rfl⟩ := hp
        have h7671 := HS.trans h7630 h7670 (by decide)
        exact m_iret F hQ e_X10_lease_137 (⟨h7671, _, rfl⟩)
      · have c125 : ((L n7632).1) = 2 := (lN_eq (a := ((L n7632).1)) (b := 2) (by omega) (by omega)).mp ((lg_cmp_eq _ _).mp q125)
        refine m_iconst F (v := 0) (by decide) e_X10_lease_128 ?_
        refine m_goto F e_X10_lease_129 ?_
        exact m_iret F hQ e_X10_lease_137 (⟨h7630, _, rfl⟩)
    · refine m_tableIn F e_X10_lease_27 (by omega) (by omega) (off := 111) (tgt := 138) (by rw [hv]; rfl) (by decide) ?_
      refine m_aload_n F rfl e_X10_lease_138 ?_
      refine r_get F e_X10_lease_139 fl_X10_59 h7630 rfl (fun v hv f7673 => ?_)
      obtain rfl : v = .ref (c + 16) := hv
      refine m_iload_n F rfl e_X10_lease_142 ?_
      refine m_iconst F (v := 3) (by decide) e_X10_lease_143 ?_
      refine m_iadd F e_X10_lease_144 ?_
      refine Wm.topE (w := nI (160 * n7632 + 3)) (nI_add (160 * n7632) 3) ?_
      refine r_sld F (j := 160 * n7632 + 3) e_X10_lease_145 h7630 (nI_clamp (by omega)) (vp_in_nI (by omega) (by decide)) (fun x7674 h7675 f7676 => ?_)
      have hl7677 := hob.2 n7632 (by omega)
      obtain rfl : x7674 = lN (L n7632).2.2.1 := (EJ_l (l := n7632) (r := 3) (by omega) (by decide)).mp h7675
      refine m_l2i F e_X10_lease_146 ?_
      refine Wm.topE (w := nI ((L n7632).2.2.1)) (lN_i ((L n7632).2.2.1)) ?_
      exact m_iret F hQ e_X10_lease_147 (⟨h7630, _, rfl⟩)
    · refine m_tableIn F e_X10_lease_27 (by omega) (by omega) (off := 121) (tgt := 148) (by rw [hv]; rfl) (by decide) ?_
      refine m_aload_n F rfl e_X10_lease_148 ?_
      refine r_get F e_X10_lease_149 fl_X10_34 h7630 rfl (fun v hv f7678 => ?_)
      obtain rfl : v = .ref (c + 9) := hv
      refine m_iload_n F rfl e_X10_lease_152 ?_
      refine r_iald F (len := 8) (j := n7632) e_X10_lease_153 h7630 (fun _ h => h) (by decide) (nI_clamp (by omega)) (vp_in_nI (by omega) (by decide)) (fun x7679 h7680 f7681 => ?_)
      refine m_if_ne F e_X10_lease_154 (fun q154 => ?_) (fun q154 => ?_)
      · refine m_aload_n F rfl e_X10_lease_161 ?_
        refine r_getC F e_X10_lease_162 fl_X10_34 h7630 (f7678) ?_
        refine m_iload_n F rfl e_X10_lease_165 ?_
        refine r_iald F (len := 8) (j := n7632) e_X10_lease_166 h7630 (fun _ h => h) (by decide) (nI_clamp (by omega)) (vp_in_nI (by omega) (by decide)) (fun x7682 h7683 f7684 => ?_)
        obtain rfl := Option.some.inj ((f7684).symm.trans (f7681))
        refine m_iconst F (v := 1) (by decide) e_X10_lease_167 ?_
        refine m_isub F e_X10_lease_168 ?_
        refine Wm.top (fun x7685 _ => ?_)
        exact m_iret F hQ e_X10_lease_169 (⟨h7630, _, rfl⟩)
      · subst q154
        refine m_iconst F (v := 0) (by decide) e_X10_lease_157 ?_
        refine m_goto F e_X10_lease_158 ?_
        exact m_iret F hQ e_X10_lease_169 (⟨h7630, _, rfl⟩)
    · refine m_tableIn F e_X10_lease_27 (by omega) (by omega) (off := 143) (tgt := 170) (by rw [hv]; rfl) (by decide) ?_
      refine m_aload_n F rfl e_X10_lease_170 ?_
      refine r_get F e_X10_lease_171 fl_X10_75 h7630 rfl (fun v hv f7686 => ?_)
      obtain rfl : v = .ref (c + 21) := hv
      refine m_iload_n F rfl e_X10_lease_174 ?_
      refine r_zald F (j := n7632) e_X10_lease_175 h7630 (nI_clamp (by omega)) (vp_in_nI (by omega) (by decide)) (fun n7687 hn7687 f7688 => ?_)
      refine m_if_eq F e_X10_lease_176 (fun q176 => ?_) (fun q176 => ?_)
      · have c176 : n7687 = 0 := (nI_eq (a := n7687) (b := 0) (by omega) (by omega)).mp q176
        refine m_iconst F (v := 0) (by decide) e_X10_lease_183 ?_
        exact m_iret F hQ e_X10_lease_184 (⟨h7630, _, rfl⟩)
      · have c176 : n7687 ≠ 0 := by have hh := mt (nI_eq (a := n7687) (b := 0) (by omega) (by omega)).mpr q176; omega
        refine m_iconst F (v := 1) (by decide) e_X10_lease_179 ?_
        refine m_goto F e_X10_lease_180 ?_
        exact m_iret F hQ e_X10_lease_184 (⟨h7630, _, rfl⟩)
    · refine m_tableIn F e_X10_lease_27 (by omega) (by omega) (off := 158) (tgt := 185) (by rw [hv]; rfl) (by decide) ?_
      refine m_aload_n F rfl e_X10_lease_185 ?_
      refine r_get F e_X10_lease_186 fl_X10_59 h7630 rfl (fun v hv f7689 => ?_)
      obtain rfl : v = .ref (c + 16) := hv
      refine m_iload_n F rfl e_X10_lease_189 ?_
      refine m_iconst F (v := 4) (by decide) e_X10_lease_190 ?_
      refine m_iadd F e_X10_lease_191 ?_
      refine Wm.topE (w := nI (160 * n7632 + 4)) (nI_add (160 * n7632) 4) ?_
      refine r_sld F (j := 160 * n7632 + 4) e_X10_lease_192 h7630 (nI_clamp (by omega)) (vp_in_nI (by omega) (by decide)) (fun x7690 h7691 f7692 => ?_)
      refine m_l2i F e_X10_lease_193 ?_
      refine Wm.top (fun x7693 _ => ?_)
      exact m_iret F hQ e_X10_lease_194 (⟨h7630, _, rfl⟩)
set_option maxRecDepth 20000 in
theorem lq_X10_feed_20 {V : VX} {X : MX} {N : Nat} {σ : Mem} {c T Z u h : Nat} {P : NP} {L : Nat → LQ}  {x901 : Int32} {x902 : Int32} {x903 : Int32} {x904 : Int32} {x905 : Int32} (F : Fx V X yX10_feed cX10_feed 8 (some .int) (rmd 0 0 0)) (hQ : Rt V X 0 0 N (fun r τ => (680 < T ∧ HS V c (⟨T, Z, u, h, P, L⟩ : RG) [0, 3, 4, 5, 6, 7, 8, 9, 10, 11, 12, 13, 14, 15, 16, 17, 18, 19, 20, 21, 22, 23] σ τ ∧ r = some (.int (-1))) ∨ (T ≤ 680 ∧ HS V c (⟨T + 20, Z, u, h, P, L⟩ : RG) [0, 3, 4, 5, 6, 7, 8, 9, 10, 11, 12, 13, 14, 15, 16, 17, 18, 19, 20, 21, 22, 23] σ τ ∧ r = some (.int (nI (T + 20)))))) (hob : OKB L) (hP : OKP P) (hp0 : T ≤ 700)  : ∀ (fuel : Nat) (i : Nat) (τ : Mem), HS V c (⟨T, Z, u, h, P, L⟩ : RG) [0, 3, 4, 5, 6, 7, 8, 9, 10, 11, 12, 13, 14, 15, 16, 17, 18, 19, 20, 21, 22, 23] σ τ → i ≤ 20 ∧ T ≤ 680 → 20 - i < fuel → Wm V X 8 N τ 0 0 20 [(0, .ref c), (1, .int x901), (2, .int x902), (3, .int x903), (4, .int x904), (5, .int x905), (6, .int (nI i))] [] := by
  intro fuel
  induction fuel with
  | zero => intros; rename_i hm; exact absurd hm (Nat.not_lt_zero _)
  | succ fuel ih =>
    intro i τ h1 hi hm
    have hPP := hP
    unfold OKP at hPP
    refine m_iload F rfl e_X10_feed_20 ?_
    refine m_bipush F (v := 20) (by decide) e_X10_feed_22 ?_
    refine m_icmp_ge F e_X10_feed_24 (fun q24 => ?_) (fun q24 => ?_)
    · have c24 : i ≥ 20 := (nI_leI (a := 20) (b := i) (by omega) (by omega)).mp q24
      refine m_aload_n F rfl e_X10_feed_110 ?_
      refine m_dup F rfl e_X10_feed_111 ?_
      refine r_get F e_X10_feed_112 fl_X10_94 h1 rfl (fun v hv f7694 => ?_)
      obtain rfl : v = .int (nI (T)) := hv
      refine m_bipush F (v := 20) (by decide) e_X10_feed_115 ?_
      refine m_iadd F e_X10_feed_117 ?_
      refine Wm.topE (w := nI (T + 20)) (nI_add T 20) ?_
      refine r_put F (g' := (⟨T + 20, Z, u, h, P, L⟩ : RG)) e_X10_feed_118 fp_X10_94 h1 (by decide) rfl ctl_T CR.ctl rfl rfl (by decide) (fun σ7695 h7696 g7697 g7698 f7699 => ?_)
      refine m_aload_n F rfl e_X10_feed_121 ?_
      refine r_getC F e_X10_feed_122 fl_X10_94 h7696 (f7699) ?_
      exact m_iret F hQ e_X10_feed_125 (Or.inr ⟨by omega, h7696, rfl⟩)
    · have c24 : i < 20 := by have hh := mt (nI_leI (a := 20) (b := i) (by omega) (by omega)).mpr q24; omega
      refine m_iload F rfl e_X10_feed_27 ?_
      refine m_iconst F (v := 4) (by decide) e_X10_feed_29 ?_
      refine m_icmp_ge F e_X10_feed_30 (fun q30 => ?_) (fun q30 => ?_)
      · have c30 : i ≥ 4 := (nI_leI (a := 4) (b := i) (by omega) (by omega)).mp q30
        refine m_iload F rfl e_X10_feed_37 ?_
        refine m_bipush F (v := 8) (by decide) e_X10_feed_39 ?_
        refine m_icmp_ge F e_X10_feed_41 (fun q41 => ?_) (fun q41 => ?_)
        · have c41 : i ≥ 8 := (nI_leI (a := 8) (b := i) (by omega) (by omega)).mp q41
          refine m_iload F rfl e_X10_feed_48 ?_
          refine m_bipush F (v := 12) (by decide) e_X10_feed_50 ?_
          refine m_icmp_ge F e_X10_feed_52 (fun q52 => ?_) (fun q52 => ?_)
          · have c52 : i ≥ 12 := (nI_leI (a := 12) (b := i) (by omega) (by omega)).mp q52
            refine m_iload F rfl e_X10_feed_59 ?_
            refine m_bipush F (v := 16) (by decide) e_X10_feed_61 ?_
            refine m_icmp_ge F e_X10_feed_63 (fun q63 => ?_) (fun q63 => ?_)
            · have c63 : i ≥ 16 := (nI_leI (a := 16) (b := i) (by omega) (by omega)).mp q63
              refine m_iload F rfl e_X10_feed_71 ?_
              refine m_istore F (lv' := [(7, .int x905), (0, .ref c), (1, .int x901), (2, .int x902), (3, .int x903), (4, .int x904), (5, .int x905), (6, .int (nI i))]) e_X10_feed_73 (by decide) rfl ?_
              refine m_aload_n F rfl e_X10_feed_75 ?_
              refine r_get F e_X10_feed_76 fl_X10_7 h1 rfl (fun v hv f7700 => ?_)
              obtain rfl : v = .ref (c + 1) := hv
              refine m_aload_n F rfl e_X10_feed_79 ?_
              refine r_get F e_X10_feed_80 fl_X10_94 h1 rfl (fun v hv f7701 => ?_)
              obtain rfl : v = .int (nI (T)) := hv
              refine m_iload F rfl e_X10_feed_83 ?_
              refine m_iadd F e_X10_feed_85 ?_
              refine Wm.topE (w := nI (T + i)) (nI_add T i) ?_
              refine m_iload F rfl e_X10_feed_86 ?_
              refine m_bipush F (v := 24) (by decide) e_X10_feed_88 ?_
              refine m_bipush F (v := 8) (by decide) e_X10_feed_90 ?_
              refine m_iload F rfl e_X10_feed_92 ?_
              refine m_iconst F (v := 4) (by decide) e_X10_feed_94 ?_
              refine m_irem F (by decide) e_X10_feed_95 ?_
              refine Wm.topE (w := nI (i % 4)) (pk_rem (a := i) (d := 4) (by omega) (by decide) (by decide)) ?_
              refine m_imul F e_X10_feed_96 ?_
              refine Wm.topE (w := nI (8 * (i % 4))) (pk_mul 8 (i % 4)) ?_
              refine m_isub F e_X10_feed_97 ?_
              refine Wm.top (fun x7702 _ => ?_)
              refine m_ishr F e_X10_feed_98 ?_
              refine Wm.top (fun x7703 _ => ?_)
              refine m_sipush F (v := 255) (by decide) e_X10_feed_99 ?_
              refine m_iand F e_X10_feed_102 ?_
              refine Wm.top (fun x7704 _ => ?_)
              refine r_iast F (g' := (⟨T, Z, u, h, P, L⟩ : RG)) (len := 700) (j := T + i) e_X10_feed_103 h1 (fun _ h => h) (fun f h => ⟨f, rfl, h⟩) (by decide) (by decide) (nI_clamp (by omega)) (vp_in_nI (by omega) (by decide)) trivial (fun _ _ _ h => h) (fun _ _ _ h => h) (fun σ7705 h7706 g7707 f7708 g7709 => ?_)
              refine m_iinc F (v := nI (i + 1)) (lv' := [(6, .int (nI (i + 1))), (7, .int x905), (0, .ref c), (1, .int x901), (2, .int x902), (3, .int x903), (4, .int x904), (5, .int x905)]) e_X10_feed_104 rfl (nI_add i 1) (by decide) rfl ?_
              refine m_goto F e_X10_feed_107 ?_
              refine Wm.lvsub (lv' := [(0, .ref c), (1, .int x901), (2, .int x902), (3, .int x903), (4, .int x904), (5, .int x905), (6, .int (nI (i + 1)))]) ?_ [2, 3, 4, 5, 6, 7, 0] rfl
              exact ih (i + 1) _ h7706 (by omega) (by omega)
            · have c63 : i < 16 := by have hh := mt (nI_leI (a := 16) (b := i) (by omega) (by omega)).mpr q63; omega
              refine m_iload F rfl e_X10_feed_66 ?_
              refine m_goto F e_X10_feed_68 ?_
              refine m_istore F (lv' := [(7, .int x904), (0, .ref c), (1, .int x901), (2, .int x902), (3, .int x903), (4, .int x904), (5, .int x905), (6, .int (nI i))]) e_X10_feed_73 (by decide) rfl ?_
              refine m_aload_n F rfl e_X10_feed_75 ?_
              refine r_get F e_X10_feed_76 fl_X10_7 h1 rfl (fun v hv f7710 => ?_)
              obtain rfl : v = .ref (c + 1) := hv
              refine m_aload_n F rfl e_X10_feed_79 ?_
              refine r_get F e_X10_feed_80 fl_X10_94 h1 rfl (fun v hv f7711 => ?_)
              obtain rfl : v = .int (nI (T)) := hv
              refine m_iload F rfl e_X10_feed_83 ?_
              refine m_iadd F e_X10_feed_85 ?_
              refine Wm.topE (w := nI (T + i)) (nI_add T i) ?_
              refine m_iload F rfl e_X10_feed_86 ?_
              refine m_bipush F (v := 24) (by decide) e_X10_feed_88 ?_
              refine m_bipush F (v := 8) (by decide) e_X10_feed_90 ?_
              refine m_iload F rfl e_X10_feed_92 ?_
              refine m_iconst F (v := 4) (by decide) e_X10_feed_94 ?_
              refine m_irem F (by decide) e_X10_feed_95 ?_
              refine Wm.topE (w := nI (i % 4)) (pk_rem (a := i) (d := 4) (by omega) (by decide) (by decide)) ?_
              refine m_imul F e_X10_feed_96 ?_
              refine Wm.topE (w := nI (8 * (i % 4))) (pk_mul 8 (i % 4)) ?_
              refine m_isub F e_X10_feed_97 ?_
              refine Wm.top (fun x7712 _ => ?_)
              refine m_ishr F e_X10_feed_98 ?_
              refine Wm.top (fun x7713 _ => ?_)
              refine m_sipush F (v := 255) (by decide) e_X10_feed_99 ?_
              refine m_iand F e_X10_feed_102 ?_
              refine Wm.top (fun x7714 _ => ?_)
              refine r_iast F (g' := (⟨T, Z, u, h, P, L⟩ : RG)) (len := 700) (j := T + i) e_X10_feed_103 h1 (fun _ h => h) (fun f h => ⟨f, rfl, h⟩) (by decide) (by decide) (nI_clamp (by omega)) (vp_in_nI (by omega) (by decide)) trivial (fun _ _ _ h => h) (fun _ _ _ h => h) (fun σ7715 h7716 g7717 f7718 g7719 => ?_)
              refine m_iinc F (v := nI (i + 1)) (lv' := [(6, .int (nI (i + 1))), (7, .int x904), (0, .ref c), (1, .int x901), (2, .int x902), (3, .int x903), (4, .int x904), (5, .int x905)]) e_X10_feed_104 rfl (nI_add i 1) (by decide) rfl ?_
              refine m_goto F e_X10_feed_107 ?_
              refine Wm.lvsub (lv' := [(0, .ref c), (1, .int x901), (2, .int x902), (3, .int x903), (4, .int x904), (5, .int x905), (6, .int (nI (i + 1)))]) ?_ [2, 3, 4, 5, 6, 7, 0] rfl
              exact ih (i + 1) _ h7716 (by omega) (by omega)
          · have c52 : i < 12 := by have hh := mt (nI_leI (a := 12) (b := i) (by omega) (by omega)).mpr q52; omega
            refine m_iload_n F rfl e_X10_feed_55 ?_
            refine m_goto F e_X10_feed_56 ?_
            refine m_istore F (lv' := [(7, .int x903), (0, .ref c), (1, .int x901), (2, .int x902), (3, .int x903), (4, .int x904), (5, .int x905), (6, .int (nI i))]) e_X10_feed_73 (by decide) rfl ?_
            refine m_aload_n F rfl e_X10_feed_75 ?_
            refine r_get F e_X10_feed_76 fl_X10_7 h1 rfl (fun v hv f7720 => ?_)
            obtain rfl : v = .ref (c + 1) := hv
            refine m_aload_n F rfl e_X10_feed_79 ?_
            refine r_get F e_X10_feed_80 fl_X10_94 h1 rfl (fun v hv f7721 => ?_)
            obtain rfl : v = .int (nI (T)) := hv
            refine m_iload F rfl e_X10_feed_83 ?_
            refine m_iadd F e_X10_feed_85 ?_
            refine Wm.topE (w := nI (T + i)) (nI_add T i) ?_
            refine m_iload F rfl e_X10_feed_86 ?_
            refine m_bipush F (v := 24) (by decide) e_X10_feed_88 ?_
            refine m_bipush F (v := 8) (by decide) e_X10_feed_90 ?_
            refine m_iload F rfl e_X10_feed_92 ?_
            refine m_iconst F (v := 4) (by decide) e_X10_feed_94 ?_
            refine m_irem F (by decide) e_X10_feed_95 ?_
            refine Wm.topE (w := nI (i % 4)) (pk_rem (a := i) (d := 4) (by omega) (by decide) (by decide)) ?_
            refine m_imul F e_X10_feed_96 ?_
            refine Wm.topE (w := nI (8 * (i % 4))) (pk_mul 8 (i % 4)) ?_
            refine m_isub F e_X10_feed_97 ?_
            refine Wm.top (fun x7722 _ => ?_)
            refine m_ishr F e_X10_feed_98 ?_
            refine Wm.top (fun x7723 _ => ?_)
            refine m_sipush F (v := 255) (by decide) e_X10_feed_99 ?_
            refine m_iand F e_X10_feed_102 ?_
            refine Wm.top (fun x7724 _ => ?_)
            refine r_iast F (g' := (⟨T, Z, u, h, P, L⟩ : RG)) (len := 700) (j := T + i) e_X10_feed_103 h1 (fun _ h => h) (fun f h => ⟨f, rfl, h⟩) (by decide) (by decide) (nI_clamp (by omega)) (vp_in_nI (by omega) (by decide)) trivial (fun _ _ _ h => h) (fun _ _ _ h => h) (fun σ7725 h7726 g7727 f7728 g7729 => ?_)
            refine m_iinc F (v := nI (i + 1)) (lv' := [(6, .int (nI (i + 1))), (7, .int x903), (0, .ref c), (1, .int x901), (2, .int x902), (3, .int x903), (4, .int x904), (5, .int x905)]) e_X10_feed_104 rfl (nI_add i 1) (by decide) rfl ?_
            refine m_goto F e_X10_feed_107 ?_
            refine Wm.lvsub (lv' := [(0, .ref c), (1, .int x901), (2, .int x902), (3, .int x903), (4, .int x904), (5, .int x905), (6, .int (nI (i + 1)))]) ?_ [2, 3, 4, 5, 6, 7, 0] rfl
            exact ih (i + 1) _ h7726 (by omega) (by omega)
        · have c41 : i < 8 := by have hh := mt (nI_leI (a := 8) (b := i) (by omega) (by omega)).mpr q41; omega
          refine m_iload_n F rfl e_X10_feed_44 ?_
          refine m_goto F e_X10_feed_45 ?_
          refine m_istore F (lv' := [(7, .int x902), (0, .ref c), (1, .int x901), (2, .int x902), (3, .int x903), (4, .int x904), (5, .int x905), (6, .int (nI i))]) e_X10_feed_73 (by decide) rfl ?_
          refine m_aload_n F rfl e_X10_feed_75 ?_
          refine r_get F e_X10_feed_76 fl_X10_7 h1 rfl (fun v hv f7730 => ?_)
          obtain rfl : v = .ref (c + 1) := hv
          refine m_aload_n F rfl e_X10_feed_79 ?_
          refine r_get F e_X10_feed_80 fl_X10_94 h1 rfl (fun v hv f7731 => ?_)
          obtain rfl : v = .int (nI (T)) := hv
          refine m_iload F rfl e_X10_feed_83 ?_
          refine m_iadd F e_X10_feed_85 ?_
          refine Wm.topE (w := nI (T + i)) (nI_add T i) ?_
          refine m_iload F rfl e_X10_feed_86 ?_
          refine m_bipush F (v := 24) (by decide) e_X10_feed_88 ?_
          refine m_bipush F (v := 8) (by decide) e_X10_feed_90 ?_
          refine m_iload F rfl e_X10_feed_92 ?_
          refine m_iconst F (v := 4) (by decide) e_X10_feed_94 ?_
          refine m_irem F (by decide) e_X10_feed_95 ?_
          refine Wm.topE (w := nI (i % 4)) (pk_rem (a := i) (d := 4) (by omega) (by decide) (by decide)) ?_
          refine m_imul F e_X10_feed_96 ?_
          refine Wm.topE (w := nI (8 * (i % 4))) (pk_mul 8 (i % 4)) ?_
          refine m_isub F e_X10_feed_97 ?_
          refine Wm.top (fun x7732 _ => ?_)
          refine m_ishr F e_X10_feed_98 ?_
          refine Wm.top (fun x7733 _ => ?_)
          refine m_sipush F (v := 255) (by decide) e_X10_feed_99 ?_
          refine m_iand F e_X10_feed_102 ?_
          refine Wm.top (fun x7734 _ => ?_)
          refine r_iast F (g' := (⟨T, Z, u, h, P, L⟩ : RG)) (len := 700) (j := T + i) e_X10_feed_103 h1 (fun _ h => h) (fun f h => ⟨f, rfl, h⟩) (by decide) (by decide) (nI_clamp (by omega)) (vp_in_nI (by omega) (by decide)) trivial (fun _ _ _ h => h) (fun _ _ _ h => h) (fun σ7735 h7736 g7737 f7738 g7739 => ?_)
          refine m_iinc F (v := nI (i + 1)) (lv' := [(6, .int (nI (i + 1))), (7, .int x902), (0, .ref c), (1, .int x901), (2, .int x902), (3, .int x903), (4, .int x904), (5, .int x905)]) e_X10_feed_104 rfl (nI_add i 1) (by decide) rfl ?_
          refine m_goto F e_X10_feed_107 ?_
          refine Wm.lvsub (lv' := [(0, .ref c), (1, .int x901), (2, .int x902), (3, .int x903), (4, .int x904), (5, .int x905), (6, .int (nI (i + 1)))]) ?_ [2, 3, 4, 5, 6, 7, 0] rfl
          exact ih (i + 1) _ h7736 (by omega) (by omega)
      · have c30 : i < 4 := by have hh := mt (nI_leI (a := 4) (b := i) (by omega) (by omega)).mpr q30; omega
        refine m_iload_n F rfl e_X10_feed_33 ?_
        refine m_goto F e_X10_feed_34 ?_
        refine m_istore F (lv' := [(7, .int x901), (0, .ref c), (1, .int x901), (2, .int x902), (3, .int x903), (4, .int x904), (5, .int x905), (6, .int (nI i))]) e_X10_feed_73 (by decide) rfl ?_
        refine m_aload_n F rfl e_X10_feed_75 ?_
        refine r_get F e_X10_feed_76 fl_X10_7 h1 rfl (fun v hv f7740 => ?_)
        obtain rfl : v = .ref (c + 1) := hv
        refine m_aload_n F rfl e_X10_feed_79 ?_
        refine r_get F e_X10_feed_80 fl_X10_94 h1 rfl (fun v hv f7741 => ?_)
        obtain rfl : v = .int (nI (T)) := hv
        refine m_iload F rfl e_X10_feed_83 ?_
        refine m_iadd F e_X10_feed_85 ?_
        refine Wm.topE (w := nI (T + i)) (nI_add T i) ?_
        refine m_iload F rfl e_X10_feed_86 ?_
        refine m_bipush F (v := 24) (by decide) e_X10_feed_88 ?_
        refine m_bipush F (v := 8) (by decide) e_X10_feed_90 ?_
        refine m_iload F rfl e_X10_feed_92 ?_
        refine m_iconst F (v := 4) (by decide) e_X10_feed_94 ?_
        refine m_irem F (by decide) e_X10_feed_95 ?_
        refine Wm.topE (w := nI (i % 4)) (pk_rem (a := i) (d := 4) (by omega) (by decide) (by decide)) ?_
        refine m_imul F e_X10_feed_96 ?_
        refine Wm.topE (w := nI (8 * (i % 4))) (pk_mul 8 (i % 4)) ?_
        refine m_isub F e_X10_feed_97 ?_
        refine Wm.top (fun x7742 _ => ?_)
        refine m_ishr F e_X10_feed_98 ?_
        refine Wm.top (fun x7743 _ => ?_)
        refine m_sipush F (v := 255) (by decide) e_X10_feed_99 ?_
        refine m_iand F e_X10_feed_102 ?_
        refine Wm.top (fun x7744 _ => ?_)
        refine r_iast F (g' := (⟨T, Z, u, h, P, L⟩ : RG)) (len := 700) (j := T + i) e_X10_feed_103 h1 (fun _ h => h) (fun f h => ⟨f, rfl, h⟩) (by decide) (by decide) (nI_clamp (by omega)) (vp_in_nI (by omega) (by decide)) trivial (fun _ _ _ h => h) (fun _ _ _ h => h) (fun σ7745 h7746 g7747 f7748 g7749 => ?_)
        refine m_iinc F (v := nI (i + 1)) (lv' := [(6, .int (nI (i + 1))), (7, .int x901), (0, .ref c), (1, .int x901), (2, .int x902), (3, .int x903), (4, .int x904), (5, .int x905)]) e_X10_feed_104 rfl (nI_add i 1) (by decide) rfl ?_
        refine m_goto F e_X10_feed_107 ?_
        refine Wm.lvsub (lv' := [(0, .ref c), (1, .int x901), (2, .int x902), (3, .int x903), (4, .int x904), (5, .int x905), (6, .int (nI (i + 1)))]) ?_ [2, 3, 4, 5, 6, 7, 0] rfl
        exact ih (i + 1) _ h7746 (by omega) (by omega)
set_option maxRecDepth 20000 in
theorem q_X10_feed (l : Launch) (V : VX) (c T Z u h : Nat) (P : NP) (L : Nat → LQ) (N : Nat) (σ : Mem) (x901 : Int32) (x902 : Int32) (x903 : Int32) (x904 : Int32) (x905 : Int32) (h0 : HR V c ⟨T, Z, u, h, P, L⟩ σ) (hob : OKB L) (hP : OKP P) (hp0 : T ≤ 700) : Ct l V yX10_feed cX10_feed 8 (some .int) 0 0 0 N σ [.ref c, .int x901, .int x902, .int x903, .int x904, .int x905] (fun r τ => (680 < T ∧ HS V c (⟨T, Z, u, h, P, L⟩ : RG) [0, 3, 4, 5, 6, 7, 8, 9, 10, 11, 12, 13, 14, 15, 16, 17, 18, 19, 20, 21, 22, 23] σ τ ∧ r = some (.int (-1))) ∨ (T ≤ 680 ∧ HS V c (⟨T + 20, Z, u, h, P, L⟩ : RG) [0, 3, 4, 5, 6, 7, 8, 9, 10, 11, 12, 13, 14, 15, 16, 17, 18, 19, 20, 21, 22, 23] σ τ ∧ r = some (.int (nI (T + 20))))) := by
  refine Ct.of (by decide) (Nat.le_of_ble_eq_true rfl) [(0, .ref c), (1, .int x901), (2, .int x902), (3, .int x903), (4, .int x904), (5, .int x905)] rfl (fun X hX F hQ => ?_)
  have hPP := hP
  unfold OKP at hPP
  have h1 : HS V c ⟨T, Z, u, h, P, L⟩ [0, 3, 4, 5, 6, 7, 8, 9, 10, 11, 12, 13, 14, 15, 16, 17, 18, 19, 20, 21, 22, 23] σ σ := HS.start h0
  refine m_aload_n F rfl e_X10_feed_0 ?_
  refine m_iconst F (v := 0) (by decide) e_X10_feed_1 ?_
  refine r_put F (g' := (⟨T, Z, u, h, P, L⟩ : RG)) e_X10_feed_2 fp_X10_91 h1 (by decide) ⟨_, rfl⟩ (fun _ _ _ _ q => q) (fun _ _ _ q => q) rfl rfl (by decide) (fun σ7750 h7751 g7752 g7753 f7754 => ?_)
  refine m_aload_n F rfl e_X10_feed_5 ?_
  refine r_get F e_X10_feed_6 fl_X10_94 h7751 rfl (fun v hv f7755 => ?_)
  obtain rfl : v = .int (nI (T)) := hv
  refine m_sipush F (v := 680) (by decide) e_X10_feed_9 ?_
  refine m_icmp_le F e_X10_feed_12 (fun q12 => ?_) (fun q12 => ?_)
  · have c12 : T ≤ 680 := (nI_leI (a := T) (b := 680) (by omega) (by omega)).mp q12
    refine m_iconst F (v := 0) (by decide) e_X10_feed_17 ?_
    refine m_istore F (lv' := [(6, .int 0), (0, .ref c), (1, .int x901), (2, .int x902), (3, .int x903), (4, .int x904), (5, .int x905)]) e_X10_feed_18 (by decide) rfl ?_
    refine Wm.lvsub (lv' := [(0, .ref c), (1, .int x901), (2, .int x902), (3, .int x903), (4, .int x904), (5, .int x905), (6, .int 0)]) ?_ [1, 2, 3, 4, 5, 6, 0] rfl
    exact lq_X10_feed_20 F hQ hob hP hp0 (20 - 0 + 1) 0 _ h7751 (by omega) (Nat.lt_succ_self _)
  · have c12 : T > 680 := by have hh := mt (nI_leI (a := T) (b := 680) (by omega) (by omega)).mpr q12; omega
    refine m_iconst F (v := (-1)) (by decide) e_X10_feed_15 ?_
    exact m_iret F hQ e_X10_feed_16 (Or.inl ⟨by omega, h7751, rfl⟩)
