set_option maxRecDepth 20000 in
theorem q_X10_indexNow (l : Launch) (V : VX) (c T Z u h : Nat) (P : NP) (L : Nat → LQ) (N : Nat) (σ : Mem)  (h0 : HR V c ⟨T, Z, u, h, P, L⟩ σ) (hob : OKB L) (hP : OKP P)  : Ct l V yX10_indexNow cX10_indexNow 1 (some .long) 0 0 0 N σ [.ref c] (fun r τ => HS V c (⟨T, Z, u, h, P, L⟩ : RG) [0, 1, 2, 3, 4, 5, 6, 7, 8, 9, 10, 11, 12, 13, 14, 15, 16, 17, 18, 19, 20, 21, 22, 23] σ τ ∧ ∃ n : Nat, n ≤ 2000 ∧ 1 ≤ n ∧ r = some (.long (lN n))) := by
  refine Ct.of (by decide) (Nat.le_of_ble_eq_true rfl) [(0, .ref c)] rfl (fun X hX F hQ => ?_)
  have hPP := hP
  unfold OKP at hPP
  have h1 : HS V c ⟨T, Z, u, h, P, L⟩ [0, 1, 2, 3, 4, 5, 6, 7, 8, 9, 10, 11, 12, 13, 14, 15, 16, 17, 18, 19, 20, 21, 22, 23] σ σ := HS.start h0
  refine m_aload_n F rfl e_X10_indexNow_0 ?_
  refine r_get F e_X10_indexNow_1 fl_X10_59 h1 rfl (fun v hv f4675 => ?_)
  obtain rfl : v = .ref (c + 16) := hv
  refine m_sipush F (v := 644) (by decide) e_X10_indexNow_4 ?_
  refine m_aload_n F rfl e_X10_indexNow_7 ?_
  refine r_getC F e_X10_indexNow_8 fl_X10_59 h1 (f4675) ?_
  refine m_sipush F (v := 744) (by decide) e_X10_indexNow_11 ?_
  refine r_sld F (j := 744) e_X10_indexNow_14 h1 (by decide) (by unfold vp_in; decide) (fun x4676 h4677 f4678 => ?_)
  have hl4679 := hob.1
  obtain rfl : x4676 = lN (L 4).1 := EJ_p.mp h4677
  refine m_l2i F e_X10_indexNow_15 ?_
  refine Wm.topE (w := nI ((L 4).1)) (lN_i ((L 4).1)) ?_
  refine m_iadd F e_X10_indexNow_16 ?_
  refine Wm.topE (w := nI (644 + (L 4).1)) (nI_add 644 ((L 4).1)) ?_
  refine r_sld F (j := 644 + (L 4).1) e_X10_indexNow_17 h1 (nI_clamp (by omega)) (vp_in_nI (by omega) (by decide)) (fun x4680 h4681 f4682 => ?_)
  obtain ⟨n4683, gn4683, hn4683, rfl⟩ := (EJ_i (p := (L 4).1) (by omega)).mp h4681
  exact m_lret F hQ e_X10_indexNow_18 (⟨h1, n4683, by omega, by omega, rfl⟩)
set_option maxRecDepth 20000 in
theorem q_X10_canBeLonger (l : Launch) (V : VX) (c T Z u h : Nat) (P : NP) (L : Nat → LQ) (N : Nat) (σ : Mem) (n901 : Nat) (n902 : Nat) (h0 : HR V c ⟨T, Z, u, h, P, L⟩ σ) (hob : OKB L) (hP : OKP P) (hn901 : n901 ≤ 3) (hn902 : n902 ≤ 24) : Ct l V yX10_canBeLonger cX10_canBeLonger 3 (some .boolean) 0 0 0 N σ [.ref c, .int (nI n901), .int (nI n902)] (fun r τ => HS V c (⟨T, Z, u, h, P, L⟩ : RG) [0, 1, 2, 3, 4, 5, 6, 7, 8, 9, 10, 11, 12, 13, 14, 15, 16, 17, 18, 19, 20, 21, 22, 23] σ τ ∧ (r = some (.int 0) ∨ (L n901).2.1 + n902 ≤ 72 ∧ r = some (.int 1))) := by
  refine Ct.of (by decide) (Nat.le_of_ble_eq_true rfl) [(0, .ref c), (1, .int (nI n901)), (2, .int (nI n902))] rfl (fun X hX F hQ => ?_)
  have hPP := hP
  unfold OKP at hPP
  have h1 : HS V c ⟨T, Z, u, h, P, L⟩ [0, 1, 2, 3, 4, 5, 6, 7, 8, 9, 10, 11, 12, 13, 14, 15, 16, 17, 18, 19, 20, 21, 22, 23] σ σ := HS.start h0
  refine m_aload_n F rfl e_X10_canBeLonger_0 ?_
  refine r_get F e_X10_canBeLonger_1 fl_X10_59 h1 rfl (fun v hv f4684 => ?_)
  obtain rfl : v = .ref (c + 16) := hv
  refine m_sipush F (v := 160) (by decide) e_X10_canBeLonger_4 ?_
  refine m_iload_n F rfl e_X10_canBeLonger_7 ?_
  refine m_imul F e_X10_canBeLonger_8 ?_
  refine Wm.topE (w := nI (160 * n901)) (pk_mul 160 n901) ?_
  refine m_iconst F (v := 1) (by decide) e_X10_canBeLonger_9 ?_
  refine m_iadd F e_X10_canBeLonger_10 ?_
  refine Wm.topE (w := nI (160 * n901 + 1)) (nI_add (160 * n901) 1) ?_
  refine r_sld F (j := 160 * n901 + 1) e_X10_canBeLonger_11 h1 (nI_clamp (by omega)) (vp_in_nI (by omega) (by decide)) (fun x4685 h4686 f4687 => ?_)
  have hl4688 := hob.2 n901 (by omega)
  obtain rfl : x4685 = lN (L n901).2.1 := (EJ_l (l := n901) (r := 1) (by omega) (by decide)).mp h4686
  refine m_iload_n F rfl e_X10_canBeLonger_12 ?_
  refine m_i2l F e_X10_canBeLonger_13 ?_
  refine Wm.toplE (w := lN n902) (nI_l (by omega)) ?_
  refine m_ladd F e_X10_canBeLonger_14 ?_
  refine Wm.toplE (w := lN (((L n901).2.1) + n902)) (lN_add ((L n901).2.1) n902) ?_
  refine m_ldc2 F kc_X10_304 e_X10_canBeLonger_15 ?_
  refine m_lcmp F e_X10_canBeLonger_18 ?_
  refine m_if_gt F e_X10_canBeLonger_19 (fun q19 => ?_) (fun q19 => ?_)
  · have c19 : (((L n901).2.1) + n902) > 72 := (lN_lt (a := 72) (b := (((L n901).2.1) + n902)) (by omega) (by omega)).mp ((lg_cmp_gt _ _).mp q19)
    refine m_iconst F (v := 0) (by decide) e_X10_canBeLonger_26 ?_
    exact m_zret F hQ e_X10_canBeLonger_27 (by decide) (⟨h1, Or.inl rfl⟩)
  · have c19 : (((L n901).2.1) + n902) ≤ 72 := by have hh := mt (fun h9 => (lg_cmp_gt (lN (((L n901).2.1) + n902)) (lN 72)).mpr ((lN_lt (a := 72) (b := (((L n901).2.1) + n902)) (by omega) (by omega)).mpr h9)) q19; omega
    refine m_iconst F (v := 1) (by decide) e_X10_canBeLonger_22 ?_
    refine m_goto F e_X10_canBeLonger_23 ?_
    exact m_zret F hQ e_X10_canBeLonger_27 (by decide) (⟨h1, Or.inr ⟨by omega, rfl⟩⟩)
set_option maxRecDepth 20000 in
theorem q_X10_remeasures (l : Launch) (V : VX) (c T Z u h : Nat) (P : NP) (L : Nat → LQ) (N : Nat) (σ : Mem) (n901 : Nat) (h0 : HR V c ⟨T, Z, u, h, P, L⟩ σ) (hob : OKB L) (hP : OKP P) (hn901 : n901 ≤ 3) : Ct l V yX10_remeasures cX10_remeasures 7 (some .long) 2 0 0 N σ [.ref c, .int (nI n901)] (fun r τ => HS V c (⟨T, Z, u, h, P, L⟩ : RG) [0, 1, 2, 3, 4, 5, 6, 7, 8, 9, 10, 11, 12, 13, 14, 15, 16, 18, 19, 20, 21, 22] σ τ ∧ ∃ x : Int64, r = some (.long x)) := by
  refine Ct.of (by decide) (Nat.le_of_ble_eq_true rfl) [(0, .ref c), (1, .int (nI n901))] rfl (fun X hX F hQ => ?_)
  have hPP := hP
  unfold OKP at hPP
  have h1 : HS V c ⟨T, Z, u, h, P, L⟩ [0, 1, 2, 3, 4, 5, 6, 7, 8, 9, 10, 11, 12, 13, 14, 15, 16, 18, 19, 20, 21, 22] σ σ := HS.start h0
  refine m_sipush F (v := 160) (by decide) e_X10_remeasures_0 ?_
  refine m_iload_n F rfl e_X10_remeasures_3 ?_
  refine m_imul F e_X10_remeasures_4 ?_
  refine Wm.topE (w := nI (160 * n901)) (pk_mul 160 n901) ?_
  refine m_istore_n F (lv' := [(2, .int (nI (160 * n901))), (0, .ref c), (1, .int (nI n901))]) e_X10_remeasures_5 (by decide) rfl ?_
  refine m_aload_n F rfl e_X10_remeasures_6 ?_
  refine m_iload_n F rfl e_X10_remeasures_7 ?_
  refine m_aload_n F rfl e_X10_remeasures_8 ?_
  refine r_get F e_X10_remeasures_9 fl_X10_59 h1 rfl (fun v hv f4689 => ?_)
  obtain rfl : v = .ref (c + 16) := hv
  refine m_iload_n F rfl e_X10_remeasures_12 ?_
  refine m_iconst F (v := 5) (by decide) e_X10_remeasures_13 ?_
  refine m_iadd F e_X10_remeasures_14 ?_
  refine Wm.topE (w := nI (160 * n901 + 5)) (nI_add (160 * n901) 5) ?_
  refine r_sld F (j := 160 * n901 + 5) e_X10_remeasures_15 h1 (nI_clamp (by omega)) (vp_in_nI (by omega) (by decide)) (fun x4690 h4691 f4692 => ?_)
  have hl4693 := hob.2 n901 (by omega)
  obtain rfl : x4690 = lN (L n901).2.2.2 := (EJ_l (l := n901) (r := 5) (by omega) (by decide)).mp h4691
  refine m_l2i F e_X10_remeasures_16 ?_
  refine Wm.topE (w := nI ((L n901).2.2.2)) (lN_i ((L n901).2.2.2)) ?_
  refine m_iconst F (v := 1) (by decide) e_X10_remeasures_17 ?_
  refine m_iadd F e_X10_remeasures_18 ?_
  refine Wm.topE (w := nI ((L n901).2.2.2 + 1)) (nI_add ((L n901).2.2.2) 1) ?_
  refine m_aload_n F rfl e_X10_remeasures_19 ?_
  refine r_getC F e_X10_remeasures_20 fl_X10_59 h1 (f4689) ?_
  refine m_iload_n F rfl e_X10_remeasures_23 ?_
  refine m_iconst F (v := 2) (by decide) e_X10_remeasures_24 ?_
  refine m_iadd F e_X10_remeasures_25 ?_
  refine Wm.topE (w := nI (160 * n901 + 2)) (nI_add (160 * n901) 2) ?_
  refine r_sld F (j := 160 * n901 + 2) e_X10_remeasures_26 h1 (nI_clamp (by omega)) (vp_in_nI (by omega) (by decide)) (fun x4694 h4695 f4696 => ?_)
  obtain ⟨n4697, hn4697, rfl⟩ : ∃ n : Nat, n ≤ 1000000 ∧ x4694 = lN n := (EJ_l (l := n901) (r := 2) (by omega) (by decide)).mp h4695
  refine m_ldc2 F kc_X10_245 e_X10_remeasures_27 ?_
  refine r_callV F e_X10_remeasures_30 (q_X10_worthBy (x_l X) V c T Z u h P L _ _ n901 ((L n901).2.2.2 + 1) n4697 (-1) h1.1 (hob) hP (by omega) (by omega) (by omega) (by first | omega | assumption | decide)) cb_X10_worthBy ml_X10_247 im_X10_worthBy se_X10_worthBy h1 rfl rfl (rest := []) rfl (Nat.le_of_ble_eq_true rfl) ⟨Nat.le_of_ble_eq_true rfl, Nat.le_of_ble_eq_true rfl⟩ ⟨Nat.le_of_ble_eq_true rfl, Nat.le_of_ble_eq_true rfl⟩ (fun r σ4698 hp => ?_)
  obtain ⟨h4699, x4701, rfl⟩ := hp
  have h4700 := HS.trans h1 h4699 (by decide)
  refine m_aload_n F rfl e_X10_remeasures_33 ?_
  refine r_getC F e_X10_remeasures_34 fl_X10_59 h4700 ((fld_eq (h4699.2 c (by rw [show kC c c = 1 from kC_at (k := 0) (by decide)]; decide))).trans f4689) ?_
  refine m_iload_n F rfl e_X10_remeasures_37 ?_
  refine m_bipush F (v := 6) (by decide) e_X10_remeasures_38 ?_
  refine m_iadd F e_X10_remeasures_40 ?_
  refine Wm.topE (w := nI (160 * n901 + 6)) (nI_add (160 * n901) 6) ?_
  refine r_sld F (j := 160 * n901 + 6) e_X10_remeasures_41 h4700 (nI_clamp (by omega)) (vp_in_nI (by omega) (by decide)) (fun x4702 h4703 f4704 => ?_)
  refine m_lsub F e_X10_remeasures_42 ?_
  refine Wm.topl (fun x4705 _ => ?_)
  refine m_lstore_n F (lv' := [(3, .long x4705), (2, .int (nI (160 * n901))), (0, .ref c), (1, .int (nI n901))]) e_X10_remeasures_43 (by decide) rfl ?_
  refine m_lload_n F rfl e_X10_remeasures_44 ?_
  refine m_aload_n F rfl e_X10_remeasures_45 ?_
  refine r_getC F e_X10_remeasures_46 fl_X10_59 h4700 ((fld_eq (h4699.2 c (by rw [show kC c c = 1 from kC_at (k := 0) (by decide)]; decide))).trans f4689) ?_
  refine m_iload_n F rfl e_X10_remeasures_49 ?_
  refine m_bipush F (v := 7) (by decide) e_X10_remeasures_50 ?_
  refine m_iadd F e_X10_remeasures_52 ?_
  refine Wm.topE (w := nI (160 * n901 + 7)) (nI_add (160 * n901) 7) ?_
  refine r_sld F (j := 160 * n901 + 7) e_X10_remeasures_53 h4700 (nI_clamp (by omega)) (vp_in_nI (by omega) (by decide)) (fun x4706 h4707 f4708 => ?_)
  refine m_lneg F e_X10_remeasures_54 ?_
  refine Wm.topl (fun x4709 _ => ?_)
  refine m_lcmp F e_X10_remeasures_55 ?_
  refine Wm.top (fun x4710 _ => ?_)
  refine m_if_ge F e_X10_remeasures_56 (fun q56 => ?_) (fun q56 => ?_)
  · obtain ⟨n4711, hn4711, rfl⟩ := nI_nn (x := x4710) (fun e => Int32.lt_irrefl (Int32.lt_of_lt_of_le e (Int32.le_trans (by decide) q56)))
    have c56 : n4711 ≥ 0 := (nI_leI (a := 0) (b := n4711) (by omega) (by omega)).mp q56
    refine m_lload_n F rfl e_X10_remeasures_72 ?_
    refine m_lstore F (lv' := [(5, .long x4705), (3, .long x4705), (2, .int (nI (160 * n901))), (0, .ref c), (1, .int (nI n901))]) e_X10_remeasures_73 (by decide) rfl ?_
    refine m_aload_n F rfl e_X10_remeasures_75 ?_
    refine r_getC F e_X10_remeasures_76 fl_X10_59 h4700 ((fld_eq (h4699.2 c (by rw [show kC c c = 1 from kC_at (k := 0) (by decide)]; decide))).trans f4689) ?_
    refine m_iload_n F rfl e_X10_remeasures_79 ?_
    refine m_bipush F (v := 6) (by decide) e_X10_remeasures_80 ?_
    refine m_iadd F e_X10_remeasures_82 ?_
    refine Wm.topE (w := nI (160 * n901 + 6)) (nI_add (160 * n901) 6) ?_
    refine m_dup2_11 F rfl rfl e_X10_remeasures_83 ?_
    refine r_sld F (j := 160 * n901 + 6) e_X10_remeasures_84 h4700 (nI_clamp (by omega)) (vp_in_nI (by omega) (by decide)) (fun x4712 h4713 f4714 => ?_)
    refine m_lload_n F rfl e_X10_remeasures_85 ?_
    refine m_ladd F e_X10_remeasures_86 ?_
    refine Wm.topl (fun x4715 _ => ?_)
    refine r_sst F (g' := (⟨T, Z, u, h, P, L⟩ : RG)) (j := 160 * n901 + 6) e_X10_remeasures_87 h4700 (by decide) (nI_clamp (by omega)) (vp_in_nI (by omega) (by decide)) (fun f q => EJ_same (EJ_lw (l := n901) (r := 6) (by omega) (by omega) (by omega)) q) (fun _ _ _ q => q) (fun σ4716 h4717 g4718 => ?_)
    refine m_aload_n F rfl e_X10_remeasures_88 ?_
    refine r_getC F e_X10_remeasures_89 fl_X10_59 h4717 ((fld_eq (g4718 _ (by omega))).trans ((fld_eq (h4699.2 c (by rw [show kC c c = 1 from kC_at (k := 0) (by decide)]; decide))).trans f4689)) ?_
    refine m_iload_n F rfl e_X10_remeasures_92 ?_
    refine m_bipush F (v := 7) (by decide) e_X10_remeasures_93 ?_
    refine m_iadd F e_X10_remeasures_95 ?_
    refine Wm.topE (w := nI (160 * n901 + 7)) (nI_add (160 * n901) 7) ?_
    refine m_dup2_11 F rfl rfl e_X10_remeasures_96 ?_
    refine r_sld F (j := 160 * n901 + 7) e_X10_remeasures_97 h4717 (nI_clamp (by omega)) (vp_in_nI (by omega) (by decide)) (fun x4719 h4720 f4721 => ?_)
    refine m_lload F rfl e_X10_remeasures_98 ?_
    refine m_ladd F e_X10_remeasures_100 ?_
    refine Wm.topl (fun x4722 _ => ?_)
    refine r_sst F (g' := (⟨T, Z, u, h, P, L⟩ : RG)) (j := 160 * n901 + 7) e_X10_remeasures_101 h4717 (by decide) (nI_clamp (by omega)) (vp_in_nI (by omega) (by decide)) (fun f q => EJ_same (EJ_lw (l := n901) (r := 7) (by omega) (by omega) (by omega)) q) (fun _ _ _ q => q) (fun σ4723 h4724 g4725 => ?_)
    refine m_aload_n F rfl e_X10_remeasures_102 ?_
    refine r_getC F e_X10_remeasures_103 fl_X10_59 h4724 ((fld_eq (g4725 _ (by omega))).trans ((fld_eq (g4718 _ (by omega))).trans ((fld_eq (h4699.2 c (by rw [show kC c c = 1 from kC_at (k := 0) (by decide)]; decide))).trans f4689))) ?_
    refine m_iload_n F rfl e_X10_remeasures_106 ?_
    refine m_bipush F (v := 11) (by decide) e_X10_remeasures_107 ?_
    refine m_iadd F e_X10_remeasures_109 ?_
    refine Wm.topE (w := nI (160 * n901 + 11)) (nI_add (160 * n901) 11) ?_
    refine m_dup2_11 F rfl rfl e_X10_remeasures_110 ?_
    refine r_sld F (j := 160 * n901 + 11) e_X10_remeasures_111 h4724 (nI_clamp (by omega)) (vp_in_nI (by omega) (by decide)) (fun x4726 h4727 f4728 => ?_)
    refine m_lload_n F rfl e_X10_remeasures_112 ?_
    refine m_ladd F e_X10_remeasures_113 ?_
    refine Wm.topl (fun x4729 _ => ?_)
    refine r_sst F (g' := (⟨T, Z, u, h, P, L⟩ : RG)) (j := 160 * n901 + 11) e_X10_remeasures_114 h4724 (by decide) (nI_clamp (by omega)) (vp_in_nI (by omega) (by decide)) (fun f q => EJ_same (EJ_lw (l := n901) (r := 11) (by omega) (by omega) (by omega)) q) (fun _ _ _ q => q) (fun σ4730 h4731 g4732 => ?_)
    refine m_aload_n F rfl e_X10_remeasures_115 ?_
    refine m_iconst F (v := 2) (by decide) e_X10_remeasures_116 ?_
    refine m_iload_n F rfl e_X10_remeasures_117 ?_
    refine m_lconst F (v := 0) (by decide) e_X10_remeasures_118 ?_
    refine m_lload_n F rfl e_X10_remeasures_119 ?_
    refine m_lneg F e_X10_remeasures_120 ?_
    refine Wm.topl (fun x4733 _ => ?_)
    refine m_lload F rfl e_X10_remeasures_121 ?_
    refine m_lconst F (v := 0) (by decide) e_X10_remeasures_123 ?_
    refine m_lconst F (v := 0) (by decide) e_X10_remeasures_124 ?_
    refine m_lload_n F rfl e_X10_remeasures_125 ?_
    refine m_lload F rfl e_X10_remeasures_126 ?_
    refine m_lsub F e_X10_remeasures_128 ?_
    refine Wm.topl (fun x4734 _ => ?_)
    refine r_callV F e_X10_remeasures_129 (q_X10_entry (x_l X) V c T Z u h P L _ _ 2 (nI n901) 0 x4733 x4705 0 0 x4734 h4731.1 (hob) hP ) cb_X10_entry ml_X10_253 im_X10_entry se_X10_entry h4731 rfl rfl (rest := []) rfl (Nat.le_of_ble_eq_true rfl) ⟨Nat.le_of_ble_eq_true rfl, Nat.le_of_ble_eq_true rfl⟩ ⟨Nat.le_of_ble_eq_true rfl, Nat.le_of_ble_eq_true rfl⟩ (fun r σ4735 hp => ?_)
    obtain ⟨h4736, rfl⟩ := hp
    have h4737 := HS.trans h4731 h4736 (by decide)
    refine m_lload_n F rfl e_X10_remeasures_132 ?_
    exact m_lret F hQ e_X10_remeasures_133 (⟨h4737, _, rfl⟩)
  · refine m_aload_n F rfl e_X10_remeasures_59 ?_
    refine r_getC F e_X10_remeasures_60 fl_X10_59 h4700 ((fld_eq (h4699.2 c (by rw [show kC c c = 1 from kC_at (k := 0) (by decide)]; decide))).trans f4689) ?_
    refine m_iload_n F rfl e_X10_remeasures_63 ?_
    refine m_bipush F (v := 7) (by decide) e_X10_remeasures_64 ?_
    refine m_iadd F e_X10_remeasures_66 ?_
    refine Wm.topE (w := nI (160 * n901 + 7)) (nI_add (160 * n901) 7) ?_
    refine r_sld F (j := 160 * n901 + 7) e_X10_remeasures_67 h4700 (nI_clamp (by omega)) (vp_in_nI (by omega) (by decide)) (fun x4738 h4739 f4740 => ?_)
    refine m_lneg F e_X10_remeasures_68 ?_
    refine Wm.topl (fun x4741 _ => ?_)
    refine m_goto F e_X10_remeasures_69 ?_
    refine m_lstore F (lv' := [(5, .long x4741), (3, .long x4705), (2, .int (nI (160 * n901))), (0, .ref c), (1, .int (nI n901))]) e_X10_remeasures_73 (by decide) rfl ?_
    refine m_aload_n F rfl e_X10_remeasures_75 ?_
    refine r_getC F e_X10_remeasures_76 fl_X10_59 h4700 ((fld_eq (h4699.2 c (by rw [show kC c c = 1 from kC_at (k := 0) (by decide)]; decide))).trans f4689) ?_
    refine m_iload_n F rfl e_X10_remeasures_79 ?_
    refine m_bipush F (v := 6) (by decide) e_X10_remeasures_80 ?_
    refine m_iadd F e_X10_remeasures_82 ?_
    refine Wm.topE (w := nI (160 * n901 + 6)) (nI_add (160 * n901) 6) ?_
    refine m_dup2_11 F rfl rfl e_X10_remeasures_83 ?_
    refine r_sld F (j := 160 * n901 + 6) e_X10_remeasures_84 h4700 (nI_clamp (by omega)) (vp_in_nI (by omega) (by decide)) (fun x4742 h4743 f4744 => ?_)
    refine m_lload_n F rfl e_X10_remeasures_85 ?_
    refine m_ladd F e_X10_remeasures_86 ?_
    refine Wm.topl (fun x4745 _ => ?_)
    refine r_sst F (g' := (⟨T, Z, u, h, P, L⟩ : RG)) (j := 160 * n901 + 6) e_X10_remeasures_87 h4700 (by decide) (nI_clamp (by omega)) (vp_in_nI (by omega) (by decide)) (fun f q => EJ_same (EJ_lw (l := n901) (r := 6) (by omega) (by omega) (by omega)) q) (fun _ _ _ q => q) (fun σ4746 h4747 g4748 => ?_)
    refine m_aload_n F rfl e_X10_remeasures_88 ?_
    refine r_getC F e_X10_remeasures_89 fl_X10_59 h4747 ((fld_eq (g4748 _ (by omega))).trans ((fld_eq (h4699.2 c (by rw [show kC c c = 1 from kC_at (k := 0) (by decide)]; decide))).trans f4689)) ?_
    refine m_iload_n F rfl e_X10_remeasures_92 ?_
    refine m_bipush F (v := 7) (by decide) e_X10_remeasures_93 ?_
    refine m_iadd F e_X10_remeasures_95 ?_
    refine Wm.topE (w := nI (160 * n901 + 7)) (nI_add (160 * n901) 7) ?_
    refine m_dup2_11 F rfl rfl e_X10_remeasures_96 ?_
    refine r_sld F (j := 160 * n901 + 7) e_X10_remeasures_97 h4747 (nI_clamp (by omega)) (vp_in_nI (by omega) (by decide)) (fun x4749 h4750 f4751 => ?_)
    refine m_lload F rfl e_X10_remeasures_98 ?_
    refine m_ladd F e_X10_remeasures_100 ?_
    refine Wm.topl (fun x4752 _ => ?_)
    refine r_sst F (g' := (⟨T, Z, u, h, P, L⟩ : RG)) (j := 160 * n901 + 7) e_X10_remeasures_101 h4747 (by decide) (nI_clamp (by omega)) (vp_in_nI (by omega) (by decide)) (fun f q => EJ_same (EJ_lw (l := n901) (r := 7) (by omega) (by omega) (by omega)) q) (fun _ _ _ q => q) (fun σ4753 h4754 g4755 => ?_)
    refine m_aload_n F rfl e_X10_remeasures_102 ?_
    refine r_getC F e_X10_remeasures_103 fl_X10_59 h4754 ((fld_eq (g4755 _ (by omega))).trans ((fld_eq (g4748 _ (by omega))).trans ((fld_eq (h4699.2 c (by rw [show kC c c = 1 from kC_at (k := 0) (by decide)]; decide))).trans f4689))) ?_
    refine m_iload_n F rfl e_X10_remeasures_106 ?_
    refine m_bipush F (v := 11) (by decide) e_X10_remeasures_107 ?_
    refine m_iadd F e_X10_remeasures_109 ?_
    refine Wm.topE (w := nI (160 * n901 + 11)) (nI_add (160 * n901) 11) ?_
    refine m_dup2_11 F rfl rfl e_X10_remeasures_110 ?_
    refine r_sld F (j := 160 * n901 + 11) e_X10_remeasures_111 h4754 (nI_clamp (by omega)) (vp_in_nI (by omega) (by decide)) (fun x4756 h4757 f4758 => ?_)
    refine m_lload_n F rfl e_X10_remeasures_112 ?_
    refine m_ladd F e_X10_remeasures_113 ?_
    refine Wm.topl (fun x4759 _ => ?_)
    refine r_sst F (g' := (⟨T, Z, u, h, P, L⟩ : RG)) (j := 160 * n901 + 11) e_X10_remeasures_114 h4754 (by decide) (nI_clamp (by omega)) (vp_in_nI (by omega) (by decide)) (fun f q => EJ_same (EJ_lw (l := n901) (r := 11) (by omega) (by omega) (by omega)) q) (fun _ _ _ q => q) (fun σ4760 h4761 g4762 => ?_)
    refine m_aload_n F rfl e_X10_remeasures_115 ?_
    refine m_iconst F (v := 2) (by decide) e_X10_remeasures_116 ?_
    refine m_iload_n F rfl e_X10_remeasures_117 ?_
    refine m_lconst F (v := 0) (by decide) e_X10_remeasures_118 ?_
    refine m_lload_n F rfl e_X10_remeasures_119 ?_
    refine m_lneg F e_X10_remeasures_120 ?_
    refine Wm.topl (fun x4763 _ => ?_)
    refine m_lload F rfl e_X10_remeasures_121 ?_
    refine m_lconst F (v := 0) (by decide) e_X10_remeasures_123 ?_
    refine m_lconst F (v := 0) (by decide) e_X10_remeasures_124 ?_
    refine m_lload_n F rfl e_X10_remeasures_125 ?_
    refine m_lload F rfl e_X10_remeasures_126 ?_
    refine m_lsub F e_X10_remeasures_128 ?_
    refine Wm.topl (fun x4764 _ => ?_)
    refine r_callV F e_X10_remeasures_129 (q_X10_entry (x_l X) V c T Z u h P L _ _ 2 (nI n901) 0 x4763 x4741 0 0 x4764 h4761.1 (hob) hP ) cb_X10_entry ml_X10_253 im_X10_entry se_X10_entry h4761 rfl rfl (rest := []) rfl (Nat.le_of_ble_eq_true rfl) ⟨Nat.le_of_ble_eq_true rfl, Nat.le_of_ble_eq_true rfl⟩ ⟨Nat.le_of_ble_eq_true rfl, Nat.le_of_ble_eq_true rfl⟩ (fun r σ4765 hp => ?_)
    obtain ⟨h4766, rfl⟩ := hp
    have h4767 := HS.trans h4761 h4766 (by decide)
    refine m_lload_n F rfl e_X10_remeasures_132 ?_
    exact m_lret F hQ e_X10_remeasures_133 (⟨h4767, _, rfl⟩)
set_option maxRecDepth 20000 in
theorem lq_X10_indexes_19 {V : VX} {X : MX} {N : Nat} {σ : Mem} {c T Z u h : Nat} {P : NP} {L : Nat → LQ}  {n901 : Nat} {n902 : Nat} (F : Fx V X yX10_indexes cX10_indexes 6 none (rmd 0 0 0)) (hQ : Rt V X 0 0 N (fun r τ => HS V c (⟨T, Z, u, h, P, L⟩ : RG) [0, 1, 2, 3, 4, 5, 6, 7, 8, 9, 10, 11, 12, 13, 14, 15, 16, 18, 19, 20, 21, 22, 23] σ τ ∧ r = none)) (hob : OKB L) (hP : OKP P) (hn901 : n901 ≤ 3) (hn902 : n902 ≤ 2000) (hp0 : 1 ≤ (L n901).2.2.1)  : ∀ (fuel : Nat) (i : Nat) (τ : Mem), HS V c (⟨T, Z, u, h, P, L⟩ : RG) [0, 1, 2, 3, 4, 5, 6, 7, 8, 9, 10, 11, 12, 13, 14, 15, 16, 18, 19, 20, 21, 22, 23] σ τ → i ≤ 72 → 72 - i < fuel → Wm V X 6 N τ 0 0 19 [(5, .int (nI i)), (4, .int (nI (160 * n901))), (0, .ref c), (1, .int (nI n901)), (2, .long (lN n902))] [] := by
  intro fuel
  induction fuel with
  | zero => intros; rename_i hm; exact absurd hm (Nat.not_lt_zero _)
  | succ fuel ih =>
    intro i τ h1 hi hm
    have hPP := hP
    unfold OKP at hPP
    refine m_iload F rfl e_X10_indexes_19 ?_
    refine m_i2l F e_X10_indexes_21 ?_
    refine Wm.toplE (w := lN i) (nI_l (by omega)) ?_
    refine m_aload_n F rfl e_X10_indexes_22 ?_
    refine r_get F e_X10_indexes_23 fl_X10_59 h1 rfl (fun v hv f4768 => ?_)
    obtain rfl : v = .ref (c + 16) := hv
    refine m_iload F rfl e_X10_indexes_26 ?_
    refine m_iconst F (v := 1) (by decide) e_X10_indexes_28 ?_
    refine m_iadd F e_X10_indexes_29 ?_
    refine Wm.topE (w := nI (160 * n901 + 1)) (nI_add (160 * n901) 1) ?_
    refine r_sld F (j := 160 * n901 + 1) e_X10_indexes_30 h1 (nI_clamp (by omega)) (vp_in_nI (by omega) (by decide)) (fun x4769 h4770 f4771 => ?_)
    have hl4772 := hob.2 n901 (by omega)
    obtain rfl : x4769 = lN (L n901).2.1 := (EJ_l (l := n901) (r := 1) (by omega) (by decide)).mp h4770
    refine m_lcmp F e_X10_indexes_31 ?_
    refine m_if_ge F e_X10_indexes_32 (fun q32 => ?_) (fun q32 => ?_)
    · have c32 : i ≥ ((L n901).2.1) := (lN_le (a := ((L n901).2.1)) (b := i) (by omega) (by omega)).mp ((lg_cmp_ge _ _).mp q32)
      refine m_aload_n F rfl e_X10_indexes_79 ?_
      refine r_getC F e_X10_indexes_80 fl_X10_59 h1 (f4768) ?_
      refine m_iload F rfl e_X10_indexes_83 ?_
      refine m_iconst F (v := 4) (by decide) e_X10_indexes_85 ?_
      refine m_iadd F e_X10_indexes_86 ?_
      refine Wm.topE (w := nI (160 * n901 + 4)) (nI_add (160 * n901) 4) ?_
      refine m_lload_n F rfl e_X10_indexes_87 ?_
      refine r_sst F (g' := (⟨T, Z, u, h, P, L⟩ : RG)) (j := 160 * n901 + 4) e_X10_indexes_88 h1 (by decide) (nI_clamp (by omega)) (vp_in_nI (by omega) (by decide)) (fun f q => EJ_same (EJ_lw (l := n901) (r := 4) (by omega) (by omega) (by omega)) q) (fun _ _ _ q => q) (fun σ4773 h4774 g4775 => ?_)
      exact m_vret F hQ e_X10_indexes_89 (⟨h4774, rfl⟩)
    · have c32 : i < ((L n901).2.1) := by have hh := mt (fun h9 => (lg_cmp_ge (lN i) (lN ((L n901).2.1))).mpr ((lN_le (a := ((L n901).2.1)) (b := i) (by omega) (by omega)).mpr h9)) q32; omega
      refine m_aload_n F rfl e_X10_indexes_35 ?_
      refine r_getC F e_X10_indexes_36 fl_X10_59 h1 (f4768) ?_
      refine m_iload F rfl e_X10_indexes_39 ?_
      refine m_bipush F (v := 13) (by decide) e_X10_indexes_41 ?_
      refine m_iadd F e_X10_indexes_43 ?_
      refine Wm.topE (w := nI (160 * n901 + 13)) (nI_add (160 * n901) 13) ?_
      refine m_iload F rfl e_X10_indexes_44 ?_
      refine m_iadd F e_X10_indexes_46 ?_
      refine Wm.topE (w := nI ((160 * n901 + 13) + i)) (nI_add (160 * n901 + 13) i) ?_
      refine m_aload_n F rfl e_X10_indexes_47 ?_
      refine r_getC F e_X10_indexes_48 fl_X10_59 h1 (f4768) ?_
      refine m_iload F rfl e_X10_indexes_51 ?_
      refine m_bipush F (v := 85) (by decide) e_X10_indexes_53 ?_
      refine m_iadd F e_X10_indexes_55 ?_
      refine Wm.topE (w := nI (160 * n901 + 85)) (nI_add (160 * n901) 85) ?_
      refine m_iload F rfl e_X10_indexes_56 ?_
      refine m_iadd F e_X10_indexes_58 ?_
      refine Wm.topE (w := nI ((160 * n901 + 85) + i)) (nI_add (160 * n901 + 85) i) ?_
      refine r_sld F (j := (160 * n901 + 85) + i) e_X10_indexes_59 h1 (nI_clamp (by omega)) (vp_in_nI (by omega) (by decide)) (fun x4776 h4777 f4778 => ?_)
      refine m_lload_n F rfl e_X10_indexes_60 ?_
      refine m_lmul F e_X10_indexes_61 ?_
      refine Wm.topl (fun x4779 _ => ?_)
      refine m_aload_n F rfl e_X10_indexes_62 ?_
      refine r_getC F e_X10_indexes_63 fl_X10_59 h1 (f4768) ?_
      refine m_iload F rfl e_X10_indexes_66 ?_
      refine m_iconst F (v := 3) (by decide) e_X10_indexes_68 ?_
      refine m_iadd F e_X10_indexes_69 ?_
      refine Wm.topE (w := nI (160 * n901 + 3)) (nI_add (160 * n901) 3) ?_
      refine r_sld F (j := 160 * n901 + 3) e_X10_indexes_70 h1 (nI_clamp (by omega)) (vp_in_nI (by omega) (by decide)) (fun x4780 h4781 f4782 => ?_)
      have hl4783 := hob.2 n901 (by omega)
      obtain rfl : x4780 = lN (L n901).2.2.1 := (EJ_l (l := n901) (r := 3) (by omega) (by decide)).mp h4781
      refine m_ldiv F (lN_ne0 (by omega) (by omega)) e_X10_indexes_71 ?_
      refine Wm.topl (fun x4784 _ => ?_)
      refine r_sst F (g' := (⟨T, Z, u, h, P, L⟩ : RG)) (j := (160 * n901 + 13) + i) e_X10_indexes_72 h1 (by decide) (nI_clamp (by omega)) (vp_in_nI (by omega) (by decide)) (fun f q => EJ_same (EJ_lw (l := n901) (r := ((160 * n901 + 13) + i) - 160 * n901) (by omega) (by omega) (by omega)) q) (fun _ _ _ q => q) (fun σ4785 h4786 g4787 => ?_)
      refine m_iinc F (v := nI (i + 1)) (lv' := [(5, .int (nI (i + 1))), (4, .int (nI (160 * n901))), (0, .ref c), (1, .int (nI n901)), (2, .long (lN n902))]) e_X10_indexes_73 rfl (nI_add i 1) (by decide) rfl ?_
      refine m_goto F e_X10_indexes_76 ?_
      exact ih (i + 1) _ h4786 (by omega) (by omega)
set_option maxRecDepth 20000 in
theorem q_X10_indexes (l : Launch) (V : VX) (c T Z u h : Nat) (P : NP) (L : Nat → LQ) (N : Nat) (σ : Mem) (n901 : Nat) (n902 : Nat) (h0 : HR V c ⟨T, Z, u, h, P, L⟩ σ) (hob : OKB L) (hP : OKP P) (hn901 : n901 ≤ 3) (hn902 : n902 ≤ 2000) (hp0 : 1 ≤ (L n901).2.2.1) : Ct l V yX10_indexes cX10_indexes 6 none 0 0 0 N σ [.ref c, .int (nI n901), .long (lN n902)] (fun r τ => HS V c (⟨T, Z, u, h, P, L⟩ : RG) [0, 1, 2, 3, 4, 5, 6, 7, 8, 9, 10, 11, 12, 13, 14, 15, 16, 18, 19, 20, 21, 22, 23] σ τ ∧ r = none) := by
  refine Ct.of (by decide) (Nat.le_of_ble_eq_true rfl) [(0, .ref c), (1, .int (nI n901)), (2, .long (lN n902))] rfl (fun X hX F hQ => ?_)
  have hPP := hP
  unfold OKP at hPP
  have h1 : HS V c ⟨T, Z, u, h, P, L⟩ [0, 1, 2, 3, 4, 5, 6, 7, 8, 9, 10, 11, 12, 13, 14, 15, 16, 18, 19, 20, 21, 22, 23] σ σ := HS.start h0
  refine m_sipush F (v := 160) (by decide) e_X10_indexes_0 ?_
  refine m_iload_n F rfl e_X10_indexes_3 ?_
  refine m_imul F e_X10_indexes_4 ?_
  refine Wm.topE (w := nI (160 * n901)) (pk_mul 160 n901) ?_
  refine m_istore F (lv' := [(4, .int (nI (160 * n901))), (0, .ref c), (1, .int (nI n901)), (2, .long (lN n902))]) e_X10_indexes_5 (by decide) rfl ?_
  refine m_aload_n F rfl e_X10_indexes_7 ?_
  refine r_get F e_X10_indexes_8 fl_X10_59 h1 rfl (fun v hv f4788 => ?_)
  obtain rfl : v = .ref (c + 16) := hv
  refine m_iload F rfl e_X10_indexes_11 ?_
  refine m_iconst F (v := 5) (by decide) e_X10_indexes_13 ?_
  refine m_iadd F e_X10_indexes_14 ?_
  refine Wm.topE (w := nI (160 * n901 + 5)) (nI_add (160 * n901) 5) ?_
  refine r_sld F (j := 160 * n901 + 5) e_X10_indexes_15 h1 (nI_clamp (by omega)) (vp_in_nI (by omega) (by decide)) (fun x4789 h4790 f4791 => ?_)
  have hl4792 := hob.2 n901 (by omega)
  obtain rfl : x4789 = lN (L n901).2.2.2 := (EJ_l (l := n901) (r := 5) (by omega) (by decide)).mp h4790
  refine m_l2i F e_X10_indexes_16 ?_
  refine Wm.topE (w := nI ((L n901).2.2.2)) (lN_i ((L n901).2.2.2)) ?_
  refine m_istore F (lv' := [(5, .int (nI ((L n901).2.2.2))), (4, .int (nI (160 * n901))), (0, .ref c), (1, .int (nI n901)), (2, .long (lN n902))]) e_X10_indexes_17 (by decide) rfl ?_
  exact lq_X10_indexes_19 F hQ hob hP hn901 hn902 hp0 (72 - ((L n901).2.2.2) + 1) ((L n901).2.2.2) _ h1 (by omega) (Nat.lt_succ_self _)
set_option maxRecDepth 20000 in
theorem q_X10_pays (l : Launch) (V : VX) (c T Z u h : Nat) (P : NP) (L : Nat → LQ) (N : Nat) (σ : Mem) (n901 : Nat) (h0 : HR V c ⟨T, Z, u, h, P, L⟩ σ) (hok : OKL P.n0 L) (hP : OKP P) (hn901 : n901 ≤ 3) (hp0 : (L n901).1 = 1) : Ct l V yX10_pays cX10_pays 14 none 1 0 0 N σ [.ref c, .int (nI n901)] (fun r τ => ∃ L9, OKL P.n0 L9 ∧ (L9 4).1 = (L 4).1 ∧ HS V c (⟨T, Z, u, h, P, L9⟩ : RG) [0, 1, 2, 3, 4, 5, 6, 7, 8, 9, 10, 11, 12, 13, 14, 15, 16, 18, 19, 20, 21, 22] σ τ ∧ r = none) := by
  refine Ct.of (by decide) (Nat.le_of_ble_eq_true rfl) [(0, .ref c), (1, .int (nI n901))] rfl (fun X hX F hQ => ?_)
  have hPP := hP
  unfold OKP at hPP
  have h1 : HS V c ⟨T, Z, u, h, P, L⟩ [0, 1, 2, 3, 4, 5, 6, 7, 8, 9, 10, 11, 12, 13, 14, 15, 16, 18, 19, 20, 21, 22] σ σ := HS.start h0
  have hl := hok.2 n901 (by omega)
  refine m_sipush F (v := 160) (by decide) e_X10_pays_0 ?_
  refine m_iload_n F rfl e_X10_pays_3 ?_
  refine m_imul F e_X10_pays_4 ?_
  refine Wm.topE (w := nI (160 * n901)) (pk_mul 160 n901) ?_
  refine m_istore_n F (lv' := [(2, .int (nI (160 * n901))), (0, .ref c), (1, .int (nI n901))]) e_X10_pays_5 (by decide) rfl ?_
  refine m_aload_n F rfl e_X10_pays_6 ?_
  refine r_get F e_X10_pays_7 fl_X10_59 h1 rfl (fun v hv f4793 => ?_)
  obtain rfl : v = .ref (c + 16) := hv
  refine m_iload_n F rfl e_X10_pays_10 ?_
  refine m_bipush F (v := 13) (by decide) e_X10_pays_11 ?_
  refine m_iadd F e_X10_pays_13 ?_
  refine Wm.topE (w := nI (160 * n901 + 13)) (nI_add (160 * n901) 13) ?_
  refine m_aload_n F rfl e_X10_pays_14 ?_
  refine r_getC F e_X10_pays_15 fl_X10_59 h1 (f4793) ?_
  refine m_iload_n F rfl e_X10_pays_18 ?_
  refine m_iconst F (v := 5) (by decide) e_X10_pays_19 ?_
  refine m_iadd F e_X10_pays_20 ?_
  refine Wm.topE (w := nI (160 * n901 + 5)) (nI_add (160 * n901) 5) ?_
  refine r_sld F (j := 160 * n901 + 5) e_X10_pays_21 h1 (nI_clamp (by omega)) (vp_in_nI (by omega) (by decide)) (fun x4794 h4795 f4796 => ?_)
  have hl4797 := hok.2 n901 (by omega)
  obtain rfl : x4794 = lN (L n901).2.2.2 := (EJ_l (l := n901) (r := 5) (by omega) (by decide)).mp h4795
  refine m_l2i F e_X10_pays_22 ?_
  refine Wm.topE (w := nI ((L n901).2.2.2)) (lN_i ((L n901).2.2.2)) ?_
  refine m_iadd F e_X10_pays_23 ?_
  refine Wm.topE (w := nI ((160 * n901 + 13) + ((L n901).2.2.2))) (nI_add (160 * n901 + 13) ((L n901).2.2.2)) ?_
  refine r_sld F (j := (160 * n901 + 13) + ((L n901).2.2.2)) e_X10_pays_24 h1 (nI_clamp (by omega)) (vp_in_nI (by omega) (by decide)) (fun x4798 h4799 f4800 => ?_)
  refine m_lstore_n F (lv' := [(3, .long x4798), (2, .int (nI (160 * n901))), (0, .ref c), (1, .int (nI n901))]) e_X10_pays_25 (by decide) rfl ?_
  refine m_aload_n F rfl e_X10_pays_26 ?_
  refine r_getC F e_X10_pays_27 fl_X10_59 h1 (f4793) ?_
  refine m_iload_n F rfl e_X10_pays_30 ?_
  refine m_bipush F (v := 6) (by decide) e_X10_pays_31 ?_
  refine m_iadd F e_X10_pays_33 ?_
  refine Wm.topE (w := nI (160 * n901 + 6)) (nI_add (160 * n901) 6) ?_
  refine r_sld F (j := 160 * n901 + 6) e_X10_pays_34 h1 (nI_clamp (by omega)) (vp_in_nI (by omega) (by decide)) (fun x4801 h4802 f4803 => ?_)
  refine m_lstore F (lv' := [(5, .long x4801), (3, .long x4798), (2, .int (nI (160 * n901))), (0, .ref c), (1, .int (nI n901))]) e_X10_pays_35 (by decide) rfl ?_
  refine m_aload_n F rfl e_X10_pays_37 ?_
  refine m_iload_n F rfl e_X10_pays_38 ?_
  refine r_callV F e_X10_pays_39 (q_X10_leftOn (x_l X) V c T Z u h P L _ _ n901 h1.1 (hok.b) hP (by omega) (by first | omega | assumption | decide)) cb_X10_left ml_X10_257 im_X10_left se_X10_left h1 rfl rfl (rest := []) rfl (Nat.le_of_ble_eq_true rfl) ⟨Nat.le_of_ble_eq_true rfl, Nat.le_of_ble_eq_true rfl⟩ ⟨Nat.le_of_ble_eq_true rfl, Nat.le_of_ble_eq_true rfl⟩ (fun r σ4804 hp => ?_)
  obtain ⟨h4805, rfl⟩ := hp
  have h4806 := HS.trans h1 h4805 (by decide)
  refine m_iconst F (v := 1) (by decide) e_X10_pays_42 ?_
  refine m_icmp_ne F e_X10_pays_43 (fun q43 => ?_) (fun q43 => ?_)
  · have c43 : ((L n901).2.1 - (L n901).2.2.2) ≠ 1 := by have hh := mt (nI_eq (a := ((L n901).2.1 - (L n901).2.2.2)) (b := 1) (by omega) (by omega)).mpr q43; omega
    refine m_iconst F (v := 0) (by decide) e_X10_pays_50 ?_
    refine m_istore F (lv' := [(7, .int 0), (5, .long x4801), (3, .long x4798), (2, .int (nI (160 * n901))), (0, .ref c), (1, .int (nI n901))]) e_X10_pays_51 (by decide) rfl ?_
    refine m_aload_n F rfl e_X10_pays_53 ?_
    refine m_iload_n F rfl e_X10_pays_54 ?_
    refine r_callV F e_X10_pays_55 (q_X10_isEarly (x_l X) V c T Z u h P L _ _ n901 h4806.1 (hok.b) hP (by omega)) cb_X10_isEarly ml_X10_236 im_X10_isEarly se_X10_isEarly h4806 rfl rfl (rest := []) rfl (Nat.le_of_ble_eq_true rfl) ⟨Nat.le_of_ble_eq_true rfl, Nat.le_of_ble_eq_true rfl⟩ ⟨Nat.le_of_ble_eq_true rfl, Nat.le_of_ble_eq_true rfl⟩ (fun r σ4807 hp => ?_)
    obtain ⟨h4808, n4810, hn4810, rfl⟩ := hp
    have h4809 := HS.trans h4806 h4808 (by decide)
    refine m_if_eq F e_X10_pays_58 (fun q58 => ?_) (fun q58 => ?_)
    · have c58 : n4810 = 0 := (nI_eq (a := n4810) (b := 0) (by omega) (by omega)).mp q58
      refine m_lload F rfl e_X10_pays_112 ?_
      refine m_lload F rfl e_X10_pays_114 ?_
      refine m_aload_n F rfl e_X10_pays_116 ?_
      refine r_getC F e_X10_pays_117 fl_X10_59 h4809 ((fld_eq (h4808.2 c (by rw [show kC c c = 1 from kC_at (k := 0) (by decide)]; decide))).trans ((fld_eq (h4805.2 c (by rw [show kC c c = 1 from kC_at (k := 0) (by decide)]; decide))).trans f4793)) ?_
      refine m_iload_n F rfl e_X10_pays_120 ?_
      refine m_iconst F (v := 2) (by decide) e_X10_pays_121 ?_
      refine m_iadd F e_X10_pays_122 ?_
      refine Wm.topE (w := nI (160 * n901 + 2)) (nI_add (160 * n901) 2) ?_
      refine r_sld F (j := 160 * n901 + 2) e_X10_pays_123 h4809 (nI_clamp (by omega)) (vp_in_nI (by omega) (by decide)) (fun x4811 h4812 f4813 => ?_)
      obtain ⟨n4814, hn4814, rfl⟩ : ∃ n : Nat, n ≤ 1000000 ∧ x4811 = lN n := (EJ_l (l := n901) (r := 2) (by omega) (by decide)).mp h4812
      refine m_lmul F e_X10_pays_124 ?_
      refine Wm.topl (fun x4815 _ => ?_)
      refine m_ldc2 F kc_X10_239 e_X10_pays_125 ?_
      refine m_callS F e_X10_pays_128 (q_X10_rounded (x_l X) V _ _ x4815 1000000 (by omega) (by first | omega | assumption | decide)) cb_X10_rounded ml_X10_241 sm_X10_rounded rfl (rest := [.long x4801]) rfl (Nat.le_of_ble_eq_true rfl) ⟨Nat.le_of_ble_eq_true rfl, Nat.le_of_ble_eq_true rfl⟩ ⟨Nat.le_of_ble_eq_true rfl, Nat.le_of_ble_eq_true rfl⟩ (k' := 0) (z' := 0) (N' := N) rfl rfl rfl (fun r σ4816 hp => ?_)
      obtain ⟨rfl, x4819, rfl⟩ := hp
      refine m_ladd F e_X10_pays_131 ?_
      refine Wm.topl (fun x4820 _ => ?_)
      refine m_lstore F (lv' := [(10, .long x4820), (7, .int 0), (5, .long x4801), (3, .long x4798), (2, .int (nI (160 * n901))), (0, .ref c), (1, .int (nI n901))]) e_X10_pays_132 (by decide) rfl ?_
      refine m_iload F rfl e_X10_pays_134 ?_
      refine m_if_ne F e_X10_pays_136 (fun q => absurd (by decide) q) (fun _ => ?_)
      refine m_lload_n F rfl e_X10_pays_139 ?_
      refine m_lload F rfl e_X10_pays_140 ?_
      refine m_lcmp F e_X10_pays_142 ?_
      refine Wm.top (fun x4821 _ => ?_)
      refine m_if_le F e_X10_pays_143 (fun q143 => ?_) (fun q143 => ?_)
      · refine m_lload F rfl e_X10_pays_150 ?_
        refine m_lload_n F rfl e_X10_pays_152 ?_
        refine m_lsub F e_X10_pays_153 ?_
        refine Wm.topl (fun x4822 _ => ?_)
        refine m_lstore F (lv' := [(8, .long x4822), (10, .long x4820), (7, .int 0), (5, .long x4801), (3, .long x4798), (2, .int (nI (160 * n901))), (0, .ref c), (1, .int (nI n901))]) e_X10_pays_154 (by decide) rfl ?_
        refine m_lload F rfl e_X10_pays_156 ?_
        refine m_lload F rfl e_X10_pays_158 ?_
        refine m_lsub F e_X10_pays_160 ?_
        refine Wm.topl (fun x4823 _ => ?_)
        refine m_lload_n F rfl e_X10_pays_161 ?_
        refine m_ladd F e_X10_pays_162 ?_
        refine Wm.topl (fun x4824 _ => ?_)
        refine m_lstore F (lv' := [(10, .long x4824), (8, .long x4822), (7, .int 0), (5, .long x4801), (3, .long x4798), (2, .int (nI (160 * n901))), (0, .ref c), (1, .int (nI n901))]) e_X10_pays_163 (by decide) rfl ?_
        refine m_aload_n F rfl e_X10_pays_165 ?_
        refine r_getC F e_X10_pays_166 fl_X10_59 h4809 ((fld_eq (h4808.2 c (by rw [show kC c c = 1 from kC_at (k := 0) (by decide)]; decide))).trans ((fld_eq (h4805.2 c (by rw [show kC c c = 1 from kC_at (k := 0) (by decide)]; decide))).trans f4793)) ?_
        refine m_iload_n F rfl e_X10_pays_169 ?_
        refine m_bipush F (v := 7) (by decide) e_X10_pays_170 ?_
        refine m_iadd F e_X10_pays_172 ?_
        refine Wm.topE (w := nI (160 * n901 + 7)) (nI_add (160 * n901) 7) ?_
        refine r_sld F (j := 160 * n901 + 7) e_X10_pays_173 h4809 (nI_clamp (by omega)) (vp_in_nI (by omega) (by decide)) (fun x4825 h4826 f4827 => ?_)
        refine m_aload_n F rfl e_X10_pays_174 ?_
        refine m_iload_n F rfl e_X10_pays_175 ?_
        refine r_callV F e_X10_pays_176 (q_X10_leftOn (x_l X) V c T Z u h P L _ _ n901 h4809.1 (hok.b) hP (by omega) (by first | omega | assumption | decide)) cb_X10_left ml_X10_257 im_X10_left se_X10_left h4809 rfl rfl (rest := [.long x4825]) rfl (Nat.le_of_ble_eq_true rfl) ⟨Nat.le_of_ble_eq_true rfl, Nat.le_of_ble_eq_true rfl⟩ ⟨Nat.le_of_ble_eq_true rfl, Nat.le_of_ble_eq_true rfl⟩ (fun r σ4828 hp => ?_)
        obtain ⟨h4829, rfl⟩ := hp
        have h4830 := HS.trans h4809 h4829 (by decide)
        refine m_i2l F e_X10_pays_179 ?_
        refine Wm.toplE (w := lN ((L n901).2.1 - (L n901).2.2.2)) (nI_l (by omega)) ?_
        refine m_ldiv F (lN_ne0 (by omega) (by omega)) e_X10_pays_180 ?_
        refine Wm.topl (fun x4831 _ => ?_)
        refine m_lstore F (lv' := [(12, .long x4831), (10, .long x4824), (8, .long x4822), (7, .int 0), (5, .long x4801), (3, .long x4798), (2, .int (nI (160 * n901))), (0, .ref c), (1, .int (nI n901))]) e_X10_pays_181 (by decide) rfl ?_
        refine m_aload_n F rfl e_X10_pays_183 ?_
        refine r_getC F e_X10_pays_184 fl_X10_59 h4830 ((fld_eq (h4829.2 c (by rw [show kC c c = 1 from kC_at (k := 0) (by decide)]; decide))).trans ((fld_eq (h4808.2 c (by rw [show kC c c = 1 from kC_at (k := 0) (by decide)]; decide))).trans ((fld_eq (h4805.2 c (by rw [show kC c c = 1 from kC_at (k := 0) (by decide)]; decide))).trans f4793))) ?_
        refine m_iload_n F rfl e_X10_pays_187 ?_
        refine m_bipush F (v := 6) (by decide) e_X10_pays_188 ?_
        refine m_iadd F e_X10_pays_190 ?_
        refine Wm.topE (w := nI (160 * n901 + 6)) (nI_add (160 * n901) 6) ?_
        refine m_lload F rfl e_X10_pays_191 ?_
        refine r_sst F (g' := (⟨T, Z, u, h, P, L⟩ : RG)) (j := 160 * n901 + 6) e_X10_pays_193 h4830 (by decide) (nI_clamp (by omega)) (vp_in_nI (by omega) (by decide)) (fun f q => EJ_same (EJ_lw (l := n901) (r := 6) (by omega) (by omega) (by omega)) q) (fun _ _ _ q => q) (fun σ4832 h4833 g4834 => ?_)
        refine m_aload_n F rfl e_X10_pays_194 ?_
        refine r_getC F e_X10_pays_195 fl_X10_59 h4833 ((fld_eq (g4834 _ (by omega))).trans ((fld_eq (h4829.2 c (by rw [show kC c c = 1 from kC_at (k := 0) (by decide)]; decide))).trans ((fld_eq (h4808.2 c (by rw [show kC c c = 1 from kC_at (k := 0) (by decide)]; decide))).trans ((fld_eq (h4805.2 c (by rw [show kC c c = 1 from kC_at (k := 0) (by decide)]; decide))).trans f4793)))) ?_
        refine m_iload_n F rfl e_X10_pays_198 ?_
        refine m_bipush F (v := 7) (by decide) e_X10_pays_199 ?_
        refine m_iadd F e_X10_pays_201 ?_
        refine Wm.topE (w := nI (160 * n901 + 7)) (nI_add (160 * n901) 7) ?_
        refine m_dup2_11 F rfl rfl e_X10_pays_202 ?_
        refine r_sld F (j := 160 * n901 + 7) e_X10_pays_203 h4833 (nI_clamp (by omega)) (vp_in_nI (by omega) (by decide)) (fun x4835 h4836 f4837 => ?_)
        refine m_lload F rfl e_X10_pays_204 ?_
        refine m_lsub F e_X10_pays_206 ?_
        refine Wm.topl (fun x4838 _ => ?_)
        refine r_sst F (g' := (⟨T, Z, u, h, P, L⟩ : RG)) (j := 160 * n901 + 7) e_X10_pays_207 h4833 (by decide) (nI_clamp (by omega)) (vp_in_nI (by omega) (by decide)) (fun f q => EJ_same (EJ_lw (l := n901) (r := 7) (by omega) (by omega) (by omega)) q) (fun _ _ _ q => q) (fun σ4839 h4840 g4841 => ?_)
        refine m_aload_n F rfl e_X10_pays_208 ?_
        refine r_getC F e_X10_pays_209 fl_X10_59 h4840 ((fld_eq (g4841 _ (by omega))).trans ((fld_eq (g4834 _ (by omega))).trans ((fld_eq (h4829.2 c (by rw [show kC c c = 1 from kC_at (k := 0) (by decide)]; decide))).trans ((fld_eq (h4808.2 c (by rw [show kC c c = 1 from kC_at (k := 0) (by decide)]; decide))).trans ((fld_eq (h4805.2 c (by rw [show kC c c = 1 from kC_at (k := 0) (by decide)]; decide))).trans f4793))))) ?_
        refine m_iload_n F rfl e_X10_pays_212 ?_
        refine m_bipush F (v := 9) (by decide) e_X10_pays_213 ?_
        refine m_iadd F e_X10_pays_215 ?_
        refine Wm.topE (w := nI (160 * n901 + 9)) (nI_add (160 * n901) 9) ?_
        refine m_dup2_11 F rfl rfl e_X10_pays_216 ?_
        refine r_sld F (j := 160 * n901 + 9) e_X10_pays_217 h4840 (nI_clamp (by omega)) (vp_in_nI (by omega) (by decide)) (fun x4842 h4843 f4844 => ?_)
        refine m_lload F rfl e_X10_pays_218 ?_
        refine m_ladd F e_X10_pays_220 ?_
        refine Wm.topl (fun x4845 _ => ?_)
        refine r_sst F (g' := (⟨T, Z, u, h, P, L⟩ : RG)) (j := 160 * n901 + 9) e_X10_pays_221 h4840 (by decide) (nI_clamp (by omega)) (vp_in_nI (by omega) (by decide)) (fun f q => EJ_same (EJ_lw (l := n901) (r := 9) (by omega) (by omega) (by omega)) q) (fun _ _ _ q => q) (fun σ4846 h4847 g4848 => ?_)
        refine m_aload_n F rfl e_X10_pays_222 ?_
        refine r_getC F e_X10_pays_223 fl_X10_59 h4847 ((fld_eq (g4848 _ (by omega))).trans ((fld_eq (g4841 _ (by omega))).trans ((fld_eq (g4834 _ (by omega))).trans ((fld_eq (h4829.2 c (by rw [show kC c c = 1 from kC_at (k := 0) (by decide)]; decide))).trans ((fld_eq (h4808.2 c (by rw [show kC c c = 1 from kC_at (k := 0) (by decide)]; decide))).trans ((fld_eq (h4805.2 c (by rw [show kC c c = 1 from kC_at (k := 0) (by decide)]; decide))).trans f4793)))))) ?_
        refine m_iload_n F rfl e_X10_pays_226 ?_
        refine m_bipush F (v := 10) (by decide) e_X10_pays_227 ?_
        refine m_iadd F e_X10_pays_229 ?_
        refine Wm.topE (w := nI (160 * n901 + 10)) (nI_add (160 * n901) 10) ?_
        refine m_dup2_11 F rfl rfl e_X10_pays_230 ?_
        refine r_sld F (j := 160 * n901 + 10) e_X10_pays_231 h4847 (nI_clamp (by omega)) (vp_in_nI (by omega) (by decide)) (fun x4849 h4850 f4851 => ?_)
        refine m_lload_n F rfl e_X10_pays_232 ?_
        refine m_ladd F e_X10_pays_233 ?_
        refine Wm.topl (fun x4852 _ => ?_)
        refine r_sst F (g' := (⟨T, Z, u, h, P, L⟩ : RG)) (j := 160 * n901 + 10) e_X10_pays_234 h4847 (by decide) (nI_clamp (by omega)) (vp_in_nI (by omega) (by decide)) (fun f q => EJ_same (EJ_lw (l := n901) (r := 10) (by omega) (by omega) (by omega)) q) (fun _ _ _ q => q) (fun σ4853 h4854 g4855 => ?_)
        refine m_aload_n F rfl e_X10_pays_235 ?_
        refine r_getC F e_X10_pays_236 fl_X10_59 h4854 ((fld_eq (g4855 _ (by omega))).trans ((fld_eq (g4848 _ (by omega))).trans ((fld_eq (g4841 _ (by omega))).trans ((fld_eq (g4834 _ (by omega))).trans ((fld_eq (h4829.2 c (by rw [show kC c c = 1 from kC_at (k := 0) (by decide)]; decide))).trans ((fld_eq (h4808.2 c (by rw [show kC c c = 1 from kC_at (k := 0) (by decide)]; decide))).trans ((fld_eq (h4805.2 c (by rw [show kC c c = 1 from kC_at (k := 0) (by decide)]; decide))).trans f4793))))))) ?_
        refine m_iload_n F rfl e_X10_pays_239 ?_
        refine m_iconst F (v := 5) (by decide) e_X10_pays_240 ?_
        refine m_iadd F e_X10_pays_241 ?_
        refine Wm.topE (w := nI (160 * n901 + 5)) (nI_add (160 * n901) 5) ?_
        refine m_dup2_11 F rfl rfl e_X10_pays_242 ?_
        refine r_sld F (j := 160 * n901 + 5) e_X10_pays_243 h4854 (nI_clamp (by omega)) (vp_in_nI (by omega) (by decide)) (fun x4856 h4857 f4858 => ?_)
        have hl4859 := hok.2 n901 (by omega)
        obtain rfl : x4856 = lN (L n901).2.2.2 := (EJ_l (l := n901) (r := 5) (by omega) (by decide)).mp h4857
        refine m_lconst F (v := 1) (by decide) e_X10_pays_244 ?_
        refine m_ladd F e_X10_pays_245 ?_
        refine Wm.toplE (w := lN ((L n901).2.2.2 + 1)) (lN_add ((L n901).2.2.2) 1) ?_
        refine r_sst F (g' := (⟨T, Z, u, h, P, (updL L n901 ((L n901).1, (L n901).2.1, (L n901).2.2.1, (L n901).2.2.2 + 1))⟩ : RG)) (j := 160 * n901 + 5) e_X10_pays_246 h4854 (by decide) (nI_clamp (by omega)) (vp_in_nI (by omega) (by decide)) (fun f q => EJ_up (l := n901) (r := 5) (by omega) (by decide) q rfl (by intro r' h1 h2 y hy; revert hy; unfold EL; split <;> simp_all)) CR.row (fun σ4860 h4861 g4862 => ?_)
        obtain ⟨L4863, eL4863⟩ : ∃ L9, L9 = (updL L n901 ((L n901).1, (L n901).2.1, (L n901).2.2.1, (L n901).2.2.2 + 1)) := ⟨_, rfl⟩
        rw [← eL4863] at h4861
        have fL4863 : L4863 n901 = ((L n901).1, (L n901).2.1, (L n901).2.2.1, (L n901).2.2.2 + 1) := by rw [eL4863]; exact if_pos rfl
        have fL48630 : (L4863 n901).1 = (L n901).1 := by rw [fL4863]
        have fL48631 : (L4863 n901).2.1 = (L n901).2.1 := by rw [fL4863]
        have fL48632 : (L4863 n901).2.2.1 = (L n901).2.2.1 := by rw [fL4863]
        have fL48633 : (L4863 n901).2.2.2 = (L n901).2.2.2 + 1 := by rw [fL4863]
        have oL4863 : ∀ i, i ≠ n901 → L4863 i = L i := fun i hi => by rw [eL4863]; exact if_neg hi
        have pL4863 : (L4863 4).1 = (L 4).1 := by rw [oL4863 4 (by omega)]
        refine m_aload_n F rfl e_X10_pays_247 ?_
        refine m_iconst F (v := 1) (by decide) e_X10_pays_248 ?_
        refine m_iload_n F rfl e_X10_pays_249 ?_
        refine m_lload_n F rfl e_X10_pays_250 ?_
        refine m_lneg F e_X10_pays_251 ?_
        refine Wm.topl (fun x4864 _ => ?_)
        refine m_lload F rfl e_X10_pays_252 ?_
        refine m_lload F rfl e_X10_pays_254 ?_
        refine m_lsub F e_X10_pays_256 ?_
        refine Wm.topl (fun x4865 _ => ?_)
        refine m_lload F rfl e_X10_pays_257 ?_
        refine m_lneg F e_X10_pays_259 ?_
        refine Wm.topl (fun x4866 _ => ?_)
        refine m_lload F rfl e_X10_pays_260 ?_
        refine m_lload F rfl e_X10_pays_262 ?_
        refine m_lconst F (v := 0) (by decide) e_X10_pays_264 ?_
        have okb4870 : OKB L4863 := OKB.upd (hok.b) (l := n901) (by omega) (fun i hi => (oL4863 i hi)) (by have h9 := (hok.b).2 n901 (by omega); omega)
        refine r_callV F e_X10_pays_265 (q_X10_entry (x_l X) V c T Z u h P L4863 _ _ 1 (nI n901) x4864 x4865 x4866 x4824 x4831 0 h4861.1 (okb4870) hP ) cb_X10_entry ml_X10_253 im_X10_entry se_X10_entry h4861 rfl rfl (rest := []) rfl (Nat.le_of_ble_eq_true rfl) ⟨Nat.le_of_ble_eq_true rfl, Nat.le_of_ble_eq_true rfl⟩ ⟨Nat.le_of_ble_eq_true rfl, Nat.le_of_ble_eq_true rfl⟩ (fun r σ4867 hp => ?_)
        obtain ⟨h4868, rfl⟩ := hp
        have h4869 := HS.trans h4861 h4868 (by decide)
        refine m_iload F rfl e_X10_pays_268 ?_
        refine m_if_eq F e_X10_pays_270 (fun _ => ?_) (fun q => absurd (by decide) q)
        have ok4871 : OKL P.n0 L4863 := OKL.upd hok (l := n901) (by omega) (fun i hi => (oL4863 i hi)) (by have h9 := hok.2 n901 (by omega); omega)
        exact m_vret F hQ e_X10_pays_284 (⟨L4863, ok4871, (by first | omega | rfl | assumption), h4869, rfl⟩)
      · obtain ⟨n4872, hn4872, rfl⟩ := nI_nn (x := x4821) (fun e => q143 (Int32.le_trans (Int32.le_of_lt e) (by decide)))
        have c143 : n4872 > 0 := by have hh := mt (nI_leI (a := n4872) (b := 0) (by omega) (by omega)).mpr q143; omega
        refine m_lconst F (v := 0) (by decide) e_X10_pays_146 ?_
        refine m_goto F e_X10_pays_147 ?_
        refine m_lstore F (lv' := [(8, .long 0), (10, .long x4820), (7, .int 0), (5, .long x4801), (3, .long x4798), (2, .int (nI (160 * n901))), (0, .ref c), (1, .int (nI n901))]) e_X10_pays_154 (by decide) rfl ?_
        refine m_lload F rfl e_X10_pays_156 ?_
        refine m_lload F rfl e_X10_pays_158 ?_
        refine m_lsub F e_X10_pays_160 ?_
        refine Wm.topl (fun x4873 _ => ?_)
        refine m_lload_n F rfl e_X10_pays_161 ?_
        refine m_ladd F e_X10_pays_162 ?_
        refine Wm.topl (fun x4874 _ => ?_)
        refine m_lstore F (lv' := [(10, .long x4874), (8, .long 0), (7, .int 0), (5, .long x4801), (3, .long x4798), (2, .int (nI (160 * n901))), (0, .ref c), (1, .int (nI n901))]) e_X10_pays_163 (by decide) rfl ?_
        refine m_aload_n F rfl e_X10_pays_165 ?_
        refine r_getC F e_X10_pays_166 fl_X10_59 h4809 ((fld_eq (h4808.2 c (by rw [show kC c c = 1 from kC_at (k := 0) (by decide)]; decide))).trans ((fld_eq (h4805.2 c (by rw [show kC c c = 1 from kC_at (k := 0) (by decide)]; decide))).trans f4793)) ?_
        refine m_iload_n F rfl e_X10_pays_169 ?_
        refine m_bipush F (v := 7) (by decide) e_X10_pays_170 ?_
        refine m_iadd F e_X10_pays_172 ?_
        refine Wm.topE (w := nI (160 * n901 + 7)) (nI_add (160 * n901) 7) ?_
        refine r_sld F (j := 160 * n901 + 7) e_X10_pays_173 h4809 (nI_clamp (by omega)) (vp_in_nI (by omega) (by decide)) (fun x4875 h4876 f4877 => ?_)
        refine m_aload_n F rfl e_X10_pays_174 ?_
        refine m_iload_n F rfl e_X10_pays_175 ?_
        refine r_callV F e_X10_pays_176 (q_X10_leftOn (x_l X) V c T Z u h P L _ _ n901 h4809.1 (hok.b) hP (by omega) (by first | omega | assumption | decide)) cb_X10_left ml_X10_257 im_X10_left se_X10_left h4809 rfl rfl (rest := [.long x4875]) rfl (Nat.le_of_ble_eq_true rfl) ⟨Nat.le_of_ble_eq_true rfl, Nat.le_of_ble_eq_true rfl⟩ ⟨Nat.le_of_ble_eq_true rfl, Nat.le_of_ble_eq_true rfl⟩ (fun r σ4878 hp => ?_)
        obtain ⟨h4879, rfl⟩ := hp
        have h4880 := HS.trans h4809 h4879 (by decide)
        refine m_i2l F e_X10_pays_179 ?_
        refine Wm.toplE (w := lN ((L n901).2.1 - (L n901).2.2.2)) (nI_l (by omega)) ?_
        refine m_ldiv F (lN_ne0 (by omega) (by omega)) e_X10_pays_180 ?_
        refine Wm.topl (fun x4881 _ => ?_)
        refine m_lstore F (lv' := [(12, .long x4881), (10, .long x4874), (8, .long 0), (7, .int 0), (5, .long x4801), (3, .long x4798), (2, .int (nI (160 * n901))), (0, .ref c), (1, .int (nI n901))]) e_X10_pays_181 (by decide) rfl ?_
        refine m_aload_n F rfl e_X10_pays_183 ?_
        refine r_getC F e_X10_pays_184 fl_X10_59 h4880 ((fld_eq (h4879.2 c (by rw [show kC c c = 1 from kC_at (k := 0) (by decide)]; decide))).trans ((fld_eq (h4808.2 c (by rw [show kC c c = 1 from kC_at (k := 0) (by decide)]; decide))).trans ((fld_eq (h4805.2 c (by rw [show kC c c = 1 from kC_at (k := 0) (by decide)]; decide))).trans f4793))) ?_
        refine m_iload_n F rfl e_X10_pays_187 ?_
        refine m_bipush F (v := 6) (by decide) e_X10_pays_188 ?_
        refine m_iadd F e_X10_pays_190 ?_
        refine Wm.topE (w := nI (160 * n901 + 6)) (nI_add (160 * n901) 6) ?_
        refine m_lload F rfl e_X10_pays_191 ?_
        refine r_sst F (g' := (⟨T, Z, u, h, P, L⟩ : RG)) (j := 160 * n901 + 6) e_X10_pays_193 h4880 (by decide) (nI_clamp (by omega)) (vp_in_nI (by omega) (by decide)) (fun f q => EJ_same (EJ_lw (l := n901) (r := 6) (by omega) (by omega) (by omega)) q) (fun _ _ _ q => q) (fun σ4882 h4883 g4884 => ?_)
        refine m_aload_n F rfl e_X10_pays_194 ?_
        refine r_getC F e_X10_pays_195 fl_X10_59 h4883 ((fld_eq (g4884 _ (by omega))).trans ((fld_eq (h4879.2 c (by rw [show kC c c = 1 from kC_at (k := 0) (by decide)]; decide))).trans ((fld_eq (h4808.2 c (by rw [show kC c c = 1 from kC_at (k := 0) (by decide)]; decide))).trans ((fld_eq (h4805.2 c (by rw [show kC c c = 1 from kC_at (k := 0) (by decide)]; decide))).trans f4793)))) ?_
        refine m_iload_n F rfl e_X10_pays_198 ?_
        refine m_bipush F (v := 7) (by decide) e_X10_pays_199 ?_
        refine m_iadd F e_X10_pays_201 ?_
        refine Wm.topE (w := nI (160 * n901 + 7)) (nI_add (160 * n901) 7) ?_
        refine m_dup2_11 F rfl rfl e_X10_pays_202 ?_
        refine r_sld F (j := 160 * n901 + 7) e_X10_pays_203 h4883 (nI_clamp (by omega)) (vp_in_nI (by omega) (by decide)) (fun x4885 h4886 f4887 => ?_)
        refine m_lload F rfl e_X10_pays_204 ?_
        refine m_lsub F e_X10_pays_206 ?_
        refine Wm.topl (fun x4888 _ => ?_)
        refine r_sst F (g' := (⟨T, Z, u, h, P, L⟩ : RG)) (j := 160 * n901 + 7) e_X10_pays_207 h4883 (by decide) (nI_clamp (by omega)) (vp_in_nI (by omega) (by decide)) (fun f q => EJ_same (EJ_lw (l := n901) (r := 7) (by omega) (by omega) (by omega)) q) (fun _ _ _ q => q) (fun σ4889 h4890 g4891 => ?_)
        refine m_aload_n F rfl e_X10_pays_208 ?_
        refine r_getC F e_X10_pays_209 fl_X10_59 h4890 ((fld_eq (g4891 _ (by omega))).trans ((fld_eq (g4884 _ (by omega))).trans ((fld_eq (h4879.2 c (by rw [show kC c c = 1 from kC_at (k := 0) (by decide)]; decide))).trans ((fld_eq (h4808.2 c (by rw [show kC c c = 1 from kC_at (k := 0) (by decide)]; decide))).trans ((fld_eq (h4805.2 c (by rw [show kC c c = 1 from kC_at (k := 0) (by decide)]; decide))).trans f4793))))) ?_
        refine m_iload_n F rfl e_X10_pays_212 ?_
        refine m_bipush F (v := 9) (by decide) e_X10_pays_213 ?_
        refine m_iadd F e_X10_pays_215 ?_
        refine Wm.topE (w := nI (160 * n901 + 9)) (nI_add (160 * n901) 9) ?_
        refine m_dup2_11 F rfl rfl e_X10_pays_216 ?_
        refine r_sld F (j := 160 * n901 + 9) e_X10_pays_217 h4890 (nI_clamp (by omega)) (vp_in_nI (by omega) (by decide)) (fun x4892 h4893 f4894 => ?_)
        refine m_lload F rfl e_X10_pays_218 ?_
        refine m_ladd F e_X10_pays_220 ?_
        refine Wm.topl (fun x4895 _ => ?_)
        refine r_sst F (g' := (⟨T, Z, u, h, P, L⟩ : RG)) (j := 160 * n901 + 9) e_X10_pays_221 h4890 (by decide) (nI_clamp (by omega)) (vp_in_nI (by omega) (by decide)) (fun f q => EJ_same (EJ_lw (l := n901) (r := 9) (by omega) (by omega) (by omega)) q) (fun _ _ _ q => q) (fun σ4896 h4897 g4898 => ?_)
        refine m_aload_n F rfl e_X10_pays_222 ?_
        refine r_getC F e_X10_pays_223 fl_X10_59 h4897 ((fld_eq (g4898 _ (by omega))).trans ((fld_eq (g4891 _ (by omega))).trans ((fld_eq (g4884 _ (by omega))).trans ((fld_eq (h4879.2 c (by rw [show kC c c = 1 from kC_at (k := 0) (by decide)]; decide))).trans ((fld_eq (h4808.2 c (by rw [show kC c c = 1 from kC_at (k := 0) (by decide)]; decide))).trans ((fld_eq (h4805.2 c (by rw [show kC c c = 1 from kC_at (k := 0) (by decide)]; decide))).trans f4793)))))) ?_
        refine m_iload_n F rfl e_X10_pays_226 ?_
        refine m_bipush F (v := 10) (by decide) e_X10_pays_227 ?_
        refine m_iadd F e_X10_pays_229 ?_
        refine Wm.topE (w := nI (160 * n901 + 10)) (nI_add (160 * n901) 10) ?_
        refine m_dup2_11 F rfl rfl e_X10_pays_230 ?_
        refine r_sld F (j := 160 * n901 + 10) e_X10_pays_231 h4897 (nI_clamp (by omega)) (vp_in_nI (by omega) (by decide)) (fun x4899 h4900 f4901 => ?_)
        refine m_lload_n F rfl e_X10_pays_232 ?_
        refine m_ladd F e_X10_pays_233 ?_
        refine Wm.topl (fun x4902 _ => ?_)
        refine r_sst F (g' := (⟨T, Z, u, h, P, L⟩ : RG)) (j := 160 * n901 + 10) e_X10_pays_234 h4897 (by decide) (nI_clamp (by omega)) (vp_in_nI (by omega) (by decide)) (fun f q => EJ_same (EJ_lw (l := n901) (r := 10) (by omega) (by omega) (by omega)) q) (fun _ _ _ q => q) (fun σ4903 h4904 g4905 => ?_)
        refine m_aload_n F rfl e_X10_pays_235 ?_
        refine r_getC F e_X10_pays_236 fl_X10_59 h4904 ((fld_eq (g4905 _ (by omega))).trans ((fld_eq (g4898 _ (by omega))).trans ((fld_eq (g4891 _ (by omega))).trans ((fld_eq (g4884 _ (by omega))).trans ((fld_eq (h4879.2 c (by rw [show kC c c = 1 from kC_at (k := 0) (by decide)]; decide))).trans ((fld_eq (h4808.2 c (by rw [show kC c c = 1 from kC_at (k := 0) (by decide)]; decide))).trans ((fld_eq (h4805.2 c (by rw [show kC c c = 1 from kC_at (k := 0) (by decide)]; decide))).trans f4793))))))) ?_
        refine m_iload_n F rfl e_X10_pays_239 ?_
        refine m_iconst F (v := 5) (by decide) e_X10_pays_240 ?_
        refine m_iadd F e_X10_pays_241 ?_
        refine Wm.topE (w := nI (160 * n901 + 5)) (nI_add (160 * n901) 5) ?_
        refine m_dup2_11 F rfl rfl e_X10_pays_242 ?_
        refine r_sld F (j := 160 * n901 + 5) e_X10_pays_243 h4904 (nI_clamp (by omega)) (vp_in_nI (by omega) (by decide)) (fun x4906 h4907 f4908 => ?_)
        have hl4909 := hok.2 n901 (by omega)
        obtain rfl : x4906 = lN (L n901).2.2.2 := (EJ_l (l := n901) (r := 5) (by omega) (by decide)).mp h4907
        refine m_lconst F (v := 1) (by decide) e_X10_pays_244 ?_
        refine m_ladd F e_X10_pays_245 ?_
        refine Wm.toplE (w := lN ((L n901).2.2.2 + 1)) (lN_add ((L n901).2.2.2) 1) ?_
        refine r_sst F (g' := (⟨T, Z, u, h, P, (updL L n901 ((L n901).1, (L n901).2.1, (L n901).2.2.1, (L n901).2.2.2 + 1))⟩ : RG)) (j := 160 * n901 + 5) e_X10_pays_246 h4904 (by decide) (nI_clamp (by omega)) (vp_in_nI (by omega) (by decide)) (fun f q => EJ_up (l := n901) (r := 5) (by omega) (by decide) q rfl (by intro r' h1 h2 y hy; revert hy; unfold EL; split <;> simp_all)) CR.row (fun σ4910 h4911 g4912 => ?_)
        obtain ⟨L4913, eL4913⟩ : ∃ L9, L9 = (updL L n901 ((L n901).1, (L n901).2.1, (L n901).2.2.1, (L n901).2.2.2 + 1)) := ⟨_, rfl⟩
        rw [← eL4913] at h4911
        have fL4913 : L4913 n901 = ((L n901).1, (L n901).2.1, (L n901).2.2.1, (L n901).2.2.2 + 1) := by rw [eL4913]; exact if_pos rfl
        have fL49130 : (L4913 n901).1 = (L n901).1 := by rw [fL4913]
        have fL49131 : (L4913 n901).2.1 = (L n901).2.1 := by rw [fL4913]
        have fL49132 : (L4913 n901).2.2.1 = (L n901).2.2.1 := by rw [fL4913]
        have fL49133 : (L4913 n901).2.2.2 = (L n901).2.2.2 + 1 := by rw [fL4913]
        have oL4913 : ∀ i, i ≠ n901 → L4913 i = L i := fun i hi => by rw [eL4913]; exact if_neg hi
        have pL4913 : (L4913 4).1 = (L 4).1 := by rw [oL4913 4 (by omega)]
        refine m_aload_n F rfl e_X10_pays_247 ?_
        refine m_iconst F (v := 1) (by decide) e_X10_pays_248 ?_
        refine m_iload_n F rfl e_X10_pays_249 ?_
        refine m_lload_n F rfl e_X10_pays_250 ?_
        refine m_lneg F e_X10_pays_251 ?_
        refine Wm.topl (fun x4914 _ => ?_)
        refine m_lload F rfl e_X10_pays_252 ?_
        refine m_lload F rfl e_X10_pays_254 ?_
        refine m_lsub F e_X10_pays_256 ?_
        refine Wm.topl (fun x4915 _ => ?_)
        refine m_lload F rfl e_X10_pays_257 ?_
        refine m_lneg F e_X10_pays_259 ?_
        refine Wm.topl (fun x4916 _ => ?_)
        refine m_lload F rfl e_X10_pays_260 ?_
        refine m_lload F rfl e_X10_pays_262 ?_
        refine m_lconst F (v := 0) (by decide) e_X10_pays_264 ?_
        have okb4920 : OKB L4913 := OKB.upd (hok.b) (l := n901) (by omega) (fun i hi => (oL4913 i hi)) (by have h9 := (hok.b).2 n901 (by omega); omega)
        refine r_callV F e_X10_pays_265 (q_X10_entry (x_l X) V c T Z u h P L4913 _ _ 1 (nI n901) x4914 x4915 x4916 x4874 x4881 0 h4911.1 (okb4920) hP ) cb_X10_entry ml_X10_253 im_X10_entry se_X10_entry h4911 rfl rfl (rest := []) rfl (Nat.le_of_ble_eq_true rfl) ⟨Nat.le_of_ble_eq_true rfl, Nat.le_of_ble_eq_true rfl⟩ ⟨Nat.le_of_ble_eq_true rfl, Nat.le_of_ble_eq_true rfl⟩ (fun r σ4917 hp => ?_)
        obtain ⟨h4918, rfl⟩ := hp
        have h4919 := HS.trans h4911 h4918 (by decide)
        refine m_iload F rfl e_X10_pays_268 ?_
        refine m_if_eq F e_X10_pays_270 (fun _ => ?_) (fun q => absurd (by decide) q)
        have ok4921 : OKL P.n0 L4913 := OKL.upd hok (l := n901) (by omega) (fun i hi => (oL4913 i hi)) (by have h9 := hok.2 n901 (by omega); omega)
        exact m_vret F hQ e_X10_pays_284 (⟨L4913, ok4921, (by first | omega | rfl | assumption), h4919, rfl⟩)
    · have c58 : n4810 ≠ 0 := by have hh := mt (nI_eq (a := n4810) (b := 0) (by omega) (by omega)).mpr q58; omega
      refine m_lload F rfl e_X10_pays_61 ?_
      refine m_lload_n F rfl e_X10_pays_63 ?_
      refine m_lcmp F e_X10_pays_64 ?_
      refine Wm.top (fun x4922 _ => ?_)
      refine m_if_le F e_X10_pays_65 (fun q65 => ?_) (fun q65 => ?_)
      · refine m_lconst F (v := 0) (by decide) e_X10_pays_75 ?_
        refine m_lstore F (lv' := [(10, .long 0), (7, .int 0), (5, .long x4801), (3, .long x4798), (2, .int (nI (160 * n901))), (0, .ref c), (1, .int (nI n901))]) e_X10_pays_76 (by decide) rfl ?_
        refine m_iload F rfl e_X10_pays_78 ?_
        refine m_if_eq F e_X10_pays_80 (fun _ => ?_) (fun q => absurd (by decide) q)
        refine m_lload F rfl e_X10_pays_87 ?_
        refine m_lload F rfl e_X10_pays_89 ?_
        refine m_aload_n F rfl e_X10_pays_91 ?_
        refine r_getC F e_X10_pays_92 fl_X10_59 h4809 ((fld_eq (h4808.2 c (by rw [show kC c c = 1 from kC_at (k := 0) (by decide)]; decide))).trans ((fld_eq (h4805.2 c (by rw [show kC c c = 1 from kC_at (k := 0) (by decide)]; decide))).trans f4793)) ?_
        refine m_iload_n F rfl e_X10_pays_95 ?_
        refine m_iconst F (v := 2) (by decide) e_X10_pays_96 ?_
        refine m_iadd F e_X10_pays_97 ?_
        refine Wm.topE (w := nI (160 * n901 + 2)) (nI_add (160 * n901) 2) ?_
        refine r_sld F (j := 160 * n901 + 2) e_X10_pays_98 h4809 (nI_clamp (by omega)) (vp_in_nI (by omega) (by decide)) (fun x4923 h4924 f4925 => ?_)
        obtain ⟨n4926, hn4926, rfl⟩ : ∃ n : Nat, n ≤ 1000000 ∧ x4923 = lN n := (EJ_l (l := n901) (r := 2) (by omega) (by decide)).mp h4924
        refine m_lmul F e_X10_pays_99 ?_
        refine Wm.topl (fun x4927 _ => ?_)
        refine m_ldc2 F kc_X10_239 e_X10_pays_100 ?_
        refine m_callS F e_X10_pays_103 (q_X10_rounded (x_l X) V _ _ x4927 1000000 (by omega) (by first | omega | assumption | decide)) cb_X10_rounded ml_X10_241 sm_X10_rounded rfl (rest := [.long 0]) rfl (Nat.le_of_ble_eq_true rfl) ⟨Nat.le_of_ble_eq_true rfl, Nat.le_of_ble_eq_true rfl⟩ ⟨Nat.le_of_ble_eq_true rfl, Nat.le_of_ble_eq_true rfl⟩ (k' := 0) (z' := 0) (N' := N) rfl rfl rfl (fun r σ4928 hp => ?_)
        obtain ⟨rfl, x4931, rfl⟩ := hp
        refine m_ladd F e_X10_pays_106 ?_
        refine Wm.topl (fun x4932 _ => ?_)
        refine m_lstore F (lv' := [(8, .long x4932), (10, .long 0), (7, .int 0), (5, .long x4801), (3, .long x4798), (2, .int (nI (160 * n901))), (0, .ref c), (1, .int (nI n901))]) e_X10_pays_107 (by decide) rfl ?_
        refine m_goto F e_X10_pays_109 ?_
        refine m_lload F rfl e_X10_pays_156 ?_
        refine m_lload F rfl e_X10_pays_158 ?_
        refine m_lsub F e_X10_pays_160 ?_
        refine Wm.topl (fun x4933 _ => ?_)
        refine m_lload_n F rfl e_X10_pays_161 ?_
        refine m_ladd F e_X10_pays_162 ?_
        refine Wm.topl (fun x4934 _ => ?_)
        refine m_lstore F (lv' := [(10, .long x4934), (8, .long x4932), (7, .int 0), (5, .long x4801), (3, .long x4798), (2, .int (nI (160 * n901))), (0, .ref c), (1, .int (nI n901))]) e_X10_pays_163 (by decide) rfl ?_
        refine m_aload_n F rfl e_X10_pays_165 ?_
        refine r_getC F e_X10_pays_166 fl_X10_59 h4809 ((fld_eq (h4808.2 c (by rw [show kC c c = 1 from kC_at (k := 0) (by decide)]; decide))).trans ((fld_eq (h4805.2 c (by rw [show kC c c = 1 from kC_at (k := 0) (by decide)]; decide))).trans f4793)) ?_
        refine m_iload_n F rfl e_X10_pays_169 ?_
        refine m_bipush F (v := 7) (by decide) e_X10_pays_170 ?_
        refine m_iadd F e_X10_pays_172 ?_
        refine Wm.topE (w := nI (160 * n901 + 7)) (nI_add (160 * n901) 7) ?_
        refine r_sld F (j := 160 * n901 + 7) e_X10_pays_173 h4809 (nI_clamp (by omega)) (vp_in_nI (by omega) (by decide)) (fun x4935 h4936 f4937 => ?_)
        refine m_aload_n F rfl e_X10_pays_174 ?_
        refine m_iload_n F rfl e_X10_pays_175 ?_
        refine r_callV F e_X10_pays_176 (q_X10_leftOn (x_l X) V c T Z u h P L _ _ n901 h4809.1 (hok.b) hP (by omega) (by first | omega | assumption | decide)) cb_X10_left ml_X10_257 im_X10_left se_X10_left h4809 rfl rfl (rest := [.long x4935]) rfl (Nat.le_of_ble_eq_true rfl) ⟨Nat.le_of_ble_eq_true rfl, Nat.le_of_ble_eq_true rfl⟩ ⟨Nat.le_of_ble_eq_true rfl, Nat.le_of_ble_eq_true rfl⟩ (fun r σ4938 hp => ?_)
        obtain ⟨h4939, rfl⟩ := hp
        have h4940 := HS.trans h4809 h4939 (by decide)
        refine m_i2l F e_X10_pays_179 ?_
        refine Wm.toplE (w := lN ((L n901).2.1 - (L n901).2.2.2)) (nI_l (by omega)) ?_
        refine m_ldiv F (lN_ne0 (by omega) (by omega)) e_X10_pays_180 ?_
        refine Wm.topl (fun x4941 _ => ?_)
        refine m_lstore F (lv' := [(12, .long x4941), (10, .long x4934), (8, .long x4932), (7, .int 0), (5, .long x4801), (3, .long x4798), (2, .int (nI (160 * n901))), (0, .ref c), (1, .int (nI n901))]) e_X10_pays_181 (by decide) rfl ?_
        refine m_aload_n F rfl e_X10_pays_183 ?_
        refine r_getC F e_X10_pays_184 fl_X10_59 h4940 ((fld_eq (h4939.2 c (by rw [show kC c c = 1 from kC_at (k := 0) (by decide)]; decide))).trans ((fld_eq (h4808.2 c (by rw [show kC c c = 1 from kC_at (k := 0) (by decide)]; decide))).trans ((fld_eq (h4805.2 c (by rw [show kC c c = 1 from kC_at (k := 0) (by decide)]; decide))).trans f4793))) ?_
        refine m_iload_n F rfl e_X10_pays_187 ?_
        refine m_bipush F (v := 6) (by decide) e_X10_pays_188 ?_
        refine m_iadd F e_X10_pays_190 ?_
        refine Wm.topE (w := nI (160 * n901 + 6)) (nI_add (160 * n901) 6) ?_
        refine m_lload F rfl e_X10_pays_191 ?_
        refine r_sst F (g' := (⟨T, Z, u, h, P, L⟩ : RG)) (j := 160 * n901 + 6) e_X10_pays_193 h4940 (by decide) (nI_clamp (by omega)) (vp_in_nI (by omega) (by decide)) (fun f q => EJ_same (EJ_lw (l := n901) (r := 6) (by omega) (by omega) (by omega)) q) (fun _ _ _ q => q) (fun σ4942 h4943 g4944 => ?_)
        refine m_aload_n F rfl e_X10_pays_194 ?_
        refine r_getC F e_X10_pays_195 fl_X10_59 h4943 ((fld_eq (g4944 _ (by omega))).trans ((fld_eq (h4939.2 c (by rw [show kC c c = 1 from kC_at (k := 0) (by decide)]; decide))).trans ((fld_eq (h4808.2 c (by rw [show kC c c = 1 from kC_at (k := 0) (by decide)]; decide))).trans ((fld_eq (h4805.2 c (by rw [show kC c c = 1 from kC_at (k := 0) (by decide)]; decide))).trans f4793)))) ?_
        refine m_iload_n F rfl e_X10_pays_198 ?_
        refine m_bipush F (v := 7) (by decide) e_X10_pays_199 ?_
        refine m_iadd F e_X10_pays_201 ?_
        refine Wm.topE (w := nI (160 * n901 + 7)) (nI_add (160 * n901) 7) ?_
        refine m_dup2_11 F rfl rfl e_X10_pays_202 ?_
        refine r_sld F (j := 160 * n901 + 7) e_X10_pays_203 h4943 (nI_clamp (by omega)) (vp_in_nI (by omega) (by decide)) (fun x4945 h4946 f4947 => ?_)
        refine m_lload F rfl e_X10_pays_204 ?_
        refine m_lsub F e_X10_pays_206 ?_
        refine Wm.topl (fun x4948 _ => ?_)
        refine r_sst F (g' := (⟨T, Z, u, h, P, L⟩ : RG)) (j := 160 * n901 + 7) e_X10_pays_207 h4943 (by decide) (nI_clamp (by omega)) (vp_in_nI (by omega) (by decide)) (fun f q => EJ_same (EJ_lw (l := n901) (r := 7) (by omega) (by omega) (by omega)) q) (fun _ _ _ q => q) (fun σ4949 h4950 g4951 => ?_)
        refine m_aload_n F rfl e_X10_pays_208 ?_
        refine r_getC F e_X10_pays_209 fl_X10_59 h4950 ((fld_eq (g4951 _ (by omega))).trans ((fld_eq (g4944 _ (by omega))).trans ((fld_eq (h4939.2 c (by rw [show kC c c = 1 from kC_at (k := 0) (by decide)]; decide))).trans ((fld_eq (h4808.2 c (by rw [show kC c c = 1 from kC_at (k := 0) (by decide)]; decide))).trans ((fld_eq (h4805.2 c (by rw [show kC c c = 1 from kC_at (k := 0) (by decide)]; decide))).trans f4793))))) ?_
        refine m_iload_n F rfl e_X10_pays_212 ?_
        refine m_bipush F (v := 9) (by decide) e_X10_pays_213 ?_
        refine m_iadd F e_X10_pays_215 ?_
        refine Wm.topE (w := nI (160 * n901 + 9)) (nI_add (160 * n901) 9) ?_
        refine m_dup2_11 F rfl rfl e_X10_pays_216 ?_
        refine r_sld F (j := 160 * n901 + 9) e_X10_pays_217 h4950 (nI_clamp (by omega)) (vp_in_nI (by omega) (by decide)) (fun x4952 h4953 f4954 => ?_)
        refine m_lload F rfl e_X10_pays_218 ?_
        refine m_ladd F e_X10_pays_220 ?_
        refine Wm.topl (fun x4955 _ => ?_)
        refine r_sst F (g' := (⟨T, Z, u, h, P, L⟩ : RG)) (j := 160 * n901 + 9) e_X10_pays_221 h4950 (by decide) (nI_clamp (by omega)) (vp_in_nI (by omega) (by decide)) (fun f q => EJ_same (EJ_lw (l := n901) (r := 9) (by omega) (by omega) (by omega)) q) (fun _ _ _ q => q) (fun σ4956 h4957 g4958 => ?_)
        refine m_aload_n F rfl e_X10_pays_222 ?_
        refine r_getC F e_X10_pays_223 fl_X10_59 h4957 ((fld_eq (g4958 _ (by omega))).trans ((fld_eq (g4951 _ (by omega))).trans ((fld_eq (g4944 _ (by omega))).trans ((fld_eq (h4939.2 c (by rw [show kC c c = 1 from kC_at (k := 0) (by decide)]; decide))).trans ((fld_eq (h4808.2 c (by rw [show kC c c = 1 from kC_at (k := 0) (by decide)]; decide))).trans ((fld_eq (h4805.2 c (by rw [show kC c c = 1 from kC_at (k := 0) (by decide)]; decide))).trans f4793)))))) ?_
        refine m_iload_n F rfl e_X10_pays_226 ?_
        refine m_bipush F (v := 10) (by decide) e_X10_pays_227 ?_
        refine m_iadd F e_X10_pays_229 ?_
        refine Wm.topE (w := nI (160 * n901 + 10)) (nI_add (160 * n901) 10) ?_
        refine m_dup2_11 F rfl rfl e_X10_pays_230 ?_
        refine r_sld F (j := 160 * n901 + 10) e_X10_pays_231 h4957 (nI_clamp (by omega)) (vp_in_nI (by omega) (by decide)) (fun x4959 h4960 f4961 => ?_)
        refine m_lload_n F rfl e_X10_pays_232 ?_
        refine m_ladd F e_X10_pays_233 ?_
        refine Wm.topl (fun x4962 _ => ?_)
        refine r_sst F (g' := (⟨T, Z, u, h, P, L⟩ : RG)) (j := 160 * n901 + 10) e_X10_pays_234 h4957 (by decide) (nI_clamp (by omega)) (vp_in_nI (by omega) (by decide)) (fun f q => EJ_same (EJ_lw (l := n901) (r := 10) (by omega) (by omega) (by omega)) q) (fun _ _ _ q => q) (fun σ4963 h4964 g4965 => ?_)
        refine m_aload_n F rfl e_X10_pays_235 ?_
        refine r_getC F e_X10_pays_236 fl_X10_59 h4964 ((fld_eq (g4965 _ (by omega))).trans ((fld_eq (g4958 _ (by omega))).trans ((fld_eq (g4951 _ (by omega))).trans ((fld_eq (g4944 _ (by omega))).trans ((fld_eq (h4939.2 c (by rw [show kC c c = 1 from kC_at (k := 0) (by decide)]; decide))).trans ((fld_eq (h4808.2 c (by rw [show kC c c = 1 from kC_at (k := 0) (by decide)]; decide))).trans ((fld_eq (h4805.2 c (by rw [show kC c c = 1 from kC_at (k := 0) (by decide)]; decide))).trans f4793))))))) ?_
        refine m_iload_n F rfl e_X10_pays_239 ?_
        refine m_iconst F (v := 5) (by decide) e_X10_pays_240 ?_
        refine m_iadd F e_X10_pays_241 ?_
        refine Wm.topE (w := nI (160 * n901 + 5)) (nI_add (160 * n901) 5) ?_
        refine m_dup2_11 F rfl rfl e_X10_pays_242 ?_
        refine r_sld F (j := 160 * n901 + 5) e_X10_pays_243 h4964 (nI_clamp (by omega)) (vp_in_nI (by omega) (by decide)) (fun x4966 h4967 f4968 => ?_)
        have hl4969 := hok.2 n901 (by omega)
        obtain rfl : x4966 = lN (L n901).2.2.2 := (EJ_l (l := n901) (r := 5) (by omega) (by decide)).mp h4967
        refine m_lconst F (v := 1) (by decide) e_X10_pays_244 ?_
        refine m_ladd F e_X10_pays_245 ?_
        refine Wm.toplE (w := lN ((L n901).2.2.2 + 1)) (lN_add ((L n901).2.2.2) 1) ?_
        refine r_sst F (g' := (⟨T, Z, u, h, P, (updL L n901 ((L n901).1, (L n901).2.1, (L n901).2.2.1, (L n901).2.2.2 + 1))⟩ : RG)) (j := 160 * n901 + 5) e_X10_pays_246 h4964 (by decide) (nI_clamp (by omega)) (vp_in_nI (by omega) (by decide)) (fun f q => EJ_up (l := n901) (r := 5) (by omega) (by decide) q rfl (by intro r' h1 h2 y hy; revert hy; unfold EL; split <;> simp_all)) CR.row (fun σ4970 h4971 g4972 => ?_)
        obtain ⟨L4973, eL4973⟩ : ∃ L9, L9 = (updL L n901 ((L n901).1, (L n901).2.1, (L n901).2.2.1, (L n901).2.2.2 + 1)) := ⟨_, rfl⟩
        rw [← eL4973] at h4971
        have fL4973 : L4973 n901 = ((L n901).1, (L n901).2.1, (L n901).2.2.1, (L n901).2.2.2 + 1) := by rw [eL4973]; exact if_pos rfl
        have fL49730 : (L4973 n901).1 = (L n901).1 := by rw [fL4973]
        have fL49731 : (L4973 n901).2.1 = (L n901).2.1 := by rw [fL4973]
        have fL49732 : (L4973 n901).2.2.1 = (L n901).2.2.1 := by rw [fL4973]
        have fL49733 : (L4973 n901).2.2.2 = (L n901).2.2.2 + 1 := by rw [fL4973]
        have oL4973 : ∀ i, i ≠ n901 → L4973 i = L i := fun i hi => by rw [eL4973]; exact if_neg hi
        have pL4973 : (L4973 4).1 = (L 4).1 := by rw [oL4973 4 (by omega)]
        refine m_aload_n F rfl e_X10_pays_247 ?_
        refine m_iconst F (v := 1) (by decide) e_X10_pays_248 ?_
        refine m_iload_n F rfl e_X10_pays_249 ?_
        refine m_lload_n F rfl e_X10_pays_250 ?_
        refine m_lneg F e_X10_pays_251 ?_
        refine Wm.topl (fun x4974 _ => ?_)
        refine m_lload F rfl e_X10_pays_252 ?_
        refine m_lload F rfl e_X10_pays_254 ?_
        refine m_lsub F e_X10_pays_256 ?_
        refine Wm.topl (fun x4975 _ => ?_)
        refine m_lload F rfl e_X10_pays_257 ?_
        refine m_lneg F e_X10_pays_259 ?_
        refine Wm.topl (fun x4976 _ => ?_)
        refine m_lload F rfl e_X10_pays_260 ?_
        refine m_lload F rfl e_X10_pays_262 ?_
        refine m_lconst F (v := 0) (by decide) e_X10_pays_264 ?_
        have okb4980 : OKB L4973 := OKB.upd (hok.b) (l := n901) (by omega) (fun i hi => (oL4973 i hi)) (by have h9 := (hok.b).2 n901 (by omega); omega)
        refine r_callV F e_X10_pays_265 (q_X10_entry (x_l X) V c T Z u h P L4973 _ _ 1 (nI n901) x4974 x4975 x4976 x4934 x4941 0 h4971.1 (okb4980) hP ) cb_X10_entry ml_X10_253 im_X10_entry se_X10_entry h4971 rfl rfl (rest := []) rfl (Nat.le_of_ble_eq_true rfl) ⟨Nat.le_of_ble_eq_true rfl, Nat.le_of_ble_eq_true rfl⟩ ⟨Nat.le_of_ble_eq_true rfl, Nat.le_of_ble_eq_true rfl⟩ (fun r σ4977 hp => ?_)
        obtain ⟨h4978, rfl⟩ := hp
        have h4979 := HS.trans h4971 h4978 (by decide)
        refine m_iload F rfl e_X10_pays_268 ?_
        refine m_if_eq F e_X10_pays_270 (fun _ => ?_) (fun q => absurd (by decide) q)
        have ok4981 : OKL P.n0 L4973 := OKL.upd hok (l := n901) (by omega) (fun i hi => (oL4973 i hi)) (by have h9 := hok.2 n901 (by omega); omega)
        exact m_vret F hQ e_X10_pays_284 (⟨L4973, ok4981, (by first | omega | rfl | assumption), h4979, rfl⟩)
      · obtain ⟨n4982, hn4982, rfl⟩ := nI_nn (x := x4922) (fun e => q65 (Int32.le_trans (Int32.le_of_lt e) (by decide)))
        have c65 : n4982 > 0 := by have hh := mt (nI_leI (a := n4982) (b := 0) (by omega) (by omega)).mpr q65; omega
        refine m_lload F rfl e_X10_pays_68 ?_
        refine m_lload_n F rfl e_X10_pays_70 ?_
        refine m_lsub F e_X10_pays_71 ?_
        refine Wm.topl (fun x4983 _ => ?_)
        refine m_goto F e_X10_pays_72 ?_
        refine m_lstore F (lv' := [(10, .long x4983), (7, .int 0), (5, .long x4801), (3, .long x4798), (2, .int (nI (160 * n901))), (0, .ref c), (1, .int (nI n901))]) e_X10_pays_76 (by decide) rfl ?_
        refine m_iload F rfl e_X10_pays_78 ?_
        refine m_if_eq F e_X10_pays_80 (fun _ => ?_) (fun q => absurd (by decide) q)
        refine m_lload F rfl e_X10_pays_87 ?_
        refine m_lload F rfl e_X10_pays_89 ?_
        refine m_aload_n F rfl e_X10_pays_91 ?_
        refine r_getC F e_X10_pays_92 fl_X10_59 h4809 ((fld_eq (h4808.2 c (by rw [show kC c c = 1 from kC_at (k := 0) (by decide)]; decide))).trans ((fld_eq (h4805.2 c (by rw [show kC c c = 1 from kC_at (k := 0) (by decide)]; decide))).trans f4793)) ?_
        refine m_iload_n F rfl e_X10_pays_95 ?_
        refine m_iconst F (v := 2) (by decide) e_X10_pays_96 ?_
        refine m_iadd F e_X10_pays_97 ?_
        refine Wm.topE (w := nI (160 * n901 + 2)) (nI_add (160 * n901) 2) ?_
        refine r_sld F (j := 160 * n901 + 2) e_X10_pays_98 h4809 (nI_clamp (by omega)) (vp_in_nI (by omega) (by decide)) (fun x4984 h4985 f4986 => ?_)
        obtain ⟨n4987, hn4987, rfl⟩ : ∃ n : Nat, n ≤ 1000000 ∧ x4984 = lN n := (EJ_l (l := n901) (r := 2) (by omega) (by decide)).mp h4985
        refine m_lmul F e_X10_pays_99 ?_
        refine Wm.topl (fun x4988 _ => ?_)
        refine m_ldc2 F kc_X10_239 e_X10_pays_100 ?_
        refine m_callS F e_X10_pays_103 (q_X10_rounded (x_l X) V _ _ x4988 1000000 (by omega) (by first | omega | assumption | decide)) cb_X10_rounded ml_X10_241 sm_X10_rounded rfl (rest := [.long x4983]) rfl (Nat.le_of_ble_eq_true rfl) ⟨Nat.le_of_ble_eq_true rfl, Nat.le_of_ble_eq_true rfl⟩ ⟨Nat.le_of_ble_eq_true rfl, Nat.le_of_ble_eq_true rfl⟩ (k' := 0) (z' := 0) (N' := N) rfl rfl rfl (fun r σ4989 hp => ?_)
        obtain ⟨rfl, x4992, rfl⟩ := hp
        refine m_ladd F e_X10_pays_106 ?_
        refine Wm.topl (fun x4993 _ => ?_)
        refine m_lstore F (lv' := [(8, .long x4993), (10, .long x4983), (7, .int 0), (5, .long x4801), (3, .long x4798), (2, .int (nI (160 * n901))), (0, .ref c), (1, .int (nI n901))]) e_X10_pays_107 (by decide) rfl ?_
        refine m_goto F e_X10_pays_109 ?_
        refine m_lload F rfl e_X10_pays_156 ?_
        refine m_lload F rfl e_X10_pays_158 ?_
        refine m_lsub F e_X10_pays_160 ?_
        refine Wm.topl (fun x4994 _ => ?_)
        refine m_lload_n F rfl e_X10_pays_161 ?_
        refine m_ladd F e_X10_pays_162 ?_
        refine Wm.topl (fun x4995 _ => ?_)
        refine m_lstore F (lv' := [(10, .long x4995), (8, .long x4993), (7, .int 0), (5, .long x4801), (3, .long x4798), (2, .int (nI (160 * n901))), (0, .ref c), (1, .int (nI n901))]) e_X10_pays_163 (by decide) rfl ?_
        refine m_aload_n F rfl e_X10_pays_165 ?_
        refine r_getC F e_X10_pays_166 fl_X10_59 h4809 ((fld_eq (h4808.2 c (by rw [show kC c c = 1 from kC_at (k := 0) (by decide)]; decide))).trans ((fld_eq (h4805.2 c (by rw [show kC c c = 1 from kC_at (k := 0) (by decide)]; decide))).trans f4793)) ?_
        refine m_iload_n F rfl e_X10_pays_169 ?_
        refine m_bipush F (v := 7) (by decide) e_X10_pays_170 ?_
        refine m_iadd F e_X10_pays_172 ?_
        refine Wm.topE (w := nI (160 * n901 + 7)) (nI_add (160 * n901) 7) ?_
        refine r_sld F (j := 160 * n901 + 7) e_X10_pays_173 h4809 (nI_clamp (by omega)) (vp_in_nI (by omega) (by decide)) (fun x4996 h4997 f4998 => ?_)
        refine m_aload_n F rfl e_X10_pays_174 ?_
        refine m_iload_n F rfl e_X10_pays_175 ?_
        refine r_callV F e_X10_pays_176 (q_X10_leftOn (x_l X) V c T Z u h P L _ _ n901 h4809.1 (hok.b) hP (by omega) (by first | omega | assumption | decide)) cb_X10_left ml_X10_257 im_X10_left se_X10_left h4809 rfl rfl (rest := [.long x4996]) rfl (Nat.le_of_ble_eq_true rfl) ⟨Nat.le_of_ble_eq_true rfl, Nat.le_of_ble_eq_true rfl⟩ ⟨Nat.le_of_ble_eq_true rfl, Nat.le_of_ble_eq_true rfl⟩ (fun r σ4999 hp => ?_)
        obtain ⟨h5000, rfl⟩ := hp
        have h5001 := HS.trans h4809 h5000 (by decide)
        refine m_i2l F e_X10_pays_179 ?_
        refine Wm.toplE (w := lN ((L n901).2.1 - (L n901).2.2.2)) (nI_l (by omega)) ?_
        refine m_ldiv F (lN_ne0 (by omega) (by omega)) e_X10_pays_180 ?_
        refine Wm.topl (fun x5002 _ => ?_)
        refine m_lstore F (lv' := [(12, .long x5002), (10, .long x4995), (8, .long x4993), (7, .int 0), (5, .long x4801), (3, .long x4798), (2, .int (nI (160 * n901))), (0, .ref c), (1, .int (nI n901))]) e_X10_pays_181 (by decide) rfl ?_
        refine m_aload_n F rfl e_X10_pays_183 ?_
        refine r_getC F e_X10_pays_184 fl_X10_59 h5001 ((fld_eq (h5000.2 c (by rw [show kC c c = 1 from kC_at (k := 0) (by decide)]; decide))).trans ((fld_eq (h4808.2 c (by rw [show kC c c = 1 from kC_at (k := 0) (by decide)]; decide))).trans ((fld_eq (h4805.2 c (by rw [show kC c c = 1 from kC_at (k := 0) (by decide)]; decide))).trans f4793))) ?_
        refine m_iload_n F rfl e_X10_pays_187 ?_
        refine m_bipush F (v := 6) (by decide) e_X10_pays_188 ?_
        refine m_iadd F e_X10_pays_190 ?_
        refine Wm.topE (w := nI (160 * n901 + 6)) (nI_add (160 * n901) 6) ?_
        refine m_lload F rfl e_X10_pays_191 ?_
        refine r_sst F (g' := (⟨T, Z, u, h, P, L⟩ : RG)) (j := 160 * n901 + 6) e_X10_pays_193 h5001 (by decide) (nI_clamp (by omega)) (vp_in_nI (by omega) (by decide)) (fun f q => EJ_same (EJ_lw (l := n901) (r := 6) (by omega) (by omega) (by omega)) q) (fun _ _ _ q => q) (fun σ5003 h5004 g5005 => ?_)
        refine m_aload_n F rfl e_X10_pays_194 ?_
        refine r_getC F e_X10_pays_195 fl_X10_59 h5004 ((fld_eq (g5005 _ (by omega))).trans ((fld_eq (h5000.2 c (by rw [show kC c c = 1 from kC_at (k := 0) (by decide)]; decide))).trans ((fld_eq (h4808.2 c (by rw [show kC c c = 1 from kC_at (k := 0) (by decide)]; decide))).trans ((fld_eq (h4805.2 c (by rw [show kC c c = 1 from kC_at (k := 0) (by decide)]; decide))).trans f4793)))) ?_
        refine m_iload_n F rfl e_X10_pays_198 ?_
        refine m_bipush F (v := 7) (by decide) e_X10_pays_199 ?_
        refine m_iadd F e_X10_pays_201 ?_
        refine Wm.topE (w := nI (160 * n901 + 7)) (nI_add (160 * n901) 7) ?_
        refine m_dup2_11 F rfl rfl e_X10_pays_202 ?_
        refine r_sld F (j := 160 * n901 + 7) e_X10_pays_203 h5004 (nI_clamp (by omega)) (vp_in_nI (by omega) (by decide)) (fun x5006 h5007 f5008 => ?_)
        refine m_lload F rfl e_X10_pays_204 ?_
        refine m_lsub F e_X10_pays_206 ?_
        refine Wm.topl (fun x5009 _ => ?_)
        refine r_sst F (g' := (⟨T, Z, u, h, P, L⟩ : RG)) (j := 160 * n901 + 7) e_X10_pays_207 h5004 (by decide) (nI_clamp (by omega)) (vp_in_nI (by omega) (by decide)) (fun f q => EJ_same (EJ_lw (l := n901) (r := 7) (by omega) (by omega) (by omega)) q) (fun _ _ _ q => q) (fun σ5010 h5011 g5012 => ?_)
        refine m_aload_n F rfl e_X10_pays_208 ?_
        refine r_getC F e_X10_pays_209 fl_X10_59 h5011 ((fld_eq (g5012 _ (by omega))).trans ((fld_eq (g5005 _ (by omega))).trans ((fld_eq (h5000.2 c (by rw [show kC c c = 1 from kC_at (k := 0) (by decide)]; decide))).trans ((fld_eq (h4808.2 c (by rw [show kC c c = 1 from kC_at (k := 0) (by decide)]; decide))).trans ((fld_eq (h4805.2 c (by rw [show kC c c = 1 from kC_at (k := 0) (by decide)]; decide))).trans f4793))))) ?_
        refine m_iload_n F rfl e_X10_pays_212 ?_
        refine m_bipush F (v := 9) (by decide) e_X10_pays_213 ?_
        refine m_iadd F e_X10_pays_215 ?_
        refine Wm.topE (w := nI (160 * n901 + 9)) (nI_add (160 * n901) 9) ?_
        refine m_dup2_11 F rfl rfl e_X10_pays_216 ?_
        refine r_sld F (j := 160 * n901 + 9) e_X10_pays_217 h5011 (nI_clamp (by omega)) (vp_in_nI (by omega) (by decide)) (fun x5013 h5014 f5015 => ?_)
        refine m_lload F rfl e_X10_pays_218 ?_
        refine m_ladd F e_X10_pays_220 ?_
        refine Wm.topl (fun x5016 _ => ?_)
        refine r_sst F (g' := (⟨T, Z, u, h, P, L⟩ : RG)) (j := 160 * n901 + 9) e_X10_pays_221 h5011 (by decide) (nI_clamp (by omega)) (vp_in_nI (by omega) (by decide)) (fun f q => EJ_same (EJ_lw (l := n901) (r := 9) (by omega) (by omega) (by omega)) q) (fun _ _ _ q => q) (fun σ5017 h5018 g5019 => ?_)
        refine m_aload_n F rfl e_X10_pays_222 ?_
        refine r_getC F e_X10_pays_223 fl_X10_59 h5018 ((fld_eq (g5019 _ (by omega))).trans ((fld_eq (g5012 _ (by omega))).trans ((fld_eq (g5005 _ (by omega))).trans ((fld_eq (h5000.2 c (by rw [show kC c c = 1 from kC_at (k := 0) (by decide)]; decide))).trans ((fld_eq (h4808.2 c (by rw [show kC c c = 1 from kC_at (k := 0) (by decide)]; decide))).trans ((fld_eq (h4805.2 c (by rw [show kC c c = 1 from kC_at (k := 0) (by decide)]; decide))).trans f4793)))))) ?_
        refine m_iload_n F rfl e_X10_pays_226 ?_
        refine m_bipush F (v := 10) (by decide) e_X10_pays_227 ?_
        refine m_iadd F e_X10_pays_229 ?_
        refine Wm.topE (w := nI (160 * n901 + 10)) (nI_add (160 * n901) 10) ?_
        refine m_dup2_11 F rfl rfl e_X10_pays_230 ?_
        refine r_sld F (j := 160 * n901 + 10) e_X10_pays_231 h5018 (nI_clamp (by omega)) (vp_in_nI (by omega) (by decide)) (fun x5020 h5021 f5022 => ?_)
        refine m_lload_n F rfl e_X10_pays_232 ?_
        refine m_ladd F e_X10_pays_233 ?_
        refine Wm.topl (fun x5023 _ => ?_)
        refine r_sst F (g' := (⟨T, Z, u, h, P, L⟩ : RG)) (j := 160 * n901 + 10) e_X10_pays_234 h5018 (by decide) (nI_clamp (by omega)) (vp_in_nI (by omega) (by decide)) (fun f q => EJ_same (EJ_lw (l := n901) (r := 10) (by omega) (by omega) (by omega)) q) (fun _ _ _ q => q) (fun σ5024 h5025 g5026 => ?_)
        refine m_aload_n F rfl e_X10_pays_235 ?_
        refine r_getC F e_X10_pays_236 fl_X10_59 h5025 ((fld_eq (g5026 _ (by omega))).trans ((fld_eq (g5019 _ (by omega))).trans ((fld_eq (g5012 _ (by omega))).trans ((fld_eq (g5005 _ (by omega))).trans ((fld_eq (h5000.2 c (by rw [show kC c c = 1 from kC_at (k := 0) (by decide)]; decide))).trans ((fld_eq (h4808.2 c (by rw [show kC c c = 1 from kC_at (k := 0) (by decide)]; decide))).trans ((fld_eq (h4805.2 c (by rw [show kC c c = 1 from kC_at (k := 0) (by decide)]; decide))).trans f4793))))))) ?_
        refine m_iload_n F rfl e_X10_pays_239 ?_
        refine m_iconst F (v := 5) (by decide) e_X10_pays_240 ?_
        refine m_iadd F e_X10_pays_241 ?_
        refine Wm.topE (w := nI (160 * n901 + 5)) (nI_add (160 * n901) 5) ?_
        refine m_dup2_11 F rfl rfl e_X10_pays_242 ?_
        refine r_sld F (j := 160 * n901 + 5) e_X10_pays_243 h5025 (nI_clamp (by omega)) (vp_in_nI (by omega) (by decide)) (fun x5027 h5028 f5029 => ?_)
        have hl5030 := hok.2 n901 (by omega)
        obtain rfl : x5027 = lN (L n901).2.2.2 := (EJ_l (l := n901) (r := 5) (by omega) (by decide)).mp h5028
        refine m_lconst F (v := 1) (by decide) e_X10_pays_244 ?_
        refine m_ladd F e_X10_pays_245 ?_
        refine Wm.toplE (w := lN ((L n901).2.2.2 + 1)) (lN_add ((L n901).2.2.2) 1) ?_
        refine r_sst F (g' := (⟨T, Z, u, h, P, (updL L n901 ((L n901).1, (L n901).2.1, (L n901).2.2.1, (L n901).2.2.2 + 1))⟩ : RG)) (j := 160 * n901 + 5) e_X10_pays_246 h5025 (by decide) (nI_clamp (by omega)) (vp_in_nI (by omega) (by decide)) (fun f q => EJ_up (l := n901) (r := 5) (by omega) (by decide) q rfl (by intro r' h1 h2 y hy; revert hy; unfold EL; split <;> simp_all)) CR.row (fun σ5031 h5032 g5033 => ?_)
        obtain ⟨L5034, eL5034⟩ : ∃ L9, L9 = (updL L n901 ((L n901).1, (L n901).2.1, (L n901).2.2.1, (L n901).2.2.2 + 1)) := ⟨_, rfl⟩
        rw [← eL5034] at h5032
        have fL5034 : L5034 n901 = ((L n901).1, (L n901).2.1, (L n901).2.2.1, (L n901).2.2.2 + 1) := by rw [eL5034]; exact if_pos rfl
        have fL50340 : (L5034 n901).1 = (L n901).1 := by rw [fL5034]
        have fL50341 : (L5034 n901).2.1 = (L n901).2.1 := by rw [fL5034]
        have fL50342 : (L5034 n901).2.2.1 = (L n901).2.2.1 := by rw [fL5034]
        have fL50343 : (L5034 n901).2.2.2 = (L n901).2.2.2 + 1 := by rw [fL5034]
        have oL5034 : ∀ i, i ≠ n901 → L5034 i = L i := fun i hi => by rw [eL5034]; exact if_neg hi
        have pL5034 : (L5034 4).1 = (L 4).1 := by rw [oL5034 4 (by omega)]
        refine m_aload_n F rfl e_X10_pays_247 ?_
        refine m_iconst F (v := 1) (by decide) e_X10_pays_248 ?_
        refine m_iload_n F rfl e_X10_pays_249 ?_
        refine m_lload_n F rfl e_X10_pays_250 ?_
        refine m_lneg F e_X10_pays_251 ?_
        refine Wm.topl (fun x5035 _ => ?_)
        refine m_lload F rfl e_X10_pays_252 ?_
        refine m_lload F rfl e_X10_pays_254 ?_
        refine m_lsub F e_X10_pays_256 ?_
        refine Wm.topl (fun x5036 _ => ?_)
        refine m_lload F rfl e_X10_pays_257 ?_
        refine m_lneg F e_X10_pays_259 ?_
        refine Wm.topl (fun x5037 _ => ?_)
        refine m_lload F rfl e_X10_pays_260 ?_
        refine m_lload F rfl e_X10_pays_262 ?_
        refine m_lconst F (v := 0) (by decide) e_X10_pays_264 ?_
        have okb5041 : OKB L5034 := OKB.upd (hok.b) (l := n901) (by omega) (fun i hi => (oL5034 i hi)) (by have h9 := (hok.b).2 n901 (by omega); omega)
        refine r_callV F e_X10_pays_265 (q_X10_entry (x_l X) V c T Z u h P L5034 _ _ 1 (nI n901) x5035 x5036 x5037 x4995 x5002 0 h5032.1 (okb5041) hP ) cb_X10_entry ml_X10_253 im_X10_entry se_X10_entry h5032 rfl rfl (rest := []) rfl (Nat.le_of_ble_eq_true rfl) ⟨Nat.le_of_ble_eq_true rfl, Nat.le_of_ble_eq_true rfl⟩ ⟨Nat.le_of_ble_eq_true rfl, Nat.le_of_ble_eq_true rfl⟩ (fun r σ5038 hp => ?_)
        obtain ⟨h5039, rfl⟩ := hp
        have h5040 := HS.trans h5032 h5039 (by decide)
        refine m_iload F rfl e_X10_pays_268 ?_
        refine m_if_eq F e_X10_pays_270 (fun _ => ?_) (fun q => absurd (by decide) q)
        have ok5042 : OKL P.n0 L5034 := OKL.upd hok (l := n901) (by omega) (fun i hi => (oL5034 i hi)) (by have h9 := hok.2 n901 (by omega); omega)
        exact m_vret F hQ e_X10_pays_284 (⟨L5034, ok5042, (by first | omega | rfl | assumption), h5040, rfl⟩)
  · have c43 : ((L n901).2.1 - (L n901).2.2.2) = 1 := (nI_eq (a := ((L n901).2.1 - (L n901).2.2.2)) (b := 1) (by omega) (by omega)).mp q43
    refine m_iconst F (v := 1) (by decide) e_X10_pays_46 ?_
    refine m_goto F e_X10_pays_47 ?_
    refine m_istore F (lv' := [(7, .int 1), (5, .long x4801), (3, .long x4798), (2, .int (nI (160 * n901))), (0, .ref c), (1, .int (nI n901))]) e_X10_pays_51 (by decide) rfl ?_
    refine m_aload_n F rfl e_X10_pays_53 ?_
    refine m_iload_n F rfl e_X10_pays_54 ?_
    refine r_callV F e_X10_pays_55 (q_X10_isEarly (x_l X) V c T Z u h P L _ _ n901 h4806.1 (hok.b) hP (by omega)) cb_X10_isEarly ml_X10_236 im_X10_isEarly se_X10_isEarly h4806 rfl rfl (rest := []) rfl (Nat.le_of_ble_eq_true rfl) ⟨Nat.le_of_ble_eq_true rfl, Nat.le_of_ble_eq_true rfl⟩ ⟨Nat.le_of_ble_eq_true rfl, Nat.le_of_ble_eq_true rfl⟩ (fun r σ5043 hp => ?_)
    obtain ⟨h5044, n5046, hn5046, rfl⟩ := hp
    have h5045 := HS.trans h4806 h5044 (by decide)
    refine m_if_eq F e_X10_pays_58 (fun q58 => ?_) (fun q58 => ?_)
    · have c58 : n5046 = 0 := (nI_eq (a := n5046) (b := 0) (by omega) (by omega)).mp q58
      refine m_lload F rfl e_X10_pays_112 ?_
      refine m_lload F rfl e_X10_pays_114 ?_
      refine m_aload_n F rfl e_X10_pays_116 ?_
      refine r_getC F e_X10_pays_117 fl_X10_59 h5045 ((fld_eq (h5044.2 c (by rw [show kC c c = 1 from kC_at (k := 0) (by decide)]; decide))).trans ((fld_eq (h4805.2 c (by rw [show kC c c = 1 from kC_at (k := 0) (by decide)]; decide))).trans f4793)) ?_
      refine m_iload_n F rfl e_X10_pays_120 ?_
      refine m_iconst F (v := 2) (by decide) e_X10_pays_121 ?_
      refine m_iadd F e_X10_pays_122 ?_
      refine Wm.topE (w := nI (160 * n901 + 2)) (nI_add (160 * n901) 2) ?_
      refine r_sld F (j := 160 * n901 + 2) e_X10_pays_123 h5045 (nI_clamp (by omega)) (vp_in_nI (by omega) (by decide)) (fun x5047 h5048 f5049 => ?_)
      obtain ⟨n5050, hn5050, rfl⟩ : ∃ n : Nat, n ≤ 1000000 ∧ x5047 = lN n := (EJ_l (l := n901) (r := 2) (by omega) (by decide)).mp h5048
      refine m_lmul F e_X10_pays_124 ?_
      refine Wm.topl (fun x5051 _ => ?_)
      refine m_ldc2 F kc_X10_239 e_X10_pays_125 ?_
      refine m_callS F e_X10_pays_128 (q_X10_rounded (x_l X) V _ _ x5051 1000000 (by omega) (by first | omega | assumption | decide)) cb_X10_rounded ml_X10_241 sm_X10_rounded rfl (rest := [.long x4801]) rfl (Nat.le_of_ble_eq_true rfl) ⟨Nat.le_of_ble_eq_true rfl, Nat.le_of_ble_eq_true rfl⟩ ⟨Nat.le_of_ble_eq_true rfl, Nat.le_of_ble_eq_true rfl⟩ (k' := 0) (z' := 0) (N' := N) rfl rfl rfl (fun r σ5052 hp => ?_)
      obtain ⟨rfl, x5055, rfl⟩ := hp
      refine m_ladd F e_X10_pays_131 ?_
      refine Wm.topl (fun x5056 _ => ?_)
      refine m_lstore F (lv' := [(10, .long x5056), (7, .int 1), (5, .long x4801), (3, .long x4798), (2, .int (nI (160 * n901))), (0, .ref c), (1, .int (nI n901))]) e_X10_pays_132 (by decide) rfl ?_
      refine m_iload F rfl e_X10_pays_134 ?_
      refine m_if_ne F e_X10_pays_136 (fun _ => ?_) (fun q => absurd q (by decide))
      refine m_lconst F (v := 0) (by decide) e_X10_pays_146 ?_
      refine m_goto F e_X10_pays_147 ?_
      refine m_lstore F (lv' := [(8, .long 0), (10, .long x5056), (7, .int 1), (5, .long x4801), (3, .long x4798), (2, .int (nI (160 * n901))), (0, .ref c), (1, .int (nI n901))]) e_X10_pays_154 (by decide) rfl ?_
      refine m_lload F rfl e_X10_pays_156 ?_
      refine m_lload F rfl e_X10_pays_158 ?_
      refine m_lsub F e_X10_pays_160 ?_
      refine Wm.topl (fun x5057 _ => ?_)
      refine m_lload_n F rfl e_X10_pays_161 ?_
      refine m_ladd F e_X10_pays_162 ?_
      refine Wm.topl (fun x5058 _ => ?_)
      refine m_lstore F (lv' := [(10, .long x5058), (8, .long 0), (7, .int 1), (5, .long x4801), (3, .long x4798), (2, .int (nI (160 * n901))), (0, .ref c), (1, .int (nI n901))]) e_X10_pays_163 (by decide) rfl ?_
      refine m_aload_n F rfl e_X10_pays_165 ?_
      refine r_getC F e_X10_pays_166 fl_X10_59 h5045 ((fld_eq (h5044.2 c (by rw [show kC c c = 1 from kC_at (k := 0) (by decide)]; decide))).trans ((fld_eq (h4805.2 c (by rw [show kC c c = 1 from kC_at (k := 0) (by decide)]; decide))).trans f4793)) ?_
      refine m_iload_n F rfl e_X10_pays_169 ?_
      refine m_bipush F (v := 7) (by decide) e_X10_pays_170 ?_
      refine m_iadd F e_X10_pays_172 ?_
      refine Wm.topE (w := nI (160 * n901 + 7)) (nI_add (160 * n901) 7) ?_
      refine r_sld F (j := 160 * n901 + 7) e_X10_pays_173 h5045 (nI_clamp (by omega)) (vp_in_nI (by omega) (by decide)) (fun x5059 h5060 f5061 => ?_)
      refine m_aload_n F rfl e_X10_pays_174 ?_
      refine m_iload_n F rfl e_X10_pays_175 ?_
      refine r_callV F e_X10_pays_176 (q_X10_leftOn (x_l X) V c T Z u h P L _ _ n901 h5045.1 (hok.b) hP (by omega) (by first | omega | assumption | decide)) cb_X10_left ml_X10_257 im_X10_left se_X10_left h5045 rfl rfl (rest := [.long x5059]) rfl (Nat.le_of_ble_eq_true rfl) ⟨Nat.le_of_ble_eq_true rfl, Nat.le_of_ble_eq_true rfl⟩ ⟨Nat.le_of_ble_eq_true rfl, Nat.le_of_ble_eq_true rfl⟩ (fun r σ5062 hp => ?_)
      obtain ⟨h5063, rfl⟩ := hp
      have h5064 := HS.trans h5045 h5063 (by decide)
      refine m_i2l F e_X10_pays_179 ?_
      refine Wm.toplE (w := lN ((L n901).2.1 - (L n901).2.2.2)) (nI_l (by omega)) ?_
      refine m_ldiv F (lN_ne0 (by omega) (by omega)) e_X10_pays_180 ?_
      refine Wm.topl (fun x5065 _ => ?_)
      refine m_lstore F (lv' := [(12, .long x5065), (10, .long x5058), (8, .long 0), (7, .int 1), (5, .long x4801), (3, .long x4798), (2, .int (nI (160 * n901))), (0, .ref c), (1, .int (nI n901))]) e_X10_pays_181 (by decide) rfl ?_
      refine m_aload_n F rfl e_X10_pays_183 ?_
      refine r_getC F e_X10_pays_184 fl_X10_59 h5064 ((fld_eq (h5063.2 c (by rw [show kC c c = 1 from kC_at (k := 0) (by decide)]; decide))).trans ((fld_eq (h5044.2 c (by rw [show kC c c = 1 from kC_at (k := 0) (by decide)]; decide))).trans ((fld_eq (h4805.2 c (by rw [show kC c c = 1 from kC_at (k := 0) (by decide)]; decide))).trans f4793))) ?_
      refine m_iload_n F rfl e_X10_pays_187 ?_
      refine m_bipush F (v := 6) (by decide) e_X10_pays_188 ?_
      refine m_iadd F e_X10_pays_190 ?_
      refine Wm.topE (w := nI (160 * n901 + 6)) (nI_add (160 * n901) 6) ?_
      refine m_lload F rfl e_X10_pays_191 ?_
      refine r_sst F (g' := (⟨T, Z, u, h, P, L⟩ : RG)) (j := 160 * n901 + 6) e_X10_pays_193 h5064 (by decide) (nI_clamp (by omega)) (vp_in_nI (by omega) (by decide)) (fun f q => EJ_same (EJ_lw (l := n901) (r := 6) (by omega) (by omega) (by omega)) q) (fun _ _ _ q => q) (fun σ5066 h5067 g5068 => ?_)
      refine m_aload_n F rfl e_X10_pays_194 ?_
      refine r_getC F e_X10_pays_195 fl_X10_59 h5067 ((fld_eq (g5068 _ (by omega))).trans ((fld_eq (h5063.2 c (by rw [show kC c c = 1 from kC_at (k := 0) (by decide)]; decide))).trans ((fld_eq (h5044.2 c (by rw [show kC c c = 1 from kC_at (k := 0) (by decide)]; decide))).trans ((fld_eq (h4805.2 c (by rw [show kC c c = 1 from kC_at (k := 0) (by decide)]; decide))).trans f4793)))) ?_
      refine m_iload_n F rfl e_X10_pays_198 ?_
      refine m_bipush F (v := 7) (by decide) e_X10_pays_199 ?_
      refine m_iadd F e_X10_pays_201 ?_
      refine Wm.topE (w := nI (160 * n901 + 7)) (nI_add (160 * n901) 7) ?_
      refine m_dup2_11 F rfl rfl e_X10_pays_202 ?_
      refine r_sld F (j := 160 * n901 + 7) e_X10_pays_203 h5067 (nI_clamp (by omega)) (vp_in_nI (by omega) (by decide)) (fun x5069 h5070 f5071 => ?_)
      refine m_lload F rfl e_X10_pays_204 ?_
      refine m_lsub F e_X10_pays_206 ?_
      refine Wm.topl (fun x5072 _ => ?_)
      refine r_sst F (g' := (⟨T, Z, u, h, P, L⟩ : RG)) (j := 160 * n901 + 7) e_X10_pays_207 h5067 (by decide) (nI_clamp (by omega)) (vp_in_nI (by omega) (by decide)) (fun f q => EJ_same (EJ_lw (l := n901) (r := 7) (by omega) (by omega) (by omega)) q) (fun _ _ _ q => q) (fun σ5073 h5074 g5075 => ?_)
      refine m_aload_n F rfl e_X10_pays_208 ?_
      refine r_getC F e_X10_pays_209 fl_X10_59 h5074 ((fld_eq (g5075 _ (by omega))).trans ((fld_eq (g5068 _ (by omega))).trans ((fld_eq (h5063.2 c (by rw [show kC c c = 1 from kC_at (k := 0) (by decide)]; decide))).trans ((fld_eq (h5044.2 c (by rw [show kC c c = 1 from kC_at (k := 0) (by decide)]; decide))).trans ((fld_eq (h4805.2 c (by rw [show kC c c = 1 from kC_at (k := 0) (by decide)]; decide))).trans f4793))))) ?_
      refine m_iload_n F rfl e_X10_pays_212 ?_
      refine m_bipush F (v := 9) (by decide) e_X10_pays_213 ?_
      refine m_iadd F e_X10_pays_215 ?_
      refine Wm.topE (w := nI (160 * n901 + 9)) (nI_add (160 * n901) 9) ?_
      refine m_dup2_11 F rfl rfl e_X10_pays_216 ?_
      refine r_sld F (j := 160 * n901 + 9) e_X10_pays_217 h5074 (nI_clamp (by omega)) (vp_in_nI (by omega) (by decide)) (fun x5076 h5077 f5078 => ?_)
      refine m_lload F rfl e_X10_pays_218 ?_
      refine m_ladd F e_X10_pays_220 ?_
      refine Wm.topl (fun x5079 _ => ?_)
      refine r_sst F (g' := (⟨T, Z, u, h, P, L⟩ : RG)) (j := 160 * n901 + 9) e_X10_pays_221 h5074 (by decide) (nI_clamp (by omega)) (vp_in_nI (by omega) (by decide)) (fun f q => EJ_same (EJ_lw (l := n901) (r := 9) (by omega) (by omega) (by omega)) q) (fun _ _ _ q => q) (fun σ5080 h5081 g5082 => ?_)
      refine m_aload_n F rfl e_X10_pays_222 ?_
      refine r_getC F e_X10_pays_223 fl_X10_59 h5081 ((fld_eq (g5082 _ (by omega))).trans ((fld_eq (g5075 _ (by omega))).trans ((fld_eq (g5068 _ (by omega))).trans ((fld_eq (h5063.2 c (by rw [show kC c c = 1 from kC_at (k := 0) (by decide)]; decide))).trans ((fld_eq (h5044.2 c (by rw [show kC c c = 1 from kC_at (k := 0) (by decide)]; decide))).trans ((fld_eq (h4805.2 c (by rw [show kC c c = 1 from kC_at (k := 0) (by decide)]; decide))).trans f4793)))))) ?_
      refine m_iload_n F rfl e_X10_pays_226 ?_
      refine m_bipush F (v := 10) (by decide) e_X10_pays_227 ?_
      refine m_iadd F e_X10_pays_229 ?_
      refine Wm.topE (w := nI (160 * n901 + 10)) (nI_add (160 * n901) 10) ?_
      refine m_dup2_11 F rfl rfl e_X10_pays_230 ?_
      refine r_sld F (j := 160 * n901 + 10) e_X10_pays_231 h5081 (nI_clamp (by omega)) (vp_in_nI (by omega) (by decide)) (fun x5083 h5084 f5085 => ?_)
      refine m_lload_n F rfl e_X10_pays_232 ?_
      refine m_ladd F e_X10_pays_233 ?_
      refine Wm.topl (fun x5086 _ => ?_)
      refine r_sst F (g' := (⟨T, Z, u, h, P, L⟩ : RG)) (j := 160 * n901 + 10) e_X10_pays_234 h5081 (by decide) (nI_clamp (by omega)) (vp_in_nI (by omega) (by decide)) (fun f q => EJ_same (EJ_lw (l := n901) (r := 10) (by omega) (by omega) (by omega)) q) (fun _ _ _ q => q) (fun σ5087 h5088 g5089 => ?_)
      refine m_aload_n F rfl e_X10_pays_235 ?_
      refine r_getC F e_X10_pays_236 fl_X10_59 h5088 ((fld_eq (g5089 _ (by omega))).trans ((fld_eq (g5082 _ (by omega))).trans ((fld_eq (g5075 _ (by omega))).trans ((fld_eq (g5068 _ (by omega))).trans ((fld_eq (h5063.2 c (by rw [show kC c c = 1 from kC_at (k := 0) (by decide)]; decide))).trans ((fld_eq (h5044.2 c (by rw [show kC c c = 1 from kC_at (k := 0) (by decide)]; decide))).trans ((fld_eq (h4805.2 c (by rw [show kC c c = 1 from kC_at (k := 0) (by decide)]; decide))).trans f4793))))))) ?_
      refine m_iload_n F rfl e_X10_pays_239 ?_
      refine m_iconst F (v := 5) (by decide) e_X10_pays_240 ?_
      refine m_iadd F e_X10_pays_241 ?_
      refine Wm.topE (w := nI (160 * n901 + 5)) (nI_add (160 * n901) 5) ?_
      refine m_dup2_11 F rfl rfl e_X10_pays_242 ?_
      refine r_sld F (j := 160 * n901 + 5) e_X10_pays_243 h5088 (nI_clamp (by omega)) (vp_in_nI (by omega) (by decide)) (fun x5090 h5091 f5092 => ?_)
      have hl5093 := hok.2 n901 (by omega)
      obtain rfl : x5090 = lN (L n901).2.2.2 := (EJ_l (l := n901) (r := 5) (by omega) (by decide)).mp h5091
      refine m_lconst F (v := 1) (by decide) e_X10_pays_244 ?_
      refine m_ladd F e_X10_pays_245 ?_
      refine Wm.toplE (w := lN ((L n901).2.2.2 + 1)) (lN_add ((L n901).2.2.2) 1) ?_
      refine r_sst F (g' := (⟨T, Z, u, h, P, (updL L n901 ((L n901).1, (L n901).2.1, (L n901).2.2.1, (L n901).2.2.2 + 1))⟩ : RG)) (j := 160 * n901 + 5) e_X10_pays_246 h5088 (by decide) (nI_clamp (by omega)) (vp_in_nI (by omega) (by decide)) (fun f q => EJ_up (l := n901) (r := 5) (by omega) (by decide) q rfl (by intro r' h1 h2 y hy; revert hy; unfold EL; split <;> simp_all)) CR.row (fun σ5094 h5095 g5096 => ?_)
      obtain ⟨L5097, eL5097⟩ : ∃ L9, L9 = (updL L n901 ((L n901).1, (L n901).2.1, (L n901).2.2.1, (L n901).2.2.2 + 1)) := ⟨_, rfl⟩
      rw [← eL5097] at h5095
      have fL5097 : L5097 n901 = ((L n901).1, (L n901).2.1, (L n901).2.2.1, (L n901).2.2.2 + 1) := by rw [eL5097]; exact if_pos rfl
      have fL50970 : (L5097 n901).1 = (L n901).1 := by rw [fL5097]
      have fL50971 : (L5097 n901).2.1 = (L n901).2.1 := by rw [fL5097]
      have fL50972 : (L5097 n901).2.2.1 = (L n901).2.2.1 := by rw [fL5097]
      have fL50973 : (L5097 n901).2.2.2 = (L n901).2.2.2 + 1 := by rw [fL5097]
      have oL5097 : ∀ i, i ≠ n901 → L5097 i = L i := fun i hi => by rw [eL5097]; exact if_neg hi
      have pL5097 : (L5097 4).1 = (L 4).1 := by rw [oL5097 4 (by omega)]
      refine m_aload_n F rfl e_X10_pays_247 ?_
      refine m_iconst F (v := 1) (by decide) e_X10_pays_248 ?_
      refine m_iload_n F rfl e_X10_pays_249 ?_
      refine m_lload_n F rfl e_X10_pays_250 ?_
      refine m_lneg F e_X10_pays_251 ?_
      refine Wm.topl (fun x5098 _ => ?_)
      refine m_lload F rfl e_X10_pays_252 ?_
      refine m_lload F rfl e_X10_pays_254 ?_
      refine m_lsub F e_X10_pays_256 ?_
      refine Wm.topl (fun x5099 _ => ?_)
      refine m_lload F rfl e_X10_pays_257 ?_
      refine m_lneg F e_X10_pays_259 ?_
      refine Wm.topl (fun x5100 _ => ?_)
      refine m_lload F rfl e_X10_pays_260 ?_
      refine m_lload F rfl e_X10_pays_262 ?_
      refine m_lconst F (v := 0) (by decide) e_X10_pays_264 ?_
      have okb5104 : OKB L5097 := OKB.upd (hok.b) (l := n901) (by omega) (fun i hi => (oL5097 i hi)) (by have h9 := (hok.b).2 n901 (by omega); omega)
      refine r_callV F e_X10_pays_265 (q_X10_entry (x_l X) V c T Z u h P L5097 _ _ 1 (nI n901) x5098 x5099 x5100 x5058 x5065 0 h5095.1 (okb5104) hP ) cb_X10_entry ml_X10_253 im_X10_entry se_X10_entry h5095 rfl rfl (rest := []) rfl (Nat.le_of_ble_eq_true rfl) ⟨Nat.le_of_ble_eq_true rfl, Nat.le_of_ble_eq_true rfl⟩ ⟨Nat.le_of_ble_eq_true rfl, Nat.le_of_ble_eq_true rfl⟩ (fun r σ5101 hp => ?_)
      obtain ⟨h5102, rfl⟩ := hp
      have h5103 := HS.trans h5095 h5102 (by decide)
      refine m_iload F rfl e_X10_pays_268 ?_
      refine m_if_eq F e_X10_pays_270 (fun q => absurd q (by decide)) (fun _ => ?_)
      refine m_aload_n F rfl e_X10_pays_273 ?_
      refine r_getC F e_X10_pays_274 fl_X10_59 h5103 ((fld_eq (h5102.2 c (by rw [show kC c c = 1 from kC_at (k := 0) (by decide)]; decide))).trans ((fld_eq (g5096 _ (by omega))).trans ((fld_eq (g5089 _ (by omega))).trans ((fld_eq (g5082 _ (by omega))).trans ((fld_eq (g5075 _ (by omega))).trans ((fld_eq (g5068 _ (by omega))).trans ((fld_eq (h5063.2 c (by rw [show kC c c = 1 from kC_at (k := 0) (by decide)]; decide))).trans ((fld_eq (h5044.2 c (by rw [show kC c c = 1 from kC_at (k := 0) (by decide)]; decide))).trans ((fld_eq (h4805.2 c (by rw [show kC c c = 1 from kC_at (k := 0) (by decide)]; decide))).trans f4793))))))))) ?_
      refine m_iload_n F rfl e_X10_pays_277 ?_
      refine m_iconst F (v := 0) (by decide) e_X10_pays_278 ?_
      refine m_iadd F e_X10_pays_279 ?_
      refine Wm.topE (w := nI (160 * n901)) (nI_add (160 * n901) 0) ?_
      refine m_ldc2 F kc_X10_234 e_X10_pays_280 ?_
      refine r_sst F (g' := (⟨T, Z, u, h, P, (updL L5097 n901 (2, (L5097 n901).2.1, (L5097 n901).2.2.1, (L5097 n901).2.2.2))⟩ : RG)) (j := 160 * n901) e_X10_pays_283 h5103 (by decide) (nI_clamp (by omega)) (vp_in_nI (by omega) (by decide)) (fun f q => EJ_up (l := n901) (r := 0) (by omega) (by decide) q rfl (by intro r' h1 h2 y hy; revert hy; unfold EL; split <;> simp_all)) CR.row (fun σ5105 h5106 g5107 => ?_)
      obtain ⟨L5108, eL5108⟩ : ∃ L9, L9 = (updL L5097 n901 (2, (L5097 n901).2.1, (L5097 n901).2.2.1, (L5097 n901).2.2.2)) := ⟨_, rfl⟩
      rw [← eL5108] at h5106
      have fL5108 : L5108 n901 = (2, (L5097 n901).2.1, (L5097 n901).2.2.1, (L5097 n901).2.2.2) := by rw [eL5108]; exact if_pos rfl
      have fL51080 : (L5108 n901).1 = 2 := by rw [fL5108]
      have fL51081 : (L5108 n901).2.1 = (L5097 n901).2.1 := by rw [fL5108]
      have fL51082 : (L5108 n901).2.2.1 = (L5097 n901).2.2.1 := by rw [fL5108]
      have fL51083 : (L5108 n901).2.2.2 = (L5097 n901).2.2.2 := by rw [fL5108]
      have oL5108 : ∀ i, i ≠ n901 → L5108 i = L5097 i := fun i hi => by rw [eL5108]; exact if_neg hi
      have pL5108 : (L5108 4).1 = (L5097 4).1 := by rw [oL5108 4 (by omega)]
      have ok5109 : OKL P.n0 L5108 := OKL.upd hok (l := n901) (by omega) (fun i hi => (oL5108 i hi).trans (oL5097 i hi)) (by have h9 := hok.2 n901 (by omega); omega)
      exact m_vret F hQ e_X10_pays_284 (⟨L5108, ok5109, (by first | omega | rfl | assumption), h5106, rfl⟩)
    · have c58 : n5046 ≠ 0 := by have hh := mt (nI_eq (a := n5046) (b := 0) (by omega) (by omega)).mpr q58; omega
      refine m_lload F rfl e_X10_pays_61 ?_
      refine m_lload_n F rfl e_X10_pays_63 ?_
      refine m_lcmp F e_X10_pays_64 ?_
      refine Wm.top (fun x5110 _ => ?_)
      refine m_if_le F e_X10_pays_65 (fun q65 => ?_) (fun q65 => ?_)
      · refine m_lconst F (v := 0) (by decide) e_X10_pays_75 ?_
        refine m_lstore F (lv' := [(10, .long 0), (7, .int 1), (5, .long x4801), (3, .long x4798), (2, .int (nI (160 * n901))), (0, .ref c), (1, .int (nI n901))]) e_X10_pays_76 (by decide) rfl ?_
        refine m_iload F rfl e_X10_pays_78 ?_
        refine m_if_eq F e_X10_pays_80 (fun q => absurd q (by decide)) (fun _ => ?_)
        refine m_lconst F (v := 0) (by decide) e_X10_pays_83 ?_
        refine m_goto F e_X10_pays_84 ?_
        refine m_lstore F (lv' := [(8, .long 0), (10, .long 0), (7, .int 1), (5, .long x4801), (3, .long x4798), (2, .int (nI (160 * n901))), (0, .ref c), (1, .int (nI n901))]) e_X10_pays_107 (by decide) rfl ?_
        refine m_goto F e_X10_pays_109 ?_
        refine m_lload F rfl e_X10_pays_156 ?_
        refine m_lload F rfl e_X10_pays_158 ?_
        refine m_lsub F e_X10_pays_160 ?_
        refine Wm.topl (fun x5111 _ => ?_)
        refine m_lload_n F rfl e_X10_pays_161 ?_
        refine m_ladd F e_X10_pays_162 ?_
        refine Wm.topl (fun x5112 _ => ?_)
        refine m_lstore F (lv' := [(10, .long x5112), (8, .long 0), (7, .int 1), (5, .long x4801), (3, .long x4798), (2, .int (nI (160 * n901))), (0, .ref c), (1, .int (nI n901))]) e_X10_pays_163 (by decide) rfl ?_
        refine m_aload_n F rfl e_X10_pays_165 ?_
        refine r_getC F e_X10_pays_166 fl_X10_59 h5045 ((fld_eq (h5044.2 c (by rw [show kC c c = 1 from kC_at (k := 0) (by decide)]; decide))).trans ((fld_eq (h4805.2 c (by rw [show kC c c = 1 from kC_at (k := 0) (by decide)]; decide))).trans f4793)) ?_
        refine m_iload_n F rfl e_X10_pays_169 ?_
        refine m_bipush F (v := 7) (by decide) e_X10_pays_170 ?_
        refine m_iadd F e_X10_pays_172 ?_
        refine Wm.topE (w := nI (160 * n901 + 7)) (nI_add (160 * n901) 7) ?_
        refine r_sld F (j := 160 * n901 + 7) e_X10_pays_173 h5045 (nI_clamp (by omega)) (vp_in_nI (by omega) (by decide)) (fun x5113 h5114 f5115 => ?_)
        refine m_aload_n F rfl e_X10_pays_174 ?_
        refine m_iload_n F rfl e_X10_pays_175 ?_
        refine r_callV F e_X10_pays_176 (q_X10_leftOn (x_l X) V c T Z u h P L _ _ n901 h5045.1 (hok.b) hP (by omega) (by first | omega | assumption | decide)) cb_X10_left ml_X10_257 im_X10_left se_X10_left h5045 rfl rfl (rest := [.long x5113]) rfl (Nat.le_of_ble_eq_true rfl) ⟨Nat.le_of_ble_eq_true rfl, Nat.le_of_ble_eq_true rfl⟩ ⟨Nat.le_of_ble_eq_true rfl, Nat.le_of_ble_eq_true rfl⟩ (fun r σ5116 hp => ?_)
        obtain ⟨h5117, rfl⟩ := hp
        have h5118 := HS.trans h5045 h5117 (by decide)
        refine m_i2l F e_X10_pays_179 ?_
        refine Wm.toplE (w := lN ((L n901).2.1 - (L n901).2.2.2)) (nI_l (by omega)) ?_
        refine m_ldiv F (lN_ne0 (by omega) (by omega)) e_X10_pays_180 ?_
        refine Wm.topl (fun x5119 _ => ?_)
        refine m_lstore F (lv' := [(12, .long x5119), (10, .long x5112), (8, .long 0), (7, .int 1), (5, .long x4801), (3, .long x4798), (2, .int (nI (160 * n901))), (0, .ref c), (1, .int (nI n901))]) e_X10_pays_181 (by decide) rfl ?_
        refine m_aload_n F rfl e_X10_pays_183 ?_
        refine r_getC F e_X10_pays_184 fl_X10_59 h5118 ((fld_eq (h5117.2 c (by rw [show kC c c = 1 from kC_at (k := 0) (by decide)]; decide))).trans ((fld_eq (h5044.2 c (by rw [show kC c c = 1 from kC_at (k := 0) (by decide)]; decide))).trans ((fld_eq (h4805.2 c (by rw [show kC c c = 1 from kC_at (k := 0) (by decide)]; decide))).trans f4793))) ?_
        refine m_iload_n F rfl e_X10_pays_187 ?_
        refine m_bipush F (v := 6) (by decide) e_X10_pays_188 ?_
        refine m_iadd F e_X10_pays_190 ?_
        refine Wm.topE (w := nI (160 * n901 + 6)) (nI_add (160 * n901) 6) ?_
        refine m_lload F rfl e_X10_pays_191 ?_
        refine r_sst F (g' := (⟨T, Z, u, h, P, L⟩ : RG)) (j := 160 * n901 + 6) e_X10_pays_193 h5118 (by decide) (nI_clamp (by omega)) (vp_in_nI (by omega) (by decide)) (fun f q => EJ_same (EJ_lw (l := n901) (r := 6) (by omega) (by omega) (by omega)) q) (fun _ _ _ q => q) (fun σ5120 h5121 g5122 => ?_)
        refine m_aload_n F rfl e_X10_pays_194 ?_
        refine r_getC F e_X10_pays_195 fl_X10_59 h5121 ((fld_eq (g5122 _ (by omega))).trans ((fld_eq (h5117.2 c (by rw [show kC c c = 1 from kC_at (k := 0) (by decide)]; decide))).trans ((fld_eq (h5044.2 c (by rw [show kC c c = 1 from kC_at (k := 0) (by decide)]; decide))).trans ((fld_eq (h4805.2 c (by rw [show kC c c = 1 from kC_at (k := 0) (by decide)]; decide))).trans f4793)))) ?_
        refine m_iload_n F rfl e_X10_pays_198 ?_
        refine m_bipush F (v := 7) (by decide) e_X10_pays_199 ?_
        refine m_iadd F e_X10_pays_201 ?_
        refine Wm.topE (w := nI (160 * n901 + 7)) (nI_add (160 * n901) 7) ?_
        refine m_dup2_11 F rfl rfl e_X10_pays_202 ?_
        refine r_sld F (j := 160 * n901 + 7) e_X10_pays_203 h5121 (nI_clamp (by omega)) (vp_in_nI (by omega) (by decide)) (fun x5123 h5124 f5125 => ?_)
        refine m_lload F rfl e_X10_pays_204 ?_
        refine m_lsub F e_X10_pays_206 ?_
        refine Wm.topl (fun x5126 _ => ?_)
        refine r_sst F (g' := (⟨T, Z, u, h, P, L⟩ : RG)) (j := 160 * n901 + 7) e_X10_pays_207 h5121 (by decide) (nI_clamp (by omega)) (vp_in_nI (by omega) (by decide)) (fun f q => EJ_same (EJ_lw (l := n901) (r := 7) (by omega) (by omega) (by omega)) q) (fun _ _ _ q => q) (fun σ5127 h5128 g5129 => ?_)
        refine m_aload_n F rfl e_X10_pays_208 ?_
        refine r_getC F e_X10_pays_209 fl_X10_59 h5128 ((fld_eq (g5129 _ (by omega))).trans ((fld_eq (g5122 _ (by omega))).trans ((fld_eq (h5117.2 c (by rw [show kC c c = 1 from kC_at (k := 0) (by decide)]; decide))).trans ((fld_eq (h5044.2 c (by rw [show kC c c = 1 from kC_at (k := 0) (by decide)]; decide))).trans ((fld_eq (h4805.2 c (by rw [show kC c c = 1 from kC_at (k := 0) (by decide)]; decide))).trans f4793))))) ?_
        refine m_iload_n F rfl e_X10_pays_212 ?_
        refine m_bipush F (v := 9) (by decide) e_X10_pays_213 ?_
        refine m_iadd F e_X10_pays_215 ?_
        refine Wm.topE (w := nI (160 * n901 + 9)) (nI_add (160 * n901) 9) ?_
        refine m_dup2_11 F rfl rfl e_X10_pays_216 ?_
        refine r_sld F (j := 160 * n901 + 9) e_X10_pays_217 h5128 (nI_clamp (by omega)) (vp_in_nI (by omega) (by decide)) (fun x5130 h5131 f5132 => ?_)
        refine m_lload F rfl e_X10_pays_218 ?_
        refine m_ladd F e_X10_pays_220 ?_
        refine Wm.topl (fun x5133 _ => ?_)
        refine r_sst F (g' := (⟨T, Z, u, h, P, L⟩ : RG)) (j := 160 * n901 + 9) e_X10_pays_221 h5128 (by decide) (nI_clamp (by omega)) (vp_in_nI (by omega) (by decide)) (fun f q => EJ_same (EJ_lw (l := n901) (r := 9) (by omega) (by omega) (by omega)) q) (fun _ _ _ q => q) (fun σ5134 h5135 g5136 => ?_)
        refine m_aload_n F rfl e_X10_pays_222 ?_
        refine r_getC F e_X10_pays_223 fl_X10_59 h5135 ((fld_eq (g5136 _ (by omega))).trans ((fld_eq (g5129 _ (by omega))).trans ((fld_eq (g5122 _ (by omega))).trans ((fld_eq (h5117.2 c (by rw [show kC c c = 1 from kC_at (k := 0) (by decide)]; decide))).trans ((fld_eq (h5044.2 c (by rw [show kC c c = 1 from kC_at (k := 0) (by decide)]; decide))).trans ((fld_eq (h4805.2 c (by rw [show kC c c = 1 from kC_at (k := 0) (by decide)]; decide))).trans f4793)))))) ?_
        refine m_iload_n F rfl e_X10_pays_226 ?_
        refine m_bipush F (v := 10) (by decide) e_X10_pays_227 ?_
        refine m_iadd F e_X10_pays_229 ?_
        refine Wm.topE (w := nI (160 * n901 + 10)) (nI_add (160 * n901) 10) ?_
        refine m_dup2_11 F rfl rfl e_X10_pays_230 ?_
        refine r_sld F (j := 160 * n901 + 10) e_X10_pays_231 h5135 (nI_clamp (by omega)) (vp_in_nI (by omega) (by decide)) (fun x5137 h5138 f5139 => ?_)
        refine m_lload_n F rfl e_X10_pays_232 ?_
        refine m_ladd F e_X10_pays_233 ?_
        refine Wm.topl (fun x5140 _ => ?_)
        refine r_sst F (g' := (⟨T, Z, u, h, P, L⟩ : RG)) (j := 160 * n901 + 10) e_X10_pays_234 h5135 (by decide) (nI_clamp (by omega)) (vp_in_nI (by omega) (by decide)) (fun f q => EJ_same (EJ_lw (l := n901) (r := 10) (by omega) (by omega) (by omega)) q) (fun _ _ _ q => q) (fun σ5141 h5142 g5143 => ?_)
        refine m_aload_n F rfl e_X10_pays_235 ?_
        refine r_getC F e_X10_pays_236 fl_X10_59 h5142 ((fld_eq (g5143 _ (by omega))).trans ((fld_eq (g5136 _ (by omega))).trans ((fld_eq (g5129 _ (by omega))).trans ((fld_eq (g5122 _ (by omega))).trans ((fld_eq (h5117.2 c (by rw [show kC c c = 1 from kC_at (k := 0) (by decide)]; decide))).trans ((fld_eq (h5044.2 c (by rw [show kC c c = 1 from kC_at (k := 0) (by decide)]; decide))).trans ((fld_eq (h4805.2 c (by rw [show kC c c = 1 from kC_at (k := 0) (by decide)]; decide))).trans f4793))))))) ?_
        refine m_iload_n F rfl e_X10_pays_239 ?_
        refine m_iconst F (v := 5) (by decide) e_X10_pays_240 ?_
        refine m_iadd F e_X10_pays_241 ?_
        refine Wm.topE (w := nI (160 * n901 + 5)) (nI_add (160 * n901) 5) ?_
        refine m_dup2_11 F rfl rfl e_X10_pays_242 ?_
        refine r_sld F (j := 160 * n901 + 5) e_X10_pays_243 h5142 (nI_clamp (by omega)) (vp_in_nI (by omega) (by decide)) (fun x5144 h5145 f5146 => ?_)
        have hl5147 := hok.2 n901 (by omega)
        obtain rfl : x5144 = lN (L n901).2.2.2 := (EJ_l (l := n901) (r := 5) (by omega) (by decide)).mp h5145
        refine m_lconst F (v := 1) (by decide) e_X10_pays_244 ?_
        refine m_ladd F e_X10_pays_245 ?_
        refine Wm.toplE (w := lN ((L n901).2.2.2 + 1)) (lN_add ((L n901).2.2.2) 1) ?_
        refine r_sst F (g' := (⟨T, Z, u, h, P, (updL L n901 ((L n901).1, (L n901).2.1, (L n901).2.2.1, (L n901).2.2.2 + 1))⟩ : RG)) (j := 160 * n901 + 5) e_X10_pays_246 h5142 (by decide) (nI_clamp (by omega)) (vp_in_nI (by omega) (by decide)) (fun f q => EJ_up (l := n901) (r := 5) (by omega) (by decide) q rfl (by intro r' h1 h2 y hy; revert hy; unfold EL; split <;> simp_all)) CR.row (fun σ5148 h5149 g5150 => ?_)
        obtain ⟨L5151, eL5151⟩ : ∃ L9, L9 = (updL L n901 ((L n901).1, (L n901).2.1, (L n901).2.2.1, (L n901).2.2.2 + 1)) := ⟨_, rfl⟩
        rw [← eL5151] at h5149
        have fL5151 : L5151 n901 = ((L n901).1, (L n901).2.1, (L n901).2.2.1, (L n901).2.2.2 + 1) := by rw [eL5151]; exact if_pos rfl
        have fL51510 : (L5151 n901).1 = (L n901).1 := by rw [fL5151]
        have fL51511 : (L5151 n901).2.1 = (L n901).2.1 := by rw [fL5151]
        have fL51512 : (L5151 n901).2.2.1 = (L n901).2.2.1 := by rw [fL5151]
        have fL51513 : (L5151 n901).2.2.2 = (L n901).2.2.2 + 1 := by rw [fL5151]
        have oL5151 : ∀ i, i ≠ n901 → L5151 i = L i := fun i hi => by rw [eL5151]; exact if_neg hi
        have pL5151 : (L5151 4).1 = (L 4).1 := by rw [oL5151 4 (by omega)]
        refine m_aload_n F rfl e_X10_pays_247 ?_
        refine m_iconst F (v := 1) (by decide) e_X10_pays_248 ?_
        refine m_iload_n F rfl e_X10_pays_249 ?_
        refine m_lload_n F rfl e_X10_pays_250 ?_
        refine m_lneg F e_X10_pays_251 ?_
        refine Wm.topl (fun x5152 _ => ?_)
        refine m_lload F rfl e_X10_pays_252 ?_
        refine m_lload F rfl e_X10_pays_254 ?_
        refine m_lsub F e_X10_pays_256 ?_
        refine Wm.topl (fun x5153 _ => ?_)
        refine m_lload F rfl e_X10_pays_257 ?_
        refine m_lneg F e_X10_pays_259 ?_
        refine Wm.topl (fun x5154 _ => ?_)
        refine m_lload F rfl e_X10_pays_260 ?_
        refine m_lload F rfl e_X10_pays_262 ?_
        refine m_lconst F (v := 0) (by decide) e_X10_pays_264 ?_
        have okb5158 : OKB L5151 := OKB.upd (hok.b) (l := n901) (by omega) (fun i hi => (oL5151 i hi)) (by have h9 := (hok.b).2 n901 (by omega); omega)
        refine r_callV F e_X10_pays_265 (q_X10_entry (x_l X) V c T Z u h P L5151 _ _ 1 (nI n901) x5152 x5153 x5154 x5112 x5119 0 h5149.1 (okb5158) hP ) cb_X10_entry ml_X10_253 im_X10_entry se_X10_entry h5149 rfl rfl (rest := []) rfl (Nat.le_of_ble_eq_true rfl) ⟨Nat.le_of_ble_eq_true rfl, Nat.le_of_ble_eq_true rfl⟩ ⟨Nat.le_of_ble_eq_true rfl, Nat.le_of_ble_eq_true rfl⟩ (fun r σ5155 hp => ?_)
        obtain ⟨h5156, rfl⟩ := hp
        have h5157 := HS.trans h5149 h5156 (by decide)
        refine m_iload F rfl e_X10_pays_268 ?_
        refine m_if_eq F e_X10_pays_270 (fun q => absurd q (by decide)) (fun _ => ?_)
        refine m_aload_n F rfl e_X10_pays_273 ?_
        refine r_getC F e_X10_pays_274 fl_X10_59 h5157 ((fld_eq (h5156.2 c (by rw [show kC c c = 1 from kC_at (k := 0) (by decide)]; decide))).trans ((fld_eq (g5150 _ (by omega))).trans ((fld_eq (g5143 _ (by omega))).trans ((fld_eq (g5136 _ (by omega))).trans ((fld_eq (g5129 _ (by omega))).trans ((fld_eq (g5122 _ (by omega))).trans ((fld_eq (h5117.2 c (by rw [show kC c c = 1 from kC_at (k := 0) (by decide)]; decide))).trans ((fld_eq (h5044.2 c (by rw [show kC c c = 1 from kC_at (k := 0) (by decide)]; decide))).trans ((fld_eq (h4805.2 c (by rw [show kC c c = 1 from kC_at (k := 0) (by decide)]; decide))).trans f4793))))))))) ?_
        refine m_iload_n F rfl e_X10_pays_277 ?_
        refine m_iconst F (v := 0) (by decide) e_X10_pays_278 ?_
        refine m_iadd F e_X10_pays_279 ?_
        refine Wm.topE (w := nI (160 * n901)) (nI_add (160 * n901) 0) ?_
        refine m_ldc2 F kc_X10_234 e_X10_pays_280 ?_
        refine r_sst F (g' := (⟨T, Z, u, h, P, (updL L5151 n901 (2, (L5151 n901).2.1, (L5151 n901).2.2.1, (L5151 n901).2.2.2))⟩ : RG)) (j := 160 * n901) e_X10_pays_283 h5157 (by decide) (nI_clamp (by omega)) (vp_in_nI (by omega) (by decide)) (fun f q => EJ_up (l := n901) (r := 0) (by omega) (by decide) q rfl (by intro r' h1 h2 y hy; revert hy; unfold EL; split <;> simp_all)) CR.row (fun σ5159 h5160 g5161 => ?_)
        obtain ⟨L5162, eL5162⟩ : ∃ L9, L9 = (updL L5151 n901 (2, (L5151 n901).2.1, (L5151 n901).2.2.1, (L5151 n901).2.2.2)) := ⟨_, rfl⟩
        rw [← eL5162] at h5160
        have fL5162 : L5162 n901 = (2, (L5151 n901).2.1, (L5151 n901).2.2.1, (L5151 n901).2.2.2) := by rw [eL5162]; exact if_pos rfl
        have fL51620 : (L5162 n901).1 = 2 := by rw [fL5162]
        have fL51621 : (L5162 n901).2.1 = (L5151 n901).2.1 := by rw [fL5162]
        have fL51622 : (L5162 n901).2.2.1 = (L5151 n901).2.2.1 := by rw [fL5162]
        have fL51623 : (L5162 n901).2.2.2 = (L5151 n901).2.2.2 := by rw [fL5162]
        have oL5162 : ∀ i, i ≠ n901 → L5162 i = L5151 i := fun i hi => by rw [eL5162]; exact if_neg hi
        have pL5162 : (L5162 4).1 = (L5151 4).1 := by rw [oL5162 4 (by omega)]
        have ok5163 : OKL P.n0 L5162 := OKL.upd hok (l := n901) (by omega) (fun i hi => (oL5162 i hi).trans (oL5151 i hi)) (by have h9 := hok.2 n901 (by omega); omega)
        exact m_vret F hQ e_X10_pays_284 (⟨L5162, ok5163, (by first | omega | rfl | assumption), h5160, rfl⟩)
      · obtain ⟨n5164, hn5164, rfl⟩ := nI_nn (x := x5110) (fun e => q65 (Int32.le_trans (Int32.le_of_lt e) (by decide)))
        have c65 : n5164 > 0 := by have hh := mt (nI_leI (a := n5164) (b := 0) (by omega) (by omega)).mpr q65; omega
        refine m_lload F rfl e_X10_pays_68 ?_
        refine m_lload_n F rfl e_X10_pays_70 ?_
        refine m_lsub F e_X10_pays_71 ?_
        refine Wm.topl (fun x5165 _ => ?_)
        refine m_goto F e_X10_pays_72 ?_
        refine m_lstore F (lv' := [(10, .long x5165), (7, .int 1), (5, .long x4801), (3, .long x4798), (2, .int (nI (160 * n901))), (0, .ref c), (1, .int (nI n901))]) e_X10_pays_76 (by decide) rfl ?_
        refine m_iload F rfl e_X10_pays_78 ?_
        refine m_if_eq F e_X10_pays_80 (fun q => absurd q (by decide)) (fun _ => ?_)
        refine m_lconst F (v := 0) (by decide) e_X10_pays_83 ?_
        refine m_goto F e_X10_pays_84 ?_
        refine m_lstore F (lv' := [(8, .long 0), (10, .long x5165), (7, .int 1), (5, .long x4801), (3, .long x4798), (2, .int (nI (160 * n901))), (0, .ref c), (1, .int (nI n901))]) e_X10_pays_107 (by decide) rfl ?_
        refine m_goto F e_X10_pays_109 ?_
        refine m_lload F rfl e_X10_pays_156 ?_
        refine m_lload F rfl e_X10_pays_158 ?_
        refine m_lsub F e_X10_pays_160 ?_
        refine Wm.topl (fun x5166 _ => ?_)
        refine m_lload_n F rfl e_X10_pays_161 ?_
        refine m_ladd F e_X10_pays_162 ?_
        refine Wm.topl (fun x5167 _ => ?_)
        refine m_lstore F (lv' := [(10, .long x5167), (8, .long 0), (7, .int 1), (5, .long x4801), (3, .long x4798), (2, .int (nI (160 * n901))), (0, .ref c), (1, .int (nI n901))]) e_X10_pays_163 (by decide) rfl ?_
        refine m_aload_n F rfl e_X10_pays_165 ?_
        refine r_getC F e_X10_pays_166 fl_X10_59 h5045 ((fld_eq (h5044.2 c (by rw [show kC c c = 1 from kC_at (k := 0) (by decide)]; decide))).trans ((fld_eq (h4805.2 c (by rw [show kC c c = 1 from kC_at (k := 0) (by decide)]; decide))).trans f4793)) ?_
        refine m_iload_n F rfl e_X10_pays_169 ?_
        refine m_bipush F (v := 7) (by decide) e_X10_pays_170 ?_
        refine m_iadd F e_X10_pays_172 ?_
        refine Wm.topE (w := nI (160 * n901 + 7)) (nI_add (160 * n901) 7) ?_
        refine r_sld F (j := 160 * n901 + 7) e_X10_pays_173 h5045 (nI_clamp (by omega)) (vp_in_nI (by omega) (by decide)) (fun x5168 h5169 f5170 => ?_)
        refine m_aload_n F rfl e_X10_pays_174 ?_
        refine m_iload_n F rfl e_X10_pays_175 ?_
        refine r_callV F e_X10_pays_176 (q_X10_leftOn (x_l X) V c T Z u h P L _ _ n901 h5045.1 (hok.b) hP (by omega) (by first | omega | assumption | decide)) cb_X10_left ml_X10_257 im_X10_left se_X10_left h5045 rfl rfl (rest := [.long x5168]) rfl (Nat.le_of_ble_eq_true rfl) ⟨Nat.le_of_ble_eq_true rfl, Nat.le_of_ble_eq_true rfl⟩ ⟨Nat.le_of_ble_eq_true rfl, Nat.le_of_ble_eq_true rfl⟩ (fun r σ5171 hp => ?_)
        obtain ⟨h5172, rfl⟩ := hp
        have h5173 := HS.trans h5045 h5172 (by decide)
        refine m_i2l F e_X10_pays_179 ?_
        refine Wm.toplE (w := lN ((L n901).2.1 - (L n901).2.2.2)) (nI_l (by omega)) ?_
        refine m_ldiv F (lN_ne0 (by omega) (by omega)) e_X10_pays_180 ?_
        refine Wm.topl (fun x5174 _ => ?_)
        refine m_lstore F (lv' := [(12, .long x5174), (10, .long x5167), (8, .long 0), (7, .int 1), (5, .long x4801), (3, .long x4798), (2, .int (nI (160 * n901))), (0, .ref c), (1, .int (nI n901))]) e_X10_pays_181 (by decide) rfl ?_
        refine m_aload_n F rfl e_X10_pays_183 ?_
        refine r_getC F e_X10_pays_184 fl_X10_59 h5173 ((fld_eq (h5172.2 c (by rw [show kC c c = 1 from kC_at (k := 0) (by decide)]; decide))).trans ((fld_eq (h5044.2 c (by rw [show kC c c = 1 from kC_at (k := 0) (by decide)]; decide))).trans ((fld_eq (h4805.2 c (by rw [show kC c c = 1 from kC_at (k := 0) (by decide)]; decide))).trans f4793))) ?_
        refine m_iload_n F rfl e_X10_pays_187 ?_
        refine m_bipush F (v := 6) (by decide) e_X10_pays_188 ?_
        refine m_iadd F e_X10_pays_190 ?_
        refine Wm.topE (w := nI (160 * n901 + 6)) (nI_add (160 * n901) 6) ?_
        refine m_lload F rfl e_X10_pays_191 ?_
        refine r_sst F (g' := (⟨T, Z, u, h, P, L⟩ : RG)) (j := 160 * n901 + 6) e_X10_pays_193 h5173 (by decide) (nI_clamp (by omega)) (vp_in_nI (by omega) (by decide)) (fun f q => EJ_same (EJ_lw (l := n901) (r := 6) (by omega) (by omega) (by omega)) q) (fun _ _ _ q => q) (fun σ5175 h5176 g5177 => ?_)
        refine m_aload_n F rfl e_X10_pays_194 ?_
        refine r_getC F e_X10_pays_195 fl_X10_59 h5176 ((fld_eq (g5177 _ (by omega))).trans ((fld_eq (h5172.2 c (by rw [show kC c c = 1 from kC_at (k := 0) (by decide)]; decide))).trans ((fld_eq (h5044.2 c (by rw [show kC c c = 1 from kC_at (k := 0) (by decide)]; decide))).trans ((fld_eq (h4805.2 c (by rw [show kC c c = 1 from kC_at (k := 0) (by decide)]; decide))).trans f4793)))) ?_
        refine m_iload_n F rfl e_X10_pays_198 ?_
        refine m_bipush F (v := 7) (by decide) e_X10_pays_199 ?_
        refine m_iadd F e_X10_pays_201 ?_
        refine Wm.topE (w := nI (160 * n901 + 7)) (nI_add (160 * n901) 7) ?_
        refine m_dup2_11 F rfl rfl e_X10_pays_202 ?_
        refine r_sld F (j := 160 * n901 + 7) e_X10_pays_203 h5176 (nI_clamp (by omega)) (vp_in_nI (by omega) (by decide)) (fun x5178 h5179 f5180 => ?_)
        refine m_lload F rfl e_X10_pays_204 ?_
        refine m_lsub F e_X10_pays_206 ?_
        refine Wm.topl (fun x5181 _ => ?_)
        refine r_sst F (g' := (⟨T, Z, u, h, P, L⟩ : RG)) (j := 160 * n901 + 7) e_X10_pays_207 h5176 (by decide) (nI_clamp (by omega)) (vp_in_nI (by omega) (by decide)) (fun f q => EJ_same (EJ_lw (l := n901) (r := 7) (by omega) (by omega) (by omega)) q) (fun _ _ _ q => q) (fun σ5182 h5183 g5184 => ?_)
        refine m_aload_n F rfl e_X10_pays_208 ?_
        refine r_getC F e_X10_pays_209 fl_X10_59 h5183 ((fld_eq (g5184 _ (by omega))).trans ((fld_eq (g5177 _ (by omega))).trans ((fld_eq (h5172.2 c (by rw [show kC c c = 1 from kC_at (k := 0) (by decide)]; decide))).trans ((fld_eq (h5044.2 c (by rw [show kC c c = 1 from kC_at (k := 0) (by decide)]; decide))).trans ((fld_eq (h4805.2 c (by rw [show kC c c = 1 from kC_at (k := 0) (by decide)]; decide))).trans f4793))))) ?_
        refine m_iload_n F rfl e_X10_pays_212 ?_
        refine m_bipush F (v := 9) (by decide) e_X10_pays_213 ?_
        refine m_iadd F e_X10_pays_215 ?_
        refine Wm.topE (w := nI (160 * n901 + 9)) (nI_add (160 * n901) 9) ?_
        refine m_dup2_11 F rfl rfl e_X10_pays_216 ?_
        refine r_sld F (j := 160 * n901 + 9) e_X10_pays_217 h5183 (nI_clamp (by omega)) (vp_in_nI (by omega) (by decide)) (fun x5185 h5186 f5187 => ?_)
        refine m_lload F rfl e_X10_pays_218 ?_
        refine m_ladd F e_X10_pays_220 ?_
        refine Wm.topl (fun x5188 _ => ?_)
        refine r_sst F (g' := (⟨T, Z, u, h, P, L⟩ : RG)) (j := 160 * n901 + 9) e_X10_pays_221 h5183 (by decide) (nI_clamp (by omega)) (vp_in_nI (by omega) (by decide)) (fun f q => EJ_same (EJ_lw (l := n901) (r := 9) (by omega) (by omega) (by omega)) q) (fun _ _ _ q => q) (fun σ5189 h5190 g5191 => ?_)
        refine m_aload_n F rfl e_X10_pays_222 ?_
        refine r_getC F e_X10_pays_223 fl_X10_59 h5190 ((fld_eq (g5191 _ (by omega))).trans ((fld_eq (g5184 _ (by omega))).trans ((fld_eq (g5177 _ (by omega))).trans ((fld_eq (h5172.2 c (by rw [show kC c c = 1 from kC_at (k := 0) (by decide)]; decide))).trans ((fld_eq (h5044.2 c (by rw [show kC c c = 1 from kC_at (k := 0) (by decide)]; decide))).trans ((fld_eq (h4805.2 c (by rw [show kC c c = 1 from kC_at (k := 0) (by decide)]; decide))).trans f4793)))))) ?_
        refine m_iload_n F rfl e_X10_pays_226 ?_
        refine m_bipush F (v := 10) (by decide) e_X10_pays_227 ?_
        refine m_iadd F e_X10_pays_229 ?_
        refine Wm.topE (w := nI (160 * n901 + 10)) (nI_add (160 * n901) 10) ?_
        refine m_dup2_11 F rfl rfl e_X10_pays_230 ?_
        refine r_sld F (j := 160 * n901 + 10) e_X10_pays_231 h5190 (nI_clamp (by omega)) (vp_in_nI (by omega) (by decide)) (fun x5192 h5193 f5194 => ?_)
        refine m_lload_n F rfl e_X10_pays_232 ?_
        refine m_ladd F e_X10_pays_233 ?_
        refine Wm.topl (fun x5195 _ => ?_)
        refine r_sst F (g' := (⟨T, Z, u, h, P, L⟩ : RG)) (j := 160 * n901 + 10) e_X10_pays_234 h5190 (by decide) (nI_clamp (by omega)) (vp_in_nI (by omega) (by decide)) (fun f q => EJ_same (EJ_lw (l := n901) (r := 10) (by omega) (by omega) (by omega)) q) (fun _ _ _ q => q) (fun σ5196 h5197 g5198 => ?_)
        refine m_aload_n F rfl e_X10_pays_235 ?_
        refine r_getC F e_X10_pays_236 fl_X10_59 h5197 ((fld_eq (g5198 _ (by omega))).trans ((fld_eq (g5191 _ (by omega))).trans ((fld_eq (g5184 _ (by omega))).trans ((fld_eq (g5177 _ (by omega))).trans ((fld_eq (h5172.2 c (by rw [show kC c c = 1 from kC_at (k := 0) (by decide)]; decide))).trans ((fld_eq (h5044.2 c (by rw [show kC c c = 1 from kC_at (k := 0) (by decide)]; decide))).trans ((fld_eq (h4805.2 c (by rw [show kC c c = 1 from kC_at (k := 0) (by decide)]; decide))).trans f4793))))))) ?_
        refine m_iload_n F rfl e_X10_pays_239 ?_
        refine m_iconst F (v := 5) (by decide) e_X10_pays_240 ?_
        refine m_iadd F e_X10_pays_241 ?_
        refine Wm.topE (w := nI (160 * n901 + 5)) (nI_add (160 * n901) 5) ?_
        refine m_dup2_11 F rfl rfl e_X10_pays_242 ?_
        refine r_sld F (j := 160 * n901 + 5) e_X10_pays_243 h5197 (nI_clamp (by omega)) (vp_in_nI (by omega) (by decide)) (fun x5199 h5200 f5201 => ?_)
        have hl5202 := hok.2 n901 (by omega)
        obtain rfl : x5199 = lN (L n901).2.2.2 := (EJ_l (l := n901) (r := 5) (by omega) (by decide)).mp h5200
        refine m_lconst F (v := 1) (by decide) e_X10_pays_244 ?_
        refine m_ladd F e_X10_pays_245 ?_
        refine Wm.toplE (w := lN ((L n901).2.2.2 + 1)) (lN_add ((L n901).2.2.2) 1) ?_
        refine r_sst F (g' := (⟨T, Z, u, h, P, (updL L n901 ((L n901).1, (L n901).2.1, (L n901).2.2.1, (L n901).2.2.2 + 1))⟩ : RG)) (j := 160 * n901 + 5) e_X10_pays_246 h5197 (by decide) (nI_clamp (by omega)) (vp_in_nI (by omega) (by decide)) (fun f q => EJ_up (l := n901) (r := 5) (by omega) (by decide) q rfl (by intro r' h1 h2 y hy; revert hy; unfold EL; split <;> simp_all)) CR.row (fun σ5203 h5204 g5205 => ?_)
        obtain ⟨L5206, eL5206⟩ : ∃ L9, L9 = (updL L n901 ((L n901).1, (L n901).2.1, (L n901).2.2.1, (L n901).2.2.2 + 1)) := ⟨_, rfl⟩
        rw [← eL5206] at h5204
        have fL5206 : L5206 n901 = ((L n901).1, (L n901).2.1, (L n901).2.2.1, (L n901).2.2.2 + 1) := by rw [eL5206]; exact if_pos rfl
        have fL52060 : (L5206 n901).1 = (L n901).1 := by rw [fL5206]
        have fL52061 : (L5206 n901).2.1 = (L n901).2.1 := by rw [fL5206]
        have fL52062 : (L5206 n901).2.2.1 = (L n901).2.2.1 := by rw [fL5206]
        have fL52063 : (L5206 n901).2.2.2 = (L n901).2.2.2 + 1 := by rw [fL5206]
        have oL5206 : ∀ i, i ≠ n901 → L5206 i = L i := fun i hi => by rw [eL5206]; exact if_neg hi
        have pL5206 : (L5206 4).1 = (L 4).1 := by rw [oL5206 4 (by omega)]
        refine m_aload_n F rfl e_X10_pays_247 ?_
        refine m_iconst F (v := 1) (by decide) e_X10_pays_248 ?_
        refine m_iload_n F rfl e_X10_pays_249 ?_
        refine m_lload_n F rfl e_X10_pays_250 ?_
        refine m_lneg F e_X10_pays_251 ?_
        refine Wm.topl (fun x5207 _ => ?_)
        refine m_lload F rfl e_X10_pays_252 ?_
        refine m_lload F rfl e_X10_pays_254 ?_
        refine m_lsub F e_X10_pays_256 ?_
        refine Wm.topl (fun x5208 _ => ?_)
        refine m_lload F rfl e_X10_pays_257 ?_
        refine m_lneg F e_X10_pays_259 ?_
        refine Wm.topl (fun x5209 _ => ?_)
        refine m_lload F rfl e_X10_pays_260 ?_
        refine m_lload F rfl e_X10_pays_262 ?_
        refine m_lconst F (v := 0) (by decide) e_X10_pays_264 ?_
        have okb5213 : OKB L5206 := OKB.upd (hok.b) (l := n901) (by omega) (fun i hi => (oL5206 i hi)) (by have h9 := (hok.b).2 n901 (by omega); omega)
        refine r_callV F e_X10_pays_265 (q_X10_entry (x_l X) V c T Z u h P L5206 _ _ 1 (nI n901) x5207 x5208 x5209 x5167 x5174 0 h5204.1 (okb5213) hP ) cb_X10_entry ml_X10_253 im_X10_entry se_X10_entry h5204 rfl rfl (rest := []) rfl (Nat.le_of_ble_eq_true rfl) ⟨Nat.le_of_ble_eq_true rfl, Nat.le_of_ble_eq_true rfl⟩ ⟨Nat.le_of_ble_eq_true rfl, Nat.le_of_ble_eq_true rfl⟩ (fun r σ5210 hp => ?_)
        obtain ⟨h5211, rfl⟩ := hp
        have h5212 := HS.trans h5204 h5211 (by decide)
        refine m_iload F rfl e_X10_pays_268 ?_
        refine m_if_eq F e_X10_pays_270 (fun q => absurd q (by decide)) (fun _ => ?_)
        refine m_aload_n F rfl e_X10_pays_273 ?_
        refine r_getC F e_X10_pays_274 fl_X10_59 h5212 ((fld_eq (h5211.2 c (by rw [show kC c c = 1 from kC_at (k := 0) (by decide)]; decide))).trans ((fld_eq (g5205 _ (by omega))).trans ((fld_eq (g5198 _ (by omega))).trans ((fld_eq (g5191 _ (by omega))).trans ((fld_eq (g5184 _ (by omega))).trans ((fld_eq (g5177 _ (by omega))).trans ((fld_eq (h5172.2 c (by rw [show kC c c = 1 from kC_at (k := 0) (by decide)]; decide))).trans ((fld_eq (h5044.2 c (by rw [show kC c c = 1 from kC_at (k := 0) (by decide)]; decide))).trans ((fld_eq (h4805.2 c (by rw [show kC c c = 1 from kC_at (k := 0) (by decide)]; decide))).trans f4793))))))))) ?_
        refine m_iload_n F rfl e_X10_pays_277 ?_
        refine m_iconst F (v := 0) (by decide) e_X10_pays_278 ?_
        refine m_iadd F e_X10_pays_279 ?_
        refine Wm.topE (w := nI (160 * n901)) (nI_add (160 * n901) 0) ?_
        refine m_ldc2 F kc_X10_234 e_X10_pays_280 ?_
        refine r_sst F (g' := (⟨T, Z, u, h, P, (updL L5206 n901 (2, (L5206 n901).2.1, (L5206 n901).2.2.1, (L5206 n901).2.2.2))⟩ : RG)) (j := 160 * n901) e_X10_pays_283 h5212 (by decide) (nI_clamp (by omega)) (vp_in_nI (by omega) (by decide)) (fun f q => EJ_up (l := n901) (r := 0) (by omega) (by decide) q rfl (by intro r' h1 h2 y hy; revert hy; unfold EL; split <;> simp_all)) CR.row (fun σ5214 h5215 g5216 => ?_)
        obtain ⟨L5217, eL5217⟩ : ∃ L9, L9 = (updL L5206 n901 (2, (L5206 n901).2.1, (L5206 n901).2.2.1, (L5206 n901).2.2.2)) := ⟨_, rfl⟩
        rw [← eL5217] at h5215
        have fL5217 : L5217 n901 = (2, (L5206 n901).2.1, (L5206 n901).2.2.1, (L5206 n901).2.2.2) := by rw [eL5217]; exact if_pos rfl
        have fL52170 : (L5217 n901).1 = 2 := by rw [fL5217]
        have fL52171 : (L5217 n901).2.1 = (L5206 n901).2.1 := by rw [fL5217]
        have fL52172 : (L5217 n901).2.2.1 = (L5206 n901).2.2.1 := by rw [fL5217]
        have fL52173 : (L5217 n901).2.2.2 = (L5206 n901).2.2.2 := by rw [fL5217]
        have oL5217 : ∀ i, i ≠ n901 → L5217 i = L5206 i := fun i hi => by rw [eL5217]; exact if_neg hi
        have pL5217 : (L5217 4).1 = (L5206 4).1 := by rw [oL5217 4 (by omega)]
        have ok5218 : OKL P.n0 L5217 := OKL.upd hok (l := n901) (by omega) (fun i hi => (oL5217 i hi).trans (oL5206 i hi)) (by have h9 := hok.2 n901 (by omega); omega)
        exact m_vret F hQ e_X10_pays_284 (⟨L5217, ok5218, (by first | omega | rfl | assumption), h5215, rfl⟩)
set_option maxRecDepth 20000 in
theorem q_X10_starts1 (l : Launch) (V : VX) (c T Z u h : Nat) (P : NP) (L : Nat → LQ) (N : Nat) (σ : Mem) (n901 : Nat) (h0 : HR V c ⟨T, Z, u, h, P, L⟩ σ) (hok : OKL P.n0 L) (hP : OKP P) (hn901 : n901 ≤ 3) (hp0 : (L n901).1 = 0) (hp1 : n901 < P.n0) : Ct l V yX10_starts1 cX10_starts1 5 none 2 0 0 N σ [.ref c, .int (nI n901)] (fun r τ => ∃ L9, OKL P.n0 L9 ∧ (L9 4).1 = (L 4).1 ∧ HS V c (⟨T, Z, u, h, P, L9⟩ : RG) [0, 1, 2, 3, 4, 5, 6, 7, 8, 9, 10, 11, 12, 13, 14, 15, 16, 18, 19, 20, 21, 22] σ τ ∧ r = none) := by
  refine Ct.of (by decide) (Nat.le_of_ble_eq_true rfl) [(0, .ref c), (1, .int (nI n901))] rfl (fun X hX F hQ => ?_)
  have hPP := hP
  unfold OKP at hPP
  have h1 : HS V c ⟨T, Z, u, h, P, L⟩ [0, 1, 2, 3, 4, 5, 6, 7, 8, 9, 10, 11, 12, 13, 14, 15, 16, 18, 19, 20, 21, 22] σ σ := HS.start h0
  have hl := hok.2 n901 (by omega)
  refine m_sipush F (v := 160) (by decide) e_X10_starts1_0 ?_
  refine m_iload_n F rfl e_X10_starts1_3 ?_
  refine m_imul F e_X10_starts1_4 ?_
  refine Wm.topE (w := nI (160 * n901)) (pk_mul 160 n901) ?_
  refine m_istore_n F (lv' := [(2, .int (nI (160 * n901))), (0, .ref c), (1, .int (nI n901))]) e_X10_starts1_5 (by decide) rfl ?_
  refine m_aload_n F rfl e_X10_starts1_6 ?_
  refine r_get F e_X10_starts1_7 fl_X10_34 h1 rfl (fun v hv f5219 => ?_)
  obtain rfl : v = .ref (c + 9) := hv
  refine m_iload_n F rfl e_X10_starts1_10 ?_
  refine r_iald F (len := 8) (j := n901) e_X10_starts1_11 h1 (fun _ h => h) (by decide) (nI_clamp (by omega)) (vp_in_nI (by omega) (by decide)) (fun x5220 h5221 f5222 => ?_)
  refine m_if_ne F e_X10_starts1_12 (fun q12 => ?_) (fun q12 => ?_)
  · refine m_aload_n F rfl e_X10_starts1_19 ?_
    refine r_getC F e_X10_starts1_20 fl_X10_34 h1 (f5219) ?_
    refine m_iload_n F rfl e_X10_starts1_23 ?_
    refine r_iald F (len := 8) (j := n901) e_X10_starts1_24 h1 (fun _ h => h) (by decide) (nI_clamp (by omega)) (vp_in_nI (by omega) (by decide)) (fun x5223 h5224 f5225 => ?_)
    obtain rfl := Option.some.inj ((f5225).symm.trans (f5222))
    refine m_iconst F (v := 1) (by decide) e_X10_starts1_25 ?_
    refine m_isub F e_X10_starts1_26 ?_
    refine Wm.top (fun x5226 _ => ?_)
    refine m_i2l F e_X10_starts1_27 ?_
    refine Wm.topl (fun x5227 _ => ?_)
    refine m_lstore_n F (lv' := [(3, .long x5227), (2, .int (nI (160 * n901))), (0, .ref c), (1, .int (nI n901))]) e_X10_starts1_28 (by decide) rfl ?_
    refine m_aload_n F rfl e_X10_starts1_29 ?_
    refine r_get F e_X10_starts1_30 fl_X10_59 h1 rfl (fun v hv f5228 => ?_)
    obtain rfl : v = .ref (c + 16) := hv
    refine m_iload_n F rfl e_X10_starts1_33 ?_
    refine m_iconst F (v := 0) (by decide) e_X10_starts1_34 ?_
    refine m_iadd F e_X10_starts1_35 ?_
    refine Wm.topE (w := nI (160 * n901)) (nI_add (160 * n901) 0) ?_
    refine m_lconst F (v := 1) (by decide) e_X10_starts1_36 ?_
    refine r_sst F (g' := (⟨T, Z, u, h, P, (updL L n901 (1, (L n901).2.1, (L n901).2.2.1, (L n901).2.2.2))⟩ : RG)) (j := 160 * n901) e_X10_starts1_37 h1 (by decide) (nI_clamp (by omega)) (vp_in_nI (by omega) (by decide)) (fun f q => EJ_up (l := n901) (r := 0) (by omega) (by decide) q rfl (by intro r' h1 h2 y hy; revert hy; unfold EL; split <;> simp_all)) CR.row (fun σ5229 h5230 g5231 => ?_)
    obtain ⟨L5232, eL5232⟩ : ∃ L9, L9 = (updL L n901 (1, (L n901).2.1, (L n901).2.2.1, (L n901).2.2.2)) := ⟨_, rfl⟩
    rw [← eL5232] at h5230
    have fL5232 : L5232 n901 = (1, (L n901).2.1, (L n901).2.2.1, (L n901).2.2.2) := by rw [eL5232]; exact if_pos rfl
    have fL52320 : (L5232 n901).1 = 1 := by rw [fL5232]
    have fL52321 : (L5232 n901).2.1 = (L n901).2.1 := by rw [fL5232]
    have fL52322 : (L5232 n901).2.2.1 = (L n901).2.2.1 := by rw [fL5232]
    have fL52323 : (L5232 n901).2.2.2 = (L n901).2.2.2 := by rw [fL5232]
    have oL5232 : ∀ i, i ≠ n901 → L5232 i = L i := fun i hi => by rw [eL5232]; exact if_neg hi
    have pL5232 : (L5232 4).1 = (L 4).1 := by rw [oL5232 4 (by omega)]
    refine m_aload_n F rfl e_X10_starts1_38 ?_
    refine r_getC F e_X10_starts1_39 fl_X10_59 h5230 ((fld_eq (g5231 _ (by omega))).trans f5228) ?_
    refine m_iload_n F rfl e_X10_starts1_42 ?_
    refine m_bipush F (v := 6) (by decide) e_X10_starts1_43 ?_
    refine m_iadd F e_X10_starts1_45 ?_
    refine Wm.topE (w := nI (160 * n901 + 6)) (nI_add (160 * n901) 6) ?_
    refine m_aload_n F rfl e_X10_starts1_46 ?_
    refine m_iload_n F rfl e_X10_starts1_47 ?_
    refine m_iconst F (v := 1) (by decide) e_X10_starts1_48 ?_
    refine m_aload_n F rfl e_X10_starts1_49 ?_
    refine r_getC F e_X10_starts1_50 fl_X10_59 h5230 ((fld_eq (g5231 _ (by omega))).trans f5228) ?_
    refine m_iload_n F rfl e_X10_starts1_53 ?_
    refine m_iconst F (v := 2) (by decide) e_X10_starts1_54 ?_
    refine m_iadd F e_X10_starts1_55 ?_
    refine Wm.topE (w := nI (160 * n901 + 2)) (nI_add (160 * n901) 2) ?_
    refine r_sld F (j := 160 * n901 + 2) e_X10_starts1_56 h5230 (nI_clamp (by omega)) (vp_in_nI (by omega) (by decide)) (fun x5233 h5234 f5235 => ?_)
    obtain ⟨n5236, hn5236, rfl⟩ : ∃ n : Nat, n ≤ 1000000 ∧ x5233 = lN n := (EJ_l (l := n901) (r := 2) (by omega) (by decide)).mp h5234
    refine m_ldc2 F kc_X10_245 e_X10_starts1_57 ?_
    have okb5240 : OKB L5232 := OKB.upd (hok.b) (l := n901) (by omega) (fun i hi => (oL5232 i hi)) (by have h9 := (hok.b).2 n901 (by omega); omega)
    refine r_callV F e_X10_starts1_60 (q_X10_worthBy (x_l X) V c T Z u h P L5232 _ _ n901 1 n5236 (-1) h5230.1 (okb5240) hP (by omega) (by omega) (by omega) (by first | omega | assumption | decide)) cb_X10_worthBy ml_X10_247 im_X10_worthBy se_X10_worthBy h5230 rfl rfl (rest := [.int (nI (160 * n901 + 6)), .ref (c + 16)]) rfl (Nat.le_of_ble_eq_true rfl) ⟨Nat.le_of_ble_eq_true rfl, Nat.le_of_ble_eq_true rfl⟩ ⟨Nat.le_of_ble_eq_true rfl, Nat.le_of_ble_eq_true rfl⟩ (fun r σ5237 hp => ?_)
    obtain ⟨h5238, x5241, rfl⟩ := hp
    have h5239 := HS.trans h5230 h5238 (by decide)
    refine r_sst F (g' := (⟨T, Z, u, h, P, L5232⟩ : RG)) (j := 160 * n901 + 6) e_X10_starts1_63 h5239 (by decide) (nI_clamp (by omega)) (vp_in_nI (by omega) (by decide)) (fun f q => EJ_same (EJ_lw (l := n901) (r := 6) (by omega) (by omega) (by omega)) q) (fun _ _ _ q => q) (fun σ5242 h5243 g5244 => ?_)
    refine m_aload_n F rfl e_X10_starts1_64 ?_
    refine r_getC F e_X10_starts1_65 fl_X10_59 h5243 ((fld_eq (g5244 _ (by omega))).trans ((fld_eq (h5238.2 c (by rw [show kC c c = 1 from kC_at (k := 0) (by decide)]; decide))).trans ((fld_eq (g5231 _ (by omega))).trans f5228))) ?_
    refine m_iload_n F rfl e_X10_starts1_68 ?_
    refine m_bipush F (v := 8) (by decide) e_X10_starts1_69 ?_
    refine m_iadd F e_X10_starts1_71 ?_
    refine Wm.topE (w := nI (160 * n901 + 8)) (nI_add (160 * n901) 8) ?_
    refine m_aload_n F rfl e_X10_starts1_72 ?_
    refine r_getC F e_X10_starts1_73 fl_X10_59 h5243 ((fld_eq (g5244 _ (by omega))).trans ((fld_eq (h5238.2 c (by rw [show kC c c = 1 from kC_at (k := 0) (by decide)]; decide))).trans ((fld_eq (g5231 _ (by omega))).trans f5228))) ?_
    refine m_iload_n F rfl e_X10_starts1_76 ?_
    refine m_bipush F (v := 6) (by decide) e_X10_starts1_77 ?_
    refine m_iadd F e_X10_starts1_79 ?_
    refine Wm.topE (w := nI (160 * n901 + 6)) (nI_add (160 * n901) 6) ?_
    refine r_sld F (j := 160 * n901 + 6) e_X10_starts1_80 h5243 (nI_clamp (by omega)) (vp_in_nI (by omega) (by decide)) (fun x5245 h5246 f5247 => ?_)
    refine r_sst F (g' := (⟨T, Z, u, h, P, L5232⟩ : RG)) (j := 160 * n901 + 8) e_X10_starts1_81 h5243 (by decide) (nI_clamp (by omega)) (vp_in_nI (by omega) (by decide)) (fun f q => EJ_same (EJ_lw (l := n901) (r := 8) (by omega) (by omega) (by omega)) q) (fun _ _ _ q => q) (fun σ5248 h5249 g5250 => ?_)
    refine m_aload_n F rfl e_X10_starts1_82 ?_
    refine r_getC F e_X10_starts1_83 fl_X10_59 h5249 ((fld_eq (g5250 _ (by omega))).trans ((fld_eq (g5244 _ (by omega))).trans ((fld_eq (h5238.2 c (by rw [show kC c c = 1 from kC_at (k := 0) (by decide)]; decide))).trans ((fld_eq (g5231 _ (by omega))).trans f5228)))) ?_
    refine m_iload_n F rfl e_X10_starts1_86 ?_
    refine m_bipush F (v := 7) (by decide) e_X10_starts1_87 ?_
    refine m_iadd F e_X10_starts1_89 ?_
    refine Wm.topE (w := nI (160 * n901 + 7)) (nI_add (160 * n901) 7) ?_
    refine m_aload_n F rfl e_X10_starts1_90 ?_
    refine r_getC F e_X10_starts1_91 fl_X10_59 h5249 ((fld_eq (g5250 _ (by omega))).trans ((fld_eq (g5244 _ (by omega))).trans ((fld_eq (h5238.2 c (by rw [show kC c c = 1 from kC_at (k := 0) (by decide)]; decide))).trans ((fld_eq (g5231 _ (by omega))).trans f5228)))) ?_
    refine m_iload_n F rfl e_X10_starts1_94 ?_
    refine m_bipush F (v := 6) (by decide) e_X10_starts1_95 ?_
    refine m_iadd F e_X10_starts1_97 ?_
    refine Wm.topE (w := nI (160 * n901 + 6)) (nI_add (160 * n901) 6) ?_
    refine r_sld F (j := 160 * n901 + 6) e_X10_starts1_98 h5249 (nI_clamp (by omega)) (vp_in_nI (by omega) (by decide)) (fun x5251 h5252 f5253 => ?_)
    refine m_lload_n F rfl e_X10_starts1_99 ?_
    refine m_ladd F e_X10_starts1_100 ?_
    refine Wm.topl (fun x5254 _ => ?_)
    refine r_sst F (g' := (⟨T, Z, u, h, P, L5232⟩ : RG)) (j := 160 * n901 + 7) e_X10_starts1_101 h5249 (by decide) (nI_clamp (by omega)) (vp_in_nI (by omega) (by decide)) (fun f q => EJ_same (EJ_lw (l := n901) (r := 7) (by omega) (by omega) (by omega)) q) (fun _ _ _ q => q) (fun σ5255 h5256 g5257 => ?_)
    refine m_aload_n F rfl e_X10_starts1_102 ?_
    refine r_getC F e_X10_starts1_103 fl_X10_59 h5256 ((fld_eq (g5257 _ (by omega))).trans ((fld_eq (g5250 _ (by omega))).trans ((fld_eq (g5244 _ (by omega))).trans ((fld_eq (h5238.2 c (by rw [show kC c c = 1 from kC_at (k := 0) (by decide)]; decide))).trans ((fld_eq (g5231 _ (by omega))).trans f5228))))) ?_
    refine m_iload_n F rfl e_X10_starts1_106 ?_
    refine m_iconst F (v := 3) (by decide) e_X10_starts1_107 ?_
    refine m_iadd F e_X10_starts1_108 ?_
    refine Wm.topE (w := nI (160 * n901 + 3)) (nI_add (160 * n901) 3) ?_
    refine m_aload_n F rfl e_X10_starts1_109 ?_
    have okb5261 : OKB L5232 := OKB.upd (hok.b) (l := n901) (by omega) (fun i hi => (oL5232 i hi)) (by have h9 := (hok.b).2 n901 (by omega); omega)
    refine r_callV F e_X10_starts1_110 (q_X10_indexNow (x_l X) V c T Z u h P L5232 _ _  h5256.1 (okb5261) hP ) cb_X10_indexNow ml_X10_260 im_X10_indexNow se_X10_indexNow h5256 rfl rfl (rest := [.int (nI (160 * n901 + 3)), .ref (c + 16)]) rfl (Nat.le_of_ble_eq_true rfl) ⟨Nat.le_of_ble_eq_true rfl, Nat.le_of_ble_eq_true rfl⟩ ⟨Nat.le_of_ble_eq_true rfl, Nat.le_of_ble_eq_true rfl⟩ (fun r σ5258 hp => ?_)
    obtain ⟨h5259, n5262, hn5262, gn5262, rfl⟩ := hp
    have h5260 := HS.trans h5256 h5259 (by decide)
    refine r_sst F (g' := (⟨T, Z, u, h, P, (updL L5232 n901 ((L5232 n901).1, (L5232 n901).2.1, n5262, (L5232 n901).2.2.2))⟩ : RG)) (j := 160 * n901 + 3) e_X10_starts1_113 h5260 (by decide) (nI_clamp (by omega)) (vp_in_nI (by omega) (by decide)) (fun f q => EJ_up (l := n901) (r := 3) (by omega) (by decide) q rfl (by intro r' h1 h2 y hy; revert hy; unfold EL; split <;> simp_all)) CR.row (fun σ5263 h5264 g5265 => ?_)
    obtain ⟨L5266, eL5266⟩ : ∃ L9, L9 = (updL L5232 n901 ((L5232 n901).1, (L5232 n901).2.1, n5262, (L5232 n901).2.2.2)) := ⟨_, rfl⟩
    rw [← eL5266] at h5264
    have fL5266 : L5266 n901 = ((L5232 n901).1, (L5232 n901).2.1, n5262, (L5232 n901).2.2.2) := by rw [eL5266]; exact if_pos rfl
    have fL52660 : (L5266 n901).1 = (L5232 n901).1 := by rw [fL5266]
    have fL52661 : (L5266 n901).2.1 = (L5232 n901).2.1 := by rw [fL5266]
    have fL52662 : (L5266 n901).2.2.1 = n5262 := by rw [fL5266]
    have fL52663 : (L5266 n901).2.2.2 = (L5232 n901).2.2.2 := by rw [fL5266]
    have oL5266 : ∀ i, i ≠ n901 → L5266 i = L5232 i := fun i hi => by rw [eL5266]; exact if_neg hi
    have pL5266 : (L5266 4).1 = (L5232 4).1 := by rw [oL5266 4 (by omega)]
    refine m_aload_n F rfl e_X10_starts1_114 ?_
    refine r_getC F e_X10_starts1_115 fl_X10_59 h5264 ((fld_eq (g5265 _ (by omega))).trans ((fld_eq (h5259.2 c (by rw [show kC c c = 1 from kC_at (k := 0) (by decide)]; decide))).trans ((fld_eq (g5257 _ (by omega))).trans ((fld_eq (g5250 _ (by omega))).trans ((fld_eq (g5244 _ (by omega))).trans ((fld_eq (h5238.2 c (by rw [show kC c c = 1 from kC_at (k := 0) (by decide)]; decide))).trans ((fld_eq (g5231 _ (by omega))).trans f5228))))))) ?_
    refine m_iload_n F rfl e_X10_starts1_118 ?_
    refine m_iconst F (v := 4) (by decide) e_X10_starts1_119 ?_
    refine m_iadd F e_X10_starts1_120 ?_
    refine Wm.topE (w := nI (160 * n901 + 4)) (nI_add (160 * n901) 4) ?_
    refine m_aload_n F rfl e_X10_starts1_121 ?_
    have okb5270 : OKB L5266 := OKB.upd (hok.b) (l := n901) (by omega) (fun i hi => (oL5266 i hi).trans (oL5232 i hi)) (by have h9 := (hok.b).2 n901 (by omega); omega)
    refine r_callV F e_X10_starts1_122 (q_X10_indexNow (x_l X) V c T Z u h P L5266 _ _  h5264.1 (okb5270) hP ) cb_X10_indexNow ml_X10_260 im_X10_indexNow se_X10_indexNow h5264 rfl rfl (rest := [.int (nI (160 * n901 + 4)), .ref (c + 16)]) rfl (Nat.le_of_ble_eq_true rfl) ⟨Nat.le_of_ble_eq_true rfl, Nat.le_of_ble_eq_true rfl⟩ ⟨Nat.le_of_ble_eq_true rfl, Nat.le_of_ble_eq_true rfl⟩ (fun r σ5267 hp => ?_)
    obtain ⟨h5268, n5271, hn5271, gn5271, rfl⟩ := hp
    have h5269 := HS.trans h5264 h5268 (by decide)
    refine r_sst F (g' := (⟨T, Z, u, h, P, L5266⟩ : RG)) (j := 160 * n901 + 4) e_X10_starts1_125 h5269 (by decide) (nI_clamp (by omega)) (vp_in_nI (by omega) (by decide)) (fun f q => EJ_same (EJ_lw (l := n901) (r := 4) (by omega) (by omega) (by omega)) q) (fun _ _ _ q => q) (fun σ5272 h5273 g5274 => ?_)
    refine m_aload_n F rfl e_X10_starts1_126 ?_
    refine m_iconst F (v := 0) (by decide) e_X10_starts1_127 ?_
    refine m_iload_n F rfl e_X10_starts1_128 ?_
    refine m_lload_n F rfl e_X10_starts1_129 ?_
    refine m_lneg F e_X10_starts1_130 ?_
    refine Wm.topl (fun x5275 _ => ?_)
    refine m_aload_n F rfl e_X10_starts1_131 ?_
    refine r_getC F e_X10_starts1_132 fl_X10_59 h5273 ((fld_eq (g5274 _ (by omega))).trans ((fld_eq (h5268.2 c (by rw [show kC c c = 1 from kC_at (k := 0) (by decide)]; decide))).trans ((fld_eq (g5265 _ (by omega))).trans ((fld_eq (h5259.2 c (by rw [show kC c c = 1 from kC_at (k := 0) (by decide)]; decide))).trans ((fld_eq (g5257 _ (by omega))).trans ((fld_eq (g5250 _ (by omega))).trans ((fld_eq (g5244 _ (by omega))).trans ((fld_eq (h5238.2 c (by rw [show kC c c = 1 from kC_at (k := 0) (by decide)]; decide))).trans ((fld_eq (g5231 _ (by omega))).trans f5228))))))))) ?_
    refine m_iload_n F rfl e_X10_starts1_135 ?_
    refine m_bipush F (v := 6) (by decide) e_X10_starts1_136 ?_
    refine m_iadd F e_X10_starts1_138 ?_
    refine Wm.topE (w := nI (160 * n901 + 6)) (nI_add (160 * n901) 6) ?_
    refine r_sld F (j := 160 * n901 + 6) e_X10_starts1_139 h5273 (nI_clamp (by omega)) (vp_in_nI (by omega) (by decide)) (fun x5276 h5277 f5278 => ?_)
    refine m_lneg F e_X10_starts1_140 ?_
    refine Wm.topl (fun x5279 _ => ?_)
    refine m_aload_n F rfl e_X10_starts1_141 ?_
    refine r_getC F e_X10_starts1_142 fl_X10_59 h5273 ((fld_eq (g5274 _ (by omega))).trans ((fld_eq (h5268.2 c (by rw [show kC c c = 1 from kC_at (k := 0) (by decide)]; decide))).trans ((fld_eq (g5265 _ (by omega))).trans ((fld_eq (h5259.2 c (by rw [show kC c c = 1 from kC_at (k := 0) (by decide)]; decide))).trans ((fld_eq (g5257 _ (by omega))).trans ((fld_eq (g5250 _ (by omega))).trans ((fld_eq (g5244 _ (by omega))).trans ((fld_eq (h5238.2 c (by rw [show kC c c = 1 from kC_at (k := 0) (by decide)]; decide))).trans ((fld_eq (g5231 _ (by omega))).trans f5228))))))))) ?_
    refine m_iload_n F rfl e_X10_starts1_145 ?_
    refine m_bipush F (v := 7) (by decide) e_X10_starts1_146 ?_
    refine m_iadd F e_X10_starts1_148 ?_
    refine Wm.topE (w := nI (160 * n901 + 7)) (nI_add (160 * n901) 7) ?_
    refine r_sld F (j := 160 * n901 + 7) e_X10_starts1_149 h5273 (nI_clamp (by omega)) (vp_in_nI (by omega) (by decide)) (fun x5280 h5281 f5282 => ?_)
    refine m_lconst F (v := 0) (by decide) e_X10_starts1_150 ?_
    refine m_lconst F (v := 0) (by decide) e_X10_starts1_151 ?_
    refine m_lconst F (v := 0) (by decide) e_X10_starts1_152 ?_
    have okb5286 : OKB L5266 := OKB.upd (hok.b) (l := n901) (by omega) (fun i hi => (oL5266 i hi).trans (oL5232 i hi)) (by have h9 := (hok.b).2 n901 (by omega); omega)
    refine r_callV F e_X10_starts1_153 (q_X10_entry (x_l X) V c T Z u h P L5266 _ _ 0 (nI n901) x5275 x5279 x5280 0 0 0 h5273.1 (okb5286) hP ) cb_X10_entry ml_X10_253 im_X10_entry se_X10_entry h5273 rfl rfl (rest := []) rfl (Nat.le_of_ble_eq_true rfl) ⟨Nat.le_of_ble_eq_true rfl, Nat.le_of_ble_eq_true rfl⟩ ⟨Nat.le_of_ble_eq_true rfl, Nat.le_of_ble_eq_true rfl⟩ (fun r σ5283 hp => ?_)
    obtain ⟨h5284, rfl⟩ := hp
    have h5285 := HS.trans h5273 h5284 (by decide)
    have ok5287 : OKL P.n0 L5266 := OKL.upd hok (l := n901) (by omega) (fun i hi => (oL5266 i hi).trans (oL5232 i hi)) (by have h9 := hok.2 n901 (by omega); omega)
    exact m_vret F hQ e_X10_starts1_156 (⟨L5266, ok5287, (by first | omega | rfl | assumption), h5285, rfl⟩)
  · subst q12
    refine m_lconst F (v := 0) (by decide) e_X10_starts1_15 ?_
    refine m_goto F e_X10_starts1_16 ?_
    refine m_lstore_n F (lv' := [(3, .long 0), (2, .int (nI (160 * n901))), (0, .ref c), (1, .int (nI n901))]) e_X10_starts1_28 (by decide) rfl ?_
    refine m_aload_n F rfl e_X10_starts1_29 ?_
    refine r_get F e_X10_starts1_30 fl_X10_59 h1 rfl (fun v hv f5288 => ?_)
    obtain rfl : v = .ref (c + 16) := hv
    refine m_iload_n F rfl e_X10_starts1_33 ?_
    refine m_iconst F (v := 0) (by decide) e_X10_starts1_34 ?_
    refine m_iadd F e_X10_starts1_35 ?_
    refine Wm.topE (w := nI (160 * n901)) (nI_add (160 * n901) 0) ?_
    refine m_lconst F (v := 1) (by decide) e_X10_starts1_36 ?_
    refine r_sst F (g' := (⟨T, Z, u, h, P, (updL L n901 (1, (L n901).2.1, (L n901).2.2.1, (L n901).2.2.2))⟩ : RG)) (j := 160 * n901) e_X10_starts1_37 h1 (by decide) (nI_clamp (by omega)) (vp_in_nI (by omega) (by decide)) (fun f q => EJ_up (l := n901) (r := 0) (by omega) (by decide) q rfl (by intro r' h1 h2 y hy; revert hy; unfold EL; split <;> simp_all)) CR.row (fun σ5289 h5290 g5291 => ?_)
    obtain ⟨L5292, eL5292⟩ : ∃ L9, L9 = (updL L n901 (1, (L n901).2.1, (L n901).2.2.1, (L n901).2.2.2)) := ⟨_, rfl⟩
    rw [← eL5292] at h5290
    have fL5292 : L5292 n901 = (1, (L n901).2.1, (L n901).2.2.1, (L n901).2.2.2) := by rw [eL5292]; exact if_pos rfl
    have fL52920 : (L5292 n901).1 = 1 := by rw [fL5292]
    have fL52921 : (L5292 n901).2.1 = (L n901).2.1 := by rw [fL5292]
    have fL52922 : (L5292 n901).2.2.1 = (L n901).2.2.1 := by rw [fL5292]
    have fL52923 : (L5292 n901).2.2.2 = (L n901).2.2.2 := by rw [fL5292]
    have oL5292 : ∀ i, i ≠ n901 → L5292 i = L i := fun i hi => by rw [eL5292]; exact if_neg hi
    have pL5292 : (L5292 4).1 = (L 4).1 := by rw [oL5292 4 (by omega)]
    refine m_aload_n F rfl e_X10_starts1_38 ?_
    refine r_getC F e_X10_starts1_39 fl_X10_59 h5290 ((fld_eq (g5291 _ (by omega))).trans f5288) ?_
    refine m_iload_n F rfl e_X10_starts1_42 ?_
    refine m_bipush F (v := 6) (by decide) e_X10_starts1_43 ?_
    refine m_iadd F e_X10_starts1_45 ?_
    refine Wm.topE (w := nI (160 * n901 + 6)) (nI_add (160 * n901) 6) ?_
    refine m_aload_n F rfl e_X10_starts1_46 ?_
    refine m_iload_n F rfl e_X10_starts1_47 ?_
    refine m_iconst F (v := 1) (by decide) e_X10_starts1_48 ?_
    refine m_aload_n F rfl e_X10_starts1_49 ?_
    refine r_getC F e_X10_starts1_50 fl_X10_59 h5290 ((fld_eq (g5291 _ (by omega))).trans f5288) ?_
    refine m_iload_n F rfl e_X10_starts1_53 ?_
    refine m_iconst F (v := 2) (by decide) e_X10_starts1_54 ?_
    refine m_iadd F e_X10_starts1_55 ?_
    refine Wm.topE (w := nI (160 * n901 + 2)) (nI_add (160 * n901) 2) ?_
    refine r_sld F (j := 160 * n901 + 2) e_X10_starts1_56 h5290 (nI_clamp (by omega)) (vp_in_nI (by omega) (by decide)) (fun x5293 h5294 f5295 => ?_)
    obtain ⟨n5296, hn5296, rfl⟩ : ∃ n : Nat, n ≤ 1000000 ∧ x5293 = lN n := (EJ_l (l := n901) (r := 2) (by omega) (by decide)).mp h5294
    refine m_ldc2 F kc_X10_245 e_X10_starts1_57 ?_
    have okb5300 : OKB L5292 := OKB.upd (hok.b) (l := n901) (by omega) (fun i hi => (oL5292 i hi)) (by have h9 := (hok.b).2 n901 (by omega); omega)
    refine r_callV F e_X10_starts1_60 (q_X10_worthBy (x_l X) V c T Z u h P L5292 _ _ n901 1 n5296 (-1) h5290.1 (okb5300) hP (by omega) (by omega) (by omega) (by first | omega | assumption | decide)) cb_X10_worthBy ml_X10_247 im_X10_worthBy se_X10_worthBy h5290 rfl rfl (rest := [.int (nI (160 * n901 + 6)), .ref (c + 16)]) rfl (Nat.le_of_ble_eq_true rfl) ⟨Nat.le_of_ble_eq_true rfl, Nat.le_of_ble_eq_true rfl⟩ ⟨Nat.le_of_ble_eq_true rfl, Nat.le_of_ble_eq_true rfl⟩ (fun r σ5297 hp => ?_)
    obtain ⟨h5298, x5301, rfl⟩ := hp
    have h5299 := HS.trans h5290 h5298 (by decide)
    refine r_sst F (g' := (⟨T, Z, u, h, P, L5292⟩ : RG)) (j := 160 * n901 + 6) e_X10_starts1_63 h5299 (by decide) (nI_clamp (by omega)) (vp_in_nI (by omega) (by decide)) (fun f q => EJ_same (EJ_lw (l := n901) (r := 6) (by omega) (by omega) (by omega)) q) (fun _ _ _ q => q) (fun σ5302 h5303 g5304 => ?_)
    refine m_aload_n F rfl e_X10_starts1_64 ?_
    refine r_getC F e_X10_starts1_65 fl_X10_59 h5303 ((fld_eq (g5304 _ (by omega))).trans ((fld_eq (h5298.2 c (by rw [show kC c c = 1 from kC_at (k := 0) (by decide)]; decide))).trans ((fld_eq (g5291 _ (by omega))).trans f5288))) ?_
    refine m_iload_n F rfl e_X10_starts1_68 ?_
    refine m_bipush F (v := 8) (by decide) e_X10_starts1_69 ?_
    refine m_iadd F e_X10_starts1_71 ?_
    refine Wm.topE (w := nI (160 * n901 + 8)) (nI_add (160 * n901) 8) ?_
    refine m_aload_n F rfl e_X10_starts1_72 ?_
    refine r_getC F e_X10_starts1_73 fl_X10_59 h5303 ((fld_eq (g5304 _ (by omega))).trans ((fld_eq (h5298.2 c (by rw [show kC c c = 1 from kC_at (k := 0) (by decide)]; decide))).trans ((fld_eq (g5291 _ (by omega))).trans f5288))) ?_
    refine m_iload_n F rfl e_X10_starts1_76 ?_
    refine m_bipush F (v := 6) (by decide) e_X10_starts1_77 ?_
    refine m_iadd F e_X10_starts1_79 ?_
    refine Wm.topE (w := nI (160 * n901 + 6)) (nI_add (160 * n901) 6) ?_
    refine r_sld F (j := 160 * n901 + 6) e_X10_starts1_80 h5303 (nI_clamp (by omega)) (vp_in_nI (by omega) (by decide)) (fun x5305 h5306 f5307 => ?_)
    refine r_sst F (g' := (⟨T, Z, u, h, P, L5292⟩ : RG)) (j := 160 * n901 + 8) e_X10_starts1_81 h5303 (by decide) (nI_clamp (by omega)) (vp_in_nI (by omega) (by decide)) (fun f q => EJ_same (EJ_lw (l := n901) (r := 8) (by omega) (by omega) (by omega)) q) (fun _ _ _ q => q) (fun σ5308 h5309 g5310 => ?_)
    refine m_aload_n F rfl e_X10_starts1_82 ?_
    refine r_getC F e_X10_starts1_83 fl_X10_59 h5309 ((fld_eq (g5310 _ (by omega))).trans ((fld_eq (g5304 _ (by omega))).trans ((fld_eq (h5298.2 c (by rw [show kC c c = 1 from kC_at (k := 0) (by decide)]; decide))).trans ((fld_eq (g5291 _ (by omega))).trans f5288)))) ?_
    refine m_iload_n F rfl e_X10_starts1_86 ?_
    refine m_bipush F (v := 7) (by decide) e_X10_starts1_87 ?_
    refine m_iadd F e_X10_starts1_89 ?_
    refine Wm.topE (w := nI (160 * n901 + 7)) (nI_add (160 * n901) 7) ?_
    refine m_aload_n F rfl e_X10_starts1_90 ?_
    refine r_getC F e_X10_starts1_91 fl_X10_59 h5309 ((fld_eq (g5310 _ (by omega))).trans ((fld_eq (g5304 _ (by omega))).trans ((fld_eq (h5298.2 c (by rw [show kC c c = 1 from kC_at (k := 0) (by decide)]; decide))).trans ((fld_eq (g5291 _ (by omega))).trans f5288)))) ?_
    refine m_iload_n F rfl e_X10_starts1_94 ?_
    refine m_bipush F (v := 6) (by decide) e_X10_starts1_95 ?_
    refine m_iadd F e_X10_starts1_97 ?_
    refine Wm.topE (w := nI (160 * n901 + 6)) (nI_add (160 * n901) 6) ?_
    refine r_sld F (j := 160 * n901 + 6) e_X10_starts1_98 h5309 (nI_clamp (by omega)) (vp_in_nI (by omega) (by decide)) (fun x5311 h5312 f5313 => ?_)
    refine m_lload_n F rfl e_X10_starts1_99 ?_
    refine m_ladd F e_X10_starts1_100 ?_
    refine Wm.topl (fun x5314 _ => ?_)
    refine r_sst F (g' := (⟨T, Z, u, h, P, L5292⟩ : RG)) (j := 160 * n901 + 7) e_X10_starts1_101 h5309 (by decide) (nI_clamp (by omega)) (vp_in_nI (by omega) (by decide)) (fun f q => EJ_same (EJ_lw (l := n901) (r := 7) (by omega) (by omega) (by omega)) q) (fun _ _ _ q => q) (fun σ5315 h5316 g5317 => ?_)
    refine m_aload_n F rfl e_X10_starts1_102 ?_
    refine r_getC F e_X10_starts1_103 fl_X10_59 h5316 ((fld_eq (g5317 _ (by omega))).trans ((fld_eq (g5310 _ (by omega))).trans ((fld_eq (g5304 _ (by omega))).trans ((fld_eq (h5298.2 c (by rw [show kC c c = 1 from kC_at (k := 0) (by decide)]; decide))).trans ((fld_eq (g5291 _ (by omega))).trans f5288))))) ?_
    refine m_iload_n F rfl e_X10_starts1_106 ?_
    refine m_iconst F (v := 3) (by decide) e_X10_starts1_107 ?_
    refine m_iadd F e_X10_starts1_108 ?_
    refine Wm.topE (w := nI (160 * n901 + 3)) (nI_add (160 * n901) 3) ?_
    refine m_aload_n F rfl e_X10_starts1_109 ?_
    have okb5321 : OKB L5292 := OKB.upd (hok.b) (l := n901) (by omega) (fun i hi => (oL5292 i hi)) (by have h9 := (hok.b).2 n901 (by omega); omega)
    refine r_callV F e_X10_starts1_110 (q_X10_indexNow (x_l X) V c T Z u h P L5292 _ _  h5316.1 (okb5321) hP ) cb_X10_indexNow ml_X10_260 im_X10_indexNow se_X10_indexNow h5316 rfl rfl (rest := [.int (nI (160 * n901 + 3)), .ref (c + 16)]) rfl (Nat.le_of_ble_eq_true rfl) ⟨Nat.le_of_ble_eq_true rfl, Nat.le_of_ble_eq_true rfl⟩ ⟨Nat.le_of_ble_eq_true rfl, Nat.le_of_ble_eq_true rfl⟩ (fun r σ5318 hp => ?_)
    obtain ⟨h5319, n5322, hn5322, gn5322, rfl⟩ := hp
    have h5320 := HS.trans h5316 h5319 (by decide)
    refine r_sst F (g' := (⟨T, Z, u, h, P, (updL L5292 n901 ((L5292 n901).1, (L5292 n901).2.1, n5322, (L5292 n901).2.2.2))⟩ : RG)) (j := 160 * n901 + 3) e_X10_starts1_113 h5320 (by decide) (nI_clamp (by omega)) (vp_in_nI (by omega) (by decide)) (fun f q => EJ_up (l := n901) (r := 3) (by omega) (by decide) q rfl (by intro r' h1 h2 y hy; revert hy; unfold EL; split <;> simp_all)) CR.row (fun σ5323 h5324 g5325 => ?_)
    obtain ⟨L5326, eL5326⟩ : ∃ L9, L9 = (updL L5292 n901 ((L5292 n901).1, (L5292 n901).2.1, n5322, (L5292 n901).2.2.2)) := ⟨_, rfl⟩
    rw [← eL5326] at h5324
    have fL5326 : L5326 n901 = ((L5292 n901).1, (L5292 n901).2.1, n5322, (L5292 n901).2.2.2) := by rw [eL5326]; exact if_pos rfl
    have fL53260 : (L5326 n901).1 = (L5292 n901).1 := by rw [fL5326]
    have fL53261 : (L5326 n901).2.1 = (L5292 n901).2.1 := by rw [fL5326]
    have fL53262 : (L5326 n901).2.2.1 = n5322 := by rw [fL5326]
    have fL53263 : (L5326 n901).2.2.2 = (L5292 n901).2.2.2 := by rw [fL5326]
    have oL5326 : ∀ i, i ≠ n901 → L5326 i = L5292 i := fun i hi => by rw [eL5326]; exact if_neg hi
    have pL5326 : (L5326 4).1 = (L5292 4).1 := by rw [oL5326 4 (by omega)]
    refine m_aload_n F rfl e_X10_starts1_114 ?_
    refine r_getC F e_X10_starts1_115 fl_X10_59 h5324 ((fld_eq (g5325 _ (by omega))).trans ((fld_eq (h5319.2 c (by rw [show kC c c = 1 from kC_at (k := 0) (by decide)]; decide))).trans ((fld_eq (g5317 _ (by omega))).trans ((fld_eq (g5310 _ (by omega))).trans ((fld_eq (g5304 _ (by omega))).trans ((fld_eq (h5298.2 c (by rw [show kC c c = 1 from kC_at (k := 0) (by decide)]; decide))).trans ((fld_eq (g5291 _ (by omega))).trans f5288))))))) ?_
    refine m_iload_n F rfl e_X10_starts1_118 ?_
    refine m_iconst F (v := 4) (by decide) e_X10_starts1_119 ?_
    refine m_iadd F e_X10_starts1_120 ?_
    refine Wm.topE (w := nI (160 * n901 + 4)) (nI_add (160 * n901) 4) ?_
    refine m_aload_n F rfl e_X10_starts1_121 ?_
    have okb5330 : OKB L5326 := OKB.upd (hok.b) (l := n901) (by omega) (fun i hi => (oL5326 i hi).trans (oL5292 i hi)) (by have h9 := (hok.b).2 n901 (by omega); omega)
    refine r_callV F e_X10_starts1_122 (q_X10_indexNow (x_l X) V c T Z u h P L5326 _ _  h5324.1 (okb5330) hP ) cb_X10_indexNow ml_X10_260 im_X10_indexNow se_X10_indexNow h5324 rfl rfl (rest := [.int (nI (160 * n901 + 4)), .ref (c + 16)]) rfl (Nat.le_of_ble_eq_true rfl) ⟨Nat.le_of_ble_eq_true rfl, Nat.le_of_ble_eq_true rfl⟩ ⟨Nat.le_of_ble_eq_true rfl, Nat.le_of_ble_eq_true rfl⟩ (fun r σ5327 hp => ?_)
    obtain ⟨h5328, n5331, hn5331, gn5331, rfl⟩ := hp
    have h5329 := HS.trans h5324 h5328 (by decide)
    refine r_sst F (g' := (⟨T, Z, u, h, P, L5326⟩ : RG)) (j := 160 * n901 + 4) e_X10_starts1_125 h5329 (by decide) (nI_clamp (by omega)) (vp_in_nI (by omega) (by decide)) (fun f q => EJ_same (EJ_lw (l := n901) (r := 4) (by omega) (by omega) (by omega)) q) (fun _ _ _ q => q) (fun σ5332 h5333 g5334 => ?_)
    refine m_aload_n F rfl e_X10_starts1_126 ?_
    refine m_iconst F (v := 0) (by decide) e_X10_starts1_127 ?_
    refine m_iload_n F rfl e_X10_starts1_128 ?_
    refine m_lload_n F rfl e_X10_starts1_129 ?_
    refine m_lneg F e_X10_starts1_130 ?_
    refine Wm.topl (fun x5335 _ => ?_)
    refine m_aload_n F rfl e_X10_starts1_131 ?_
    refine r_getC F e_X10_starts1_132 fl_X10_59 h5333 ((fld_eq (g5334 _ (by omega))).trans ((fld_eq (h5328.2 c (by rw [show kC c c = 1 from kC_at (k := 0) (by decide)]; decide))).trans ((fld_eq (g5325 _ (by omega))).trans ((fld_eq (h5319.2 c (by rw [show kC c c = 1 from kC_at (k := 0) (by decide)]; decide))).trans ((fld_eq (g5317 _ (by omega))).trans ((fld_eq (g5310 _ (by omega))).trans ((fld_eq (g5304 _ (by omega))).trans ((fld_eq (h5298.2 c (by rw [show kC c c = 1 from kC_at (k := 0) (by decide)]; decide))).trans ((fld_eq (g5291 _ (by omega))).trans f5288))))))))) ?_
    refine m_iload_n F rfl e_X10_starts1_135 ?_
    refine m_bipush F (v := 6) (by decide) e_X10_starts1_136 ?_
    refine m_iadd F e_X10_starts1_138 ?_
    refine Wm.topE (w := nI (160 * n901 + 6)) (nI_add (160 * n901) 6) ?_
    refine r_sld F (j := 160 * n901 + 6) e_X10_starts1_139 h5333 (nI_clamp (by omega)) (vp_in_nI (by omega) (by decide)) (fun x5336 h5337 f5338 => ?_)
    refine m_lneg F e_X10_starts1_140 ?_
    refine Wm.topl (fun x5339 _ => ?_)
    refine m_aload_n F rfl e_X10_starts1_141 ?_
    refine r_getC F e_X10_starts1_142 fl_X10_59 h5333 ((fld_eq (g5334 _ (by omega))).trans ((fld_eq (h5328.2 c (by rw [show kC c c = 1 from kC_at (k := 0) (by decide)]; decide))).trans ((fld_eq (g5325 _ (by omega))).trans ((fld_eq (h5319.2 c (by rw [show kC c c = 1 from kC_at (k := 0) (by decide)]; decide))).trans ((fld_eq (g5317 _ (by omega))).trans ((fld_eq (g5310 _ (by omega))).trans ((fld_eq (g5304 _ (by omega))).trans ((fld_eq (h5298.2 c (by rw [show kC c c = 1 from kC_at (k := 0) (by decide)]; decide))).trans ((fld_eq (g5291 _ (by omega))).trans f5288))))))))) ?_
    refine m_iload_n F rfl e_X10_starts1_145 ?_
    refine m_bipush F (v := 7) (by decide) e_X10_starts1_146 ?_
    refine m_iadd F e_X10_starts1_148 ?_
    refine Wm.topE (w := nI (160 * n901 + 7)) (nI_add (160 * n901) 7) ?_
    refine r_sld F (j := 160 * n901 + 7) e_X10_starts1_149 h5333 (nI_clamp (by omega)) (vp_in_nI (by omega) (by decide)) (fun x5340 h5341 f5342 => ?_)
    refine m_lconst F (v := 0) (by decide) e_X10_starts1_150 ?_
    refine m_lconst F (v := 0) (by decide) e_X10_starts1_151 ?_
    refine m_lconst F (v := 0) (by decide) e_X10_starts1_152 ?_
    have okb5346 : OKB L5326 := OKB.upd (hok.b) (l := n901) (by omega) (fun i hi => (oL5326 i hi).trans (oL5292 i hi)) (by have h9 := (hok.b).2 n901 (by omega); omega)
    refine r_callV F e_X10_starts1_153 (q_X10_entry (x_l X) V c T Z u h P L5326 _ _ 0 (nI n901) x5335 x5339 x5340 0 0 0 h5333.1 (okb5346) hP ) cb_X10_entry ml_X10_253 im_X10_entry se_X10_entry h5333 rfl rfl (rest := []) rfl (Nat.le_of_ble_eq_true rfl) ⟨Nat.le_of_ble_eq_true rfl, Nat.le_of_ble_eq_true rfl⟩ ⟨Nat.le_of_ble_eq_true rfl, Nat.le_of_ble_eq_true rfl⟩ (fun r σ5343 hp => ?_)
    obtain ⟨h5344, rfl⟩ := hp
    have h5345 := HS.trans h5333 h5344 (by decide)
    have ok5347 : OKL P.n0 L5326 := OKL.upd hok (l := n901) (by omega) (fun i hi => (oL5326 i hi).trans (oL5292 i hi)) (by have h9 := hok.2 n901 (by omega); omega)
    exact m_vret F hQ e_X10_starts1_156 (⟨L5326, ok5347, (by first | omega | rfl | assumption), h5345, rfl⟩)
