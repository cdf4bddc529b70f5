set_option maxRecDepth 20000 in
theorem q_X10_indexNow (l : Launch) (V : VX) (c T Z u h : Nat) (P : NP) (L : Nat → LQ) (N : Nat) (σ : Mem)  (h0 : HR V c ⟨T, Z, u, h, P, L⟩ σ) (hob : OKB L) (hP : OKP P)  : Ct l V yX10_indexNow cX10_indexNow 1 (some .long) 0 0 0 N σ [.ref c] (fun r τ => HS V c (⟨T, Z, u, h, P, L⟩ : RG) [0, 1, 2, 3, 4, 5, 6, 7, 8, 9, 10, 11, 12, 13, 14, 15, 16, 17, 18, 19, 20, 21, 22, 23] σ τ ∧ ∃ n : Nat, n ≤ 2000 ∧ 1 ≤ n ∧ r = some (.long (lN n))) := by
  refine Ct.of (by decide) (Nat.le_of_ble_eq_true rfl) [(0, .ref c)] rfl (fun X hX F hQ => ?_)
  have hPP := hP
  unfold OKP at hPP
  have h1 : HS V c ⟨T, Z, u, h, P, L⟩ [0, 1, 2, 3, 4, 5, 6, 7, 8, 9, 10, 11, 12, 13, 14, 15, 16, 17, 18, 19, 20, 21, 22, 23] σ σ := HS.start h0
  refine m_aload_n F rfl e_X10_indexNow_0 ?_
  refine r_get F e_X10_indexNow_1 fl_X10_59 h1 rfl (fun v hv f4570 => ?_)
  obtain rfl : v = .ref (c + 16) := hv
  refine m_sipush F (v := 644) (by decide) e_X10_indexNow_4 ?_
  refine m_aload_n F rfl e_X10_indexNow_7 ?_
  refine r_getC F e_X10_indexNow_8 fl_X10_59 h1 (f4570) ?_
  refine m_sipush F (v := 744) (by decide) e_X10_indexNow_11 ?_
  refine r_sld F (j := 744) e_X10_indexNow_14 h1 (by decide) (by unfold vp_in; decide) (fun x4571 h4572 f4573 => ?_)
  have hl4574 := hob.1
  obtain rfl : x4571 = lN (L 4).1 := EJ_p.mp h4572
  refine m_l2i F e_X10_indexNow_15 ?_
  refine Wm.topE (w := nI ((L 4).1)) (lN_i ((L 4).1)) ?_
  refine m_iadd F e_X10_indexNow_16 ?_
  refine Wm.topE (w := nI (644 + (L 4).1)) (nI_add 644 ((L 4).1)) ?_
  refine r_sld F (j := 644 + (L 4).1) e_X10_indexNow_17 h1 (nI_clamp (by omega)) (vp_in_nI (by omega) (by decide)) (fun x4575 h4576 f4577 => ?_)
  obtain ⟨n4578, gn4578, hn4578, rfl⟩ := (EJ_i (p := (L 4).1) (by omega)).mp h4576
  exact m_lret F hQ e_X10_indexNow_18 (⟨h1, n4578, by omega, by omega, rfl⟩)
set_option maxRecDepth 20000 in
theorem q_X10_canBeLonger (l : Launch) (V : VX) (c T Z u h : Nat) (P : NP) (L : Nat → LQ) (N : Nat) (σ : Mem) (n901 : Nat) (n902 : Nat) (h0 : HR V c ⟨T, Z, u, h, P, L⟩ σ) (hob : OKB L) (hP : OKP P) (hn901 : n901 ≤ 3) (hn902 : n902 ≤ 24) : Ct l V yX10_canBeLonger cX10_canBeLonger 3 (some .boolean) 0 0 0 N σ [.ref c, .int (nI n901), .int (nI n902)] (fun r τ => HS V c (⟨T, Z, u, h, P, L⟩ : RG) [0, 1, 2, 3, 4, 5, 6, 7, 8, 9, 10, 11, 12, 13, 14, 15, 16, 17, 18, 19, 20, 21, 22, 23] σ τ ∧ (r = some (.int 0) ∨ (L n901).2.1 + n902 ≤ 72 ∧ r = some (.int 1))) := by
  refine Ct.of (by decide) (Nat.le_of_ble_eq_true rfl) [(0, .ref c), (1, .int (nI n901)), (2, .int (nI n902))] rfl (fun X hX F hQ => ?_)
  have hPP := hP
  unfold OKP at hPP
  have h1 : HS V c ⟨T, Z, u, h, P, L⟩ [0, 1, 2, 3, 4, 5, 6, 7, 8, 9, 10, 11, 12, 13, 14, 15, 16, 17, 18, 19, 20, 21, 22, 23] σ σ := HS.start h0
  refine m_aload_n F rfl e_X10_canBeLonger_0 ?_
  refine r_get F e_X10_canBeLonger_1 fl_X10_59 h1 rfl (fun v hv f4579 => ?_)
  obtain rfl : v = .ref (c + 16) := hv
  refine m_sipush F (v := 160) (by decide) e_X10_canBeLonger_4 ?_
  refine m_iload_n F rfl e_X10_canBeLonger_7 ?_
  refine m_imul F e_X10_canBeLonger_8 ?_
  refine Wm.topE (w := nI (160 * n901)) (pk_mul 160 n901) ?_
  refine m_iconst F (v := 1) (by decide) e_X10_canBeLonger_9 ?_
  refine m_iadd F e_X10_canBeLonger_10 ?_
  refine Wm.topE (w := nI (160 * n901 + 1)) (nI_add (160 * n901) 1) ?_
  refine r_sld F (j := 160 * n901 + 1) e_X10_canBeLonger_11 h1 (nI_clamp (by omega)) (vp_in_nI (by omega) (by decide)) (fun x4580 h4581 f4582 => ?_)
  have hl4583 := hob.2 n901 (by omega)
  obtain rfl : x4580 = lN (L n901).2.1 := (EJ_l (l := n901) (r := 1) (by omega) (by decide)).mp h4581
  refine m_iload_n F rfl e_X10_canBeLonger_12 ?_
  refine m_i2l F e_X10_canBeLonger_13 ?_
  refine Wm.toplE (w := lN n902) (nI_l (by omega)) ?_
  refine m_ladd F e_X10_canBeLonger_14 ?_
  refine Wm.toplE (w := lN (((L n901).2.1) + n902)) (lN_add ((L n901).2.1) n902) ?_
  refine m_ldc2 F kc_X10_304 e_X10_canBeLonger_15 ?_
  refine m_lcmp F e_X10_canBeLonger_18 ?_
  refine m_if_gt F e_X10_canBeLonger_19 (fun q19 => ?_) (fun q19 => ?_)
  · have c19 : (((L n901).2.1) + n902) > 72 := (lN_lt (a := 72) (b := (((L n901).2.1) + n902)) (by omega) (by omega)).mp ((lg_cmp_gt _ _).mp q19)
    refine m_iconst F (v := 0) (by decide) e_X10_canBeLonger_26 ?_
    exact m_zret F hQ e_X10_canBeLonger_27 (by decide) (⟨h1, Or.inl rfl⟩)
  · have c19 : (((L n901).2.1) + n902) ≤ 72 := by have hh := mt (fun h9 => (lg_cmp_gt (lN (((L n901).2.1) + n902)) (lN 72)).mpr ((lN_lt (a := 72) (b := (((L n901).2.1) + n902)) (by omega) (by omega)).mpr h9)) q19; omega
    refine m_iconst F (v := 1) (by decide) e_X10_canBeLonger_22 ?_
    refine m_goto F e_X10_canBeLonger_23 ?_
    exact m_zret F hQ e_X10_canBeLonger_27 (by decide) (⟨h1, Or.inr ⟨by omega, rfl⟩⟩)
set_option maxRecDepth 20000 in
theorem q_X10_remeasures (l : Launch) (V : VX) (c T Z u h : Nat) (P : NP) (L : Nat → LQ) (N : Nat) (σ : Mem) (n901 : Nat) (h0 : HR V c ⟨T, Z, u, h, P, L⟩ σ) (hob : OKB L) (hP : OKP P) (hn901 : n901 ≤ 3) : Ct l V yX10_remeasures cX10_remeasures 7 (some .long) 2 0 0 N σ [.ref c, .int (nI n901)] (fun r τ => HS V c (⟨T, Z, u, h, P, L⟩ : RG) [0, 1, 2, 3, 4, 5, 6, 7, 8, 9, 10, 11, 12, 13, 14, 15, 16, 18, 19, 20, 21, 22] σ τ ∧ ∃ x : Int64, r = some (.long x)) := by
  refine Ct.of (by decide) (Nat.le_of_ble_eq_true rfl) [(0, .ref c), (1, .int (nI n901))] rfl (fun X hX F hQ => ?_)
  have hPP := hP
  unfold OKP at hPP
  have h1 : HS V c ⟨T, Z, u, h, P, L⟩ [0, 1, 2, 3, 4, 5, 6, 7, 8, 9, 10, 11, 12, 13, 14, 15, 16, 18, 19, 20, 21, 22] σ σ := HS.start h0
  refine m_sipush F (v := 160) (by decide) e_X10_remeasures_0 ?_
  refine m_iload_n F rfl e_X10_remeasures_3 ?_
  refine m_imul F e_X10_remeasures_4 ?_
  refine Wm.topE (w := nI (160 * n901)) (pk_mul 160 n901) ?_
  refine m_istore_n F (lv' := [(2, .int (nI (160 * n901))), (0, .ref c), (1, .int (nI n901))]) e_X10_remeasures_5 (by decide) rfl ?_
  refine m_aload_n F rfl e_X10_remeasures_6 ?_
  refine m_iload_n F rfl e_X10_remeasures_7 ?_
  refine m_aload_n F rfl e_X10_remeasures_8 ?_
  refine r_get F e_X10_remeasures_9 fl_X10_59 h1 rfl (fun v hv f4584 => ?_)
  obtain rfl : v = .ref (c + 16) := hv
  refine m_iload_n F rfl e_X10_remeasures_12 ?_
  refine m_iconst F (v := 5) (by decide) e_X10_remeasures_13 ?_
  refine m_iadd F e_X10_remeasures_14 ?_
  refine Wm.topE (w := nI (160 * n901 + 5)) (nI_add (160 * n901) 5) ?_
  refine r_sld F (j := 160 * n901 + 5) e_X10_remeasures_15 h1 (nI_clamp (by omega)) (vp_in_nI (by omega) (by decide)) (fun x4585 h4586 f4587 => ?_)
  have hl4588 := hob.2 n901 (by omega)
  obtain rfl : x4585 = lN (L n901).2.2.2 := (EJ_l (l := n901) (r := 5) (by omega) (by decide)).mp h4586
  refine m_l2i F e_X10_remeasures_16 ?_
  refine Wm.topE (w := nI ((L n901).2.2.2)) (lN_i ((L n901).2.2.2)) ?_
  refine m_iconst F (v := 1) (by decide) e_X10_remeasures_17 ?_
  refine m_iadd F e_X10_remeasures_18 ?_
  refine Wm.topE (w := nI ((L n901).2.2.2 + 1)) (nI_add ((L n901).2.2.2) 1) ?_
  refine m_aload_n F rfl e_X10_remeasures_19 ?_
  refine r_getC F e_X10_remeasures_20 fl_X10_59 h1 (f4584) ?_
  refine m_iload_n F rfl e_X10_remeasures_23 ?_
  refine m_iconst F (v := 2) (by decide) e_X10_remeasures_24 ?_
  refine m_iadd F e_X10_remeasures_25 ?_
  refine Wm.topE (w := nI (160 * n901 + 2)) (nI_add (160 * n901) 2) ?_
  refine r_sld F (j := 160 * n901 + 2) e_X10_remeasures_26 h1 (nI_clamp (by omega)) (vp_in_nI (by omega) (by decide)) (fun x4589 h4590 f4591 => ?_)
  obtain ⟨n4592, hn4592, rfl⟩ : ∃ n : Nat, n ≤ 1000000 ∧ x4589 = lN n := (EJ_l (l := n901) (r := 2) (by omega) (by decide)).mp h4590
  refine m_ldc2 F kc_X10_245 e_X10_remeasures_27 ?_
  refine r_callV F e_X10_remeasures_30 (q_X10_worthBy (x_l X) V c T Z u h P L _ _ n901 ((L n901).2.2.2 + 1) n4592 (-1) h1.1 (hob) hP (by omega) (by omega) (by omega) (by first | omega | assumption | decide)) cb_X10_worthBy ml_X10_247 im_X10_worthBy se_X10_worthBy h1 rfl rfl (rest := []) rfl (Nat.le_of_ble_eq_true rfl) ⟨Nat.le_of_ble_eq_true rfl, Nat.le_of_ble_eq_true rfl⟩ ⟨Nat.le_of_ble_eq_true rfl, Nat.le_of_ble_eq_true rfl⟩ (fun r σ4593 hp => ?_)
  obtain ⟨h4594, x4596, rfl⟩ := hp
  have h4595 := HS.trans h1 h4594 (by decide)
  refine m_aload_n F rfl e_X10_remeasures_33 ?_
  refine r_getC F e_X10_remeasures_34 fl_X10_59 h4595 ((fld_eq (h4594.2 c (by rw [show kC c c = 1 from kC_at (k := 0) (by decide)]; decide))).trans f4584) ?_
  refine m_iload_n F rfl e_X10_remeasures_37 ?_
  refine m_bipush F (v := 6) (by decide) e_X10_remeasures_38 ?_
  refine m_iadd F e_X10_remeasures_40 ?_
  refine Wm.topE (w := nI (160 * n901 + 6)) (nI_add (160 * n901) 6) ?_
  refine r_sld F (j := 160 * n901 + 6) e_X10_remeasures_41 h4595 (nI_clamp (by omega)) (vp_in_nI (by omega) (by decide)) (fun x4597 h4598 f4599 => ?_)
  refine m_lsub F e_X10_remeasures_42 ?_
  refine Wm.topl (fun x4600 _ => ?_)
  refine m_lstore_n F (lv' := [(3, .long x4600), (2, .int (nI (160 * n901))), (0, .ref c), (1, .int (nI n901))]) e_X10_remeasures_43 (by decide) rfl ?_
  refine m_lload_n F rfl e_X10_remeasures_44 ?_
  refine m_aload_n F rfl e_X10_remeasures_45 ?_
  refine r_getC F e_X10_remeasures_46 fl_X10_59 h4595 ((fld_eq (h4594.2 c (by rw [show kC c c = 1 from kC_at (k := 0) (by decide)]; decide))).trans f4584) ?_
  refine m_iload_n F rfl e_X10_remeasures_49 ?_
  refine m_bipush F (v := 7) (by decide) e_X10_remeasures_50 ?_
  refine m_iadd F e_X10_remeasures_52 ?_
  refine Wm.topE (w := nI (160 * n901 + 7)) (nI_add (160 * n901) 7) ?_
  refine r_sld F (j := 160 * n901 + 7) e_X10_remeasures_53 h4595 (nI_clamp (by omega)) (vp_in_nI (by omega) (by decide)) (fun x4601 h4602 f4603 => ?_)
  refine m_lneg F e_X10_remeasures_54 ?_
  refine Wm.topl (fun x4604 _ => ?_)
  refine m_lcmp F e_X10_remeasures_55 ?_
  refine Wm.top (fun x4605 _ => ?_)
  refine m_if_ge F e_X10_remeasures_56 (fun q56 => ?_) (fun q56 => ?_)
  · obtain ⟨n4606, hn4606, rfl⟩ := nI_nn (x := x4605) (fun e => Int32.lt_irrefl (Int32.lt_of_lt_of_le e (Int32.le_trans (by decide) q56)))
    have c56 : n4606 ≥ 0 := (nI_leI (a := 0) (b := n4606) (by omega) (by omega)).mp q56
    refine m_lload_n F rfl e_X10_remeasures_72 ?_
    refine m_lstore F (lv' := [(5, .long x4600), (3, .long x4600), (2, .int (nI (160 * n901))), (0, .ref c), (1, .int (nI n901))]) e_X10_remeasures_73 (by decide) rfl ?_
    refine m_aload_n F rfl e_X10_remeasures_75 ?_
    refine r_getC F e_X10_remeasures_76 fl_X10_59 h4595 ((fld_eq (h4594.2 c (by rw [show kC c c = 1 from kC_at (k := 0) (by decide)]; decide))).trans f4584) ?_
    refine m_iload_n F rfl e_X10_remeasures_79 ?_
    refine m_bipush F (v := 6) (by decide) e_X10_remeasures_80 ?_
    refine m_iadd F e_X10_remeasures_82 ?_
    refine Wm.topE (w := nI (160 * n901 + 6)) (nI_add (160 * n901) 6) ?_
    refine m_dup2_11 F rfl rfl e_X10_remeasures_83 ?_
    refine r_sld F (j := 160 * n901 + 6) e_X10_remeasures_84 h4595 (nI_clamp (by omega)) (vp_in_nI (by omega) (by decide)) (fun x4607 h4608 f4609 => ?_)
    refine m_lload_n F rfl e_X10_remeasures_85 ?_
    refine m_ladd F e_X10_remeasures_86 ?_
    refine Wm.topl (fun x4610 _ => ?_)
    refine r_sst F (g' := (⟨T, Z, u, h, P, L⟩ : RG)) (j := 160 * n901 + 6) e_X10_remeasures_87 h4595 (by decide) (nI_clamp (by omega)) (vp_in_nI (by omega) (by decide)) (fun f q => EJ_same (EJ_lw (l := n901) (r := 6) (by omega) (by omega) (by omega)) q) (fun _ _ _ q => q) (fun σ4611 h4612 g4613 => ?_)
    refine m_aload_n F rfl e_X10_remeasures_88 ?_
    refine r_getC F e_X10_remeasures_89 fl_X10_59 h4612 ((fld_eq (g4613 _ (by omega))).trans ((fld_eq (h4594.2 c (by rw [show kC c c = 1 from kC_at (k := 0) (by decide)]; decide))).trans f4584)) ?_
    refine m_iload_n F rfl e_X10_remeasures_92 ?_
    refine m_bipush F (v := 7) (by decide) e_X10_remeasures_93 ?_
    refine m_iadd F e_X10_remeasures_95 ?_
    refine Wm.topE (w := nI (160 * n901 + 7)) (nI_add (160 * n901) 7) ?_
    refine m_dup2_11 F rfl rfl e_X10_remeasures_96 ?_
    refine r_sld F (j := 160 * n901 + 7) e_X10_remeasures_97 h4612 (nI_clamp (by omega)) (vp_in_nI (by omega) (by decide)) (fun x4614 h4615 f4616 => ?_)
    refine m_lload F rfl e_X10_remeasures_98 ?_
    refine m_ladd F e_X10_remeasures_100 ?_
    refine Wm.topl (fun x4617 _ => ?_)
    refine r_sst F (g' := (⟨T, Z, u, h, P, L⟩ : RG)) (j := 160 * n901 + 7) e_X10_remeasures_101 h4612 (by decide) (nI_clamp (by omega)) (vp_in_nI (by omega) (by decide)) (fun f q => EJ_same (EJ_lw (l := n901) (r := 7) (by omega) (by omega) (by omega)) q) (fun _ _ _ q => q) (fun σ4618 h4619 g4620 => ?_)
    refine m_aload_n F rfl e_X10_remeasures_102 ?_
    refine r_getC F e_X10_remeasures_103 fl_X10_59 h4619 ((fld_eq (g4620 _ (by omega))).trans ((fld_eq (g4613 _ (by omega))).trans ((fld_eq (h4594.2 c (by rw [show kC c c = 1 from kC_at (k := 0) (by decide)]; decide))).trans f4584))) ?_
    refine m_iload_n F rfl e_X10_remeasures_106 ?_
    refine m_bipush F (v := 11) (by decide) e_X10_remeasures_107 ?_
    refine m_iadd F e_X10_remeasures_109 ?_
    refine Wm.topE (w := nI (160 * n901 + 11)) (nI_add (160 * n901) 11) ?_
    refine m_dup2_11 F rfl rfl e_X10_remeasures_110 ?_
    refine r_sld F (j := 160 * n901 + 11) e_X10_remeasures_111 h4619 (nI_clamp (by omega)) (vp_in_nI (by omega) (by decide)) (fun x4621 h4622 f4623 => ?_)
    refine m_lload_n F rfl e_X10_remeasures_112 ?_
    refine m_ladd F e_X10_remeasures_113 ?_
    refine Wm.topl (fun x4624 _ => ?_)
    refine r_sst F (g' := (⟨T, Z, u, h, P, L⟩ : RG)) (j := 160 * n901 + 11) e_X10_remeasures_114 h4619 (by decide) (nI_clamp (by omega)) (vp_in_nI (by omega) (by decide)) (fun f q => EJ_same (EJ_lw (l := n901) (r := 11) (by omega) (by omega) (by omega)) q) (fun _ _ _ q => q) (fun σ4625 h4626 g4627 => ?_)
    refine m_aload_n F rfl e_X10_remeasures_115 ?_
    refine m_iconst F (v := 2) (by decide) e_X10_remeasures_116 ?_
    refine m_iload_n F rfl e_X10_remeasures_117 ?_
    refine m_lconst F (v := 0) (by decide) e_X10_remeasures_118 ?_
    refine m_lload_n F rfl e_X10_remeasures_119 ?_
    refine m_lneg F e_X10_remeasures_120 ?_
    refine Wm.topl (fun x4628 _ => ?_)
    refine m_lload F rfl e_X10_remeasures_121 ?_
    refine m_lconst F (v := 0) (by decide) e_X10_remeasures_123 ?_
    refine m_lconst F (v := 0) (by decide) e_X10_remeasures_124 ?_
    refine m_lload_n F rfl e_X10_remeasures_125 ?_
    refine m_lload F rfl e_X10_remeasures_126 ?_
    refine m_lsub F e_X10_remeasures_128 ?_
    refine Wm.topl (fun x4629 _ => ?_)
    refine r_callV F e_X10_remeasures_129 (q_X10_entry (x_l X) V c T Z u h P L _ _ 2 (nI n901) 0 x4628 x4600 0 0 x4629 h4626.1 (hob) hP ) cb_X10_entry ml_X10_253 im_X10_entry se_X10_entry h4626 rfl rfl (rest := []) rfl (Nat.le_of_ble_eq_true rfl) ⟨Nat.le_of_ble_eq_true rfl, Nat.le_of_ble_eq_true rfl⟩ ⟨Nat.le_of_ble_eq_true rfl, Nat.le_of_ble_eq_true rfl⟩ (fun r σ4630 hp => ?_)
    obtain ⟨h4631, rfl⟩ := hp
    have h4632 := HS.trans h4626 h4631 (by decide)
    refine m_lload_n F rfl e_X10_remeasures_132 ?_
    exact m_lret F hQ e_X10_remeasures_133 (⟨h4632, _, rfl⟩)
  · refine m_aload_n F rfl e_X10_remeasures_59 ?_
    refine r_getC F e_X10_remeasures_60 fl_X10_59 h4595 ((fld_eq (h4594.2 c (by rw [show kC c c = 1 from kC_at (k := 0) (by decide)]; decide))).trans f4584) ?_
    refine m_iload_n F rfl e_X10_remeasures_63 ?_
    refine m_bipush F (v := 7) (by decide) e_X10_remeasures_64 ?_
    refine m_iadd F e_X10_remeasures_66 ?_
    refine Wm.topE (w := nI (160 * n901 + 7)) (nI_add (160 * n901) 7) ?_
    refine r_sld F (j := 160 * n901 + 7) e_X10_remeasures_67 h4595 (nI_clamp (by omega)) (vp_in_nI (by omega) (by decide)) (fun x4633 h4634 f4635 => ?_)
    refine m_lneg F e_X10_remeasures_68 ?_
    refine Wm.topl (fun x4636 _ => ?_)
    refine m_goto F e_X10_remeasures_69 ?_
    refine m_lstore F (lv' := [(5, .long x4636), (3, .long x4600), (2, .int (nI (160 * n901))), (0, .ref c), (1, .int (nI n901))]) e_X10_remeasures_73 (by decide) rfl ?_
    refine m_aload_n F rfl e_X10_remeasures_75 ?_
    refine r_getC F e_X10_remeasures_76 fl_X10_59 h4595 ((fld_eq (h4594.2 c (by rw [show kC c c = 1 from kC_at (k := 0) (by decide)]; decide))).trans f4584) ?_
    refine m_iload_n F rfl e_X10_remeasures_79 ?_
    refine m_bipush F (v := 6) (by decide) e_X10_remeasures_80 ?_
    refine m_iadd F e_X10_remeasures_82 ?_
    refine Wm.topE (w := nI (160 * n901 + 6)) (nI_add (160 * n901) 6) ?_
    refine m_dup2_11 F rfl rfl e_X10_remeasures_83 ?_
    refine r_sld F (j := 160 * n901 + 6) e_X10_remeasures_84 h4595 (nI_clamp (by omega)) (vp_in_nI (by omega) (by decide)) (fun x4637 h4638 f4639 => ?_)
    refine m_lload_n F rfl e_X10_remeasures_85 ?_
    refine m_ladd F e_X10_remeasures_86 ?_
    refine Wm.topl (fun x4640 _ => ?_)
    refine r_sst F (g' := (⟨T, Z, u, h, P, L⟩ : RG)) (j := 160 * n901 + 6) e_X10_remeasures_87 h4595 (by decide) (nI_clamp (by omega)) (vp_in_nI (by omega) (by decide)) (fun f q => EJ_same (EJ_lw (l := n901) (r := 6) (by omega) (by omega) (by omega)) q) (fun _ _ _ q => q) (fun σ4641 h4642 g4643 => ?_)
    refine m_aload_n F rfl e_X10_remeasures_88 ?_
    refine r_getC F e_X10_remeasures_89 fl_X10_59 h4642 ((fld_eq (g4643 _ (by omega))).trans ((fld_eq (h4594.2 c (by rw [show kC c c = 1 from kC_at (k := 0) (by decide)]; decide))).trans f4584)) ?_
    refine m_iload_n F rfl e_X10_remeasures_92 ?_
    refine m_bipush F (v := 7) (by decide) e_X10_remeasures_93 ?_
    refine m_iadd F e_X10_remeasures_95 ?_
    refine Wm.topE (w := nI (160 * n901 + 7)) (nI_add (160 * n901) 7) ?_
    refine m_dup2_11 F rfl rfl e_X10_remeasures_96 ?_
    refine r_sld F (j := 160 * n901 + 7) e_X10_remeasures_97 h4642 (nI_clamp (by omega)) (vp_in_nI (by omega) (by decide)) (fun x4644 h4645 f4646 => ?_)
    refine m_lload F rfl e_X10_remeasures_98 ?_
    refine m_ladd F e_X10_remeasures_100 ?_
    refine Wm.topl (fun x4647 _ => ?_)
    refine r_sst F (g' := (⟨T, Z, u, h, P, L⟩ : RG)) (j := 160 * n901 + 7) e_X10_remeasures_101 h4642 (by decide) (nI_clamp (by omega)) (vp_in_nI (by omega) (by decide)) (fun f q => EJ_same (EJ_lw (l := n901) (r := 7) (by omega) (by omega) (by omega)) q) (fun _ _ _ q => q) (fun σ4648 h4649 g4650 => ?_)
    refine m_aload_n F rfl e_X10_remeasures_102 ?_
    refine r_getC F e_X10_remeasures_103 fl_X10_59 h4649 ((fld_eq (g4650 _ (by omega))).trans ((fld_eq (g4643 _ (by omega))).trans ((fld_eq (h4594.2 c (by rw [show kC c c = 1 from kC_at (k := 0) (by decide)]; decide))).trans f4584))) ?_
    refine m_iload_n F rfl e_X10_remeasures_106 ?_
    refine m_bipush F (v := 11) (by decide) e_X10_remeasures_107 ?_
    refine m_iadd F e_X10_remeasures_109 ?_
    refine Wm.topE (w := nI (160 * n901 + 11)) (nI_add (160 * n901) 11) ?_
    refine m_dup2_11 F rfl rfl e_X10_remeasures_110 ?_
    refine r_sld F (j := 160 * n901 + 11) e_X10_remeasures_111 h4649 (nI_clamp (by omega)) (vp_in_nI (by omega) (by decide)) (fun x4651 h4652 f4653 => ?_)
    refine m_lload_n F rfl e_X10_remeasures_112 ?_
    refine m_ladd F e_X10_remeasures_113 ?_
    refine Wm.topl (fun x4654 _ => ?_)
    refine r_sst F (g' := (⟨T, Z, u, h, P, L⟩ : RG)) (j := 160 * n901 + 11) e_X10_remeasures_114 h4649 (by decide) (nI_clamp (by omega)) (vp_in_nI (by omega) (by decide)) (fun f q => EJ_same (EJ_lw (l := n901) (r := 11) (by omega) (by omega) (by omega)) q) (fun _ _ _ q => q) (fun σ4655 h4656 g4657 => ?_)
    refine m_aload_n F rfl e_X10_remeasures_115 ?_
    refine m_iconst F (v := 2) (by decide) e_X10_remeasures_116 ?_
    refine m_iload_n F rfl e_X10_remeasures_117 ?_
    refine m_lconst F (v := 0) (by decide) e_X10_remeasures_118 ?_
    refine m_lload_n F rfl e_X10_remeasures_119 ?_
    refine m_lneg F e_X10_remeasures_120 ?_
    refine Wm.topl (fun x4658 _ => ?_)
    refine m_lload F rfl e_X10_remeasures_121 ?_
    refine m_lconst F (v := 0) (by decide) e_X10_remeasures_123 ?_
    refine m_lconst F (v := 0) (by decide) e_X10_remeasures_124 ?_
    refine m_lload_n F rfl e_X10_remeasures_125 ?_
    refine m_lload F rfl e_X10_remeasures_126 ?_
    refine m_lsub F e_X10_remeasures_128 ?_
    refine Wm.topl (fun x4659 _ => ?_)
    refine r_callV F e_X10_remeasures_129 (q_X10_entry (x_l X) V c T Z u h P L _ _ 2 (nI n901) 0 x4658 x4636 0 0 x4659 h4656.1 (hob) hP ) cb_X10_entry ml_X10_253 im_X10_entry se_X10_entry h4656 rfl rfl (rest := []) rfl (Nat.le_of_ble_eq_true rfl) ⟨Nat.le_of_ble_eq_true rfl, Nat.le_of_ble_eq_true rfl⟩ ⟨Nat.le_of_ble_eq_true rfl, Nat.le_of_ble_eq_true rfl⟩ (fun r σ4660 hp => ?_)
    obtain ⟨h4661, rfl⟩ := hp
    have h4662 := HS.trans h4656 h4661 (by decide)
    refine m_lload_n F rfl e_X10_remeasures_132 ?_
    exact m_lret F hQ e_X10_remeasures_133 (⟨h4662, _, rfl⟩)
set_option maxRecDepth 20000 in
theorem lq_X10_indexes_19 {V : VX} {X : MX} {N : Nat} {σ : Mem} {c T Z u h : Nat} {P : NP} {L : Nat → LQ}  {n901 : Nat} {n902 : Nat} (F : Fx V X yX10_indexes cX10_indexes 6 none (rmd 0 0 0)) (hQ : Rt V X 0 0 N (fun r τ => HS V c (⟨T, Z, u, h, P, L⟩ : RG) [0, 1, 2, 3, 4, 5, 6, 7, 8, 9, 10, 11, 12, 13, 14, 15, 16, 18, 19, 20, 21, 22, 23] σ τ ∧ r = none)) (hob : OKB L) (hP : OKP P) (hn901 : n901 ≤ 3) (hn902 : n902 ≤ 2000) (hp0 : 1 ≤ (L n901).2.2.1)  : ∀ (fuel : Nat) (i : Nat) (τ : Mem), HS V c (⟨T, Z, u, h, P, L⟩ : RG) [0, 1, 2, 3, 4, 5, 6, 7, 8, 9, 10, 11, 12, 13, 14, 15, 16, 18, 19, 20, 21, 22, 23] σ τ → i ≤ 72 → 72 - i < fuel → Wm V X 6 N τ 0 0 19 [(5, .int (nI i)), (4, .int (nI (160 * n901))), (0, .ref c), (1, .int (nI n901)), (2, .long (lN n902))] [] := by
  intro fuel
  induction fuel with
  | zero => intros; rename_i hm; exact absurd hm (Nat.not_lt_zero _)
  | succ fuel ih =>
    intro i τ h1 hi hm
    have hPP := hP
    unfold OKP at hPP
    refine m_iload F rfl e_X10_indexes_19 ?_
    refine m_i2l F e_X10_indexes_21 ?_
    refine Wm.toplE (w := lN i) (nI_l (by omega)) ?_
    refine m_aload_n F rfl e_X10_indexes_22 ?_
    refine r_get F e_X10_indexes_23 fl_X10_59 h1 rfl (fun v hv f4663 => ?_)
    obtain rfl : v = .ref (c + 16) := hv
    refine m_iload F rfl e_X10_indexes_26 ?_
    refine m_iconst F (v := 1) (by decide) e_X10_indexes_28 ?_
    refine m_iadd F e_X10_indexes_29 ?_
    refine Wm.topE (w := nI (160 * n901 + 1)) (nI_add (160 * n901) 1) ?_
    refine r_sld F (j := 160 * n901 + 1) e_X10_indexes_30 h1 (nI_clamp (by omega)) (vp_in_nI (by omega) (by decide)) (fun x4664 h4665 f4666 => ?_)
    have hl4667 := hob.2 n901 (by omega)
    obtain rfl : x4664 = lN (L n901).2.1 := (EJ_l (l := n901) (r := 1) (by omega) (by decide)).mp h4665
    refine m_lcmp F e_X10_indexes_31 ?_
    refine m_if_ge F e_X10_indexes_32 (fun q32 => ?_) (fun q32 => ?_)
    · have c32 : i ≥ ((L n901).2.1) := (lN_le (a := ((L n901).2.1)) (b := i) (by omega) (by omega)).mp ((lg_cmp_ge _ _).mp q32)
      refine m_aload_n F rfl e_X10_indexes_79 ?_
      refine r_getC F e_X10_indexes_80 fl_X10_59 h1 (f4663) ?_
      refine m_iload F rfl e_X10_indexes_83 ?_
      refine m_iconst F (v := 4) (by decide) e_X10_indexes_85 ?_
      refine m_iadd F e_X10_indexes_86 ?_
      refine Wm.topE (w := nI (160 * n901 + 4)) (nI_add (160 * n901) 4) ?_
      refine m_lload_n F rfl e_X10_indexes_87 ?_
      refine r_sst F (g' := (⟨T, Z, u, h, P, L⟩ : RG)) (j := 160 * n901 + 4) e_X10_indexes_88 h1 (by decide) (nI_clamp (by omega)) (vp_in_nI (by omega) (by decide)) (fun f q => EJ_same (EJ_lw (l := n901) (r := 4) (by omega) (by omega) (by omega)) q) (fun _ _ _ q => q) (fun σ4668 h4669 g4670 => ?_)
      exact m_vret F hQ e_X10_indexes_89 (⟨h4669, rfl⟩)
    · have c32 : i < ((L n901).2.1) := by have hh := mt (fun h9 => (lg_cmp_ge (lN i) (lN ((L n901).2.1))).mpr ((lN_le (a := ((L n901).2.1)) (b := i) (by omega) (by omega)).mpr h9)) q32; omega
      refine m_aload_n F rfl e_X10_indexes_35 ?_
      refine r_getC F e_X10_indexes_36 fl_X10_59 h1 (f4663) ?_
      refine m_iload F rfl e_X10_indexes_39 ?_
      refine m_bipush F (v := 13) (by decide) e_X10_indexes_41 ?_
      refine m_iadd F e_X10_indexes_43 ?_
      refine Wm.topE (w := nI (160 * n901 + 13)) (nI_add (160 * n901) 13) ?_
      refine m_iload F rfl e_X10_indexes_44 ?_
      refine m_iadd F e_X10_indexes_46 ?_
      refine Wm.topE (w := nI ((160 * n901 + 13) + i)) (nI_add (160 * n901 + 13) i) ?_
      refine m_aload_n F rfl e_X10_indexes_47 ?_
      refine r_getC F e_X10_indexes_48 fl_X10_59 h1 (f4663) ?_
      refine m_iload F rfl e_X10_indexes_51 ?_
      refine m_bipush F (v := 85) (by decide) e_X10_indexes_53 ?_
      refine m_iadd F e_X10_indexes_55 ?_
      refine Wm.topE (w := nI (160 * n901 + 85)) (nI_add (160 * n901) 85) ?_
      refine m_iload F rfl e_X10_indexes_56 ?_
      refine m_iadd F e_X10_indexes_58 ?_
      refine Wm.topE (w := nI ((160 * n901 + 85) + i)) (nI_add (160 * n901 + 85) i) ?_
      refine r_sld F (j := (160 * n901 + 85) + i) e_X10_indexes_59 h1 (nI_clamp (by omega)) (vp_in_nI (by omega) (by decide)) (fun x4671 h4672 f4673 => ?_)
      refine m_lload_n F rfl e_X10_indexes_60 ?_
      refine m_lmul F e_X10_indexes_61 ?_
      refine Wm.topl (fun x4674 _ => ?_)
      refine m_aload_n F rfl e_X10_indexes_62 ?_
      refine r_getC F e_X10_indexes_63 fl_X10_59 h1 (f4663) ?_
      refine m_iload F rfl e_X10_indexes_66 ?_
      refine m_iconst F (v := 3) (by decide) e_X10_indexes_68 ?_
      refine m_iadd F e_X10_indexes_69 ?_
      refine Wm.topE (w := nI (160 * n901 + 3)) (nI_add (160 * n901) 3) ?_
      refine r_sld F (j := 160 * n901 + 3) e_X10_indexes_70 h1 (nI_clamp (by omega)) (vp_in_nI (by omega) (by decide)) (fun x4675 h4676 f4677 => ?_)
      have hl4678 := hob.2 n901 (by omega)
      obtain rfl : x4675 = lN (L n901).2.2.1 := (EJ_l (l := n901) (r := 3) (by omega) (by decide)).mp h4676
      refine m_ldiv F (lN_ne0 (by omega) (by omega)) e_X10_indexes_71 ?_
      refine Wm.topl (fun x4679 _ => ?_)
      refine r_sst F (g' := (⟨T, Z, u, h, P, L⟩ : RG)) (j := (160 * n901 + 13) + i) e_X10_indexes_72 h1 (by decide) (nI_clamp (by omega)) (vp_in_nI (by omega) (by decide)) (fun f q => EJ_same (EJ_lw (l := n901) (r := ((160 * n901 + 13) + i) - 160 * n901) (by omega) (by omega) (by omega)) q) (fun _ _ _ q => q) (fun σ4680 h4681 g4682 => ?_)
      refine m_iinc F (v := nI (i + 1)) (lv' := [(5, .int (nI (i + 1))), (4, .int (nI (160 * n901))), (0, .ref c), (1, .int (nI n901)), (2, .long (lN n902))]) e_X10_indexes_73 rfl (nI_add i 1) (by decide) rfl ?_
      refine m_goto F e_X10_indexes_76 ?_
      exact ih (i + 1) _ h4681 (by omega) (by omega)
set_option maxRecDepth 20000 in
theorem q_X10_indexes (l : Launch) (V : VX) (c T Z u h : Nat) (P : NP) (L : Nat → LQ) (N : Nat) (σ : Mem) (n901 : Nat) (n902 : Nat) (h0 : HR V c ⟨T, Z, u, h, P, L⟩ σ) (hob : OKB L) (hP : OKP P) (hn901 : n901 ≤ 3) (hn902 : n902 ≤ 2000) (hp0 : 1 ≤ (L n901).2.2.1) : Ct l V yX10_indexes cX10_indexes 6 none 0 0 0 N σ [.ref c, .int (nI n901), .long (lN n902)] (fun r τ => HS V c (⟨T, Z, u, h, P, L⟩ : RG) [0, 1, 2, 3, 4, 5, 6, 7, 8, 9, 10, 11, 12, 13, 14, 15, 16, 18, 19, 20, 21, 22, 23] σ τ ∧ r = none) := by
  refine Ct.of (by decide) (Nat.le_of_ble_eq_true rfl) [(0, .ref c), (1, .int (nI n901)), (2, .long (lN n902))] rfl (fun X hX F hQ => ?_)
  have hPP := hP
  unfold OKP at hPP
  have h1 : HS V c ⟨T, Z, u, h, P, L⟩ [0, 1, 2, 3, 4, 5, 6, 7, 8, 9, 10, 11, 12, 13, 14, 15, 16, 18, 19, 20, 21, 22, 23] σ σ := HS.start h0
  refine m_sipush F (v := 160) (by decide) e_X10_indexes_0 ?_
  refine m_iload_n F rfl e_X10_indexes_3 ?_
  refine m_imul F e_X10_indexes_4 ?_
  refine Wm.topE (w := nI (160 * n901)) (pk_mul 160 n901) ?_
  refine m_istore F (lv' := [(4, .int (nI (160 * n901))), (0, .ref c), (1, .int (nI n901)), (2, .long (lN n902))]) e_X10_indexes_5 (by decide) rfl ?_
  refine m_aload_n F rfl e_X10_indexes_7 ?_
  refine r_get F e_X10_indexes_8 fl_X10_59 h1 rfl (fun v hv f4683 => ?_)
  obtain rfl : v = .ref (c + 16) := hv
  refine m_iload F rfl e_X10_indexes_11 ?_
  refine m_iconst F (v := 5) (by decide) e_X10_indexes_13 ?_
  refine m_iadd F e_X10_indexes_14 ?_
  refine Wm.topE (w := nI (160 * n901 + 5)) (nI_add (160 * n901) 5) ?_
  refine r_sld F (j := 160 * n901 + 5) e_X10_indexes_15 h1 (nI_clamp (by omega)) (vp_in_nI (by omega) (by decide)) (fun x4684 h4685 f4686 => ?_)
  have hl4687 := hob.2 n901 (by omega)
  obtain rfl : x4684 = lN (L n901).2.2.2 := (EJ_l (l := n901) (r := 5) (by omega) (by decide)).mp h4685
  refine m_l2i F e_X10_indexes_16 ?_
  refine Wm.topE (w := nI ((L n901).2.2.2)) (lN_i ((L n901).2.2.2)) ?_
  refine m_istore F (lv' := [(5, .int (nI ((L n901).2.2.2))), (4, .int (nI (160 * n901))), (0, .ref c), (1, .int (nI n901)), (2, .long (lN n902))]) e_X10_indexes_17 (by decide) rfl ?_
  exact lq_X10_indexes_19 F hQ hob hP hn901 hn902 hp0 (72 - ((L n901).2.2.2) + 1) ((L n901).2.2.2) _ h1 (by omega) (Nat.lt_succ_self _)
set_option maxRecDepth 20000 in
theorem q_X10_pays (l : Launch) (V : VX) (c T Z u h : Nat) (P : NP) (L : Nat → LQ) (N : Nat) (σ : Mem) (n901 : Nat) (h0 : HR V c ⟨T, Z, u, h, P, L⟩ σ) (hok : OKL P.n0 L) (hP : OKP P) (hn901 : n901 ≤ 3) (hp0 : (L n901).1 = 1) : Ct l V yX10_pays cX10_pays 14 none 1 0 0 N σ [.ref c, .int (nI n901)] (fun r τ => ∃ L9, OKL P.n0 L9 ∧ (L9 4).1 = (L 4).1 ∧ HS V c (⟨T, Z, u, h, P, L9⟩ : RG) [0, 1, 2, 3, 4, 5, 6, 7, 8, 9, 10, 11, 12, 13, 14, 15, 16, 18, 19, 20, 21, 22] σ τ ∧ r = none) := by
  refine Ct.of (by decide) (Nat.le_of_ble_eq_true rfl) [(0, .ref c), (1, .int (nI n901))] rfl (fun X hX F hQ => ?_)
  have hPP := hP
  unfold OKP at hPP
  have h1 : HS V c ⟨T, Z, u, h, P, L⟩ [0, 1, 2, 3, 4, 5, 6, 7, 8, 9, 10, 11, 12, 13, 14, 15, 16, 18, 19, 20, 21, 22] σ σ := HS.start h0
  have hl := hok.2 n901 (by omega)
  refine m_sipush F (v := 160) (by decide) e_X10_pays_0 ?_
  refine m_iload_n F rfl e_X10_pays_3 ?_
  refine m_imul F e_X10_pays_4 ?_
  refine Wm.topE (w := nI (160 * n901)) (pk_mul 160 n901) ?_
  refine m_istore_n F (lv' := [(2, .int (nI (160 * n901))), (0, .ref c), (1, .int (nI n901))]) e_X10_pays_5 (by decide) rfl ?_
  refine m_aload_n F rfl e_X10_pays_6 ?_
  refine r_get F e_X10_pays_7 fl_X10_59 h1 rfl (fun v hv f4688 => ?_)
  obtain rfl : v = .ref (c + 16) := hv
  refine m_iload_n F rfl e_X10_pays_10 ?_
  refine m_bipush F (v := 13) (by decide) e_X10_pays_11 ?_
  refine m_iadd F e_X10_pays_13 ?_
  refine Wm.topE (w := nI (160 * n901 + 13)) (nI_add (160 * n901) 13) ?_
  refine m_aload_n F rfl e_X10_pays_14 ?_
  refine r_getC F e_X10_pays_15 fl_X10_59 h1 (f4688) ?_
  refine m_iload_n F rfl e_X10_pays_18 ?_
  refine m_iconst F (v := 5) (by decide) e_X10_pays_19 ?_
  refine m_iadd F e_X10_pays_20 ?_
  refine Wm.topE (w := nI (160 * n901 + 5)) (nI_add (160 * n901) 5) ?_
  refine r_sld F (j := 160 * n901 + 5) e_X10_pays_21 h1 (nI_clamp (by omega)) (vp_in_nI (by omega) (by decide)) (fun x4689 h4690 f4691 => ?_)
  have hl4692 := hok.2 n901 (by omega)
  obtain rfl : x4689 = lN (L n901).2.2.2 := (EJ_l (l := n901) (r := 5) (by omega) (by decide)).mp h4690
  refine m_l2i F e_X10_pays_22 ?_
  refine Wm.topE (w := nI ((L n901).2.2.2)) (lN_i ((L n901).2.2.2)) ?_
  refine m_iadd F e_X10_pays_23 ?_
  refine Wm.topE (w := nI ((160 * n901 + 13) + ((L n901).2.2.2))) (nI_add (160 * n901 + 13) ((L n901).2.2.2)) ?_
  refine r_sld F (j := (160 * n901 + 13) + ((L n901).2.2.2)) e_X10_pays_24 h1 (nI_clamp (by omega)) (vp_in_nI (by omega) (by decide)) (fun x4693 h4694 f4695 => ?_)
  refine m_lstore_n F (lv' := [(3, .long x4693), (2, .int (nI (160 * n901))), (0, .ref c), (1, .int (nI n901))]) e_X10_pays_25 (by decide) rfl ?_
  refine m_aload_n F rfl e_X10_pays_26 ?_
  refine r_getC F e_X10_pays_27 fl_X10_59 h1 (f4688) ?_
  refine m_iload_n F rfl e_X10_pays_30 ?_
  refine m_bipush F (v := 6) (by decide) e_X10_pays_31 ?_
  refine m_iadd F e_X10_pays_33 ?_
  refine Wm.topE (w := nI (160 * n901 + 6)) (nI_add (160 * n901) 6) ?_
  refine r_sld F (j := 160 * n901 + 6) e_X10_pays_34 h1 (nI_clamp (by omega)) (vp_in_nI (by omega) (by decide)) (fun x4696 h4697 f4698 => ?_)
  refine m_lstore F (lv' := [(5, .long x4696), (3, .long x4693), (2, .int (nI (160 * n901))), (0, .ref c), (1, .int (nI n901))]) e_X10_pays_35 (by decide) rfl ?_
  refine m_aload_n F rfl e_X10_pays_37 ?_
  refine m_iload_n F rfl e_X10_pays_38 ?_
  refine r_callV F e_X10_pays_39 (q_X10_leftOn (x_l X) V c T Z u h P L _ _ n901 h1.1 (hok.b) hP (by omega) (by first | omega | assumption | decide)) cb_X10_left ml_X10_257 im_X10_left se_X10_left h1 rfl rfl (rest := []) rfl (Nat.le_of_ble_eq_true rfl) ⟨Nat.le_of_ble_eq_true rfl, Nat.le_of_ble_eq_true rfl⟩ ⟨Nat.le_of_ble_eq_true rfl, Nat.le_of_ble_eq_true rfl⟩ (fun r σ4699 hp => ?_)
  obtain ⟨h4700, rfl⟩ := hp
  have h4701 := HS.trans h1 h4700 (by decide)
  refine m_iconst F (v := 1) (by decide) e_X10_pays_42 ?_
  refine m_icmp_ne F e_X10_pays_43 (fun q43 => ?_) (fun q43 => ?_)
  · have c43 : ((L n901).2.1 - (L n901).2.2.2) ≠ 1 := by have hh := mt (nI_eq (a := ((L n901).2.1 - (L n901).2.2.2)) (b := 1) (by omega) (by omega)).mpr q43; omega
    refine m_iconst F (v := 0) (by decide) e_X10_pays_50 ?_
    refine m_istore F (lv' := [(7, .int 0), (5, .long x4696), (3, .long x4693), (2, .int (nI (160 * n901))), (0, .ref c), (1, .int (nI n901))]) e_X10_pays_51 (by decide) rfl ?_
    refine m_aload_n F rfl e_X10_pays_53 ?_
    refine m_iload_n F rfl e_X10_pays_54 ?_
    refine r_callV F e_X10_pays_55 (q_X10_isEarly (x_l X) V c T Z u h P L _ _ n901 h4701.1 (hok.b) hP (by omega)) cb_X10_isEarly ml_X10_236 im_X10_isEarly se_X10_isEarly h4701 rfl rfl (rest := []) rfl (Nat.le_of_ble_eq_true rfl) ⟨Nat.le_of_ble_eq_true rfl, Nat.le_of_ble_eq_true rfl⟩ ⟨Nat.le_of_ble_eq_true rfl, Nat.le_of_ble_eq_true rfl⟩ (fun r σ4702 hp => ?_)
    obtain ⟨h4703, n4705, hn4705, rfl⟩ := hp
    have h4704 := HS.trans h4701 h4703 (by decide)
    refine m_if_eq F e_X10_pays_58 (fun q58 => ?_) (fun q58 => ?_)
    · have c58 : n4705 = 0 := (nI_eq (a := n4705) (b := 0) (by omega) (by omega)).mp q58
      refine m_lload F rfl e_X10_pays_112 ?_
      refine m_lload F rfl e_X10_pays_114 ?_
      refine m_aload_n F rfl e_X10_pays_116 ?_
      refine r_getC F e_X10_pays_117 fl_X10_59 h4704 ((fld_eq (h4703.2 c (by rw [show kC c c = 1 from kC_at (k := 0) (by decide)]; decide))).trans ((fld_eq (h4700.2 c (by rw [show kC c c = 1 from kC_at (k := 0) (by decide)]; decide))).trans f4688)) ?_
      refine m_iload_n F rfl e_X10_pays_120 ?_
      refine m_iconst F (v := 2) (by decide) e_X10_pays_121 ?_
      refine m_iadd F e_X10_pays_122 ?_
      refine Wm.topE (w := nI (160 * n901 + 2)) (nI_add (160 * n901) 2) ?_
      refine r_sld F (j := 160 * n901 + 2) e_X10_pays_123 h4704 (nI_clamp (by omega)) (vp_in_nI (by omega) (by decide)) (fun x4706 h4707 f4708 => ?_)
      obtain ⟨n4709, hn4709, rfl⟩ : ∃ n : Nat, n ≤ 1000000 ∧ x4706 = lN n := (EJ_l (l := n901) (r := 2) (by omega) (by decide)).mp h4707
      refine m_lmul F e_X10_pays_124 ?_
      refine Wm.topl (fun x4710 _ => ?_)
      refine m_ldc2 F kc_X10_239 e_X10_pays_125 ?_
      refine m_callS F e_X10_pays_128 (q_X10_rounded (x_l X) V _ _ x4710 1000000 (by omega) (by first | omega | assumption | decide)) cb_X10_rounded ml_X10_241 sm_X10_rounded rfl (rest := [.long x4696]) rfl (Nat.le_of_ble_eq_true rfl) ⟨Nat.le_of_ble_eq_true rfl, Nat.le_of_ble_eq_true rfl⟩ ⟨Nat.le_of_ble_eq_true rfl, Nat.le_of_ble_eq_true rfl⟩ (k' := 0) (z' := 0) (N' := N) rfl rfl rfl (fun r σ4711 hp => ?_)
      obtain ⟨rfl, x4714, rfl⟩ := hp
      refine m_ladd F e_X10_pays_131 ?_
      refine Wm.topl (fun x4715 _ => ?_)
      refine m_lstore F (lv' := [(10, .long x4715), (7, .int 0), (5, .long x4696), (3, .long x4693), (2, .int (nI (160 * n901))), (0, .ref c), (1, .int (nI n901))]) e_X10_pays_132 (by decide) rfl ?_
      refine m_iload F rfl e_X10_pays_134 ?_
      refine m_if_ne F e_X10_pays_136 (fun q => absurd (by decide) q) (fun _ => ?_)
      refine m_lload_n F rfl e_X10_pays_139 ?_
      refine m_lload F rfl e_X10_pays_140 ?_
      refine m_lcmp F e_X10_pays_142 ?_
      refine Wm.top (fun x4716 _ => ?_)
      refine m_if_le F e_X10_pays_143 (fun q143 => ?_) (fun q143 => ?_)
      · refine m_lload F rfl e_X10_pays_150 ?_
        refine m_lload_n F rfl e_X10_pays_152 ?_
        refine m_lsub F e_X10_pays_153 ?_
        refine Wm.topl (fun x4717 _ => ?_)
        refine m_lstore F (lv' := [(8, .long x4717), (10, .long x4715), (7, .int 0), (5, .long x4696), (3, .long x4693), (2, .int (nI (160 * n901))), (0, .ref c), (1, .int (nI n901))]) e_X10_pays_154 (by decide) rfl ?_
        refine m_lload F rfl e_X10_pays_156 ?_
        refine m_lload F rfl e_X10_pays_158 ?_
        refine m_lsub F e_X10_pays_160 ?_
        refine Wm.topl (fun x4718 _ => ?_)
        refine m_lload_n F rfl e_X10_pays_161 ?_
        refine m_ladd F e_X10_pays_162 ?_
        refine Wm.topl (fun x4719 _ => ?_)
        refine m_lstore F (lv' := [(10, .long x4719), (8, .long x4717), (7, .int 0), (5, .long x4696), (3, .long x4693), (2, .int (nI (160 * n901))), (0, .ref c), (1, .int (nI n901))]) e_X10_pays_163 (by decide) rfl ?_
        refine m_aload_n F rfl e_X10_pays_165 ?_
        refine r_getC F e_X10_pays_166 fl_X10_59 h4704 ((fld_eq (h4703.2 c (by rw [show kC c c = 1 from kC_at (k := 0) (by decide)]; decide))).trans ((fld_eq (h4700.2 c (by rw [show kC c c = 1 from kC_at (k := 0) (by decide)]; decide))).trans f4688)) ?_
        refine m_iload_n F rfl e_X10_pays_169 ?_
        refine m_bipush F (v := 7) (by decide) e_X10_pays_170 ?_
        refine m_iadd F e_X10_pays_172 ?_
        refine Wm.topE (w := nI (160 * n901 + 7)) (nI_add (160 * n901) 7) ?_
        refine r_sld F (j := 160 * n901 + 7) e_X10_pays_173 h4704 (nI_clamp (by omega)) (vp_in_nI (by omega) (by decide)) (fun x4720 h4721 f4722 => ?_)
        refine m_aload_n F rfl e_X10_pays_174 ?_
        refine m_iload_n F rfl e_X10_pays_175 ?_
        refine r_callV F e_X10_pays_176 (q_X10_leftOn (x_l X) V c T Z u h P L _ _ n901 h4704.1 (hok.b) hP (by omega) (by first | omega | assumption | decide)) cb_X10_left ml_X10_257 im_X10_left se_X10_left h4704 rfl rfl (rest := [.long x4720]) rfl (Nat.le_of_ble_eq_true rfl) ⟨Nat.le_of_ble_eq_true rfl, Nat.le_of_ble_eq_true rfl⟩ ⟨Nat.le_of_ble_eq_true rfl, Nat.le_of_ble_eq_true rfl⟩ (fun r σ4723 hp => ?_)
        obtain ⟨h4724, rfl⟩ := hp
        have h4725 := HS.trans h4704 h4724 (by decide)
        refine m_i2l F e_X10_pays_179 ?_
        refine Wm.toplE (w := lN ((L n901).2.1 - (L n901).2.2.2)) (nI_l (by omega)) ?_
        refine m_ldiv F (lN_ne0 (by omega) (by omega)) e_X10_pays_180 ?_
        refine Wm.topl (fun x4726 _ => ?_)
        refine m_lstore F (lv' := [(12, .long x4726), (10, .long x4719), (8, .long x4717), (7, .int 0), (5, .long x4696), (3, .long x4693), (2, .int (nI (160 * n901))), (0, .ref c), (1, .int (nI n901))]) e_X10_pays_181 (by decide) rfl ?_
        refine m_aload_n F rfl e_X10_pays_183 ?_
        refine r_getC F e_X10_pays_184 fl_X10_59 h4725 ((fld_eq (h4724.2 c (by rw [show kC c c = 1 from kC_at (k := 0) (by decide)]; decide))).trans ((fld_eq (h4703.2 c (by rw [show kC c c = 1 from kC_at (k := 0) (by decide)]; decide))).trans ((fld_eq (h4700.2 c (by rw [show kC c c = 1 from kC_at (k := 0) (by decide)]; decide))).trans f4688))) ?_
        refine m_iload_n F rfl e_X10_pays_187 ?_
        refine m_bipush F (v := 6) (by decide) e_X10_pays_188 ?_
        refine m_iadd F e_X10_pays_190 ?_
        refine Wm.topE (w := nI (160 * n901 + 6)) (nI_add (160 * n901) 6) ?_
        refine m_lload F rfl e_X10_pays_191 ?_
        refine r_sst F (g' := (⟨T, Z, u, h, P, L⟩ : RG)) (j := 160 * n901 + 6) e_X10_pays_193 h4725 (by decide) (nI_clamp (by omega)) (vp_in_nI (by omega) (by decide)) (fun f q => EJ_same (EJ_lw (l := n901) (r := 6) (by omega) (by omega) (by omega)) q) (fun _ _ _ q => q) (fun σ4727 h4728 g4729 => ?_)
        refine m_aload_n F rfl e_X10_pays_194 ?_
        refine r_getC F e_X10_pays_195 fl_X10_59 h4728 ((fld_eq (g4729 _ (by omega))).trans ((fld_eq (h4724.2 c (by rw [show kC c c = 1 from kC_at (k := 0) (by decide)]; decide))).trans ((fld_eq (h4703.2 c (by rw [show kC c c = 1 from kC_at (k := 0) (by decide)]; decide))).trans ((fld_eq (h4700.2 c (by rw [show kC c c = 1 from kC_at (k := 0) (by decide)]; decide))).trans f4688)))) ?_
        refine m_iload_n F rfl e_X10_pays_198 ?_
        refine m_bipush F (v := 7) (by decide) e_X10_pays_199 ?_
        refine m_iadd F e_X10_pays_201 ?_
        refine Wm.topE (w := nI (160 * n901 + 7)) (nI_add (160 * n901) 7) ?_
        refine m_dup2_11 F rfl rfl e_X10_pays_202 ?_
        refine r_sld F (j := 160 * n901 + 7) e_X10_pays_203 h4728 (nI_clamp (by omega)) (vp_in_nI (by omega) (by decide)) (fun x4730 h4731 f4732 => ?_)
        refine m_lload F rfl e_X10_pays_204 ?_
        refine m_lsub F e_X10_pays_206 ?_
        refine Wm.topl (fun x4733 _ => ?_)
        refine r_sst F (g' := (⟨T, Z, u, h, P, L⟩ : RG)) (j := 160 * n901 + 7) e_X10_pays_207 h4728 (by decide) (nI_clamp (by omega)) (vp_in_nI (by omega) (by decide)) (fun f q => EJ_same (EJ_lw (l := n901) (r := 7) (by omega) (by omega) (by omega)) q) (fun _ _ _ q => q) (fun σ4734 h4735 g4736 => ?_)
        refine m_aload_n F rfl e_X10_pays_208 ?_
        refine r_getC F e_X10_pays_209 fl_X10_59 h4735 ((fld_eq (g4736 _ (by omega))).trans ((fld_eq (g4729 _ (by omega))).trans ((fld_eq (h4724.2 c (by rw [show kC c c = 1 from kC_at (k := 0) (by decide)]; decide))).trans ((fld_eq (h4703.2 c (by rw [show kC c c = 1 from kC_at (k := 0) (by decide)]; decide))).trans ((fld_eq (h4700.2 c (by rw [show kC c c = 1 from kC_at (k := 0) (by decide)]; decide))).trans f4688))))) ?_
        refine m_iload_n F rfl e_X10_pays_212 ?_
        refine m_bipush F (v := 9) (by decide) e_X10_pays_213 ?_
        refine m_iadd F e_X10_pays_215 ?_
        refine Wm.topE (w := nI (160 * n901 + 9)) (nI_add (160 * n901) 9) ?_
        refine m_dup2_11 F rfl rfl e_X10_pays_216 ?_
        refine r_sld F (j := 160 * n901 + 9) e_X10_pays_217 h4735 (nI_clamp (by omega)) (vp_in_nI (by omega) (by decide)) (fun x4737 h4738 f4739 => ?_)
        refine m_lload F rfl e_X10_pays_218 ?_
        refine m_ladd F e_X10_pays_220 ?_
        refine Wm.topl (fun x4740 _ => ?_)
        refine r_sst F (g' := (⟨T, Z, u, h, P, L⟩ : RG)) (j := 160 * n901 + 9) e_X10_pays_221 h4735 (by decide) (nI_clamp (by omega)) (vp_in_nI (by omega) (by decide)) (fun f q => EJ_same (EJ_lw (l := n901) (r := 9) (by omega) (by omega) (by omega)) q) (fun _ _ _ q => q) (fun σ4741 h4742 g4743 => ?_)
        refine m_aload_n F rfl e_X10_pays_222 ?_
        refine r_getC F e_X10_pays_223 fl_X10_59 h4742 ((fld_eq (g4743 _ (by omega))).trans ((fld_eq (g4736 _ (by omega))).trans ((fld_eq (g4729 _ (by omega))).trans ((fld_eq (h4724.2 c (by rw [show kC c c = 1 from kC_at (k := 0) (by decide)]; decide))).trans ((fld_eq (h4703.2 c (by rw [show kC c c = 1 from kC_at (k := 0) (by decide)]; decide))).trans ((fld_eq (h4700.2 c (by rw [show kC c c = 1 from kC_at (k := 0) (by decide)]; decide))).trans f4688)))))) ?_
        refine m_iload_n F rfl e_X10_pays_226 ?_
        refine m_bipush F (v := 10) (by decide) e_X10_pays_227 ?_
        refine m_iadd F e_X10_pays_229 ?_
        refine Wm.topE (w := nI (160 * n901 + 10)) (nI_add (160 * n901) 10) ?_
        refine m_dup2_11 F rfl rfl e_X10_pays_230 ?_
        refine r_sld F (j := 160 * n901 + 10) e_X10_pays_231 h4742 (nI_clamp (by omega)) (vp_in_nI (by omega) (by decide)) (fun x4744 h4745 f4746 => ?_)
        refine m_lload_n F rfl e_X10_pays_232 ?_
        refine m_ladd F e_X10_pays_233 ?_
        refine Wm.topl (fun x4747 _ => ?_)
        refine r_sst F (g' := (⟨T, Z, u, h, P, L⟩ : RG)) (j := 160 * n901 + 10) e_X10_pays_234 h4742 (by decide) (nI_clamp (by omega)) (vp_in_nI (by omega) (by decide)) (fun f q => EJ_same (EJ_lw (l := n901) (r := 10) (by omega) (by omega) (by omega)) q) (fun _ _ _ q => q) (fun σ4748 h4749 g4750 => ?_)
        refine m_aload_n F rfl e_X10_pays_235 ?_
        refine r_getC F e_X10_pays_236 fl_X10_59 h4749 ((fld_eq (g4750 _ (by omega))).trans ((fld_eq (g4743 _ (by omega))).trans ((fld_eq (g4736 _ (by omega))).trans ((fld_eq (g4729 _ (by omega))).trans ((fld_eq (h4724.2 c (by rw [show kC c c = 1 from kC_at (k := 0) (by decide)]; decide))).trans ((fld_eq (h4703.2 c (by rw [show kC c c = 1 from kC_at (k := 0) (by decide)]; decide))).trans ((fld_eq (h4700.2 c (by rw [show kC c c = 1 from kC_at (k := 0) (by decide)]; decide))).trans f4688))))))) ?_
        refine m_iload_n F rfl e_X10_pays_239 ?_
        refine m_iconst F (v := 5) (by decide) e_X10_pays_240 ?_
        refine m_iadd F e_X10_pays_241 ?_
        refine Wm.topE (w := nI (160 * n901 + 5)) (nI_add (160 * n901) 5) ?_
        refine m_dup2_11 F rfl rfl e_X10_pays_242 ?_
        refine r_sld F (j := 160 * n901 + 5) e_X10_pays_243 h4749 (nI_clamp (by omega)) (vp_in_nI (by omega) (by decide)) (fun x4751 h4752 f4753 => ?_)
        have hl4754 := hok.2 n901 (by omega)
        obtain rfl : x4751 = lN (L n901).2.2.2 := (EJ_l (l := n901) (r := 5) (by omega) (by decide)).mp h4752
        refine m_lconst F (v := 1) (by decide) e_X10_pays_244 ?_
        refine m_ladd F e_X10_pays_245 ?_
        refine Wm.toplE (w := lN ((L n901).2.2.2 + 1)) (lN_add ((L n901).2.2.2) 1) ?_
        refine r_sst F (g' := (⟨T, Z, u, h, P, (updL L n901 ((L n901).1, (L n901).2.1, (L n901).2.2.1, (L n901).2.2.2 + 1))⟩ : RG)) (j := 160 * n901 + 5) e_X10_pays_246 h4749 (by decide) (nI_clamp (by omega)) (vp_in_nI (by omega) (by decide)) (fun f q => EJ_up (l := n901) (r := 5) (by omega) (by decide) q rfl (by intro r' h1 h2 y hy; revert hy; unfold EL; split <;> simp_all)) CR.row (fun σ4755 h4756 g4757 => ?_)
        obtain ⟨L4758, eL4758⟩ : ∃ L9, L9 = (updL L n901 ((L n901).1, (L n901).2.1, (L n901).2.2.1, (L n901).2.2.2 + 1)) := ⟨_, rfl⟩
        rw [← eL4758] at h4756
        have fL4758 : L4758 n901 = ((L n901).1, (L n901).2.1, (L n901).2.2.1, (L n901).2.2.2 + 1) := by rw [eL4758]; exact if_pos rfl
        have fL47580 : (L4758 n901).1 = (L n901).1 := by rw [fL4758]
        have fL47581 : (L4758 n901).2.1 = (L n901).2.1 := by rw [fL4758]
        have fL47582 : (L4758 n901).2.2.1 = (L n901).2.2.1 := by rw [fL4758]
        have fL47583 : (L4758 n901).2.2.2 = (L n901).2.2.2 + 1 := by rw [fL4758]
        have oL4758 : ∀ i, i ≠ n901 → L4758 i = L i := fun i hi => by rw [eL4758]; exact if_neg hi
        have pL4758 : (L4758 4).1 = (L 4).1 := by rw [oL4758 4 (by omega)]
        refine m_aload_n F rfl e_X10_pays_247 ?_
        refine m_iconst F (v := 1) (by decide) e_X10_pays_248 ?_
        refine m_iload_n F rfl e_X10_pays_249 ?_
        refine m_lload_n F rfl e_X10_pays_250 ?_
        refine m_lneg F e_X10_pays_251 ?_
        refine Wm.topl (fun x4759 _ => ?_)
        refine m_lload F rfl e_X10_pays_252 ?_
        refine m_lload F rfl e_X10_pays_254 ?_
        refine m_lsub F e_X10_pays_256 ?_
        refine Wm.topl (fun x4760 _ => ?_)
        refine m_lload F rfl e_X10_pays_257 ?_
        refine m_lneg F e_X10_pays_259 ?_
        refine Wm.topl (fun x4761 _ => ?_)
        refine m_lload F rfl e_X10_pays_260 ?_
        refine m_lload F rfl e_X10_pays_262 ?_
        refine m_lconst F (v := 0) (by decide) e_X10_pays_264 ?_
        have okb4765 : OKB L4758 := OKB.upd (hok.b) (l := n901) (by omega) (fun i hi => (oL4758 i hi)) (by have h9 := (hok.b).2 n901 (by omega); omega)
        refine r_callV F e_X10_pays_265 (q_X10_entry (x_l X) V c T Z u h P L4758 _ _ 1 (nI n901) x4759 x4760 x4761 x4719 x4726 0 h4756.1 (okb4765) hP ) cb_X10_entry ml_X10_253 im_X10_entry se_X10_entry h4756 rfl rfl (rest := []) rfl (Nat.le_of_ble_eq_true rfl) ⟨Nat.le_of_ble_eq_true rfl, Nat.le_of_ble_eq_true rfl⟩ ⟨Nat.le_of_ble_eq_true rfl, Nat.le_of_ble_eq_true rfl⟩ (fun r σ4762 hp => ?_)
        obtain ⟨h4763, rfl⟩ := hp
        have h4764 := HS.trans h4756 h4763 (by decide)
        refine m_iload F rfl e_X10_pays_268 ?_
        refine m_if_eq F e_X10_pays_270 (fun _ => ?_) (fun q => absurd (by decide) q)
        have ok4766 : OKL P.n0 L4758 := OKL.upd hok (l := n901) (by omega) (fun i hi => (oL4758 i hi)) (by have h9 := hok.2 n901 (by omega); omega)
        exact m_vret F hQ e_X10_pays_284 (⟨L4758, ok4766, (by first | omega | rfl | assumption), h4764, rfl⟩)
      · obtain ⟨n4767, hn4767, rfl⟩ := nI_nn (x := x4716) (fun e => q143 (Int32.le_trans (Int32.le_of_lt e) (by decide)))
        have c143 : n4767 > 0 := by have hh := mt (nI_leI (a := n4767) (b := 0) (by omega) (by omega)).mpr q143; omega
        refine m_lconst F (v := 0) (by decide) e_X10_pays_146 ?_
        refine m_goto F e_X10_pays_147 ?_
        refine m_lstore F (lv' := [(8, .long 0), (10, .long x4715), (7, .int 0), (5, .long x4696), (3, .long x4693), (2, .int (nI (160 * n901))), (0, .ref c), (1, .int (nI n901))]) e_X10_pays_154 (by decide) rfl ?_
        refine m_lload F rfl e_X10_pays_156 ?_
        refine m_lload F rfl e_X10_pays_158 ?_
        refine m_lsub F e_X10_pays_160 ?_
        refine Wm.topl (fun x4768 _ => ?_)
        refine m_lload_n F rfl e_X10_pays_161 ?_
        refine m_ladd F e_X10_pays_162 ?_
        refine Wm.topl (fun x4769 _ => ?_)
        refine m_lstore F (lv' := [(10, .long x4769), (8, .long 0), (7, .int 0), (5, .long x4696), (3, .long x4693), (2, .int (nI (160 * n901))), (0, .ref c), (1, .int (nI n901))]) e_X10_pays_163 (by decide) rfl ?_
        refine m_aload_n F rfl e_X10_pays_165 ?_
        refine r_getC F e_X10_pays_166 fl_X10_59 h4704 ((fld_eq (h4703.2 c (by rw [show kC c c = 1 from kC_at (k := 0) (by decide)]; decide))).trans ((fld_eq (h4700.2 c (by rw [show kC c c = 1 from kC_at (k := 0) (by decide)]; decide))).trans f4688)) ?_
        refine m_iload_n F rfl e_X10_pays_169 ?_
        refine m_bipush F (v := 7) (by decide) e_X10_pays_170 ?_
        refine m_iadd F e_X10_pays_172 ?_
        refine Wm.topE (w := nI (160 * n901 + 7)) (nI_add (160 * n901) 7) ?_
        refine r_sld F (j := 160 * n901 + 7) e_X10_pays_173 h4704 (nI_clamp (by omega)) (vp_in_nI (by omega) (by decide)) (fun x4770 h4771 f4772 => ?_)
        refine m_aload_n F rfl e_X10_pays_174 ?_
        refine m_iload_n F rfl e_X10_pays_175 ?_
        refine r_callV F e_X10_pays_176 (q_X10_leftOn (x_l X) V c T Z u h P L _ _ n901 h4704.1 (hok.b) hP (by omega) (by first | omega | assumption | decide)) cb_X10_left ml_X10_257 im_X10_left se_X10_left h4704 rfl rfl (rest := [.long x4770]) rfl (Nat.le_of_ble_eq_true rfl) ⟨Nat.le_of_ble_eq_true rfl, Nat.le_of_ble_eq_true rfl⟩ ⟨Nat.le_of_ble_eq_true rfl, Nat.le_of_ble_eq_true rfl⟩ (fun r σ4773 hp => ?_)
        obtain ⟨h4774, rfl⟩ := hp
        have h4775 := HS.trans h4704 h4774 (by decide)
        refine m_i2l F e_X10_pays_179 ?_
        refine Wm.toplE (w := lN ((L n901).2.1 - (L n901).2.2.2)) (nI_l (by omega)) ?_
        refine m_ldiv F (lN_ne0 (by omega) (by omega)) e_X10_pays_180 ?_
        refine Wm.topl (fun x4776 _ => ?_)
        refine m_lstore F (lv' := [(12, .long x4776), (10, .long x4769), (8, .long 0), (7, .int 0), (5, .long x4696), (3, .long x4693), (2, .int (nI (160 * n901))), (0, .ref c), (1, .int (nI n901))]) e_X10_pays_181 (by decide) rfl ?_
        refine m_aload_n F rfl e_X10_pays_183 ?_
        refine r_getC F e_X10_pays_184 fl_X10_59 h4775 ((fld_eq (h4774.2 c (by rw [show kC c c = 1 from kC_at (k := 0) (by decide)]; decide))).trans ((fld_eq (h4703.2 c (by rw [show kC c c = 1 from kC_at (k := 0) (by decide)]; decide))).trans ((fld_eq (h4700.2 c (by rw [show kC c c = 1 from kC_at (k := 0) (by decide)]; decide))).trans f4688))) ?_
        refine m_iload_n F rfl e_X10_pays_187 ?_
        refine m_bipush F (v := 6) (by decide) e_X10_pays_188 ?_
        refine m_iadd F e_X10_pays_190 ?_
        refine Wm.topE (w := nI (160 * n901 + 6)) (nI_add (160 * n901) 6) ?_
        refine m_lload F rfl e_X10_pays_191 ?_
        refine r_sst F (g' := (⟨T, Z, u, h, P, L⟩ : RG)) (j := 160 * n901 + 6) e_X10_pays_193 h4775 (by decide) (nI_clamp (by omega)) (vp_in_nI (by omega) (by decide)) (fun f q => EJ_same (EJ_lw (l := n901) (r := 6) (by omega) (by omega) (by omega)) q) (fun _ _ _ q => q) (fun σ4777 h4778 g4779 => ?_)
        refine m_aload_n F rfl e_X10_pays_194 ?_
        refine r_getC F e_X10_pays_195 fl_X10_59 h4778 ((fld_eq (g4779 _ (by omega))).trans ((fld_eq (h4774.2 c (by rw [show kC c c = 1 from kC_at (k := 0) (by decide)]; decide))).trans ((fld_eq (h4703.2 c (by rw [show kC c c = 1 from kC_at (k := 0) (by decide)]; decide))).trans ((fld_eq (h4700.2 c (by rw [show kC c c = 1 from kC_at (k := 0) (by decide)]; decide))).trans f4688)))) ?_
        refine m_iload_n F rfl e_X10_pays_198 ?_
        refine m_bipush F (v := 7) (by decide) e_X10_pays_199 ?_
        refine m_iadd F e_X10_pays_201 ?_
        refine Wm.topE (w := nI (160 * n901 + 7)) (nI_add (160 * n901) 7) ?_
        refine m_dup2_11 F rfl rfl e_X10_pays_202 ?_
        refine r_sld F (j := 160 * n901 + 7) e_X10_pays_203 h4778 (nI_clamp (by omega)) (vp_in_nI (by omega) (by decide)) (fun x4780 h4781 f4782 => ?_)
        refine m_lload F rfl e_X10_pays_204 ?_
        refine m_lsub F e_X10_pays_206 ?_
        refine Wm.topl (fun x4783 _ => ?_)
        refine r_sst F (g' := (⟨T, Z, u, h, P, L⟩ : RG)) (j := 160 * n901 + 7) e_X10_pays_207 h4778 (by decide) (nI_clamp (by omega)) (vp_in_nI (by omega) (by decide)) (fun f q => EJ_same (EJ_lw (l := n901) (r := 7) (by omega) (by omega) (by omega)) q) (fun _ _ _ q => q) (fun σ4784 h4785 g4786 => ?_)
        refine m_aload_n F rfl e_X10_pays_208 ?_
        refine r_getC F e_X10_pays_209 fl_X10_59 h4785 ((fld_eq (g4786 _ (by omega))).trans ((fld_eq (g4779 _ (by omega))).trans ((fld_eq (h4774.2 c (by rw [show kC c c = 1 from kC_at (k := 0) (by decide)]; decide))).trans ((fld_eq (h4703.2 c (by rw [show kC c c = 1 from kC_at (k := 0) (by decide)]; decide))).trans ((fld_eq (h4700.2 c (by rw [show kC c c = 1 from kC_at (k := 0) (by decide)]; decide))).trans f4688))))) ?_
        refine m_iload_n F rfl e_X10_pays_212 ?_
        refine m_bipush F (v := 9) (by decide) e_X10_pays_213 ?_
        refine m_iadd F e_X10_pays_215 ?_
        refine Wm.topE (w := nI (160 * n901 + 9)) (nI_add (160 * n901) 9) ?_
        refine m_dup2_11 F rfl rfl e_X10_pays_216 ?_
        refine r_sld F (j := 160 * n901 + 9) e_X10_pays_217 h4785 (nI_clamp (by omega)) (vp_in_nI (by omega) (by decide)) (fun x4787 h4788 f4789 => ?_)
        refine m_lload F rfl e_X10_pays_218 ?_
        refine m_ladd F e_X10_pays_220 ?_
        refine Wm.topl (fun x4790 _ => ?_)
        refine r_sst F (g' := (⟨T, Z, u, h, P, L⟩ : RG)) (j := 160 * n901 + 9) e_X10_pays_221 h4785 (by decide) (nI_clamp (by omega)) (vp_in_nI (by omega) (by decide)) (fun f q => EJ_same (EJ_lw (l := n901) (r := 9) (by omega) (by omega) (by omega)) q) (fun _ _ _ q => q) (fun σ4791 h4792 g4793 => ?_)
        refine m_aload_n F rfl e_X10_pays_222 ?_
        refine r_getC F e_X10_pays_223 fl_X10_59 h4792 ((fld_eq (g4793 _ (by omega))).trans ((fld_eq (g4786 _ (by omega))).trans ((fld_eq (g4779 _ (by omega))).trans ((fld_eq (h4774.2 c (by rw [show kC c c = 1 from kC_at (k := 0) (by decide)]; decide))).trans ((fld_eq (h4703.2 c (by rw [show kC c c = 1 from kC_at (k := 0) (by decide)]; decide))).trans ((fld_eq (h4700.2 c (by rw [show kC c c = 1 from kC_at (k := 0) (by decide)]; decide))).trans f4688)))))) ?_
        refine m_iload_n F rfl e_X10_pays_226 ?_
        refine m_bipush F (v := 10) (by decide) e_X10_pays_227 ?_
        refine m_iadd F e_X10_pays_229 ?_
        refine Wm.topE (w := nI (160 * n901 + 10)) (nI_add (160 * n901) 10) ?_
        refine m_dup2_11 F rfl rfl e_X10_pays_230 ?_
        refine r_sld F (j := 160 * n901 + 10) e_X10_pays_231 h4792 (nI_clamp (by omega)) (vp_in_nI (by omega) (by decide)) (fun x4794 h4795 f4796 => ?_)
        refine m_lload_n F rfl e_X10_pays_232 ?_
        refine m_ladd F e_X10_pays_233 ?_
        refine Wm.topl (fun x4797 _ => ?_)
        refine r_sst F (g' := (⟨T, Z, u, h, P, L⟩ : RG)) (j := 160 * n901 + 10) e_X10_pays_234 h4792 (by decide) (nI_clamp (by omega)) (vp_in_nI (by omega) (by decide)) (fun f q => EJ_same (EJ_lw (l := n901) (r := 10) (by omega) (by omega) (by omega)) q) (fun _ _ _ q => q) (fun σ4798 h4799 g4800 => ?_)
        refine m_aload_n F rfl e_X10_pays_235 ?_
        refine r_getC F e_X10_pays_236 fl_X10_59 h4799 ((fld_eq (g4800 _ (by omega))).trans ((fld_eq (g4793 _ (by omega))).trans ((fld_eq (g4786 _ (by omega))).trans ((fld_eq (g4779 _ (by omega))).trans ((fld_eq (h4774.2 c (by rw [show kC c c = 1 from kC_at (k := 0) (by decide)]; decide))).trans ((fld_eq (h4703.2 c (by rw [show kC c c = 1 from kC_at (k := 0) (by decide)]; decide))).trans ((fld_eq (h4700.2 c (by rw [show kC c c = 1 from kC_at (k := 0) (by decide)]; decide))).trans f4688))))))) ?_
        refine m_iload_n F rfl e_X10_pays_239 ?_
        refine m_iconst F (v := 5) (by decide) e_X10_pays_240 ?_
        refine m_iadd F e_X10_pays_241 ?_
        refine Wm.topE (w := nI (160 * n901 + 5)) (nI_add (160 * n901) 5) ?_
        refine m_dup2_11 F rfl rfl e_X10_pays_242 ?_
        refine r_sld F (j := 160 * n901 + 5) e_X10_pays_243 h4799 (nI_clamp (by omega)) (vp_in_nI (by omega) (by decide)) (fun x4801 h4802 f4803 => ?_)
        have hl4804 := hok.2 n901 (by omega)
        obtain rfl : x4801 = lN (L n901).2.2.2 := (EJ_l (l := n901) (r := 5) (by omega) (by decide)).mp h4802
        refine m_lconst F (v := 1) (by decide) e_X10_pays_244 ?_
        refine m_ladd F e_X10_pays_245 ?_
        refine Wm.toplE (w := lN ((L n901).2.2.2 + 1)) (lN_add ((L n901).2.2.2) 1) ?_
        refine r_sst F (g' := (⟨T, Z, u, h, P, (updL L n901 ((L n901).1, (L n901).2.1, (L n901).2.2.1, (L n901).2.2.2 + 1))⟩ : RG)) (j := 160 * n901 + 5) e_X10_pays_246 h4799 (by decide) (nI_clamp (by omega)) (vp_in_nI (by omega) (by decide)) (fun f q => EJ_up (l := n901) (r := 5) (by omega) (by decide) q rfl (by intro r' h1 h2 y hy; revert hy; unfold EL; split <;> simp_all)) CR.row (fun σ4805 h4806 g4807 => ?_)
        obtain ⟨L4808, eL4808⟩ : ∃ L9, L9 = (updL L n901 ((L n901).1, (L n901).2.1, (L n901).2.2.1, (L n901).2.2.2 + 1)) := ⟨_, rfl⟩
        rw [← eL4808] at h4806
        have fL4808 : L4808 n901 = ((L n901).1, (L n901).2.1, (L n901).2.2.1, (L n901).2.2.2 + 1) := by rw [eL4808]; exact if_pos rfl
        have fL48080 : (L4808 n901).1 = (L n901).1 := by rw [fL4808]
        have fL48081 : (L4808 n901).2.1 = (L n901).2.1 := by rw [fL4808]
        have fL48082 : (L4808 n901).2.2.1 = (L n901).2.2.1 := by rw [fL4808]
        have fL48083 : (L4808 n901).2.2.2 = (L n901).2.2.2 + 1 := by rw [fL4808]
        have oL4808 : ∀ i, i ≠ n901 → L4808 i = L i := fun i hi => by rw [eL4808]; exact if_neg hi
        have pL4808 : (L4808 4).1 = (L 4).1 := by rw [oL4808 4 (by omega)]
        refine m_aload_n F rfl e_X10_pays_247 ?_
        refine m_iconst F (v := 1) (by decide) e_X10_pays_248 ?_
        refine m_iload_n F rfl e_X10_pays_249 ?_
        refine m_lload_n F rfl e_X10_pays_250 ?_
        refine m_lneg F e_X10_pays_251 ?_
        refine Wm.topl (fun x4809 _ => ?_)
        refine m_lload F rfl e_X10_pays_252 ?_
        refine m_lload F rfl e_X10_pays_254 ?_
        refine m_lsub F e_X10_pays_256 ?_
        refine Wm.topl (fun x4810 _ => ?_)
        refine m_lload F rfl e_X10_pays_257 ?_
        refine m_lneg F e_X10_pays_259 ?_
        refine Wm.topl (fun x4811 _ => ?_)
        refine m_lload F rfl e_X10_pays_260 ?_
        refine m_lload F rfl e_X10_pays_262 ?_
        refine m_lconst F (v := 0) (by decide) e_X10_pays_264 ?_
        have okb4815 : OKB L4808 := OKB.upd (hok.b) (l := n901) (by omega) (fun i hi => (oL4808 i hi)) (by have h9 := (hok.b).2 n901 (by omega); omega)
        refine r_callV F e_X10_pays_265 (q_X10_entry (x_l X) V c T Z u h P L4808 _ _ 1 (nI n901) x4809 x4810 x4811 x4769 x4776 0 h4806.1 (okb4815) hP ) cb_X10_entry ml_X10_253 im_X10_entry se_X10_entry h4806 rfl rfl (rest := []) rfl (Nat.le_of_ble_eq_true rfl) ⟨Nat.le_of_ble_eq_true rfl, Nat.le_of_ble_eq_true rfl⟩ ⟨Nat.le_of_ble_eq_true rfl, Nat.le_of_ble_eq_true rfl⟩ (fun r σ4812 hp => ?_)
        obtain ⟨h4813, rfl⟩ := hp
        have h4814 := HS.trans h4806 h4813 (by decide)
        refine m_iload F rfl e_X10_pays_268 ?_
        refine m_if_eq F e_X10_pays_270 (fun _ => ?_) (fun q => absurd (by decide) q)
        have ok4816 : OKL P.n0 L4808 := OKL.upd hok (l := n901) (by omega) (fun i hi => (oL4808 i hi)) (by have h9 := hok.2 n901 (by omega); omega)
        exact m_vret F hQ e_X10_pays_284 (⟨L4808, ok4816, (by first | omega | rfl | assumption), h4814, rfl⟩)
    · have c58 : n4705 ≠ 0 := by have hh := mt (nI_eq (a := n4705) (b := 0) (by omega) (by omega)).mpr q58; omega
      refine m_lload F rfl e_X10_pays_61 ?_
      refine m_lload_n F rfl e_X10_pays_63 ?_
      refine m_lcmp F e_X10_pays_64 ?_
      refine Wm.top (fun x4817 _ => ?_)
      refine m_if_le F e_X10_pays_65 (fun q65 => ?_) (fun q65 => ?_)
      · refine m_lconst F (v := 0) (by decide) e_X10_pays_75 ?_
        refine m_lstore F (lv' := [(10, .long 0), (7, .int 0), (5, .long x4696), (3, .long x4693), (2, .int (nI (160 * n901))), (0, .ref c), (1, .int (nI n901))]) e_X10_pays_76 (by decide) rfl ?_
        refine m_iload F rfl e_X10_pays_78 ?_
        refine m_if_eq F e_X10_pays_80 (fun _ => ?_) (fun q => absurd (by decide) q)
        refine m_lload F rfl e_X10_pays_87 ?_
        refine m_lload F rfl e_X10_pays_89 ?_
        refine m_aload_n F rfl e_X10_pays_91 ?_
        refine r_getC F e_X10_pays_92 fl_X10_59 h4704 ((fld_eq (h4703.2 c (by rw [show kC c c = 1 from kC_at (k := 0) (by decide)]; decide))).trans ((fld_eq (h4700.2 c (by rw [show kC c c = 1 from kC_at (k := 0) (by decide)]; decide))).trans f4688)) ?_
        refine m_iload_n F rfl e_X10_pays_95 ?_
        refine m_iconst F (v := 2) (by decide) e_X10_pays_96 ?_
        refine m_iadd F e_X10_pays_97 ?_
        refine Wm.topE (w := nI (160 * n901 + 2)) (nI_add (160 * n901) 2) ?_
        refine r_sld F (j := 160 * n901 + 2) e_X10_pays_98 h4704 (nI_clamp (by omega)) (vp_in_nI (by omega) (by decide)) (fun x4818 h4819 f4820 => ?_)
        obtain ⟨n4821, hn4821, rfl⟩ : ∃ n : Nat, n ≤ 1000000 ∧ x4818 = lN n := (EJ_l (l := n901) (r := 2) (by omega) (by decide)).mp h4819
        refine m_lmul F e_X10_pays_99 ?_
        refine Wm.topl (fun x4822 _ => ?_)
        refine m_ldc2 F kc_X10_239 e_X10_pays_100 ?_
        refine m_callS F e_X10_pays_103 (q_X10_rounded (x_l X) V _ _ x4822 1000000 (by omega) (by first | omega | assumption | decide)) cb_X10_rounded ml_X10_241 sm_X10_rounded rfl (rest := [.long 0]) rfl (Nat.le_of_ble_eq_true rfl) ⟨Nat.le_of_ble_eq_true rfl, Nat.le_of_ble_eq_true rfl⟩ ⟨Nat.le_of_ble_eq_true rfl, Nat.le_of_ble_eq_true rfl⟩ (k' := 0) (z' := 0) (N' := N) rfl rfl rfl (fun r σ4823 hp => ?_)
        obtain ⟨rfl, x4826, rfl⟩ := hp
        refine m_ladd F e_X10_pays_106 ?_
        refine Wm.topl (fun x4827 _ => ?_)
        refine m_lstore F (lv' := [(8, .long x4827), (10, .long 0), (7, .int 0), (5, .long x4696), (3, .long x4693), (2, .int (nI (160 * n901))), (0, .ref c), (1, .int (nI n901))]) e_X10_pays_107 (by decide) rfl ?_
        refine m_goto F e_X10_pays_109 ?_
        refine m_lload F rfl e_X10_pays_156 ?_
        refine m_lload F rfl e_X10_pays_158 ?_
        refine m_lsub F e_X10_pays_160 ?_
        refine Wm.topl (fun x4828 _ => ?_)
        refine m_lload_n F rfl e_X10_pays_161 ?_
        refine m_ladd F e_X10_pays_162 ?_
        refine Wm.topl (fun x4829 _ => ?_)
        refine m_lstore F (lv' := [(10, .long x4829), (8, .long x4827), (7, .int 0), (5, .long x4696), (3, .long x4693), (2, .int (nI (160 * n901))), (0, .ref c), (1, .int (nI n901))]) e_X10_pays_163 (by decide) rfl ?_
        refine m_aload_n F rfl e_X10_pays_165 ?_
        refine r_getC F e_X10_pays_166 fl_X10_59 h4704 ((fld_eq (h4703.2 c (by rw [show kC c c = 1 from kC_at (k := 0) (by decide)]; decide))).trans ((fld_eq (h4700.2 c (by rw [show kC c c = 1 from kC_at (k := 0) (by decide)]; decide))).trans f4688)) ?_
        refine m_iload_n F rfl e_X10_pays_169 ?_
        refine m_bipush F (v := 7) (by decide) e_X10_pays_170 ?_
        refine m_iadd F e_X10_pays_172 ?_
        refine Wm.topE (w := nI (160 * n901 + 7)) (nI_add (160 * n901) 7) ?_
        refine r_sld F (j := 160 * n901 + 7) e_X10_pays_173 h4704 (nI_clamp (by omega)) (vp_in_nI (by omega) (by decide)) (fun x4830 h4831 f4832 => ?_)
        refine m_aload_n F rfl e_X10_pays_174 ?_
        refine m_iload_n F rfl e_X10_pays_175 ?_
        refine r_callV F e_X10_pays_176 (q_X10_leftOn (x_l X) V c T Z u h P L _ _ n901 h4704.1 (hok.b) hP (by omega) (by first | omega | assumption | decide)) cb_X10_left ml_X10_257 im_X10_left se_X10_left h4704 rfl rfl (rest := [.long x4830]) rfl (Nat.le_of_ble_eq_true rfl) ⟨Nat.le_of_ble_eq_true rfl, Nat.le_of_ble_eq_true rfl⟩ ⟨Nat.le_of_ble_eq_true rfl, Nat.le_of_ble_eq_true rfl⟩ (fun r σ4833 hp => ?_)
        obtain ⟨h4834, rfl⟩ := hp
        have h4835 := HS.trans h4704 h4834 (by decide)
        refine m_i2l F e_X10_pays_179 ?_
        refine Wm.toplE (w := lN ((L n901).2.1 - (L n901).2.2.2)) (nI_l (by omega)) ?_
        refine m_ldiv F (lN_ne0 (by omega) (by omega)) e_X10_pays_180 ?_
        refine Wm.topl (fun x4836 _ => ?_)
        refine m_lstore F (lv' := [(12, .long x4836), (10, .long x4829), (8, .long x4827), (7, .int 0), (5, .long x4696), (3, .long x4693), (2, .int (nI (160 * n901))), (0, .ref c), (1, .int (nI n901))]) e_X10_pays_181 (by decide) rfl ?_
        refine m_aload_n F rfl e_X10_pays_183 ?_
        refine r_getC F e_X10_pays_184 fl_X10_59 h4835 ((fld_eq (h4834.2 c (by rw [show kC c c = 1 from kC_at (k := 0) (by decide)]; decide))).trans ((fld_eq (h4703.2 c (by rw [show kC c c = 1 from kC_at (k := 0) (by decide)]; decide))).trans ((fld_eq (h4700.2 c (by rw [show kC c c = 1 from kC_at (k := 0) (by decide)]; decide))).trans f4688))) ?_
        refine m_iload_n F rfl e_X10_pays_187 ?_
        refine m_bipush F (v := 6) (by decide) e_X10_pays_188 ?_
        refine m_iadd F e_X10_pays_190 ?_
        refine Wm.topE (w := nI (160 * n901 + 6)) (nI_add (160 * n901) 6) ?_
        refine m_lload F rfl e_X10_pays_191 ?_
        refine r_sst F (g' := (⟨T, Z, u, h, P, L⟩ : RG)) (j := 160 * n901 + 6) e_X10_pays_193 h4835 (by decide) (nI_clamp (by omega)) (vp_in_nI (by omega) (by decide)) (fun f q => EJ_same (EJ_lw (l := n901) (r := 6) (by omega) (by omega) (by omega)) q) (fun _ _ _ q => q) (fun σ4837 h4838 g4839 => ?_)
        refine m_aload_n F rfl e_X10_pays_194 ?_
        refine r_getC F e_X10_pays_195 fl_X10_59 h4838 ((fld_eq (g4839 _ (by omega))).trans ((fld_eq (h4834.2 c (by rw [show kC c c = 1 from kC_at (k := 0) (by decide)]; decide))).trans ((fld_eq (h4703.2 c (by rw [show kC c c = 1 from kC_at (k := 0) (by decide)]; decide))).trans ((fld_eq (h4700.2 c (by rw [show kC c c = 1 from kC_at (k := 0) (by decide)]; decide))).trans f4688)))) ?_
        refine m_iload_n F rfl e_X10_pays_198 ?_
        refine m_bipush F (v := 7) (by decide) e_X10_pays_199 ?_
        refine m_iadd F e_X10_pays_201 ?_
        refine Wm.topE (w := nI (160 * n901 + 7)) (nI_add (160 * n901) 7) ?_
        refine m_dup2_11 F rfl rfl e_X10_pays_202 ?_
        refine r_sld F (j := 160 * n901 + 7) e_X10_pays_203 h4838 (nI_clamp (by omega)) (vp_in_nI (by omega) (by decide)) (fun x4840 h4841 f4842 => ?_)
        refine m_lload F rfl e_X10_pays_204 ?_
        refine m_lsub F e_X10_pays_206 ?_
        refine Wm.topl (fun x4843 _ => ?_)
        refine r_sst F (g' := (⟨T, Z, u, h, P, L⟩ : RG)) (j := 160 * n901 + 7) e_X10_pays_207 h4838 (by decide) (nI_clamp (by omega)) (vp_in_nI (by omega) (by decide)) (fun f q => EJ_same (EJ_lw (l := n901) (r := 7) (by omega) (by omega) (by omega)) q) (fun _ _ _ q => q) (fun σ4844 h4845 g4846 => ?_)
        refine m_aload_n F rfl e_X10_pays_208 ?_
        refine r_getC F e_X10_pays_209 fl_X10_59 h4845 ((fld_eq (g4846 _ (by omega))).trans ((fld_eq (g4839 _ (by omega))).trans ((fld_eq (h4834.2 c (by rw [show kC c c = 1 from kC_at (k := 0) (by decide)]; decide))).trans ((fld_eq (h4703.2 c (by rw [show kC c c = 1 from kC_at (k := 0) (by decide)]; decide))).trans ((fld_eq (h4700.2 c (by rw [show kC c c = 1 from kC_at (k := 0) (by decide)]; decide))).trans f4688))))) ?_
        refine m_iload_n F rfl e_X10_pays_212 ?_
        refine m_bipush F (v := 9) (by decide) e_X10_pays_213 ?_
        refine m_iadd F e_X10_pays_215 ?_
        refine Wm.topE (w := nI (160 * n901 + 9)) (nI_add (160 * n901) 9) ?_
        refine m_dup2_11 F rfl rfl e_X10_pays_216 ?_
        refine r_sld F (j := 160 * n901 + 9) e_X10_pays_217 h4845 (nI_clamp (by omega)) (vp_in_nI (by omega) (by decide)) (fun x4847 h4848 f4849 => ?_)
        refine m_lload F rfl e_X10_pays_218 ?_
        refine m_ladd F e_X10_pays_220 ?_
        refine Wm.topl (fun x4850 _ => ?_)
        refine r_sst F (g' := (⟨T, Z, u, h, P, L⟩ : RG)) (j := 160 * n901 + 9) e_X10_pays_221 h4845 (by decide) (nI_clamp (by omega)) (vp_in_nI (by omega) (by decide)) (fun f q => EJ_same (EJ_lw (l := n901) (r := 9) (by omega) (by omega) (by omega)) q) (fun _ _ _ q => q) (fun σ4851 h4852 g4853 => ?_)
        refine m_aload_n F rfl e_X10_pays_222 ?_
        refine r_getC F e_X10_pays_223 fl_X10_59 h4852 ((fld_eq (g4853 _ (by omega))).trans ((fld_eq (g4846 _ (by omega))).trans ((fld_eq (g4839 _ (by omega))).trans ((fld_eq (h4834.2 c (by rw [show kC c c = 1 from kC_at (k := 0) (by decide)]; decide))).trans ((fld_eq (h4703.2 c (by rw [show kC c c = 1 from kC_at (k := 0) (by decide)]; decide))).trans ((fld_eq (h4700.2 c (by rw [show kC c c = 1 from kC_at (k := 0) (by decide)]; decide))).trans f4688)))))) ?_
        refine m_iload_n F rfl e_X10_pays_226 ?_
        refine m_bipush F (v := 10) (by decide) e_X10_pays_227 ?_
        refine m_iadd F e_X10_pays_229 ?_
        refine Wm.topE (w := nI (160 * n901 + 10)) (nI_add (160 * n901) 10) ?_
        refine m_dup2_11 F rfl rfl e_X10_pays_230 ?_
        refine r_sld F (j := 160 * n901 + 10) e_X10_pays_231 h4852 (nI_clamp (by omega)) (vp_in_nI (by omega) (by decide)) (fun x4854 h4855 f4856 => ?_)
        refine m_lload_n F rfl e_X10_pays_232 ?_
        refine m_ladd F e_X10_pays_233 ?_
        refine Wm.topl (fun x4857 _ => ?_)
        refine r_sst F (g' := (⟨T, Z, u, h, P, L⟩ : RG)) (j := 160 * n901 + 10) e_X10_pays_234 h4852 (by decide) (nI_clamp (by omega)) (vp_in_nI (by omega) (by decide)) (fun f q => EJ_same (EJ_lw (l := n901) (r := 10) (by omega) (by omega) (by omega)) q) (fun _ _ _ q => q) (fun σ4858 h4859 g4860 => ?_)
        refine m_aload_n F rfl e_X10_pays_235 ?_
        refine r_getC F e_X10_pays_236 fl_X10_59 h4859 ((fld_eq (g4860 _ (by omega))).trans ((fld_eq (g4853 _ (by omega))).trans ((fld_eq (g4846 _ (by omega))).trans ((fld_eq (g4839 _ (by omega))).trans ((fld_eq (h4834.2 c (by rw [show kC c c = 1 from kC_at (k := 0) (by decide)]; decide))).trans ((fld_eq (h4703.2 c (by rw [show kC c c = 1 from kC_at (k := 0) (by decide)]; decide))).trans ((fld_eq (h4700.2 c (by rw [show kC c c = 1 from kC_at (k := 0) (by decide)]; decide))).trans f4688))))))) ?_
        refine m_iload_n F rfl e_X10_pays_239 ?_
        refine m_iconst F (v := 5) (by decide) e_X10_pays_240 ?_
        refine m_iadd F e_X10_pays_241 ?_
        refine Wm.topE (w := nI (160 * n901 + 5)) (nI_add (160 * n901) 5) ?_
        refine m_dup2_11 F rfl rfl e_X10_pays_242 ?_
        refine r_sld F (j := 160 * n901 + 5) e_X10_pays_243 h4859 (nI_clamp (by omega)) (vp_in_nI (by omega) (by decide)) (fun x4861 h4862 f4863 => ?_)
        have hl4864 := hok.2 n901 (by omega)
        obtain rfl : x4861 = lN (L n901).2.2.2 := (EJ_l (l := n901) (r := 5) (by omega) (by decide)).mp h4862
        refine m_lconst F (v := 1) (by decide) e_X10_pays_244 ?_
        refine m_ladd F e_X10_pays_245 ?_
        refine Wm.toplE (w := lN ((L n901).2.2.2 + 1)) (lN_add ((L n901).2.2.2) 1) ?_
        refine r_sst F (g' := (⟨T, Z, u, h, P, (updL L n901 ((L n901).1, (L n901).2.1, (L n901).2.2.1, (L n901).2.2.2 + 1))⟩ : RG)) (j := 160 * n901 + 5) e_X10_pays_246 h4859 (by decide) (nI_clamp (by omega)) (vp_in_nI (by omega) (by decide)) (fun f q => EJ_up (l := n901) (r := 5) (by omega) (by decide) q rfl (by intro r' h1 h2 y hy; revert hy; unfold EL; split <;> simp_all)) CR.row (fun σ4865 h4866 g4867 => ?_)
        obtain ⟨L4868, eL4868⟩ : ∃ L9, L9 = (updL L n901 ((L n901).1, (L n901).2.1, (L n901).2.2.1, (L n901).2.2.2 + 1)) := ⟨_, rfl⟩
        rw [← eL4868] at h4866
        have fL4868 : L4868 n901 = ((L n901).1, (L n901).2.1, (L n901).2.2.1, (L n901).2.2.2 + 1) := by rw [eL4868]; exact if_pos rfl
        have fL48680 : (L4868 n901).1 = (L n901).1 := by rw [fL4868]
        have fL48681 : (L4868 n901).2.1 = (L n901).2.1 := by rw [fL4868]
        have fL48682 : (L4868 n901).2.2.1 = (L n901).2.2.1 := by rw [fL4868]
        have fL48683 : (L4868 n901).2.2.2 = (L n901).2.2.2 + 1 := by rw [fL4868]
        have oL4868 : ∀ i, i ≠ n901 → L4868 i = L i := fun i hi => by rw [eL4868]; exact if_neg hi
        have pL4868 : (L4868 4).1 = (L 4).1 := by rw [oL4868 4 (by omega)]
        refine m_aload_n F rfl e_X10_pays_247 ?_
        refine m_iconst F (v := 1) (by decide) e_X10_pays_248 ?_
        refine m_iload_n F rfl e_X10_pays_249 ?_
        refine m_lload_n F rfl e_X10_pays_250 ?_
        refine m_lneg F e_X10_pays_251 ?_
        refine Wm.topl (fun x4869 _ => ?_)
        refine m_lload F rfl e_X10_pays_252 ?_
        refine m_lload F rfl e_X10_pays_254 ?_
        refine m_lsub F e_X10_pays_256 ?_
        refine Wm.topl (fun x4870 _ => ?_)
        refine m_lload F rfl e_X10_pays_257 ?_
        refine m_lneg F e_X10_pays_259 ?_
        refine Wm.topl (fun x4871 _ => ?_)
        refine m_lload F rfl e_X10_pays_260 ?_
        refine m_lload F rfl e_X10_pays_262 ?_
        refine m_lconst F (v := 0) (by decide) e_X10_pays_264 ?_
        have okb4875 : OKB L4868 := OKB.upd (hok.b) (l := n901) (by omega) (fun i hi => (oL4868 i hi)) (by have h9 := (hok.b).2 n901 (by omega); omega)
        refine r_callV F e_X10_pays_265 (q_X10_entry (x_l X) V c T Z u h P L4868 _ _ 1 (nI n901) x4869 x4870 x4871 x4829 x4836 0 h4866.1 (okb4875) hP ) cb_X10_entry ml_X10_253 im_X10_entry se_X10_entry h4866 rfl rfl (rest := []) rfl (Nat.le_of_ble_eq_true rfl) ⟨Nat.le_of_ble_eq_true rfl, Nat.le_of_ble_eq_true rfl⟩ ⟨Nat.le_of_ble_eq_true rfl, Nat.le_of_ble_eq_true rfl⟩ (fun r σ4872 hp => ?_)
        obtain ⟨h4873, rfl⟩ := hp
        have h4874 := HS.trans h4866 h4873 (by decide)
        refine m_iload F rfl e_X10_pays_268 ?_
        refine m_if_eq F e_X10_pays_270 (fun _ => ?_) (fun q => absurd (by decide) q)
        have ok4876 : OKL P.n0 L4868 := OKL.upd hok (l := n901) (by omega) (fun i hi => (oL4868 i hi)) (by have h9 := hok.2 n901 (by omega); omega)
        exact m_vret F hQ e_X10_pays_284 (⟨L4868, ok4876, (by first | omega | rfl | assumption), h4874, rfl⟩)
      · obtain ⟨n4877, hn4877, rfl⟩ := nI_nn (x := x4817) (fun e => q65 (Int32.le_trans (Int32.le_of_lt e) (by decide)))
        have c65 : n4877 > 0 := by have hh := mt (nI_leI (a := n4877) (b := 0) (by omega) (by omega)).mpr q65; omega
        refine m_lload F rfl e_X10_pays_68 ?_
        refine m_lload_n F rfl e_X10_pays_70 ?_
        refine m_lsub F e_X10_pays_71 ?_
        refine Wm.topl (fun x4878 _ => ?_)
        refine m_goto F e_X10_pays_72 ?_
        refine m_lstore F (lv' := [(10, .long x4878), (7, .int 0), (5, .long x4696), (3, .long x4693), (2, .int (nI (160 * n901))), (0, .ref c), (1, .int (nI n901))]) e_X10_pays_76 (by decide) rfl ?_
        refine m_iload F rfl e_X10_pays_78 ?_
        refine m_if_eq F e_X10_pays_80 (fun _ => ?_) (fun q => absurd (by decide) q)
        refine m_lload F rfl e_X10_pays_87 ?_
        refine m_lload F rfl e_X10_pays_89 ?_
        refine m_aload_n F rfl e_X10_pays_91 ?_
        refine r_getC F e_X10_pays_92 fl_X10_59 h4704 ((fld_eq (h4703.2 c (by rw [show kC c c = 1 from kC_at (k := 0) (by decide)]; decide))).trans ((fld_eq (h4700.2 c (by rw [show kC c c = 1 from kC_at (k := 0) (by decide)]; decide))).trans f4688)) ?_
        refine m_iload_n F rfl e_X10_pays_95 ?_
        refine m_iconst F (v := 2) (by decide) e_X10_pays_96 ?_
        refine m_iadd F e_X10_pays_97 ?_
        refine Wm.topE (w := nI (160 * n901 + 2)) (nI_add (160 * n901) 2) ?_
        refine r_sld F (j := 160 * n901 + 2) e_X10_pays_98 h4704 (nI_clamp (by omega)) (vp_in_nI (by omega) (by decide)) (fun x4879 h4880 f4881 => ?_)
        obtain ⟨n4882, hn4882, rfl⟩ : ∃ n : Nat, n ≤ 1000000 ∧ x4879 = lN n := (EJ_l (l := n901) (r := 2) (by omega) (by decide)).mp h4880
        refine m_lmul F e_X10_pays_99 ?_
        refine Wm.topl (fun x4883 _ => ?_)
        refine m_ldc2 F kc_X10_239 e_X10_pays_100 ?_
        refine m_callS F e_X10_pays_103 (q_X10_rounded (x_l X) V _ _ x4883 1000000 (by omega) (by first | omega | assumption | decide)) cb_X10_rounded ml_X10_241 sm_X10_rounded rfl (rest := [.long x4878]) rfl (Nat.le_of_ble_eq_true rfl) ⟨Nat.le_of_ble_eq_true rfl, Nat.le_of_ble_eq_true rfl⟩ ⟨Nat.le_of_ble_eq_true rfl, Nat.le_of_ble_eq_true rfl⟩ (k' := 0) (z' := 0) (N' := N) rfl rfl rfl (fun r σ4884 hp => ?_)
        obtain ⟨rfl, x4887, rfl⟩ := hp
        refine m_ladd F e_X10_pays_106 ?_
        refine Wm.topl (fun x4888 _ => ?_)
        refine m_lstore F (lv' := [(8, .long x4888), (10, .long x4878), (7, .int 0), (5, .long x4696), (3, .long x4693), (2, .int (nI (160 * n901))), (0, .ref c), (1, .int (nI n901))]) e_X10_pays_107 (by decide) rfl ?_
        refine m_goto F e_X10_pays_109 ?_
        refine m_lload F rfl e_X10_pays_156 ?_
        refine m_lload F rfl e_X10_pays_158 ?_
        refine m_lsub F e_X10_pays_160 ?_
        refine Wm.topl (fun x4889 _ => ?_)
        refine m_lload_n F rfl e_X10_pays_161 ?_
        refine m_ladd F e_X10_pays_162 ?_
        refine Wm.topl (fun x4890 _ => ?_)
        refine m_lstore F (lv' := [(10, .long x4890), (8, .long x4888), (7, .int 0), (5, .long x4696), (3, .long x4693), (2, .int (nI (160 * n901))), (0, .ref c), (1, .int (nI n901))]) e_X10_pays_163 (by decide) rfl ?_
        refine m_aload_n F rfl e_X10_pays_165 ?_
        refine r_getC F e_X10_pays_166 fl_X10_59 h4704 ((fld_eq (h4703.2 c (by rw [show kC c c = 1 from kC_at (k := 0) (by decide)]; decide))).trans ((fld_eq (h4700.2 c (by rw [show kC c c = 1 from kC_at (k := 0) (by decide)]; decide))).trans f4688)) ?_
        refine m_iload_n F rfl e_X10_pays_169 ?_
        refine m_bipush F (v := 7) (by decide) e_X10_pays_170 ?_
        refine m_iadd F e_X10_pays_172 ?_
        refine Wm.topE (w := nI (160 * n901 + 7)) (nI_add (160 * n901) 7) ?_
        refine r_sld F (j := 160 * n901 + 7) e_X10_pays_173 h4704 (nI_clamp (by omega)) (vp_in_nI (by omega) (by decide)) (fun x4891 h4892 f4893 => ?_)
        refine m_aload_n F rfl e_X10_pays_174 ?_
        refine m_iload_n F rfl e_X10_pays_175 ?_
        refine r_callV F e_X10_pays_176 (q_X10_leftOn (x_l X) V c T Z u h P L _ _ n901 h4704.1 (hok.b) hP (by omega) (by first | omega | assumption | decide)) cb_X10_left ml_X10_257 im_X10_left se_X10_left h4704 rfl rfl (rest := [.long x4891]) rfl (Nat.le_of_ble_eq_true rfl) ⟨Nat.le_of_ble_eq_true rfl, Nat.le_of_ble_eq_true rfl⟩ ⟨Nat.le_of_ble_eq_true rfl, Nat.le_of_ble_eq_true rfl⟩ (fun r σ4894 hp => ?_)
        obtain ⟨h4895, rfl⟩ := hp
        have h4896 := HS.trans h4704 h4895 (by decide)
        refine m_i2l F e_X10_pays_179 ?_
        refine Wm.toplE (w := lN ((L n901).2.1 - (L n901).2.2.2)) (nI_l (by omega)) ?_
        refine m_ldiv F (lN_ne0 (by omega) (by omega)) e_X10_pays_180 ?_
        refine Wm.topl (fun x4897 _ => ?_)
        refine m_lstore F (lv' := [(12, .long x4897), (10, .long x4890), (8, .long x4888), (7, .int 0), (5, .long x4696), (3, .long x4693), (2, .int (nI (160 * n901))), (0, .ref c), (1, .int (nI n901))]) e_X10_pays_181 (by decide) rfl ?_
        refine m_aload_n F rfl e_X10_pays_183 ?_
        refine r_getC F e_X10_pays_184 fl_X10_59 h4896 ((fld_eq (h4895.2 c (by rw [show kC c c = 1 from kC_at (k := 0) (by decide)]; decide))).trans ((fld_eq (h4703.2 c (by rw [show kC c c = 1 from kC_at (k := 0) (by decide)]; decide))).trans ((fld_eq (h4700.2 c (by rw [show kC c c = 1 from kC_at (k := 0) (by decide)]; decide))).trans f4688))) ?_
        refine m_iload_n F rfl e_X10_pays_187 ?_
        refine m_bipush F (v := 6) (by decide) e_X10_pays_188 ?_
        refine m_iadd F e_X10_pays_190 ?_
        refine Wm.topE (w := nI (160 * n901 + 6)) (nI_add (160 * n901) 6) ?_
        refine m_lload F rfl e_X10_pays_191 ?_
        refine r_sst F (g' := (⟨T, Z, u, h, P, L⟩ : RG)) (j := 160 * n901 + 6) e_X10_pays_193 h4896 (by decide) (nI_clamp (by omega)) (vp_in_nI (by omega) (by decide)) (fun f q => EJ_same (EJ_lw (l := n901) (r := 6) (by omega) (by omega) (by omega)) q) (fun _ _ _ q => q) (fun σ4898 h4899 g4900 => ?_)
        refine m_aload_n F rfl e_X10_pays_194 ?_
        refine r_getC F e_X10_pays_195 fl_X10_59 h4899 ((fld_eq (g4900 _ (by omega))).trans ((fld_eq (h4895.2 c (by rw [show kC c c = 1 from kC_at (k := 0) (by decide)]; decide))).trans ((fld_eq (h4703.2 c (by rw [show kC c c = 1 from kC_at (k := 0) (by decide)]; decide))).trans ((fld_eq (h4700.2 c (by rw [show kC c c = 1 from kC_at (k := 0) (by decide)]; decide))).trans f4688)))) ?_
        refine m_iload_n F rfl e_X10_pays_198 ?_
        refine m_bipush F (v := 7) (by decide) e_X10_pays_199 ?_
        refine m_iadd F e_X10_pays_201 ?_
        refine Wm.topE (w := nI (160 * n901 + 7)) (nI_add (160 * n901) 7) ?_
        refine m_dup2_11 F rfl rfl e_X10_pays_202 ?_
        refine r_sld F (j := 160 * n901 + 7) e_X10_pays_203 h4899 (nI_clamp (by omega)) (vp_in_nI (by omega) (by decide)) (fun x4901 h4902 f4903 => ?_)
        refine m_lload F rfl e_X10_pays_204 ?_
        refine m_lsub F e_X10_pays_206 ?_
        refine Wm.topl (fun x4904 _ => ?_)
        refine r_sst F (g' := (⟨T, Z, u, h, P, L⟩ : RG)) (j := 160 * n901 + 7) e_X10_pays_207 h4899 (by decide) (nI_clamp (by omega)) (vp_in_nI (by omega) (by decide)) (fun f q => EJ_same (EJ_lw (l := n901) (r := 7) (by omega) (by omega) (by omega)) q) (fun _ _ _ q => q) (fun σ4905 h4906 g4907 => ?_)
        refine m_aload_n F rfl e_X10_pays_208 ?_
        refine r_getC F e_X10_pays_209 fl_X10_59 h4906 ((fld_eq (g4907 _ (by omega))).trans ((fld_eq (g4900 _ (by omega))).trans ((fld_eq (h4895.2 c (by rw [show kC c c = 1 from kC_at (k := 0) (by decide)]; decide))).trans ((fld_eq (h4703.2 c (by rw [show kC c c = 1 from kC_at (k := 0) (by decide)]; decide))).trans ((fld_eq (h4700.2 c (by rw [show kC c c = 1 from kC_at (k := 0) (by decide)]; decide))).trans f4688))))) ?_
        refine m_iload_n F rfl e_X10_pays_212 ?_
        refine m_bipush F (v := 9) (by decide) e_X10_pays_213 ?_
        refine m_iadd F e_X10_pays_215 ?_
        refine Wm.topE (w := nI (160 * n901 + 9)) (nI_add (160 * n901) 9) ?_
        refine m_dup2_11 F rfl rfl e_X10_pays_216 ?_
        refine r_sld F (j := 160 * n901 + 9) e_X10_pays_217 h4906 (nI_clamp (by omega)) (vp_in_nI (by omega) (by decide)) (fun x4908 h4909 f4910 => ?_)
        refine m_lload F rfl e_X10_pays_218 ?_
        refine m_ladd F e_X10_pays_220 ?_
        refine Wm.topl (fun x4911 _ => ?_)
        refine r_sst F (g' := (⟨T, Z, u, h, P, L⟩ : RG)) (j := 160 * n901 + 9) e_X10_pays_221 h4906 (by decide) (nI_clamp (by omega)) (vp_in_nI (by omega) (by decide)) (fun f q => EJ_same (EJ_lw (l := n901) (r := 9) (by omega) (by omega) (by omega)) q) (fun _ _ _ q => q) (fun σ4912 h4913 g4914 => ?_)
        refine m_aload_n F rfl e_X10_pays_222 ?_
        refine r_getC F e_X10_pays_223 fl_X10_59 h4913 ((fld_eq (g4914 _ (by omega))).trans ((fld_eq (g4907 _ (by omega))).trans ((fld_eq (g4900 _ (by omega))).trans ((fld_eq (h4895.2 c (by rw [show kC c c = 1 from kC_at (k := 0) (by decide)]; decide))).trans ((fld_eq (h4703.2 c (by rw [show kC c c = 1 from kC_at (k := 0) (by decide)]; decide))).trans ((fld_eq (h4700.2 c (by rw [show kC c c = 1 from kC_at (k := 0) (by decide)]; decide))).trans f4688)))))) ?_
        refine m_iload_n F rfl e_X10_pays_226 ?_
        refine m_bipush F (v := 10) (by decide) e_X10_pays_227 ?_
        refine m_iadd F e_X10_pays_229 ?_
        refine Wm.topE (w := nI (160 * n901 + 10)) (nI_add (160 * n901) 10) ?_
        refine m_dup2_11 F rfl rfl e_X10_pays_230 ?_
        refine r_sld F (j := 160 * n901 + 10) e_X10_pays_231 h4913 (nI_clamp (by omega)) (vp_in_nI (by omega) (by decide)) (fun x4915 h4916 f4917 => ?_)
        refine m_lload_n F rfl e_X10_pays_232 ?_
        refine m_ladd F e_X10_pays_233 ?_
        refine Wm.topl (fun x4918 _ => ?_)
        refine r_sst F (g' := (⟨T, Z, u, h, P, L⟩ : RG)) (j := 160 * n901 + 10) e_X10_pays_234 h4913 (by decide) (nI_clamp (by omega)) (vp_in_nI (by omega) (by decide)) (fun f q => EJ_same (EJ_lw (l := n901) (r := 10) (by omega) (by omega) (by omega)) q) (fun _ _ _ q => q) (fun σ4919 h4920 g4921 => ?_)
        refine m_aload_n F rfl e_X10_pays_235 ?_
        refine r_getC F e_X10_pays_236 fl_X10_59 h4920 ((fld_eq (g4921 _ (by omega))).trans ((fld_eq (g4914 _ (by omega))).trans ((fld_eq (g4907 _ (by omega))).trans ((fld_eq (g4900 _ (by omega))).trans ((fld_eq (h4895.2 c (by rw [show kC c c = 1 from kC_at (k := 0) (by decide)]; decide))).trans ((fld_eq (h4703.2 c (by rw [show kC c c = 1 from kC_at (k := 0) (by decide)]; decide))).trans ((fld_eq (h4700.2 c (by rw [show kC c c = 1 from kC_at (k := 0) (by decide)]; decide))).trans f4688))))))) ?_
        refine m_iload_n F rfl e_X10_pays_239 ?_
        refine m_iconst F (v := 5) (by decide) e_X10_pays_240 ?_
        refine m_iadd F e_X10_pays_241 ?_
        refine Wm.topE (w := nI (160 * n901 + 5)) (nI_add (160 * n901) 5) ?_
        refine m_dup2_11 F rfl rfl e_X10_pays_242 ?_
        refine r_sld F (j := 160 * n901 + 5) e_X10_pays_243 h4920 (nI_clamp (by omega)) (vp_in_nI (by omega) (by decide)) (fun x4922 h4923 f4924 => ?_)
        have hl4925 := hok.2 n901 (by omega)
        obtain rfl : x4922 = lN (L n901).2.2.2 := (EJ_l (l := n901) (r := 5) (by omega) (by decide)).mp h4923
        refine m_lconst F (v := 1) (by decide) e_X10_pays_244 ?_
        refine m_ladd F e_X10_pays_245 ?_
        refine Wm.toplE (w := lN ((L n901).2.2.2 + 1)) (lN_add ((L n901).2.2.2) 1) ?_
        refine r_sst F (g' := (⟨T, Z, u, h, P, (updL L n901 ((L n901).1, (L n901).2.1, (L n901).2.2.1, (L n901).2.2.2 + 1))⟩ : RG)) (j := 160 * n901 + 5) e_X10_pays_246 h4920 (by decide) (nI_clamp (by omega)) (vp_in_nI (by omega) (by decide)) (fun f q => EJ_up (l := n901) (r := 5) (by omega) (by decide) q rfl (by intro r' h1 h2 y hy; revert hy; unfold EL; split <;> simp_all)) CR.row (fun σ4926 h4927 g4928 => ?_)
        obtain ⟨L4929, eL4929⟩ : ∃ L9, L9 = (updL L n901 ((L n901).1, (L n901).2.1, (L n901).2.2.1, (L n901).2.2.2 + 1)) := ⟨_, rfl⟩
        rw [← eL4929] at h4927
        have fL4929 : L4929 n901 = ((L n901).1, (L n901).2.1, (L n901).2.2.1, (L n901).2.2.2 + 1) := by rw [eL4929]; exact if_pos rfl
        have fL49290 : (L4929 n901).1 = (L n901).1 := by rw [fL4929]
        have fL49291 : (L4929 n901).2.1 = (L n901).2.1 := by rw [fL4929]
        have fL49292 : (L4929 n901).2.2.1 = (L n901).2.2.1 := by rw [fL4929]
        have fL49293 : (L4929 n901).2.2.2 = (L n901).2.2.2 + 1 := by rw [fL4929]
        have oL4929 : ∀ i, i ≠ n901 → L4929 i = L i := fun i hi => by rw [eL4929]; exact if_neg hi
        have pL4929 : (L4929 4).1 = (L 4).1 := by rw [oL4929 4 (by omega)]
        refine m_aload_n F rfl e_X10_pays_247 ?_
        refine m_iconst F (v := 1) (by decide) e_X10_pays_248 ?_
        refine m_iload_n F rfl e_X10_pays_249 ?_
        refine m_lload_n F rfl e_X10_pays_250 ?_
        refine m_lneg F e_X10_pays_251 ?_
        refine Wm.topl (fun x4930 _ => ?_)
        refine m_lload F rfl e_X10_pays_252 ?_
        refine m_lload F rfl e_X10_pays_254 ?_
        refine m_lsub F e_X10_pays_256 ?_
        refine Wm.topl (fun x4931 _ => ?_)
        refine m_lload F rfl e_X10_pays_257 ?_
        refine m_lneg F e_X10_pays_259 ?_
        refine Wm.topl (fun x4932 _ => ?_)
        refine m_lload F rfl e_X10_pays_260 ?_
        refine m_lload F rfl e_X10_pays_262 ?_
        refine m_lconst F (v := 0) (by decide) e_X10_pays_264 ?_
        have okb4936 : OKB L4929 := OKB.upd (hok.b) (l := n901) (by omega) (fun i hi => (oL4929 i hi)) (by have h9 := (hok.b).2 n901 (by omega); omega)
        refine r_callV F e_X10_pays_265 (q_X10_entry (x_l X) V c T Z u h P L4929 _ _ 1 (nI n901) x4930 x4931 x4932 x4890 x4897 0 h4927.1 (okb4936) hP ) cb_X10_entry ml_X10_253 im_X10_entry se_X10_entry h4927 rfl rfl (rest := []) rfl (Nat.le_of_ble_eq_true rfl) ⟨Nat.le_of_ble_eq_true rfl, Nat.le_of_ble_eq_true rfl⟩ ⟨Nat.le_of_ble_eq_true rfl, Nat.le_of_ble_eq_true rfl⟩ (fun r σ4933 hp => ?_)
        obtain ⟨h4934, rfl⟩ := hp
        have h4935 := HS.trans h4927 h4934 (by decide)
        refine m_iload F rfl e_X10_pays_268 ?_
        refine m_if_eq F e_X10_pays_270 (fun _ => ?_) (fun q => absurd (by decide) q)
        have ok4937 : OKL P.n0 L4929 := OKL.upd hok (l := n901) (by omega) (fun i hi => (oL4929 i hi)) (by have h9 := hok.2 n901 (by omega); omega)
        exact m_vret F hQ e_X10_pays_284 (⟨L4929, ok4937, (by first | omega | rfl | assumption), h4935, rfl⟩)
  · have c43 : ((L n901).2.1 - (L n901).2.2.2) = 1 := (nI_eq (a := ((L n901).2.1 - (L n901).2.2.2)) (b := 1) (by omega) (by omega)).mp q43
    refine m_iconst F (v := 1) (by decide) e_X10_pays_46 ?_
    refine m_goto F e_X10_pays_47 ?_
    refine m_istore F (lv' := [(7, .int 1), (5, .long x4696), (3, .long x4693), (2, .int (nI (160 * n901))), (0, .ref c), (1, .int (nI n901))]) e_X10_pays_51 (by decide) rfl ?_
    refine m_aload_n F rfl e_X10_pays_53 ?_
    refine m_iload_n F rfl e_X10_pays_54 ?_
    refine r_callV F e_X10_pays_55 (q_X10_isEarly (x_l X) V c T Z u h P L _ _ n901 h4701.1 (hok.b) hP (by omega)) cb_X10_isEarly ml_X10_236 im_X10_isEarly se_X10_isEarly h4701 rfl rfl (rest := []) rfl (Nat.le_of_ble_eq_true rfl) ⟨Nat.le_of_ble_eq_true rfl, Nat.le_of_ble_eq_true rfl⟩ ⟨Nat.le_of_ble_eq_true rfl, Nat.le_of_ble_eq_true rfl⟩ (fun r σ4938 hp => ?_)
    obtain ⟨h4939, n4941, hn4941, rfl⟩ := hp
    have h4940 := HS.trans h4701 h4939 (by decide)
    refine m_if_eq F e_X10_pays_58 (fun q58 => ?_) (fun q58 => ?_)
    · have c58 : n4941 = 0 := (nI_eq (a := n4941) (b := 0) (by omega) (by omega)).mp q58
      refine m_lload F rfl e_X10_pays_112 ?_
      refine m_lload F rfl e_X10_pays_114 ?_
      refine m_aload_n F rfl e_X10_pays_116 ?_
      refine r_getC F e_X10_pays_117 fl_X10_59 h4940 ((fld_eq (h4939.2 c (by rw [show kC c c = 1 from kC_at (k := 0) (by decide)]; decide))).trans ((fld_eq (h4700.2 c (by rw [show kC c c = 1 from kC_at (k := 0) (by decide)]; decide))).trans f4688)) ?_
      refine m_iload_n F rfl e_X10_pays_120 ?_
      refine m_iconst F (v := 2) (by decide) e_X10_pays_121 ?_
      refine m_iadd F e_X10_pays_122 ?_
      refine Wm.topE (w := nI (160 * n901 + 2)) (nI_add (160 * n901) 2) ?_
      refine r_sld F (j := 160 * n901 + 2) e_X10_pays_123 h4940 (nI_clamp (by omega)) (vp_in_nI (by omega) (by decide)) (fun x4942 h4943 f4944 => ?_)
      obtain ⟨n4945, hn4945, rfl⟩ : ∃ n : Nat, n ≤ 1000000 ∧ x4942 = lN n := (EJ_l (l := n901) (r := 2) (by omega) (by decide)).mp h4943
      refine m_lmul F e_X10_pays_124 ?_
      refine Wm.topl (fun x4946 _ => ?_)
      refine m_ldc2 F kc_X10_239 e_X10_pays_125 ?_
      refine m_callS F e_X10_pays_128 (q_X10_rounded (x_l X) V _ _ x4946 1000000 (by omega) (by first | omega | assumption | decide)) cb_X10_rounded ml_X10_241 sm_X10_rounded rfl (rest := [.long x4696]) rfl (Nat.le_of_ble_eq_true rfl) ⟨Nat.le_of_ble_eq_true rfl, Nat.le_of_ble_eq_true rfl⟩ ⟨Nat.le_of_ble_eq_true rfl, Nat.le_of_ble_eq_true rfl⟩ (k' := 0) (z' := 0) (N' := N) rfl rfl rfl (fun r σ4947 hp => ?_)
      obtain ⟨rfl, x4950, rfl⟩ := hp
      refine m_ladd F e_X10_pays_131 ?_
      refine Wm.topl (fun x4951 _ => ?_)
      refine m_lstore F (lv' := [(10, .long x4951), (7, .int 1), (5, .long x4696), (3, .long x4693), (2, .int (nI (160 * n901))), (0, .ref c), (1, .int (nI n901))]) e_X10_pays_132 (by decide) rfl ?_
      refine m_iload F rfl e_X10_pays_134 ?_
      refine m_if_ne F e_X10_pays_136 (fun _ => ?_) (fun q => absurd q (by decide))
      refine m_lconst F (v := 0) (by decide) e_X10_pays_146 ?_
      refine m_goto F e_X10_pays_147 ?_
      refine m_lstore F (lv' := [(8, .long 0), (10, .long x4951), (7, .int 1), (5, .long x4696), (3, .long x4693), (2, .int (nI (160 * n901))), (0, .ref c), (1, .int (nI n901))]) e_X10_pays_154 (by decide) rfl ?_
      refine m_lload F rfl e_X10_pays_156 ?_
      refine m_lload F rfl e_X10_pays_158 ?_
      refine m_lsub F e_X10_pays_160 ?_
      refine Wm.topl (fun x4952 _ => ?_)
      refine m_lload_n F rfl e_X10_pays_161 ?_
      refine m_ladd F e_X10_pays_162 ?_
      refine Wm.topl (fun x4953 _ => ?_)
      refine m_lstore F (lv' := [(10, .long x4953), (8, .long 0), (7, .int 1), (5, .long x4696), (3, .long x4693), (2, .int (nI (160 * n901))), (0, .ref c), (1, .int (nI n901))]) e_X10_pays_163 (by decide) rfl ?_
      refine m_aload_n F rfl e_X10_pays_165 ?_
      refine r_getC F e_X10_pays_166 fl_X10_59 h4940 ((fld_eq (h4939.2 c (by rw [show kC c c = 1 from kC_at (k := 0) (by decide)]; decide))).trans ((fld_eq (h4700.2 c (by rw [show kC c c = 1 from kC_at (k := 0) (by decide)]; decide))).trans f4688)) ?_
      refine m_iload_n F rfl e_X10_pays_169 ?_
      refine m_bipush F (v := 7) (by decide) e_X10_pays_170 ?_
      refine m_iadd F e_X10_pays_172 ?_
      refine Wm.topE (w := nI (160 * n901 + 7)) (nI_add (160 * n901) 7) ?_
      refine r_sld F (j := 160 * n901 + 7) e_X10_pays_173 h4940 (nI_clamp (by omega)) (vp_in_nI (by omega) (by decide)) (fun x4954 h4955 f4956 => ?_)
      refine m_aload_n F rfl e_X10_pays_174 ?_
      refine m_iload_n F rfl e_X10_pays_175 ?_
      refine r_callV F e_X10_pays_176 (q_X10_leftOn (x_l X) V c T Z u h P L _ _ n901 h4940.1 (hok.b) hP (by omega) (by first | omega | assumption | decide)) cb_X10_left ml_X10_257 im_X10_left se_X10_left h4940 rfl rfl (rest := [.long x4954]) rfl (Nat.le_of_ble_eq_true rfl) ⟨Nat.le_of_ble_eq_true rfl, Nat.le_of_ble_eq_true rfl⟩ ⟨Nat.le_of_ble_eq_true rfl, Nat.le_of_ble_eq_true rfl⟩ (fun r σ4957 hp => ?_)
      obtain ⟨h4958, rfl⟩ := hp
      have h4959 := HS.trans h4940 h4958 (by decide)
      refine m_i2l F e_X10_pays_179 ?_
      refine Wm.toplE (w := lN ((L n901).2.1 - (L n901).2.2.2)) (nI_l (by omega)) ?_
      refine m_ldiv F (lN_ne0 (by omega) (by omega)) e_X10_pays_180 ?_
      refine Wm.topl (fun x4960 _ => ?_)
      refine m_lstore F (lv' := [(12, .long x4960), (10, .long x4953), (8, .long 0), (7, .int 1), (5, .long x4696), (3, .long x4693), (2, .int (nI (160 * n901))), (0, .ref c), (1, .int (nI n901))]) e_X10_pays_181 (by decide) rfl ?_
      refine m_aload_n F rfl e_X10_pays_183 ?_
      refine r_getC F e_X10_pays_184 fl_X10_59 h4959 ((fld_eq (h4958.2 c (by rw [show kC c c = 1 from kC_at (k := 0) (by decide)]; decide))).trans ((fld_eq (h4939.2 c (by rw [show kC c c = 1 from kC_at (k := 0) (by decide)]; decide))).trans ((fld_eq (h4700.2 c (by rw [show kC c c = 1 from kC_at (k := 0) (by decide)]; decide))).trans f4688))) ?_
      refine m_iload_n F rfl e_X10_pays_187 ?_
      refine m_bipush F (v := 6) (by decide) e_X10_pays_188 ?_
      refine m_iadd F e_X10_pays_190 ?_
      refine Wm.topE (w := nI (160 * n901 + 6)) (nI_add (160 * n901) 6) ?_
      refine m_lload F rfl e_X10_pays_191 ?_
      refine r_sst F (g' := (⟨T, Z, u, h, P, L⟩ : RG)) (j := 160 * n901 + 6) e_X10_pays_193 h4959 (by decide) (nI_clamp (by omega)) (vp_in_nI (by omega) (by decide)) (fun f q => EJ_same (EJ_lw (l := n901) (r := 6) (by omega) (by omega) (by omega)) q) (fun _ _ _ q => q) (fun σ4961 h4962 g4963 => ?_)
      refine m_aload_n F rfl e_X10_pays_194 ?_
      refine r_getC F e_X10_pays_195 fl_X10_59 h4962 ((fld_eq (g4963 _ (by omega))).trans ((fld_eq (h4958.2 c (by rw [show kC c c = 1 from kC_at (k := 0) (by decide)]; decide))).trans ((fld_eq (h4939.2 c (by rw [show kC c c = 1 from kC_at (k := 0) (by decide)]; decide))).trans ((fld_eq (h4700.2 c (by rw [show kC c c = 1 from kC_at (k := 0) (by decide)]; decide))).trans f4688)))) ?_
      refine m_iload_n F rfl e_X10_pays_198 ?_
      refine m_bipush F (v := 7) (by decide) e_X10_pays_199 ?_
      refine m_iadd F e_X10_pays_201 ?_
      refine Wm.topE (w := nI (160 * n901 + 7)) (nI_add (160 * n901) 7) ?_
      refine m_dup2_11 F rfl rfl e_X10_pays_202 ?_
      refine r_sld F (j := 160 * n901 + 7) e_X10_pays_203 h4962 (nI_clamp (by omega)) (vp_in_nI (by omega) (by decide)) (fun x4964 h4965 f4966 => ?_)
      refine m_lload F rfl e_X10_pays_204 ?_
      refine m_lsub F e_X10_pays_206 ?_
      refine Wm.topl (fun x4967 _ => ?_)
      refine r_sst F (g' := (⟨T, Z, u, h, P, L⟩ : RG)) (j := 160 * n901 + 7) e_X10_pays_207 h4962 (by decide) (nI_clamp (by omega)) (vp_in_nI (by omega) (by decide)) (fun f q => EJ_same (EJ_lw (l := n901) (r := 7) (by omega) (by omega) (by omega)) q) (fun _ _ _ q => q) (fun σ4968 h4969 g4970 => ?_)
      refine m_aload_n F rfl e_X10_pays_208 ?_
      refine r_getC F e_X10_pays_209 fl_X10_59 h4969 ((fld_eq (g4970 _ (by omega))).trans ((fld_eq (g4963 _ (by omega))).trans ((fld_eq (h4958.2 c (by rw [show kC c c = 1 from kC_at (k := 0) (by decide)]; decide))).trans ((fld_eq (h4939.2 c (by rw [show kC c c = 1 from kC_at (k := 0) (by decide)]; decide))).trans ((fld_eq (h4700.2 c (by rw [show kC c c = 1 from kC_at (k := 0) (by decide)]; decide))).trans f4688))))) ?_
      refine m_iload_n F rfl e_X10_pays_212 ?_
      refine m_bipush F (v := 9) (by decide) e_X10_pays_213 ?_
      refine m_iadd F e_X10_pays_215 ?_
      refine Wm.topE (w := nI (160 * n901 + 9)) (nI_add (160 * n901) 9) ?_
      refine m_dup2_11 F rfl rfl e_X10_pays_216 ?_
      refine r_sld F (j := 160 * n901 + 9) e_X10_pays_217 h4969 (nI_clamp (by omega)) (vp_in_nI (by omega) (by decide)) (fun x4971 h4972 f4973 => ?_)
      refine m_lload F rfl e_X10_pays_218 ?_
      refine m_ladd F e_X10_pays_220 ?_
      refine Wm.topl (fun x4974 _ => ?_)
      refine r_sst F (g' := (⟨T, Z, u, h, P, L⟩ : RG)) (j := 160 * n901 + 9) e_X10_pays_221 h4969 (by decide) (nI_clamp (by omega)) (vp_in_nI (by omega) (by decide)) (fun f q => EJ_same (EJ_lw (l := n901) (r := 9) (by omega) (by omega) (by omega)) q) (fun _ _ _ q => q) (fun σ4975 h4976 g4977 => ?_)
      refine m_aload_n F rfl e_X10_pays_222 ?_
      refine r_getC F e_X10_pays_223 fl_X10_59 h4976 ((fld_eq (g4977 _ (by omega))).trans ((fld_eq (g4970 _ (by omega))).trans ((fld_eq (g4963 _ (by omega))).trans ((fld_eq (h4958.2 c (by rw [show kC c c = 1 from kC_at (k := 0) (by decide)]; decide))).trans ((fld_eq (h4939.2 c (by rw [show kC c c = 1 from kC_at (k := 0) (by decide)]; decide))).trans ((fld_eq (h4700.2 c (by rw [show kC c c = 1 from kC_at (k := 0) (by decide)]; decide))).trans f4688)))))) ?_
      refine m_iload_n F rfl e_X10_pays_226 ?_
      refine m_bipush F (v := 10) (by decide) e_X10_pays_227 ?_
      refine m_iadd F e_X10_pays_229 ?_
      refine Wm.topE (w := nI (160 * n901 + 10)) (nI_add (160 * n901) 10) ?_
      refine m_dup2_11 F rfl rfl e_X10_pays_230 ?_
      refine r_sld F (j := 160 * n901 + 10) e_X10_pays_231 h4976 (nI_clamp (by omega)) (vp_in_nI (by omega) (by decide)) (fun x4978 h4979 f4980 => ?_)
      refine m_lload_n F rfl e_X10_pays_232 ?_
      refine m_ladd F e_X10_pays_233 ?_
      refine Wm.topl (fun x4981 _ => ?_)
      refine r_sst F (g' := (⟨T, Z, u, h, P, L⟩ : RG)) (j := 160 * n901 + 10) e_X10_pays_234 h4976 (by decide) (nI_clamp (by omega)) (vp_in_nI (by omega) (by decide)) (fun f q => EJ_same (EJ_lw (l := n901) (r := 10) (by omega) (by omega) (by omega)) q) (fun _ _ _ q => q) (fun σ4982 h4983 g4984 => ?_)
      refine m_aload_n F rfl e_X10_pays_235 ?_
      refine r_getC F e_X10_pays_236 fl_X10_59 h4983 ((fld_eq (g4984 _ (by omega))).trans ((fld_eq (g4977 _ (by omega))).trans ((fld_eq (g4970 _ (by omega))).trans ((fld_eq (g4963 _ (by omega))).trans ((fld_eq (h4958.2 c (by rw [show kC c c = 1 from kC_at (k := 0) (by decide)]; decide))).trans ((fld_eq (h4939.2 c (by rw [show kC c c = 1 from kC_at (k := 0) (by decide)]; decide))).trans ((fld_eq (h4700.2 c (by rw [show kC c c = 1 from kC_at (k := 0) (by decide)]; decide))).trans f4688))))))) ?_
      refine m_iload_n F rfl e_X10_pays_239 ?_
      refine m_iconst F (v := 5) (by decide) e_X10_pays_240 ?_
      refine m_iadd F e_X10_pays_241 ?_
      refine Wm.topE (w := nI (160 * n901 + 5)) (nI_add (160 * n901) 5) ?_
      refine m_dup2_11 F rfl rfl e_X10_pays_242 ?_
      refine r_sld F (j := 160 * n901 + 5) e_X10_pays_243 h4983 (nI_clamp (by omega)) (vp_in_nI (by omega) (by decide)) (fun x4985 h4986 f4987 => ?_)
      have hl4988 := hok.2 n901 (by omega)
      obtain rfl : x4985 = lN (L n901).2.2.2 := (EJ_l (l := n901) (r := 5) (by omega) (by decide)).mp h4986
      refine m_lconst F (v := 1) (by decide) e_X10_pays_244 ?_
      refine m_ladd F e_X10_pays_245 ?_
      refine Wm.toplE (w := lN ((L n901).2.2.2 + 1)) (lN_add ((L n901).2.2.2) 1) ?_
      refine r_sst F (g' := (⟨T, Z, u, h, P, (updL L n901 ((L n901).1, (L n901).2.1, (L n901).2.2.1, (L n901).2.2.2 + 1))⟩ : RG)) (j := 160 * n901 + 5) e_X10_pays_246 h4983 (by decide) (nI_clamp (by omega)) (vp_in_nI (by omega) (by decide)) (fun f q => EJ_up (l := n901) (r := 5) (by omega) (by decide) q rfl (by intro r' h1 h2 y hy; revert hy; unfold EL; split <;> simp_all)) CR.row (fun σ4989 h4990 g4991 => ?_)
      obtain ⟨L4992, eL4992⟩ : ∃ L9, L9 = (updL L n901 ((L n901).1, (L n901).2.1, (L n901).2.2.1, (L n901).2.2.2 + 1)) := ⟨_, rfl⟩
      rw [← eL4992] at h4990
      have fL4992 : L4992 n901 = ((L n901).1, (L n901).2.1, (L n901).2.2.1, (L n901).2.2.2 + 1) := by rw [eL4992]; exact if_pos rfl
      have fL49920 : (L4992 n901).1 = (L n901).1 := by rw [fL4992]
      have fL49921 : (L4992 n901).2.1 = (L n901).2.1 := by rw [fL4992]
      have fL49922 : (L4992 n901).2.2.1 = (L n901).2.2.1 := by rw [fL4992]
      have fL49923 : (L4992 n901).2.2.2 = (L n901).2.2.2 + 1 := by rw [fL4992]
      have oL4992 : ∀ i, i ≠ n901 → L4992 i = L i := fun i hi => by rw [eL4992]; exact if_neg hi
      have pL4992 : (L4992 4).1 = (L 4).1 := by rw [oL4992 4 (by omega)]
      refine m_aload_n F rfl e_X10_pays_247 ?_
      refine m_iconst F (v := 1) (by decide) e_X10_pays_248 ?_
      refine m_iload_n F rfl e_X10_pays_249 ?_
      refine m_lload_n F rfl e_X10_pays_250 ?_
      refine m_lneg F e_X10_pays_251 ?_
      refine Wm.topl (fun x4993 _ => ?_)
      refine m_lload F rfl e_X10_pays_252 ?_
      refine m_lload F rfl e_X10_pays_254 ?_
      refine m_lsub F e_X10_pays_256 ?_
      refine Wm.topl (fun x4994 _ => ?_)
      refine m_lload F rfl e_X10_pays_257 ?_
      refine m_lneg F e_X10_pays_259 ?_
      refine Wm.topl (fun x4995 _ => ?_)
      refine m_lload F rfl e_X10_pays_260 ?_
      refine m_lload F rfl e_X10_pays_262 ?_
      refine m_lconst F (v := 0) (by decide) e_X10_pays_264 ?_
      have okb4999 : OKB L4992 := OKB.upd (hok.b) (l := n901) (by omega) (fun i hi => (oL4992 i hi)) (by have h9 := (hok.b).2 n901 (by omega); omega)
      refine r_callV F e_X10_pays_265 (q_X10_entry (x_l X) V c T Z u h P L4992 _ _ 1 (nI n901) x4993 x4994 x4995 x4953 x4960 0 h4990.1 (okb4999) hP ) cb_X10_entry ml_X10_253 im_X10_entry se_X10_entry h4990 rfl rfl (rest := []) rfl (Nat.le_of_ble_eq_true rfl) ⟨Nat.le_of_ble_eq_true rfl, Nat.le_of_ble_eq_true rfl⟩ ⟨Nat.le_of_ble_eq_true rfl, Nat.le_of_ble_eq_true rfl⟩ (fun r σ4996 hp => ?_)
      obtain ⟨h4997, rfl⟩ := hp
      have h4998 := HS.trans h4990 h4997 (by decide)
      refine m_iload F rfl e_X10_pays_268 ?_
      refine m_if_eq F e_X10_pays_270 (fun q => absurd q (by decide)) (fun _ => ?_)
      refine m_aload_n F rfl e_X10_pays_273 ?_
      refine r_getC F e_X10_pays_274 fl_X10_59 h4998 ((fld_eq (h4997.2 c (by rw [show kC c c = 1 from kC_at (k := 0) (by decide)]; decide))).trans ((fld_eq (g4991 _ (by omega))).trans ((fld_eq (g4984 _ (by omega))).trans ((fld_eq (g4977 _ (by omega))).trans ((fld_eq (g4970 _ (by omega))).trans ((fld_eq (g4963 _ (by omega))).trans ((fld_eq (h4958.2 c (by rw [show kC c c = 1 from kC_at (k := 0) (by decide)]; decide))).trans ((fld_eq (h4939.2 c (by rw [show kC c c = 1 from kC_at (k := 0) (by decide)]; decide))).trans ((fld_eq (h4700.2 c (by rw [show kC c c = 1 from kC_at (k := 0) (by decide)]; decide))).trans f4688))))))))) ?_
      refine m_iload_n F rfl e_X10_pays_277 ?_
      refine m_iconst F (v := 0) (by decide) e_X10_pays_278 ?_
      refine m_iadd F e_X10_pays_279 ?_
      refine Wm.topE (w := nI (160 * n901)) (nI_add (160 * n901) 0) ?_
      refine m_ldc2 F kc_X10_234 e_X10_pays_280 ?_
      refine r_sst F (g' := (⟨T, Z, u, h, P, (updL L4992 n901 (2, (L4992 n901).2.1, (L4992 n901).2.2.1, (L4992 n901).2.2.2))⟩ : RG)) (j := 160 * n901) e_X10_pays_283 h4998 (by decide) (nI_clamp (by omega)) (vp_in_nI (by omega) (by decide)) (fun f q => EJ_up (l := n901) (r := 0) (by omega) (by decide) q rfl (by intro r' h1 h2 y hy; revert hy; unfold EL; split <;> simp_all)) CR.row (fun σ5000 h5001 g5002 => ?_)
      obtain ⟨L5003, eL5003⟩ : ∃ L9, L9 = (updL L4992 n901 (2, (L4992 n901).2.1, (L4992 n901).2.2.1, (L4992 n901).2.2.2)) := ⟨_, rfl⟩
      rw [← eL5003] at h5001
      have fL5003 : L5003 n901 = (2, (L4992 n901).2.1, (L4992 n901).2.2.1, (L4992 n901).2.2.2) := by rw [eL5003]; exact if_pos rfl
      have fL50030 : (L5003 n901).1 = 2 := by rw [fL5003]
      have fL50031 : (L5003 n901).2.1 = (L4992 n901).2.1 := by rw [fL5003]
      have fL50032 : (L5003 n901).2.2.1 = (L4992 n901).2.2.1 := by rw [fL5003]
      have fL50033 : (L5003 n901).2.2.2 = (L4992 n901).2.2.2 := by rw [fL5003]
      have oL5003 : ∀ i, i ≠ n901 → L5003 i = L4992 i := fun i hi => by rw [eL5003]; exact if_neg hi
      have pL5003 : (L5003 4).1 = (L4992 4).1 := by rw [oL5003 4 (by omega)]
      have ok5004 : OKL P.n0 L5003 := OKL.upd hok (l := n901) (by omega) (fun i hi => (oL5003 i hi).trans (oL4992 i hi)) (by have h9 := hok.2 n901 (by omega); omega)
      exact m_vret F hQ e_X10_pays_284 (⟨L5003, ok5004, (by first | omega | rfl | assumption), h5001, rfl⟩)
    · have c58 : n4941 ≠ 0 := by have hh := mt (nI_eq (a := n4941) (b := 0) (by omega) (by omega)).mpr q58; omega
      refine m_lload F rfl e_X10_pays_61 ?_
      refine m_lload_n F rfl e_X10_pays_63 ?_
      refine m_lcmp F e_X10_pays_64 ?_
      refine Wm.top (fun x5005 _ => ?_)
      refine m_if_le F e_X10_pays_65 (fun q65 => ?_) (fun q65 => ?_)
      · refine m_lconst F (v := 0) (by decide) e_X10_pays_75 ?_
        refine m_lstore F (lv' := [(10, .long 0), (7, .int 1), (5, .long x4696), (3, .long x4693), (2, .int (nI (160 * n901))), (0, .ref c), (1, .int (nI n901))]) e_X10_pays_76 (by decide) rfl ?_
        refine m_iload F rfl e_X10_pays_78 ?_
        refine m_if_eq F e_X10_pays_80 (fun q => absurd q (by decide)) (fun _ => ?_)
        refine m_lconst F (v := 0) (by decide) e_X10_pays_83 ?_
        refine m_goto F e_X10_pays_84 ?_
        refine m_lstore F (lv' := [(8, .long 0), (10, .long 0), (7, .int 1), (5, .long x4696), (3, .long x4693), (2, .int (nI (160 * n901))), (0, .ref c), (1, .int (nI n901))]) e_X10_pays_107 (by decide) rfl ?_
        refine m_goto F e_X10_pays_109 ?_
        refine m_lload F rfl e_X10_pays_156 ?_
        refine m_lload F rfl e_X10_pays_158 ?_
        refine m_lsub F e_X10_pays_160 ?_
        refine Wm.topl (fun x5006 _ => ?_)
        refine m_lload_n F rfl e_X10_pays_161 ?_
        refine m_ladd F e_X10_pays_162 ?_
        refine Wm.topl (fun x5007 _ => ?_)
        refine m_lstore F (lv' := [(10, .long x5007), (8, .long 0), (7, .int 1), (5, .long x4696), (3, .long x4693), (2, .int (nI (160 * n901))), (0, .ref c), (1, .int (nI n901))]) e_X10_pays_163 (by decide) rfl ?_
        refine m_aload_n F rfl e_X10_pays_165 ?_
        refine r_getC F e_X10_pays_166 fl_X10_59 h4940 ((fld_eq (h4939.2 c (by rw [show kC c c = 1 from kC_at (k := 0) (by decide)]; decide))).trans ((fld_eq (h4700.2 c (by rw [show kC c c = 1 from kC_at (k := 0) (by decide)]; decide))).trans f4688)) ?_
        refine m_iload_n F rfl e_X10_pays_169 ?_
        refine m_bipush F (v := 7) (by decide) e_X10_pays_170 ?_
        refine m_iadd F e_X10_pays_172 ?_
        refine Wm.topE (w := nI (160 * n901 + 7)) (nI_add (160 * n901) 7) ?_
        refine r_sld F (j := 160 * n901 + 7) e_X10_pays_173 h4940 (nI_clamp (by omega)) (vp_in_nI (by omega) (by decide)) (fun x5008 h5009 f5010 => ?_)
        refine m_aload_n F rfl e_X10_pays_174 ?_
        refine m_iload_n F rfl e_X10_pays_175 ?_
        refine r_callV F e_X10_pays_176 (q_X10_leftOn (x_l X) V c T Z u h P L _ _ n901 h4940.1 (hok.b) hP (by omega) (by first | omega | assumption | decide)) cb_X10_left ml_X10_257 im_X10_left se_X10_left h4940 rfl rfl (rest := [.long x5008]) rfl (Nat.le_of_ble_eq_true rfl) ⟨Nat.le_of_ble_eq_true rfl, Nat.le_of_ble_eq_true rfl⟩ ⟨Nat.le_of_ble_eq_true rfl, Nat.le_of_ble_eq_true rfl⟩ (fun r σ5011 hp => ?_)
        obtain ⟨h5012, rfl⟩ := hp
        have h5013 := HS.trans h4940 h5012 (by decide)
        refine m_i2l F e_X10_pays_179 ?_
        refine Wm.toplE (w := lN ((L n901).2.1 - (L n901).2.2.2)) (nI_l (by omega)) ?_
        refine m_ldiv F (lN_ne0 (by omega) (by omega)) e_X10_pays_180 ?_
        refine Wm.topl (fun x5014 _ => ?_)
        refine m_lstore F (lv' := [(12, .long x5014), (10, .long x5007), (8, .long 0), (7, .int 1), (5, .long x4696), (3, .long x4693), (2, .int (nI (160 * n901))), (0, .ref c), (1, .int (nI n901))]) e_X10_pays_181 (by decide) rfl ?_
        refine m_aload_n F rfl e_X10_pays_183 ?_
        refine r_getC F e_X10_pays_184 fl_X10_59 h5013 ((fld_eq (h5012.2 c (by rw [show kC c c = 1 from kC_at (k := 0) (by decide)]; decide))).trans ((fld_eq (h4939.2 c (by rw [show kC c c = 1 from kC_at (k := 0) (by decide)]; decide))).trans ((fld_eq (h4700.2 c (by rw [show kC c c = 1 from kC_at (k := 0) (by decide)]; decide))).trans f4688))) ?_
        refine m_iload_n F rfl e_X10_pays_187 ?_
        refine m_bipush F (v := 6) (by decide) e_X10_pays_188 ?_
        refine m_iadd F e_X10_pays_190 ?_
        refine Wm.topE (w := nI (160 * n901 + 6)) (nI_add (160 * n901) 6) ?_
        refine m_lload F rfl e_X10_pays_191 ?_
        refine r_sst F (g' := (⟨T, Z, u, h, P, L⟩ : RG)) (j := 160 * n901 + 6) e_X10_pays_193 h5013 (by decide) (nI_clamp (by omega)) (vp_in_nI (by omega) (by decide)) (fun f q => EJ_same (EJ_lw (l := n901) (r := 6) (by omega) (by omega) (by omega)) q) (fun _ _ _ q => q) (fun σ5015 h5016 g5017 => ?_)
        refine m_aload_n F rfl e_X10_pays_194 ?_
        refine r_getC F e_X10_pays_195 fl_X10_59 h5016 ((fld_eq (g5017 _ (by omega))).trans ((fld_eq (h5012.2 c (by rw [show kC c c = 1 from kC_at (k := 0) (by decide)]; decide))).trans ((fld_eq (h4939.2 c (by rw [show kC c c = 1 from kC_at (k := 0) (by decide)]; decide))).trans ((fld_eq (h4700.2 c (by rw [show kC c c = 1 from kC_at (k := 0) (by decide)]; decide))).trans f4688)))) ?_
        refine m_iload_n F rfl e_X10_pays_198 ?_
        refine m_bipush F (v := 7) (by decide) e_X10_pays_199 ?_
        refine m_iadd F e_X10_pays_201 ?_
        refine Wm.topE (w := nI (160 * n901 + 7)) (nI_add (160 * n901) 7) ?_
        refine m_dup2_11 F rfl rfl e_X10_pays_202 ?_
        refine r_sld F (j := 160 * n901 + 7) e_X10_pays_203 h5016 (nI_clamp (by omega)) (vp_in_nI (by omega) (by decide)) (fun x5018 h5019 f5020 => ?_)
        refine m_lload F rfl e_X10_pays_204 ?_
        refine m_lsub F e_X10_pays_206 ?_
        refine Wm.topl (fun x5021 _ => ?_)
        refine r_sst F (g' := (⟨T, Z, u, h, P, L⟩ : RG)) (j := 160 * n901 + 7) e_X10_pays_207 h5016 (by decide) (nI_clamp (by omega)) (vp_in_nI (by omega) (by decide)) (fun f q => EJ_same (EJ_lw (l := n901) (r := 7) (by omega) (by omega) (by omega)) q) (fun _ _ _ q => q) (fun σ5022 h5023 g5024 => ?_)
        refine m_aload_n F rfl e_X10_pays_208 ?_
        refine r_getC F e_X10_pays_209 fl_X10_59 h5023 ((fld_eq (g5024 _ (by omega))).trans ((fld_eq (g5017 _ (by omega))).trans ((fld_eq (h5012.2 c (by rw [show kC c c = 1 from kC_at (k := 0) (by decide)]; decide))).trans ((fld_eq (h4939.2 c (by rw [show kC c c = 1 from kC_at (k := 0) (by decide)]; decide))).trans ((fld_eq (h4700.2 c (by rw [show kC c c = 1 from kC_at (k := 0) (by decide)]; decide))).trans f4688))))) ?_
        refine m_iload_n F rfl e_X10_pays_212 ?_
        refine m_bipush F (v := 9) (by decide) e_X10_pays_213 ?_
        refine m_iadd F e_X10_pays_215 ?_
        refine Wm.topE (w := nI (160 * n901 + 9)) (nI_add (160 * n901) 9) ?_
        refine m_dup2_11 F rfl rfl e_X10_pays_216 ?_
        refine r_sld F (j := 160 * n901 + 9) e_X10_pays_217 h5023 (nI_clamp (by omega)) (vp_in_nI (by omega) (by decide)) (fun x5025 h5026 f5027 => ?_)
        refine m_lload F rfl e_X10_pays_218 ?_
        refine m_ladd F e_X10_pays_220 ?_
        refine Wm.topl (fun x5028 _ => ?_)
        refine r_sst F (g' := (⟨T, Z, u, h, P, L⟩ : RG)) (j := 160 * n901 + 9) e_X10_pays_221 h5023 (by decide) (nI_clamp (by omega)) (vp_in_nI (by omega) (by decide)) (fun f q => EJ_same (EJ_lw (l := n901) (r := 9) (by omega) (by omega) (by omega)) q) (fun _ _ _ q => q) (fun σ5029 h5030 g5031 => ?_)
        refine m_aload_n F rfl e_X10_pays_222 ?_
        refine r_getC F e_X10_pays_223 fl_X10_59 h5030 ((fld_eq (g5031 _ (by omega))).trans ((fld_eq (g5024 _ (by omega))).trans ((fld_eq (g5017 _ (by omega))).trans ((fld_eq (h5012.2 c (by rw [show kC c c = 1 from kC_at (k := 0) (by decide)]; decide))).trans ((fld_eq (h4939.2 c (by rw [show kC c c = 1 from kC_at (k := 0) (by decide)]; decide))).trans ((fld_eq (h4700.2 c (by rw [show kC c c = 1 from kC_at (k := 0) (by decide)]; decide))).trans f4688)))))) ?_
        refine m_iload_n F rfl e_X10_pays_226 ?_
        refine m_bipush F (v := 10) (by decide) e_X10_pays_227 ?_
        refine m_iadd F e_X10_pays_229 ?_
        refine Wm.topE (w := nI (160 * n901 + 10)) (nI_add (160 * n901) 10) ?_
        refine m_dup2_11 F rfl rfl e_X10_pays_230 ?_
        refine r_sld F (j := 160 * n901 + 10) e_X10_pays_231 h5030 (nI_clamp (by omega)) (vp_in_nI (by omega) (by decide)) (fun x5032 h5033 f5034 => ?_)
        refine m_lload_n F rfl e_X10_pays_232 ?_
        refine m_ladd F e_X10_pays_233 ?_
        refine Wm.topl (fun x5035 _ => ?_)
        refine r_sst F (g' := (⟨T, Z, u, h, P, L⟩ : RG)) (j := 160 * n901 + 10) e_X10_pays_234 h5030 (by decide) (nI_clamp (by omega)) (vp_in_nI (by omega) (by decide)) (fun f q => EJ_same (EJ_lw (l := n901) (r := 10) (by omega) (by omega) (by omega)) q) (fun _ _ _ q => q) (fun σ5036 h5037 g5038 => ?_)
        refine m_aload_n F rfl e_X10_pays_235 ?_
        refine r_getC F e_X10_pays_236 fl_X10_59 h5037 ((fld_eq (g5038 _ (by omega))).trans ((fld_eq (g5031 _ (by omega))).trans ((fld_eq (g5024 _ (by omega))).trans ((fld_eq (g5017 _ (by omega))).trans ((fld_eq (h5012.2 c (by rw [show kC c c = 1 from kC_at (k := 0) (by decide)]; decide))).trans ((fld_eq (h4939.2 c (by rw [show kC c c = 1 from kC_at (k := 0) (by decide)]; decide))).trans ((fld_eq (h4700.2 c (by rw [show kC c c = 1 from kC_at (k := 0) (by decide)]; decide))).trans f4688))))))) ?_
        refine m_iload_n F rfl e_X10_pays_239 ?_
        refine m_iconst F (v := 5) (by decide) e_X10_pays_240 ?_
        refine m_iadd F e_X10_pays_241 ?_
        refine Wm.topE (w := nI (160 * n901 + 5)) (nI_add (160 * n901) 5) ?_
        refine m_dup2_11 F rfl rfl e_X10_pays_242 ?_
        refine r_sld F (j := 160 * n901 + 5) e_X10_pays_243 h5037 (nI_clamp (by omega)) (vp_in_nI (by omega) (by decide)) (fun x5039 h5040 f5041 => ?_)
        have hl5042 := hok.2 n901 (by omega)
        obtain rfl : x5039 = lN (L n901).2.2.2 := (EJ_l (l := n901) (r := 5) (by omega) (by decide)).mp h5040
        refine m_lconst F (v := 1) (by decide) e_X10_pays_244 ?_
        refine m_ladd F e_X10_pays_245 ?_
        refine Wm.toplE (w := lN ((L n901).2.2.2 + 1)) (lN_add ((L n901).2.2.2) 1) ?_
        refine r_sst F (g' := (⟨T, Z, u, h, P, (updL L n901 ((L n901).1, (L n901).2.1, (L n901).2.2.1, (L n901).2.2.2 + 1))⟩ : RG)) (j := 160 * n901 + 5) e_X10_pays_246 h5037 (by decide) (nI_clamp (by omega)) (vp_in_nI (by omega) (by decide)) (fun f q => EJ_up (l := n901) (r := 5) (by omega) (by decide) q rfl (by intro r' h1 h2 y hy; revert hy; unfold EL; split <;> simp_all)) CR.row (fun σ5043 h5044 g5045 => ?_)
        obtain ⟨L5046, eL5046⟩ : ∃ L9, L9 = (updL L n901 ((L n901).1, (L n901).2.1, (L n901).2.2.1, (L n901).2.2.2 + 1)) := ⟨_, rfl⟩
        rw [← eL5046] at h5044
        have fL5046 : L5046 n901 = ((L n901).1, (L n901).2.1, (L n901).2.2.1, (L n901).2.2.2 + 1) := by rw [eL5046]; exact if_pos rfl
        have fL50460 : (L5046 n901).1 = (L n901).1 := by rw [fL5046]
        have fL50461 : (L5046 n901).2.1 = (L n901).2.1 := by rw [fL5046]
        have fL50462 : (L5046 n901).2.2.1 = (L n901).2.2.1 := by rw [fL5046]
        have fL50463 : (L5046 n901).2.2.2 = (L n901).2.2.2 + 1 := by rw [fL5046]
        have oL5046 : ∀ i, i ≠ n901 → L5046 i = L i := fun i hi => by rw [eL5046]; exact if_neg hi
        have pL5046 : (L5046 4).1 = (L 4).1 := by rw [oL5046 4 (by omega)]
        refine m_aload_n F rfl e_X10_pays_247 ?_
        refine m_iconst F (v := 1) (by decide) e_X10_pays_248 ?_
        refine m_iload_n F rfl e_X10_pays_249 ?_
        refine m_lload_n F rfl e_X10_pays_250 ?_
        refine m_lneg F e_X10_pays_251 ?_
        refine Wm.topl (fun x5047 _ => ?_)
        refine m_lload F rfl e_X10_pays_252 ?_
        refine m_lload F rfl e_X10_pays_254 ?_
        refine m_lsub F e_X10_pays_256 ?_
        refine Wm.topl (fun x5048 _ => ?_)
        refine m_lload F rfl e_X10_pays_257 ?_
        refine m_lneg F e_X10_pays_259 ?_
        refine Wm.topl (fun x5049 _ => ?_)
        refine m_lload F rfl e_X10_pays_260 ?_
        refine m_lload F rfl e_X10_pays_262 ?_
        refine m_lconst F (v := 0) (by decide) e_X10_pays_264 ?_
        have okb5053 : OKB L5046 := OKB.upd (hok.b) (l := n901) (by omega) (fun i hi => (oL5046 i hi)) (by have h9 := (hok.b).2 n901 (by omega); omega)
        refine r_callV F e_X10_pays_265 (q_X10_entry (x_l X) V c T Z u h P L5046 _ _ 1 (nI n901) x5047 x5048 x5049 x5007 x5014 0 h5044.1 (okb5053) hP ) cb_X10_entry ml_X10_253 im_X10_entry se_X10_entry h5044 rfl rfl (rest := []) rfl (Nat.le_of_ble_eq_true rfl) ⟨Nat.le_of_ble_eq_true rfl, Nat.le_of_ble_eq_true rfl⟩ ⟨Nat.le_of_ble_eq_true rfl, Nat.le_of_ble_eq_true rfl⟩ (fun r σ5050 hp => ?_)
        obtain ⟨h5051, rfl⟩ := hp
        have h5052 := HS.trans h5044 h5051 (by decide)
        refine m_iload F rfl e_X10_pays_268 ?_
        refine m_if_eq F e_X10_pays_270 (fun q => absurd q (by decide)) (fun _ => ?_)
        refine m_aload_n F rfl e_X10_pays_273 ?_
        refine r_getC F e_X10_pays_274 fl_X10_59 h5052 ((fld_eq (h5051.2 c (by rw [show kC c c = 1 from kC_at (k := 0) (by decide)]; decide))).trans ((fld_eq (g5045 _ (by omega))).trans ((fld_eq (g5038 _ (by omega))).trans ((fld_eq (g5031 _ (by omega))).trans ((fld_eq (g5024 _ (by omega))).trans ((fld_eq (g5017 _ (by omega))).trans ((fld_eq (h5012.2 c (by rw [show kC c c = 1 from kC_at (k := 0) (by decide)]; decide))).trans ((fld_eq (h4939.2 c (by rw [show kC c c = 1 from kC_at (k := 0) (by decide)]; decide))).trans ((fld_eq (h4700.2 c (by rw [show kC c c = 1 from kC_at (k := 0) (by decide)]; decide))).trans f4688))))))))) ?_
        refine m_iload_n F rfl e_X10_pays_277 ?_
        refine m_iconst F (v := 0) (by decide) e_X10_pays_278 ?_
        refine m_iadd F e_X10_pays_279 ?_
        refine Wm.topE (w := nI (160 * n901)) (nI_add (160 * n901) 0) ?_
        refine m_ldc2 F kc_X10_234 e_X10_pays_280 ?_
        refine r_sst F (g' := (⟨T, Z, u, h, P, (updL L5046 n901 (2, (L5046 n901).2.1, (L5046 n901).2.2.1, (L5046 n901).2.2.2))⟩ : RG)) (j := 160 * n901) e_X10_pays_283 h5052 (by decide) (nI_clamp (by omega)) (vp_in_nI (by omega) (by decide)) (fun f q => EJ_up (l := n901) (r := 0) (by omega) (by decide) q rfl (by intro r' h1 h2 y hy; revert hy; unfold EL; split <;> simp_all)) CR.row (fun σ5054 h5055 g5056 => ?_)
        obtain ⟨L5057, eL5057⟩ : ∃ L9, L9 = (updL L5046 n901 (2, (L5046 n901).2.1, (L5046 n901).2.2.1, (L5046 n901).2.2.2)) := ⟨_, rfl⟩
        rw [← eL5057] at h5055
        have fL5057 : L5057 n901 = (2, (L5046 n901).2.1, (L5046 n901).2.2.1, (L5046 n901).2.2.2) := by rw [eL5057]; exact if_pos rfl
        have fL50570 : (L5057 n901).1 = 2 := by rw [fL5057]
        have fL50571 : (L5057 n901).2.1 = (L5046 n901).2.1 := by rw [fL5057]
        have fL50572 : (L5057 n901).2.2.1 = (L5046 n901).2.2.1 := by rw [fL5057]
        have fL50573 : (L5057 n901).2.2.2 = (L5046 n901).2.2.2 := by rw [fL5057]
        have oL5057 : ∀ i, i ≠ n901 → L5057 i = L5046 i := fun i hi => by rw [eL5057]; exact if_neg hi
        have pL5057 : (L5057 4).1 = (L5046 4).1 := by rw [oL5057 4 (by omega)]
        have ok5058 : OKL P.n0 L5057 := OKL.upd hok (l := n901) (by omega) (fun i hi => (oL5057 i hi).trans (oL5046 i hi)) (by have h9 := hok.2 n901 (by omega); omega)
        exact m_vret F hQ e_X10_pays_284 (⟨L5057, ok5058, (by first | omega | rfl | assumption), h5055, rfl⟩)
      · obtain ⟨n5059, hn5059, rfl⟩ := nI_nn (x := x5005) (fun e => q65 (Int32.le_trans (Int32.le_of_lt e) (by decide)))
        have c65 : n5059 > 0 := by have hh := mt (nI_leI (a := n5059) (b := 0) (by omega) (by omega)).mpr q65; omega
        refine m_lload F rfl e_X10_pays_68 ?_
        refine m_lload_n F rfl e_X10_pays_70 ?_
        refine m_lsub F e_X10_pays_71 ?_
        refine Wm.topl (fun x5060 _ => ?_)
        refine m_goto F e_X10_pays_72 ?_
        refine m_lstore F (lv' := [(10, .long x5060), (7, .int 1), (5, .long x4696), (3, .long x4693), (2, .int (nI (160 * n901))), (0, .ref c), (1, .int (nI n901))]) e_X10_pays_76 (by decide) rfl ?_
        refine m_iload F rfl e_X10_pays_78 ?_
        refine m_if_eq F e_X10_pays_80 (fun q => absurd q (by decide)) (fun _ => ?_)
        refine m_lconst F (v := 0) (by decide) e_X10_pays_83 ?_
        refine m_goto F e_X10_pays_84 ?_
        refine m_lstore F (lv' := [(8, .long 0), (10, .long x5060), (7, .int 1), (5, .long x4696), (3, .long x4693), (2, .int (nI (160 * n901))), (0, .ref c), (1, .int (nI n901))]) e_X10_pays_107 (by decide) rfl ?_
        refine m_goto F e_X10_pays_109 ?_
        refine m_lload F rfl e_X10_pays_156 ?_
        refine m_lload F rfl e_X10_pays_158 ?_
        refine m_lsub F e_X10_pays_160 ?_
        refine Wm.topl (fun x5061 _ => ?_)
        refine m_lload_n F rfl e_X10_pays_161 ?_
        refine m_ladd F e_X10_pays_162 ?_
        refine Wm.topl (fun x5062 _ => ?_)
        refine m_lstore F (lv' := [(10, .long x5062), (8, .long 0), (7, .int 1), (5, .long x4696), (3, .long x4693), (2, .int (nI (160 * n901))), (0, .ref c), (1, .int (nI n901))]) e_X10_pays_163 (by decide) rfl ?_
        refine m_aload_n F rfl e_X10_pays_165 ?_
        refine r_getC F e_X10_pays_166 fl_X10_59 h4940 ((fld_eq (h4939.2 c (by rw [show kC c c = 1 from kC_at (k := 0) (by decide)]; decide))).trans ((fld_eq (h4700.2 c (by rw [show kC c c = 1 from kC_at (k := 0) (by decide)]; decide))).trans f4688)) ?_
        refine m_iload_n F rfl e_X10_pays_169 ?_
        refine m_bipush F (v := 7) (by decide) e_X10_pays_170 ?_
        refine m_iadd F e_X10_pays_172 ?_
        refine Wm.topE (w := nI (160 * n901 + 7)) (nI_add (160 * n901) 7) ?_
        refine r_sld F (j := 160 * n901 + 7) e_X10_pays_173 h4940 (nI_clamp (by omega)) (vp_in_nI (by omega) (by decide)) (fun x5063 h5064 f5065 => ?_)
        refine m_aload_n F rfl e_X10_pays_174 ?_
        refine m_iload_n F rfl e_X10_pays_175 ?_
        refine r_callV F e_X10_pays_176 (q_X10_leftOn (x_l X) V c T Z u h P L _ _ n901 h4940.1 (hok.b) hP (by omega) (by first | omega | assumption | decide)) cb_X10_left ml_X10_257 im_X10_left se_X10_left h4940 rfl rfl (rest := [.long x5063]) rfl (Nat.le_of_ble_eq_true rfl) ⟨Nat.le_of_ble_eq_true rfl, Nat.le_of_ble_eq_true rfl⟩ ⟨Nat.le_of_ble_eq_true rfl, Nat.le_of_ble_eq_true rfl⟩ (fun r σ5066 hp => ?_)
        obtain ⟨h5067, rfl⟩ := hp
        have h5068 := HS.trans h4940 h5067 (by decide)
        refine m_i2l F e_X10_pays_179 ?_
        refine Wm.toplE (w := lN ((L n901).2.1 - (L n901).2.2.2)) (nI_l (by omega)) ?_
        refine m_ldiv F (lN_ne0 (by omega) (by omega)) e_X10_pays_180 ?_
        refine Wm.topl (fun x5069 _ => ?_)
        refine m_lstore F (lv' := [(12, .long x5069), (10, .long x5062), (8, .long 0), (7, .int 1), (5, .long x4696), (3, .long x4693), (2, .int (nI (160 * n901))), (0, .ref c), (1, .int (nI n901))]) e_X10_pays_181 (by decide) rfl ?_
        refine m_aload_n F rfl e_X10_pays_183 ?_
        refine r_getC F e_X10_pays_184 fl_X10_59 h5068 ((fld_eq (h5067.2 c (by rw [show kC c c = 1 from kC_at (k := 0) (by decide)]; decide))).trans ((fld_eq (h4939.2 c (by rw [show kC c c = 1 from kC_at (k := 0) (by decide)]; decide))).trans ((fld_eq (h4700.2 c (by rw [show kC c c = 1 from kC_at (k := 0) (by decide)]; decide))).trans f4688))) ?_
        refine m_iload_n F rfl e_X10_pays_187 ?_
        refine m_bipush F (v := 6) (by decide) e_X10_pays_188 ?_
        refine m_iadd F e_X10_pays_190 ?_
        refine Wm.topE (w := nI (160 * n901 + 6)) (nI_add (160 * n901) 6) ?_
        refine m_lload F rfl e_X10_pays_191 ?_
        refine r_sst F (g' := (⟨T, Z, u, h, P, L⟩ : RG)) (j := 160 * n901 + 6) e_X10_pays_193 h5068 (by decide) (nI_clamp (by omega)) (vp_in_nI (by omega) (by decide)) (fun f q => EJ_same (EJ_lw (l := n901) (r := 6) (by omega) (by omega) (by omega)) q) (fun _ _ _ q => q) (fun σ5070 h5071 g5072 => ?_)
        refine m_aload_n F rfl e_X10_pays_194 ?_
        refine r_getC F e_X10_pays_195 fl_X10_59 h5071 ((fld_eq (g5072 _ (by omega))).trans ((fld_eq (h5067.2 c (by rw [show kC c c = 1 from kC_at (k := 0) (by decide)]; decide))).trans ((fld_eq (h4939.2 c (by rw [show kC c c = 1 from kC_at (k := 0) (by decide)]; decide))).trans ((fld_eq (h4700.2 c (by rw [show kC c c = 1 from kC_at (k := 0) (by decide)]; decide))).trans f4688)))) ?_
        refine m_iload_n F rfl e_X10_pays_198 ?_
        refine m_bipush F (v := 7) (by decide) e_X10_pays_199 ?_
        refine m_iadd F e_X10_pays_201 ?_
        refine Wm.topE (w := nI (160 * n901 + 7)) (nI_add (160 * n901) 7) ?_
        refine m_dup2_11 F rfl rfl e_X10_pays_202 ?_
        refine r_sld F (j := 160 * n901 + 7) e_X10_pays_203 h5071 (nI_clamp (by omega)) (vp_in_nI (by omega) (by decide)) (fun x5073 h5074 f5075 => ?_)
        refine m_lload F rfl e_X10_pays_204 ?_
        refine m_lsub F e_X10_pays_206 ?_
        refine Wm.topl (fun x5076 _ => ?_)
        refine r_sst F (g' := (⟨T, Z, u, h, P, L⟩ : RG)) (j := 160 * n901 + 7) e_X10_pays_207 h5071 (by decide) (nI_clamp (by omega)) (vp_in_nI (by omega) (by decide)) (fun f q => EJ_same (EJ_lw (l := n901) (r := 7) (by omega) (by omega) (by omega)) q) (fun _ _ _ q => q) (fun σ5077 h5078 g5079 => ?_)
        refine m_aload_n F rfl e_X10_pays_208 ?_
        refine r_getC F e_X10_pays_209 fl_X10_59 h5078 ((fld_eq (g5079 _ (by omega))).trans ((fld_eq (g5072 _ (by omega))).trans ((fld_eq (h5067.2 c (by rw [show kC c c = 1 from kC_at (k := 0) (by decide)]; decide))).trans ((fld_eq (h4939.2 c (by rw [show kC c c = 1 from kC_at (k := 0) (by decide)]; decide))).trans ((fld_eq (h4700.2 c (by rw [show kC c c = 1 from kC_at (k := 0) (by decide)]; decide))).trans f4688))))) ?_
        refine m_iload_n F rfl e_X10_pays_212 ?_
        refine m_bipush F (v := 9) (by decide) e_X10_pays_213 ?_
        refine m_iadd F e_X10_pays_215 ?_
        refine Wm.topE (w := nI (160 * n901 + 9)) (nI_add (160 * n901) 9) ?_
        refine m_dup2_11 F rfl rfl e_X10_pays_216 ?_
        refine r_sld F (j := 160 * n901 + 9) e_X10_pays_217 h5078 (nI_clamp (by omega)) (vp_in_nI (by omega) (by decide)) (fun x5080 h5081 f5082 => ?_)
        refine m_lload F rfl e_X10_pays_218 ?_
        refine m_ladd F e_X10_pays_220 ?_
        refine Wm.topl (fun x5083 _ => ?_)
        refine r_sst F (g' := (⟨T, Z, u, h, P, L⟩ : RG)) (j := 160 * n901 + 9) e_X10_pays_221 h5078 (by decide) (nI_clamp (by omega)) (vp_in_nI (by omega) (by decide)) (fun f q => EJ_same (EJ_lw (l := n901) (r := 9) (by omega) (by omega) (by omega)) q) (fun _ _ _ q => q) (fun σ5084 h5085 g5086 => ?_)
        refine m_aload_n F rfl e_X10_pays_222 ?_
        refine r_getC F e_X10_pays_223 fl_X10_59 h5085 ((fld_eq (g5086 _ (by omega))).trans ((fld_eq (g5079 _ (by omega))).trans ((fld_eq (g5072 _ (by omega))).trans ((fld_eq (h5067.2 c (by rw [show kC c c = 1 from kC_at (k := 0) (by decide)]; decide))).trans ((fld_eq (h4939.2 c (by rw [show kC c c = 1 from kC_at (k := 0) (by decide)]; decide))).trans ((fld_eq (h4700.2 c (by rw [show kC c c = 1 from kC_at (k := 0) (by decide)]; decide))).trans f4688)))))) ?_
        refine m_iload_n F rfl e_X10_pays_226 ?_
        refine m_bipush F (v := 10) (by decide) e_X10_pays_227 ?_
        refine m_iadd F e_X10_pays_229 ?_
        refine Wm.topE (w := nI (160 * n901 + 10)) (nI_add (160 * n901) 10) ?_
        refine m_dup2_11 F rfl rfl e_X10_pays_230 ?_
        refine r_sld F (j := 160 * n901 + 10) e_X10_pays_231 h5085 (nI_clamp (by omega)) (vp_in_nI (by omega) (by decide)) (fun x5087 h5088 f5089 => ?_)
        refine m_lload_n F rfl e_X10_pays_232 ?_
        refine m_ladd F e_X10_pays_233 ?_
        refine Wm.topl (fun x5090 _ => ?_)
        refine r_sst F (g' := (⟨T, Z, u, h, P, L⟩ : RG)) (j := 160 * n901 + 10) e_X10_pays_234 h5085 (by decide) (nI_clamp (by omega)) (vp_in_nI (by omega) (by decide)) (fun f q => EJ_same (EJ_lw (l := n901) (r := 10) (by omega) (by omega) (by omega)) q) (fun _ _ _ q => q) (fun σ5091 h5092 g5093 => ?_)
        refine m_aload_n F rfl e_X10_pays_235 ?_
        refine r_getC F e_X10_pays_236 fl_X10_59 h5092 ((fld_eq (g5093 _ (by omega))).trans ((fld_eq (g5086 _ (by omega))).trans ((fld_eq (g5079 _ (by omega))).trans ((fld_eq (g5072 _ (by omega))).trans ((fld_eq (h5067.2 c (by rw [show kC c c = 1 from kC_at (k := 0) (by decide)]; decide))).trans ((fld_eq (h4939.2 c (by rw [show kC c c = 1 from kC_at (k := 0) (by decide)]; decide))).trans ((fld_eq (h4700.2 c (by rw [show kC c c = 1 from kC_at (k := 0) (by decide)]; decide))).trans f4688))))))) ?_
        refine m_iload_n F rfl e_X10_pays_239 ?_
        refine m_iconst F (v := 5) (by decide) e_X10_pays_240 ?_
        refine m_iadd F e_X10_pays_241 ?_
        refine Wm.topE (w := nI (160 * n901 + 5)) (nI_add (160 * n901) 5) ?_
        refine m_dup2_11 F rfl rfl e_X10_pays_242 ?_
        refine r_sld F (j := 160 * n901 + 5) e_X10_pays_243 h5092 (nI_clamp (by omega)) (vp_in_nI (by omega) (by decide)) (fun x5094 h5095 f5096 => ?_)
        have hl5097 := hok.2 n901 (by omega)
        obtain rfl : x5094 = lN (L n901).2.2.2 := (EJ_l (l := n901) (r := 5) (by omega) (by decide)).mp h5095
        refine m_lconst F (v := 1) (by decide) e_X10_pays_244 ?_
        refine m_ladd F e_X10_pays_245 ?_
        refine Wm.toplE (w := lN ((L n901).2.2.2 + 1)) (lN_add ((L n901).2.2.2) 1) ?_
        refine r_sst F (g' := (⟨T, Z, u, h, P, (updL L n901 ((L n901).1, (L n901).2.1, (L n901).2.2.1, (L n901).2.2.2 + 1))⟩ : RG)) (j := 160 * n901 + 5) e_X10_pays_246 h5092 (by decide) (nI_clamp (by omega)) (vp_in_nI (by omega) (by decide)) (fun f q => EJ_up (l := n901) (r := 5) (by omega) (by decide) q rfl (by intro r' h1 h2 y hy; revert hy; unfold EL; split <;> simp_all)) CR.row (fun σ5098 h5099 g5100 => ?_)
        obtain ⟨L5101, eL5101⟩ : ∃ L9, L9 = (updL L n901 ((L n901).1, (L n901).2.1, (L n901).2.2.1, (L n901).2.2.2 + 1)) := ⟨_, rfl⟩
        rw [← eL5101] at h5099
        have fL5101 : L5101 n901 = ((L n901).1, (L n901).2.1, (L n901).2.2.1, (L n901).2.2.2 + 1) := by rw [eL5101]; exact if_pos rfl
        have fL51010 : (L5101 n901).1 = (L n901).1 := by rw [fL5101]
        have fL51011 : (L5101 n901).2.1 = (L n901).2.1 := by rw [fL5101]
        have fL51012 : (L5101 n901).2.2.1 = (L n901).2.2.1 := by rw [fL5101]
        have fL51013 : (L5101 n901).2.2.2 = (L n901).2.2.2 + 1 := by rw [fL5101]
        have oL5101 : ∀ i, i ≠ n901 → L5101 i = L i := fun i hi => by rw [eL5101]; exact if_neg hi
        have pL5101 : (L5101 4).1 = (L 4).1 := by rw [oL5101 4 (by omega)]
        refine m_aload_n F rfl e_X10_pays_247 ?_
        refine m_iconst F (v := 1) (by decide) e_X10_pays_248 ?_
        refine m_iload_n F rfl e_X10_pays_249 ?_
        refine m_lload_n F rfl e_X10_pays_250 ?_
        refine m_lneg F e_X10_pays_251 ?_
        refine Wm.topl (fun x5102 _ => ?_)
        refine m_lload F rfl e_X10_pays_252 ?_
        refine m_lload F rfl e_X10_pays_254 ?_
        refine m_lsub F e_X10_pays_256 ?_
        refine Wm.topl (fun x5103 _ => ?_)
        refine m_lload F rfl e_X10_pays_257 ?_
        refine m_lneg F e_X10_pays_259 ?_
        refine Wm.topl (fun x5104 _ => ?_)
        refine m_lload F rfl e_X10_pays_260 ?_
        refine m_lload F rfl e_X10_pays_262 ?_
        refine m_lconst F (v := 0) (by decide) e_X10_pays_264 ?_
        have okb5108 : OKB L5101 := OKB.upd (hok.b) (l := n901) (by omega) (fun i hi => (oL5101 i hi)) (by have h9 := (hok.b).2 n901 (by omega); omega)
        refine r_callV F e_X10_pays_265 (q_X10_entry (x_l X) V c T Z u h P L5101 _ _ 1 (nI n901) x5102 x5103 x5104 x5062 x5069 0 h5099.1 (okb5108) hP ) cb_X10_entry ml_X10_253 im_X10_entry se_X10_entry h5099 rfl rfl (rest := []) rfl (Nat.le_of_ble_eq_true rfl) ⟨Nat.le_of_ble_eq_true rfl, Nat.le_of_ble_eq_true rfl⟩ ⟨Nat.le_of_ble_eq_true rfl, Nat.le_of_ble_eq_true rfl⟩ (fun r σ5105 hp => ?_)
        obtain ⟨h5106, rfl⟩ := hp
        have h5107 := HS.trans h5099 h5106 (by decide)
        refine m_iload F rfl e_X10_pays_268 ?_
        refine m_if_eq F e_X10_pays_270 (fun q => absurd q (by decide)) (fun _ => ?_)
        refine m_aload_n F rfl e_X10_pays_273 ?_
        refine r_getC F e_X10_pays_274 fl_X10_59 h5107 ((fld_eq (h5106.2 c (by rw [show kC c c = 1 from kC_at (k := 0) (by decide)]; decide))).trans ((fld_eq (g5100 _ (by omega))).trans ((fld_eq (g5093 _ (by omega))).trans ((fld_eq (g5086 _ (by omega))).trans ((fld_eq (g5079 _ (by omega))).trans ((fld_eq (g5072 _ (by omega))).trans ((fld_eq (h5067.2 c (by rw [show kC c c = 1 from kC_at (k := 0) (by decide)]; decide))).trans ((fld_eq (h4939.2 c (by rw [show kC c c = 1 from kC_at (k := 0) (by decide)]; decide))).trans ((fld_eq (h4700.2 c (by rw [show kC c c = 1 from kC_at (k := 0) (by decide)]; decide))).trans f4688))))))))) ?_
        refine m_iload_n F rfl e_X10_pays_277 ?_
        refine m_iconst F (v := 0) (by decide) e_X10_pays_278 ?_
        refine m_iadd F e_X10_pays_279 ?_
        refine Wm.topE (w := nI (160 * n901)) (nI_add (160 * n901) 0) ?_
        refine m_ldc2 F kc_X10_234 e_X10_pays_280 ?_
        refine r_sst F (g' := (⟨T, Z, u, h, P, (updL L5101 n901 (2, (L5101 n901).2.1, (L5101 n901).2.2.1, (L5101 n901).2.2.2))⟩ : RG)) (j := 160 * n901) e_X10_pays_283 h5107 (by decide) (nI_clamp (by omega)) (vp_in_nI (by omega) (by decide)) (fun f q => EJ_up (l := n901) (r := 0) (by omega) (by decide) q rfl (by intro r' h1 h2 y hy; revert hy; unfold EL; split <;> simp_all)) CR.row (fun σ5109 h5110 g5111 => ?_)
        obtain ⟨L5112, eL5112⟩ : ∃ L9, L9 = (updL L5101 n901 (2, (L5101 n901).2.1, (L5101 n901).2.2.1, (L5101 n901).2.2.2)) := ⟨_, rfl⟩
        rw [← eL5112] at h5110
        have fL5112 : L5112 n901 = (2, (L5101 n901).2.1, (L5101 n901).2.2.1, (L5101 n901).2.2.2) := by rw [eL5112]; exact if_pos rfl
        have fL51120 : (L5112 n901).1 = 2 := by rw [fL5112]
        have fL51121 : (L5112 n901).2.1 = (L5101 n901).2.1 := by rw [fL5112]
        have fL51122 : (L5112 n901).2.2.1 = (L5101 n901).2.2.1 := by rw [fL5112]
        have fL51123 : (L5112 n901).2.2.2 = (L5101 n901).2.2.2 := by rw [fL5112]
        have oL5112 : ∀ i, i ≠ n901 → L5112 i = L5101 i := fun i hi => by rw [eL5112]; exact if_neg hi
        have pL5112 : (L5112 4).1 = (L5101 4).1 := by rw [oL5112 4 (by omega)]
        have ok5113 : OKL P.n0 L5112 := OKL.upd hok (l := n901) (by omega) (fun i hi => (oL5112 i hi).trans (oL5101 i hi)) (by have h9 := hok.2 n901 (by omega); omega)
        exact m_vret F hQ e_X10_pays_284 (⟨L5112, ok5113, (by first | omega | rfl | assumption), h5110, rfl⟩)
set_option maxRecDepth 20000 in
theorem q_X10_starts1 (l : Launch) (V : VX) (c T Z u h : Nat) (P : NP) (L : Nat → LQ) (N : Nat) (σ : Mem) (n901 : Nat) (h0 : HR V c ⟨T, Z, u, h, P, L⟩ σ) (hok : OKL P.n0 L) (hP : OKP P) (hn901 : n901 ≤ 3) (hp0 : (L n901).1 = 0) (hp1 : n901 < P.n0) : Ct l V yX10_starts1 cX10_starts1 5 none 2 0 0 N σ [.ref c, .int (nI n901)] (fun r τ => ∃ L9, OKL P.n0 L9 ∧ (L9 4).1 = (L 4).1 ∧ HS V c (⟨T, Z, u, h, P, L9⟩ : RG) [0, 1, 2, 3, 4, 5, 6, 7, 8, 9, 10, 11, 12, 13, 14, 15, 16, 18, 19, 20, 21, 22] σ τ ∧ r = none) := by
  refine Ct.of (by decide) (Nat.le_of_ble_eq_true rfl) [(0, .ref c), (1, .int (nI n901))] rfl (fun X hX F hQ => ?_)
  have hPP := hP
  unfold OKP at hPP
  have h1 : HS V c ⟨T, Z, u, h, P, L⟩ [0, 1, 2, 3, 4, 5, 6, 7, 8, 9, 10, 11, 12, 13, 14, 15, 16, 18, 19, 20, 21, 22] σ σ := HS.start h0
  have hl := hok.2 n901 (by omega)
  refine m_sipush F (v := 160) (by decide) e_X10_starts1_0 ?_
  refine m_iload_n F rfl e_X10_starts1_3 ?_
  refine m_imul F e_X10_starts1_4 ?_
  refine Wm.topE (w := nI (160 * n901)) (pk_mul 160 n901) ?_
  refine m_istore_n F (lv' := [(2, .int (nI (160 * n901))), (0, .ref c), (1, .int (nI n901))]) e_X10_starts1_5 (by decide) rfl ?_
  refine m_aload_n F rfl e_X10_starts1_6 ?_
  refine r_get F e_X10_starts1_7 fl_X10_34 h1 rfl (fun v hv f5114 => ?_)
  obtain rfl : v = .ref (c + 9) := hv
  refine m_iload_n F rfl e_X10_starts1_10 ?_
  refine r_iald F (len := 8) (j := n901) e_X10_starts1_11 h1 (fun _ h => h) (by decide) (nI_clamp (by omega)) (vp_in_nI (by omega) (by decide)) (fun x5115 h5116 f5117 => ?_)
  refine m_if_ne F e_X10_starts1_12 (fun q12 => ?_) (fun q12 => ?_)
  · refine m_aload_n F rfl e_X10_starts1_19 ?_
    refine r_getC F e_X10_starts1_20 fl_X10_34 h1 (f5114) ?_
    refine m_iload_n F rfl e_X10_starts1_23 ?_
    refine r_iald F (len := 8) (j := n901) e_X10_starts1_24 h1 (fun _ h => h) (by decide) (nI_clamp (by omega)) (vp_in_nI (by omega) (by decide)) (fun x5118 h5119 f5120 => ?_)
    obtain rfl := Option.some.inj ((f5120).symm.trans (f5117))
    refine m_iconst F (v := 1) (by decide) e_X10_starts1_25 ?_
    refine m_isub F e_X10_starts1_26 ?_
    refine Wm.top (fun x5121 _ => ?_)
    refine m_i2l F e_X10_starts1_27 ?_
    refine Wm.topl (fun x5122 _ => ?_)
    refine m_lstore_n F (lv' := [(3, .long x5122), (2, .int (nI (160 * n901))), (0, .ref c), (1, .int (nI n901))]) e_X10_starts1_28 (by decide) rfl ?_
    refine m_aload_n F rfl e_X10_starts1_29 ?_
    refine r_get F e_X10_starts1_30 fl_X10_59 h1 rfl (fun v hv f5123 => ?_)
    obtain rfl : v = .ref (c + 16) := hv
    refine m_iload_n F rfl e_X10_starts1_33 ?_
    refine m_iconst F (v := 0) (by decide) e_X10_starts1_34 ?_
    refine m_iadd F e_X10_starts1_35 ?_
    refine Wm.topE (w := nI (160 * n901)) (nI_add (160 * n901) 0) ?_
    refine m_lconst F (v := 1) (by decide) e_X10_starts1_36 ?_
    refine r_sst F (g' := (⟨T, Z, u, h, P, (updL L n901 (1, (L n901).2.1, (L n901).2.2.1, (L n901).2.2.2))⟩ : RG)) (j := 160 * n901) e_X10_starts1_37 h1 (by decide) (nI_clamp (by omega)) (vp_in_nI (by omega) (by decide)) (fun f q => EJ_up (l := n901) (r := 0) (by omega) (by decide) q rfl (by intro r' h1 h2 y hy; revert hy; unfold EL; split <;> simp_all)) CR.row (fun σ5124 h5125 g5126 => ?_)
    obtain ⟨L5127, eL5127⟩ : ∃ L9, L9 = (updL L n901 (1, (L n901).2.1, (L n901).2.2.1, (L n901).2.2.2)) := ⟨_, rfl⟩
    rw [← eL5127] at h5125
    have fL5127 : L5127 n901 = (1, (L n901).2.1, (L n901).2.2.1, (L n901).2.2.2) := by rw [eL5127]; exact if_pos rfl
    have fL51270 : (L5127 n901).1 = 1 := by rw [fL5127]
    have fL51271 : (L5127 n901).2.1 = (L n901).2.1 := by rw [fL5127]
    have fL51272 : (L5127 n901).2.2.1 = (L n901).2.2.1 := by rw [fL5127]
    have fL51273 : (L5127 n901).2.2.2 = (L n901).2.2.2 := by rw [fL5127]
    have oL5127 : ∀ i, i ≠ n901 → L5127 i = L i := fun i hi => by rw [eL5127]; exact if_neg hi
    have pL5127 : (L5127 4).1 = (L 4).1 := by rw [oL5127 4 (by omega)]
    refine m_aload_n F rfl e_X10_starts1_38 ?_
    refine r_getC F e_X10_starts1_39 fl_X10_59 h5125 ((fld_eq (g5126 _ (by omega))).trans f5123) ?_
    refine m_iload_n F rfl e_X10_starts1_42 ?_
    refine m_bipush F (v := 6) (by decide) e_X10_starts1_43 ?_
    refine m_iadd F e_X10_starts1_45 ?_
    refine Wm.topE (w := nI (160 * n901 + 6)) (nI_add (160 * n901) 6) ?_
    refine m_aload_n F rfl e_X10_starts1_46 ?_
    refine m_iload_n F rfl e_X10_starts1_47 ?_
    refine m_iconst F (v := 1) (by decide) e_X10_starts1_48 ?_
    refine m_aload_n F rfl e_X10_starts1_49 ?_
    refine r_getC F e_X10_starts1_50 fl_X10_59 h5125 ((fld_eq (g5126 _ (by omega))).trans f5123) ?_
    refine m_iload_n F rfl e_X10_starts1_53 ?_
    refine m_iconst F (v := 2) (by decide) e_X10_starts1_54 ?_
    refine m_iadd F e_X10_starts1_55 ?_
    refine Wm.topE (w := nI (160 * n901 + 2)) (nI_add (160 * n901) 2) ?_
    refine r_sld F (j := 160 * n901 + 2) e_X10_starts1_56 h5125 (nI_clamp (by omega)) (vp_in_nI (by omega) (by decide)) (fun x5128 h5129 f5130 => ?_)
    obtain ⟨n5131, hn5131, rfl⟩ : ∃ n : Nat, n ≤ 1000000 ∧ x5128 = lN n := (EJ_l (l := n901) (r := 2) (by omega) (by decide)).mp h5129
    refine m_ldc2 F kc_X10_245 e_X10_starts1_57 ?_
    have okb5135 : OKB L5127 := OKB.upd (hok.b) (l := n901) (by omega) (fun i hi => (oL5127 i hi)) (by have h9 := (hok.b).2 n901 (by omega); omega)
    refine r_callV F e_X10_starts1_60 (q_X10_worthBy (x_l X) V c T Z u h P L5127 _ _ n901 1 n5131 (-1) h5125.1 (okb5135) hP (by omega) (by omega) (by omega) (by first | omega | assumption | decide)) cb_X10_worthBy ml_X10_247 im_X10_worthBy se_X10_worthBy h5125 rfl rfl (rest := [.int (nI (160 * n901 + 6)), .ref (c + 16)]) rfl (Nat.le_of_ble_eq_true rfl) ⟨Nat.le_of_ble_eq_true rfl, Nat.le_of_ble_eq_true rfl⟩ ⟨Nat.le_of_ble_eq_true rfl, Nat.le_of_ble_eq_true rfl⟩ (fun r σ5132 hp => ?_)
    obtain ⟨h5133, x5136, rfl⟩ := hp
    have h5134 := HS.trans h5125 h5133 (by decide)
    refine r_sst F (g' := (⟨T, Z, u, h, P, L5127⟩ : RG)) (j := 160 * n901 + 6) e_X10_starts1_63 h5134 (by decide) (nI_clamp (by omega)) (vp_in_nI (by omega) (by decide)) (fun f q => EJ_same (EJ_lw (l := n901) (r := 6) (by omega) (by omega) (by omega)) q) (fun _ _ _ q => q) (fun σ5137 h5138 g5139 => ?_)
    refine m_aload_n F rfl e_X10_starts1_64 ?_
    refine r_getC F e_X10_starts1_65 fl_X10_59 h5138 ((fld_eq (g5139 _ (by omega))).trans ((fld_eq (h5133.2 c (by rw [show kC c c = 1 from kC_at (k := 0) (by decide)]; decide))).trans ((fld_eq (g5126 _ (by omega))).trans f5123))) ?_
    refine m_iload_n F rfl e_X10_starts1_68 ?_
    refine m_bipush F (v := 8) (by decide) e_X10_starts1_69 ?_
    refine m_iadd F e_X10_starts1_71 ?_
    refine Wm.topE (w := nI (160 * n901 + 8)) (nI_add (160 * n901) 8) ?_
    refine m_aload_n F rfl e_X10_starts1_72 ?_
    refine r_getC F e_X10_starts1_73 fl_X10_59 h5138 ((fld_eq (g5139 _ (by omega))).trans ((fld_eq (h5133.2 c (by rw [show kC c c = 1 from kC_at (k := 0) (by decide)]; decide))).trans ((fld_eq (g5126 _ (by omega))).trans f5123))) ?_
    refine m_iload_n F rfl e_X10_starts1_76 ?_
    refine m_bipush F (v := 6) (by decide) e_X10_starts1_77 ?_
    refine m_iadd F e_X10_starts1_79 ?_
    refine Wm.topE (w := nI (160 * n901 + 6)) (nI_add (160 * n901) 6) ?_
    refine r_sld F (j := 160 * n901 + 6) e_X10_starts1_80 h5138 (nI_clamp (by omega)) (vp_in_nI (by omega) (by decide)) (fun x5140 h5141 f5142 => ?_)
    refine r_sst F (g' := (⟨T, Z, u, h, P, L5127⟩ : RG)) (j := 160 * n901 + 8) e_X10_starts1_81 h5138 (by decide) (nI_clamp (by omega)) (vp_in_nI (by omega) (by decide)) (fun f q => EJ_same (EJ_lw (l := n901) (r := 8) (by omega) (by omega) (by omega)) q) (fun _ _ _ q => q) (fun σ5143 h5144 g5145 => ?_)
    refine m_aload_n F rfl e_X10_starts1_82 ?_
    refine r_getC F e_X10_starts1_83 fl_X10_59 h5144 ((fld_eq (g5145 _ (by omega))).trans ((fld_eq (g5139 _ (by omega))).trans ((fld_eq (h5133.2 c (by rw [show kC c c = 1 from kC_at (k := 0) (by decide)]; decide))).trans ((fld_eq (g5126 _ (by omega))).trans f5123)))) ?_
    refine m_iload_n F rfl e_X10_starts1_86 ?_
    refine m_bipush F (v := 7) (by decide) e_X10_starts1_87 ?_
    refine m_iadd F e_X10_starts1_89 ?_
    refine Wm.topE (w := nI (160 * n901 + 7)) (nI_add (160 * n901) 7) ?_
    refine m_aload_n F rfl e_X10_starts1_90 ?_
    refine r_getC F e_X10_starts1_91 fl_X10_59 h5144 ((fld_eq (g5145 _ (by omega))).trans ((fld_eq (g5139 _ (by omega))).trans ((fld_eq (h5133.2 c (by rw [show kC c c = 1 from kC_at (k := 0) (by decide)]; decide))).trans ((fld_eq (g5126 _ (by omega))).trans f5123)))) ?_
    refine m_iload_n F rfl e_X10_starts1_94 ?_
    refine m_bipush F (v := 6) (by decide) e_X10_starts1_95 ?_
    refine m_iadd F e_X10_starts1_97 ?_
    refine Wm.topE (w := nI (160 * n901 + 6)) (nI_add (160 * n901) 6) ?_
    refine r_sld F (j := 160 * n901 + 6) e_X10_starts1_98 h5144 (nI_clamp (by omega)) (vp_in_nI (by omega) (by decide)) (fun x5146 h5147 f5148 => ?_)
    refine m_lload_n F rfl e_X10_starts1_99 ?_
    refine m_ladd F e_X10_starts1_100 ?_
    refine Wm.topl (fun x5149 _ => ?_)
    refine r_sst F (g' := (⟨T, Z, u, h, P, L5127⟩ : RG)) (j := 160 * n901 + 7) e_X10_starts1_101 h5144 (by decide) (nI_clamp (by omega)) (vp_in_nI (by omega) (by decide)) (fun f q => EJ_same (EJ_lw (l := n901) (r := 7) (by omega) (by omega) (by omega)) q) (fun _ _ _ q => q) (fun σ5150 h5151 g5152 => ?_)
    refine m_aload_n F rfl e_X10_starts1_102 ?_
    refine r_getC F e_X10_starts1_103 fl_X10_59 h5151 ((fld_eq (g5152 _ (by omega))).trans ((fld_eq (g5145 _ (by omega))).trans ((fld_eq (g5139 _ (by omega))).trans ((fld_eq (h5133.2 c (by rw [show kC c c = 1 from kC_at (k := 0) (by decide)]; decide))).trans ((fld_eq (g5126 _ (by omega))).trans f5123))))) ?_
    refine m_iload_n F rfl e_X10_starts1_106 ?_
    refine m_iconst F (v := 3) (by decide) e_X10_starts1_107 ?_
    refine m_iadd F e_X10_starts1_108 ?_
    refine Wm.topE (w := nI (160 * n901 + 3)) (nI_add (160 * n901) 3) ?_
    refine m_aload_n F rfl e_X10_starts1_109 ?_
    have okb5156 : OKB L5127 := OKB.upd (hok.b) (l := n901) (by omega) (fun i hi => (oL5127 i hi)) (by have h9 := (hok.b).2 n901 (by omega); omega)
    refine r_callV F e_X10_starts1_110 (q_X10_indexNow (x_l X) V c T Z u h P L5127 _ _  h5151.1 (okb5156) hP ) cb_X10_indexNow ml_X10_260 im_X10_indexNow se_X10_indexNow h5151 rfl rfl (rest := [.int (nI (160 * n901 + 3)), .ref (c + 16)]) rfl (Nat.le_of_ble_eq_true rfl) ⟨Nat.le_of_ble_eq_true rfl, Nat.le_of_ble_eq_true rfl⟩ ⟨Nat.le_of_ble_eq_true rfl, Nat.le_of_ble_eq_true rfl⟩ (fun r σ5153 hp => ?_)
    obtain ⟨h5154, n5157, hn5157, gn5157, rfl⟩ := hp
    have h5155 := HS.trans h5151 h5154 (by decide)
    refine r_sst F (g' := (⟨T, Z, u, h, P, (updL L5127 n901 ((L5127 n901).1, (L5127 n901).2.1, n5157, (L5127 n901).2.2.2))⟩ : RG)) (j := 160 * n901 + 3) e_X10_starts1_113 h5155 (by decide) (nI_clamp (by omega)) (vp_in_nI (by omega) (by decide)) (fun f q => EJ_up (l := n901) (r := 3) (by omega) (by decide) q rfl (by intro r' h1 h2 y hy; revert hy; unfold EL; split <;> simp_all)) CR.row (fun σ5158 h5159 g5160 => ?_)
    obtain ⟨L5161, eL5161⟩ : ∃ L9, L9 = (updL L5127 n901 ((L5127 n901).1, (L5127 n901).2.1, n5157, (L5127 n901).2.2.2)) := ⟨_, rfl⟩
    rw [← eL5161] at h5159
    have fL5161 : L5161 n901 = ((L5127 n901).1, (L5127 n901).2.1, n5157, (L5127 n901).2.2.2) := by rw [eL5161]; exact if_pos rfl
    have fL51610 : (L5161 n901).1 = (L5127 n901).1 := by rw [fL5161]
    have fL51611 : (L5161 n901).2.1 = (L5127 n901).2.1 := by rw [fL5161]
    have fL51612 : (L5161 n901).2.2.1 = n5157 := by rw [fL5161]
    have fL51613 : (L5161 n901).2.2.2 = (L5127 n901).2.2.2 := by rw [fL5161]
    have oL5161 : ∀ i, i ≠ n901 → L5161 i = L5127 i := fun i hi => by rw [eL5161]; exact if_neg hi
    have pL5161 : (L5161 4).1 = (L5127 4).1 := by rw [oL5161 4 (by omega)]
    refine m_aload_n F rfl e_X10_starts1_114 ?_
    refine r_getC F e_X10_starts1_115 fl_X10_59 h5159 ((fld_eq (g5160 _ (by omega))).trans ((fld_eq (h5154.2 c (by rw [show kC c c = 1 from kC_at (k := 0) (by decide)]; decide))).trans ((fld_eq (g5152 _ (by omega))).trans ((fld_eq (g5145 _ (by omega))).trans ((fld_eq (g5139 _ (by omega))).trans ((fld_eq (h5133.2 c (by rw [show kC c c = 1 from kC_at (k := 0) (by decide)]; decide))).trans ((fld_eq (g5126 _ (by omega))).trans f5123))))))) ?_
    refine m_iload_n F rfl e_X10_starts1_118 ?_
    refine m_iconst F (v := 4) (by decide) e_X10_starts1_119 ?_
    refine m_iadd F e_X10_starts1_120 ?_
    refine Wm.topE (w := nI (160 * n901 + 4)) (nI_add (160 * n901) 4) ?_
    refine m_aload_n F rfl e_X10_starts1_121 ?_
    have okb5165 : OKB L5161 := OKB.upd (hok.b) (l := n901) (by omega) (fun i hi => (oL5161 i hi).trans (oL5127 i hi)) (by have h9 := (hok.b).2 n901 (by omega); omega)
    refine r_callV F e_X10_starts1_122 (q_X10_indexNow (x_l X) V c T Z u h P L5161 _ _  h5159.1 (okb5165) hP ) cb_X10_indexNow ml_X10_260 im_X10_indexNow se_X10_indexNow h5159 rfl rfl (rest := [.int (nI (160 * n901 + 4)), .ref (c + 16)]) rfl (Nat.le_of_ble_eq_true rfl) ⟨Nat.le_of_ble_eq_true rfl, Nat.le_of_ble_eq_true rfl⟩ ⟨Nat.le_of_ble_eq_true rfl, Nat.le_of_ble_eq_true rfl⟩ (fun r σ5162 hp => ?_)
    obtain ⟨h5163, n5166, hn5166, gn5166, rfl⟩ := hp
    have h5164 := HS.trans h5159 h5163 (by decide)
    refine r_sst F (g' := (⟨T, Z, u, h, P, L5161⟩ : RG)) (j := 160 * n901 + 4) e_X10_starts1_125 h5164 (by decide) (nI_clamp (by omega)) (vp_in_nI (by omega) (by decide)) (fun f q => EJ_same (EJ_lw (l := n901) (r := 4) (by omega) (by omega) (by omega)) q) (fun _ _ _ q => q) (fun σ5167 h5168 g5169 => ?_)
    refine m_aload_n F rfl e_X10_starts1_126 ?_
    refine m_iconst F (v := 0) (by decide) e_X10_starts1_127 ?_
    refine m_iload_n F rfl e_X10_starts1_128 ?_
    refine m_lload_n F rfl e_X10_starts1_129 ?_
    refine m_lneg F e_X10_starts1_130 ?_
    refine Wm.topl (fun x5170 _ => ?_)
    refine m_aload_n F rfl e_X10_starts1_131 ?_
    refine r_getC F e_X10_starts1_132 fl_X10_59 h5168 ((fld_eq (g5169 _ (by omega))).trans ((fld_eq (h5163.2 c (by rw [show kC c c = 1 from kC_at (k := 0) (by decide)]; decide))).trans ((fld_eq (g5160 _ (by omega))).trans ((fld_eq (h5154.2 c (by rw [show kC c c = 1 from kC_at (k := 0) (by decide)]; decide))).trans ((fld_eq (g5152 _ (by omega))).trans ((fld_eq (g5145 _ (by omega))).trans ((fld_eq (g5139 _ (by omega))).trans ((fld_eq (h5133.2 c (by rw [show kC c c = 1 from kC_at (k := 0) (by decide)]; decide))).trans ((fld_eq (g5126 _ (by omega))).trans f5123))))))))) ?_
    refine m_iload_n F rfl e_X10_starts1_135 ?_
    refine m_bipush F (v := 6) (by decide) e_X10_starts1_136 ?_
    refine m_iadd F e_X10_starts1_138 ?_
    refine Wm.topE (w := nI (160 * n901 + 6)) (nI_add (160 * n901) 6) ?_
    refine r_sld F (j := 160 * n901 + 6) e_X10_starts1_139 h5168 (nI_clamp (by omega)) (vp_in_nI (by omega) (by decide)) (fun x5171 h5172 f5173 => ?_)
    refine m_lneg F e_X10_starts1_140 ?_
    refine Wm.topl (fun x5174 _ => ?_)
    refine m_aload_n F rfl e_X10_starts1_141 ?_
    refine r_getC F e_X10_starts1_142 fl_X10_59 h5168 ((fld_eq (g5169 _ (by omega))).trans ((fld_eq (h5163.2 c (by rw [show kC c c = 1 from kC_at (k := 0) (by decide)]; decide))).trans ((fld_eq (g5160 _ (by omega))).trans ((fld_eq (h5154.2 c (by rw [show kC c c = 1 from kC_at (k := 0) (by decide)]; decide))).trans ((fld_eq (g5152 _ (by omega))).trans ((fld_eq (g5145 _ (by omega))).trans ((fld_eq (g5139 _ (by omega))).trans ((fld_eq (h5133.2 c (by rw [show kC c c = 1 from kC_at (k := 0) (by decide)]; decide))).trans ((fld_eq (g5126 _ (by omega))).trans f5123))))))))) ?_
    refine m_iload_n F rfl e_X10_starts1_145 ?_
    refine m_bipush F (v := 7) (by decide) e_X10_starts1_146 ?_
    refine m_iadd F e_X10_starts1_148 ?_
    refine Wm.topE (w := nI (160 * n901 + 7)) (nI_add (160 * n901) 7) ?_
    refine r_sld F (j := 160 * n901 + 7) e_X10_starts1_149 h5168 (nI_clamp (by omega)) (vp_in_nI (by omega) (by decide)) (fun x5175 h5176 f5177 => ?_)
    refine m_lconst F (v := 0) (by decide) e_X10_starts1_150 ?_
    refine m_lconst F (v := 0) (by decide) e_X10_starts1_151 ?_
    refine m_lconst F (v := 0) (by decide) e_X10_starts1_152 ?_
    have okb5181 : OKB L5161 := OKB.upd (hok.b) (l := n901) (by omega) (fun i hi => (oL5161 i hi).trans (oL5127 i hi)) (by have h9 := (hok.b).2 n901 (by omega); omega)
    refine r_callV F e_X10_starts1_153 (q_X10_entry (x_l X) V c T Z u h P L5161 _ _ 0 (nI n901) x5170 x5174 x5175 0 0 0 h5168.1 (okb5181) hP ) cb_X10_entry ml_X10_253 im_X10_entry se_X10_entry h5168 rfl rfl (rest := []) rfl (Nat.le_of_ble_eq_true rfl) ⟨Nat.le_of_ble_eq_true rfl, Nat.le_of_ble_eq_true rfl⟩ ⟨Nat.le_of_ble_eq_true rfl, Nat.le_of_ble_eq_true rfl⟩ (fun r σ5178 hp => ?_)
    obtain ⟨h5179, rfl⟩ := hp
    have h5180 := HS.trans h5168 h5179 (by decide)
    have ok5182 : OKL P.n0 L5161 := OKL.upd hok (l := n901) (by omega) (fun i hi => (oL5161 i hi).trans (oL5127 i hi)) (by have h9 := hok.2 n901 (by omega); omega)
    exact m_vret F hQ e_X10_starts1_156 (⟨L5161, ok5182, (by first | omega | rfl | assumption), h5180, rfl⟩)
  · subst q12
    refine m_lconst F (v := 0) (by decide) e_X10_starts1_15 ?_
    refine m_goto F e_X10_starts1_16 ?_
    refine m_lstore_n F (lv' := [(3, .long 0), (2, .int (nI (160 * n901))), (0, .ref c), (1, .int (nI n901))]) e_X10_starts1_28 (by decide) rfl ?_
    refine m_aload_n F rfl e_X10_starts1_29 ?_
    refine r_get F e_X10_starts1_30 fl_X10_59 h1 rfl (fun v hv f5183 => ?_)
    obtain rfl : v = .ref (c + 16) := hv
    refine m_iload_n F rfl e_X10_starts1_33 ?_
    refine m_iconst F (v := 0) (by decide) e_X10_starts1_34 ?_
    refine m_iadd F e_X10_starts1_35 ?_
    refine Wm.topE (w := nI (160 * n901)) (nI_add (160 * n901) 0) ?_
    refine m_lconst F (v := 1) (by decide) e_X10_starts1_36 ?_
    refine r_sst F (g' := (⟨T, Z, u, h, P, (updL L n901 (1, (L n901).2.1, (L n901).2.2.1, (L n901).2.2.2))⟩ : RG)) (j := 160 * n901) e_X10_starts1_37 h1 (by decide) (nI_clamp (by omega)) (vp_in_nI (by omega) (by decide)) (fun f q => EJ_up (l := n901) (r := 0) (by omega) (by decide) q rfl (by intro r' h1 h2 y hy; revert hy; unfold EL; split <;> simp_all)) CR.row (fun σ5184 h5185 g5186 => ?_)
    obtain ⟨L5187, eL5187⟩ : ∃ L9, L9 = (updL L n901 (1, (L n901).2.1, (L n901).2.2.1, (L n901).2.2.2)) := ⟨_, rfl⟩
    rw [← eL5187] at h5185
    have fL5187 : L5187 n901 = (1, (L n901).2.1, (L n901).2.2.1, (L n901).2.2.2) := by rw [eL5187]; exact if_pos rfl
    have fL51870 : (L5187 n901).1 = 1 := by rw [fL5187]
    have fL51871 : (L5187 n901).2.1 = (L n901).2.1 := by rw [fL5187]
    have fL51872 : (L5187 n901).2.2.1 = (L n901).2.2.1 := by rw [fL5187]
    have fL51873 : (L5187 n901).2.2.2 = (L n901).2.2.2 := by rw [fL5187]
    have oL5187 : ∀ i, i ≠ n901 → L5187 i = L i := fun i hi => by rw [eL5187]; exact if_neg hi
    have pL5187 : (L5187 4).1 = (L 4).1 := by rw [oL5187 4 (by omega)]
    refine m_aload_n F rfl e_X10_starts1_38 ?_
    refine r_getC F e_X10_starts1_39 fl_X10_59 h5185 ((fld_eq (g5186 _ (by omega))).trans f5183) ?_
    refine m_iload_n F rfl e_X10_starts1_42 ?_
    refine m_bipush F (v := 6) (by decide) e_X10_starts1_43 ?_
    refine m_iadd F e_X10_starts1_45 ?_
    refine Wm.topE (w := nI (160 * n901 + 6)) (nI_add (160 * n901) 6) ?_
    refine m_aload_n F rfl e_X10_starts1_46 ?_
    refine m_iload_n F rfl e_X10_starts1_47 ?_
    refine m_iconst F (v := 1) (by decide) e_X10_starts1_48 ?_
    refine m_aload_n F rfl e_X10_starts1_49 ?_
    refine r_getC F e_X10_starts1_50 fl_X10_59 h5185 ((fld_eq (g5186 _ (by omega))).trans f5183) ?_
    refine m_iload_n F rfl e_X10_starts1_53 ?_
    refine m_iconst F (v := 2) (by decide) e_X10_starts1_54 ?_
    refine m_iadd F e_X10_starts1_55 ?_
    refine Wm.topE (w := nI (160 * n901 + 2)) (nI_add (160 * n901) 2) ?_
    refine r_sld F (j := 160 * n901 + 2) e_X10_starts1_56 h5185 (nI_clamp (by omega)) (vp_in_nI (by omega) (by decide)) (fun x5188 h5189 f5190 => ?_)
    obtain ⟨n5191, hn5191, rfl⟩ : ∃ n : Nat, n ≤ 1000000 ∧ x5188 = lN n := (EJ_l (l := n901) (r := 2) (by omega) (by decide)).mp h5189
    refine m_ldc2 F kc_X10_245 e_X10_starts1_57 ?_
    have okb5195 : OKB L5187 := OKB.upd (hok.b) (l := n901) (by omega) (fun i hi => (oL5187 i hi)) (by have h9 := (hok.b).2 n901 (by omega); omega)
    refine r_callV F e_X10_starts1_60 (q_X10_worthBy (x_l X) V c T Z u h P L5187 _ _ n901 1 n5191 (-1) h5185.1 (okb5195) hP (by omega) (by omega) (by omega) (by first | omega | assumption | decide)) cb_X10_worthBy ml_X10_247 im_X10_worthBy se_X10_worthBy h5185 rfl rfl (rest := [.int (nI (160 * n901 + 6)), .ref (c + 16)]) rfl (Nat.le_of_ble_eq_true rfl) ⟨Nat.le_of_ble_eq_true rfl, Nat.le_of_ble_eq_true rfl⟩ ⟨Nat.le_of_ble_eq_true rfl, Nat.le_of_ble_eq_true rfl⟩ (fun r σ5192 hp => ?_)
    obtain ⟨h5193, x5196, rfl⟩ := hp
    have h5194 := HS.trans h5185 h5193 (by decide)
    refine r_sst F (g' := (⟨T, Z, u, h, P, L5187⟩ : RG)) (j := 160 * n901 + 6) e_X10_starts1_63 h5194 (by decide) (nI_clamp (by omega)) (vp_in_nI (by omega) (by decide)) (fun f q => EJ_same (EJ_lw (l := n901) (r := 6) (by omega) (by omega) (by omega)) q) (fun _ _ _ q => q) (fun σ5197 h5198 g5199 => ?_)
    refine m_aload_n F rfl e_X10_starts1_64 ?_
    refine r_getC F e_X10_starts1_65 fl_X10_59 h5198 ((fld_eq (g5199 _ (by omega))).trans ((fld_eq (h5193.2 c (by rw [show kC c c = 1 from kC_at (k := 0) (by decide)]; decide))).trans ((fld_eq (g5186 _ (by omega))).trans f5183))) ?_
    refine m_iload_n F rfl e_X10_starts1_68 ?_
    refine m_bipush F (v := 8) (by decide) e_X10_starts1_69 ?_
    refine m_iadd F e_X10_starts1_71 ?_
    refine Wm.topE (w := nI (160 * n901 + 8)) (nI_add (160 * n901) 8) ?_
    refine m_aload_n F rfl e_X10_starts1_72 ?_
    refine r_getC F e_X10_starts1_73 fl_X10_59 h5198 ((fld_eq (g5199 _ (by omega))).trans ((fld_eq (h5193.2 c (by rw [show kC c c = 1 from kC_at (k := 0) (by decide)]; decide))).trans ((fld_eq (g5186 _ (by omega))).trans f5183))) ?_
    refine m_iload_n F rfl e_X10_starts1_76 ?_
    refine m_bipush F (v := 6) (by decide) e_X10_starts1_77 ?_
    refine m_iadd F e_X10_starts1_79 ?_
    refine Wm.topE (w := nI (160 * n901 + 6)) (nI_add (160 * n901) 6) ?_
    refine r_sld F (j := 160 * n901 + 6) e_X10_starts1_80 h5198 (nI_clamp (by omega)) (vp_in_nI (by omega) (by decide)) (fun x5200 h5201 f5202 => ?_)
    refine r_sst F (g' := (⟨T, Z, u, h, P, L5187⟩ : RG)) (j := 160 * n901 + 8) e_X10_starts1_81 h5198 (by decide) (nI_clamp (by omega)) (vp_in_nI (by omega) (by decide)) (fun f q => EJ_same (EJ_lw (l := n901) (r := 8) (by omega) (by omega) (by omega)) q) (fun _ _ _ q => q) (fun σ5203 h5204 g5205 => ?_)
    refine m_aload_n F rfl e_X10_starts1_82 ?_
    refine r_getC F e_X10_starts1_83 fl_X10_59 h5204 ((fld_eq (g5205 _ (by omega))).trans ((fld_eq (g5199 _ (by omega))).trans ((fld_eq (h5193.2 c (by rw [show kC c c = 1 from kC_at (k := 0) (by decide)]; decide))).trans ((fld_eq (g5186 _ (by omega))).trans f5183)))) ?_
    refine m_iload_n F rfl e_X10_starts1_86 ?_
    refine m_bipush F (v := 7) (by decide) e_X10_starts1_87 ?_
    refine m_iadd F e_X10_starts1_89 ?_
    refine Wm.topE (w := nI (160 * n901 + 7)) (nI_add (160 * n901) 7) ?_
    refine m_aload_n F rfl e_X10_starts1_90 ?_
    refine r_getC F e_X10_starts1_91 fl_X10_59 h5204 ((fld_eq (g5205 _ (by omega))).trans ((fld_eq (g5199 _ (by omega))).trans ((fld_eq (h5193.2 c (by rw [show kC c c = 1 from kC_at (k := 0) (by decide)]; decide))).trans ((fld_eq (g5186 _ (by omega))).trans f5183)))) ?_
    refine m_iload_n F rfl e_X10_starts1_94 ?_
    refine m_bipush F (v := 6) (by decide) e_X10_starts1_95 ?_
    refine m_iadd F e_X10_starts1_97 ?_
    refine Wm.topE (w := nI (160 * n901 + 6)) (nI_add (160 * n901) 6) ?_
    refine r_sld F (j := 160 * n901 + 6) e_X10_starts1_98 h5204 (nI_clamp (by omega)) (vp_in_nI (by omega) (by decide)) (fun x5206 h5207 f5208 => ?_)
    refine m_lload_n F rfl e_X10_starts1_99 ?_
    refine m_ladd F e_X10_starts1_100 ?_
    refine Wm.topl (fun x5209 _ => ?_)
    refine r_sst F (g' := (⟨T, Z, u, h, P, L5187⟩ : RG)) (j := 160 * n901 + 7) e_X10_starts1_101 h5204 (by decide) (nI_clamp (by omega)) (vp_in_nI (by omega) (by decide)) (fun f q => EJ_same (EJ_lw (l := n901) (r := 7) (by omega) (by omega) (by omega)) q) (fun _ _ _ q => q) (fun σ5210 h5211 g5212 => ?_)
    refine m_aload_n F rfl e_X10_starts1_102 ?_
    refine r_getC F e_X10_starts1_103 fl_X10_59 h5211 ((fld_eq (g5212 _ (by omega))).trans ((fld_eq (g5205 _ (by omega))).trans ((fld_eq (g5199 _ (by omega))).trans ((fld_eq (h5193.2 c (by rw [show kC c c = 1 from kC_at (k := 0) (by decide)]; decide))).trans ((fld_eq (g5186 _ (by omega))).trans f5183))))) ?_
    refine m_iload_n F rfl e_X10_starts1_106 ?_
    refine m_iconst F (v := 3) (by decide) e_X10_starts1_107 ?_
    refine m_iadd F e_X10_starts1_108 ?_
    refine Wm.topE (w := nI (160 * n901 + 3)) (nI_add (160 * n901) 3) ?_
    refine m_aload_n F rfl e_X10_starts1_109 ?_
    have okb5216 : OKB L5187 := OKB.upd (hok.b) (l := n901) (by omega) (fun i hi => (oL5187 i hi)) (by have h9 := (hok.b).2 n901 (by omega); omega)
    refine r_callV F e_X10_starts1_110 (q_X10_indexNow (x_l X) V c T Z u h P L5187 _ _  h5211.1 (okb5216) hP ) cb_X10_indexNow ml_X10_260 im_X10_indexNow se_X10_indexNow h5211 rfl rfl (rest := [.int (nI (160 * n901 + 3)), .ref (c + 16)]) rfl (Nat.le_of_ble_eq_true rfl) ⟨Nat.le_of_ble_eq_true rfl, Nat.le_of_ble_eq_true rfl⟩ ⟨Nat.le_of_ble_eq_true rfl, Nat.le_of_ble_eq_true rfl⟩ (fun r σ5213 hp => ?_)
    obtain ⟨h5214, n5217, hn5217, gn5217, rfl⟩ := hp
    have h5215 := HS.trans h5211 h5214 (by decide)
    refine r_sst F (g' := (⟨T, Z, u, h, P, (updL L5187 n901 ((L5187 n901).1, (L5187 n901).2.1, n5217, (L5187 n901).2.2.2))⟩ : RG)) (j := 160 * n901 + 3) e_X10_starts1_113 h5215 (by decide) (nI_clamp (by omega)) (vp_in_nI (by omega) (by decide)) (fun f q => EJ_up (l := n901) (r := 3) (by omega) (by decide) q rfl (by intro r' h1 h2 y hy; revert hy; unfold EL; split <;> simp_all)) CR.row (fun σ5218 h5219 g5220 => ?_)
    obtain ⟨L5221, eL5221⟩ : ∃ L9, L9 = (updL L5187 n901 ((L5187 n901).1, (L5187 n901).2.1, n5217, (L5187 n901).2.2.2)) := ⟨_, rfl⟩
    rw [← eL5221] at h5219
    have fL5221 : L5221 n901 = ((L5187 n901).1, (L5187 n901).2.1, n5217, (L5187 n901).2.2.2) := by rw [eL5221]; exact if_pos rfl
    have fL52210 : (L5221 n901).1 = (L5187 n901).1 := by rw [fL5221]
    have fL52211 : (L5221 n901).2.1 = (L5187 n901).2.1 := by rw [fL5221]
    have fL52212 : (L5221 n901).2.2.1 = n5217 := by rw [fL5221]
    have fL52213 : (L5221 n901).2.2.2 = (L5187 n901).2.2.2 := by rw [fL5221]
    have oL5221 : ∀ i, i ≠ n901 → L5221 i = L5187 i := fun i hi => by rw [eL5221]; exact if_neg hi
    have pL5221 : (L5221 4).1 = (L5187 4).1 := by rw [oL5221 4 (by omega)]
    refine m_aload_n F rfl e_X10_starts1_114 ?_
    refine r_getC F e_X10_starts1_115 fl_X10_59 h5219 ((fld_eq (g5220 _ (by omega))).trans ((fld_eq (h5214.2 c (by rw [show kC c c = 1 from kC_at (k := 0) (by decide)]; decide))).trans ((fld_eq (g5212 _ (by omega))).trans ((fld_eq (g5205 _ (by omega))).trans ((fld_eq (g5199 _ (by omega))).trans ((fld_eq (h5193.2 c (by rw [show kC c c = 1 from kC_at (k := 0) (by decide)]; decide))).trans ((fld_eq (g5186 _ (by omega))).trans f5183))))))) ?_
    refine m_iload_n F rfl e_X10_starts1_118 ?_
    refine m_iconst F (v := 4) (by decide) e_X10_starts1_119 ?_
    refine m_iadd F e_X10_starts1_120 ?_
    refine Wm.topE (w := nI (160 * n901 + 4)) (nI_add (160 * n901) 4) ?_
    refine m_aload_n F rfl e_X10_starts1_121 ?_
    have okb5225 : OKB L5221 := OKB.upd (hok.b) (l := n901) (by omega) (fun i hi => (oL5221 i hi).trans (oL5187 i hi)) (by have h9 := (hok.b).2 n901 (by omega); omega)
    refine r_callV F e_X10_starts1_122 (q_X10_indexNow (x_l X) V c T Z u h P L5221 _ _  h5219.1 (okb5225) hP ) cb_X10_indexNow ml_X10_260 im_X10_indexNow se_X10_indexNow h5219 rfl rfl (rest := [.int (nI (160 * n901 + 4)), .ref (c + 16)]) rfl (Nat.le_of_ble_eq_true rfl) ⟨Nat.le_of_ble_eq_true rfl, Nat.le_of_ble_eq_true rfl⟩ ⟨Nat.le_of_ble_eq_true rfl, Nat.le_of_ble_eq_true rfl⟩ (fun r σ5222 hp => ?_)
    obtain ⟨h5223, n5226, hn5226, gn5226, rfl⟩ := hp
    have h5224 := HS.trans h5219 h5223 (by decide)
    refine r_sst F (g' := (⟨T, Z, u, h, P, L5221⟩ : RG)) (j := 160 * n901 + 4) e_X10_starts1_125 h5224 (by decide) (nI_clamp (by omega)) (vp_in_nI (by omega) (by decide)) (fun f q => EJ_same (EJ_lw (l := n901) (r := 4) (by omega) (by omega) (by omega)) q) (fun _ _ _ q => q) (fun σ5227 h5228 g5229 => ?_)
    refine m_aload_n F rfl e_X10_starts1_126 ?_
    refine m_iconst F (v := 0) (by decide) e_X10_starts1_127 ?_
    refine m_iload_n F rfl e_X10_starts1_128 ?_
    refine m_lload_n F rfl e_X10_starts1_129 ?_
    refine m_lneg F e_X10_starts1_130 ?_
    refine Wm.topl (fun x5230 _ => ?_)
    refine m_aload_n F rfl e_X10_starts1_131 ?_
    refine r_getC F e_X10_starts1_132 fl_X10_59 h5228 ((fld_eq (g5229 _ (by omega))).trans ((fld_eq (h5223.2 c (by rw [show kC c c = 1 from kC_at (k := 0) (by decide)]; decide))).trans ((fld_eq (g5220 _ (by omega))).trans ((fld_eq (h5214.2 c (by rw [show kC c c = 1 from kC_at (k := 0) (by decide)]; decide))).trans ((fld_eq (g5212 _ (by omega))).trans ((fld_eq (g5205 _ (by omega))).trans ((fld_eq (g5199 _ (by omega))).trans ((fld_eq (h5193.2 c (by rw [show kC c c = 1 from kC_at (k := 0) (by decide)]; decide))).trans ((fld_eq (g5186 _ (by omega))).trans f5183))))))))) ?_
    refine m_iload_n F rfl e_X10_starts1_135 ?_
    refine m_bipush F (v := 6) (by decide) e_X10_starts1_136 ?_
    refine m_iadd F e_X10_starts1_138 ?_
    refine Wm.topE (w := nI (160 * n901 + 6)) (nI_add (160 * n901) 6) ?_
    refine r_sld F (j := 160 * n901 + 6) e_X10_starts1_139 h5228 (nI_clamp (by omega)) (vp_in_nI (by omega) (by decide)) (fun x5231 h5232 f5233 => ?_)
    refine m_lneg F e_X10_starts1_140 ?_
    refine Wm.topl (fun x5234 _ => ?_)
    refine m_aload_n F rfl e_X10_starts1_141 ?_
    refine r_getC F e_X10_starts1_142 fl_X10_59 h5228 ((fld_eq (g5229 _ (by omega))).trans ((fld_eq (h5223.2 c (by rw [show kC c c = 1 from kC_at (k := 0) (by decide)]; decide))).trans ((fld_eq (g5220 _ (by omega))).trans ((fld_eq (h5214.2 c (by rw [show kC c c = 1 from kC_at (k := 0) (by decide)]; decide))).trans ((fld_eq (g5212 _ (by omega))).trans ((fld_eq (g5205 _ (by omega))).trans ((fld_eq (g5199 _ (by omega))).trans ((fld_eq (h5193.2 c (by rw [show kC c c = 1 from kC_at (k := 0) (by decide)]; decide))).trans ((fld_eq (g5186 _ (by omega))).trans f5183))))))))) ?_
    refine m_iload_n F rfl e_X10_starts1_145 ?_
    refine m_bipush F (v := 7) (by decide) e_X10_starts1_146 ?_
    refine m_iadd F e_X10_starts1_148 ?_
    refine Wm.topE (w := nI (160 * n901 + 7)) (nI_add (160 * n901) 7) ?_
    refine r_sld F (j := 160 * n901 + 7) e_X10_starts1_149 h5228 (nI_clamp (by omega)) (vp_in_nI (by omega) (by decide)) (fun x5235 h5236 f5237 => ?_)
    refine m_lconst F (v := 0) (by decide) e_X10_starts1_150 ?_
    refine m_lconst F (v := 0) (by decide) e_X10_starts1_151 ?_
    refine m_lconst F (v := 0) (by decide) e_X10_starts1_152 ?_
    have okb5241 : OKB L5221 := OKB.upd (hok.b) (l := n901) (by omega) (fun i hi => (oL5221 i hi).trans (oL5187 i hi)) (by have h9 := (hok.b).2 n901 (by omega); omega)
    refine r_callV F e_X10_starts1_153 (q_X10_entry (x_l X) V c T Z u h P L5221 _ _ 0 (nI n901) x5230 x5234 x5235 0 0 0 h5228.1 (okb5241) hP ) cb_X10_entry ml_X10_253 im_X10_entry se_X10_entry h5228 rfl rfl (rest := []) rfl (Nat.le_of_ble_eq_true rfl) ⟨Nat.le_of_ble_eq_true rfl, Nat.le_of_ble_eq_true rfl⟩ ⟨Nat.le_of_ble_eq_true rfl, Nat.le_of_ble_eq_true rfl⟩ (fun r σ5238 hp => ?_)
    obtain ⟨h5239, rfl⟩ := hp
    have h5240 := HS.trans h5228 h5239 (by decide)
    have ok5242 : OKL P.n0 L5221 := OKL.upd hok (l := n901) (by omega) (fun i hi => (oL5221 i hi).trans (oL5187 i hi)) (by have h9 := hok.2 n901 (by omega); omega)
    exact m_vret F hQ e_X10_starts1_156 (⟨L5221, ok5242, (by first | omega | rfl | assumption), h5240, rfl⟩)
