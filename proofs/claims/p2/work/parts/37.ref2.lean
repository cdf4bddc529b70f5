set_option maxRecDepth 20000 in
theorem q_X10_indexNow (l : Launch) (V : VX) (c T Z u h : Nat) (P : NP) (L : Nat → LQ) (N : Nat) (σ : Mem)  (h0 : HR V c ⟨T, Z, u, h, P, L⟩ σ) (hob : OKB L) (hP : OKP P)  : Ct l V yX10_indexNow cX10_indexNow 1 (some .long) 0 0 0 N σ [.ref c] (fun r τ => HS V c (⟨T, Z, u, h, P, L⟩ : RG) [0, 1, 2, 3, 4, 5, 6, 7, 8, 9, 10, 11, 12, 13, 14, 15, 16, 17, 18, 19, 20, 21, 22, 23] σ τ ∧ ∃ n : Nat, n ≤ 2000 ∧ 1 ≤ n ∧ r = some (.long (lN n))) := by
  refine Ct.of (by decide) (Nat.le_of_ble_eq_true rfl) [(0, .ref c)] rfl (fun X hX F hQ => ?_)
  have hPP := hP
  unfold OKP at hPP
  have h1 : HS V c ⟨T, Z, u, h, P, L⟩ [0, 1, 2, 3, 4, 5, 6, 7, 8, 9, 10, 11, 12, 13, 14, 15, 16, 17, 18, 19, 20, 21, 22, 23] σ σ := HS.start h0
  refine m_aload_n F rfl e_X10_indexNow_0 ?_
  refine r_get F e_X10_indexNow_1 fl_X10_59 h1 rfl (fun v hv f4917 => ?_)
  obtain rfl : v = .ref (c + 16) := hv
  refine m_sipush F (v := 644) (by decide) e_X10_indexNow_4 ?_
  refine m_aload_n F rfl e_X10_indexNow_7 ?_
  refine r_getC F e_X10_indexNow_8 fl_X10_59 h1 (f4917) ?_
  refine m_sipush F (v := 744) (by decide) e_X10_indexNow_11 ?_
  refine r_sld F (j := 744) e_X10_indexNow_14 h1 (by decide) (by unfold vp_in; decide) (fun x4918 h4919 => ?_)
  have hl4920 := hob.1
  obtain rfl : x4918 = lN (L 4).1 := EJ_p.mp h4919
  refine m_l2i F e_X10_indexNow_15 ?_
  refine Wm.topE (w := nI ((L 4).1)) (lN_i ((L 4).1)) ?_
  refine m_iadd F e_X10_indexNow_16 ?_
  refine Wm.topE (w := nI (644 + (L 4).1)) (nI_add 644 ((L 4).1)) ?_
  refine r_sld F (j := 644 + (L 4).1) e_X10_indexNow_17 h1 (nI_clamp (by omega)) (vp_in_nI (by omega) (by decide)) (fun x4921 h4922 => ?_)
  obtain ⟨n4923, gn4923, hn4923, rfl⟩ := (EJ_i (p := (L 4).1) (by omega)).mp h4922
  exact m_lret F hQ e_X10_indexNow_18 (⟨h1, n4923, by omega, by omega, rfl⟩)
set_option maxRecDepth 20000 in
theorem q_X10_canBeLonger (l : Launch) (V : VX) (c T Z u h : Nat) (P : NP) (L : Nat → LQ) (N : Nat) (σ : Mem) (n901 : Nat) (n902 : Nat) (h0 : HR V c ⟨T, Z, u, h, P, L⟩ σ) (hob : OKB L) (hP : OKP P) (hn901 : n901 ≤ 3) (hn902 : n902 ≤ 24) : Ct l V yX10_canBeLonger cX10_canBeLonger 3 (some .boolean) 0 0 0 N σ [.ref c, .int (nI n901), .int (nI n902)] (fun r τ => HS V c (⟨T, Z, u, h, P, L⟩ : RG) [0, 1, 2, 3, 4, 5, 6, 7, 8, 9, 10, 11, 12, 13, 14, 15, 16, 17, 18, 19, 20, 21, 22, 23] σ τ ∧ (r = some (.int 0) ∨ (L n901).2.1 + n902 ≤ 72 ∧ r = some (.int 1))) := by
  refine Ct.of (by decide) (Nat.le_of_ble_eq_true rfl) [(0, .ref c), (1, .int (nI n901)), (2, .int (nI n902))] rfl (fun X hX F hQ => ?_)
  have hPP := hP
  unfold OKP at hPP
  have h1 : HS V c ⟨T, Z, u, h, P, L⟩ [0, 1, 2, 3, 4, 5, 6, 7, 8, 9, 10, 11, 12, 13, 14, 15, 16, 17, 18, 19, 20, 21, 22, 23] σ σ := HS.start h0
  refine m_aload_n F rfl e_X10_canBeLonger_0 ?_
  refine r_get F e_X10_canBeLonger_1 fl_X10_59 h1 rfl (fun v hv f4924 => ?_)
  obtain rfl : v = .ref (c + 16) := hv
  refine m_sipush F (v := 160) (by decide) e_X10_canBeLonger_4 ?_
  refine m_iload_n F rfl e_X10_canBeLonger_7 ?_
  refine m_imul F e_X10_canBeLonger_8 ?_
  refine Wm.topE (w := nI (160 * n901)) (pk_mul 160 n901) ?_
  refine m_iconst F (v := 1) (by decide) e_X10_canBeLonger_9 ?_
  refine m_iadd F e_X10_canBeLonger_10 ?_
  refine Wm.topE (w := nI (160 * n901 + 1)) (nI_add (160 * n901) 1) ?_
  refine r_sld F (j := 160 * n901 + 1) e_X10_canBeLonger_11 h1 (nI_clamp (by omega)) (vp_in_nI (by omega) (by decide)) (fun x4925 h4926 => ?_)
  have hl4927 := hob.2 n901 (by omega)
  obtain rfl : x4925 = lN (L n901).2.1 := (EJ_l (l := n901) (r := 1) (by omega) (by decide)).mp h4926
  refine m_iload_n F rfl e_X10_canBeLonger_12 ?_
  refine m_i2l F e_X10_canBeLonger_13 ?_
  refine Wm.toplE (w := lN n902) (nI_l (by omega)) ?_
  refine m_ladd F e_X10_canBeLonger_14 ?_
  refine Wm.toplE (w := lN (((L n901).2.1) + n902)) (lN_add ((L n901).2.1) n902) ?_
  refine m_ldc2 F kc_X10_304 e_X10_canBeLonger_15 ?_
  refine m_lcmp F e_X10_canBeLonger_18 ?_
  refine m_if_gt F e_X10_canBeLonger_19 (fun q19 => ?_) (fun q19 => ?_)
  · have c19 : (((L n901).2.1) + n902) > 72 := (lN_lt (a := 72) (b := (((L n901).2.1) + n902)) (by omega) (by omega)).mp ((lg_cmp_gt _ _).mp q19)
    refine m_iconst F (v := 0) (by decide) e_X10_canBeLonger_26 ?_
    exact m_zret F hQ e_X10_canBeLonger_27 (by decide) (⟨h1, Or.inl rfl⟩)
  · have c19 : (((L n901).2.1) + n902) ≤ 72 := by have hh := mt (fun h9 => (lg_cmp_gt (lN (((L n901).2.1) + n902)) (lN 72)).mpr ((lN_lt (a := 72) (b := (((L n901).2.1) + n902)) (by omega) (by omega)).mpr h9)) q19; omega
    refine m_iconst F (v := 1) (by decide) e_X10_canBeLonger_22 ?_
    refine m_goto F e_X10_canBeLonger_23 ?_
    exact m_zret F hQ e_X10_canBeLonger_27 (by decide) (⟨h1, Or.inr ⟨by omega, rfl⟩⟩)
set_option maxRecDepth 20000 in
theorem q_X10_remeasures (l : Launch) (V : VX) (c T Z u h : Nat) (P : NP) (L : Nat → LQ) (N : Nat) (σ : Mem) (n901 : Nat) (h0 : HR V c ⟨T, Z, u, h, P, L⟩ σ) (hob : OKB L) (hP : OKP P) (hn901 : n901 ≤ 3) : Ct l V yX10_remeasures cX10_remeasures 7 (some .long) 2 0 0 N σ [.ref c, .int (nI n901)] (fun r τ => HS V c (⟨T, Z, u, h, P, L⟩ : RG) [0, 1, 2, 3, 4, 5, 6, 7, 8, 9, 10, 11, 12, 13, 14, 15, 16, 18, 19, 20, 21, 22] σ τ ∧ ∃ x : Int64, r = some (.long x)) := by
  refine Ct.of (by decide) (Nat.le_of_ble_eq_true rfl) [(0, .ref c), (1, .int (nI n901))] rfl (fun X hX F hQ => ?_)
  have hPP := hP
  unfold OKP at hPP
  have h1 : HS V c ⟨T, Z, u, h, P, L⟩ [0, 1, 2, 3, 4, 5, 6, 7, 8, 9, 10, 11, 12, 13, 14, 15, 16, 18, 19, 20, 21, 22] σ σ := HS.start h0
  refine m_sipush F (v := 160) (by decide) e_X10_remeasures_0 ?_
  refine m_iload_n F rfl e_X10_remeasures_3 ?_
  refine m_imul F e_X10_remeasures_4 ?_
  refine Wm.topE (w := nI (160 * n901)) (pk_mul 160 n901) ?_
  refine m_istore_n F (lv' := [(2, .int (nI (160 * n901))), (0, .ref c), (1, .int (nI n901))]) e_X10_remeasures_5 (by decide) rfl ?_
  refine m_aload_n F rfl e_X10_remeasures_6 ?_
  refine m_iload_n F rfl e_X10_remeasures_7 ?_
  refine m_aload_n F rfl e_X10_remeasures_8 ?_
  refine r_get F e_X10_remeasures_9 fl_X10_59 h1 rfl (fun v hv f4928 => ?_)
  obtain rfl : v = .ref (c + 16) := hv
  refine m_iload_n F rfl e_X10_remeasures_12 ?_
  refine m_iconst F (v := 5) (by decide) e_X10_remeasures_13 ?_
  refine m_iadd F e_X10_remeasures_14 ?_
  refine Wm.topE (w := nI (160 * n901 + 5)) (nI_add (160 * n901) 5) ?_
  refine r_sld F (j := 160 * n901 + 5) e_X10_remeasures_15 h1 (nI_clamp (by omega)) (vp_in_nI (by omega) (by decide)) (fun x4929 h4930 => ?_)
  have hl4931 := hob.2 n901 (by omega)
  obtain rfl : x4929 = lN (L n901).2.2.2 := (EJ_l (l := n901) (r := 5) (by omega) (by decide)).mp h4930
  refine m_l2i F e_X10_remeasures_16 ?_
  refine Wm.topE (w := nI ((L n901).2.2.2)) (lN_i ((L n901).2.2.2)) ?_
  refine m_iconst F (v := 1) (by decide) e_X10_remeasures_17 ?_
  refine m_iadd F e_X10_remeasures_18 ?_
  refine Wm.topE (w := nI ((L n901).2.2.2 + 1)) (nI_add ((L n901).2.2.2) 1) ?_
  refine m_aload_n F rfl e_X10_remeasures_19 ?_
  refine r_getC F e_X10_remeasures_20 fl_X10_59 h1 (f4928) ?_
  refine m_iload_n F rfl e_X10_remeasures_23 ?_
  refine m_iconst F (v := 2) (by decide) e_X10_remeasures_24 ?_
  refine m_iadd F e_X10_remeasures_25 ?_
  refine Wm.topE (w := nI (160 * n901 + 2)) (nI_add (160 * n901) 2) ?_
  refine r_sld F (j := 160 * n901 + 2) e_X10_remeasures_26 h1 (nI_clamp (by omega)) (vp_in_nI (by omega) (by decide)) (fun x4932 h4933 => ?_)
  obtain ⟨n4934, hn4934, rfl⟩ : ∃ n : Nat, n ≤ 1000000 ∧ x4932 = lN n := (EJ_l (l := n901) (r := 2) (by omega) (by decide)).mp h4933
  refine m_ldc2 F kc_X10_245 e_X10_remeasures_27 ?_
  refine r_callV F e_X10_remeasures_30 (q_X10_worthBy (x_l X) V c T Z u h P L _ _ n901 ((L n901).2.2.2 + 1) n4934 (-1) h1.1 (hob) hP (by omega) (by omega) (by omega) (by first | omega | assumption | decide)) cb_X10_worthBy ml_X10_247 im_X10_worthBy se_X10_worthBy h1 rfl rfl (rest := []) rfl (Nat.le_of_ble_eq_true rfl) ⟨Nat.le_of_ble_eq_true rfl, Nat.le_of_ble_eq_true rfl⟩ ⟨Nat.le_of_ble_eq_true rfl, Nat.le_of_ble_eq_true rfl⟩ (fun r σ4935 hp => ?_)
  obtain ⟨h4936, x4938, rfl⟩ := hp
  have h4937 := HS.trans h1 h4936 (by decide)
  refine m_aload_n F rfl e_X10_remeasures_33 ?_
  refine r_getC F e_X10_remeasures_34 fl_X10_59 h4937 ((fld_eq (h4936.2 c (by rw [show kC c c = 1 from kC_at (k := 0) (by decide)]; decide))).trans f4928) ?_
  refine m_iload_n F rfl e_X10_remeasures_37 ?_
  refine m_bipush F (v := 6) (by decide) e_X10_remeasures_38 ?_
  refine m_iadd F e_X10_remeasures_40 ?_
  refine Wm.topE (w := nI (160 * n901 + 6)) (nI_add (160 * n901) 6) ?_
  refine r_sld F (j := 160 * n901 + 6) e_X10_remeasures_41 h4937 (nI_clamp (by omega)) (vp_in_nI (by omega) (by decide)) (fun x4939 h4940 => ?_)
  refine m_lsub F e_X10_remeasures_42 ?_
  refine Wm.topl (fun x4941 _ => ?_)
  refine m_lstore_n F (lv' := [(3, .long x4941), (2, .int (nI (160 * n901))), (0, .ref c), (1, .int (nI n901))]) e_X10_remeasures_43 (by decide) rfl ?_
  refine m_lload_n F rfl e_X10_remeasures_44 ?_
  refine m_aload_n F rfl e_X10_remeasures_45 ?_
  refine r_getC F e_X10_remeasures_46 fl_X10_59 h4937 ((fld_eq (h4936.2 c (by rw [show kC c c = 1 from kC_at (k := 0) (by decide)]; decide))).trans f4928) ?_
  refine m_iload_n F rfl e_X10_remeasures_49 ?_
  refine m_bipush F (v := 7) (by decide) e_X10_remeasures_50 ?_
  refine m_iadd F e_X10_remeasures_52 ?_
  refine Wm.topE (w := nI (160 * n901 + 7)) (nI_add (160 * n901) 7) ?_
  refine r_sld F (j := 160 * n901 + 7) e_X10_remeasures_53 h4937 (nI_clamp (by omega)) (vp_in_nI (by omega) (by decide)) (fun x4942 h4943 => ?_)
  refine m_lneg F e_X10_remeasures_54 ?_
  refine Wm.topl (fun x4944 _ => ?_)
  refine m_lcmp F e_X10_remeasures_55 ?_
  refine Wm.top (fun x4945 _ => ?_)
  refine m_if_ge F e_X10_remeasures_56 (fun q56 => ?_) (fun q56 => ?_)
  · obtain ⟨n4946, hn4946, rfl⟩ := nI_nn (x := x4945) (fun e => Int32.lt_irrefl (Int32.lt_of_lt_of_le e (Int32.le_trans (by decide) q56)))
    have c56 : n4946 ≥ 0 := (nI_leI (a := 0) (b := n4946) (by omega) (by omega)).mp q56
    refine m_lload_n F rfl e_X10_remeasures_72 ?_
    refine m_lstore F (lv' := [(5, .long x4941), (3, .long x4941), (2, .int (nI (160 * n901))), (0, .ref c), (1, .int (nI n901))]) e_X10_remeasures_73 (by decide) rfl ?_
    refine m_aload_n F rfl e_X10_remeasures_75 ?_
    refine r_getC F e_X10_remeasures_76 fl_X10_59 h4937 ((fld_eq (h4936.2 c (by rw [show kC c c = 1 from kC_at (k := 0) (by decide)]; decide))).trans f4928) ?_
    refine m_iload_n F rfl e_X10_remeasures_79 ?_
    refine m_bipush F (v := 6) (by decide) e_X10_remeasures_80 ?_
    refine m_iadd F e_X10_remeasures_82 ?_
    refine Wm.topE (w := nI (160 * n901 + 6)) (nI_add (160 * n901) 6) ?_
    refine m_dup2_11 F rfl rfl e_X10_remeasures_83 ?_
    refine r_sld F (j := 160 * n901 + 6) e_X10_remeasures_84 h4937 (nI_clamp (by omega)) (vp_in_nI (by omega) (by decide)) (fun x4947 h4948 => ?_)
    refine m_lload_n F rfl e_X10_remeasures_85 ?_
    refine m_ladd F e_X10_remeasures_86 ?_
    refine Wm.topl (fun x4949 _ => ?_)
    refine r_sst F (g' := (⟨T, Z, u, h, P, L⟩ : RG)) (j := 160 * n901 + 6) e_X10_remeasures_87 h4937 (by decide) (nI_clamp (by omega)) (vp_in_nI (by omega) (by decide)) (fun f q => EJ_same (EJ_lw (l := n901) (r := 6) (by omega) (by omega) (by omega)) q) (fun _ _ _ q => q) (fun σ4950 h4951 g4952 => ?_)
    refine m_aload_n F rfl e_X10_remeasures_88 ?_
    refine r_getC F e_X10_remeasures_89 fl_X10_59 h4951 ((fld_eq (g4952 _ (by omega))).trans ((fld_eq (h4936.2 c (by rw [show kC c c = 1 from kC_at (k := 0) (by decide)]; decide))).trans f4928)) ?_
    refine m_iload_n F rfl e_X10_remeasures_92 ?_
    refine m_bipush F (v := 7) (by decide) e_X10_remeasures_93 ?_
    refine m_iadd F e_X10_remeasures_95 ?_
    refine Wm.topE (w := nI (160 * n901 + 7)) (nI_add (160 * n901) 7) ?_
    refine m_dup2_11 F rfl rfl e_X10_remeasures_96 ?_
    refine r_sld F (j := 160 * n901 + 7) e_X10_remeasures_97 h4951 (nI_clamp (by omega)) (vp_in_nI (by omega) (by decide)) (fun x4953 h4954 => ?_)
    refine m_lload F rfl e_X10_remeasures_98 ?_
    refine m_ladd F e_X10_remeasures_100 ?_
    refine Wm.topl (fun x4955 _ => ?_)
    refine r_sst F (g' := (⟨T, Z, u, h, P, L⟩ : RG)) (j := 160 * n901 + 7) e_X10_remeasures_101 h4951 (by decide) (nI_clamp (by omega)) (vp_in_nI (by omega) (by decide)) (fun f q => EJ_same (EJ_lw (l := n901) (r := 7) (by omega) (by omega) (by omega)) q) (fun _ _ _ q => q) (fun σ4956 h4957 g4958 => ?_)
    refine m_aload_n F rfl e_X10_remeasures_102 ?_
    refine r_getC F e_X10_remeasures_103 fl_X10_59 h4957 ((fld_eq (g4958 _ (by omega))).trans ((fld_eq (g4952 _ (by omega))).trans ((fld_eq (h4936.2 c (by rw [show kC c c = 1 from kC_at (k := 0) (by decide)]; decide))).trans f4928))) ?_
    refine m_iload_n F rfl e_X10_remeasures_106 ?_
    refine m_bipush F (v := 11) (by decide) e_X10_remeasures_107 ?_
    refine m_iadd F e_X10_remeasures_109 ?_
    refine Wm.topE (w := nI (160 * n901 + 11)) (nI_add (160 * n901) 11) ?_
    refine m_dup2_11 F rfl rfl e_X10_remeasures_110 ?_
    refine r_sld F (j := 160 * n901 + 11) e_X10_remeasures_111 h4957 (nI_clamp (by omega)) (vp_in_nI (by omega) (by decide)) (fun x4959 h4960 => ?_)
    refine m_lload_n F rfl e_X10_remeasures_112 ?_
    refine m_ladd F e_X10_remeasures_113 ?_
    refine Wm.topl (fun x4961 _ => ?_)
    refine r_sst F (g' := (⟨T, Z, u, h, P, L⟩ : RG)) (j := 160 * n901 + 11) e_X10_remeasures_114 h4957 (by decide) (nI_clamp (by omega)) (vp_in_nI (by omega) (by decide)) (fun f q => EJ_same (EJ_lw (l := n901) (r := 11) (by omega) (by omega) (by omega)) q) (fun _ _ _ q => q) (fun σ4962 h4963 g4964 => ?_)
    refine m_aload_n F rfl e_X10_remeasures_115 ?_
    refine m_iconst F (v := 2) (by decide) e_X10_remeasures_116 ?_
    refine m_iload_n F rfl e_X10_remeasures_117 ?_
    refine m_lconst F (v := 0) (by decide) e_X10_remeasures_118 ?_
    refine m_lload_n F rfl e_X10_remeasures_119 ?_
    refine m_lneg F e_X10_remeasures_120 ?_
    refine Wm.topl (fun x4965 _ => ?_)
    refine m_lload F rfl e_X10_remeasures_121 ?_
    refine m_lconst F (v := 0) (by decide) e_X10_remeasures_123 ?_
    refine m_lconst F (v := 0) (by decide) e_X10_remeasures_124 ?_
    refine m_lload_n F rfl e_X10_remeasures_125 ?_
    refine m_lload F rfl e_X10_remeasures_126 ?_
    refine m_lsub F e_X10_remeasures_128 ?_
    refine Wm.topl (fun x4966 _ => ?_)
    refine r_callV F e_X10_remeasures_129 (q_X10_entry (x_l X) V c T Z u h P L _ _ 2 (nI n901) 0 x4965 x4941 0 0 x4966 h4963.1 (hob) hP ) cb_X10_entry ml_X10_253 im_X10_entry se_X10_entry h4963 rfl rfl (rest := []) rfl (Nat.le_of_ble_eq_true rfl) ⟨Nat.le_of_ble_eq_true rfl, Nat.le_of_ble_eq_true rfl⟩ ⟨Nat.le_of_ble_eq_true rfl, Nat.le_of_ble_eq_true rfl⟩ (fun r σ4967 hp => ?_)
    obtain ⟨h4968, rfl⟩ := hp
    have h4969 := HS.trans h4963 h4968 (by decide)
    refine m_lload_n F rfl e_X10_remeasures_132 ?_
    exact m_lret F hQ e_X10_remeasures_133 (⟨h4969, _, rfl⟩)
  · refine m_aload_n F rfl e_X10_remeasures_59 ?_
    refine r_getC F e_X10_remeasures_60 fl_X10_59 h4937 ((fld_eq (h4936.2 c (by rw [show kC c c = 1 from kC_at (k := 0) (by decide)]; decide))).trans f4928) ?_
    refine m_iload_n F rfl e_X10_remeasures_63 ?_
    refine m_bipush F (v := 7) (by decide) e_X10_remeasures_64 ?_
    refine m_iadd F e_X10_remeasures_66 ?_
    refine Wm.topE (w := nI (160 * n901 + 7)) (nI_add (160 * n901) 7) ?_
    refine r_sld F (j := 160 * n901 + 7) e_X10_remeasures_67 h4937 (nI_clamp (by omega)) (vp_in_nI (by omega) (by decide)) (fun x4970 h4971 => ?_)
    refine m_lneg F e_X10_remeasures_68 ?_
    refine Wm.topl (fun x4972 _ => ?_)
    refine m_goto F e_X10_remeasures_69 ?_
    refine m_lstore F (lv' := [(5, .long x4972), (3, .long x4941), (2, .int (nI (160 * n901))), (0, .ref c), (1, .int (nI n901))]) e_X10_remeasures_73 (by decide) rfl ?_
    refine m_aload_n F rfl e_X10_remeasures_75 ?_
    refine r_getC F e_X10_remeasures_76 fl_X10_59 h4937 ((fld_eq (h4936.2 c (by rw [show kC c c = 1 from kC_at (k := 0) (by decide)]; decide))).trans f4928) ?_
    refine m_iload_n F rfl e_X10_remeasures_79 ?_
    refine m_bipush F (v := 6) (by decide) e_X10_remeasures_80 ?_
    refine m_iadd F e_X10_remeasures_82 ?_
    refine Wm.topE (w := nI (160 * n901 + 6)) (nI_add (160 * n901) 6) ?_
    refine m_dup2_11 F rfl rfl e_X10_remeasures_83 ?_
    refine r_sld F (j := 160 * n901 + 6) e_X10_remeasures_84 h4937 (nI_clamp (by omega)) (vp_in_nI (by omega) (by decide)) (fun x4973 h4974 => ?_)
    refine m_lload_n F rfl e_X10_remeasures_85 ?_
    refine m_ladd F e_X10_remeasures_86 ?_
    refine Wm.topl (fun x4975 _ => ?_)
    refine r_sst F (g' := (⟨T, Z, u, h, P, L⟩ : RG)) (j := 160 * n901 + 6) e_X10_remeasures_87 h4937 (by decide) (nI_clamp (by omega)) (vp_in_nI (by omega) (by decide)) (fun f q => EJ_same (EJ_lw (l := n901) (r := 6) (by omega) (by omega) (by omega)) q) (fun _ _ _ q => q) (fun σ4976 h4977 g4978 => ?_)
    refine m_aload_n F rfl e_X10_remeasures_88 ?_
    refine r_getC F e_X10_remeasures_89 fl_X10_59 h4977 ((fld_eq (g4978 _ (by omega))).trans ((fld_eq (h4936.2 c (by rw [show kC c c = 1 from kC_at (k := 0) (by decide)]; decide))).trans f4928)) ?_
    refine m_iload_n F rfl e_X10_remeasures_92 ?_
    refine m_bipush F (v := 7) (by decide) e_X10_remeasures_93 ?_
    refine m_iadd F e_X10_remeasures_95 ?_
    refine Wm.topE (w := nI (160 * n901 + 7)) (nI_add (160 * n901) 7) ?_
    refine m_dup2_11 F rfl rfl e_X10_remeasures_96 ?_
    refine r_sld F (j := 160 * n901 + 7) e_X10_remeasures_97 h4977 (nI_clamp (by omega)) (vp_in_nI (by omega) (by decide)) (fun x4979 h4980 => ?_)
    refine m_lload F rfl e_X10_remeasures_98 ?_
    refine m_ladd F e_X10_remeasures_100 ?_
    refine Wm.topl (fun x4981 _ => ?_)
    refine r_sst F (g' := (⟨T, Z, u, h, P, L⟩ : RG)) (j := 160 * n901 + 7) e_X10_remeasures_101 h4977 (by decide) (nI_clamp (by omega)) (vp_in_nI (by omega) (by decide)) (fun f q => EJ_same (EJ_lw (l := n901) (r := 7) (by omega) (by omega) (by omega)) q) (fun _ _ _ q => q) (fun σ4982 h4983 g4984 => ?_)
    refine m_aload_n F rfl e_X10_remeasures_102 ?_
    refine r_getC F e_X10_remeasures_103 fl_X10_59 h4983 ((fld_eq (g4984 _ (by omega))).trans ((fld_eq (g4978 _ (by omega))).trans ((fld_eq (h4936.2 c (by rw [show kC c c = 1 from kC_at (k := 0) (by decide)]; decide))).trans f4928))) ?_
    refine m_iload_n F rfl e_X10_remeasures_106 ?_
    refine m_bipush F (v := 11) (by decide) e_X10_remeasures_107 ?_
    refine m_iadd F e_X10_remeasures_109 ?_
    refine Wm.topE (w := nI (160 * n901 + 11)) (nI_add (160 * n901) 11) ?_
    refine m_dup2_11 F rfl rfl e_X10_remeasures_110 ?_
    refine r_sld F (j := 160 * n901 + 11) e_X10_remeasures_111 h4983 (nI_clamp (by omega)) (vp_in_nI (by omega) (by decide)) (fun x4985 h4986 => ?_)
    refine m_lload_n F rfl e_X10_remeasures_112 ?_
    refine m_ladd F e_X10_remeasures_113 ?_
    refine Wm.topl (fun x4987 _ => ?_)
    refine r_sst F (g' := (⟨T, Z, u, h, P, L⟩ : RG)) (j := 160 * n901 + 11) e_X10_remeasures_114 h4983 (by decide) (nI_clamp (by omega)) (vp_in_nI (by omega) (by decide)) (fun f q => EJ_same (EJ_lw (l := n901) (r := 11) (by omega) (by omega) (by omega)) q) (fun _ _ _ q => q) (fun σ4988 h4989 g4990 => ?_)
    refine m_aload_n F rfl e_X10_remeasures_115 ?_
    refine m_iconst F (v := 2) (by decide) e_X10_remeasures_116 ?_
    refine m_iload_n F rfl e_X10_remeasures_117 ?_
    refine m_lconst F (v := 0) (by decide) e_X10_remeasures_118 ?_
    refine m_lload_n F rfl e_X10_remeasures_119 ?_
    refine m_lneg F e_X10_remeasures_120 ?_
    refine Wm.topl (fun x4991 _ => ?_)
    refine m_lload F rfl e_X10_remeasures_121 ?_
    refine m_lconst F (v := 0) (by decide) e_X10_remeasures_123 ?_
    refine m_lconst F (v := 0) (by decide) e_X10_remeasures_124 ?_
    refine m_lload_n F rfl e_X10_remeasures_125 ?_
    refine m_lload F rfl e_X10_remeasures_126 ?_
    refine m_lsub F e_X10_remeasures_128 ?_
    refine Wm.topl (fun x4992 _ => ?_)
    refine r_callV F e_X10_remeasures_129 (q_X10_entry (x_l X) V c T Z u h P L _ _ 2 (nI n901) 0 x4991 x4972 0 0 x4992 h4989.1 (hob) hP ) cb_X10_entry ml_X10_253 im_X10_entry se_X10_entry h4989 rfl rfl (rest := []) rfl (Nat.le_of_ble_eq_true rfl) ⟨Nat.le_of_ble_eq_true rfl, Nat.le_of_ble_eq_true rfl⟩ ⟨Nat.le_of_ble_eq_true rfl, Nat.le_of_ble_eq_true rfl⟩ (fun r σ4993 hp => ?_)
    obtain ⟨h4994, rfl⟩ := hp
    have h4995 := HS.trans h4989 h4994 (by decide)
    refine m_lload_n F rfl e_X10_remeasures_132 ?_
    exact m_lret F hQ e_X10_remeasures_133 (⟨h4995, _, rfl⟩)
set_option maxRecDepth 20000 in
theorem lq_X10_indexes_19 {V : VX} {X : MX} {N : Nat} {σ : Mem} {c T Z u h : Nat} {P : NP} {L : Nat → LQ}  {n901 : Nat} {n902 : Nat} (F : Fx V X yX10_indexes cX10_indexes 6 none (rmd 0 0 0)) (hQ : Rt V X 0 0 N (fun r τ => HS V c (⟨T, Z, u, h, P, L⟩ : RG) [0, 1, 2, 3, 4, 5, 6, 7, 8, 9, 10, 11, 12, 13, 14, 15, 16, 18, 19, 20, 21, 22, 23] σ τ ∧ r = none)) (hob : OKB L) (hP : OKP P) (hn901 : n901 ≤ 3) (hn902 : n902 ≤ 2000) (hp0 : 1 ≤ (L n901).2.2.1) : ∀ (fuel : Nat) (i : Nat) (τ : Mem), HS V c (⟨T, Z, u, h, P, L⟩ : RG) [0, 1, 2, 3, 4, 5, 6, 7, 8, 9, 10, 11, 12, 13, 14, 15, 16, 18, 19, 20, 21, 22, 23] σ τ → i ≤ 72 → 72 - i < fuel → Wm V X 6 N τ 0 0 19 [(5, .int (nI i)), (4, .int (nI (160 * n901))), (0, .ref c), (1, .int (nI n901)), (2, .long (lN n902))] [] := by
  intro fuel
  induction fuel with
  | zero => intros; rename_i hm; exact absurd hm (Nat.not_lt_zero _)
  | succ fuel ih =>
    intro i τ h1 hi hm
    have hPP := hP
    unfold OKP at hPP
    refine m_iload F rfl e_X10_indexes_19 ?_
    refine m_i2l F e_X10_indexes_21 ?_
    refine Wm.toplE (w := lN i) (nI_l (by omega)) ?_
    refine m_aload_n F rfl e_X10_indexes_22 ?_
    refine r_get F e_X10_indexes_23 fl_X10_59 h1 rfl (fun v hv f4996 => ?_)
    obtain rfl : v = .ref (c + 16) := hv
    refine m_iload F rfl e_X10_indexes_26 ?_
    refine m_iconst F (v := 1) (by decide) e_X10_indexes_28 ?_
    refine m_iadd F e_X10_indexes_29 ?_
    refine Wm.topE (w := nI (160 * n901 + 1)) (nI_add (160 * n901) 1) ?_
    refine r_sld F (j := 160 * n901 + 1) e_X10_indexes_30 h1 (nI_clamp (by omega)) (vp_in_nI (by omega) (by decide)) (fun x4997 h4998 => ?_)
    have hl4999 := hob.2 n901 (by omega)
    obtain rfl : x4997 = lN (L n901).2.1 := (EJ_l (l := n901) (r := 1) (by omega) (by decide)).mp h4998
    refine m_lcmp F e_X10_indexes_31 ?_
    refine m_if_ge F e_X10_indexes_32 (fun q32 => ?_) (fun q32 => ?_)
    · have c32 : i ≥ ((L n901).2.1) := (lN_le (a := ((L n901).2.1)) (b := i) (by omega) (by omega)).mp ((lg_cmp_ge _ _).mp q32)
      refine m_aload_n F rfl e_X10_indexes_79 ?_
      refine r_getC F e_X10_indexes_80 fl_X10_59 h1 (f4996) ?_
      refine m_iload F rfl e_X10_indexes_83 ?_
      refine m_iconst F (v := 4) (by decide) e_X10_indexes_85 ?_
      refine m_iadd F e_X10_indexes_86 ?_
      refine Wm.topE (w := nI (160 * n901 + 4)) (nI_add (160 * n901) 4) ?_
      refine m_lload_n F rfl e_X10_indexes_87 ?_
      refine r_sst F (g' := (⟨T, Z, u, h, P, L⟩ : RG)) (j := 160 * n901 + 4) e_X10_indexes_88 h1 (by decide) (nI_clamp (by omega)) (vp_in_nI (by omega) (by decide)) (fun f q => EJ_same (EJ_lw (l := n901) (r := 4) (by omega) (by omega) (by omega)) q) (fun _ _ _ q => q) (fun σ5000 h5001 g5002 => ?_)
      exact m_vret F hQ e_X10_indexes_89 (⟨h5001, rfl⟩)
    · have c32 : i < ((L n901).2.1) := by have hh := mt (fun h9 => (lg_cmp_ge (lN i) (lN ((L n901).2.1))).mpr ((lN_le (a := ((L n901).2.1)) (b := i) (by omega) (by omega)).mpr h9)) q32; omega
      refine m_aload_n F rfl e_X10_indexes_35 ?_
      refine r_getC F e_X10_indexes_36 fl_X10_59 h1 (f4996) ?_
      refine m_iload F rfl e_X10_indexes_39 ?_
      refine m_bipush F (v := 13) (by decide) e_X10_indexes_41 ?_
      refine m_iadd F e_X10_indexes_43 ?_
      refine Wm.topE (w := nI (160 * n901 + 13)) (nI_add (160 * n901) 13) ?_
      refine m_iload F rfl e_X10_indexes_44 ?_
      refine m_iadd F e_X10_indexes_46 ?_
      refine Wm.topE (w := nI ((160 * n901 + 13) + i)) (nI_add (160 * n901 + 13) i) ?_
      refine m_aload_n F rfl e_X10_indexes_47 ?_
      refine r_getC F e_X10_indexes_48 fl_X10_59 h1 (f4996) ?_
      refine m_iload F rfl e_X10_indexes_51 ?_
      refine m_bipush F (v := 85) (by decide) e_X10_indexes_53 ?_
      refine m_iadd F e_X10_indexes_55 ?_
      refine Wm.topE (w := nI (160 * n901 + 85)) (nI_add (160 * n901) 85) ?_
      refine m_iload F rfl e_X10_indexes_56 ?_
      refine m_iadd F e_X10_indexes_58 ?_
      refine Wm.topE (w := nI ((160 * n901 + 85) + i)) (nI_add (160 * n901 + 85) i) ?_
      refine r_sld F (j := (160 * n901 + 85) + i) e_X10_indexes_59 h1 (nI_clamp (by omega)) (vp_in_nI (by omega) (by decide)) (fun x5003 h5004 => ?_)
      refine m_lload_n F rfl e_X10_indexes_60 ?_
      refine m_lmul F e_X10_indexes_61 ?_
      refine Wm.topl (fun x5005 _ => ?_)
      refine m_aload_n F rfl e_X10_indexes_62 ?_
      refine r_getC F e_X10_indexes_63 fl_X10_59 h1 (f4996) ?_
      refine m_iload F rfl e_X10_indexes_66 ?_
      refine m_iconst F (v := 3) (by decide) e_X10_indexes_68 ?_
      refine m_iadd F e_X10_indexes_69 ?_
      refine Wm.topE (w := nI (160 * n901 + 3)) (nI_add (160 * n901) 3) ?_
      refine r_sld F (j := 160 * n901 + 3) e_X10_indexes_70 h1 (nI_clamp (by omega)) (vp_in_nI (by omega) (by decide)) (fun x5006 h5007 => ?_)
      have hl5008 := hob.2 n901 (by omega)
      obtain rfl : x5006 = lN (L n901).2.2.1 := (EJ_l (l := n901) (r := 3) (by omega) (by decide)).mp h5007
      refine m_ldiv F (lN_ne0 (by omega) (by omega)) e_X10_indexes_71 ?_
      refine Wm.topl (fun x5009 _ => ?_)
      refine r_sst F (g' := (⟨T, Z, u, h, P, L⟩ : RG)) (j := (160 * n901 + 13) + i) e_X10_indexes_72 h1 (by decide) (nI_clamp (by omega)) (vp_in_nI (by omega) (by decide)) (fun f q => EJ_same (EJ_lw (l := n901) (r := 13 + i) (by omega) (by omega) (by omega)) q) (fun _ _ _ q => q) (fun σ5010 h5011 g5012 => ?_)
      refine m_iinc F (v := nI (i + 1)) (lv' := [(5, .int (nI (i + 1))), (4, .int (nI (160 * n901))), (0, .ref c), (1, .int (nI n901)), (2, .long (lN n902))]) e_X10_indexes_73 rfl (nI_add i 1) (by decide) rfl ?_
      refine m_goto F e_X10_indexes_76 ?_
      exact ih (i + 1) _ h5011 (by omega) (by omega)
set_option maxRecDepth 20000 in
theorem q_X10_indexes (l : Launch) (V : VX) (c T Z u h : Nat) (P : NP) (L : Nat → LQ) (N : Nat) (σ : Mem) (n901 : Nat) (n902 : Nat) (h0 : HR V c ⟨T, Z, u, h, P, L⟩ σ) (hob : OKB L) (hP : OKP P) (hn901 : n901 ≤ 3) (hn902 : n902 ≤ 2000) (hp0 : 1 ≤ (L n901).2.2.1) : Ct l V yX10_indexes cX10_indexes 6 none 0 0 0 N σ [.ref c, .int (nI n901), .long (lN n902)] (fun r τ => HS V c (⟨T, Z, u, h, P, L⟩ : RG) [0, 1, 2, 3, 4, 5, 6, 7, 8, 9, 10, 11, 12, 13, 14, 15, 16, 18, 19, 20, 21, 22, 23] σ τ ∧ r = none) := by
  refine Ct.of (by decide) (Nat.le_of_ble_eq_true rfl) [(0, .ref c), (1, .int (nI n901)), (2, .long (lN n902))] rfl (fun X hX F hQ => ?_)
  have hPP := hP
  unfold OKP at hPP
  have h1 : HS V c ⟨T, Z, u, h, P, L⟩ [0, 1, 2, 3, 4, 5, 6, 7, 8, 9, 10, 11, 12, 13, 14, 15, 16, 18, 19, 20, 21, 22, 23] σ σ := HS.start h0
  refine m_sipush F (v := 160) (by decide) e_X10_indexes_0 ?_
  refine m_iload_n F rfl e_X10_indexes_3 ?_
  refine m_imul F e_X10_indexes_4 ?_
  refine Wm.topE (w := nI (160 * n901)) (pk_mul 160 n901) ?_
  refine m_istore F (lv' := [(4, .int (nI (160 * n901))), (0, .ref c), (1, .int (nI n901)), (2, .long (lN n902))]) e_X10_indexes_5 (by decide) rfl ?_
  refine m_aload_n F rfl e_X10_indexes_7 ?_
  refine r_get F e_X10_indexes_8 fl_X10_59 h1 rfl (fun v hv f5013 => ?_)
  obtain rfl : v = .ref (c + 16) := hv
  refine m_iload F rfl e_X10_indexes_11 ?_
  refine m_iconst F (v := 5) (by decide) e_X10_indexes_13 ?_
  refine m_iadd F e_X10_indexes_14 ?_
  refine Wm.topE (w := nI (160 * n901 + 5)) (nI_add (160 * n901) 5) ?_
  refine r_sld F (j := 160 * n901 + 5) e_X10_indexes_15 h1 (nI_clamp (by omega)) (vp_in_nI (by omega) (by decide)) (fun x5014 h5015 => ?_)
  have hl5016 := hob.2 n901 (by omega)
  obtain rfl : x5014 = lN (L n901).2.2.2 := (EJ_l (l := n901) (r := 5) (by omega) (by decide)).mp h5015
  refine m_l2i F e_X10_indexes_16 ?_
  refine Wm.topE (w := nI ((L n901).2.2.2)) (lN_i ((L n901).2.2.2)) ?_
  refine m_istore F (lv' := [(5, .int (nI ((L n901).2.2.2))), (4, .int (nI (160 * n901))), (0, .ref c), (1, .int (nI n901)), (2, .long (lN n902))]) e_X10_indexes_17 (by decide) rfl ?_
  exact lq_X10_indexes_19 F hQ hob hP hn901 hn902 hp0 (72 - ((L n901).2.2.2) + 1) ((L n901).2.2.2) _ h1 (by omega) (Nat.lt_succ_self _)
set_option maxRecDepth 20000 in
theorem q_X10_pays (l : Launch) (V : VX) (c T Z u h : Nat) (P : NP) (L : Nat → LQ) (N : Nat) (σ : Mem) (n901 : Nat) (h0 : HR V c ⟨T, Z, u, h, P, L⟩ σ) (hok : OKL P.n0 L) (hP : OKP P) (hn901 : n901 ≤ 3) (hp0 : (L n901).1 = 1) : Ct l V yX10_pays cX10_pays 14 none 1 0 0 N σ [.ref c, .int (nI n901)] (fun r τ => ∃ L9, OKL P.n0 L9 ∧ (L9 4).1 = (L 4).1 ∧ HS V c (⟨T, Z, u, h, P, L9⟩ : RG) [0, 1, 2, 3, 4, 5, 6, 7, 8, 9, 10, 11, 12, 13, 14, 15, 16, 18, 19, 20, 21, 22] σ τ ∧ r = none) := by
  refine Ct.of (by decide) (Nat.le_of_ble_eq_true rfl) [(0, .ref c), (1, .int (nI n901))] rfl (fun X hX F hQ => ?_)
  have hPP := hP
  unfold OKP at hPP
  have h1 : HS V c ⟨T, Z, u, h, P, L⟩ [0, 1, 2, 3, 4, 5, 6, 7, 8, 9, 10, 11, 12, 13, 14, 15, 16, 18, 19, 20, 21, 22] σ σ := HS.start h0
  have hl := hok.2 n901 (by omega)
  refine m_sipush F (v := 160) (by decide) e_X10_pays_0 ?_
  refine m_iload_n F rfl e_X10_pays_3 ?_
  refine m_imul F e_X10_pays_4 ?_
  refine Wm.topE (w := nI (160 * n901)) (pk_mul 160 n901) ?_
  refine m_istore_n F (lv' := [(2, .int (nI (160 * n901))), (0, .ref c), (1, .int (nI n901))]) e_X10_pays_5 (by decide) rfl ?_
  refine m_aload_n F rfl e_X10_pays_6 ?_
  refine r_get F e_X10_pays_7 fl_X10_59 h1 rfl (fun v hv f5017 => ?_)
  obtain rfl : v = .ref (c + 16) := hv
  refine m_iload_n F rfl e_X10_pays_10 ?_
  refine m_bipush F (v := 13) (by decide) e_X10_pays_11 ?_
  refine m_iadd F e_X10_pays_13 ?_
  refine Wm.topE (w := nI (160 * n901 + 13)) (nI_add (160 * n901) 13) ?_
  refine m_aload_n F rfl e_X10_pays_14 ?_
  refine r_getC F e_X10_pays_15 fl_X10_59 h1 (f5017) ?_
  refine m_iload_n F rfl e_X10_pays_18 ?_
  refine m_iconst F (v := 5) (by decide) e_X10_pays_19 ?_
  refine m_iadd F e_X10_pays_20 ?_
  refine Wm.topE (w := nI (160 * n901 + 5)) (nI_add (160 * n901) 5) ?_
  refine r_sld F (j := 160 * n901 + 5) e_X10_pays_21 h1 (nI_clamp (by omega)) (vp_in_nI (by omega) (by decide)) (fun x5018 h5019 => ?_)
  have hl5020 := hok.2 n901 (by omega)
  obtain rfl : x5018 = lN (L n901).2.2.2 := (EJ_l (l := n901) (r := 5) (by omega) (by decide)).mp h5019
  refine m_l2i F e_X10_pays_22 ?_
  refine Wm.topE (w := nI ((L n901).2.2.2)) (lN_i ((L n901).2.2.2)) ?_
  refine m_iadd F e_X10_pays_23 ?_
  refine Wm.topE (w := nI ((160 * n901 + 13) + ((L n901).2.2.2))) (nI_add (160 * n901 + 13) ((L n901).2.2.2)) ?_
  refine r_sld F (j := (160 * n901 + 13) + ((L n901).2.2.2)) e_X10_pays_24 h1 (nI_clamp (by omega)) (vp_in_nI (by omega) (by decide)) (fun x5021 h5022 => ?_)
  refine m_lstore_n F (lv' := [(3, .long x5021), (2, .int (nI (160 * n901))), (0, .ref c), (1, .int (nI n901))]) e_X10_pays_25 (by decide) rfl ?_
  refine m_aload_n F rfl e_X10_pays_26 ?_
  refine r_getC F e_X10_pays_27 fl_X10_59 h1 (f5017) ?_
  refine m_iload_n F rfl e_X10_pays_30 ?_
  refine m_bipush F (v := 6) (by decide) e_X10_pays_31 ?_
  refine m_iadd F e_X10_pays_33 ?_
  refine Wm.topE (w := nI (160 * n901 + 6)) (nI_add (160 * n901) 6) ?_
  refine r_sld F (j := 160 * n901 + 6) e_X10_pays_34 h1 (nI_clamp (by omega)) (vp_in_nI (by omega) (by decide)) (fun x5023 h5024 => ?_)
  refine m_lstore F (lv' := [(5, .long x5023), (3, .long x5021), (2, .int (nI (160 * n901))), (0, .ref c), (1, .int (nI n901))]) e_X10_pays_35 (by decide) rfl ?_
  refine m_aload_n F rfl e_X10_pays_37 ?_
  refine m_iload_n F rfl e_X10_pays_38 ?_
  refine r_callV F e_X10_pays_39 (q_X10_leftOn (x_l X) V c T Z u h P L _ _ n901 h1.1 (hok.b) hP (by omega) (by first | omega | assumption | decide)) cb_X10_left ml_X10_257 im_X10_left se_X10_left h1 rfl rfl (rest := []) rfl (Nat.le_of_ble_eq_true rfl) ⟨Nat.le_of_ble_eq_true rfl, Nat.le_of_ble_eq_true rfl⟩ ⟨Nat.le_of_ble_eq_true rfl, Nat.le_of_ble_eq_true rfl⟩ (fun r σ5025 hp => ?_)
  obtain ⟨h5026, rfl⟩ := hp
  have h5027 := HS.trans h1 h5026 (by decide)
  refine m_iconst F (v := 1) (by decide) e_X10_pays_42 ?_
  refine m_icmp_ne F e_X10_pays_43 (fun q43 => ?_) (fun q43 => ?_)
  · have c43 : ((L n901).2.1 - (L n901).2.2.2) ≠ 1 := by have hh := mt (nI_eq (a := ((L n901).2.1 - (L n901).2.2.2)) (b := 1) (by omega) (by omega)).mpr q43; omega
    refine m_iconst F (v := 0) (by decide) e_X10_pays_50 ?_
    refine m_istore F (lv' := [(7, .int 0), (5, .long x5023), (3, .long x5021), (2, .int (nI (160 * n901))), (0, .ref c), (1, .int (nI n901))]) e_X10_pays_51 (by decide) rfl ?_
    refine m_aload_n F rfl e_X10_pays_53 ?_
    refine m_iload_n F rfl e_X10_pays_54 ?_
    refine r_callV F e_X10_pays_55 (q_X10_isEarly (x_l X) V c T Z u h P L _ _ n901 h5027.1 (hok.b) hP (by omega)) cb_X10_isEarly ml_X10_236 im_X10_isEarly se_X10_isEarly h5027 rfl rfl (rest := []) rfl (Nat.le_of_ble_eq_true rfl) ⟨Nat.le_of_ble_eq_true rfl, Nat.le_of_ble_eq_true rfl⟩ ⟨Nat.le_of_ble_eq_true rfl, Nat.le_of_ble_eq_true rfl⟩ (fun r σ5028 hp => ?_)
    obtain ⟨h5029, n5031, hn5031, rfl⟩ := hp
    have h5030 := HS.trans h5027 h5029 (by decide)
    refine m_if_eq F e_X10_pays_58 (fun q58 => ?_) (fun q58 => ?_)
    · have c58 : n5031 = 0 := (nI_eq (a := n5031) (b := 0) (by omega) (by omega)).mp q58
      refine m_lload F rfl e_X10_pays_112 ?_
      refine m_lload F rfl e_X10_pays_114 ?_
      refine m_aload_n F rfl e_X10_pays_116 ?_
      refine r_getC F e_X10_pays_117 fl_X10_59 h5030 ((fld_eq (h5029.2 c (by rw [show kC c c = 1 from kC_at (k := 0) (by decide)]; decide))).trans ((fld_eq (h5026.2 c (by rw [show kC c c = 1 from kC_at (k := 0) (by decide)]; decide))).trans f5017)) ?_
      refine m_iload_n F rfl e_X10_pays_120 ?_
      refine m_iconst F (v := 2) (by decide) e_X10_pays_121 ?_
      refine m_iadd F e_X10_pays_122 ?_
      refine Wm.topE (w := nI (160 * n901 + 2)) (nI_add (160 * n901) 2) ?_
      refine r_sld F (j := 160 * n901 + 2) e_X10_pays_123 h5030 (nI_clamp (by omega)) (vp_in_nI (by omega) (by decide)) (fun x5032 h5033 => ?_)
      obtain ⟨n5034, hn5034, rfl⟩ : ∃ n : Nat, n ≤ 1000000 ∧ x5032 = lN n := (EJ_l (l := n901) (r := 2) (by omega) (by decide)).mp h5033
      refine m_lmul F e_X10_pays_124 ?_
      refine Wm.topl (fun x5035 _ => ?_)
      refine m_ldc2 F kc_X10_239 e_X10_pays_125 ?_
      refine m_callS F e_X10_pays_128 (q_X10_rounded (x_l X) V _ _ x5035 1000000 (by omega) (by first | omega | assumption | decide)) cb_X10_rounded ml_X10_241 sm_X10_rounded rfl (rest := [.long x5023]) rfl (Nat.le_of_ble_eq_true rfl) ⟨Nat.le_of_ble_eq_true rfl, Nat.le_of_ble_eq_true rfl⟩ ⟨Nat.le_of_ble_eq_true rfl, Nat.le_of_ble_eq_true rfl⟩ (k' := 0) (z' := 0) (N' := N) rfl rfl rfl (fun r σ5036 hp => ?_)
      obtain ⟨rfl, x5039, rfl⟩ := hp
      refine m_ladd F e_X10_pays_131 ?_
      refine Wm.topl (fun x5040 _ => ?_)
      refine m_lstore F (lv' := [(10, .long x5040), (7, .int 0), (5, .long x5023), (3, .long x5021), (2, .int (nI (160 * n901))), (0, .ref c), (1, .int (nI n901))]) e_X10_pays_132 (by decide) rfl ?_
      refine m_iload F rfl e_X10_pays_134 ?_
      refine m_if_ne F e_X10_pays_136 (fun q => absurd (by decide) q) (fun _ => ?_)
      refine m_lload_n F rfl e_X10_pays_139 ?_
      refine m_lload F rfl e_X10_pays_140 ?_
      refine m_lcmp F e_X10_pays_142 ?_
      refine Wm.top (fun x5041 _ => ?_)
      refine m_if_le F e_X10_pays_143 (fun q143 => ?_) (fun q143 => ?_)
      · refine m_lload F rfl e_X10_pays_150 ?_
        refine m_lload_n F rfl e_X10_pays_152 ?_
        refine m_lsub F e_X10_pays_153 ?_
        refine Wm.topl (fun x5042 _ => ?_)
        refine m_lstore F (lv' := [(8, .long x5042), (10, .long x5040), (7, .int 0), (5, .long x5023), (3, .long x5021), (2, .int (nI (160 * n901))), (0, .ref c), (1, .int (nI n901))]) e_X10_pays_154 (by decide) rfl ?_
        refine m_lload F rfl e_X10_pays_156 ?_
        refine m_lload F rfl e_X10_pays_158 ?_
        refine m_lsub F e_X10_pays_160 ?_
        refine Wm.topl (fun x5043 _ => ?_)
        refine m_lload_n F rfl e_X10_pays_161 ?_
        refine m_ladd F e_X10_pays_162 ?_
        refine Wm.topl (fun x5044 _ => ?_)
        refine m_lstore F (lv' := [(10, .long x5044), (8, .long x5042), (7, .int 0), (5, .long x5023), (3, .long x5021), (2, .int (nI (160 * n901))), (0, .ref c), (1, .int (nI n901))]) e_X10_pays_163 (by decide) rfl ?_
        refine m_aload_n F rfl e_X10_pays_165 ?_
        refine r_getC F e_X10_pays_166 fl_X10_59 h5030 ((fld_eq (h5029.2 c (by rw [show kC c c = 1 from kC_at (k := 0) (by decide)]; decide))).trans ((fld_eq (h5026.2 c (by rw [show kC c c = 1 from kC_at (k := 0) (by decide)]; decide))).trans f5017)) ?_
        refine m_iload_n F rfl e_X10_pays_169 ?_
        refine m_bipush F (v := 7) (by decide) e_X10_pays_170 ?_
        refine m_iadd F e_X10_pays_172 ?_
        refine Wm.topE (w := nI (160 * n901 + 7)) (nI_add (160 * n901) 7) ?_
        refine r_sld F (j := 160 * n901 + 7) e_X10_pays_173 h5030 (nI_clamp (by omega)) (vp_in_nI (by omega) (by decide)) (fun x5045 h5046 => ?_)
        refine m_aload_n F rfl e_X10_pays_174 ?_
        refine m_iload_n F rfl e_X10_pays_175 ?_
        refine r_callV F e_X10_pays_176 (q_X10_leftOn (x_l X) V c T Z u h P L _ _ n901 h5030.1 (hok.b) hP (by omega) (by first | omega | assumption | decide)) cb_X10_left ml_X10_257 im_X10_left se_X10_left h5030 rfl rfl (rest := [.long x5045]) rfl (Nat.le_of_ble_eq_true rfl) ⟨Nat.le_of_ble_eq_true rfl, Nat.le_of_ble_eq_true rfl⟩ ⟨Nat.le_of_ble_eq_true rfl, Nat.le_of_ble_eq_true rfl⟩ (fun r σ5047 hp => ?_)
        obtain ⟨h5048, rfl⟩ := hp
        have h5049 := HS.trans h5030 h5048 (by decide)
        refine m_i2l F e_X10_pays_179 ?_
        refine Wm.toplE (w := lN ((L n901).2.1 - (L n901).2.2.2)) (nI_l (by omega)) ?_
        refine m_ldiv F (lN_ne0 (by omega) (by omega)) e_X10_pays_180 ?_
        refine Wm.topl (fun x5050 _ => ?_)
        refine m_lstore F (lv' := [(12, .long x5050), (10, .long x5044), (8, .long x5042), (7, .int 0), (5, .long x5023), (3, .long x5021), (2, .int (nI (160 * n901))), (0, .ref c), (1, .int (nI n901))]) e_X10_pays_181 (by decide) rfl ?_
        refine m_aload_n F rfl e_X10_pays_183 ?_
        refine r_getC F e_X10_pays_184 fl_X10_59 h5049 ((fld_eq (h5048.2 c (by rw [show kC c c = 1 from kC_at (k := 0) (by decide)]; decide))).trans ((fld_eq (h5029.2 c (by rw [show kC c c = 1 from kC_at (k := 0) (by decide)]; decide))).trans ((fld_eq (h5026.2 c (by rw [show kC c c = 1 from kC_at (k := 0) (by decide)]; decide))).trans f5017))) ?_
        refine m_iload_n F rfl e_X10_pays_187 ?_
        refine m_bipush F (v := 6) (by decide) e_X10_pays_188 ?_
        refine m_iadd F e_X10_pays_190 ?_
        refine Wm.topE (w := nI (160 * n901 + 6)) (nI_add (160 * n901) 6) ?_
        refine m_lload F rfl e_X10_pays_191 ?_
        refine r_sst F (g' := (⟨T, Z, u, h, P, L⟩ : RG)) (j := 160 * n901 + 6) e_X10_pays_193 h5049 (by decide) (nI_clamp (by omega)) (vp_in_nI (by omega) (by decide)) (fun f q => EJ_same (EJ_lw (l := n901) (r := 6) (by omega) (by omega) (by omega)) q) (fun _ _ _ q => q) (fun σ5051 h5052 g5053 => ?_)
        refine m_aload_n F rfl e_X10_pays_194 ?_
        refine r_getC F e_X10_pays_195 fl_X10_59 h5052 ((fld_eq (g5053 _ (by omega))).trans ((fld_eq (h5048.2 c (by rw [show kC c c = 1 from kC_at (k := 0) (by decide)]; decide))).trans ((fld_eq (h5029.2 c (by rw [show kC c c = 1 from kC_at (k := 0) (by decide)]; decide))).trans ((fld_eq (h5026.2 c (by rw [show kC c c = 1 from kC_at (k := 0) (by decide)]; decide))).trans f5017)))) ?_
        refine m_iload_n F rfl e_X10_pays_198 ?_
        refine m_bipush F (v := 7) (by decide) e_X10_pays_199 ?_
        refine m_iadd F e_X10_pays_201 ?_
        refine Wm.topE (w := nI (160 * n901 + 7)) (nI_add (160 * n901) 7) ?_
        refine m_dup2_11 F rfl rfl e_X10_pays_202 ?_
        refine r_sld F (j := 160 * n901 + 7) e_X10_pays_203 h5052 (nI_clamp (by omega)) (vp_in_nI (by omega) (by decide)) (fun x5054 h5055 => ?_)
        refine m_lload F rfl e_X10_pays_204 ?_
        refine m_lsub F e_X10_pays_206 ?_
        refine Wm.topl (fun x5056 _ => ?_)
        refine r_sst F (g' := (⟨T, Z, u, h, P, L⟩ : RG)) (j := 160 * n901 + 7) e_X10_pays_207 h5052 (by decide) (nI_clamp (by omega)) (vp_in_nI (by omega) (by decide)) (fun f q => EJ_same (EJ_lw (l := n901) (r := 7) (by omega) (by omega) (by omega)) q) (fun _ _ _ q => q) (fun σ5057 h5058 g5059 => ?_)
        refine m_aload_n F rfl e_X10_pays_208 ?_
        refine r_getC F e_X10_pays_209 fl_X10_59 h5058 ((fld_eq (g5059 _ (by omega))).trans ((fld_eq (g5053 _ (by omega))).trans ((fld_eq (h5048.2 c (by rw [show kC c c = 1 from kC_at (k := 0) (by decide)]; decide))).trans ((fld_eq (h5029.2 c (by rw [show kC c c = 1 from kC_at (k := 0) (by decide)]; decide))).trans ((fld_eq (h5026.2 c (by rw [show kC c c = 1 from kC_at (k := 0) (by decide)]; decide))).trans f5017))))) ?_
        refine m_iload_n F rfl e_X10_pays_212 ?_
        refine m_bipush F (v := 9) (by decide) e_X10_pays_213 ?_
        refine m_iadd F e_X10_pays_215 ?_
        refine Wm.topE (w := nI (160 * n901 + 9)) (nI_add (160 * n901) 9) ?_
        refine m_dup2_11 F rfl rfl e_X10_pays_216 ?_
        refine r_sld F (j := 160 * n901 + 9) e_X10_pays_217 h5058 (nI_clamp (by omega)) (vp_in_nI (by omega) (by decide)) (fun x5060 h5061 => ?_)
        refine m_lload F rfl e_X10_pays_218 ?_
        refine m_ladd F e_X10_pays_220 ?_
        refine Wm.topl (fun x5062 _ => ?_)
        refine r_sst F (g' := (⟨T, Z, u, h, P, L⟩ : RG)) (j := 160 * n901 + 9) e_X10_pays_221 h5058 (by decide) (nI_clamp (by omega)) (vp_in_nI (by omega) (by decide)) (fun f q => EJ_same (EJ_lw (l := n901) (r := 9) (by omega) (by omega) (by omega)) q) (fun _ _ _ q => q) (fun σ5063 h5064 g5065 => ?_)
        refine m_aload_n F rfl e_X10_pays_222 ?_
        refine r_getC F e_X10_pays_223 fl_X10_59 h5064 ((fld_eq (g5065 _ (by omega))).trans ((fld_eq (g5059 _ (by omega))).trans ((fld_eq (g5053 _ (by omega))).trans ((fld_eq (h5048.2 c (by rw [show kC c c = 1 from kC_at (k := 0) (by decide)]; decide))).trans ((fld_eq (h5029.2 c (by rw [show kC c c = 1 from kC_at (k := 0) (by decide)]; decide))).trans ((fld_eq (h5026.2 c (by rw [show kC c c = 1 from kC_at (k := 0) (by decide)]; decide))).trans f5017)))))) ?_
        refine m_iload_n F rfl e_X10_pays_226 ?_
        refine m_bipush F (v := 10) (by decide) e_X10_pays_227 ?_
        refine m_iadd F e_X10_pays_229 ?_
        refine Wm.topE (w := nI (160 * n901 + 10)) (nI_add (160 * n901) 10) ?_
        refine m_dup2_11 F rfl rfl e_X10_pays_230 ?_
        refine r_sld F (j := 160 * n901 + 10) e_X10_pays_231 h5064 (nI_clamp (by omega)) (vp_in_nI (by omega) (by decide)) (fun x5066 h5067 => ?_)
        refine m_lload_n F rfl e_X10_pays_232 ?_
        refine m_ladd F e_X10_pays_233 ?_
        refine Wm.topl (fun x5068 _ => ?_)
        refine r_sst F (g' := (⟨T, Z, u, h, P, L⟩ : RG)) (j := 160 * n901 + 10) e_X10_pays_234 h5064 (by decide) (nI_clamp (by omega)) (vp_in_nI (by omega) (by decide)) (fun f q => EJ_same (EJ_lw (l := n901) (r := 10) (by omega) (by omega) (by omega)) q) (fun _ _ _ q => q) (fun σ5069 h5070 g5071 => ?_)
        refine m_aload_n F rfl e_X10_pays_235 ?_
        refine r_getC F e_X10_pays_236 fl_X10_59 h5070 ((fld_eq (g5071 _ (by omega))).trans ((fld_eq (g5065 _ (by omega))).trans ((fld_eq (g5059 _ (by omega))).trans ((fld_eq (g5053 _ (by omega))).trans ((fld_eq (h5048.2 c (by rw [show kC c c = 1 from kC_at (k := 0) (by decide)]; decide))).trans ((fld_eq (h5029.2 c (by rw [show kC c c = 1 from kC_at (k := 0) (by decide)]; decide))).trans ((fld_eq (h5026.2 c (by rw [show kC c c = 1 from kC_at (k := 0) (by decide)]; decide))).trans f5017))))))) ?_
        refine m_iload_n F rfl e_X10_pays_239 ?_
        refine m_iconst F (v := 5) (by decide) e_X10_pays_240 ?_
        refine m_iadd F e_X10_pays_241 ?_
        refine Wm.topE (w := nI (160 * n901 + 5)) (nI_add (160 * n901) 5) ?_
        refine m_dup2_11 F rfl rfl e_X10_pays_242 ?_
        refine r_sld F (j := 160 * n901 + 5) e_X10_pays_243 h5070 (nI_clamp (by omega)) (vp_in_nI (by omega) (by decide)) (fun x5072 h5073 => ?_)
        have hl5074 := hok.2 n901 (by omega)
        obtain rfl : x5072 = lN (L n901).2.2.2 := (EJ_l (l := n901) (r := 5) (by omega) (by decide)).mp h5073
        refine m_lconst F (v := 1) (by decide) e_X10_pays_244 ?_
        refine m_ladd F e_X10_pays_245 ?_
        refine Wm.toplE (w := lN ((L n901).2.2.2 + 1)) (lN_add ((L n901).2.2.2) 1) ?_
        refine r_sst F (g' := (⟨T, Z, u, h, P, (updL L n901 ((L n901).1, (L n901).2.1, (L n901).2.2.1, (L n901).2.2.2 + 1))⟩ : RG)) (j := 160 * n901 + 5) e_X10_pays_246 h5070 (by decide) (nI_clamp (by omega)) (vp_in_nI (by omega) (by decide)) (fun f q => EJ_up (l := n901) (r := 5) (by omega) (by decide) q rfl (by intro r' h1 h2 y hy; revert hy; unfold EL; split <;> simp_all)) CR.row (fun σ5075 h5076 g5077 => ?_)
        obtain ⟨L5078, eL5078⟩ : ∃ L9, L9 = (updL L n901 ((L n901).1, (L n901).2.1, (L n901).2.2.1, (L n901).2.2.2 + 1)) := ⟨_, rfl⟩
        rw [← eL5078] at h5076
        have fL5078 : L5078 n901 = ((L n901).1, (L n901).2.1, (L n901).2.2.1, (L n901).2.2.2 + 1) := by rw [eL5078]; exact if_pos rfl
        have fL50780 : (L5078 n901).1 = (L n901).1 := by rw [fL5078]
        have fL50781 : (L5078 n901).2.1 = (L n901).2.1 := by rw [fL5078]
        have fL50782 : (L5078 n901).2.2.1 = (L n901).2.2.1 := by rw [fL5078]
        have fL50783 : (L5078 n901).2.2.2 = (L n901).2.2.2 + 1 := by rw [fL5078]
        have oL5078 : ∀ i, i ≠ n901 → L5078 i = L i := fun i hi => by rw [eL5078]; exact if_neg hi
        have pL5078 : (L5078 4).1 = (L 4).1 := by rw [oL5078 4 (by omega)]
        refine m_aload_n F rfl e_X10_pays_247 ?_
        refine m_iconst F (v := 1) (by decide) e_X10_pays_248 ?_
        refine m_iload_n F rfl e_X10_pays_249 ?_
        refine m_lload_n F rfl e_X10_pays_250 ?_
        refine m_lneg F e_X10_pays_251 ?_
        refine Wm.topl (fun x5079 _ => ?_)
        refine m_lload F rfl e_X10_pays_252 ?_
        refine m_lload F rfl e_X10_pays_254 ?_
        refine m_lsub F e_X10_pays_256 ?_
        refine Wm.topl (fun x5080 _ => ?_)
        refine m_lload F rfl e_X10_pays_257 ?_
        refine m_lneg F e_X10_pays_259 ?_
        refine Wm.topl (fun x5081 _ => ?_)
        refine m_lload F rfl e_X10_pays_260 ?_
        refine m_lload F rfl e_X10_pays_262 ?_
        refine m_lconst F (v := 0) (by decide) e_X10_pays_264 ?_
        have okb5085 : OKB L5078 := OKB.upd (hok.b) (l := n901) (by omega) (fun i hi => (oL5078 i hi)) (by have h9 := (hok.b).2 n901 (by omega); omega)
        refine r_callV F e_X10_pays_265 (q_X10_entry (x_l X) V c T Z u h P L5078 _ _ 1 (nI n901) x5079 x5080 x5081 x5044 x5050 0 h5076.1 (okb5085) hP ) cb_X10_entry ml_X10_253 im_X10_entry se_X10_entry h5076 rfl rfl (rest := []) rfl (Nat.le_of_ble_eq_true rfl) ⟨Nat.le_of_ble_eq_true rfl, Nat.le_of_ble_eq_true rfl⟩ ⟨Nat.le_of_ble_eq_true rfl, Nat.le_of_ble_eq_true rfl⟩ (fun r σ5082 hp => ?_)
        obtain ⟨h5083, rfl⟩ := hp
        have h5084 := HS.trans h5076 h5083 (by decide)
        refine m_iload F rfl e_X10_pays_268 ?_
        refine m_if_eq F e_X10_pays_270 (fun _ => ?_) (fun q => absurd (by decide) q)
        have ok5086 : OKL P.n0 L5078 := OKL.upd hok (l := n901) (by omega) (fun i hi => (oL5078 i hi)) (by have h9 := hok.2 n901 (by omega); omega)
        exact m_vret F hQ e_X10_pays_284 (⟨L5078, ok5086, (by first | omega | rfl | assumption), h5084, rfl⟩)
      · obtain ⟨n5087, hn5087, rfl⟩ := nI_nn (x := x5041) (fun e => q143 (Int32.le_trans (Int32.le_of_lt e) (by decide)))
        have c143 : n5087 > 0 := by have hh := mt (nI_leI (a := n5087) (b := 0) (by omega) (by omega)).mpr q143; omega
        refine m_lconst F (v := 0) (by decide) e_X10_pays_146 ?_
        refine m_goto F e_X10_pays_147 ?_
        refine m_lstore F (lv' := [(8, .long 0), (10, .long x5040), (7, .int 0), (5, .long x5023), (3, .long x5021), (2, .int (nI (160 * n901))), (0, .ref c), (1, .int (nI n901))]) e_X10_pays_154 (by decide) rfl ?_
        refine m_lload F rfl e_X10_pays_156 ?_
        refine m_lload F rfl e_X10_pays_158 ?_
        refine m_lsub F e_X10_pays_160 ?_
        refine Wm.topl (fun x5088 _ => ?_)
        refine m_lload_n F rfl e_X10_pays_161 ?_
        refine m_ladd F e_X10_pays_162 ?_
        refine Wm.topl (fun x5089 _ => ?_)
        refine m_lstore F (lv' := [(10, .long x5089), (8, .long 0), (7, .int 0), (5, .long x5023), (3, .long x5021), (2, .int (nI (160 * n901))), (0, .ref c), (1, .int (nI n901))]) e_X10_pays_163 (by decide) rfl ?_
        refine m_aload_n F rfl e_X10_pays_165 ?_
        refine r_getC F e_X10_pays_166 fl_X10_59 h5030 ((fld_eq (h5029.2 c (by rw [show kC c c = 1 from kC_at (k := 0) (by decide)]; decide))).trans ((fld_eq (h5026.2 c (by rw [show kC c c = 1 from kC_at (k := 0) (by decide)]; decide))).trans f5017)) ?_
        refine m_iload_n F rfl e_X10_pays_169 ?_
        refine m_bipush F (v := 7) (by decide) e_X10_pays_170 ?_
        refine m_iadd F e_X10_pays_172 ?_
        refine Wm.topE (w := nI (160 * n901 + 7)) (nI_add (160 * n901) 7) ?_
        refine r_sld F (j := 160 * n901 + 7) e_X10_pays_173 h5030 (nI_clamp (by omega)) (vp_in_nI (by omega) (by decide)) (fun x5090 h5091 => ?_)
        refine m_aload_n F rfl e_X10_pays_174 ?_
        refine m_iload_n F rfl e_X10_pays_175 ?_
        refine r_callV F e_X10_pays_176 (q_X10_leftOn (x_l X) V c T Z u h P L _ _ n901 h5030.1 (hok.b) hP (by omega) (by first | omega | assumption | decide)) cb_X10_left ml_X10_257 im_X10_left se_X10_left h5030 rfl rfl (rest := [.long x5090]) rfl (Nat.le_of_ble_eq_true rfl) ⟨Nat.le_of_ble_eq_true rfl, Nat.le_of_ble_eq_true rfl⟩ ⟨Nat.le_of_ble_eq_true rfl, Nat.le_of_ble_eq_true rfl⟩ (fun r σ5092 hp => ?_)
        obtain ⟨h5093, rfl⟩ := hp
        have h5094 := HS.trans h5030 h5093 (by decide)
        refine m_i2l F e_X10_pays_179 ?_
        refine Wm.toplE (w := lN ((L n901).2.1 - (L n901).2.2.2)) (nI_l (by omega)) ?_
        refine m_ldiv F (lN_ne0 (by omega) (by omega)) e_X10_pays_180 ?_
        refine Wm.topl (fun x5095 _ => ?_)
        refine m_lstore F (lv' := [(12, .long x5095), (10, .long x5089), (8, .long 0), (7, .int 0), (5, .long x5023), (3, .long x5021), (2, .int (nI (160 * n901))), (0, .ref c), (1, .int (nI n901))]) e_X10_pays_181 (by decide) rfl ?_
        refine m_aload_n F rfl e_X10_pays_183 ?_
        refine r_getC F e_X10_pays_184 fl_X10_59 h5094 ((fld_eq (h5093.2 c (by rw [show kC c c = 1 from kC_at (k := 0) (by decide)]; decide))).trans ((fld_eq (h5029.2 c (by rw [show kC c c = 1 from kC_at (k := 0) (by decide)]; decide))).trans ((fld_eq (h5026.2 c (by rw [show kC c c = 1 from kC_at (k := 0) (by decide)]; decide))).trans f5017))) ?_
        refine m_iload_n F rfl e_X10_pays_187 ?_
        refine m_bipush F (v := 6) (by decide) e_X10_pays_188 ?_
        refine m_iadd F e_X10_pays_190 ?_
        refine Wm.topE (w := nI (160 * n901 + 6)) (nI_add (160 * n901) 6) ?_
        refine m_lload F rfl e_X10_pays_191 ?_
        refine r_sst F (g' := (⟨T, Z, u, h, P, L⟩ : RG)) (j := 160 * n901 + 6) e_X10_pays_193 h5094 (by decide) (nI_clamp (by omega)) (vp_in_nI (by omega) (by decide)) (fun f q => EJ_same (EJ_lw (l := n901) (r := 6) (by omega) (by omega) (by omega)) q) (fun _ _ _ q => q) (fun σ5096 h5097 g5098 => ?_)
        refine m_aload_n F rfl e_X10_pays_194 ?_
        refine r_getC F e_X10_pays_195 fl_X10_59 h5097 ((fld_eq (g5098 _ (by omega))).trans ((fld_eq (h5093.2 c (by rw [show kC c c = 1 from kC_at (k := 0) (by decide)]; decide))).trans ((fld_eq (h5029.2 c (by rw [show kC c c = 1 from kC_at (k := 0) (by decide)]; decide))).trans ((fld_eq (h5026.2 c (by rw [show kC c c = 1 from kC_at (k := 0) (by decide)]; decide))).trans f5017)))) ?_
        refine m_iload_n F rfl e_X10_pays_198 ?_
        refine m_bipush F (v := 7) (by decide) e_X10_pays_199 ?_
        refine m_iadd F e_X10_pays_201 ?_
        refine Wm.topE (w := nI (160 * n901 + 7)) (nI_add (160 * n901) 7) ?_
        refine m_dup2_11 F rfl rfl e_X10_pays_202 ?_
        refine r_sld F (j := 160 * n901 + 7) e_X10_pays_203 h5097 (nI_clamp (by omega)) (vp_in_nI (by omega) (by decide)) (fun x5099 h5100 => ?_)
        refine m_lload F rfl e_X10_pays_204 ?_
        refine m_lsub F e_X10_pays_206 ?_
        refine Wm.topl (fun x5101 _ => ?_)
        refine r_sst F (g' := (⟨T, Z, u, h, P, L⟩ : RG)) (j := 160 * n901 + 7) e_X10_pays_207 h5097 (by decide) (nI_clamp (by omega)) (vp_in_nI (by omega) (by decide)) (fun f q => EJ_same (EJ_lw (l := n901) (r := 7) (by omega) (by omega) (by omega)) q) (fun _ _ _ q => q) (fun σ5102 h5103 g5104 => ?_)
        refine m_aload_n F rfl e_X10_pays_208 ?_
        refine r_getC F e_X10_pays_209 fl_X10_59 h5103 ((fld_eq (g5104 _ (by omega))).trans ((fld_eq (g5098 _ (by omega))).trans ((fld_eq (h5093.2 c (by rw [show kC c c = 1 from kC_at (k := 0) (by decide)]; decide))).trans ((fld_eq (h5029.2 c (by rw [show kC c c = 1 from kC_at (k := 0) (by decide)]; decide))).trans ((fld_eq (h5026.2 c (by rw [show kC c c = 1 from kC_at (k := 0) (by decide)]; decide))).trans f5017))))) ?_
        refine m_iload_n F rfl e_X10_pays_212 ?_
        refine m_bipush F (v := 9) (by decide) e_X10_pays_213 ?_
        refine m_iadd F e_X10_pays_215 ?_
        refine Wm.topE (w := nI (160 * n901 + 9)) (nI_add (160 * n901) 9) ?_
        refine m_dup2_11 F rfl rfl e_X10_pays_216 ?_
        refine r_sld F (j := 160 * n901 + 9) e_X10_pays_217 h5103 (nI_clamp (by omega)) (vp_in_nI (by omega) (by decide)) (fun x5105 h5106 => ?_)
        refine m_lload F rfl e_X10_pays_218 ?_
        refine m_ladd F e_X10_pays_220 ?_
        refine Wm.topl (fun x5107 _ => ?_)
        refine r_sst F (g' := (⟨T, Z, u, h, P, L⟩ : RG)) (j := 160 * n901 + 9) e_X10_pays_221 h5103 (by decide) (nI_clamp (by omega)) (vp_in_nI (by omega) (by decide)) (fun f q => EJ_same (EJ_lw (l := n901) (r := 9) (by omega) (by omega) (by omega)) q) (fun _ _ _ q => q) (fun σ5108 h5109 g5110 => ?_)
        refine m_aload_n F rfl e_X10_pays_222 ?_
        refine r_getC F e_X10_pays_223 fl_X10_59 h5109 ((fld_eq (g5110 _ (by omega))).trans ((fld_eq (g5104 _ (by omega))).trans ((fld_eq (g5098 _ (by omega))).trans ((fld_eq (h5093.2 c (by rw [show kC c c = 1 from kC_at (k := 0) (by decide)]; decide))).trans ((fld_eq (h5029.2 c (by rw [show kC c c = 1 from kC_at (k := 0) (by decide)]; decide))).trans ((fld_eq (h5026.2 c (by rw [show kC c c = 1 from kC_at (k := 0) (by decide)]; decide))).trans f5017)))))) ?_
        refine m_iload_n F rfl e_X10_pays_226 ?_
        refine m_bipush F (v := 10) (by decide) e_X10_pays_227 ?_
        refine m_iadd F e_X10_pays_229 ?_
        refine Wm.topE (w := nI (160 * n901 + 10)) (nI_add (160 * n901) 10) ?_
        refine m_dup2_11 F rfl rfl e_X10_pays_230 ?_
        refine r_sld F (j := 160 * n901 + 10) e_X10_pays_231 h5109 (nI_clamp (by omega)) (vp_in_nI (by omega) (by decide)) (fun x5111 h5112 => ?_)
        refine m_lload_n F rfl e_X10_pays_232 ?_
        refine m_ladd F e_X10_pays_233 ?_
        refine Wm.topl (fun x5113 _ => ?_)
        refine r_sst F (g' := (⟨T, Z, u, h, P, L⟩ : RG)) (j := 160 * n901 + 10) e_X10_pays_234 h5109 (by decide) (nI_clamp (by omega)) (vp_in_nI (by omega) (by decide)) (fun f q => EJ_same (EJ_lw (l := n901) (r := 10) (by omega) (by omega) (by omega)) q) (fun _ _ _ q => q) (fun σ5114 h5115 g5116 => ?_)
        refine m_aload_n F rfl e_X10_pays_235 ?_
        refine r_getC F e_X10_pays_236 fl_X10_59 h5115 ((fld_eq (g5116 _ (by omega))).trans ((fld_eq (g5110 _ (by omega))).trans ((fld_eq (g5104 _ (by omega))).trans ((fld_eq (g5098 _ (by omega))).trans ((fld_eq (h5093.2 c (by rw [show kC c c = 1 from kC_at (k := 0) (by decide)]; decide))).trans ((fld_eq (h5029.2 c (by rw [show kC c c = 1 from kC_at (k := 0) (by decide)]; decide))).trans ((fld_eq (h5026.2 c (by rw [show kC c c = 1 from kC_at (k := 0) (by decide)]; decide))).trans f5017))))))) ?_
        refine m_iload_n F rfl e_X10_pays_239 ?_
        refine m_iconst F (v := 5) (by decide) e_X10_pays_240 ?_
        refine m_iadd F e_X10_pays_241 ?_
        refine Wm.topE (w := nI (160 * n901 + 5)) (nI_add (160 * n901) 5) ?_
        refine m_dup2_11 F rfl rfl e_X10_pays_242 ?_
        refine r_sld F (j := 160 * n901 + 5) e_X10_pays_243 h5115 (nI_clamp (by omega)) (vp_in_nI (by omega) (by decide)) (fun x5117 h5118 => ?_)
        have hl5119 := hok.2 n901 (by omega)
        obtain rfl : x5117 = lN (L n901).2.2.2 := (EJ_l (l := n901) (r := 5) (by omega) (by decide)).mp h5118
        refine m_lconst F (v := 1) (by decide) e_X10_pays_244 ?_
        refine m_ladd F e_X10_pays_245 ?_
        refine Wm.toplE (w := lN ((L n901).2.2.2 + 1)) (lN_add ((L n901).2.2.2) 1) ?_
        refine r_sst F (g' := (⟨T, Z, u, h, P, (updL L n901 ((L n901).1, (L n901).2.1, (L n901).2.2.1, (L n901).2.2.2 + 1))⟩ : RG)) (j := 160 * n901 + 5) e_X10_pays_246 h5115 (by decide) (nI_clamp (by omega)) (vp_in_nI (by omega) (by decide)) (fun f q => EJ_up (l := n901) (r := 5) (by omega) (by decide) q rfl (by intro r' h1 h2 y hy; revert hy; unfold EL; split <;> simp_all)) CR.row (fun σ5120 h5121 g5122 => ?_)
        obtain ⟨L5123, eL5123⟩ : ∃ L9, L9 = (updL L n901 ((L n901).1, (L n901).2.1, (L n901).2.2.1, (L n901).2.2.2 + 1)) := ⟨_, rfl⟩
        rw [← eL5123] at h5121
        have fL5123 : L5123 n901 = ((L n901).1, (L n901).2.1, (L n901).2.2.1, (L n901).2.2.2 + 1) := by rw [eL5123]; exact if_pos rfl
        have fL51230 : (L5123 n901).1 = (L n901).1 := by rw [fL5123]
        have fL51231 : (L5123 n901).2.1 = (L n901).2.1 := by rw [fL5123]
        have fL51232 : (L5123 n901).2.2.1 = (L n901).2.2.1 := by rw [fL5123]
        have fL51233 : (L5123 n901).2.2.2 = (L n901).2.2.2 + 1 := by rw [fL5123]
        have oL5123 : ∀ i, i ≠ n901 → L5123 i = L i := fun i hi => by rw [eL5123]; exact if_neg hi
        have pL5123 : (L5123 4).1 = (L 4).1 := by rw [oL5123 4 (by omega)]
        refine m_aload_n F rfl e_X10_pays_247 ?_
        refine m_iconst F (v := 1) (by decide) e_X10_pays_248 ?_
        refine m_iload_n F rfl e_X10_pays_249 ?_
        refine m_lload_n F rfl e_X10_pays_250 ?_
        refine m_lneg F e_X10_pays_251 ?_
        refine Wm.topl (fun x5124 _ => ?_)
        refine m_lload F rfl e_X10_pays_252 ?_
        refine m_lload F rfl e_X10_pays_254 ?_
        refine m_lsub F e_X10_pays_256 ?_
        refine Wm.topl (fun x5125 _ => ?_)
        refine m_lload F rfl e_X10_pays_257 ?_
        refine m_lneg F e_X10_pays_259 ?_
        refine Wm.topl (fun x5126 _ => ?_)
        refine m_lload F rfl e_X10_pays_260 ?_
        refine m_lload F rfl e_X10_pays_262 ?_
        refine m_lconst F (v := 0) (by decide) e_X10_pays_264 ?_
        have okb5130 : OKB L5123 := OKB.upd (hok.b) (l := n901) (by omega) (fun i hi => (oL5123 i hi)) (by have h9 := (hok.b).2 n901 (by omega); omega)
        refine r_callV F e_X10_pays_265 (q_X10_entry (x_l X) V c T Z u h P L5123 _ _ 1 (nI n901) x5124 x5125 x5126 x5089 x5095 0 h5121.1 (okb5130) hP ) cb_X10_entry ml_X10_253 im_X10_entry se_X10_entry h5121 rfl rfl (rest := []) rfl (Nat.le_of_ble_eq_true rfl) ⟨Nat.le_of_ble_eq_true rfl, Nat.le_of_ble_eq_true rfl⟩ ⟨Nat.le_of_ble_eq_true rfl, Nat.le_of_ble_eq_true rfl⟩ (fun r σ5127 hp => ?_)
        obtain ⟨h5128, rfl⟩ := hp
        have h5129 := HS.trans h5121 h5128 (by decide)
        refine m_iload F rfl e_X10_pays_268 ?_
        refine m_if_eq F e_X10_pays_270 (fun _ => ?_) (fun q => absurd (by decide) q)
        have ok5131 : OKL P.n0 L5123 := OKL.upd hok (l := n901) (by omega) (fun i hi => (oL5123 i hi)) (by have h9 := hok.2 n901 (by omega); omega)
        exact m_vret F hQ e_X10_pays_284 (⟨L5123, ok5131, (by first | omega | rfl | assumption), h5129, rfl⟩)
    · have c58 : n5031 ≠ 0 := by have hh := mt (nI_eq (a := n5031) (b := 0) (by omega) (by omega)).mpr q58; omega
      refine m_lload F rfl e_X10_pays_61 ?_
      refine m_lload_n F rfl e_X10_pays_63 ?_
      refine m_lcmp F e_X10_pays_64 ?_
      refine Wm.top (fun x5132 _ => ?_)
      refine m_if_le F e_X10_pays_65 (fun q65 => ?_) (fun q65 => ?_)
      · refine m_lconst F (v := 0) (by decide) e_X10_pays_75 ?_
        refine m_lstore F (lv' := [(10, .long 0), (7, .int 0), (5, .long x5023), (3, .long x5021), (2, .int (nI (160 * n901))), (0, .ref c), (1, .int (nI n901))]) e_X10_pays_76 (by decide) rfl ?_
        refine m_iload F rfl e_X10_pays_78 ?_
        refine m_if_eq F e_X10_pays_80 (fun _ => ?_) (fun q => absurd (by decide) q)
        refine m_lload F rfl e_X10_pays_87 ?_
        refine m_lload F rfl e_X10_pays_89 ?_
        refine m_aload_n F rfl e_X10_pays_91 ?_
        refine r_getC F e_X10_pays_92 fl_X10_59 h5030 ((fld_eq (h5029.2 c (by rw [show kC c c = 1 from kC_at (k := 0) (by decide)]; decide))).trans ((fld_eq (h5026.2 c (by rw [show kC c c = 1 from kC_at (k := 0) (by decide)]; decide))).trans f5017)) ?_
        refine m_iload_n F rfl e_X10_pays_95 ?_
        refine m_iconst F (v := 2) (by decide) e_X10_pays_96 ?_
        refine m_iadd F e_X10_pays_97 ?_
        refine Wm.topE (w := nI (160 * n901 + 2)) (nI_add (160 * n901) 2) ?_
        refine r_sld F (j := 160 * n901 + 2) e_X10_pays_98 h5030 (nI_clamp (by omega)) (vp_in_nI (by omega) (by decide)) (fun x5133 h5134 => ?_)
        obtain ⟨n5135, hn5135, rfl⟩ : ∃ n : Nat, n ≤ 1000000 ∧ x5133 = lN n := (EJ_l (l := n901) (r := 2) (by omega) (by decide)).mp h5134
        refine m_lmul F e_X10_pays_99 ?_
        refine Wm.topl (fun x5136 _ => ?_)
        refine m_ldc2 F kc_X10_239 e_X10_pays_100 ?_
        refine m_callS F e_X10_pays_103 (q_X10_rounded (x_l X) V _ _ x5136 1000000 (by omega) (by first | omega | assumption | decide)) cb_X10_rounded ml_X10_241 sm_X10_rounded rfl (rest := [.long 0]) rfl (Nat.le_of_ble_eq_true rfl) ⟨Nat.le_of_ble_eq_true rfl, Nat.le_of_ble_eq_true rfl⟩ ⟨Nat.le_of_ble_eq_true rfl, Nat.le_of_ble_eq_true rfl⟩ (k' := 0) (z' := 0) (N' := N) rfl rfl rfl (fun r σ5137 hp => ?_)
        obtain ⟨rfl, x5140, rfl⟩ := hp
        refine m_ladd F e_X10_pays_106 ?_
        refine Wm.topl (fun x5141 _ => ?_)
        refine m_lstore F (lv' := [(8, .long x5141), (10, .long 0), (7, .int 0), (5, .long x5023), (3, .long x5021), (2, .int (nI (160 * n901))), (0, .ref c), (1, .int (nI n901))]) e_X10_pays_107 (by decide) rfl ?_
        refine m_goto F e_X10_pays_109 ?_
        refine m_lload F rfl e_X10_pays_156 ?_
        refine m_lload F rfl e_X10_pays_158 ?_
        refine m_lsub F e_X10_pays_160 ?_
        refine Wm.topl (fun x5142 _ => ?_)
        refine m_lload_n F rfl e_X10_pays_161 ?_
        refine m_ladd F e_X10_pays_162 ?_
        refine Wm.topl (fun x5143 _ => ?_)
        refine m_lstore F (lv' := [(10, .long x5143), (8, .long x5141), (7, .int 0), (5, .long x5023), (3, .long x5021), (2, .int (nI (160 * n901))), (0, .ref c), (1, .int (nI n901))]) e_X10_pays_163 (by decide) rfl ?_
        refine m_aload_n F rfl e_X10_pays_165 ?_
        refine r_getC F e_X10_pays_166 fl_X10_59 h5030 ((fld_eq (h5029.2 c (by rw [show kC c c = 1 from kC_at (k := 0) (by decide)]; decide))).trans ((fld_eq (h5026.2 c (by rw [show kC c c = 1 from kC_at (k := 0) (by decide)]; decide))).trans f5017)) ?_
        refine m_iload_n F rfl e_X10_pays_169 ?_
        refine m_bipush F (v := 7) (by decide) e_X10_pays_170 ?_
        refine m_iadd F e_X10_pays_172 ?_
        refine Wm.topE (w := nI (160 * n901 + 7)) (nI_add (160 * n901) 7) ?_
        refine r_sld F (j := 160 * n901 + 7) e_X10_pays_173 h5030 (nI_clamp (by omega)) (vp_in_nI (by omega) (by decide)) (fun x5144 h5145 => ?_)
        refine m_aload_n F rfl e_X10_pays_174 ?_
        refine m_iload_n F rfl e_X10_pays_175 ?_
        refine r_callV F e_X10_pays_176 (q_X10_leftOn (x_l X) V c T Z u h P L _ _ n901 h5030.1 (hok.b) hP (by omega) (by first | omega | assumption | decide)) cb_X10_left ml_X10_257 im_X10_left se_X10_left h5030 rfl rfl (rest := [.long x5144]) rfl (Nat.le_of_ble_eq_true rfl) ⟨Nat.le_of_ble_eq_true rfl, Nat.le_of_ble_eq_true rfl⟩ ⟨Nat.le_of_ble_eq_true rfl, Nat.le_of_ble_eq_true rfl⟩ (fun r σ5146 hp => ?_)
        obtain ⟨h5147, rfl⟩ := hp
        have h5148 := HS.trans h5030 h5147 (by decide)
        refine m_i2l F e_X10_pays_179 ?_
        refine Wm.toplE (w := lN ((L n901).2.1 - (L n901).2.2.2)) (nI_l (by omega)) ?_
        refine m_ldiv F (lN_ne0 (by omega) (by omega)) e_X10_pays_180 ?_
        refine Wm.topl (fun x5149 _ => ?_)
        refine m_lstore F (lv' := [(12, .long x5149), (10, .long x5143), (8, .long x5141), (7, .int 0), (5, .long x5023), (3, .long x5021), (2, .int (nI (160 * n901))), (0, .ref c), (1, .int (nI n901))]) e_X10_pays_181 (by decide) rfl ?_
        refine m_aload_n F rfl e_X10_pays_183 ?_
        refine r_getC F e_X10_pays_184 fl_X10_59 h5148 ((fld_eq (h5147.2 c (by rw [show kC c c = 1 from kC_at (k := 0) (by decide)]; decide))).trans ((fld_eq (h5029.2 c (by rw [show kC c c = 1 from kC_at (k := 0) (by decide)]; decide))).trans ((fld_eq (h5026.2 c (by rw [show kC c c = 1 from kC_at (k := 0) (by decide)]; decide))).trans f5017))) ?_
        refine m_iload_n F rfl e_X10_pays_187 ?_
        refine m_bipush F (v := 6) (by decide) e_X10_pays_188 ?_
        refine m_iadd F e_X10_pays_190 ?_
        refine Wm.topE (w := nI (160 * n901 + 6)) (nI_add (160 * n901) 6) ?_
        refine m_lload F rfl e_X10_pays_191 ?_
        refine r_sst F (g' := (⟨T, Z, u, h, P, L⟩ : RG)) (j := 160 * n901 + 6) e_X10_pays_193 h5148 (by decide) (nI_clamp (by omega)) (vp_in_nI (by omega) (by decide)) (fun f q => EJ_same (EJ_lw (l := n901) (r := 6) (by omega) (by omega) (by omega)) q) (fun _ _ _ q => q) (fun σ5150 h5151 g5152 => ?_)
        refine m_aload_n F rfl e_X10_pays_194 ?_
        refine r_getC F e_X10_pays_195 fl_X10_59 h5151 ((fld_eq (g5152 _ (by omega))).trans ((fld_eq (h5147.2 c (by rw [show kC c c = 1 from kC_at (k := 0) (by decide)]; decide))).trans ((fld_eq (h5029.2 c (by rw [show kC c c = 1 from kC_at (k := 0) (by decide)]; decide))).trans ((fld_eq (h5026.2 c (by rw [show kC c c = 1 from kC_at (k := 0) (by decide)]; decide))).trans f5017)))) ?_
        refine m_iload_n F rfl e_X10_pays_198 ?_
        refine m_bipush F (v := 7) (by decide) e_X10_pays_199 ?_
        refine m_iadd F e_X10_pays_201 ?_
        refine Wm.topE (w := nI (160 * n901 + 7)) (nI_add (160 * n901) 7) ?_
        refine m_dup2_11 F rfl rfl e_X10_pays_202 ?_
        refine r_sld F (j := 160 * n901 + 7) e_X10_pays_203 h5151 (nI_clamp (by omega)) (vp_in_nI (by omega) (by decide)) (fun x5153 h5154 => ?_)
        refine m_lload F rfl e_X10_pays_204 ?_
        refine m_lsub F e_X10_pays_206 ?_
        refine Wm.topl (fun x5155 _ => ?_)
        refine r_sst F (g' := (⟨T, Z, u, h, P, L⟩ : RG)) (j := 160 * n901 + 7) e_X10_pays_207 h5151 (by decide) (nI_clamp (by omega)) (vp_in_nI (by omega) (by decide)) (fun f q => EJ_same (EJ_lw (l := n901) (r := 7) (by omega) (by omega) (by omega)) q) (fun _ _ _ q => q) (fun σ5156 h5157 g5158 => ?_)
        refine m_aload_n F rfl e_X10_pays_208 ?_
        refine r_getC F e_X10_pays_209 fl_X10_59 h5157 ((fld_eq (g5158 _ (by omega))).trans ((fld_eq (g5152 _ (by omega))).trans ((fld_eq (h5147.2 c (by rw [show kC c c = 1 from kC_at (k := 0) (by decide)]; decide))).trans ((fld_eq (h5029.2 c (by rw [show kC c c = 1 from kC_at (k := 0) (by decide)]; decide))).trans ((fld_eq (h5026.2 c (by rw [show kC c c = 1 from kC_at (k := 0) (by decide)]; decide))).trans f5017))))) ?_
        refine m_iload_n F rfl e_X10_pays_212 ?_
        refine m_bipush F (v := 9) (by decide) e_X10_pays_213 ?_
        refine m_iadd F e_X10_pays_215 ?_
        refine Wm.topE (w := nI (160 * n901 + 9)) (nI_add (160 * n901) 9) ?_
        refine m_dup2_11 F rfl rfl e_X10_pays_216 ?_
        refine r_sld F (j := 160 * n901 + 9) e_X10_pays_217 h5157 (nI_clamp (by omega)) (vp_in_nI (by omega) (by decide)) (fun x5159 h5160 => ?_)
        refine m_lload F rfl e_X10_pays_218 ?_
        refine m_ladd F e_X10_pays_220 ?_
        refine Wm.topl (fun x5161 _ => ?_)
        refine r_sst F (g' := (⟨T, Z, u, h, P, L⟩ : RG)) (j := 160 * n901 + 9) e_X10_pays_221 h5157 (by decide) (nI_clamp (by omega)) (vp_in_nI (by omega) (by decide)) (fun f q => EJ_same (EJ_lw (l := n901) (r := 9) (by omega) (by omega) (by omega)) q) (fun _ _ _ q => q) (fun σ5162 h5163 g5164 => ?_)
        refine m_aload_n F rfl e_X10_pays_222 ?_
        refine r_getC F e_X10_pays_223 fl_X10_59 h5163 ((fld_eq (g5164 _ (by omega))).trans ((fld_eq (g5158 _ (by omega))).trans ((fld_eq (g5152 _ (by omega))).trans ((fld_eq (h5147.2 c (by rw [show kC c c = 1 from kC_at (k := 0) (by decide)]; decide))).trans ((fld_eq (h5029.2 c (by rw [show kC c c = 1 from kC_at (k := 0) (by decide)]; decide))).trans ((fld_eq (h5026.2 c (by rw [show kC c c = 1 from kC_at (k := 0) (by decide)]; decide))).trans f5017)))))) ?_
        refine m_iload_n F rfl e_X10_pays_226 ?_
        refine m_bipush F (v := 10) (by decide) e_X10_pays_227 ?_
        refine m_iadd F e_X10_pays_229 ?_
        refine Wm.topE (w := nI (160 * n901 + 10)) (nI_add (160 * n901) 10) ?_
        refine m_dup2_11 F rfl rfl e_X10_pays_230 ?_
        refine r_sld F (j := 160 * n901 + 10) e_X10_pays_231 h5163 (nI_clamp (by omega)) (vp_in_nI (by omega) (by decide)) (fun x5165 h5166 => ?_)
        refine m_lload_n F rfl e_X10_pays_232 ?_
        refine m_ladd F e_X10_pays_233 ?_
        refine Wm.topl (fun x5167 _ => ?_)
        refine r_sst F (g' := (⟨T, Z, u, h, P, L⟩ : RG)) (j := 160 * n901 + 10) e_X10_pays_234 h5163 (by decide) (nI_clamp (by omega)) (vp_in_nI (by omega) (by decide)) (fun f q => EJ_same (EJ_lw (l := n901) (r := 10) (by omega) (by omega) (by omega)) q) (fun _ _ _ q => q) (fun σ5168 h5169 g5170 => ?_)
        refine m_aload_n F rfl e_X10_pays_235 ?_
        refine r_getC F e_X10_pays_236 fl_X10_59 h5169 ((fld_eq (g5170 _ (by omega))).trans ((fld_eq (g5164 _ (by omega))).trans ((fld_eq (g5158 _ (by omega))).trans ((fld_eq (g5152 _ (by omega))).trans ((fld_eq (h5147.2 c (by rw [show kC c c = 1 from kC_at (k := 0) (by decide)]; decide))).trans ((fld_eq (h5029.2 c (by rw [show kC c c = 1 from kC_at (k := 0) (by decide)]; decide))).trans ((fld_eq (h5026.2 c (by rw [show kC c c = 1 from kC_at (k := 0) (by decide)]; decide))).trans f5017))))))) ?_
        refine m_iload_n F rfl e_X10_pays_239 ?_
        refine m_iconst F (v := 5) (by decide) e_X10_pays_240 ?_
        refine m_iadd F e_X10_pays_241 ?_
        refine Wm.topE (w := nI (160 * n901 + 5)) (nI_add (160 * n901) 5) ?_
        refine m_dup2_11 F rfl rfl e_X10_pays_242 ?_
        refine r_sld F (j := 160 * n901 + 5) e_X10_pays_243 h5169 (nI_clamp (by omega)) (vp_in_nI (by omega) (by decide)) (fun x5171 h5172 => ?_)
        have hl5173 := hok.2 n901 (by omega)
        obtain rfl : x5171 = lN (L n901).2.2.2 := (EJ_l (l := n901) (r := 5) (by omega) (by decide)).mp h5172
        refine m_lconst F (v := 1) (by decide) e_X10_pays_244 ?_
        refine m_ladd F e_X10_pays_245 ?_
        refine Wm.toplE (w := lN ((L n901).2.2.2 + 1)) (lN_add ((L n901).2.2.2) 1) ?_
        refine r_sst F (g' := (⟨T, Z, u, h, P, (updL L n901 ((L n901).1, (L n901).2.1, (L n901).2.2.1, (L n901).2.2.2 + 1))⟩ : RG)) (j := 160 * n901 + 5) e_X10_pays_246 h5169 (by decide) (nI_clamp (by omega)) (vp_in_nI (by omega) (by decide)) (fun f q => EJ_up (l := n901) (r := 5) (by omega) (by decide) q rfl (by intro r' h1 h2 y hy; revert hy; unfold EL; split <;> simp_all)) CR.row (fun σ5174 h5175 g5176 => ?_)
        obtain ⟨L5177, eL5177⟩ : ∃ L9, L9 = (updL L n901 ((L n901).1, (L n901).2.1, (L n901).2.2.1, (L n901).2.2.2 + 1)) := ⟨_, rfl⟩
        rw [← eL5177] at h5175
        have fL5177 : L5177 n901 = ((L n901).1, (L n901).2.1, (L n901).2.2.1, (L n901).2.2.2 + 1) := by rw [eL5177]; exact if_pos rfl
        have fL51770 : (L5177 n901).1 = (L n901).1 := by rw [fL5177]
        have fL51771 : (L5177 n901).2.1 = (L n901).2.1 := by rw [fL5177]
        have fL51772 : (L5177 n901).2.2.1 = (L n901).2.2.1 := by rw [fL5177]
        have fL51773 : (L5177 n901).2.2.2 = (L n901).2.2.2 + 1 := by rw [fL5177]
        have oL5177 : ∀ i, i ≠ n901 → L5177 i = L i := fun i hi => by rw [eL5177]; exact if_neg hi
        have pL5177 : (L5177 4).1 = (L 4).1 := by rw [oL5177 4 (by omega)]
        refine m_aload_n F rfl e_X10_pays_247 ?_
        refine m_iconst F (v := 1) (by decide) e_X10_pays_248 ?_
        refine m_iload_n F rfl e_X10_pays_249 ?_
        refine m_lload_n F rfl e_X10_pays_250 ?_
        refine m_lneg F e_X10_pays_251 ?_
        refine Wm.topl (fun x5178 _ => ?_)
        refine m_lload F rfl e_X10_pays_252 ?_
        refine m_lload F rfl e_X10_pays_254 ?_
        refine m_lsub F e_X10_pays_256 ?_
        refine Wm.topl (fun x5179 _ => ?_)
        refine m_lload F rfl e_X10_pays_257 ?_
        refine m_lneg F e_X10_pays_259 ?_
        refine Wm.topl (fun x5180 _ => ?_)
        refine m_lload F rfl e_X10_pays_260 ?_
        refine m_lload F rfl e_X10_pays_262 ?_
        refine m_lconst F (v := 0) (by decide) e_X10_pays_264 ?_
        have okb5184 : OKB L5177 := OKB.upd (hok.b) (l := n901) (by omega) (fun i hi => (oL5177 i hi)) (by have h9 := (hok.b).2 n901 (by omega); omega)
        refine r_callV F e_X10_pays_265 (q_X10_entry (x_l X) V c T Z u h P L5177 _ _ 1 (nI n901) x5178 x5179 x5180 x5143 x5149 0 h5175.1 (okb5184) hP ) cb_X10_entry ml_X10_253 im_X10_entry se_X10_entry h5175 rfl rfl (rest := []) rfl (Nat.le_of_ble_eq_true rfl) ⟨Nat.le_of_ble_eq_true rfl, Nat.le_of_ble_eq_true rfl⟩ ⟨Nat.le_of_ble_eq_true rfl, Nat.le_of_ble_eq_true rfl⟩ (fun r σ5181 hp => ?_)
        obtain ⟨h5182, rfl⟩ := hp
        have h5183 := HS.trans h5175 h5182 (by decide)
        refine m_iload F rfl e_X10_pays_268 ?_
        refine m_if_eq F e_X10_pays_270 (fun _ => ?_) (fun q => absurd (by decide) q)
        have ok5185 : OKL P.n0 L5177 := OKL.upd hok (l := n901) (by omega) (fun i hi => (oL5177 i hi)) (by have h9 := hok.2 n901 (by omega); omega)
        exact m_vret F hQ e_X10_pays_284 (⟨L5177, ok5185, (by first | omega | rfl | assumption), h5183, rfl⟩)
      · obtain ⟨n5186, hn5186, rfl⟩ := nI_nn (x := x5132) (fun e => q65 (Int32.le_trans (Int32.le_of_lt e) (by decide)))
        have c65 : n5186 > 0 := by have hh := mt (nI_leI (a := n5186) (b := 0) (by omega) (by omega)).mpr q65; omega
        refine m_lload F rfl e_X10_pays_68 ?_
        refine m_lload_n F rfl e_X10_pays_70 ?_
        refine m_lsub F e_X10_pays_71 ?_
        refine Wm.topl (fun x5187 _ => ?_)
        refine m_goto F e_X10_pays_72 ?_
        refine m_lstore F (lv' := [(10, .long x5187), (7, .int 0), (5, .long x5023), (3, .long x5021), (2, .int (nI (160 * n901))), (0, .ref c), (1, .int (nI n901))]) e_X10_pays_76 (by decide) rfl ?_
        refine m_iload F rfl e_X10_pays_78 ?_
        refine m_if_eq F e_X10_pays_80 (fun _ => ?_) (fun q => absurd (by decide) q)
        refine m_lload F rfl e_X10_pays_87 ?_
        refine m_lload F rfl e_X10_pays_89 ?_
        refine m_aload_n F rfl e_X10_pays_91 ?_
        refine r_getC F e_X10_pays_92 fl_X10_59 h5030 ((fld_eq (h5029.2 c (by rw [show kC c c = 1 from kC_at (k := 0) (by decide)]; decide))).trans ((fld_eq (h5026.2 c (by rw [show kC c c = 1 from kC_at (k := 0) (by decide)]; decide))).trans f5017)) ?_
        refine m_iload_n F rfl e_X10_pays_95 ?_
        refine m_iconst F (v := 2) (by decide) e_X10_pays_96 ?_
        refine m_iadd F e_X10_pays_97 ?_
        refine Wm.topE (w := nI (160 * n901 + 2)) (nI_add (160 * n901) 2) ?_
        refine r_sld F (j := 160 * n901 + 2) e_X10_pays_98 h5030 (nI_clamp (by omega)) (vp_in_nI (by omega) (by decide)) (fun x5188 h5189 => ?_)
        obtain ⟨n5190, hn5190, rfl⟩ : ∃ n : Nat, n ≤ 1000000 ∧ x5188 = lN n := (EJ_l (l := n901) (r := 2) (by omega) (by decide)).mp h5189
        refine m_lmul F e_X10_pays_99 ?_
        refine Wm.topl (fun x5191 _ => ?_)
        refine m_ldc2 F kc_X10_239 e_X10_pays_100 ?_
        refine m_callS F e_X10_pays_103 (q_X10_rounded (x_l X) V _ _ x5191 1000000 (by omega) (by first | omega | assumption | decide)) cb_X10_rounded ml_X10_241 sm_X10_rounded rfl (rest := [.long x5187]) rfl (Nat.le_of_ble_eq_true rfl) ⟨Nat.le_of_ble_eq_true rfl, Nat.le_of_ble_eq_true rfl⟩ ⟨Nat.le_of_ble_eq_true rfl, Nat.le_of_ble_eq_true rfl⟩ (k' := 0) (z' := 0) (N' := N) rfl rfl rfl (fun r σ5192 hp => ?_)
        obtain ⟨rfl, x5195, rfl⟩ := hp
        refine m_ladd F e_X10_pays_106 ?_
        refine Wm.topl (fun x5196 _ => ?_)
        refine m_lstore F (lv' := [(8, .long x5196), (10, .long x5187), (7, .int 0), (5, .long x5023), (3, .long x5021), (2, .int (nI (160 * n901))), (0, .ref c), (1, .int (nI n901))]) e_X10_pays_107 (by decide) rfl ?_
        refine m_goto F e_X10_pays_109 ?_
        refine m_lload F rfl e_X10_pays_156 ?_
        refine m_lload F rfl e_X10_pays_158 ?_
        refine m_lsub F e_X10_pays_160 ?_
        refine Wm.topl (fun x5197 _ => ?_)
        refine m_lload_n F rfl e_X10_pays_161 ?_
        refine m_ladd F e_X10_pays_162 ?_
        refine Wm.topl (fun x5198 _ => ?_)
        refine m_lstore F (lv' := [(10, .long x5198), (8, .long x5196), (7, .int 0), (5, .long x5023), (3, .long x5021), (2, .int (nI (160 * n901))), (0, .ref c), (1, .int (nI n901))]) e_X10_pays_163 (by decide) rfl ?_
        refine m_aload_n F rfl e_X10_pays_165 ?_
        refine r_getC F e_X10_pays_166 fl_X10_59 h5030 ((fld_eq (h5029.2 c (by rw [show kC c c = 1 from kC_at (k := 0) (by decide)]; decide))).trans ((fld_eq (h5026.2 c (by rw [show kC c c = 1 from kC_at (k := 0) (by decide)]; decide))).trans f5017)) ?_
        refine m_iload_n F rfl e_X10_pays_169 ?_
        refine m_bipush F (v := 7) (by decide) e_X10_pays_170 ?_
        refine m_iadd F e_X10_pays_172 ?_
        refine Wm.topE (w := nI (160 * n901 + 7)) (nI_add (160 * n901) 7) ?_
        refine r_sld F (j := 160 * n901 + 7) e_X10_pays_173 h5030 (nI_clamp (by omega)) (vp_in_nI (by omega) (by decide)) (fun x5199 h5200 => ?_)
        refine m_aload_n F rfl e_X10_pays_174 ?_
        refine m_iload_n F rfl e_X10_pays_175 ?_
        refine r_callV F e_X10_pays_176 (q_X10_leftOn (x_l X) V c T Z u h P L _ _ n901 h5030.1 (hok.b) hP (by omega) (by first | omega | assumption | decide)) cb_X10_left ml_X10_257 im_X10_left se_X10_left h5030 rfl rfl (rest := [.long x5199]) rfl (Nat.le_of_ble_eq_true rfl) ⟨Nat.le_of_ble_eq_true rfl, Nat.le_of_ble_eq_true rfl⟩ ⟨Nat.le_of_ble_eq_true rfl, Nat.le_of_ble_eq_true rfl⟩ (fun r σ5201 hp => ?_)
        obtain ⟨h5202, rfl⟩ := hp
        have h5203 := HS.trans h5030 h5202 (by decide)
        refine m_i2l F e_X10_pays_179 ?_
        refine Wm.toplE (w := lN ((L n901).2.1 - (L n901).2.2.2)) (nI_l (by omega)) ?_
        refine m_ldiv F (lN_ne0 (by omega) (by omega)) e_X10_pays_180 ?_
        refine Wm.topl (fun x5204 _ => ?_)
        refine m_lstore F (lv' := [(12, .long x5204), (10, .long x5198), (8, .long x5196), (7, .int 0), (5, .long x5023), (3, .long x5021), (2, .int (nI (160 * n901))), (0, .ref c), (1, .int (nI n901))]) e_X10_pays_181 (by decide) rfl ?_
        refine m_aload_n F rfl e_X10_pays_183 ?_
        refine r_getC F e_X10_pays_184 fl_X10_59 h5203 ((fld_eq (h5202.2 c (by rw [show kC c c = 1 from kC_at (k := 0) (by decide)]; decide))).trans ((fld_eq (h5029.2 c (by rw [show kC c c = 1 from kC_at (k := 0) (by decide)]; decide))).trans ((fld_eq (h5026.2 c (by rw [show kC c c = 1 from kC_at (k := 0) (by decide)]; decide))).trans f5017))) ?_
        refine m_iload_n F rfl e_X10_pays_187 ?_
        refine m_bipush F (v := 6) (by decide) e_X10_pays_188 ?_
        refine m_iadd F e_X10_pays_190 ?_
        refine Wm.topE (w := nI (160 * n901 + 6)) (nI_add (160 * n901) 6) ?_
        refine m_lload F rfl e_X10_pays_191 ?_
        refine r_sst F (g' := (⟨T, Z, u, h, P, L⟩ : RG)) (j := 160 * n901 + 6) e_X10_pays_193 h5203 (by decide) (nI_clamp (by omega)) (vp_in_nI (by omega) (by decide)) (fun f q => EJ_same (EJ_lw (l := n901) (r := 6) (by omega) (by omega) (by omega)) q) (fun _ _ _ q => q) (fun σ5205 h5206 g5207 => ?_)
        refine m_aload_n F rfl e_X10_pays_194 ?_
        refine r_getC F e_X10_pays_195 fl_X10_59 h5206 ((fld_eq (g5207 _ (by omega))).trans ((fld_eq (h5202.2 c (by rw [show kC c c = 1 from kC_at (k := 0) (by decide)]; decide))).trans ((fld_eq (h5029.2 c (by rw [show kC c c = 1 from kC_at (k := 0) (by decide)]; decide))).trans ((fld_eq (h5026.2 c (by rw [show kC c c = 1 from kC_at (k := 0) (by decide)]; decide))).trans f5017)))) ?_
        refine m_iload_n F rfl e_X10_pays_198 ?_
        refine m_bipush F (v := 7) (by decide) e_X10_pays_199 ?_
        refine m_iadd F e_X10_pays_201 ?_
        refine Wm.topE (w := nI (160 * n901 + 7)) (nI_add (160 * n901) 7) ?_
        refine m_dup2_11 F rfl rfl e_X10_pays_202 ?_
        refine r_sld F (j := 160 * n901 + 7) e_X10_pays_203 h5206 (nI_clamp (by omega)) (vp_in_nI (by omega) (by decide)) (fun x5208 h5209 => ?_)
        refine m_lload F rfl e_X10_pays_204 ?_
        refine m_lsub F e_X10_pays_206 ?_
        refine Wm.topl (fun x5210 _ => ?_)
        refine r_sst F (g' := (⟨T, Z, u, h, P, L⟩ : RG)) (j := 160 * n901 + 7) e_X10_pays_207 h5206 (by decide) (nI_clamp (by omega)) (vp_in_nI (by omega) (by decide)) (fun f q => EJ_same (EJ_lw (l := n901) (r := 7) (by omega) (by omega) (by omega)) q) (fun _ _ _ q => q) (fun σ5211 h5212 g5213 => ?_)
        refine m_aload_n F rfl e_X10_pays_208 ?_
        refine r_getC F e_X10_pays_209 fl_X10_59 h5212 ((fld_eq (g5213 _ (by omega))).trans ((fld_eq (g5207 _ (by omega))).trans ((fld_eq (h5202.2 c (by rw [show kC c c = 1 from kC_at (k := 0) (by decide)]; decide))).trans ((fld_eq (h5029.2 c (by rw [show kC c c = 1 from kC_at (k := 0) (by decide)]; decide))).trans ((fld_eq (h5026.2 c (by rw [show kC c c = 1 from kC_at (k := 0) (by decide)]; decide))).trans f5017))))) ?_
        refine m_iload_n F rfl e_X10_pays_212 ?_
        refine m_bipush F (v := 9) (by decide) e_X10_pays_213 ?_
        refine m_iadd F e_X10_pays_215 ?_
        refine Wm.topE (w := nI (160 * n901 + 9)) (nI_add (160 * n901) 9) ?_
        refine m_dup2_11 F rfl rfl e_X10_pays_216 ?_
        refine r_sld F (j := 160 * n901 + 9) e_X10_pays_217 h5212 (nI_clamp (by omega)) (vp_in_nI (by omega) (by decide)) (fun x5214 h5215 => ?_)
        refine m_lload F rfl e_X10_pays_218 ?_
        refine m_ladd F e_X10_pays_220 ?_
        refine Wm.topl (fun x5216 _ => ?_)
        refine r_sst F (g' := (⟨T, Z, u, h, P, L⟩ : RG)) (j := 160 * n901 + 9) e_X10_pays_221 h5212 (by decide) (nI_clamp (by omega)) (vp_in_nI (by omega) (by decide)) (fun f q => EJ_same (EJ_lw (l := n901) (r := 9) (by omega) (by omega) (by omega)) q) (fun _ _ _ q => q) (fun σ5217 h5218 g5219 => ?_)
        refine m_aload_n F rfl e_X10_pays_222 ?_
        refine r_getC F e_X10_pays_223 fl_X10_59 h5218 ((fld_eq (g5219 _ (by omega))).trans ((fld_eq (g5213 _ (by omega))).trans ((fld_eq (g5207 _ (by omega))).trans ((fld_eq (h5202.2 c (by rw [show kC c c = 1 from kC_at (k := 0) (by decide)]; decide))).trans ((fld_eq (h5029.2 c (by rw [show kC c c = 1 from kC_at (k := 0) (by decide)]; decide))).trans ((fld_eq (h5026.2 c (by rw [show kC c c = 1 from kC_at (k := 0) (by decide)]; decide))).trans f5017)))))) ?_
        refine m_iload_n F rfl e_X10_pays_226 ?_
        refine m_bipush F (v := 10) (by decide) e_X10_pays_227 ?_
        refine m_iadd F e_X10_pays_229 ?_
        refine Wm.topE (w := nI (160 * n901 + 10)) (nI_add (160 * n901) 10) ?_
        refine m_dup2_11 F rfl rfl e_X10_pays_230 ?_
        refine r_sld F (j := 160 * n901 + 10) e_X10_pays_231 h5218 (nI_clamp (by omega)) (vp_in_nI (by omega) (by decide)) (fun x5220 h5221 => ?_)
        refine m_lload_n F rfl e_X10_pays_232 ?_
        refine m_ladd F e_X10_pays_233 ?_
        refine Wm.topl (fun x5222 _ => ?_)
        refine r_sst F (g' := (⟨T, Z, u, h, P, L⟩ : RG)) (j := 160 * n901 + 10) e_X10_pays_234 h5218 (by decide) (nI_clamp (by omega)) (vp_in_nI (by omega) (by decide)) (fun f q => EJ_same (EJ_lw (l := n901) (r := 10) (by omega) (by omega) (by omega)) q) (fun _ _ _ q => q) (fun σ5223 h5224 g5225 => ?_)
        refine m_aload_n F rfl e_X10_pays_235 ?_
        refine r_getC F e_X10_pays_236 fl_X10_59 h5224 ((fld_eq (g5225 _ (by omega))).trans ((fld_eq (g5219 _ (by omega))).trans ((fld_eq (g5213 _ (by omega))).trans ((fld_eq (g5207 _ (by omega))).trans ((fld_eq (h5202.2 c (by rw [show kC c c = 1 from kC_at (k := 0) (by decide)]; decide))).trans ((fld_eq (h5029.2 c (by rw [show kC c c = 1 from kC_at (k := 0) (by decide)]; decide))).trans ((fld_eq (h5026.2 c (by rw [show kC c c = 1 from kC_at (k := 0) (by decide)]; decide))).trans f5017))))))) ?_
        refine m_iload_n F rfl e_X10_pays_239 ?_
        refine m_iconst F (v := 5) (by decide) e_X10_pays_240 ?_
        refine m_iadd F e_X10_pays_241 ?_
        refine Wm.topE (w := nI (160 * n901 + 5)) (nI_add (160 * n901) 5) ?_
        refine m_dup2_11 F rfl rfl e_X10_pays_242 ?_
        refine r_sld F (j := 160 * n901 + 5) e_X10_pays_243 h5224 (nI_clamp (by omega)) (vp_in_nI (by omega) (by decide)) (fun x5226 h5227 => ?_)
        have hl5228 := hok.2 n901 (by omega)
        obtain rfl : x5226 = lN (L n901).2.2.2 := (EJ_l (l := n901) (r := 5) (by omega) (by decide)).mp h5227
        refine m_lconst F (v := 1) (by decide) e_X10_pays_244 ?_
        refine m_ladd F e_X10_pays_245 ?_
        refine Wm.toplE (w := lN ((L n901).2.2.2 + 1)) (lN_add ((L n901).2.2.2) 1) ?_
        refine r_sst F (g' := (⟨T, Z, u, h, P, (updL L n901 ((L n901).1, (L n901).2.1, (L n901).2.2.1, (L n901).2.2.2 + 1))⟩ : RG)) (j := 160 * n901 + 5) e_X10_pays_246 h5224 (by decide) (nI_clamp (by omega)) (vp_in_nI (by omega) (by decide)) (fun f q => EJ_up (l := n901) (r := 5) (by omega) (by decide) q rfl (by intro r' h1 h2 y hy; revert hy; unfold EL; split <;> simp_all)) CR.row (fun σ5229 h5230 g5231 => ?_)
        obtain ⟨L5232, eL5232⟩ : ∃ L9, L9 = (updL L n901 ((L n901).1, (L n901).2.1, (L n901).2.2.1, (L n901).2.2.2 + 1)) := ⟨_, rfl⟩
        rw [← eL5232] at h5230
        have fL5232 : L5232 n901 = ((L n901).1, (L n901).2.1, (L n901).2.2.1, (L n901).2.2.2 + 1) := by rw [eL5232]; exact if_pos rfl
        have fL52320 : (L5232 n901).1 = (L n901).1 := by rw [fL5232]
        have fL52321 : (L5232 n901).2.1 = (L n901).2.1 := by rw [fL5232]
        have fL52322 : (L5232 n901).2.2.1 = (L n901).2.2.1 := by rw [fL5232]
        have fL52323 : (L5232 n901).2.2.2 = (L n901).2.2.2 + 1 := by rw [fL5232]
        have oL5232 : ∀ i, i ≠ n901 → L5232 i = L i := fun i hi => by rw [eL5232]; exact if_neg hi
        have pL5232 : (L5232 4).1 = (L 4).1 := by rw [oL5232 4 (by omega)]
        refine m_aload_n F rfl e_X10_pays_247 ?_
        refine m_iconst F (v := 1) (by decide) e_X10_pays_248 ?_
        refine m_iload_n F rfl e_X10_pays_249 ?_
        refine m_lload_n F rfl e_X10_pays_250 ?_
        refine m_lneg F e_X10_pays_251 ?_
        refine Wm.topl (fun x5233 _ => ?_)
        refine m_lload F rfl e_X10_pays_252 ?_
        refine m_lload F rfl e_X10_pays_254 ?_
        refine m_lsub F e_X10_pays_256 ?_
        refine Wm.topl (fun x5234 _ => ?_)
        refine m_lload F rfl e_X10_pays_257 ?_
        refine m_lneg F e_X10_pays_259 ?_
        refine Wm.topl (fun x5235 _ => ?_)
        refine m_lload F rfl e_X10_pays_260 ?_
        refine m_lload F rfl e_X10_pays_262 ?_
        refine m_lconst F (v := 0) (by decide) e_X10_pays_264 ?_
        have okb5239 : OKB L5232 := OKB.upd (hok.b) (l := n901) (by omega) (fun i hi => (oL5232 i hi)) (by have h9 := (hok.b).2 n901 (by omega); omega)
        refine r_callV F e_X10_pays_265 (q_X10_entry (x_l X) V c T Z u h P L5232 _ _ 1 (nI n901) x5233 x5234 x5235 x5198 x5204 0 h5230.1 (okb5239) hP ) cb_X10_entry ml_X10_253 im_X10_entry se_X10_entry h5230 rfl rfl (rest := []) rfl (Nat.le_of_ble_eq_true rfl) ⟨Nat.le_of_ble_eq_true rfl, Nat.le_of_ble_eq_true rfl⟩ ⟨Nat.le_of_ble_eq_true rfl, Nat.le_of_ble_eq_true rfl⟩ (fun r σ5236 hp => ?_)
        obtain ⟨h5237, rfl⟩ := hp
        have h5238 := HS.trans h5230 h5237 (by decide)
        refine m_iload F rfl e_X10_pays_268 ?_
        refine m_if_eq F e_X10_pays_270 (fun _ => ?_) (fun q => absurd (by decide) q)
        have ok5240 : OKL P.n0 L5232 := OKL.upd hok (l := n901) (by omega) (fun i hi => (oL5232 i hi)) (by have h9 := hok.2 n901 (by omega); omega)
        exact m_vret F hQ e_X10_pays_284 (⟨L5232, ok5240, (by first | omega | rfl | assumption), h5238, rfl⟩)
  · have c43 : ((L n901).2.1 - (L n901).2.2.2) = 1 := (nI_eq (a := ((L n901).2.1 - (L n901).2.2.2)) (b := 1) (by omega) (by omega)).mp q43
    refine m_iconst F (v := 1) (by decide) e_X10_pays_46 ?_
    refine m_goto F e_X10_pays_47 ?_
    refine m_istore F (lv' := [(7, .int 1), (5, .long x5023), (3, .long x5021), (2, .int (nI (160 * n901))), (0, .ref c), (1, .int (nI n901))]) e_X10_pays_51 (by decide) rfl ?_
    refine m_aload_n F rfl e_X10_pays_53 ?_
    refine m_iload_n F rfl e_X10_pays_54 ?_
    refine r_callV F e_X10_pays_55 (q_X10_isEarly (x_l X) V c T Z u h P L _ _ n901 h5027.1 (hok.b) hP (by omega)) cb_X10_isEarly ml_X10_236 im_X10_isEarly se_X10_isEarly h5027 rfl rfl (rest := []) rfl (Nat.le_of_ble_eq_true rfl) ⟨Nat.le_of_ble_eq_true rfl, Nat.le_of_ble_eq_true rfl⟩ ⟨Nat.le_of_ble_eq_true rfl, Nat.le_of_ble_eq_true rfl⟩ (fun r σ5241 hp => ?_)
    obtain ⟨h5242, n5244, hn5244, rfl⟩ := hp
    have h5243 := HS.trans h5027 h5242 (by decide)
    refine m_if_eq F e_X10_pays_58 (fun q58 => ?_) (fun q58 => ?_)
    · have c58 : n5244 = 0 := (nI_eq (a := n5244) (b := 0) (by omega) (by omega)).mp q58
      refine m_lload F rfl e_X10_pays_112 ?_
      refine m_lload F rfl e_X10_pays_114 ?_
      refine m_aload_n F rfl e_X10_pays_116 ?_
      refine r_getC F e_X10_pays_117 fl_X10_59 h5243 ((fld_eq (h5242.2 c (by rw [show kC c c = 1 from kC_at (k := 0) (by decide)]; decide))).trans ((fld_eq (h5026.2 c (by rw [show kC c c = 1 from kC_at (k := 0) (by decide)]; decide))).trans f5017)) ?_
      refine m_iload_n F rfl e_X10_pays_120 ?_
      refine m_iconst F (v := 2) (by decide) e_X10_pays_121 ?_
      refine m_iadd F e_X10_pays_122 ?_
      refine Wm.topE (w := nI (160 * n901 + 2)) (nI_add (160 * n901) 2) ?_
      refine r_sld F (j := 160 * n901 + 2) e_X10_pays_123 h5243 (nI_clamp (by omega)) (vp_in_nI (by omega) (by decide)) (fun x5245 h5246 => ?_)
      obtain ⟨n5247, hn5247, rfl⟩ : ∃ n : Nat, n ≤ 1000000 ∧ x5245 = lN n := (EJ_l (l := n901) (r := 2) (by omega) (by decide)).mp h5246
      refine m_lmul F e_X10_pays_124 ?_
      refine Wm.topl (fun x5248 _ => ?_)
      refine m_ldc2 F kc_X10_239 e_X10_pays_125 ?_
      refine m_callS F e_X10_pays_128 (q_X10_rounded (x_l X) V _ _ x5248 1000000 (by omega) (by first | omega | assumption | decide)) cb_X10_rounded ml_X10_241 sm_X10_rounded rfl (rest := [.long x5023]) rfl (Nat.le_of_ble_eq_true rfl) ⟨Nat.le_of_ble_eq_true rfl, Nat.le_of_ble_eq_true rfl⟩ ⟨Nat.le_of_ble_eq_true rfl, Nat.le_of_ble_eq_true rfl⟩ (k' := 0) (z' := 0) (N' := N) rfl rfl rfl (fun r σ5249 hp => ?_)
      obtain ⟨rfl, x5252, rfl⟩ := hp
      refine m_ladd F e_X10_pays_131 ?_
      refine Wm.topl (fun x5253 _ => ?_)
      refine m_lstore F (lv' := [(10, .long x5253), (7, .int 1), (5, .long x5023), (3, .long x5021), (2, .int (nI (160 * n901))), (0, .ref c), (1, .int (nI n901))]) e_X10_pays_132 (by decide) rfl ?_
      refine m_iload F rfl e_X10_pays_134 ?_
      refine m_if_ne F e_X10_pays_136 (fun _ => ?_) (fun q => absurd q (by decide))
      refine m_lconst F (v := 0) (by decide) e_X10_pays_146 ?_
      refine m_goto F e_X10_pays_147 ?_
      refine m_lstore F (lv' := [(8, .long 0), (10, .long x5253), (7, .int 1), (5, .long x5023), (3, .long x5021), (2, .int (nI (160 * n901))), (0, .ref c), (1, .int (nI n901))]) e_X10_pays_154 (by decide) rfl ?_
      refine m_lload F rfl e_X10_pays_156 ?_
      refine m_lload F rfl e_X10_pays_158 ?_
      refine m_lsub F e_X10_pays_160 ?_
      refine Wm.topl (fun x5254 _ => ?_)
      refine m_lload_n F rfl e_X10_pays_161 ?_
      refine m_ladd F e_X10_pays_162 ?_
      refine Wm.topl (fun x5255 _ => ?_)
      refine m_lstore F (lv' := [(10, .long x5255), (8, .long 0), (7, .int 1), (5, .long x5023), (3, .long x5021), (2, .int (nI (160 * n901))), (0, .ref c), (1, .int (nI n901))]) e_X10_pays_163 (by decide) rfl ?_
      refine m_aload_n F rfl e_X10_pays_165 ?_
      refine r_getC F e_X10_pays_166 fl_X10_59 h5243 ((fld_eq (h5242.2 c (by rw [show kC c c = 1 from kC_at (k := 0) (by decide)]; decide))).trans ((fld_eq (h5026.2 c (by rw [show kC c c = 1 from kC_at (k := 0) (by decide)]; decide))).trans f5017)) ?_
      refine m_iload_n F rfl e_X10_pays_169 ?_
      refine m_bipush F (v := 7) (by decide) e_X10_pays_170 ?_
      refine m_iadd F e_X10_pays_172 ?_
      refine Wm.topE (w := nI (160 * n901 + 7)) (nI_add (160 * n901) 7) ?_
      refine r_sld F (j := 160 * n901 + 7) e_X10_pays_173 h5243 (nI_clamp (by omega)) (vp_in_nI (by omega) (by decide)) (fun x5256 h5257 => ?_)
      refine m_aload_n F rfl e_X10_pays_174 ?_
      refine m_iload_n F rfl e_X10_pays_175 ?_
      refine r_callV F e_X10_pays_176 (q_X10_leftOn (x_l X) V c T Z u h P L _ _ n901 h5243.1 (hok.b) hP (by omega) (by first | omega | assumption | decide)) cb_X10_left ml_X10_257 im_X10_left se_X10_left h5243 rfl rfl (rest := [.long x5256]) rfl (Nat.le_of_ble_eq_true rfl) ⟨Nat.le_of_ble_eq_true rfl, Nat.le_of_ble_eq_true rfl⟩ ⟨Nat.le_of_ble_eq_true rfl, Nat.le_of_ble_eq_true rfl⟩ (fun r σ5258 hp => ?_)
      obtain ⟨h5259, rfl⟩ := hp
      have h5260 := HS.trans h5243 h5259 (by decide)
      refine m_i2l F e_X10_pays_179 ?_
      refine Wm.toplE (w := lN ((L n901).2.1 - (L n901).2.2.2)) (nI_l (by omega)) ?_
      refine m_ldiv F (lN_ne0 (by omega) (by omega)) e_X10_pays_180 ?_
      refine Wm.topl (fun x5261 _ => ?_)
      refine m_lstore F (lv' := [(12, .long x5261), (10, .long x5255), (8, .long 0), (7, .int 1), (5, .long x5023), (3, .long x5021), (2, .int (nI (160 * n901))), (0, .ref c), (1, .int (nI n901))]) e_X10_pays_181 (by decide) rfl ?_
      refine m_aload_n F rfl e_X10_pays_183 ?_
      refine r_getC F e_X10_pays_184 fl_X10_59 h5260 ((fld_eq (h5259.2 c (by rw [show kC c c = 1 from kC_at (k := 0) (by decide)]; decide))).trans ((fld_eq (h5242.2 c (by rw [show kC c c = 1 from kC_at (k := 0) (by decide)]; decide))).trans ((fld_eq (h5026.2 c (by rw [show kC c c = 1 from kC_at (k := 0) (by decide)]; decide))).trans f5017))) ?_
      refine m_iload_n F rfl e_X10_pays_187 ?_
      refine m_bipush F (v := 6) (by decide) e_X10_pays_188 ?_
      refine m_iadd F e_X10_pays_190 ?_
      refine Wm.topE (w := nI (160 * n901 + 6)) (nI_add (160 * n901) 6) ?_
      refine m_lload F rfl e_X10_pays_191 ?_
      refine r_sst F (g' := (⟨T, Z, u, h, P, L⟩ : RG)) (j := 160 * n901 + 6) e_X10_pays_193 h5260 (by decide) (nI_clamp (by omega)) (vp_in_nI (by omega) (by decide)) (fun f q => EJ_same (EJ_lw (l := n901) (r := 6) (by omega) (by omega) (by omega)) q) (fun _ _ _ q => q) (fun σ5262 h5263 g5264 => ?_)
      refine m_aload_n F rfl e_X10_pays_194 ?_
      refine r_getC F e_X10_pays_195 fl_X10_59 h5263 ((fld_eq (g5264 _ (by omega))).trans ((fld_eq (h5259.2 c (by rw [show kC c c = 1 from kC_at (k := 0) (by decide)]; decide))).trans ((fld_eq (h5242.2 c (by rw [show kC c c = 1 from kC_at (k := 0) (by decide)]; decide))).trans ((fld_eq (h5026.2 c (by rw [show kC c c = 1 from kC_at (k := 0) (by decide)]; decide))).trans f5017)))) ?_
      refine m_iload_n F rfl e_X10_pays_198 ?_
      refine m_bipush F (v := 7) (by decide) e_X10_pays_199 ?_
      refine m_iadd F e_X10_pays_201 ?_
      refine Wm.topE (w := nI (160 * n901 + 7)) (nI_add (160 * n901) 7) ?_
      refine m_dup2_11 F rfl rfl e_X10_pays_202 ?_
      refine r_sld F (j := 160 * n901 + 7) e_X10_pays_203 h5263 (nI_clamp (by omega)) (vp_in_nI (by omega) (by decide)) (fun x5265 h5266 => ?_)
      refine m_lload F rfl e_X10_pays_204 ?_
      refine m_lsub F e_X10_pays_206 ?_
      refine Wm.topl (fun x5267 _ => ?_)
      refine r_sst F (g' := (⟨T, Z, u, h, P, L⟩ : RG)) (j := 160 * n901 + 7) e_X10_pays_207 h5263 (by decide) (nI_clamp (by omega)) (vp_in_nI (by omega) (by decide)) (fun f q => EJ_same (EJ_lw (l := n901) (r := 7) (by omega) (by omega) (by omega)) q) (fun _ _ _ q => q) (fun σ5268 h5269 g5270 => ?_)
      refine m_aload_n F rfl e_X10_pays_208 ?_
      refine r_getC F e_X10_pays_209 fl_X10_59 h5269 ((fld_eq (g5270 _ (by omega))).trans ((fld_eq (g5264 _ (by omega))).trans ((fld_eq (h5259.2 c (by rw [show kC c c = 1 from kC_at (k := 0) (by decide)]; decide))).trans ((fld_eq (h5242.2 c (by rw [show kC c c = 1 from kC_at (k := 0) (by decide)]; decide))).trans ((fld_eq (h5026.2 c (by rw [show kC c c = 1 from kC_at (k := 0) (by decide)]; decide))).trans f5017))))) ?_
      refine m_iload_n F rfl e_X10_pays_212 ?_
      refine m_bipush F (v := 9) (by decide) e_X10_pays_213 ?_
      refine m_iadd F e_X10_pays_215 ?_
      refine Wm.topE (w := nI (160 * n901 + 9)) (nI_add (160 * n901) 9) ?_
      refine m_dup2_11 F rfl rfl e_X10_pays_216 ?_
      refine r_sld F (j := 160 * n901 + 9) e_X10_pays_217 h5269 (nI_clamp (by omega)) (vp_in_nI (by omega) (by decide)) (fun x5271 h5272 => ?_)
      refine m_lload F rfl e_X10_pays_218 ?_
      refine m_ladd F e_X10_pays_220 ?_
      refine Wm.topl (fun x5273 _ => ?_)
      refine r_sst F (g' := (⟨T, Z, u, h, P, L⟩ : RG)) (j := 160 * n901 + 9) e_X10_pays_221 h5269 (by decide) (nI_clamp (by omega)) (vp_in_nI (by omega) (by decide)) (fun f q => EJ_same (EJ_lw (l := n901) (r := 9) (by omega) (by omega) (by omega)) q) (fun _ _ _ q => q) (fun σ5274 h5275 g5276 => ?_)
      refine m_aload_n F rfl e_X10_pays_222 ?_
      refine r_getC F e_X10_pays_223 fl_X10_59 h5275 ((fld_eq (g5276 _ (by omega))).trans ((fld_eq (g5270 _ (by omega))).trans ((fld_eq (g5264 _ (by omega))).trans ((fld_eq (h5259.2 c (by rw [show kC c c = 1 from kC_at (k := 0) (by decide)]; decide))).trans ((fld_eq (h5242.2 c (by rw [show kC c c = 1 from kC_at (k := 0) (by decide)]; decide))).trans ((fld_eq (h5026.2 c (by rw [show kC c c = 1 from kC_at (k := 0) (by decide)]; decide))).trans f5017)))))) ?_
      refine m_iload_n F rfl e_X10_pays_226 ?_
      refine m_bipush F (v := 10) (by decide) e_X10_pays_227 ?_
      refine m_iadd F e_X10_pays_229 ?_
      refine Wm.topE (w := nI (160 * n901 + 10)) (nI_add (160 * n901) 10) ?_
      refine m_dup2_11 F rfl rfl e_X10_pays_230 ?_
      refine r_sld F (j := 160 * n901 + 10) e_X10_pays_231 h5275 (nI_clamp (by omega)) (vp_in_nI (by omega) (by decide)) (fun x5277 h5278 => ?_)
      refine m_lload_n F rfl e_X10_pays_232 ?_
      refine m_ladd F e_X10_pays_233 ?_
      refine Wm.topl (fun x5279 _ => ?_)
      refine r_sst F (g' := (⟨T, Z, u, h, P, L⟩ : RG)) (j := 160 * n901 + 10) e_X10_pays_234 h5275 (by decide) (nI_clamp (by omega)) (vp_in_nI (by omega) (by decide)) (fun f q => EJ_same (EJ_lw (l := n901) (r := 10) (by omega) (by omega) (by omega)) q) (fun _ _ _ q => q) (fun σ5280 h5281 g5282 => ?_)
      refine m_aload_n F rfl e_X10_pays_235 ?_
      refine r_getC F e_X10_pays_236 fl_X10_59 h5281 ((fld_eq (g5282 _ (by omega))).trans ((fld_eq (g5276 _ (by omega))).trans ((fld_eq (g5270 _ (by omega))).trans ((fld_eq (g5264 _ (by omega))).trans ((fld_eq (h5259.2 c (by rw [show kC c c = 1 from kC_at (k := 0) (by decide)]; decide))).trans ((fld_eq (h5242.2 c (by rw [show kC c c = 1 from kC_at (k := 0) (by decide)]; decide))).trans ((fld_eq (h5026.2 c (by rw [show kC c c = 1 from kC_at (k := 0) (by decide)]; decide))).trans f5017))))))) ?_
      refine m_iload_n F rfl e_X10_pays_239 ?_
      refine m_iconst F (v := 5) (by decide) e_X10_pays_240 ?_
      refine m_iadd F e_X10_pays_241 ?_
      refine Wm.topE (w := nI (160 * n901 + 5)) (nI_add (160 * n901) 5) ?_
      refine m_dup2_11 F rfl rfl e_X10_pays_242 ?_
      refine r_sld F (j := 160 * n901 + 5) e_X10_pays_243 h5281 (nI_clamp (by omega)) (vp_in_nI (by omega) (by decide)) (fun x5283 h5284 => ?_)
      have hl5285 := hok.2 n901 (by omega)
      obtain rfl : x5283 = lN (L n901).2.2.2 := (EJ_l (l := n901) (r := 5) (by omega) (by decide)).mp h5284
      refine m_lconst F (v := 1) (by decide) e_X10_pays_244 ?_
      refine m_ladd F e_X10_pays_245 ?_
      refine Wm.toplE (w := lN ((L n901).2.2.2 + 1)) (lN_add ((L n901).2.2.2) 1) ?_
      refine r_sst F (g' := (⟨T, Z, u, h, P, (updL L n901 ((L n901).1, (L n901).2.1, (L n901).2.2.1, (L n901).2.2.2 + 1))⟩ : RG)) (j := 160 * n901 + 5) e_X10_pays_246 h5281 (by decide) (nI_clamp (by omega)) (vp_in_nI (by omega) (by decide)) (fun f q => EJ_up (l := n901) (r := 5) (by omega) (by decide) q rfl (by intro r' h1 h2 y hy; revert hy; unfold EL; split <;> simp_all)) CR.row (fun σ5286 h5287 g5288 => ?_)
      obtain ⟨L5289, eL5289⟩ : ∃ L9, L9 = (updL L n901 ((L n901).1, (L n901).2.1, (L n901).2.2.1, (L n901).2.2.2 + 1)) := ⟨_, rfl⟩
      rw [← eL5289] at h5287
      have fL5289 : L5289 n901 = ((L n901).1, (L n901).2.1, (L n901).2.2.1, (L n901).2.2.2 + 1) := by rw [eL5289]; exact if_pos rfl
      have fL52890 : (L5289 n901).1 = (L n901).1 := by rw [fL5289]
      have fL52891 : (L5289 n901).2.1 = (L n901).2.1 := by rw [fL5289]
      have fL52892 : (L5289 n901).2.2.1 = (L n901).2.2.1 := by rw [fL5289]
      have fL52893 : (L5289 n901).2.2.2 = (L n901).2.2.2 + 1 := by rw [fL5289]
      have oL5289 : ∀ i, i ≠ n901 → L5289 i = L i := fun i hi => by rw [eL5289]; exact if_neg hi
      have pL5289 : (L5289 4).1 = (L 4).1 := by rw [oL5289 4 (by omega)]
      refine m_aload_n F rfl e_X10_pays_247 ?_
      refine m_iconst F (v := 1) (by decide) e_X10_pays_248 ?_
      refine m_iload_n F rfl e_X10_pays_249 ?_
      refine m_lload_n F rfl e_X10_pays_250 ?_
      refine m_lneg F e_X10_pays_251 ?_
      refine Wm.topl (fun x5290 _ => ?_)
      refine m_lload F rfl e_X10_pays_252 ?_
      refine m_lload F rfl e_X10_pays_254 ?_
      refine m_lsub F e_X10_pays_256 ?_
      refine Wm.topl (fun x5291 _ => ?_)
      refine m_lload F rfl e_X10_pays_257 ?_
      refine m_lneg F e_X10_pays_259 ?_
      refine Wm.topl (fun x5292 _ => ?_)
      refine m_lload F rfl e_X10_pays_260 ?_
      refine m_lload F rfl e_X10_pays_262 ?_
      refine m_lconst F (v := 0) (by decide) e_X10_pays_264 ?_
      have okb5296 : OKB L5289 := OKB.upd (hok.b) (l := n901) (by omega) (fun i hi => (oL5289 i hi)) (by have h9 := (hok.b).2 n901 (by omega); omega)
      refine r_callV F e_X10_pays_265 (q_X10_entry (x_l X) V c T Z u h P L5289 _ _ 1 (nI n901) x5290 x5291 x5292 x5255 x5261 0 h5287.1 (okb5296) hP ) cb_X10_entry ml_X10_253 im_X10_entry se_X10_entry h5287 rfl rfl (rest := []) rfl (Nat.le_of_ble_eq_true rfl) ⟨Nat.le_of_ble_eq_true rfl, Nat.le_of_ble_eq_true rfl⟩ ⟨Nat.le_of_ble_eq_true rfl, Nat.le_of_ble_eq_true rfl⟩ (fun r σ5293 hp => ?_)
      obtain ⟨h5294, rfl⟩ := hp
      have h5295 := HS.trans h5287 h5294 (by decide)
      refine m_iload F rfl e_X10_pays_268 ?_
      refine m_if_eq F e_X10_pays_270 (fun q => absurd q (by decide)) (fun _ => ?_)
      refine m_aload_n F rfl e_X10_pays_273 ?_
      refine r_getC F e_X10_pays_274 fl_X10_59 h5295 ((fld_eq (h5294.2 c (by rw [show kC c c = 1 from kC_at (k := 0) (by decide)]; decide))).trans ((fld_eq (g5288 _ (by omega))).trans ((fld_eq (g5282 _ (by omega))).trans ((fld_eq (g5276 _ (by omega))).trans ((fld_eq (g5270 _ (by omega))).trans ((fld_eq (g5264 _ (by omega))).trans ((fld_eq (h5259.2 c (by rw [show kC c c = 1 from kC_at (k := 0) (by decide)]; decide))).trans ((fld_eq (h5242.2 c (by rw [show kC c c = 1 from kC_at (k := 0) (by decide)]; decide))).trans ((fld_eq (h5026.2 c (by rw [show kC c c = 1 from kC_at (k := 0) (by decide)]; decide))).trans f5017))))))))) ?_
      refine m_iload_n F rfl e_X10_pays_277 ?_
      refine m_iconst F (v := 0) (by decide) e_X10_pays_278 ?_
      refine m_iadd F e_X10_pays_279 ?_
      refine Wm.topE (w := nI (160 * n901)) (nI_add (160 * n901) 0) ?_
      refine m_ldc2 F kc_X10_234 e_X10_pays_280 ?_
      refine r_sst F (g' := (⟨T, Z, u, h, P, (updL L5289 n901 (2, (L5289 n901).2.1, (L5289 n901).2.2.1, (L5289 n901).2.2.2))⟩ : RG)) (j := 160 * n901) e_X10_pays_283 h5295 (by decide) (nI_clamp (by omega)) (vp_in_nI (by omega) (by decide)) (fun f q => EJ_up (l := n901) (r := 0) (by omega) (by decide) q rfl (by intro r' h1 h2 y hy; revert hy; unfold EL; split <;> simp_all)) CR.row (fun σ5297 h5298 g5299 => ?_)
      obtain ⟨L5300, eL5300⟩ : ∃ L9, L9 = (updL L5289 n901 (2, (L5289 n901).2.1, (L5289 n901).2.2.1, (L5289 n901).2.2.2)) := ⟨_, rfl⟩
      rw [← eL5300] at h5298
      have fL5300 : L5300 n901 = (2, (L5289 n901).2.1, (L5289 n901).2.2.1, (L5289 n901).2.2.2) := by rw [eL5300]; exact if_pos rfl
      have fL53000 : (L5300 n901).1 = 2 := by rw [fL5300]
      have fL53001 : (L5300 n901).2.1 = (L5289 n901).2.1 := by rw [fL5300]
      have fL53002 : (L5300 n901).2.2.1 = (L5289 n901).2.2.1 := by rw [fL5300]
      have fL53003 : (L5300 n901).2.2.2 = (L5289 n901).2.2.2 := by rw [fL5300]
      have oL5300 : ∀ i, i ≠ n901 → L5300 i = L5289 i := fun i hi => by rw [eL5300]; exact if_neg hi
      have pL5300 : (L5300 4).1 = (L5289 4).1 := by rw [oL5300 4 (by omega)]
      have ok5301 : OKL P.n0 L5300 := OKL.upd hok (l := n901) (by omega) (fun i hi => (oL5300 i hi).trans (oL5289 i hi)) (by have h9 := hok.2 n901 (by omega); omega)
      exact m_vret F hQ e_X10_pays_284 (⟨L5300, ok5301, (by first | omega | rfl | assumption), h5298, rfl⟩)
    · have c58 : n5244 ≠ 0 := by have hh := mt (nI_eq (a := n5244) (b := 0) (by omega) (by omega)).mpr q58; omega
      refine m_lload F rfl e_X10_pays_61 ?_
      refine m_lload_n F rfl e_X10_pays_63 ?_
      refine m_lcmp F e_X10_pays_64 ?_
      refine Wm.top (fun x5302 _ => ?_)
      refine m_if_le F e_X10_pays_65 (fun q65 => ?_) (fun q65 => ?_)
      · refine m_lconst F (v := 0) (by decide) e_X10_pays_75 ?_
        refine m_lstore F (lv' := [(10, .long 0), (7, .int 1), (5, .long x5023), (3, .long x5021), (2, .int (nI (160 * n901))), (0, .ref c), (1, .int (nI n901))]) e_X10_pays_76 (by decide) rfl ?_
        refine m_iload F rfl e_X10_pays_78 ?_
        refine m_if_eq F e_X10_pays_80 (fun q => absurd q (by decide)) (fun _ => ?_)
        refine m_lconst F (v := 0) (by decide) e_X10_pays_83 ?_
        refine m_goto F e_X10_pays_84 ?_
        refine m_lstore F (lv' := [(8, .long 0), (10, .long 0), (7, .int 1), (5, .long x5023), (3, .long x5021), (2, .int (nI (160 * n901))), (0, .ref c), (1, .int (nI n901))]) e_X10_pays_107 (by decide) rfl ?_
        refine m_goto F e_X10_pays_109 ?_
        refine m_lload F rfl e_X10_pays_156 ?_
        refine m_lload F rfl e_X10_pays_158 ?_
        refine m_lsub F e_X10_pays_160 ?_
        refine Wm.topl (fun x5303 _ => ?_)
        refine m_lload_n F rfl e_X10_pays_161 ?_
        refine m_ladd F e_X10_pays_162 ?_
        refine Wm.topl (fun x5304 _ => ?_)
        refine m_lstore F (lv' := [(10, .long x5304), (8, .long 0), (7, .int 1), (5, .long x5023), (3, .long x5021), (2, .int (nI (160 * n901))), (0, .ref c), (1, .int (nI n901))]) e_X10_pays_163 (by decide) rfl ?_
        refine m_aload_n F rfl e_X10_pays_165 ?_
        refine r_getC F e_X10_pays_166 fl_X10_59 h5243 ((fld_eq (h5242.2 c (by rw [show kC c c = 1 from kC_at (k := 0) (by decide)]; decide))).trans ((fld_eq (h5026.2 c (by rw [show kC c c = 1 from kC_at (k := 0) (by decide)]; decide))).trans f5017)) ?_
        refine m_iload_n F rfl e_X10_pays_169 ?_
        refine m_bipush F (v := 7) (by decide) e_X10_pays_170 ?_
        refine m_iadd F e_X10_pays_172 ?_
        refine Wm.topE (w := nI (160 * n901 + 7)) (nI_add (160 * n901) 7) ?_
        refine r_sld F (j := 160 * n901 + 7) e_X10_pays_173 h5243 (nI_clamp (by omega)) (vp_in_nI (by omega) (by decide)) (fun x5305 h5306 => ?_)
        refine m_aload_n F rfl e_X10_pays_174 ?_
        refine m_iload_n F rfl e_X10_pays_175 ?_
        refine r_callV F e_X10_pays_176 (q_X10_leftOn (x_l X) V c T Z u h P L _ _ n901 h5243.1 (hok.b) hP (by omega) (by first | omega | assumption | decide)) cb_X10_left ml_X10_257 im_X10_left se_X10_left h5243 rfl rfl (rest := [.long x5305]) rfl (Nat.le_of_ble_eq_true rfl) ⟨Nat.le_of_ble_eq_true rfl, Nat.le_of_ble_eq_true rfl⟩ ⟨Nat.le_of_ble_eq_true rfl, Nat.le_of_ble_eq_true rfl⟩ (fun r σ5307 hp => ?_)
        obtain ⟨h5308, rfl⟩ := hp
        have h5309 := HS.trans h5243 h5308 (by decide)
        refine m_i2l F e_X10_pays_179 ?_
        refine Wm.toplE (w := lN ((L n901).2.1 - (L n901).2.2.2)) (nI_l (by omega)) ?_
        refine m_ldiv F (lN_ne0 (by omega) (by omega)) e_X10_pays_180 ?_
        refine Wm.topl (fun x5310 _ => ?_)
        refine m_lstore F (lv' := [(12, .long x5310), (10, .long x5304), (8, .long 0), (7, .int 1), (5, .long x5023), (3, .long x5021), (2, .int (nI (160 * n901))), (0, .ref c), (1, .int (nI n901))]) e_X10_pays_181 (by decide) rfl ?_
        refine m_aload_n F rfl e_X10_pays_183 ?_
        refine r_getC F e_X10_pays_184 fl_X10_59 h5309 ((fld_eq (h5308.2 c (by rw [show kC c c = 1 from kC_at (k := 0) (by decide)]; decide))).trans ((fld_eq (h5242.2 c (by rw [show kC c c = 1 from kC_at (k := 0) (by decide)]; decide))).trans ((fld_eq (h5026.2 c (by rw [show kC c c = 1 from kC_at (k := 0) (by decide)]; decide))).trans f5017))) ?_
        refine m_iload_n F rfl e_X10_pays_187 ?_
        refine m_bipush F (v := 6) (by decide) e_X10_pays_188 ?_
        refine m_iadd F e_X10_pays_190 ?_
        refine Wm.topE (w := nI (160 * n901 + 6)) (nI_add (160 * n901) 6) ?_
        refine m_lload F rfl e_X10_pays_191 ?_
        refine r_sst F (g' := (⟨T, Z, u, h, P, L⟩ : RG)) (j := 160 * n901 + 6) e_X10_pays_193 h5309 (by decide) (nI_clamp (by omega)) (vp_in_nI (by omega) (by decide)) (fun f q => EJ_same (EJ_lw (l := n901) (r := 6) (by omega) (by omega) (by omega)) q) (fun _ _ _ q => q) (fun σ5311 h5312 g5313 => ?_)
        refine m_aload_n F rfl e_X10_pays_194 ?_
        refine r_getC F e_X10_pays_195 fl_X10_59 h5312 ((fld_eq (g5313 _ (by omega))).trans ((fld_eq (h5308.2 c (by rw [show kC c c = 1 from kC_at (k := 0) (by decide)]; decide))).trans ((fld_eq (h5242.2 c (by rw [show kC c c = 1 from kC_at (k := 0) (by decide)]; decide))).trans ((fld_eq (h5026.2 c (by rw [show kC c c = 1 from kC_at (k := 0) (by decide)]; decide))).trans f5017)))) ?_
        refine m_iload_n F rfl e_X10_pays_198 ?_
        refine m_bipush F (v := 7) (by decide) e_X10_pays_199 ?_
        refine m_iadd F e_X10_pays_201 ?_
        refine Wm.topE (w := nI (160 * n901 + 7)) (nI_add (160 * n901) 7) ?_
        refine m_dup2_11 F rfl rfl e_X10_pays_202 ?_
        refine r_sld F (j := 160 * n901 + 7) e_X10_pays_203 h5312 (nI_clamp (by omega)) (vp_in_nI (by omega) (by decide)) (fun x5314 h5315 => ?_)
        refine m_lload F rfl e_X10_pays_204 ?_
        refine m_lsub F e_X10_pays_206 ?_
        refine Wm.topl (fun x5316 _ => ?_)
        refine r_sst F (g' := (⟨T, Z, u, h, P, L⟩ : RG)) (j := 160 * n901 + 7) e_X10_pays_207 h5312 (by decide) (nI_clamp (by omega)) (vp_in_nI (by omega) (by decide)) (fun f q => EJ_same (EJ_lw (l := n901) (r := 7) (by omega) (by omega) (by omega)) q) (fun _ _ _ q => q) (fun σ5317 h5318 g5319 => ?_)
        refine m_aload_n F rfl e_X10_pays_208 ?_
        refine r_getC F e_X10_pays_209 fl_X10_59 h5318 ((fld_eq (g5319 _ (by omega))).trans ((fld_eq (g5313 _ (by omega))).trans ((fld_eq (h5308.2 c (by rw [show kC c c = 1 from kC_at (k := 0) (by decide)]; decide))).trans ((fld_eq (h5242.2 c (by rw [show kC c c = 1 from kC_at (k := 0) (by decide)]; decide))).trans ((fld_eq (h5026.2 c (by rw [show kC c c = 1 from kC_at (k := 0) (by decide)]; decide))).trans f5017))))) ?_
        refine m_iload_n F rfl e_X10_pays_212 ?_
        refine m_bipush F (v := 9) (by decide) e_X10_pays_213 ?_
        refine m_iadd F e_X10_pays_215 ?_
        refine Wm.topE (w := nI (160 * n901 + 9)) (nI_add (160 * n901) 9) ?_
        refine m_dup2_11 F rfl rfl e_X10_pays_216 ?_
        refine r_sld F (j := 160 * n901 + 9) e_X10_pays_217 h5318 (nI_clamp (by omega)) (vp_in_nI (by omega) (by decide)) (fun x5320 h5321 => ?_)
        refine m_lload F rfl e_X10_pays_218 ?_
        refine m_ladd F e_X10_pays_220 ?_
        refine Wm.topl (fun x5322 _ => ?_)
        refine r_sst F (g' := (⟨T, Z, u, h, P, L⟩ : RG)) (j := 160 * n901 + 9) e_X10_pays_221 h5318 (by decide) (nI_clamp (by omega)) (vp_in_nI (by omega) (by decide)) (fun f q => EJ_same (EJ_lw (l := n901) (r := 9) (by omega) (by omega) (by omega)) q) (fun _ _ _ q => q) (fun σ5323 h5324 g5325 => ?_)
        refine m_aload_n F rfl e_X10_pays_222 ?_
        refine r_getC F e_X10_pays_223 fl_X10_59 h5324 ((fld_eq (g5325 _ (by omega))).trans ((fld_eq (g5319 _ (by omega))).trans ((fld_eq (g5313 _ (by omega))).trans ((fld_eq (h5308.2 c (by rw [show kC c c = 1 from kC_at (k := 0) (by decide)]; decide))).trans ((fld_eq (h5242.2 c (by rw [show kC c c = 1 from kC_at (k := 0) (by decide)]; decide))).trans ((fld_eq (h5026.2 c (by rw [show kC c c = 1 from kC_at (k := 0) (by decide)]; decide))).trans f5017)))))) ?_
        refine m_iload_n F rfl e_X10_pays_226 ?_
        refine m_bipush F (v := 10) (by decide) e_X10_pays_227 ?_
        refine m_iadd F e_X10_pays_229 ?_
        refine Wm.topE (w := nI (160 * n901 + 10)) (nI_add (160 * n901) 10) ?_
        refine m_dup2_11 F rfl rfl e_X10_pays_230 ?_
        refine r_sld F (j := 160 * n901 + 10) e_X10_pays_231 h5324 (nI_clamp (by omega)) (vp_in_nI (by omega) (by decide)) (fun x5326 h5327 => ?_)
        refine m_lload_n F rfl e_X10_pays_232 ?_
        refine m_ladd F e_X10_pays_233 ?_
        refine Wm.topl (fun x5328 _ => ?_)
        refine r_sst F (g' := (⟨T, Z, u, h, P, L⟩ : RG)) (j := 160 * n901 + 10) e_X10_pays_234 h5324 (by decide) (nI_clamp (by omega)) (vp_in_nI (by omega) (by decide)) (fun f q => EJ_same (EJ_lw (l := n901) (r := 10) (by omega) (by omega) (by omega)) q) (fun _ _ _ q => q) (fun σ5329 h5330 g5331 => ?_)
        refine m_aload_n F rfl e_X10_pays_235 ?_
        refine r_getC F e_X10_pays_236 fl_X10_59 h5330 ((fld_eq (g5331 _ (by omega))).trans ((fld_eq (g5325 _ (by omega))).trans ((fld_eq (g5319 _ (by omega))).trans ((fld_eq (g5313 _ (by omega))).trans ((fld_eq (h5308.2 c (by rw [show kC c c = 1 from kC_at (k := 0) (by decide)]; decide))).trans ((fld_eq (h5242.2 c (by rw [show kC c c = 1 from kC_at (k := 0) (by decide)]; decide))).trans ((fld_eq (h5026.2 c (by rw [show kC c c = 1 from kC_at (k := 0) (by decide)]; decide))).trans f5017))))))) ?_
        refine m_iload_n F rfl e_X10_pays_239 ?_
        refine m_iconst F (v := 5) (by decide) e_X10_pays_240 ?_
        refine m_iadd F e_X10_pays_241 ?_
        refine Wm.topE (w := nI (160 * n901 + 5)) (nI_add (160 * n901) 5) ?_
        refine m_dup2_11 F rfl rfl e_X10_pays_242 ?_
        refine r_sld F (j := 160 * n901 + 5) e_X10_pays_243 h5330 (nI_clamp (by omega)) (vp_in_nI (by omega) (by decide)) (fun x5332 h5333 => ?_)
        have hl5334 := hok.2 n901 (by omega)
        obtain rfl : x5332 = lN (L n901).2.2.2 := (EJ_l (l := n901) (r := 5) (by omega) (by decide)).mp h5333
        refine m_lconst F (v := 1) (by decide) e_X10_pays_244 ?_
        refine m_ladd F e_X10_pays_245 ?_
        refine Wm.toplE (w := lN ((L n901).2.2.2 + 1)) (lN_add ((L n901).2.2.2) 1) ?_
        refine r_sst F (g' := (⟨T, Z, u, h, P, (updL L n901 ((L n901).1, (L n901).2.1, (L n901).2.2.1, (L n901).2.2.2 + 1))⟩ : RG)) (j := 160 * n901 + 5) e_X10_pays_246 h5330 (by decide) (nI_clamp (by omega)) (vp_in_nI (by omega) (by decide)) (fun f q => EJ_up (l := n901) (r := 5) (by omega) (by decide) q rfl (by intro r' h1 h2 y hy; revert hy; unfold EL; split <;> simp_all)) CR.row (fun σ5335 h5336 g5337 => ?_)
        obtain ⟨L5338, eL5338⟩ : ∃ L9, L9 = (updL L n901 ((L n901).1, (L n901).2.1, (L n901).2.2.1, (L n901).2.2.2 + 1)) := ⟨_, rfl⟩
        rw [← eL5338] at h5336
        have fL5338 : L5338 n901 = ((L n901).1, (L n901).2.1, (L n901).2.2.1, (L n901).2.2.2 + 1) := by rw [eL5338]; exact if_pos rfl
        have fL53380 : (L5338 n901).1 = (L n901).1 := by rw [fL5338]
        have fL53381 : (L5338 n901).2.1 = (L n901).2.1 := by rw [fL5338]
        have fL53382 : (L5338 n901).2.2.1 = (L n901).2.2.1 := by rw [fL5338]
        have fL53383 : (L5338 n901).2.2.2 = (L n901).2.2.2 + 1 := by rw [fL5338]
        have oL5338 : ∀ i, i ≠ n901 → L5338 i = L i := fun i hi => by rw [eL5338]; exact if_neg hi
        have pL5338 : (L5338 4).1 = (L 4).1 := by rw [oL5338 4 (by omega)]
        refine m_aload_n F rfl e_X10_pays_247 ?_
        refine m_iconst F (v := 1) (by decide) e_X10_pays_248 ?_
        refine m_iload_n F rfl e_X10_pays_249 ?_
        refine m_lload_n F rfl e_X10_pays_250 ?_
        refine m_lneg F e_X10_pays_251 ?_
        refine Wm.topl (fun x5339 _ => ?_)
        refine m_lload F rfl e_X10_pays_252 ?_
        refine m_lload F rfl e_X10_pays_254 ?_
        refine m_lsub F e_X10_pays_256 ?_
        refine Wm.topl (fun x5340 _ => ?_)
        refine m_lload F rfl e_X10_pays_257 ?_
        refine m_lneg F e_X10_pays_259 ?_
        refine Wm.topl (fun x5341 _ => ?_)
        refine m_lload F rfl e_X10_pays_260 ?_
        refine m_lload F rfl e_X10_pays_262 ?_
        refine m_lconst F (v := 0) (by decide) e_X10_pays_264 ?_
        have okb5345 : OKB L5338 := OKB.upd (hok.b) (l := n901) (by omega) (fun i hi => (oL5338 i hi)) (by have h9 := (hok.b).2 n901 (by omega); omega)
        refine r_callV F e_X10_pays_265 (q_X10_entry (x_l X) V c T Z u h P L5338 _ _ 1 (nI n901) x5339 x5340 x5341 x5304 x5310 0 h5336.1 (okb5345) hP ) cb_X10_entry ml_X10_253 im_X10_entry se_X10_entry h5336 rfl rfl (rest := []) rfl (Nat.le_of_ble_eq_true rfl) ⟨Nat.le_of_ble_eq_true rfl, Nat.le_of_ble_eq_true rfl⟩ ⟨Nat.le_of_ble_eq_true rfl, Nat.le_of_ble_eq_true rfl⟩ (fun r σ5342 hp => ?_)
        obtain ⟨h5343, rfl⟩ := hp
        have h5344 := HS.trans h5336 h5343 (by decide)
        refine m_iload F rfl e_X10_pays_268 ?_
        refine m_if_eq F e_X10_pays_270 (fun q => absurd q (by decide)) (fun _ => ?_)
        refine m_aload_n F rfl e_X10_pays_273 ?_
        refine r_getC F e_X10_pays_274 fl_X10_59 h5344 ((fld_eq (h5343.2 c (by rw [show kC c c = 1 from kC_at (k := 0) (by decide)]; decide))).trans ((fld_eq (g5337 _ (by omega))).trans ((fld_eq (g5331 _ (by omega))).trans ((fld_eq (g5325 _ (by omega))).trans ((fld_eq (g5319 _ (by omega))).trans ((fld_eq (g5313 _ (by omega))).trans ((fld_eq (h5308.2 c (by rw [show kC c c = 1 from kC_at (k := 0) (by decide)]; decide))).trans ((fld_eq (h5242.2 c (by rw [show kC c c = 1 from kC_at (k := 0) (by decide)]; decide))).trans ((fld_eq (h5026.2 c (by rw [show kC c c = 1 from kC_at (k := 0) (by decide)]; decide))).trans f5017))))))))) ?_
        refine m_iload_n F rfl e_X10_pays_277 ?_
        refine m_iconst F (v := 0) (by decide) e_X10_pays_278 ?_
        refine m_iadd F e_X10_pays_279 ?_
        refine Wm.topE (w := nI (160 * n901)) (nI_add (160 * n901) 0) ?_
        refine m_ldc2 F kc_X10_234 e_X10_pays_280 ?_
        refine r_sst F (g' := (⟨T, Z, u, h, P, (updL L5338 n901 (2, (L5338 n901).2.1, (L5338 n901).2.2.1, (L5338 n901).2.2.2))⟩ : RG)) (j := 160 * n901) e_X10_pays_283 h5344 (by decide) (nI_clamp (by omega)) (vp_in_nI (by omega) (by decide)) (fun f q => EJ_up (l := n901) (r := 0) (by omega) (by decide) q rfl (by intro r' h1 h2 y hy; revert hy; unfold EL; split <;> simp_all)) CR.row (fun σ5346 h5347 g5348 => ?_)
        obtain ⟨L5349, eL5349⟩ : ∃ L9, L9 = (updL L5338 n901 (2, (L5338 n901).2.1, (L5338 n901).2.2.1, (L5338 n901).2.2.2)) := ⟨_, rfl⟩
        rw [← eL5349] at h5347
        have fL5349 : L5349 n901 = (2, (L5338 n901).2.1, (L5338 n901).2.2.1, (L5338 n901).2.2.2) := by rw [eL5349]; exact if_pos rfl
        have fL53490 : (L5349 n901).1 = 2 := by rw [fL5349]
        have fL53491 : (L5349 n901).2.1 = (L5338 n901).2.1 := by rw [fL5349]
        have fL53492 : (L5349 n901).2.2.1 = (L5338 n901).2.2.1 := by rw [fL5349]
        have fL53493 : (L5349 n901).2.2.2 = (L5338 n901).2.2.2 := by rw [fL5349]
        have oL5349 : ∀ i, i ≠ n901 → L5349 i = L5338 i := fun i hi => by rw [eL5349]; exact if_neg hi
        have pL5349 : (L5349 4).1 = (L5338 4).1 := by rw [oL5349 4 (by omega)]
        have ok5350 : OKL P.n0 L5349 := OKL.upd hok (l := n901) (by omega) (fun i hi => (oL5349 i hi).trans (oL5338 i hi)) (by have h9 := hok.2 n901 (by omega); omega)
        exact m_vret F hQ e_X10_pays_284 (⟨L5349, ok5350, (by first | omega | rfl | assumption), h5347, rfl⟩)
      · obtain ⟨n5351, hn5351, rfl⟩ := nI_nn (x := x5302) (fun e => q65 (Int32.le_trans (Int32.le_of_lt e) (by decide)))
        have c65 : n5351 > 0 := by have hh := mt (nI_leI (a := n5351) (b := 0) (by omega) (by omega)).mpr q65; omega
        refine m_lload F rfl e_X10_pays_68 ?_
        refine m_lload_n F rfl e_X10_pays_70 ?_
        refine m_lsub F e_X10_pays_71 ?_
        refine Wm.topl (fun x5352 _ => ?_)
        refine m_goto F e_X10_pays_72 ?_
        refine m_lstore F (lv' := [(10, .long x5352), (7, .int 1), (5, .long x5023), (3, .long x5021), (2, .int (nI (160 * n901))), (0, .ref c), (1, .int (nI n901))]) e_X10_pays_76 (by decide) rfl ?_
        refine m_iload F rfl e_X10_pays_78 ?_
        refine m_if_eq F e_X10_pays_80 (fun q => absurd q (by decide)) (fun _ => ?_)
        refine m_lconst F (v := 0) (by decide) e_X10_pays_83 ?_
        refine m_goto F e_X10_pays_84 ?_
        refine m_lstore F (lv' := [(8, .long 0), (10, .long x5352), (7, .int 1), (5, .long x5023), (3, .long x5021), (2, .int (nI (160 * n901))), (0, .ref c), (1, .int (nI n901))]) e_X10_pays_107 (by decide) rfl ?_
        refine m_goto F e_X10_pays_109 ?_
        refine m_lload F rfl e_X10_pays_156 ?_
        refine m_lload F rfl e_X10_pays_158 ?_
        refine m_lsub F e_X10_pays_160 ?_
        refine Wm.topl (fun x5353 _ => ?_)
        refine m_lload_n F rfl e_X10_pays_161 ?_
        refine m_ladd F e_X10_pays_162 ?_
        refine Wm.topl (fun x5354 _ => ?_)
        refine m_lstore F (lv' := [(10, .long x5354), (8, .long 0), (7, .int 1), (5, .long x5023), (3, .long x5021), (2, .int (nI (160 * n901))), (0, .ref c), (1, .int (nI n901))]) e_X10_pays_163 (by decide) rfl ?_
        refine m_aload_n F rfl e_X10_pays_165 ?_
        refine r_getC F e_X10_pays_166 fl_X10_59 h5243 ((fld_eq (h5242.2 c (by rw [show kC c c = 1 from kC_at (k := 0) (by decide)]; decide))).trans ((fld_eq (h5026.2 c (by rw [show kC c c = 1 from kC_at (k := 0) (by decide)]; decide))).trans f5017)) ?_
        refine m_iload_n F rfl e_X10_pays_169 ?_
        refine m_bipush F (v := 7) (by decide) e_X10_pays_170 ?_
        refine m_iadd F e_X10_pays_172 ?_
        refine Wm.topE (w := nI (160 * n901 + 7)) (nI_add (160 * n901) 7) ?_
        refine r_sld F (j := 160 * n901 + 7) e_X10_pays_173 h5243 (nI_clamp (by omega)) (vp_in_nI (by omega) (by decide)) (fun x5355 h5356 => ?_)
        refine m_aload_n F rfl e_X10_pays_174 ?_
        refine m_iload_n F rfl e_X10_pays_175 ?_
        refine r_callV F e_X10_pays_176 (q_X10_leftOn (x_l X) V c T Z u h P L _ _ n901 h5243.1 (hok.b) hP (by omega) (by first | omega | assumption | decide)) cb_X10_left ml_X10_257 im_X10_left se_X10_left h5243 rfl rfl (rest := [.long x5355]) rfl (Nat.le_of_ble_eq_true rfl) ⟨Nat.le_of_ble_eq_true rfl, Nat.le_of_ble_eq_true rfl⟩ ⟨Nat.le_of_ble_eq_true rfl, Nat.le_of_ble_eq_true rfl⟩ (fun r σ5357 hp => ?_)
        obtain ⟨h5358, rfl⟩ := hp
        have h5359 := HS.trans h5243 h5358 (by decide)
        refine m_i2l F e_X10_pays_179 ?_
        refine Wm.toplE (w := lN ((L n901).2.1 - (L n901).2.2.2)) (nI_l (by omega)) ?_
        refine m_ldiv F (lN_ne0 (by omega) (by omega)) e_X10_pays_180 ?_
        refine Wm.topl (fun x5360 _ => ?_)
        refine m_lstore F (lv' := [(12, .long x5360), (10, .long x5354), (8, .long 0), (7, .int 1), (5, .long x5023), (3, .long x5021), (2, .int (nI (160 * n901))), (0, .ref c), (1, .int (nI n901))]) e_X10_pays_181 (by decide) rfl ?_
        refine m_aload_n F rfl e_X10_pays_183 ?_
        refine r_getC F e_X10_pays_184 fl_X10_59 h5359 ((fld_eq (h5358.2 c (by rw [show kC c c = 1 from kC_at (k := 0) (by decide)]; decide))).trans ((fld_eq (h5242.2 c (by rw [show kC c c = 1 from kC_at (k := 0) (by decide)]; decide))).trans ((fld_eq (h5026.2 c (by rw [show kC c c = 1 from kC_at (k := 0) (by decide)]; decide))).trans f5017))) ?_
        refine m_iload_n F rfl e_X10_pays_187 ?_
        refine m_bipush F (v := 6) (by decide) e_X10_pays_188 ?_
        refine m_iadd F e_X10_pays_190 ?_
        refine Wm.topE (w := nI (160 * n901 + 6)) (nI_add (160 * n901) 6) ?_
        refine m_lload F rfl e_X10_pays_191 ?_
        refine r_sst F (g' := (⟨T, Z, u, h, P, L⟩ : RG)) (j := 160 * n901 + 6) e_X10_pays_193 h5359 (by decide) (nI_clamp (by omega)) (vp_in_nI (by omega) (by decide)) (fun f q => EJ_same (EJ_lw (l := n901) (r := 6) (by omega) (by omega) (by omega)) q) (fun _ _ _ q => q) (fun σ5361 h5362 g5363 => ?_)
        refine m_aload_n F rfl e_X10_pays_194 ?_
        refine r_getC F e_X10_pays_195 fl_X10_59 h5362 ((fld_eq (g5363 _ (by omega))).trans ((fld_eq (h5358.2 c (by rw [show kC c c = 1 from kC_at (k := 0) (by decide)]; decide))).trans ((fld_eq (h5242.2 c (by rw [show kC c c = 1 from kC_at (k := 0) (by decide)]; decide))).trans ((fld_eq (h5026.2 c (by rw [show kC c c = 1 from kC_at (k := 0) (by decide)]; decide))).trans f5017)))) ?_
        refine m_iload_n F rfl e_X10_pays_198 ?_
        refine m_bipush F (v := 7) (by decide) e_X10_pays_199 ?_
        refine m_iadd F e_X10_pays_201 ?_
        refine Wm.topE (w := nI (160 * n901 + 7)) (nI_add (160 * n901) 7) ?_
        refine m_dup2_11 F rfl rfl e_X10_pays_202 ?_
        refine r_sld F (j := 160 * n901 + 7) e_X10_pays_203 h5362 (nI_clamp (by omega)) (vp_in_nI (by omega) (by decide)) (fun x5364 h5365 => ?_)
        refine m_lload F rfl e_X10_pays_204 ?_
        refine m_lsub F e_X10_pays_206 ?_
        refine Wm.topl (fun x5366 _ => ?_)
        refine r_sst F (g' := (⟨T, Z, u, h, P, L⟩ : RG)) (j := 160 * n901 + 7) e_X10_pays_207 h5362 (by decide) (nI_clamp (by omega)) (vp_in_nI (by omega) (by decide)) (fun f q => EJ_same (EJ_lw (l := n901) (r := 7) (by omega) (by omega) (by omega)) q) (fun _ _ _ q => q) (fun σ5367 h5368 g5369 => ?_)
        refine m_aload_n F rfl e_X10_pays_208 ?_
        refine r_getC F e_X10_pays_209 fl_X10_59 h5368 ((fld_eq (g5369 _ (by omega))).trans ((fld_eq (g5363 _ (by omega))).trans ((fld_eq (h5358.2 c (by rw [show kC c c = 1 from kC_at (k := 0) (by decide)]; decide))).trans ((fld_eq (h5242.2 c (by rw [show kC c c = 1 from kC_at (k := 0) (by decide)]; decide))).trans ((fld_eq (h5026.2 c (by rw [show kC c c = 1 from kC_at (k := 0) (by decide)]; decide))).trans f5017))))) ?_
        refine m_iload_n F rfl e_X10_pays_212 ?_
        refine m_bipush F (v := 9) (by decide) e_X10_pays_213 ?_
        refine m_iadd F e_X10_pays_215 ?_
        refine Wm.topE (w := nI (160 * n901 + 9)) (nI_add (160 * n901) 9) ?_
        refine m_dup2_11 F rfl rfl e_X10_pays_216 ?_
        refine r_sld F (j := 160 * n901 + 9) e_X10_pays_217 h5368 (nI_clamp (by omega)) (vp_in_nI (by omega) (by decide)) (fun x5370 h5371 => ?_)
        refine m_lload F rfl e_X10_pays_218 ?_
        refine m_ladd F e_X10_pays_220 ?_
        refine Wm.topl (fun x5372 _ => ?_)
        refine r_sst F (g' := (⟨T, Z, u, h, P, L⟩ : RG)) (j := 160 * n901 + 9) e_X10_pays_221 h5368 (by decide) (nI_clamp (by omega)) (vp_in_nI (by omega) (by decide)) (fun f q => EJ_same (EJ_lw (l := n901) (r := 9) (by omega) (by omega) (by omega)) q) (fun _ _ _ q => q) (fun σ5373 h5374 g5375 => ?_)
        refine m_aload_n F rfl e_X10_pays_222 ?_
        refine r_getC F e_X10_pays_223 fl_X10_59 h5374 ((fld_eq (g5375 _ (by omega))).trans ((fld_eq (g5369 _ (by omega))).trans ((fld_eq (g5363 _ (by omega))).trans ((fld_eq (h5358.2 c (by rw [show kC c c = 1 from kC_at (k := 0) (by decide)]; decide))).trans ((fld_eq (h5242.2 c (by rw [show kC c c = 1 from kC_at (k := 0) (by decide)]; decide))).trans ((fld_eq (h5026.2 c (by rw [show kC c c = 1 from kC_at (k := 0) (by decide)]; decide))).trans f5017)))))) ?_
        refine m_iload_n F rfl e_X10_pays_226 ?_
        refine m_bipush F (v := 10) (by decide) e_X10_pays_227 ?_
        refine m_iadd F e_X10_pays_229 ?_
        refine Wm.topE (w := nI (160 * n901 + 10)) (nI_add (160 * n901) 10) ?_
        refine m_dup2_11 F rfl rfl e_X10_pays_230 ?_
        refine r_sld F (j := 160 * n901 + 10) e_X10_pays_231 h5374 (nI_clamp (by omega)) (vp_in_nI (by omega) (by decide)) (fun x5376 h5377 => ?_)
        refine m_lload_n F rfl e_X10_pays_232 ?_
        refine m_ladd F e_X10_pays_233 ?_
        refine Wm.topl (fun x5378 _ => ?_)
        refine r_sst F (g' := (⟨T, Z, u, h, P, L⟩ : RG)) (j := 160 * n901 + 10) e_X10_pays_234 h5374 (by decide) (nI_clamp (by omega)) (vp_in_nI (by omega) (by decide)) (fun f q => EJ_same (EJ_lw (l := n901) (r := 10) (by omega) (by omega) (by omega)) q) (fun _ _ _ q => q) (fun σ5379 h5380 g5381 => ?_)
        refine m_aload_n F rfl e_X10_pays_235 ?_
        refine r_getC F e_X10_pays_236 fl_X10_59 h5380 ((fld_eq (g5381 _ (by omega))).trans ((fld_eq (g5375 _ (by omega))).trans ((fld_eq (g5369 _ (by omega))).trans ((fld_eq (g5363 _ (by omega))).trans ((fld_eq (h5358.2 c (by rw [show kC c c = 1 from kC_at (k := 0) (by decide)]; decide))).trans ((fld_eq (h5242.2 c (by rw [show kC c c = 1 from kC_at (k := 0) (by decide)]; decide))).trans ((fld_eq (h5026.2 c (by rw [show kC c c = 1 from kC_at (k := 0) (by decide)]; decide))).trans f5017))))))) ?_
        refine m_iload_n F rfl e_X10_pays_239 ?_
        refine m_iconst F (v := 5) (by decide) e_X10_pays_240 ?_
        refine m_iadd F e_X10_pays_241 ?_
        refine Wm.topE (w := nI (160 * n901 + 5)) (nI_add (160 * n901) 5) ?_
        refine m_dup2_11 F rfl rfl e_X10_pays_242 ?_
        refine r_sld F (j := 160 * n901 + 5) e_X10_pays_243 h5380 (nI_clamp (by omega)) (vp_in_nI (by omega) (by decide)) (fun x5382 h5383 => ?_)
        have hl5384 := hok.2 n901 (by omega)
        obtain rfl : x5382 = lN (L n901).2.2.2 := (EJ_l (l := n901) (r := 5) (by omega) (by decide)).mp h5383
        refine m_lconst F (v := 1) (by decide) e_X10_pays_244 ?_
        refine m_ladd F e_X10_pays_245 ?_
        refine Wm.toplE (w := lN ((L n901).2.2.2 + 1)) (lN_add ((L n901).2.2.2) 1) ?_
        refine r_sst F (g' := (⟨T, Z, u, h, P, (updL L n901 ((L n901).1, (L n901).2.1, (L n901).2.2.1, (L n901).2.2.2 + 1))⟩ : RG)) (j := 160 * n901 + 5) e_X10_pays_246 h5380 (by decide) (nI_clamp (by omega)) (vp_in_nI (by omega) (by decide)) (fun f q => EJ_up (l := n901) (r := 5) (by omega) (by decide) q rfl (by intro r' h1 h2 y hy; revert hy; unfold EL; split <;> simp_all)) CR.row (fun σ5385 h5386 g5387 => ?_)
        obtain ⟨L5388, eL5388⟩ : ∃ L9, L9 = (updL L n901 ((L n901).1, (L n901).2.1, (L n901).2.2.1, (L n901).2.2.2 + 1)) := ⟨_, rfl⟩
        rw [← eL5388] at h5386
        have fL5388 : L5388 n901 = ((L n901).1, (L n901).2.1, (L n901).2.2.1, (L n901).2.2.2 + 1) := by rw [eL5388]; exact if_pos rfl
        have fL53880 : (L5388 n901).1 = (L n901).1 := by rw [fL5388]
        have fL53881 : (L5388 n901).2.1 = (L n901).2.1 := by rw [fL5388]
        have fL53882 : (L5388 n901).2.2.1 = (L n901).2.2.1 := by rw [fL5388]
        have fL53883 : (L5388 n901).2.2.2 = (L n901).2.2.2 + 1 := by rw [fL5388]
        have oL5388 : ∀ i, i ≠ n901 → L5388 i = L i := fun i hi => by rw [eL5388]; exact if_neg hi
        have pL5388 : (L5388 4).1 = (L 4).1 := by rw [oL5388 4 (by omega)]
        refine m_aload_n F rfl e_X10_pays_247 ?_
        refine m_iconst F (v := 1) (by decide) e_X10_pays_248 ?_
        refine m_iload_n F rfl e_X10_pays_249 ?_
        refine m_lload_n F rfl e_X10_pays_250 ?_
        refine m_lneg F e_X10_pays_251 ?_
        refine Wm.topl (fun x5389 _ => ?_)
        refine m_lload F rfl e_X10_pays_252 ?_
        refine m_lload F rfl e_X10_pays_254 ?_
        refine m_lsub F e_X10_pays_256 ?_
        refine Wm.topl (fun x5390 _ => ?_)
        refine m_lload F rfl e_X10_pays_257 ?_
        refine m_lneg F e_X10_pays_259 ?_
        refine Wm.topl (fun x5391 _ => ?_)
        refine m_lload F rfl e_X10_pays_260 ?_
        refine m_lload F rfl e_X10_pays_262 ?_
        refine m_lconst F (v := 0) (by decide) e_X10_pays_264 ?_
        have okb5395 : OKB L5388 := OKB.upd (hok.b) (l := n901) (by omega) (fun i hi => (oL5388 i hi)) (by have h9 := (hok.b).2 n901 (by omega); omega)
        refine r_callV F e_X10_pays_265 (q_X10_entry (x_l X) V c T Z u h P L5388 _ _ 1 (nI n901) x5389 x5390 x5391 x5354 x5360 0 h5386.1 (okb5395) hP ) cb_X10_entry ml_X10_253 im_X10_entry se_X10_entry h5386 rfl rfl (rest := []) rfl (Nat.le_of_ble_eq_true rfl) ⟨Nat.le_of_ble_eq_true rfl, Nat.le_of_ble_eq_true rfl⟩ ⟨Nat.le_of_ble_eq_true rfl, Nat.le_of_ble_eq_true rfl⟩ (fun r σ5392 hp => ?_)
        obtain ⟨h5393, rfl⟩ := hp
        have h5394 := HS.trans h5386 h5393 (by decide)
        refine m_iload F rfl e_X10_pays_268 ?_
        refine m_if_eq F e_X10_pays_270 (fun q => absurd q (by decide)) (fun _ => ?_)
        refine m_aload_n F rfl e_X10_pays_273 ?_
        refine r_getC F e_X10_pays_274 fl_X10_59 h5394 ((fld_eq (h5393.2 c (by rw [show kC c c = 1 from kC_at (k := 0) (by decide)]; decide))).trans ((fld_eq (g5387 _ (by omega))).trans ((fld_eq (g5381 _ (by omega))).trans ((fld_eq (g5375 _ (by omega))).trans ((fld_eq (g5369 _ (by omega))).trans ((fld_eq (g5363 _ (by omega))).trans ((fld_eq (h5358.2 c (by rw [show kC c c = 1 from kC_at (k := 0) (by decide)]; decide))).trans ((fld_eq (h5242.2 c (by rw [show kC c c = 1 from kC_at (k := 0) (by decide)]; decide))).trans ((fld_eq (h5026.2 c (by rw [show kC c c = 1 from kC_at (k := 0) (by decide)]; decide))).trans f5017))))))))) ?_
        refine m_iload_n F rfl e_X10_pays_277 ?_
        refine m_iconst F (v := 0) (by decide) e_X10_pays_278 ?_
        refine m_iadd F e_X10_pays_279 ?_
        refine Wm.topE (w := nI (160 * n901)) (nI_add (160 * n901) 0) ?_
        refine m_ldc2 F kc_X10_234 e_X10_pays_280 ?_
        refine r_sst F (g' := (⟨T, Z, u, h, P, (updL L5388 n901 (2, (L5388 n901).2.1, (L5388 n901).2.2.1, (L5388 n901).2.2.2))⟩ : RG)) (j := 160 * n901) e_X10_pays_283 h5394 (by decide) (nI_clamp (by omega)) (vp_in_nI (by omega) (by decide)) (fun f q => EJ_up (l := n901) (r := 0) (by omega) (by decide) q rfl (by intro r' h1 h2 y hy; revert hy; unfold EL; split <;> simp_all)) CR.row (fun σ5396 h5397 g5398 => ?_)
        obtain ⟨L5399, eL5399⟩ : ∃ L9, L9 = (updL L5388 n901 (2, (L5388 n901).2.1, (L5388 n901).2.2.1, (L5388 n901).2.2.2)) := ⟨_, rfl⟩
        rw [← eL5399] at h5397
        have fL5399 : L5399 n901 = (2, (L5388 n901).2.1, (L5388 n901).2.2.1, (L5388 n901).2.2.2) := by rw [eL5399]; exact if_pos rfl
        have fL53990 : (L5399 n901).1 = 2 := by rw [fL5399]
        have fL53991 : (L5399 n901).2.1 = (L5388 n901).2.1 := by rw [fL5399]
        have fL53992 : (L5399 n901).2.2.1 = (L5388 n901).2.2.1 := by rw [fL5399]
        have fL53993 : (L5399 n901).2.2.2 = (L5388 n901).2.2.2 := by rw [fL5399]
        have oL5399 : ∀ i, i ≠ n901 → L5399 i = L5388 i := fun i hi => by rw [eL5399]; exact if_neg hi
        have pL5399 : (L5399 4).1 = (L5388 4).1 := by rw [oL5399 4 (by omega)]
        have ok5400 : OKL P.n0 L5399 := OKL.upd hok (l := n901) (by omega) (fun i hi => (oL5399 i hi).trans (oL5388 i hi)) (by have h9 := hok.2 n901 (by omega); omega)
        exact m_vret F hQ e_X10_pays_284 (⟨L5399, ok5400, (by first | omega | rfl | assumption), h5397, rfl⟩)
set_option maxRecDepth 20000 in
theorem q_X10_starts1 (l : Launch) (V : VX) (c T Z u h : Nat) (P : NP) (L : Nat → LQ) (N : Nat) (σ : Mem) (n901 : Nat) (h0 : HR V c ⟨T, Z, u, h, P, L⟩ σ) (hok : OKL P.n0 L) (hP : OKP P) (hn901 : n901 ≤ 3) (hp0 : (L n901).1 = 0) (hp1 : n901 < P.n0) : Ct l V yX10_starts1 cX10_starts1 5 none 2 0 0 N σ [.ref c, .int (nI n901)] (fun r τ => ∃ L9, OKL P.n0 L9 ∧ (L9 4).1 = (L 4).1 ∧ HS V c (⟨T, Z, u, h, P, L9⟩ : RG) [0, 1, 2, 3, 4, 5, 6, 7, 8, 9, 10, 11, 12, 13, 14, 15, 16, 18, 19, 20, 21, 22] σ τ ∧ r = none) := by
  refine Ct.of (by decide) (Nat.le_of_ble_eq_true rfl) [(0, .ref c), (1, .int (nI n901))] rfl (fun X hX F hQ => ?_)
  have hPP := hP
  unfold OKP at hPP
  have h1 : HS V c ⟨T, Z, u, h, P, L⟩ [0, 1, 2, 3, 4, 5, 6, 7, 8, 9, 10, 11, 12, 13, 14, 15, 16, 18, 19, 20, 21, 22] σ σ := HS.start h0
  have hl := hok.2 n901 (by omega)
  refine m_sipush F (v := 160) (by decide) e_X10_starts1_0 ?_
  refine m_iload_n F rfl e_X10_starts1_3 ?_
  refine m_imul F e_X10_starts1_4 ?_
  refine Wm.topE (w := nI (160 * n901)) (pk_mul 160 n901) ?_
  refine m_istore_n F (lv' := [(2, .int (nI (160 * n901))), (0, .ref c), (1, .int (nI n901))]) e_X10_starts1_5 (by decide) rfl ?_
  refine m_aload_n F rfl e_X10_starts1_6 ?_
  refine r_get F e_X10_starts1_7 fl_X10_34 h1 rfl (fun v hv f5401 => ?_)
  obtain rfl : v = .ref (c + 9) := hv
  refine m_iload_n F rfl e_X10_starts1_10 ?_
  refine r_iald F (len := 8) (j := n901) e_X10_starts1_11 h1 (fun _ h => h) (by decide) (nI_clamp (by omega)) (vp_in_nI (by omega) (by decide)) (fun x5402 h5403 f5404 => ?_)
  refine m_if_ne F e_X10_starts1_12 (fun q12 => ?_) (fun q12 => ?_)
  · refine m_aload_n F rfl e_X10_starts1_19 ?_
    refine r_getC F e_X10_starts1_20 fl_X10_34 h1 (f5401) ?_
    refine m_iload_n F rfl e_X10_starts1_23 ?_
    refine r_iald F (len := 8) (j := n901) e_X10_starts1_24 h1 (fun _ h => h) (by decide) (nI_clamp (by omega)) (vp_in_nI (by omega) (by decide)) (fun x5405 h5406 f5407 => ?_)
    obtain rfl := Option.some.inj ((f5407).symm.trans (f5404))
    refine m_iconst F (v := 1) (by decide) e_X10_starts1_25 ?_
    refine m_isub F e_X10_starts1_26 ?_
    refine Wm.top (fun x5408 _ => ?_)
    refine m_i2l F e_X10_starts1_27 ?_
    refine Wm.topl (fun x5409 _ => ?_)
    refine m_lstore_n F (lv' := [(3, .long x5409), (2, .int (nI (160 * n901))), (0, .ref c), (1, .int (nI n901))]) e_X10_starts1_28 (by decide) rfl ?_
    refine m_aload_n F rfl e_X10_starts1_29 ?_
    refine r_get F e_X10_starts1_30 fl_X10_59 h1 rfl (fun v hv f5410 => ?_)
    obtain rfl : v = .ref (c + 16) := hv
    refine m_iload_n F rfl e_X10_starts1_33 ?_
    refine m_iconst F (v := 0) (by decide) e_X10_starts1_34 ?_
    refine m_iadd F e_X10_starts1_35 ?_
    refine Wm.topE (w := nI (160 * n901)) (nI_add (160 * n901) 0) ?_
    refine m_lconst F (v := 1) (by decide) e_X10_starts1_36 ?_
    refine r_sst F (g' := (⟨T, Z, u, h, P, (updL L n901 (1, (L n901).2.1, (L n901).2.2.1, (L n901).2.2.2))⟩ : RG)) (j := 160 * n901) e_X10_starts1_37 h1 (by decide) (nI_clamp (by omega)) (vp_in_nI (by omega) (by decide)) (fun f q => EJ_up (l := n901) (r := 0) (by omega) (by decide) q rfl (by intro r' h1 h2 y hy; revert hy; unfold EL; split <;> simp_all)) CR.row (fun σ5411 h5412 g5413 => ?_)
    obtain ⟨L5414, eL5414⟩ : ∃ L9, L9 = (updL L n901 (1, (L n901).2.1, (L n901).2.2.1, (L n901).2.2.2)) := ⟨_, rfl⟩
    rw [← eL5414] at h5412
    have fL5414 : L5414 n901 = (1, (L n901).2.1, (L n901).2.2.1, (L n901).2.2.2) := by rw [eL5414]; exact if_pos rfl
    have fL54140 : (L5414 n901).1 = 1 := by rw [fL5414]
    have fL54141 : (L5414 n901).2.1 = (L n901).2.1 := by rw [fL5414]
    have fL54142 : (L5414 n901).2.2.1 = (L n901).2.2.1 := by rw [fL5414]
    have fL54143 : (L5414 n901).2.2.2 = (L n901).2.2.2 := by rw [fL5414]
    have oL5414 : ∀ i, i ≠ n901 → L5414 i = L i := fun i hi => by rw [eL5414]; exact if_neg hi
    have pL5414 : (L5414 4).1 = (L 4).1 := by rw [oL5414 4 (by omega)]
    refine m_aload_n F rfl e_X10_starts1_38 ?_
    refine r_getC F e_X10_starts1_39 fl_X10_59 h5412 ((fld_eq (g5413 _ (by omega))).trans f5410) ?_
    refine m_iload_n F rfl e_X10_starts1_42 ?_
    refine m_bipush F (v := 6) (by decide) e_X10_starts1_43 ?_
    refine m_iadd F e_X10_starts1_45 ?_
    refine Wm.topE (w := nI (160 * n901 + 6)) (nI_add (160 * n901) 6) ?_
    refine m_aload_n F rfl e_X10_starts1_46 ?_
    refine m_iload_n F rfl e_X10_starts1_47 ?_
    refine m_iconst F (v := 1) (by decide) e_X10_starts1_48 ?_
    refine m_aload_n F rfl e_X10_starts1_49 ?_
    refine r_getC F e_X10_starts1_50 fl_X10_59 h5412 ((fld_eq (g5413 _ (by omega))).trans f5410) ?_
    refine m_iload_n F rfl e_X10_starts1_53 ?_
    refine m_iconst F (v := 2) (by decide) e_X10_starts1_54 ?_
    refine m_iadd F e_X10_starts1_55 ?_
    refine Wm.topE (w := nI (160 * n901 + 2)) (nI_add (160 * n901) 2) ?_
    refine r_sld F (j := 160 * n901 + 2) e_X10_starts1_56 h5412 (nI_clamp (by omega)) (vp_in_nI (by omega) (by decide)) (fun x5415 h5416 => ?_)
    obtain ⟨n5417, hn5417, rfl⟩ : ∃ n : Nat, n ≤ 1000000 ∧ x5415 = lN n := (EJ_l (l := n901) (r := 2) (by omega) (by decide)).mp h5416
    refine m_ldc2 F kc_X10_245 e_X10_starts1_57 ?_
    have okb5421 : OKB L5414 := OKB.upd (hok.b) (l := n901) (by omega) (fun i hi => (oL5414 i hi)) (by have h9 := (hok.b).2 n901 (by omega); omega)
    refine r_callV F e_X10_starts1_60 (q_X10_worthBy (x_l X) V c T Z u h P L5414 _ _ n901 1 n5417 (-1) h5412.1 (okb5421) hP (by omega) (by omega) (by omega) (by first | omega | assumption | decide)) cb_X10_worthBy ml_X10_247 im_X10_worthBy se_X10_worthBy h5412 rfl rfl (rest := [.int (nI (160 * n901 + 6)), .ref (c + 16)]) rfl (Nat.le_of_ble_eq_true rfl) ⟨Nat.le_of_ble_eq_true rfl, Nat.le_of_ble_eq_true rfl⟩ ⟨Nat.le_of_ble_eq_true rfl, Nat.le_of_ble_eq_true rfl⟩ (fun r σ5418 hp => ?_)
    obtain ⟨h5419, x5422, rfl⟩ := hp
    have h5420 := HS.trans h5412 h5419 (by decide)
    refine r_sst F (g' := (⟨T, Z, u, h, P, L5414⟩ : RG)) (j := 160 * n901 + 6) e_X10_starts1_63 h5420 (by decide) (nI_clamp (by omega)) (vp_in_nI (by omega) (by decide)) (fun f q => EJ_same (EJ_lw (l := n901) (r := 6) (by omega) (by omega) (by omega)) q) (fun _ _ _ q => q) (fun σ5423 h5424 g5425 => ?_)
    refine m_aload_n F rfl e_X10_starts1_64 ?_
    refine r_getC F e_X10_starts1_65 fl_X10_59 h5424 ((fld_eq (g5425 _ (by omega))).trans ((fld_eq (h5419.2 c (by rw [show kC c c = 1 from kC_at (k := 0) (by decide)]; decide))).trans ((fld_eq (g5413 _ (by omega))).trans f5410))) ?_
    refine m_iload_n F rfl e_X10_starts1_68 ?_
    refine m_bipush F (v := 8) (by decide) e_X10_starts1_69 ?_
    refine m_iadd F e_X10_starts1_71 ?_
    refine Wm.topE (w := nI (160 * n901 + 8)) (nI_add (160 * n901) 8) ?_
    refine m_aload_n F rfl e_X10_starts1_72 ?_
    refine r_getC F e_X10_starts1_73 fl_X10_59 h5424 ((fld_eq (g5425 _ (by omega))).trans ((fld_eq (h5419.2 c (by rw [show kC c c = 1 from kC_at (k := 0) (by decide)]; decide))).trans ((fld_eq (g5413 _ (by omega))).trans f5410))) ?_
    refine m_iload_n F rfl e_X10_starts1_76 ?_
    refine m_bipush F (v := 6) (by decide) e_X10_starts1_77 ?_
    refine m_iadd F e_X10_starts1_79 ?_
    refine Wm.topE (w := nI (160 * n901 + 6)) (nI_add (160 * n901) 6) ?_
    refine r_sld F (j := 160 * n901 + 6) e_X10_starts1_80 h5424 (nI_clamp (by omega)) (vp_in_nI (by omega) (by decide)) (fun x5426 h5427 => ?_)
    refine r_sst F (g' := (⟨T, Z, u, h, P, L5414⟩ : RG)) (j := 160 * n901 + 8) e_X10_starts1_81 h5424 (by decide) (nI_clamp (by omega)) (vp_in_nI (by omega) (by decide)) (fun f q => EJ_same (EJ_lw (l := n901) (r := 8) (by omega) (by omega) (by omega)) q) (fun _ _ _ q => q) (fun σ5428 h5429 g5430 => ?_)
    refine m_aload_n F rfl e_X10_starts1_82 ?_
    refine r_getC F e_X10_starts1_83 fl_X10_59 h5429 ((fld_eq (g5430 _ (by omega))).trans ((fld_eq (g5425 _ (by omega))).trans ((fld_eq (h5419.2 c (by rw [show kC c c = 1 from kC_at (k := 0) (by decide)]; decide))).trans ((fld_eq (g5413 _ (by omega))).trans f5410)))) ?_
    refine m_iload_n F rfl e_X10_starts1_86 ?_
    refine m_bipush F (v := 7) (by decide) e_X10_starts1_87 ?_
    refine m_iadd F e_X10_starts1_89 ?_
    refine Wm.topE (w := nI (160 * n901 + 7)) (nI_add (160 * n901) 7) ?_
    refine m_aload_n F rfl e_X10_starts1_90 ?_
    refine r_getC F e_X10_starts1_91 fl_X10_59 h5429 ((fld_eq (g5430 _ (by omega))).trans ((fld_eq (g5425 _ (by omega))).trans ((fld_eq (h5419.2 c (by rw [show kC c c = 1 from kC_at (k := 0) (by decide)]; decide))).trans ((fld_eq (g5413 _ (by omega))).trans f5410)))) ?_
    refine m_iload_n F rfl e_X10_starts1_94 ?_
    refine m_bipush F (v := 6) (by decide) e_X10_starts1_95 ?_
    refine m_iadd F e_X10_starts1_97 ?_
    refine Wm.topE (w := nI (160 * n901 + 6)) (nI_add (160 * n901) 6) ?_
    refine r_sld F (j := 160 * n901 + 6) e_X10_starts1_98 h5429 (nI_clamp (by omega)) (vp_in_nI (by omega) (by decide)) (fun x5431 h5432 => ?_)
    refine m_lload_n F rfl e_X10_starts1_99 ?_
    refine m_ladd F e_X10_starts1_100 ?_
    refine Wm.topl (fun x5433 _ => ?_)
    refine r_sst F (g' := (⟨T, Z, u, h, P, L5414⟩ : RG)) (j := 160 * n901 + 7) e_X10_starts1_101 h5429 (by decide) (nI_clamp (by omega)) (vp_in_nI (by omega) (by decide)) (fun f q => EJ_same (EJ_lw (l := n901) (r := 7) (by omega) (by omega) (by omega)) q) (fun _ _ _ q => q) (fun σ5434 h5435 g5436 => ?_)
    refine m_aload_n F rfl e_X10_starts1_102 ?_
    refine r_getC F e_X10_starts1_103 fl_X10_59 h5435 ((fld_eq (g5436 _ (by omega))).trans ((fld_eq (g5430 _ (by omega))).trans ((fld_eq (g5425 _ (by omega))).trans ((fld_eq (h5419.2 c (by rw [show kC c c = 1 from kC_at (k := 0) (by decide)]; decide))).trans ((fld_eq (g5413 _ (by omega))).trans f5410))))) ?_
    refine m_iload_n F rfl e_X10_starts1_106 ?_
    refine m_iconst F (v := 3) (by decide) e_X10_starts1_107 ?_
    refine m_iadd F e_X10_starts1_108 ?_
    refine Wm.topE (w := nI (160 * n901 + 3)) (nI_add (160 * n901) 3) ?_
    refine m_aload_n F rfl e_X10_starts1_109 ?_
    have okb5440 : OKB L5414 := OKB.upd (hok.b) (l := n901) (by omega) (fun i hi => (oL5414 i hi)) (by have h9 := (hok.b).2 n901 (by omega); omega)
    refine r_callV F e_X10_starts1_110 (q_X10_indexNow (x_l X) V c T Z u h P L5414 _ _  h5435.1 (okb5440) hP ) cb_X10_indexNow ml_X10_260 im_X10_indexNow se_X10_indexNow h5435 rfl rfl (rest := [.int (nI (160 * n901 + 3)), .ref (c + 16)]) rfl (Nat.le_of_ble_eq_true rfl) ⟨Nat.le_of_ble_eq_true rfl, Nat.le_of_ble_eq_true rfl⟩ ⟨Nat.le_of_ble_eq_true rfl, Nat.le_of_ble_eq_true rfl⟩ (fun r σ5437 hp => ?_)
    obtain ⟨h5438, n5441, hn5441, gn5441, rfl⟩ := hp
    have h5439 := HS.trans h5435 h5438 (by decide)
    refine r_sst F (g' := (⟨T, Z, u, h, P, (updL L5414 n901 ((L5414 n901).1, (L5414 n901).2.1, n5441, (L5414 n901).2.2.2))⟩ : RG)) (j := 160 * n901 + 3) e_X10_starts1_113 h5439 (by decide) (nI_clamp (by omega)) (vp_in_nI (by omega) (by decide)) (fun f q => EJ_up (l := n901) (r := 3) (by omega) (by decide) q rfl (by intro r' h1 h2 y hy; revert hy; unfold EL; split <;> simp_all)) CR.row (fun σ5442 h5443 g5444 => ?_)
    obtain ⟨L5445, eL5445⟩ : ∃ L9, L9 = (updL L5414 n901 ((L5414 n901).1, (L5414 n901).2.1, n5441, (L5414 n901).2.2.2)) := ⟨_, rfl⟩
    rw [← eL5445] at h5443
    have fL5445 : L5445 n901 = ((L5414 n901).1, (L5414 n901).2.1, n5441, (L5414 n901).2.2.2) := by rw [eL5445]; exact if_pos rfl
    have fL54450 : (L5445 n901).1 = (L5414 n901).1 := by rw [fL5445]
    have fL54451 : (L5445 n901).2.1 = (L5414 n901).2.1 := by rw [fL5445]
    have fL54452 : (L5445 n901).2.2.1 = n5441 := by rw [fL5445]
    have fL54453 : (L5445 n901).2.2.2 = (L5414 n901).2.2.2 := by rw [fL5445]
    have oL5445 : ∀ i, i ≠ n901 → L5445 i = L5414 i := fun i hi => by rw [eL5445]; exact if_neg hi
    have pL5445 : (L5445 4).1 = (L5414 4).1 := by rw [oL5445 4 (by omega)]
    refine m_aload_n F rfl e_X10_starts1_114 ?_
    refine r_getC F e_X10_starts1_115 fl_X10_59 h5443 ((fld_eq (g5444 _ (by omega))).trans ((fld_eq (h5438.2 c (by rw [show kC c c = 1 from kC_at (k := 0) (by decide)]; decide))).trans ((fld_eq (g5436 _ (by omega))).trans ((fld_eq (g5430 _ (by omega))).trans ((fld_eq (g5425 _ (by omega))).trans ((fld_eq (h5419.2 c (by rw [show kC c c = 1 from kC_at (k := 0) (by decide)]; decide))).trans ((fld_eq (g5413 _ (by omega))).trans f5410))))))) ?_
    refine m_iload_n F rfl e_X10_starts1_118 ?_
    refine m_iconst F (v := 4) (by decide) e_X10_starts1_119 ?_
    refine m_iadd F e_X10_starts1_120 ?_
    refine Wm.topE (w := nI (160 * n901 + 4)) (nI_add (160 * n901) 4) ?_
    refine m_aload_n F rfl e_X10_starts1_121 ?_
    have okb5449 : OKB L5445 := OKB.upd (hok.b) (l := n901) (by omega) (fun i hi => (oL5445 i hi).trans (oL5414 i hi)) (by have h9 := (hok.b).2 n901 (by omega); omega)
    refine r_callV F e_X10_starts1_122 (q_X10_indexNow (x_l X) V c T Z u h P L5445 _ _  h5443.1 (okb5449) hP ) cb_X10_indexNow ml_X10_260 im_X10_indexNow se_X10_indexNow h5443 rfl rfl (rest := [.int (nI (160 * n901 + 4)), .ref (c + 16)]) rfl (Nat.le_of_ble_eq_true rfl) ⟨Nat.le_of_ble_eq_true rfl, Nat.le_of_ble_eq_true rfl⟩ ⟨Nat.le_of_ble_eq_true rfl, Nat.le_of_ble_eq_true rfl⟩ (fun r σ5446 hp => ?_)
    obtain ⟨h5447, n5450, hn5450, gn5450, rfl⟩ := hp
    have h5448 := HS.trans h5443 h5447 (by decide)
    refine r_sst F (g' := (⟨T, Z, u, h, P, L5445⟩ : RG)) (j := 160 * n901 + 4) e_X10_starts1_125 h5448 (by decide) (nI_clamp (by omega)) (vp_in_nI (by omega) (by decide)) (fun f q => EJ_same (EJ_lw (l := n901) (r := 4) (by omega) (by omega) (by omega)) q) (fun _ _ _ q => q) (fun σ5451 h5452 g5453 => ?_)
    refine m_aload_n F rfl e_X10_starts1_126 ?_
    refine m_iconst F (v := 0) (by decide) e_X10_starts1_127 ?_
    refine m_iload_n F rfl e_X10_starts1_128 ?_
    refine m_lload_n F rfl e_X10_starts1_129 ?_
    refine m_lneg F e_X10_starts1_130 ?_
    refine Wm.topl (fun x5454 _ => ?_)
    refine m_aload_n F rfl e_X10_starts1_131 ?_
    refine r_getC F e_X10_starts1_132 fl_X10_59 h5452 ((fld_eq (g5453 _ (by omega))).trans ((fld_eq (h5447.2 c (by rw [show kC c c = 1 from kC_at (k := 0) (by decide)]; decide))).trans ((fld_eq (g5444 _ (by omega))).trans ((fld_eq (h5438.2 c (by rw [show kC c c = 1 from kC_at (k := 0) (by decide)]; decide))).trans ((fld_eq (g5436 _ (by omega))).trans ((fld_eq (g5430 _ (by omega))).trans ((fld_eq (g5425 _ (by omega))).trans ((fld_eq (h5419.2 c (by rw [show kC c c = 1 from kC_at (k := 0) (by decide)]; decide))).trans ((fld_eq (g5413 _ (by omega))).trans f5410))))))))) ?_
    refine m_iload_n F rfl e_X10_starts1_135 ?_
    refine m_bipush F (v := 6) (by decide) e_X10_starts1_136 ?_
    refine m_iadd F e_X10_starts1_138 ?_
    refine Wm.topE (w := nI (160 * n901 + 6)) (nI_add (160 * n901) 6) ?_
    refine r_sld F (j := 160 * n901 + 6) e_X10_starts1_139 h5452 (nI_clamp (by omega)) (vp_in_nI (by omega) (by decide)) (fun x5455 h5456 => ?_)
    refine m_lneg F e_X10_starts1_140 ?_
    refine Wm.topl (fun x5457 _ => ?_)
    refine m_aload_n F rfl e_X10_starts1_141 ?_
    refine r_getC F e_X10_starts1_142 fl_X10_59 h5452 ((fld_eq (g5453 _ (by omega))).trans ((fld_eq (h5447.2 c (by rw [show kC c c = 1 from kC_at (k := 0) (by decide)]; decide))).trans ((fld_eq (g5444 _ (by omega))).trans ((fld_eq (h5438.2 c (by rw [show kC c c = 1 from kC_at (k := 0) (by decide)]; decide))).trans ((fld_eq (g5436 _ (by omega))).trans ((fld_eq (g5430 _ (by omega))).trans ((fld_eq (g5425 _ (by omega))).trans ((fld_eq (h5419.2 c (by rw [show kC c c = 1 from kC_at (k := 0) (by decide)]; decide))).trans ((fld_eq (g5413 _ (by omega))).trans f5410))))))))) ?_
    refine m_iload_n F rfl e_X10_starts1_145 ?_
    refine m_bipush F (v := 7) (by decide) e_X10_starts1_146 ?_
    refine m_iadd F e_X10_starts1_148 ?_
    refine Wm.topE (w := nI (160 * n901 + 7)) (nI_add (160 * n901) 7) ?_
    refine r_sld F (j := 160 * n901 + 7) e_X10_starts1_149 h5452 (nI_clamp (by omega)) (vp_in_nI (by omega) (by decide)) (fun x5458 h5459 => ?_)
    refine m_lconst F (v := 0) (by decide) e_X10_starts1_150 ?_
    refine m_lconst F (v := 0) (by decide) e_X10_starts1_151 ?_
    refine m_lconst F (v := 0) (by decide) e_X10_starts1_152 ?_
    have okb5463 : OKB L5445 := OKB.upd (hok.b) (l := n901) (by omega) (fun i hi => (oL5445 i hi).trans (oL5414 i hi)) (by have h9 := (hok.b).2 n901 (by omega); omega)
    refine r_callV F e_X10_starts1_153 (q_X10_entry (x_l X) V c T Z u h P L5445 _ _ 0 (nI n901) x5454 x5457 x5458 0 0 0 h5452.1 (okb5463) hP ) cb_X10_entry ml_X10_253 im_X10_entry se_X10_entry h5452 rfl rfl (rest := []) rfl (Nat.le_of_ble_eq_true rfl) ⟨Nat.le_of_ble_eq_true rfl, Nat.le_of_ble_eq_true rfl⟩ ⟨Nat.le_of_ble_eq_true rfl, Nat.le_of_ble_eq_true rfl⟩ (fun r σ5460 hp => ?_)
    obtain ⟨h5461, rfl⟩ := hp
    have h5462 := HS.trans h5452 h5461 (by decide)
    have ok5464 : OKL P.n0 L5445 := OKL.upd hok (l := n901) (by omega) (fun i hi => (oL5445 i hi).trans (oL5414 i hi)) (by have h9 := hok.2 n901 (by omega); omega)
    exact m_vret F hQ e_X10_starts1_156 (⟨L5445, ok5464, (by first | omega | rfl | assumption), h5462, rfl⟩)
  · subst q12
    refine m_lconst F (v := 0) (by decide) e_X10_starts1_15 ?_
    refine m_goto F e_X10_starts1_16 ?_
    refine m_lstore_n F (lv' := [(3, .long 0), (2, .int (nI (160 * n901))), (0, .ref c), (1, .int (nI n901))]) e_X10_starts1_28 (by decide) rfl ?_
    refine m_aload_n F rfl e_X10_starts1_29 ?_
    refine r_get F e_X10_starts1_30 fl_X10_59 h1 rfl (fun v hv f5465 => ?_)
    obtain rfl : v = .ref (c + 16) := hv
    refine m_iload_n F rfl e_X10_starts1_33 ?_
    refine m_iconst F (v := 0) (by decide) e_X10_starts1_34 ?_
    refine m_iadd F e_X10_starts1_35 ?_
    refine Wm.topE (w := nI (160 * n901)) (nI_add (160 * n901) 0) ?_
    refine m_lconst F (v := 1) (by decide) e_X10_starts1_36 ?_
    refine r_sst F (g' := (⟨T, Z, u, h, P, (updL L n901 (1, (L n901).2.1, (L n901).2.2.1, (L n901).2.2.2))⟩ : RG)) (j := 160 * n901) e_X10_starts1_37 h1 (by decide) (nI_clamp (by omega)) (vp_in_nI (by omega) (by decide)) (fun f q => EJ_up (l := n901) (r := 0) (by omega) (by decide) q rfl (by intro r' h1 h2 y hy; revert hy; unfold EL; split <;> simp_all)) CR.row (fun σ5466 h5467 g5468 => ?_)
    obtain ⟨L5469, eL5469⟩ : ∃ L9, L9 = (updL L n901 (1, (L n901).2.1, (L n901).2.2.1, (L n901).2.2.2)) := ⟨_, rfl⟩
    rw [← eL5469] at h5467
    have fL5469 : L5469 n901 = (1, (L n901).2.1, (L n901).2.2.1, (L n901).2.2.2) := by rw [eL5469]; exact if_pos rfl
    have fL54690 : (L5469 n901).1 = 1 := by rw [fL5469]
    have fL54691 : (L5469 n901).2.1 = (L n901).2.1 := by rw [fL5469]
    have fL54692 : (L5469 n901).2.2.1 = (L n901).2.2.1 := by rw [fL5469]
    have fL54693 : (L5469 n901).2.2.2 = (L n901).2.2.2 := by rw [fL5469]
    have oL5469 : ∀ i, i ≠ n901 → L5469 i = L i := fun i hi => by rw [eL5469]; exact if_neg hi
    have pL5469 : (L5469 4).1 = (L 4).1 := by rw [oL5469 4 (by omega)]
    refine m_aload_n F rfl e_X10_starts1_38 ?_
    refine r_getC F e_X10_starts1_39 fl_X10_59 h5467 ((fld_eq (g5468 _ (by omega))).trans f5465) ?_
    refine m_iload_n F rfl e_X10_starts1_42 ?_
    refine m_bipush F (v := 6) (by decide) e_X10_starts1_43 ?_
    refine m_iadd F e_X10_starts1_45 ?_
    refine Wm.topE (w := nI (160 * n901 + 6)) (nI_add (160 * n901) 6) ?_
    refine m_aload_n F rfl e_X10_starts1_46 ?_
    refine m_iload_n F rfl e_X10_starts1_47 ?_
    refine m_iconst F (v := 1) (by decide) e_X10_starts1_48 ?_
    refine m_aload_n F rfl e_X10_starts1_49 ?_
    refine r_getC F e_X10_starts1_50 fl_X10_59 h5467 ((fld_eq (g5468 _ (by omega))).trans f5465) ?_
    refine m_iload_n F rfl e_X10_starts1_53 ?_
    refine m_iconst F (v := 2) (by decide) e_X10_starts1_54 ?_
    refine m_iadd F e_X10_starts1_55 ?_
    refine Wm.topE (w := nI (160 * n901 + 2)) (nI_add (160 * n901) 2) ?_
    refine r_sld F (j := 160 * n901 + 2) e_X10_starts1_56 h5467 (nI_clamp (by omega)) (vp_in_nI (by omega) (by decide)) (fun x5470 h5471 => ?_)
    obtain ⟨n5472, hn5472, rfl⟩ : ∃ n : Nat, n ≤ 1000000 ∧ x5470 = lN n := (EJ_l (l := n901) (r := 2) (by omega) (by decide)).mp h5471
    refine m_ldc2 F kc_X10_245 e_X10_starts1_57 ?_
    have okb5476 : OKB L5469 := OKB.upd (hok.b) (l := n901) (by omega) (fun i hi => (oL5469 i hi)) (by have h9 := (hok.b).2 n901 (by omega); omega)
    refine r_callV F e_X10_starts1_60 (q_X10_worthBy (x_l X) V c T Z u h P L5469 _ _ n901 1 n5472 (-1) h5467.1 (okb5476) hP (by omega) (by omega) (by omega) (by first | omega | assumption | decide)) cb_X10_worthBy ml_X10_247 im_X10_worthBy se_X10_worthBy h5467 rfl rfl (rest := [.int (nI (160 * n901 + 6)), .ref (c + 16)]) rfl (Nat.le_of_ble_eq_true rfl) ⟨Nat.le_of_ble_eq_true rfl, Nat.le_of_ble_eq_true rfl⟩ ⟨Nat.le_of_ble_eq_true rfl, Nat.le_of_ble_eq_true rfl⟩ (fun r σ5473 hp => ?_)
    obtain ⟨h5474, x5477, rfl⟩ := hp
    have h5475 := HS.trans h5467 h5474 (by decide)
    refine r_sst F (g' := (⟨T, Z, u, h, P, L5469⟩ : RG)) (j := 160 * n901 + 6) e_X10_starts1_63 h5475 (by decide) (nI_clamp (by omega)) (vp_in_nI (by omega) (by decide)) (fun f q => EJ_same (EJ_lw (l := n901) (r := 6) (by omega) (by omega) (by omega)) q) (fun _ _ _ q => q) (fun σ5478 h5479 g5480 => ?_)
    refine m_aload_n F rfl e_X10_starts1_64 ?_
    refine r_getC F e_X10_starts1_65 fl_X10_59 h5479 ((fld_eq (g5480 _ (by omega))).trans ((fld_eq (h5474.2 c (by rw [show kC c c = 1 from kC_at (k := 0) (by decide)]; decide))).trans ((fld_eq (g5468 _ (by omega))).trans f5465))) ?_
    refine m_iload_n F rfl e_X10_starts1_68 ?_
    refine m_bipush F (v := 8) (by decide) e_X10_starts1_69 ?_
    refine m_iadd F e_X10_starts1_71 ?_
    refine Wm.topE (w := nI (160 * n901 + 8)) (nI_add (160 * n901) 8) ?_
    refine m_aload_n F rfl e_X10_starts1_72 ?_
    refine r_getC F e_X10_starts1_73 fl_X10_59 h5479 ((fld_eq (g5480 _ (by omega))).trans ((fld_eq (h5474.2 c (by rw [show kC c c = 1 from kC_at (k := 0) (by decide)]; decide))).trans ((fld_eq (g5468 _ (by omega))).trans f5465))) ?_
    refine m_iload_n F rfl e_X10_starts1_76 ?_
    refine m_bipush F (v := 6) (by decide) e_X10_starts1_77 ?_
    refine m_iadd F e_X10_starts1_79 ?_
    refine Wm.topE (w := nI (160 * n901 + 6)) (nI_add (160 * n901) 6) ?_
    refine r_sld F (j := 160 * n901 + 6) e_X10_starts1_80 h5479 (nI_clamp (by omega)) (vp_in_nI (by omega) (by decide)) (fun x5481 h5482 => ?_)
    refine r_sst F (g' := (⟨T, Z, u, h, P, L5469⟩ : RG)) (j := 160 * n901 + 8) e_X10_starts1_81 h5479 (by decide) (nI_clamp (by omega)) (vp_in_nI (by omega) (by decide)) (fun f q => EJ_same (EJ_lw (l := n901) (r := 8) (by omega) (by omega) (by omega)) q) (fun _ _ _ q => q) (fun σ5483 h5484 g5485 => ?_)
    refine m_aload_n F rfl e_X10_starts1_82 ?_
    refine r_getC F e_X10_starts1_83 fl_X10_59 h5484 ((fld_eq (g5485 _ (by omega))).trans ((fld_eq (g5480 _ (by omega))).trans ((fld_eq (h5474.2 c (by rw [show kC c c = 1 from kC_at (k := 0) (by decide)]; decide))).trans ((fld_eq (g5468 _ (by omega))).trans f5465)))) ?_
    refine m_iload_n F rfl e_X10_starts1_86 ?_
    refine m_bipush F (v := 7) (by decide) e_X10_starts1_87 ?_
    refine m_iadd F e_X10_starts1_89 ?_
    refine Wm.topE (w := nI (160 * n901 + 7)) (nI_add (160 * n901) 7) ?_
    refine m_aload_n F rfl e_X10_starts1_90 ?_
    refine r_getC F e_X10_starts1_91 fl_X10_59 h5484 ((fld_eq (g5485 _ (by omega))).trans ((fld_eq (g5480 _ (by omega))).trans ((fld_eq (h5474.2 c (by rw [show kC c c = 1 from kC_at (k := 0) (by decide)]; decide))).trans ((fld_eq (g5468 _ (by omega))).trans f5465)))) ?_
    refine m_iload_n F rfl e_X10_starts1_94 ?_
    refine m_bipush F (v := 6) (by decide) e_X10_starts1_95 ?_
    refine m_iadd F e_X10_starts1_97 ?_
    refine Wm.topE (w := nI (160 * n901 + 6)) (nI_add (160 * n901) 6) ?_
    refine r_sld F (j := 160 * n901 + 6) e_X10_starts1_98 h5484 (nI_clamp (by omega)) (vp_in_nI (by omega) (by decide)) (fun x5486 h5487 => ?_)
    refine m_lload_n F rfl e_X10_starts1_99 ?_
    refine m_ladd F e_X10_starts1_100 ?_
    refine Wm.topl (fun x5488 _ => ?_)
    refine r_sst F (g' := (⟨T, Z, u, h, P, L5469⟩ : RG)) (j := 160 * n901 + 7) e_X10_starts1_101 h5484 (by decide) (nI_clamp (by omega)) (vp_in_nI (by omega) (by decide)) (fun f q => EJ_same (EJ_lw (l := n901) (r := 7) (by omega) (by omega) (by omega)) q) (fun _ _ _ q => q) (fun σ5489 h5490 g5491 => ?_)
    refine m_aload_n F rfl e_X10_starts1_102 ?_
    refine r_getC F e_X10_starts1_103 fl_X10_59 h5490 ((fld_eq (g5491 _ (by omega))).trans ((fld_eq (g5485 _ (by omega))).trans ((fld_eq (g5480 _ (by omega))).trans ((fld_eq (h5474.2 c (by rw [show kC c c = 1 from kC_at (k := 0) (by decide)]; decide))).trans ((fld_eq (g5468 _ (by omega))).trans f5465))))) ?_
    refine m_iload_n F rfl e_X10_starts1_106 ?_
    refine m_iconst F (v := 3) (by decide) e_X10_starts1_107 ?_
    refine m_iadd F e_X10_starts1_108 ?_
    refine Wm.topE (w := nI (160 * n901 + 3)) (nI_add (160 * n901) 3) ?_
    refine m_aload_n F rfl e_X10_starts1_109 ?_
    have okb5495 : OKB L5469 := OKB.upd (hok.b) (l := n901) (by omega) (fun i hi => (oL5469 i hi)) (by have h9 := (hok.b).2 n901 (by omega); omega)
    refine r_callV F e_X10_starts1_110 (q_X10_indexNow (x_l X) V c T Z u h P L5469 _ _  h5490.1 (okb5495) hP ) cb_X10_indexNow ml_X10_260 im_X10_indexNow se_X10_indexNow h5490 rfl rfl (rest := [.int (nI (160 * n901 + 3)), .ref (c + 16)]) rfl (Nat.le_of_ble_eq_true rfl) ⟨Nat.le_of_ble_eq_true rfl, Nat.le_of_ble_eq_true rfl⟩ ⟨Nat.le_of_ble_eq_true rfl, Nat.le_of_ble_eq_true rfl⟩ (fun r σ5492 hp => ?_)
    obtain ⟨h5493, n5496, hn5496, gn5496, rfl⟩ := hp
    have h5494 := HS.trans h5490 h5493 (by decide)
    refine r_sst F (g' := (⟨T, Z, u, h, P, (updL L5469 n901 ((L5469 n901).1, (L5469 n901).2.1, n5496, (L5469 n901).2.2.2))⟩ : RG)) (j := 160 * n901 + 3) e_X10_starts1_113 h5494 (by decide) (nI_clamp (by omega)) (vp_in_nI (by omega) (by decide)) (fun f q => EJ_up (l := n901) (r := 3) (by omega) (by decide) q rfl (by intro r' h1 h2 y hy; revert hy; unfold EL; split <;> simp_all)) CR.row (fun σ5497 h5498 g5499 => ?_)
    obtain ⟨L5500, eL5500⟩ : ∃ L9, L9 = (updL L5469 n901 ((L5469 n901).1, (L5469 n901).2.1, n5496, (L5469 n901).2.2.2)) := ⟨_, rfl⟩
    rw [← eL5500] at h5498
    have fL5500 : L5500 n901 = ((L5469 n901).1, (L5469 n901).2.1, n5496, (L5469 n901).2.2.2) := by rw [eL5500]; exact if_pos rfl
    have fL55000 : (L5500 n901).1 = (L5469 n901).1 := by rw [fL5500]
    have fL55001 : (L5500 n901).2.1 = (L5469 n901).2.1 := by rw [fL5500]
    have fL55002 : (L5500 n901).2.2.1 = n5496 := by rw [fL5500]
    have fL55003 : (L5500 n901).2.2.2 = (L5469 n901).2.2.2 := by rw [fL5500]
    have oL5500 : ∀ i, i ≠ n901 → L5500 i = L5469 i := fun i hi => by rw [eL5500]; exact if_neg hi
    have pL5500 : (L5500 4).1 = (L5469 4).1 := by rw [oL5500 4 (by omega)]
    refine m_aload_n F rfl e_X10_starts1_114 ?_
    refine r_getC F e_X10_starts1_115 fl_X10_59 h5498 ((fld_eq (g5499 _ (by omega))).trans ((fld_eq (h5493.2 c (by rw [show kC c c = 1 from kC_at (k := 0) (by decide)]; decide))).trans ((fld_eq (g5491 _ (by omega))).trans ((fld_eq (g5485 _ (by omega))).trans ((fld_eq (g5480 _ (by omega))).trans ((fld_eq (h5474.2 c (by rw [show kC c c = 1 from kC_at (k := 0) (by decide)]; decide))).trans ((fld_eq (g5468 _ (by omega))).trans f5465))))))) ?_
    refine m_iload_n F rfl e_X10_starts1_118 ?_
    refine m_iconst F (v := 4) (by decide) e_X10_starts1_119 ?_
    refine m_iadd F e_X10_starts1_120 ?_
    refine Wm.topE (w := nI (160 * n901 + 4)) (nI_add (160 * n901) 4) ?_
    refine m_aload_n F rfl e_X10_starts1_121 ?_
    have okb5504 : OKB L5500 := OKB.upd (hok.b) (l := n901) (by omega) (fun i hi => (oL5500 i hi).trans (oL5469 i hi)) (by have h9 := (hok.b).2 n901 (by omega); omega)
    refine r_callV F e_X10_starts1_122 (q_X10_indexNow (x_l X) V c T Z u h P L5500 _ _  h5498.1 (okb5504) hP ) cb_X10_indexNow ml_X10_260 im_X10_indexNow se_X10_indexNow h5498 rfl rfl (rest := [.int (nI (160 * n901 + 4)), .ref (c + 16)]) rfl (Nat.le_of_ble_eq_true rfl) ⟨Nat.le_of_ble_eq_true rfl, Nat.le_of_ble_eq_true rfl⟩ ⟨Nat.le_of_ble_eq_true rfl, Nat.le_of_ble_eq_true rfl⟩ (fun r σ5501 hp => ?_)
    obtain ⟨h5502, n5505, hn5505, gn5505, rfl⟩ := hp
    have h5503 := HS.trans h5498 h5502 (by decide)
    refine r_sst F (g' := (⟨T, Z, u, h, P, L5500⟩ : RG)) (j := 160 * n901 + 4) e_X10_starts1_125 h5503 (by decide) (nI_clamp (by omega)) (vp_in_nI (by omega) (by decide)) (fun f q => EJ_same (EJ_lw (l := n901) (r := 4) (by omega) (by omega) (by omega)) q) (fun _ _ _ q => q) (fun σ5506 h5507 g5508 => ?_)
    refine m_aload_n F rfl e_X10_starts1_126 ?_
    refine m_iconst F (v := 0) (by decide) e_X10_starts1_127 ?_
    refine m_iload_n F rfl e_X10_starts1_128 ?_
    refine m_lload_n F rfl e_X10_starts1_129 ?_
    refine m_lneg F e_X10_starts1_130 ?_
    refine Wm.topl (fun x5509 _ => ?_)
    refine m_aload_n F rfl e_X10_starts1_131 ?_
    refine r_getC F e_X10_starts1_132 fl_X10_59 h5507 ((fld_eq (g5508 _ (by omega))).trans ((fld_eq (h5502.2 c (by rw [show kC c c = 1 from kC_at (k := 0) (by decide)]; decide))).trans ((fld_eq (g5499 _ (by omega))).trans ((fld_eq (h5493.2 c (by rw [show kC c c = 1 from kC_at (k := 0) (by decide)]; decide))).trans ((fld_eq (g5491 _ (by omega))).trans ((fld_eq (g5485 _ (by omega))).trans ((fld_eq (g5480 _ (by omega))).trans ((fld_eq (h5474.2 c (by rw [show kC c c = 1 from kC_at (k := 0) (by decide)]; decide))).trans ((fld_eq (g5468 _ (by omega))).trans f5465))))))))) ?_
    refine m_iload_n F rfl e_X10_starts1_135 ?_
    refine m_bipush F (v := 6) (by decide) e_X10_starts1_136 ?_
    refine m_iadd F e_X10_starts1_138 ?_
    refine Wm.topE (w := nI (160 * n901 + 6)) (nI_add (160 * n901) 6) ?_
    refine r_sld F (j := 160 * n901 + 6) e_X10_starts1_139 h5507 (nI_clamp (by omega)) (vp_in_nI (by omega) (by decide)) (fun x5510 h5511 => ?_)
    refine m_lneg F e_X10_starts1_140 ?_
    refine Wm.topl (fun x5512 _ => ?_)
    refine m_aload_n F rfl e_X10_starts1_141 ?_
    refine r_getC F e_X10_starts1_142 fl_X10_59 h5507 ((fld_eq (g5508 _ (by omega))).trans ((fld_eq (h5502.2 c (by rw [show kC c c = 1 from kC_at (k := 0) (by decide)]; decide))).trans ((fld_eq (g5499 _ (by omega))).trans ((fld_eq (h5493.2 c (by rw [show kC c c = 1 from kC_at (k := 0) (by decide)]; decide))).trans ((fld_eq (g5491 _ (by omega))).trans ((fld_eq (g5485 _ (by omega))).trans ((fld_eq (g5480 _ (by omega))).trans ((fld_eq (h5474.2 c (by rw [show kC c c = 1 from kC_at (k := 0) (by decide)]; decide))).trans ((fld_eq (g5468 _ (by omega))).trans f5465))))))))) ?_
    refine m_iload_n F rfl e_X10_starts1_145 ?_
    refine m_bipush F (v := 7) (by decide) e_X10_starts1_146 ?_
    refine m_iadd F e_X10_starts1_148 ?_
    refine Wm.topE (w := nI (160 * n901 + 7)) (nI_add (160 * n901) 7) ?_
    refine r_sld F (j := 160 * n901 + 7) e_X10_starts1_149 h5507 (nI_clamp (by omega)) (vp_in_nI (by omega) (by decide)) (fun x5513 h5514 => ?_)
    refine m_lconst F (v := 0) (by decide) e_X10_starts1_150 ?_
    refine m_lconst F (v := 0) (by decide) e_X10_starts1_151 ?_
    refine m_lconst F (v := 0) (by decide) e_X10_starts1_152 ?_
    have okb5518 : OKB L5500 := OKB.upd (hok.b) (l := n901) (by omega) (fun i hi => (oL5500 i hi).trans (oL5469 i hi)) (by have h9 := (hok.b).2 n901 (by omega); omega)
    refine r_callV F e_X10_starts1_153 (q_X10_entry (x_l X) V c T Z u h P L5500 _ _ 0 (nI n901) x5509 x5512 x5513 0 0 0 h5507.1 (okb5518) hP ) cb_X10_entry ml_X10_253 im_X10_entry se_X10_entry h5507 rfl rfl (rest := []) rfl (Nat.le_of_ble_eq_true rfl) ⟨Nat.le_of_ble_eq_true rfl, Nat.le_of_ble_eq_true rfl⟩ ⟨Nat.le_of_ble_eq_true rfl, Nat.le_of_ble_eq_true rfl⟩ (fun r σ5515 hp => ?_)
    obtain ⟨h5516, rfl⟩ := hp
    have h5517 := HS.trans h5507 h5516 (by decide)
    have ok5519 : OKL P.n0 L5500 := OKL.upd hok (l := n901) (by omega) (fun i hi => (oL5500 i hi).trans (oL5469 i hi)) (by have h9 := hok.2 n901 (by omega); omega)
    exact m_vret F hQ e_X10_starts1_156 (⟨L5500, ok5519, (by first | omega | rfl | assumption), h5517, rfl⟩)
