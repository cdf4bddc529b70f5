set_option maxRecDepth 20000 in
theorem q_X10_indexNow (l : Launch) (V : VX) (c T Z u h : Nat) (P : NP) (L : Nat → LQ) (N : Nat) (σ : Mem)  (h0 : HR V c ⟨T, Z, u, h, P, L⟩ σ) (hob : OKB L) (hP : OKP P)  : Ct l V yX10_indexNow cX10_indexNow 1 (some .long) 0 0 0 N σ [.ref c] (fun r τ => HS V c (⟨T, Z, u, h, P, L⟩ : RG) [0, 1, 2, 3, 4, 5, 6, 7, 8, 9, 10, 11, 12, 13, 14, 15, 16, 17, 18, 19, 20, 21, 22, 23] σ τ ∧ ∃ n : Nat, n ≤ 2000 ∧ 1 ≤ n ∧ r = some (.long (lN n))) := by
  refine Ct.of (by decide) (Nat.le_of_ble_eq_true rfl) [(0, .ref c)] rfl (fun X hX F hQ => ?_)
  have hPP := hP
  unfold OKP at hPP
  have h1 : HS V c ⟨T, Z, u, h, P, L⟩ [0, 1, 2, 3, 4, 5, 6, 7, 8, 9, 10, 11, 12, 13, 14, 15, 16, 17, 18, 19, 20, 21, 22, 23] σ σ := HS.start h0
  refine m_aload_n F rfl e_X10_indexNow_0 ?_
  refine r_get F e_X10_indexNow_1 fl_X10_59 h1 rfl (fun v hv f4935 => ?_)
  obtain rfl : v = .ref (c + 16) := hv
  refine m_sipush F (v := 644) (by decide) e_X10_indexNow_4 ?_
  refine m_aload_n F rfl e_X10_indexNow_7 ?_
  refine r_getC F e_X10_indexNow_8 fl_X10_59 h1 (f4935) ?_
  refine m_sipush F (v := 744) (by decide) e_X10_indexNow_11 ?_
  refine r_sld F (j := 744) e_X10_indexNow_14 h1 (by decide) (by unfold vp_in; decide) (fun x4936 h4937 f4938 => ?_)
  have hl4939 := hob.1
  obtain rfl : x4936 = lN (L 4).1 := EJ_p.mp h4937
  refine m_l2i F e_X10_indexNow_15 ?_
  refine Wm.topE (w := nI ((L 4).1)) (lN_i ((L 4).1)) ?_
  refine m_iadd F e_X10_indexNow_16 ?_
  refine Wm.topE (w := nI (644 + (L 4).1)) (nI_add 644 ((L 4).1)) ?_
  refine r_sld F (j := 644 + (L 4).1) e_X10_indexNow_17 h1 (nI_clamp (by omega)) (vp_in_nI (by omega) (by decide)) (fun x4940 h4941 f4942 => ?_)
  obtain ⟨n4943, gn4943, hn4943, rfl⟩ := (EJ_i (p := (L 4).1) (by omega)).mp h4941
  exact m_lret F hQ e_X10_indexNow_18 (⟨h1, n4943, by omega, by omega, rfl⟩)
set_option maxRecDepth 20000 in
theorem q_X10_canBeLonger (l : Launch) (V : VX) (c T Z u h : Nat) (P : NP) (L : Nat → LQ) (N : Nat) (σ : Mem) (n901 : Nat) (n902 : Nat) (h0 : HR V c ⟨T, Z, u, h, P, L⟩ σ) (hob : OKB L) (hP : OKP P) (hn901 : n901 ≤ 3) (hn902 : n902 ≤ 24) : Ct l V yX10_canBeLonger cX10_canBeLonger 3 (some .boolean) 0 0 0 N σ [.ref c, .int (nI n901), .int (nI n902)] (fun r τ => HS V c (⟨T, Z, u, h, P, L⟩ : RG) [0, 1, 2, 3, 4, 5, 6, 7, 8, 9, 10, 11, 12, 13, 14, 15, 16, 17, 18, 19, 20, 21, 22, 23] σ τ ∧ (r = some (.int 0) ∨ (L n901).2.1 + n902 ≤ 72 ∧ r = some (.int 1))) := by
  refine Ct.of (by decide) (Nat.le_of_ble_eq_true rfl) [(0, .ref c), (1, .int (nI n901)), (2, .int (nI n902))] rfl (fun X hX F hQ => ?_)
  have hPP := hP
  unfold OKP at hPP
  have h1 : HS V c ⟨T, Z, u, h, P, L⟩ [0, 1, 2, 3, 4, 5, 6, 7, 8, 9, 10, 11, 12, 13, 14, 15, 16, 17, 18, 19, 20, 21, 22, 23] σ σ := HS.start h0
  refine m_aload_n F rfl e_X10_canBeLonger_0 ?_
  refine r_get F e_X10_canBeLonger_1 fl_X10_59 h1 rfl (fun v hv f4944 => ?_)
  obtain rfl : v = .ref (c + 16) := hv
  refine m_sipush F (v := 160) (by decide) e_X10_canBeLonger_4 ?_
  refine m_iload_n F rfl e_X10_canBeLonger_7 ?_
  refine m_imul F e_X10_canBeLonger_8 ?_
  refine Wm.topE (w := nI (160 * n901)) (pk_mul 160 n901) ?_
  refine m_iconst F (v := 1) (by decide) e_X10_canBeLonger_9 ?_
  refine m_iadd F e_X10_canBeLonger_10 ?_
  refine Wm.topE (w := nI (160 * n901 + 1)) (nI_add (160 * n901) 1) ?_
  refine r_sld F (j := 160 * n901 + 1) e_X10_canBeLonger_11 h1 (nI_clamp (by omega)) (vp_in_nI (by omega) (by decide)) (fun x4945 h4946 f4947 => ?_)
  have hl4948 := hob.2 n901 (by omega)
  obtain rfl : x4945 = lN (L n901).2.1 := (EJ_l (l := n901) (r := 1) (by omega) (by decide)).mp h4946
  refine m_iload_n F rfl e_X10_canBeLonger_12 ?_
  refine m_i2l F e_X10_canBeLonger_13 ?_
  refine Wm.toplE (w := lN n902) (nI_l (by omega)) ?_
  refine m_ladd F e_X10_canBeLonger_14 ?_
  refine Wm.toplE (w := lN (((L n901).2.1) + n902)) (lN_add ((L n901).2.1) n902) ?_
  refine m_ldc2 F kc_X10_304 e_X10_canBeLonger_15 ?_
  refine m_lcmp F e_X10_canBeLonger_18 ?_
  refine m_if_gt F e_X10_canBeLonger_19 (fun q19 => ?_) (fun q19 => ?_)
  · have c19 : (((L n901).2.1) + n902) > 72 := (lN_lt (a := 72) (b := (((L n901).2.1) + n902)) (by omega) (by omega)).mp ((lg_cmp_gt _ _).mp q19)
    refine m_iconst F (v := 0) (by decide) e_X10_canBeLonger_26 ?_
    exact m_zret F hQ e_X10_canBeLonger_27 (by decide) (⟨h1, Or.inl rfl⟩)
  · have c19 : (((L n901).2.1) + n902) ≤ 72 := by have hh := mt (fun h9 => (lg_cmp_gt (lN (((L n901).2.1) + n902)) (lN 72)).mpr ((lN_lt (a := 72) (b := (((L n901).2.1) + n902)) (by omega) (by omega)).mpr h9)) q19; omega
    refine m_iconst F (v := 1) (by decide) e_X10_canBeLonger_22 ?_
    refine m_goto F e_X10_canBeLonger_23 ?_
    exact m_zret F hQ e_X10_canBeLonger_27 (by decide) (⟨h1, Or.inr ⟨by omega, rfl⟩⟩)
set_option maxRecDepth 20000 in
theorem q_X10_remeasures (l : Launch) (V : VX) (c T Z u h : Nat) (P : NP) (L : Nat → LQ) (N : Nat) (σ : Mem) (n901 : Nat) (h0 : HR V c ⟨T, Z, u, h, P, L⟩ σ) (hob : OKB L) (hP : OKP P) (hn901 : n901 ≤ 3) : Ct l V yX10_remeasures cX10_remeasures 7 (some .long) 2 0 0 N σ [.ref c, .int (nI n901)] (fun r τ => HS V c (⟨T, Z, u, h, P, L⟩ : RG) [0, 1, 2, 3, 4, 5, 6, 7, 8, 9, 10, 11, 12, 13, 14, 15, 16, 18, 19, 20, 21, 22] σ τ ∧ ∃ x : Int64, r = some (.long x)) := by
  refine Ct.of (by decide) (Nat.le_of_ble_eq_true rfl) [(0, .ref c), (1, .int (nI n901))] rfl (fun X hX F hQ => ?_)
  have hPP := hP
  unfold OKP at hPP
  have h1 : HS V c ⟨T, Z, u, h, P, L⟩ [0, 1, 2, 3, 4, 5, 6, 7, 8, 9, 10, 11, 12, 13, 14, 15, 16, 18, 19, 20, 21, 22] σ σ := HS.start h0
  refine m_sipush F (v := 160) (by decide) e_X10_remeasures_0 ?_
  refine m_iload_n F rfl e_X10_remeasures_3 ?_
  refine m_imul F e_X10_remeasures_4 ?_
  refine Wm.topE (w := nI (160 * n901)) (pk_mul 160 n901) ?_
  refine m_istore_n F (lv' := [(2, .int (nI (160 * n901))), (0, .ref c), (1, .int (nI n901))]) e_X10_remeasures_5 (by decide) rfl ?_
  refine m_aload_n F rfl e_X10_remeasures_6 ?_
  refine m_iload_n F rfl e_X10_remeasures_7 ?_
  refine m_aload_n F rfl e_X10_remeasures_8 ?_
  refine r_get F e_X10_remeasures_9 fl_X10_59 h1 rfl (fun v hv f4949 => ?_)
  obtain rfl : v = .ref (c + 16) := hv
  refine m_iload_n F rfl e_X10_remeasures_12 ?_
  refine m_iconst F (v := 5) (by decide) e_X10_remeasures_13 ?_
  refine m_iadd F e_X10_remeasures_14 ?_
  refine Wm.topE (w := nI (160 * n901 + 5)) (nI_add (160 * n901) 5) ?_
  refine r_sld F (j := 160 * n901 + 5) e_X10_remeasures_15 h1 (nI_clamp (by omega)) (vp_in_nI (by omega) (by decide)) (fun x4950 h4951 f4952 => ?_)
  have hl4953 := hob.2 n901 (by omega)
  obtain rfl : x4950 = lN (L n901).2.2.2 := (EJ_l (l := n901) (r := 5) (by omega) (by decide)).mp h4951
  refine m_l2i F e_X10_remeasures_16 ?_
  refine Wm.topE (w := nI ((L n901).2.2.2)) (lN_i ((L n901).2.2.2)) ?_
  refine m_iconst F (v := 1) (by decide) e_X10_remeasures_17 ?_
  refine m_iadd F e_X10_remeasures_18 ?_
  refine Wm.topE (w := nI ((L n901).2.2.2 + 1)) (nI_add ((L n901).2.2.2) 1) ?_
  refine m_aload_n F rfl e_X10_remeasures_19 ?_
  refine r_getC F e_X10_remeasures_20 fl_X10_59 h1 (f4949) ?_
  refine m_iload_n F rfl e_X10_remeasures_23 ?_
  refine m_iconst F (v := 2) (by decide) e_X10_remeasures_24 ?_
  refine m_iadd F e_X10_remeasures_25 ?_
  refine Wm.topE (w := nI (160 * n901 + 2)) (nI_add (160 * n901) 2) ?_
  refine r_sld F (j := 160 * n901 + 2) e_X10_remeasures_26 h1 (nI_clamp (by omega)) (vp_in_nI (by omega) (by decide)) (fun x4954 h4955 f4956 => ?_)
  obtain ⟨n4957, hn4957, rfl⟩ : ∃ n : Nat, n ≤ 1000000 ∧ x4954 = lN n := (EJ_l (l := n901) (r := 2) (by omega) (by decide)).mp h4955
  refine m_ldc2 F kc_X10_245 e_X10_remeasures_27 ?_
  refine r_callV F e_X10_remeasures_30 (q_X10_worthBy (x_l X) V c T Z u h P L _ _ n901 ((L n901).2.2.2 + 1) n4957 (-1) h1.1 (hob) hP (by omega) (by omega) (by omega) (by first | omega | assumption | decide)) cb_X10_worthBy ml_X10_247 im_X10_worthBy se_X10_worthBy h1 rfl rfl (rest := []) rfl (Nat.le_of_ble_eq_true rfl) ⟨Nat.le_of_ble_eq_true rfl, Nat.le_of_ble_eq_true rfl⟩ ⟨Nat.le_of_ble_eq_true rfl, Nat.le_of_ble_eq_true rfl⟩ (fun r σ4958 hp => ?_)
  obtain ⟨h4959, x4961, rfl⟩ := hp
  have h4960 := HS.trans h1 h4959 (by decide)
  refine m_aload_n F rfl e_X10_remeasures_33 ?_
  refine r_getC F e_X10_remeasures_34 fl_X10_59 h4960 ((fld_eq (h4959.2 c (by rw [show kC c c = 1 from kC_at (k := 0) (by decide)]; decide))).trans f4949) ?_
  refine m_iload_n F rfl e_X10_remeasures_37 ?_
  refine m_bipush F (v := 6) (by decide) e_X10_remeasures_38 ?_
  refine m_iadd F e_X10_remeasures_40 ?_
  refine Wm.topE (w := nI (160 * n901 + 6)) (nI_add (160 * n901) 6) ?_
  refine r_sld F (j := 160 * n901 + 6) e_X10_remeasures_41 h4960 (nI_clamp (by omega)) (vp_in_nI (by omega) (by decide)) (fun x4962 h4963 f4964 => ?_)
  refine m_lsub F e_X10_remeasures_42 ?_
  refine Wm.topl (fun x4965 _ => ?_)
  refine m_lstore_n F (lv' := [(3, .long x4965), (2, .int (nI (160 * n901))), (0, .ref c), (1, .int (nI n901))]) e_X10_remeasures_43 (by decide) rfl ?_
  refine m_lload_n F rfl e_X10_remeasures_44 ?_
  refine m_aload_n F rfl e_X10_remeasures_45 ?_
  refine r_getC F e_X10_remeasures_46 fl_X10_59 h4960 ((fld_eq (h4959.2 c (by rw [show kC c c = 1 from kC_at (k := 0) (by decide)]; decide))).trans f4949) ?_
  refine m_iload_n F rfl e_X10_remeasures_49 ?_
  refine m_bipush F (v := 7) (by decide) e_X10_remeasures_50 ?_
  refine m_iadd F e_X10_remeasures_52 ?_
  refine Wm.topE (w := nI (160 * n901 + 7)) (nI_add (160 * n901) 7) ?_
  refine r_sld F (j := 160 * n901 + 7) e_X10_remeasures_53 h4960 (nI_clamp (by omega)) (vp_in_nI (by omega) (by decide)) (fun x4966 h4967 f4968 => ?_)
  refine m_lneg F e_X10_remeasures_54 ?_
  refine Wm.topl (fun x4969 _ => ?_)
  refine m_lcmp F e_X10_remeasures_55 ?_
  refine Wm.top (fun x4970 _ => ?_)
  refine m_if_ge F e_X10_remeasures_56 (fun q56 => ?_) (fun q56 => ?_)
  · obtain ⟨n4971, hn4971, rfl⟩ := nI_nn (x := x4970) (fun e => Int32.lt_irrefl (Int32.lt_of_lt_of_le e (Int32.le_trans (by decide) q56)))
    have c56 : n4971 ≥ 0 := (nI_leI (a := 0) (b := n4971) (by omega) (by omega)).mp q56
    refine m_lload_n F rfl e_X10_remeasures_72 ?_
    refine m_lstore F (lv' := [(5, .long x4965), (3, .long x4965), (2, .int (nI (160 * n901))), (0, .ref c), (1, .int (nI n901))]) e_X10_remeasures_73 (by decide) rfl ?_
    refine m_aload_n F rfl e_X10_remeasures_75 ?_
    refine r_getC F e_X10_remeasures_76 fl_X10_59 h4960 ((fld_eq (h4959.2 c (by rw [show kC c c = 1 from kC_at (k := 0) (by decide)]; decide))).trans f4949) ?_
    refine m_iload_n F rfl e_X10_remeasures_79 ?_
    refine m_bipush F (v := 6) (by decide) e_X10_remeasures_80 ?_
    refine m_iadd F e_X10_remeasures_82 ?_
    refine Wm.topE (w := nI (160 * n901 + 6)) (nI_add (160 * n901) 6) ?_
    refine m_dup2_11 F rfl rfl e_X10_remeasures_83 ?_
    refine r_sld F (j := 160 * n901 + 6) e_X10_remeasures_84 h4960 (nI_clamp (by omega)) (vp_in_nI (by omega) (by decide)) (fun x4972 h4973 f4974 => ?_)
    refine m_lload_n F rfl e_X10_remeasures_85 ?_
    refine m_ladd F e_X10_remeasures_86 ?_
    refine Wm.topl (fun x4975 _ => ?_)
    refine r_sst F (g' := (⟨T, Z, u, h, P, L⟩ : RG)) (j := 160 * n901 + 6) e_X10_remeasures_87 h4960 (by decide) (nI_clamp (by omega)) (vp_in_nI (by omega) (by decide)) (fun f q => EJ_same (EJ_lw (l := n901) (r := 6) (by omega) (by omega) (by omega)) q) (fun _ _ _ q => q) (fun σ4976 h4977 g4978 => ?_)
    refine m_aload_n F rfl e_X10_remeasures_88 ?_
    refine r_getC F e_X10_remeasures_89 fl_X10_59 h4977 ((fld_eq (g4978 _ (by omega))).trans ((fld_eq (h4959.2 c (by rw [show kC c c = 1 from kC_at (k := 0) (by decide)]; decide))).trans f4949)) ?_
    refine m_iload_n F rfl e_X10_remeasures_92 ?_
    refine m_bipush F (v := 7) (by decide) e_X10_remeasures_93 ?_
    refine m_iadd F e_X10_remeasures_95 ?_
    refine Wm.topE (w := nI (160 * n901 + 7)) (nI_add (160 * n901) 7) ?_
    refine m_dup2_11 F rfl rfl e_X10_remeasures_96 ?_
    refine r_sld F (j := 160 * n901 + 7) e_X10_remeasures_97 h4977 (nI_clamp (by omega)) (vp_in_nI (by omega) (by decide)) (fun x4979 h4980 f4981 => ?_)
    refine m_lload F rfl e_X10_remeasures_98 ?_
    refine m_ladd F e_X10_remeasures_100 ?_
    refine Wm.topl (fun x4982 _ => ?_)
    refine r_sst F (g' := (⟨T, Z, u, h, P, L⟩ : RG)) (j := 160 * n901 + 7) e_X10_remeasures_101 h4977 (by decide) (nI_clamp (by omega)) (vp_in_nI (by omega) (by decide)) (fun f q => EJ_same (EJ_lw (l := n901) (r := 7) (by omega) (by omega) (by omega)) q) (fun _ _ _ q => q) (fun σ4983 h4984 g4985 => ?_)
    refine m_aload_n F rfl e_X10_remeasures_102 ?_
    refine r_getC F e_X10_remeasures_103 fl_X10_59 h4984 ((fld_eq (g4985 _ (by omega))).trans ((fld_eq (g4978 _ (by omega))).trans ((fld_eq (h4959.2 c (by rw [show kC c c = 1 from kC_at (k := 0) (by decide)]; decide))).trans f4949))) ?_
    refine m_iload_n F rfl e_X10_remeasures_106 ?_
    refine m_bipush F (v := 11) (by decide) e_X10_remeasures_107 ?_
    refine m_iadd F e_X10_remeasures_109 ?_
    refine Wm.topE (w := nI (160 * n901 + 11)) (nI_add (160 * n901) 11) ?_
    refine m_dup2_11 F rfl rfl e_X10_remeasures_110 ?_
    refine r_sld F (j := 160 * n901 + 11) e_X10_remeasures_111 h4984 (nI_clamp (by omega)) (vp_in_nI (by omega) (by decide)) (fun x4986 h4987 f4988 => ?_)
    refine m_lload_n F rfl e_X10_remeasures_112 ?_
    refine m_ladd F e_X10_remeasures_113 ?_
    refine Wm.topl (fun x4989 _ => ?_)
    refine r_sst F (g' := (⟨T, Z, u, h, P, L⟩ : RG)) (j := 160 * n901 + 11) e_X10_remeasures_114 h4984 (by decide) (nI_clamp (by omega)) (vp_in_nI (by omega) (by decide)) (fun f q => EJ_same (EJ_lw (l := n901) (r := 11) (by omega) (by omega) (by omega)) q) (fun _ _ _ q => q) (fun σ4990 h4991 g4992 => ?_)
    refine m_aload_n F rfl e_X10_remeasures_115 ?_
    refine m_iconst F (v := 2) (by decide) e_X10_remeasures_116 ?_
    refine m_iload_n F rfl e_X10_remeasures_117 ?_
    refine m_lconst F (v := 0) (by decide) e_X10_remeasures_118 ?_
    refine m_lload_n F rfl e_X10_remeasures_119 ?_
    refine m_lneg F e_X10_remeasures_120 ?_
    refine Wm.topl (fun x4993 _ => ?_)
    refine m_lload F rfl e_X10_remeasures_121 ?_
    refine m_lconst F (v := 0) (by decide) e_X10_remeasures_123 ?_
    refine m_lconst F (v := 0) (by decide) e_X10_remeasures_124 ?_
    refine m_lload_n F rfl e_X10_remeasures_125 ?_
    refine m_lload F rfl e_X10_remeasures_126 ?_
    refine m_lsub F e_X10_remeasures_128 ?_
    refine Wm.topl (fun x4994 _ => ?_)
    refine r_callV F e_X10_remeasures_129 (q_X10_entry (x_l X) V c T Z u h P L _ _ 2 (nI n901) 0 x4993 x4965 0 0 x4994 h4991.1 (hob) hP ) cb_X10_entry ml_X10_253 im_X10_entry se_X10_entry h4991 rfl rfl (rest := []) rfl (Nat.le_of_ble_eq_true rfl) ⟨Nat.le_of_ble_eq_true rfl, Nat.le_of_ble_eq_true rfl⟩ ⟨Nat.le_of_ble_eq_true rfl, Nat.le_of_ble_eq_true rfl⟩ (fun r σ4995 hp => ?_)
    obtain ⟨h4996, rfl⟩ := hp
    have h4997 := HS.trans h4991 h4996 (by decide)
    refine m_lload_n F rfl e_X10_remeasures_132 ?_
    exact m_lret F hQ e_X10_remeasures_133 (⟨h4997, _, rfl⟩)
  · refine m_aload_n F rfl e_X10_remeasures_59 ?_
    refine r_getC F e_X10_remeasures_60 fl_X10_59 h4960 ((fld_eq (h4959.2 c (by rw [show kC c c = 1 from kC_at (k := 0) (by decide)]; decide))).trans f4949) ?_
    refine m_iload_n F rfl e_X10_remeasures_63 ?_
    refine m_bipush F (v := 7) (by decide) e_X10_remeasures_64 ?_
    refine m_iadd F e_X10_remeasures_66 ?_
    refine Wm.topE (w := nI (160 * n901 + 7)) (nI_add (160 * n901) 7) ?_
    refine r_sld F (j := 160 * n901 + 7) e_X10_remeasures_67 h4960 (nI_clamp (by omega)) (vp_in_nI (by omega) (by decide)) (fun x4998 h4999 f5000 => ?_)
    refine m_lneg F e_X10_remeasures_68 ?_
    refine Wm.topl (fun x5001 _ => ?_)
    refine m_goto F e_X10_remeasures_69 ?_
    refine m_lstore F (lv' := [(5, .long x5001), (3, .long x4965), (2, .int (nI (160 * n901))), (0, .ref c), (1, .int (nI n901))]) e_X10_remeasures_73 (by decide) rfl ?_
    refine m_aload_n F rfl e_X10_remeasures_75 ?_
    refine r_getC F e_X10_remeasures_76 fl_X10_59 h4960 ((fld_eq (h4959.2 c (by rw [show kC c c = 1 from kC_at (k := 0) (by decide)]; decide))).trans f4949) ?_
    refine m_iload_n F rfl e_X10_remeasures_79 ?_
    refine m_bipush F (v := 6) (by decide) e_X10_remeasures_80 ?_
    refine m_iadd F e_X10_remeasures_82 ?_
    refine Wm.topE (w := nI (160 * n901 + 6)) (nI_add (160 * n901) 6) ?_
    refine m_dup2_11 F rfl rfl e_X10_remeasures_83 ?_
    refine r_sld F (j := 160 * n901 + 6) e_X10_remeasures_84 h4960 (nI_clamp (by omega)) (vp_in_nI (by omega) (by decide)) (fun x5002 h5003 f5004 => ?_)
    refine m_lload_n F rfl e_X10_remeasures_85 ?_
    refine m_ladd F e_X10_remeasures_86 ?_
    refine Wm.topl (fun x5005 _ => ?_)
    refine r_sst F (g' := (⟨T, Z, u, h, P, L⟩ : RG)) (j := 160 * n901 + 6) e_X10_remeasures_87 h4960 (by decide) (nI_clamp (by omega)) (vp_in_nI (by omega) (by decide)) (fun f q => EJ_same (EJ_lw (l := n901) (r := 6) (by omega) (by omega) (by omega)) q) (fun _ _ _ q => q) (fun σ5006 h5007 g5008 => ?_)
    refine m_aload_n F rfl e_X10_remeasures_88 ?_
    refine r_getC F e_X10_remeasures_89 fl_X10_59 h5007 ((fld_eq (g5008 _ (by omega))).trans ((fld_eq (h4959.2 c (by rw [show kC c c = 1 from kC_at (k := 0) (by decide)]; decide))).trans f4949)) ?_
    refine m_iload_n F rfl e_X10_remeasures_92 ?_
    refine m_bipush F (v := 7) (by decide) e_X10_remeasures_93 ?_
    refine m_iadd F e_X10_remeasures_95 ?_
    refine Wm.topE (w := nI (160 * n901 + 7)) (nI_add (160 * n901) 7) ?_
    refine m_dup2_11 F rfl rfl e_X10_remeasures_96 ?_
    refine r_sld F (j := 160 * n901 + 7) e_X10_remeasures_97 h5007 (nI_clamp (by omega)) (vp_in_nI (by omega) (by decide)) (fun x5009 h5010 f5011 => ?_)
    refine m_lload F rfl e_X10_remeasures_98 ?_
    refine m_ladd F e_X10_remeasures_100 ?_
    refine Wm.topl (fun x5012 _ => ?_)
    refine r_sst F (g' := (⟨T, Z, u, h, P, L⟩ : RG)) (j := 160 * n901 + 7) e_X10_remeasures_101 h5007 (by decide) (nI_clamp (by omega)) (vp_in_nI (by omega) (by decide)) (fun f q => EJ_same (EJ_lw (l := n901) (r := 7) (by omega) (by omega) (by omega)) q) (fun _ _ _ q => q) (fun σ5013 h5014 g5015 => ?_)
    refine m_aload_n F rfl e_X10_remeasures_102 ?_
    refine r_getC F e_X10_remeasures_103 fl_X10_59 h5014 ((fld_eq (g5015 _ (by omega))).trans ((fld_eq (g5008 _ (by omega))).trans ((fld_eq (h4959.2 c (by rw [show kC c c = 1 from kC_at (k := 0) (by decide)]; decide))).trans f4949))) ?_
    refine m_iload_n F rfl e_X10_remeasures_106 ?_
    refine m_bipush F (v := 11) (by decide) e_X10_remeasures_107 ?_
    refine m_iadd F e_X10_remeasures_109 ?_
    refine Wm.topE (w := nI (160 * n901 + 11)) (nI_add (160 * n901) 11) ?_
    refine m_dup2_11 F rfl rfl e_X10_remeasures_110 ?_
    refine r_sld F (j := 160 * n901 + 11) e_X10_remeasures_111 h5014 (nI_clamp (by omega)) (vp_in_nI (by omega) (by decide)) (fun x5016 h5017 f5018 => ?_)
    refine m_lload_n F rfl e_X10_remeasures_112 ?_
    refine m_ladd F e_X10_remeasures_113 ?_
    refine Wm.topl (fun x5019 _ => ?_)
    refine r_sst F (g' := (⟨T, Z, u, h, P, L⟩ : RG)) (j := 160 * n901 + 11) e_X10_remeasures_114 h5014 (by decide) (nI_clamp (by omega)) (vp_in_nI (by omega) (by decide)) (fun f q => EJ_same (EJ_lw (l := n901) (r := 11) (by omega) (by omega) (by omega)) q) (fun _ _ _ q => q) (fun σ5020 h5021 g5022 => ?_)
    refine m_aload_n F rfl e_X10_remeasures_115 ?_
    refine m_iconst F (v := 2) (by decide) e_X10_remeasures_116 ?_
    refine m_iload_n F rfl e_X10_remeasures_117 ?_
    refine m_lconst F (v := 0) (by decide) e_X10_remeasures_118 ?_
    refine m_lload_n F rfl e_X10_remeasures_119 ?_
    refine m_lneg F e_X10_remeasures_120 ?_
    refine Wm.topl (fun x5023 _ => ?_)
    refine m_lload F rfl e_X10_remeasures_121 ?_
    refine m_lconst F (v := 0) (by decide) e_X10_remeasures_123 ?_
    refine m_lconst F (v := 0) (by decide) e_X10_remeasures_124 ?_
    refine m_lload_n F rfl e_X10_remeasures_125 ?_
    refine m_lload F rfl e_X10_remeasures_126 ?_
    refine m_lsub F e_X10_remeasures_128 ?_
    refine Wm.topl (fun x5024 _ => ?_)
    refine r_callV F e_X10_remeasures_129 (q_X10_entry (x_l X) V c T Z u h P L _ _ 2 (nI n901) 0 x5023 x5001 0 0 x5024 h5021.1 (hob) hP ) cb_X10_entry ml_X10_253 im_X10_entry se_X10_entry h5021 rfl rfl (rest := []) rfl (Nat.le_of_ble_eq_true rfl) ⟨Nat.le_of_ble_eq_true rfl, Nat.le_of_ble_eq_true rfl⟩ ⟨Nat.le_of_ble_eq_true rfl, Nat.le_of_ble_eq_true rfl⟩ (fun r σ5025 hp => ?_)
    obtain ⟨h5026, rfl⟩ := hp
    have h5027 := HS.trans h5021 h5026 (by decide)
    refine m_lload_n F rfl e_X10_remeasures_132 ?_
    exact m_lret F hQ e_X10_remeasures_133 (⟨h5027, _, rfl⟩)
set_option maxRecDepth 20000 in
theorem lq_X10_indexes_19 {V : VX} {X : MX} {N : Nat} {σ : Mem} {c T Z u h : Nat} {P : NP} {L : Nat → LQ}  {n901 : Nat} {n902 : Nat} (F : Fx V X yX10_indexes cX10_indexes 6 none (rmd 0 0 0)) (hQ : Rt V X 0 0 N (fun r τ => HS V c (⟨T, Z, u, h, P, L⟩ : RG) [0, 1, 2, 3, 4, 5, 6, 7, 8, 9, 10, 11, 12, 13, 14, 15, 16, 18, 19, 20, 21, 22, 23] σ τ ∧ r = none)) (hob : OKB L) (hP : OKP P) (hn901 : n901 ≤ 3) (hn902 : n902 ≤ 2000) (hp0 : 1 ≤ (L n901).2.2.1) : ∀ (fuel : Nat) (i : Nat) (τ : Mem), HS V c (⟨T, Z, u, h, P, L⟩ : RG) [0, 1, 2, 3, 4, 5, 6, 7, 8, 9, 10, 11, 12, 13, 14, 15, 16, 18, 19, 20, 21, 22, 23] σ τ → i ≤ 72 → 72 - i < fuel → Wm V X 6 N τ 0 0 19 [(5, .int (nI i)), (4, .int (nI (160 * n901))), (0, .ref c), (1, .int (nI n901)), (2, .long (lN n902))] [] := by
  intro fuel
  induction fuel with
  | zero => intros; rename_i hm; exact absurd hm (Nat.not_lt_zero _)
  | succ fuel ih =>
    intro i τ h1 hi hm
    have hPP := hP
    unfold OKP at hPP
    refine m_iload F rfl e_X10_indexes_19 ?_
    refine m_i2l F e_X10_indexes_21 ?_
    refine Wm.toplE (w := lN i) (nI_l (by omega)) ?_
    refine m_aload_n F rfl e_X10_indexes_22 ?_
    refine r_get F e_X10_indexes_23 fl_X10_59 h1 rfl (fun v hv f5028 => ?_)
    obtain rfl : v = .ref (c + 16) := hv
    refine m_iload F rfl e_X10_indexes_26 ?_
    refine m_iconst F (v := 1) (by decide) e_X10_indexes_28 ?_
    refine m_iadd F e_X10_indexes_29 ?_
    refine Wm.topE (w := nI (160 * n901 + 1)) (nI_add (160 * n901) 1) ?_
    refine r_sld F (j := 160 * n901 + 1) e_X10_indexes_30 h1 (nI_clamp (by omega)) (vp_in_nI (by omega) (by decide)) (fun x5029 h5030 f5031 => ?_)
    have hl5032 := hob.2 n901 (by omega)
    obtain rfl : x5029 = lN (L n901).2.1 := (EJ_l (l := n901) (r := 1) (by omega) (by decide)).mp h5030
    refine m_lcmp F e_X10_indexes_31 ?_
    refine m_if_ge F e_X10_indexes_32 (fun q32 => ?_) (fun q32 => ?_)
    · have c32 : i ≥ ((L n901).2.1) := (lN_le (a := ((L n901).2.1)) (b := i) (by omega) (by omega)).mp ((lg_cmp_ge _ _).mp q32)
      refine m_aload_n F rfl e_X10_indexes_79 ?_
      refine r_getC F e_X10_indexes_80 fl_X10_59 h1 (f5028) ?_
      refine m_iload F rfl e_X10_indexes_83 ?_
      refine m_iconst F (v := 4) (by decide) e_X10_indexes_85 ?_
      refine m_iadd F e_X10_indexes_86 ?_
      refine Wm.topE (w := nI (160 * n901 + 4)) (nI_add (160 * n901) 4) ?_
      refine m_lload_n F rfl e_X10_indexes_87 ?_
      refine r_sst F (g' := (⟨T, Z, u, h, P, L⟩ : RG)) (j := 160 * n901 + 4) e_X10_indexes_88 h1 (by decide) (nI_clamp (by omega)) (vp_in_nI (by omega) (by decide)) (fun f q => EJ_same (EJ_lw (l := n901) (r := 4) (by omega) (by omega) (by omega)) q) (fun _ _ _ q => q) (fun σ5033 h5034 g5035 => ?_)
      exact m_vret F hQ e_X10_indexes_89 (⟨h5034, rfl⟩)
    · have c32 : i < ((L n901).2.1) := by have hh := mt (fun h9 => (lg_cmp_ge (lN i) (lN ((L n901).2.1))).mpr ((lN_le (a := ((L n901).2.1)) (b := i) (by omega) (by omega)).mpr h9)) q32; omega
      refine m_aload_n F rfl e_X10_indexes_35 ?_
      refine r_getC F e_X10_indexes_36 fl_X10_59 h1 (f5028) ?_
      refine m_iload F rfl e_X10_indexes_39 ?_
      refine m_bipush F (v := 13) (by decide) e_X10_indexes_41 ?_
      refine m_iadd F e_X10_indexes_43 ?_
      refine Wm.topE (w := nI (160 * n901 + 13)) (nI_add (160 * n901) 13) ?_
      refine m_iload F rfl e_X10_indexes_44 ?_
      refine m_iadd F e_X10_indexes_46 ?_
      refine Wm.topE (w := nI ((160 * n901 + 13) + i)) (nI_add (160 * n901 + 13) i) ?_
      refine m_aload_n F rfl e_X10_indexes_47 ?_
      refine r_getC F e_X10_indexes_48 fl_X10_59 h1 (f5028) ?_
      refine m_iload F rfl e_X10_indexes_51 ?_
      refine m_bipush F (v := 85) (by decide) e_X10_indexes_53 ?_
      refine m_iadd F e_X10_indexes_55 ?_
      refine Wm.topE (w := nI (160 * n901 + 85)) (nI_add (160 * n901) 85) ?_
      refine m_iload F rfl e_X10_indexes_56 ?_
      refine m_iadd F e_X10_indexes_58 ?_
      refine Wm.topE (w := nI ((160 * n901 + 85) + i)) (nI_add (160 * n901 + 85) i) ?_
      refine r_sld F (j := (160 * n901 + 85) + i) e_X10_indexes_59 h1 (nI_clamp (by omega)) (vp_in_nI (by omega) (by decide)) (fun x5036 h5037 f5038 => ?_)
      refine m_lload_n F rfl e_X10_indexes_60 ?_
      refine m_lmul F e_X10_indexes_61 ?_
      refine Wm.topl (fun x5039 _ => ?_)
      refine m_aload_n F rfl e_X10_indexes_62 ?_
      refine r_getC F e_X10_indexes_63 fl_X10_59 h1 (f5028) ?_
      refine m_iload F rfl e_X10_indexes_66 ?_
      refine m_iconst F (v := 3) (by decide) e_X10_indexes_68 ?_
      refine m_iadd F e_X10_indexes_69 ?_
      refine Wm.topE (w := nI (160 * n901 + 3)) (nI_add (160 * n901) 3) ?_
      refine r_sld F (j := 160 * n901 + 3) e_X10_indexes_70 h1 (nI_clamp (by omega)) (vp_in_nI (by omega) (by decide)) (fun x5040 h5041 f5042 => ?_)
      have hl5043 := hob.2 n901 (by omega)
      obtain rfl : x5040 = lN (L n901).2.2.1 := (EJ_l (l := n901) (r := 3) (by omega) (by decide)).mp h5041
      refine m_ldiv F (lN_ne0 (by omega) (by omega)) e_X10_indexes_71 ?_
      refine Wm.topl (fun x5044 _ => ?_)
      refine r_sst F (g' := (⟨T, Z, u, h, P, L⟩ : RG)) (j := (160 * n901 + 13) + i) e_X10_indexes_72 h1 (by decide) (nI_clamp (by omega)) (vp_in_nI (by omega) (by decide)) (fun f q => EJ_same (EJ_lw (l := n901) (r := 13 + i) (by omega) (by omega) (by omega)) q) (fun _ _ _ q => q) (fun σ5045 h5046 g5047 => ?_)
      refine m_iinc F (v := nI (i + 1)) (lv' := [(5, .int (nI (i + 1))), (4, .int (nI (160 * n901))), (0, .ref c), (1, .int (nI n901)), (2, .long (lN n902))]) e_X10_indexes_73 rfl (nI_add i 1) (by decide) rfl ?_
      refine m_goto F e_X10_indexes_76 ?_
      exact ih (i + 1) _ h5046 (by omega) (by omega)
set_option maxRecDepth 20000 in
theorem q_X10_indexes (l : Launch) (V : VX) (c T Z u h : Nat) (P : NP) (L : Nat → LQ) (N : Nat) (σ : Mem) (n901 : Nat) (n902 : Nat) (h0 : HR V c ⟨T, Z, u, h, P, L⟩ σ) (hob : OKB L) (hP : OKP P) (hn901 : n901 ≤ 3) (hn902 : n902 ≤ 2000) (hp0 : 1 ≤ (L n901).2.2.1) : Ct l V yX10_indexes cX10_indexes 6 none 0 0 0 N σ [.ref c, .int (nI n901), .long (lN n902)] (fun r τ => HS V c (⟨T, Z, u, h, P, L⟩ : RG) [0, 1, 2, 3, 4, 5, 6, 7, 8, 9, 10, 11, 12, 13, 14, 15, 16, 18, 19, 20, 21, 22, 23] σ τ ∧ r = none) := by
  refine Ct.of (by decide) (Nat.le_of_ble_eq_true rfl) [(0, .ref c), (1, .int (nI n901)), (2, .long (lN n902))] rfl (fun X hX F hQ => ?_)
  have hPP := hP
  unfold OKP at hPP
  have h1 : HS V c ⟨T, Z, u, h, P, L⟩ [0, 1, 2, 3, 4, 5, 6, 7, 8, 9, 10, 11, 12, 13, 14, 15, 16, 18, 19, 20, 21, 22, 23] σ σ := HS.start h0
  refine m_sipush F (v := 160) (by decide) e_X10_indexes_0 ?_
  refine m_iload_n F rfl e_X10_indexes_3 ?_
  refine m_imul F e_X10_indexes_4 ?_
  refine Wm.topE (w := nI (160 * n901)) (pk_mul 160 n901) ?_
  refine m_istore F (lv' := [(4, .int (nI (160 * n901))), (0, .ref c), (1, .int (nI n901)), (2, .long (lN n902))]) e_X10_indexes_5 (by decide) rfl ?_
  refine m_aload_n F rfl e_X10_indexes_7 ?_
  refine r_get F e_X10_indexes_8 fl_X10_59 h1 rfl (fun v hv f5048 => ?_)
  obtain rfl : v = .ref (c + 16) := hv
  refine m_iload F rfl e_X10_indexes_11 ?_
  refine m_iconst F (v := 5) (by decide) e_X10_indexes_13 ?_
  refine m_iadd F e_X10_indexes_14 ?_
  refine Wm.topE (w := nI (160 * n901 + 5)) (nI_add (160 * n901) 5) ?_
  refine r_sld F (j := 160 * n901 + 5) e_X10_indexes_15 h1 (nI_clamp (by omega)) (vp_in_nI (by omega) (by decide)) (fun x5049 h5050 f5051 => ?_)
  have hl5052 := hob.2 n901 (by omega)
  obtain rfl : x5049 = lN (L n901).2.2.2 := (EJ_l (l := n901) (r := 5) (by omega) (by decide)).mp h5050
  refine m_l2i F e_X10_indexes_16 ?_
  refine Wm.topE (w := nI ((L n901).2.2.2)) (lN_i ((L n901).2.2.2)) ?_
  refine m_istore F (lv' := [(5, .int (nI ((L n901).2.2.2))), (4, .int (nI (160 * n901))), (0, .ref c), (1, .int (nI n901)), (2, .long (lN n902))]) e_X10_indexes_17 (by decide) rfl ?_
  exact lq_X10_indexes_19 F hQ hob hP hn901 hn902 hp0 (72 - ((L n901).2.2.2) + 1) ((L n901).2.2.2) _ h1 (by omega) (Nat.lt_succ_self _)
set_option maxRecDepth 20000 in
theorem q_X10_pays (l : Launch) (V : VX) (c T Z u h : Nat) (P : NP) (L : Nat → LQ) (N : Nat) (σ : Mem) (n901 : Nat) (h0 : HR V c ⟨T, Z, u, h, P, L⟩ σ) (hok : OKL P.n0 L) (hP : OKP P) (hn901 : n901 ≤ 3) (hp0 : (L n901).1 = 1) : Ct l V yX10_pays cX10_pays 14 none 1 0 0 N σ [.ref c, .int (nI n901)] (fun r τ => ∃ L9, OKL P.n0 L9 ∧ (L9 4).1 = (L 4).1 ∧ HS V c (⟨T, Z, u, h, P, L9⟩ : RG) [0, 1, 2, 3, 4, 5, 6, 7, 8, 9, 10, 11, 12, 13, 14, 15, 16, 18, 19, 20, 21, 22] σ τ ∧ r = none) := by
  refine Ct.of (by decide) (Nat.le_of_ble_eq_true rfl) [(0, .ref c), (1, .int (nI n901))] rfl (fun X hX F hQ => ?_)
  have hPP := hP
  unfold OKP at hPP
  have h1 : HS V c ⟨T, Z, u, h, P, L⟩ [0, 1, 2, 3, 4, 5, 6, 7, 8, 9, 10, 11, 12, 13, 14, 15, 16, 18, 19, 20, 21, 22] σ σ := HS.start h0
  have hl := hok.2 n901 (by omega)
  refine m_sipush F (v := 160) (by decide) e_X10_pays_0 ?_
  refine m_iload_n F rfl e_X10_pays_3 ?_
  refine m_imul F e_X10_pays_4 ?_
  refine Wm.topE (w := nI (160 * n901)) (pk_mul 160 n901) ?_
  refine m_istore_n F (lv' := [(2, .int (nI (160 * n901))), (0, .ref c), (1, .int (nI n901))]) e_X10_pays_5 (by decide) rfl ?_
  refine m_aload_n F rfl e_X10_pays_6 ?_
  refine r_get F e_X10_pays_7 fl_X10_59 h1 rfl (fun v hv f5053 => ?_)
  obtain rfl : v = .ref (c + 16) := hv
  refine m_iload_n F rfl e_X10_pays_10 ?_
  refine m_bipush F (v := 13) (by decide) e_X10_pays_11 ?_
  refine m_iadd F e_X10_pays_13 ?_
  refine Wm.topE (w := nI (160 * n901 + 13)) (nI_add (160 * n901) 13) ?_
  refine m_aload_n F rfl e_X10_pays_14 ?_
  refine r_getC F e_X10_pays_15 fl_X10_59 h1 (f5053) ?_
  refine m_iload_n F rfl e_X10_pays_18 ?_
  refine m_iconst F (v := 5) (by decide) e_X10_pays_19 ?_
  refine m_iadd F e_X10_pays_20 ?_
  refine Wm.topE (w := nI (160 * n901 + 5)) (nI_add (160 * n901) 5) ?_
  refine r_sld F (j := 160 * n901 + 5) e_X10_pays_21 h1 (nI_clamp (by omega)) (vp_in_nI (by omega) (by decide)) (fun x5054 h5055 f5056 => ?_)
  have hl5057 := hok.2 n901 (by omega)
  obtain rfl : x5054 = lN (L n901).2.2.2 := (EJ_l (l := n901) (r := 5) (by omega) (by decide)).mp h5055
  refine m_l2i F e_X10_pays_22 ?_
  refine Wm.topE (w := nI ((L n901).2.2.2)) (lN_i ((L n901).2.2.2)) ?_
  refine m_iadd F e_X10_pays_23 ?_
  refine Wm.topE (w := nI ((160 * n901 + 13) + ((L n901).2.2.2))) (nI_add (160 * n901 + 13) ((L n901).2.2.2)) ?_
  refine r_sld F (j := (160 * n901 + 13) + ((L n901).2.2.2)) e_X10_pays_24 h1 (nI_clamp (by omega)) (vp_in_nI (by omega) (by decide)) (fun x5058 h5059 f5060 => ?_)
  refine m_lstore_n F (lv' := [(3, .long x5058), (2, .int (nI (160 * n901))), (0, .ref c), (1, .int (nI n901))]) e_X10_pays_25 (by decide) rfl ?_
  refine m_aload_n F rfl e_X10_pays_26 ?_
  refine r_getC F e_X10_pays_27 fl_X10_59 h1 (f5053) ?_
  refine m_iload_n F rfl e_X10_pays_30 ?_
  refine m_bipush F (v := 6) (by decide) e_X10_pays_31 ?_
  refine m_iadd F e_X10_pays_33 ?_
  refine Wm.topE (w := nI (160 * n901 + 6)) (nI_add (160 * n901) 6) ?_
  refine r_sld F (j := 160 * n901 + 6) e_X10_pays_34 h1 (nI_clamp (by omega)) (vp_in_nI (by omega) (by decide)) (fun x5061 h5062 f5063 => ?_)
  refine m_lstore F (lv' := [(5, .long x5061), (3, .long x5058), (2, .int (nI (160 * n901))), (0, .ref c), (1, .int (nI n901))]) e_X10_pays_35 (by decide) rfl ?_
  refine m_aload_n F rfl e_X10_pays_37 ?_
  refine m_iload_n F rfl e_X10_pays_38 ?_
  refine r_callV F e_X10_pays_39 (q_X10_leftOn (x_l X) V c T Z u h P L _ _ n901 h1.1 (hok.b) hP (by omega) (by first | omega | assumption | decide)) cb_X10_left ml_X10_257 im_X10_left se_X10_left h1 rfl rfl (rest := []) rfl (Nat.le_of_ble_eq_true rfl) ⟨Nat.le_of_ble_eq_true rfl, Nat.le_of_ble_eq_true rfl⟩ ⟨Nat.le_of_ble_eq_true rfl, Nat.le_of_ble_eq_true rfl⟩ (fun r σ5064 hp => ?_)
  obtain ⟨h5065, rfl⟩ := hp
  have h5066 := HS.trans h1 h5065 (by decide)
  refine m_iconst F (v := 1) (by decide) e_X10_pays_42 ?_
  refine m_icmp_ne F e_X10_pays_43 (fun q43 => ?_) (fun q43 => ?_)
  · have c43 : ((L n901).2.1 - (L n901).2.2.2) ≠ 1 := by have hh := mt (nI_eq (a := ((L n901).2.1 - (L n901).2.2.2)) (b := 1) (by omega) (by omega)).mpr q43; omega
    refine m_iconst F (v := 0) (by decide) e_X10_pays_50 ?_
    refine m_istore F (lv' := [(7, .int 0), (5, .long x5061), (3, .long x5058), (2, .int (nI (160 * n901))), (0, .ref c), (1, .int (nI n901))]) e_X10_pays_51 (by decide) rfl ?_
    refine m_aload_n F rfl e_X10_pays_53 ?_
    refine m_iload_n F rfl e_X10_pays_54 ?_
    refine r_callV F e_X10_pays_55 (q_X10_isEarly (x_l X) V c T Z u h P L _ _ n901 h5066.1 (hok.b) hP (by omega)) cb_X10_isEarly ml_X10_236 im_X10_isEarly se_X10_isEarly h5066 rfl rfl (rest := []) rfl (Nat.le_of_ble_eq_true rfl) ⟨Nat.le_of_ble_eq_true rfl, Nat.le_of_ble_eq_true rfl⟩ ⟨Nat.le_of_ble_eq_true rfl, Nat.le_of_ble_eq_true rfl⟩ (fun r σ5067 hp => ?_)
    obtain ⟨h5068, n5070, hn5070, rfl⟩ := hp
    have h5069 := HS.trans h5066 h5068 (by decide)
    refine m_if_eq F e_X10_pays_58 (fun q58 => ?_) (fun q58 => ?_)
    · have c58 : n5070 = 0 := (nI_eq (a := n5070) (b := 0) (by omega) (by omega)).mp q58
      refine m_lload F rfl e_X10_pays_112 ?_
      refine m_lload F rfl e_X10_pays_114 ?_
      refine m_aload_n F rfl e_X10_pays_116 ?_
      refine r_getC F e_X10_pays_117 fl_X10_59 h5069 ((fld_eq (h5068.2 c (by rw [show kC c c = 1 from kC_at (k := 0) (by decide)]; decide))).trans ((fld_eq (h5065.2 c (by rw [show kC c c = 1 from kC_at (k := 0) (by decide)]; decide))).trans f5053)) ?_
      refine m_iload_n F rfl e_X10_pays_120 ?_
      refine m_iconst F (v := 2) (by decide) e_X10_pays_121 ?_
      refine m_iadd F e_X10_pays_122 ?_
      refine Wm.topE (w := nI (160 * n901 + 2)) (nI_add (160 * n901) 2) ?_
      refine r_sld F (j := 160 * n901 + 2) e_X10_pays_123 h5069 (nI_clamp (by omega)) (vp_in_nI (by omega) (by decide)) (fun x5071 h5072 f5073 => ?_)
      obtain ⟨n5074, hn5074, rfl⟩ : ∃ n : Nat, n ≤ 1000000 ∧ x5071 = lN n := (EJ_l (l := n901) (r := 2) (by omega) (by decide)).mp h5072
      refine m_lmul F e_X10_pays_124 ?_
      refine Wm.topl (fun x5075 _ => ?_)
      refine m_ldc2 F kc_X10_239 e_X10_pays_125 ?_
      refine m_callS F e_X10_pays_128 (q_X10_rounded (x_l X) V _ _ x5075 1000000 (by omega) (by first | omega | assumption | decide)) cb_X10_rounded ml_X10_241 sm_X10_rounded rfl (rest := [.long x5061]) rfl (Nat.le_of_ble_eq_true rfl) ⟨Nat.le_of_ble_eq_true rfl, Nat.le_of_ble_eq_true rfl⟩ ⟨Nat.le_of_ble_eq_true rfl, Nat.le_of_ble_eq_true rfl⟩ (k' := 0) (z' := 0) (N' := N) rfl rfl rfl (fun r σ5076 hp => ?_)
      obtain ⟨rfl, x5079, rfl⟩ := hp
      refine m_ladd F e_X10_pays_131 ?_
      refine Wm.topl (fun x5080 _ => ?_)
      refine m_lstore F (lv' := [(10, .long x5080), (7, .int 0), (5, .long x5061), (3, .long x5058), (2, .int (nI (160 * n901))), (0, .ref c), (1, .int (nI n901))]) e_X10_pays_132 (by decide) rfl ?_
      refine m_iload F rfl e_X10_pays_134 ?_
      refine m_if_ne F e_X10_pays_136 (fun q => absurd (by decide) q) (fun _ => ?_)
      refine m_lload_n F rfl e_X10_pays_139 ?_
      refine m_lload F rfl e_X10_pays_140 ?_
      refine m_lcmp F e_X10_pays_142 ?_
      refine Wm.top (fun x5081 _ => ?_)
      refine m_if_le F e_X10_pays_143 (fun q143 => ?_) (fun q143 => ?_)
      · refine m_lload F rfl e_X10_pays_150 ?_
        refine m_lload_n F rfl e_X10_pays_152 ?_
        refine m_lsub F e_X10_pays_153 ?_
        refine Wm.topl (fun x5082 _ => ?_)
        refine m_lstore F (lv' := [(8, .long x5082), (10, .long x5080), (7, .int 0), (5, .long x5061), (3, .long x5058), (2, .int (nI (160 * n901))), (0, .ref c), (1, .int (nI n901))]) e_X10_pays_154 (by decide) rfl ?_
        refine m_lload F rfl e_X10_pays_156 ?_
        refine m_lload F rfl e_X10_pays_158 ?_
        refine m_lsub F e_X10_pays_160 ?_
        refine Wm.topl (fun x5083 _ => ?_)
        refine m_lload_n F rfl e_X10_pays_161 ?_
        refine m_ladd F e_X10_pays_162 ?_
        refine Wm.topl (fun x5084 _ => ?_)
        refine m_lstore F (lv' := [(10, .long x5084), (8, .long x5082), (7, .int 0), (5, .long x5061), (3, .long x5058), (2, .int (nI (160 * n901))), (0, .ref c), (1, .int (nI n901))]) e_X10_pays_163 (by decide) rfl ?_
        refine m_aload_n F rfl e_X10_pays_165 ?_
        refine r_getC F e_X10_pays_166 fl_X10_59 h5069 ((fld_eq (h5068.2 c (by rw [show kC c c = 1 from kC_at (k := 0) (by decide)]; decide))).trans ((fld_eq (h5065.2 c (by rw [show kC c c = 1 from kC_at (k := 0) (by decide)]; decide))).trans f5053)) ?_
        refine m_iload_n F rfl e_X10_pays_169 ?_
        refine m_bipush F (v := 7) (by decide) e_X10_pays_170 ?_
        refine m_iadd F e_X10_pays_172 ?_
        refine Wm.topE (w := nI (160 * n901 + 7)) (nI_add (160 * n901) 7) ?_
        refine r_sld F (j := 160 * n901 + 7) e_X10_pays_173 h5069 (nI_clamp (by omega)) (vp_in_nI (by omega) (by decide)) (fun x5085 h5086 f5087 => ?_)
        refine m_aload_n F rfl e_X10_pays_174 ?_
        refine m_iload_n F rfl e_X10_pays_175 ?_
        refine r_callV F e_X10_pays_176 (q_X10_leftOn (x_l X) V c T Z u h P L _ _ n901 h5069.1 (hok.b) hP (by omega) (by first | omega | assumption | decide)) cb_X10_left ml_X10_257 im_X10_left se_X10_left h5069 rfl rfl (rest := [.long x5085]) rfl (Nat.le_of_ble_eq_true rfl) ⟨Nat.le_of_ble_eq_true rfl, Nat.le_of_ble_eq_true rfl⟩ ⟨Nat.le_of_ble_eq_true rfl, Nat.le_of_ble_eq_true rfl⟩ (fun r σ5088 hp => ?_)
        obtain ⟨h5089, rfl⟩ := hp
        have h5090 := HS.trans h5069 h5089 (by decide)
        refine m_i2l F e_X10_pays_179 ?_
        refine Wm.toplE (w := lN ((L n901).2.1 - (L n901).2.2.2)) (nI_l (by omega)) ?_
        refine m_ldiv F (lN_ne0 (by omega) (by omega)) e_X10_pays_180 ?_
        refine Wm.topl (fun x5091 _ => ?_)
        refine m_lstore F (lv' := [(12, .long x5091), (10, .long x5084), (8, .long x5082), (7, .int 0), (5, .long x5061), (3, .long x5058), (2, .int (nI (160 * n901))), (0, .ref c), (1, .int (nI n901))]) e_X10_pays_181 (by decide) rfl ?_
        refine m_aload_n F rfl e_X10_pays_183 ?_
        refine r_getC F e_X10_pays_184 fl_X10_59 h5090 ((fld_eq (h5089.2 c (by rw [show kC c c = 1 from kC_at (k := 0) (by decide)]; decide))).trans ((fld_eq (h5068.2 c (by rw [show kC c c = 1 from kC_at (k := 0) (by decide)]; decide))).trans ((fld_eq (h5065.2 c (by rw [show kC c c = 1 from kC_at (k := 0) (by decide)]; decide))).trans f5053))) ?_
        refine m_iload_n F rfl e_X10_pays_187 ?_
        refine m_bipush F (v := 6) (by decide) e_X10_pays_188 ?_
        refine m_iadd F e_X10_pays_190 ?_
        refine Wm.topE (w := nI (160 * n901 + 6)) (nI_add (160 * n901) 6) ?_
        refine m_lload F rfl e_X10_pays_191 ?_
        refine r_sst F (g' := (⟨T, Z, u, h, P, L⟩ : RG)) (j := 160 * n901 + 6) e_X10_pays_193 h5090 (by decide) (nI_clamp (by omega)) (vp_in_nI (by omega) (by decide)) (fun f q => EJ_same (EJ_lw (l := n901) (r := 6) (by omega) (by omega) (by omega)) q) (fun _ _ _ q => q) (fun σ5092 h5093 g5094 => ?_)
        refine m_aload_n F rfl e_X10_pays_194 ?_
        refine r_getC F e_X10_pays_195 fl_X10_59 h5093 ((fld_eq (g5094 _ (by omega))).trans ((fld_eq (h5089.2 c (by rw [show kC c c = 1 from kC_at (k := 0) (by decide)]; decide))).trans ((fld_eq (h5068.2 c (by rw [show kC c c = 1 from kC_at (k := 0) (by decide)]; decide))).trans ((fld_eq (h5065.2 c (by rw [show kC c c = 1 from kC_at (k := 0) (by decide)]; decide))).trans f5053)))) ?_
        refine m_iload_n F rfl e_X10_pays_198 ?_
        refine m_bipush F (v := 7) (by decide) e_X10_pays_199 ?_
        refine m_iadd F e_X10_pays_201 ?_
        refine Wm.topE (w := nI (160 * n901 + 7)) (nI_add (160 * n901) 7) ?_
        refine m_dup2_11 F rfl rfl e_X10_pays_202 ?_
        refine r_sld F (j := 160 * n901 + 7) e_X10_pays_203 h5093 (nI_clamp (by omega)) (vp_in_nI (by omega) (by decide)) (fun x5095 h5096 f5097 => ?_)
        refine m_lload F rfl e_X10_pays_204 ?_
        refine m_lsub F e_X10_pays_206 ?_
        refine Wm.topl (fun x5098 _ => ?_)
        refine r_sst F (g' := (⟨T, Z, u, h, P, L⟩ : RG)) (j := 160 * n901 + 7) e_X10_pays_207 h5093 (by decide) (nI_clamp (by omega)) (vp_in_nI (by omega) (by decide)) (fun f q => EJ_same (EJ_lw (l := n901) (r := 7) (by omega) (by omega) (by omega)) q) (fun _ _ _ q => q) (fun σ5099 h5100 g5101 => ?_)
        refine m_aload_n F rfl e_X10_pays_208 ?_
        refine r_getC F e_X10_pays_209 fl_X10_59 h5100 ((fld_eq (g5101 _ (by omega))).trans ((fld_eq (g5094 _ (by omega))).trans ((fld_eq (h5089.2 c (by rw [show kC c c = 1 from kC_at (k := 0) (by decide)]; decide))).trans ((fld_eq (h5068.2 c (by rw [show kC c c = 1 from kC_at (k := 0) (by decide)]; decide))).trans ((fld_eq (h5065.2 c (by rw [show kC c c = 1 from kC_at (k := 0) (by decide)]; decide))).trans f5053))))) ?_
        refine m_iload_n F rfl e_X10_pays_212 ?_
        refine m_bipush F (v := 9) (by decide) e_X10_pays_213 ?_
        refine m_iadd F e_X10_pays_215 ?_
        refine Wm.topE (w := nI (160 * n901 + 9)) (nI_add (160 * n901) 9) ?_
        refine m_dup2_11 F rfl rfl e_X10_pays_216 ?_
        refine r_sld F (j := 160 * n901 + 9) e_X10_pays_217 h5100 (nI_clamp (by omega)) (vp_in_nI (by omega) (by decide)) (fun x5102 h5103 f5104 => ?_)
        refine m_lload F rfl e_X10_pays_218 ?_
        refine m_ladd F e_X10_pays_220 ?_
        refine Wm.topl (fun x5105 _ => ?_)
        refine r_sst F (g' := (⟨T, Z, u, h, P, L⟩ : RG)) (j := 160 * n901 + 9) e_X10_pays_221 h5100 (by decide) (nI_clamp (by omega)) (vp_in_nI (by omega) (by decide)) (fun f q => EJ_same (EJ_lw (l := n901) (r := 9) (by omega) (by omega) (by omega)) q) (fun _ _ _ q => q) (fun σ5106 h5107 g5108 => ?_)
        refine m_aload_n F rfl e_X10_pays_222 ?_
        refine r_getC F e_X10_pays_223 fl_X10_59 h5107 ((fld_eq (g5108 _ (by omega))).trans ((fld_eq (g5101 _ (by omega))).trans ((fld_eq (g5094 _ (by omega))).trans ((fld_eq (h5089.2 c (by rw [show kC c c = 1 from kC_at (k := 0) (by decide)]; decide))).trans ((fld_eq (h5068.2 c (by rw [show kC c c = 1 from kC_at (k := 0) (by decide)]; decide))).trans ((fld_eq (h5065.2 c (by rw [show kC c c = 1 from kC_at (k := 0) (by decide)]; decide))).trans f5053)))))) ?_
        refine m_iload_n F rfl e_X10_pays_226 ?_
        refine m_bipush F (v := 10) (by decide) e_X10_pays_227 ?_
        refine m_iadd F e_X10_pays_229 ?_
        refine Wm.topE (w := nI (160 * n901 + 10)) (nI_add (160 * n901) 10) ?_
        refine m_dup2_11 F rfl rfl e_X10_pays_230 ?_
        refine r_sld F (j := 160 * n901 + 10) e_X10_pays_231 h5107 (nI_clamp (by omega)) (vp_in_nI (by omega) (by decide)) (fun x5109 h5110 f5111 => ?_)
        refine m_lload_n F rfl e_X10_pays_232 ?_
        refine m_ladd F e_X10_pays_233 ?_
        refine Wm.topl (fun x5112 _ => ?_)
        refine r_sst F (g' := (⟨T, Z, u, h, P, L⟩ : RG)) (j := 160 * n901 + 10) e_X10_pays_234 h5107 (by decide) (nI_clamp (by omega)) (vp_in_nI (by omega) (by decide)) (fun f q => EJ_same (EJ_lw (l := n901) (r := 10) (by omega) (by omega) (by omega)) q) (fun _ _ _ q => q) (fun σ5113 h5114 g5115 => ?_)
        refine m_aload_n F rfl e_X10_pays_235 ?_
        refine r_getC F e_X10_pays_236 fl_X10_59 h5114 ((fld_eq (g5115 _ (by omega))).trans ((fld_eq (g5108 _ (by omega))).trans ((fld_eq (g5101 _ (by omega))).trans ((fld_eq (g5094 _ (by omega))).trans ((fld_eq (h5089.2 c (by rw [show kC c c = 1 from kC_at (k := 0) (by decide)]; decide))).trans ((fld_eq (h5068.2 c (by rw [show kC c c = 1 from kC_at (k := 0) (by decide)]; decide))).trans ((fld_eq (h5065.2 c (by rw [show kC c c = 1 from kC_at (k := 0) (by decide)]; decide))).trans f5053))))))) ?_
        refine m_iload_n F rfl e_X10_pays_239 ?_
        refine m_iconst F (v := 5) (by decide) e_X10_pays_240 ?_
        refine m_iadd F e_X10_pays_241 ?_
        refine Wm.topE (w := nI (160 * n901 + 5)) (nI_add (160 * n901) 5) ?_
        refine m_dup2_11 F rfl rfl e_X10_pays_242 ?_
        refine r_sld F (j := 160 * n901 + 5) e_X10_pays_243 h5114 (nI_clamp (by omega)) (vp_in_nI (by omega) (by decide)) (fun x5116 h5117 f5118 => ?_)
        have hl5119 := hok.2 n901 (by omega)
        obtain rfl : x5116 = lN (L n901).2.2.2 := (EJ_l (l := n901) (r := 5) (by omega) (by decide)).mp h5117
        refine m_lconst F (v := 1) (by decide) e_X10_pays_244 ?_
        refine m_ladd F e_X10_pays_245 ?_
        refine Wm.toplE (w := lN ((L n901).2.2.2 + 1)) (lN_add ((L n901).2.2.2) 1) ?_
        refine r_sst F (g' := (⟨T, Z, u, h, P, (updL L n901 ((L n901).1, (L n901).2.1, (L n901).2.2.1, (L n901).2.2.2 + 1))⟩ : RG)) (j := 160 * n901 + 5) e_X10_pays_246 h5114 (by decide) (nI_clamp (by omega)) (vp_in_nI (by omega) (by decide)) (fun f q => EJ_up (l := n901) (r := 5) (by omega) (by decide) q rfl (by intro r' h1 h2 y hy; revert hy; unfold EL; split <;> simp_all)) CR.row (fun σ5120 h5121 g5122 => ?_)
        obtain ⟨L5123, eL5123⟩ : ∃ L9, L9 = (updL L n901 ((L n901).1, (L n901).2.1, (L n901).2.2.1, (L n901).2.2.2 + 1)) := ⟨_, rfl⟩
        rw [← eL5123] at h5121
        have fL5123 : L5123 n901 = ((L n901).1, (L n901).2.1, (L n901).2.2.1, (L n901).2.2.2 + 1) := by rw [eL5123]; exact if_pos rfl
        have fL51230 : (L5123 n901).1 = (L n901).1 := by rw [fL5123]
        have fL51231 : (L5123 n901).2.1 = (L n901).2.1 := by rw [fL5123]
        have fL51232 : (L5123 n901).2.2.1 = (L n901).2.2.1 := by rw [fL5123]
        have fL51233 : (L5123 n901).2.2.2 = (L n901).2.2.2 + 1 := by rw [fL5123]
        have oL5123 : ∀ i, i ≠ n901 → L5123 i = L i := fun i hi => by rw [eL5123]; exact if_neg hi
        have pL5123 : (L5123 4).1 = (L 4).1 := by rw [oL5123 4 (by omega)]
        refine m_aload_n F rfl e_X10_pays_247 ?_
        refine m_iconst F (v := 1) (by decide) e_X10_pays_248 ?_
        refine m_iload_n F rfl e_X10_pays_249 ?_
        refine m_lload_n F rfl e_X10_pays_250 ?_
        refine m_lneg F e_X10_pays_251 ?_
        refine Wm.topl (fun x5124 _ => ?_)
        refine m_lload F rfl e_X10_pays_252 ?_
        refine m_lload F rfl e_X10_pays_254 ?_
        refine m_lsub F e_X10_pays_256 ?_
        refine Wm.topl (fun x5125 _ => ?_)
        refine m_lload F rfl e_X10_pays_257 ?_
        refine m_lneg F e_X10_pays_259 ?_
        refine Wm.topl (fun x5126 _ => ?_)
        refine m_lload F rfl e_X10_pays_260 ?_
        refine m_lload F rfl e_X10_pays_262 ?_
        refine m_lconst F (v := 0) (by decide) e_X10_pays_264 ?_
        have okb5130 : OKB L5123 := OKB.upd (hok.b) (l := n901) (by omega) (fun i hi => (oL5123 i hi)) (by have h9 := (hok.b).2 n901 (by omega); omega)
        refine r_callV F e_X10_pays_265 (q_X10_entry (x_l X) V c T Z u h P L5123 _ _ 1 (nI n901) x5124 x5125 x5126 x5084 x5091 0 h5121.1 (okb5130) hP ) cb_X10_entry ml_X10_253 im_X10_entry se_X10_entry h5121 rfl rfl (rest := []) rfl (Nat.le_of_ble_eq_true rfl) ⟨Nat.le_of_ble_eq_true rfl, Nat.le_of_ble_eq_true rfl⟩ ⟨Nat.le_of_ble_eq_true rfl, Nat.le_of_ble_eq_true rfl⟩ (fun r σ5127 hp => ?_)
        obtain ⟨h5128, rfl⟩ := hp
        have h5129 := HS.trans h5121 h5128 (by decide)
        refine m_iload F rfl e_X10_pays_268 ?_
        refine m_if_eq F e_X10_pays_270 (fun _ => ?_) (fun q => absurd (by decide) q)
        have ok5131 : OKL P.n0 L5123 := OKL.upd hok (l := n901) (by omega) (fun i hi => (oL5123 i hi)) (by have h9 := hok.2 n901 (by omega); omega)
        exact m_vret F hQ e_X10_pays_284 (⟨L5123, ok5131, (by first | omega | rfl | assumption), h5129, rfl⟩)
      · obtain ⟨n5132, hn5132, rfl⟩ := nI_nn (x := x5081) (fun e => q143 (Int32.le_trans (Int32.le_of_lt e) (by decide)))
        have c143 : n5132 > 0 := by have hh := mt (nI_leI (a := n5132) (b := 0) (by omega) (by omega)).mpr q143; omega
        refine m_lconst F (v := 0) (by decide) e_X10_pays_146 ?_
        refine m_goto F e_X10_pays_147 ?_
        refine m_lstore F (lv' := [(8, .long 0), (10, .long x5080), (7, .int 0), (5, .long x5061), (3, .long x5058), (2, .int (nI (160 * n901))), (0, .ref c), (1, .int (nI n901))]) e_X10_pays_154 (by decide) rfl ?_
        refine m_lload F rfl e_X10_pays_156 ?_
        refine m_lload F rfl e_X10_pays_158 ?_
        refine m_lsub F e_X10_pays_160 ?_
        refine Wm.topl (fun x5133 _ => ?_)
        refine m_lload_n F rfl e_X10_pays_161 ?_
        refine m_ladd F e_X10_pays_162 ?_
        refine Wm.topl (fun x5134 _ => ?_)
        refine m_lstore F (lv' := [(10, .long x5134), (8, .long 0), (7, .int 0), (5, .long x5061), (3, .long x5058), (2, .int (nI (160 * n901))), (0, .ref c), (1, .int (nI n901))]) e_X10_pays_163 (by decide) rfl ?_
        refine m_aload_n F rfl e_X10_pays_165 ?_
        refine r_getC F e_X10_pays_166 fl_X10_59 h5069 ((fld_eq (h5068.2 c (by rw [show kC c c = 1 from kC_at (k := 0) (by decide)]; decide))).trans ((fld_eq (h5065.2 c (by rw [show kC c c = 1 from kC_at (k := 0) (by decide)]; decide))).trans f5053)) ?_
        refine m_iload_n F rfl e_X10_pays_169 ?_
        refine m_bipush F (v := 7) (by decide) e_X10_pays_170 ?_
        refine m_iadd F e_X10_pays_172 ?_
        refine Wm.topE (w := nI (160 * n901 + 7)) (nI_add (160 * n901) 7) ?_
        refine r_sld F (j := 160 * n901 + 7) e_X10_pays_173 h5069 (nI_clamp (by omega)) (vp_in_nI (by omega) (by decide)) (fun x5135 h5136 f5137 => ?_)
        refine m_aload_n F rfl e_X10_pays_174 ?_
        refine m_iload_n F rfl e_X10_pays_175 ?_
        refine r_callV F e_X10_pays_176 (q_X10_leftOn (x_l X) V c T Z u h P L _ _ n901 h5069.1 (hok.b) hP (by omega) (by first | omega | assumption | decide)) cb_X10_left ml_X10_257 im_X10_left se_X10_left h5069 rfl rfl (rest := [.long x5135]) rfl (Nat.le_of_ble_eq_true rfl) ⟨Nat.le_of_ble_eq_true rfl, Nat.le_of_ble_eq_true rfl⟩ ⟨Nat.le_of_ble_eq_true rfl, Nat.le_of_ble_eq_true rfl⟩ (fun r σ5138 hp => ?_)
        obtain ⟨h5139, rfl⟩ := hp
        have h5140 := HS.trans h5069 h5139 (by decide)
        refine m_i2l F e_X10_pays_179 ?_
        refine Wm.toplE (w := lN ((L n901).2.1 - (L n901).2.2.2)) (nI_l (by omega)) ?_
        refine m_ldiv F (lN_ne0 (by omega) (by omega)) e_X10_pays_180 ?_
        refine Wm.topl (fun x5141 _ => ?_)
        refine m_lstore F (lv' := [(12, .long x5141), (10, .long x5134), (8, .long 0), (7, .int 0), (5, .long x5061), (3, .long x5058), (2, .int (nI (160 * n901))), (0, .ref c), (1, .int (nI n901))]) e_X10_pays_181 (by decide) rfl ?_
        refine m_aload_n F rfl e_X10_pays_183 ?_
        refine r_getC F e_X10_pays_184 fl_X10_59 h5140 ((fld_eq (h5139.2 c (by rw [show kC c c = 1 from kC_at (k := 0) (by decide)]; decide))).trans ((fld_eq (h5068.2 c (by rw [show kC c c = 1 from kC_at (k := 0) (by decide)]; decide))).trans ((fld_eq (h5065.2 c (by rw [show kC c c = 1 from kC_at (k := 0) (by decide)]; decide))).trans f5053))) ?_
        refine m_iload_n F rfl e_X10_pays_187 ?_
        refine m_bipush F (v := 6) (by decide) e_X10_pays_188 ?_
        refine m_iadd F e_X10_pays_190 ?_
        refine Wm.topE (w := nI (160 * n901 + 6)) (nI_add (160 * n901) 6) ?_
        refine m_lload F rfl e_X10_pays_191 ?_
        refine r_sst F (g' := (⟨T, Z, u, h, P, L⟩ : RG)) (j := 160 * n901 + 6) e_X10_pays_193 h5140 (by decide) (nI_clamp (by omega)) (vp_in_nI (by omega) (by decide)) (fun f q => EJ_same (EJ_lw (l := n901) (r := 6) (by omega) (by omega) (by omega)) q) (fun _ _ _ q => q) (fun σ5142 h5143 g5144 => ?_)
        refine m_aload_n F rfl e_X10_pays_194 ?_
        refine r_getC F e_X10_pays_195 fl_X10_59 h5143 ((fld_eq (g5144 _ (by omega))).trans ((fld_eq (h5139.2 c (by rw [show kC c c = 1 from kC_at (k := 0) (by decide)]; decide))).trans ((fld_eq (h5068.2 c (by rw [show kC c c = 1 from kC_at (k := 0) (by decide)]; decide))).trans ((fld_eq (h5065.2 c (by rw [show kC c c = 1 from kC_at (k := 0) (by decide)]; decide))).trans f5053)))) ?_
        refine m_iload_n F rfl e_X10_pays_198 ?_
        refine m_bipush F (v := 7) (by decide) e_X10_pays_199 ?_
        refine m_iadd F e_X10_pays_201 ?_
        refine Wm.topE (w := nI (160 * n901 + 7)) (nI_add (160 * n901) 7) ?_
        refine m_dup2_11 F rfl rfl e_X10_pays_202 ?_
        refine r_sld F (j := 160 * n901 + 7) e_X10_pays_203 h5143 (nI_clamp (by omega)) (vp_in_nI (by omega) (by decide)) (fun x5145 h5146 f5147 => ?_)
        refine m_lload F rfl e_X10_pays_204 ?_
        refine m_lsub F e_X10_pays_206 ?_
        refine Wm.topl (fun x5148 _ => ?_)
        refine r_sst F (g' := (⟨T, Z, u, h, P, L⟩ : RG)) (j := 160 * n901 + 7) e_X10_pays_207 h5143 (by decide) (nI_clamp (by omega)) (vp_in_nI (by omega) (by decide)) (fun f q => EJ_same (EJ_lw (l := n901) (r := 7) (by omega) (by omega) (by omega)) q) (fun _ _ _ q => q) (fun σ5149 h5150 g5151 => ?_)
        refine m_aload_n F rfl e_X10_pays_208 ?_
        refine r_getC F e_X10_pays_209 fl_X10_59 h5150 ((fld_eq (g5151 _ (by omega))).trans ((fld_eq (g5144 _ (by omega))).trans ((fld_eq (h5139.2 c (by rw [show kC c c = 1 from kC_at (k := 0) (by decide)]; decide))).trans ((fld_eq (h5068.2 c (by rw [show kC c c = 1 from kC_at (k := 0) (by decide)]; decide))).trans ((fld_eq (h5065.2 c (by rw [show kC c c = 1 from kC_at (k := 0) (by decide)]; decide))).trans f5053))))) ?_
        refine m_iload_n F rfl e_X10_pays_212 ?_
        refine m_bipush F (v := 9) (by decide) e_X10_pays_213 ?_
        refine m_iadd F e_X10_pays_215 ?_
        refine Wm.topE (w := nI (160 * n901 + 9)) (nI_add (160 * n901) 9) ?_
        refine m_dup2_11 F rfl rfl e_X10_pays_216 ?_
        refine r_sld F (j := 160 * n901 + 9) e_X10_pays_217 h5150 (nI_clamp (by omega)) (vp_in_nI (by omega) (by decide)) (fun x5152 h5153 f5154 => ?_)
        refine m_lload F rfl e_X10_pays_218 ?_
        refine m_ladd F e_X10_pays_220 ?_
        refine Wm.topl (fun x5155 _ => ?_)
        refine r_sst F (g' := (⟨T, Z, u, h, P, L⟩ : RG)) (j := 160 * n901 + 9) e_X10_pays_221 h5150 (by decide) (nI_clamp (by omega)) (vp_in_nI (by omega) (by decide)) (fun f q => EJ_same (EJ_lw (l := n901) (r := 9) (by omega) (by omega) (by omega)) q) (fun _ _ _ q => q) (fun σ5156 h5157 g5158 => ?_)
        refine m_aload_n F rfl e_X10_pays_222 ?_
        refine r_getC F e_X10_pays_223 fl_X10_59 h5157 ((fld_eq (g5158 _ (by omega))).trans ((fld_eq (g5151 _ (by omega))).trans ((fld_eq (g5144 _ (by omega))).trans ((fld_eq (h5139.2 c (by rw [show kC c c = 1 from kC_at (k := 0) (by decide)]; decide))).trans ((fld_eq (h5068.2 c (by rw [show kC c c = 1 from kC_at (k := 0) (by decide)]; decide))).trans ((fld_eq (h5065.2 c (by rw [show kC c c = 1 from kC_at (k := 0) (by decide)]; decide))).trans f5053)))))) ?_
        refine m_iload_n F rfl e_X10_pays_226 ?_
        refine m_bipush F (v := 10) (by decide) e_X10_pays_227 ?_
        refine m_iadd F e_X10_pays_229 ?_
        refine Wm.topE (w := nI (160 * n901 + 10)) (nI_add (160 * n901) 10) ?_
        refine m_dup2_11 F rfl rfl e_X10_pays_230 ?_
        refine r_sld F (j := 160 * n901 + 10) e_X10_pays_231 h5157 (nI_clamp (by omega)) (vp_in_nI (by omega) (by decide)) (fun x5159 h5160 f5161 => ?_)
        refine m_lload_n F rfl e_X10_pays_232 ?_
        refine m_ladd F e_X10_pays_233 ?_
        refine Wm.topl (fun x5162 _ => ?_)
        refine r_sst F (g' := (⟨T, Z, u, h, P, L⟩ : RG)) (j := 160 * n901 + 10) e_X10_pays_234 h5157 (by decide) (nI_clamp (by omega)) (vp_in_nI (by omega) (by decide)) (fun f q => EJ_same (EJ_lw (l := n901) (r := 10) (by omega) (by omega) (by omega)) q) (fun _ _ _ q => q) (fun σ5163 h5164 g5165 => ?_)
        refine m_aload_n F rfl e_X10_pays_235 ?_
        refine r_getC F e_X10_pays_236 fl_X10_59 h5164 ((fld_eq (g5165 _ (by omega))).trans ((fld_eq (g5158 _ (by omega))).trans ((fld_eq (g5151 _ (by omega))).trans ((fld_eq (g5144 _ (by omega))).trans ((fld_eq (h5139.2 c (by rw [show kC c c = 1 from kC_at (k := 0) (by decide)]; decide))).trans ((fld_eq (h5068.2 c (by rw [show kC c c = 1 from kC_at (k := 0) (by decide)]; decide))).trans ((fld_eq (h5065.2 c (by rw [show kC c c = 1 from kC_at (k := 0) (by decide)]; decide))).trans f5053))))))) ?_
        refine m_iload_n F rfl e_X10_pays_239 ?_
        refine m_iconst F (v := 5) (by decide) e_X10_pays_240 ?_
        refine m_iadd F e_X10_pays_241 ?_
        refine Wm.topE (w := nI (160 * n901 + 5)) (nI_add (160 * n901) 5) ?_
        refine m_dup2_11 F rfl rfl e_X10_pays_242 ?_
        refine r_sld F (j := 160 * n901 + 5) e_X10_pays_243 h5164 (nI_clamp (by omega)) (vp_in_nI (by omega) (by decide)) (fun x5166 h5167 f5168 => ?_)
        have hl5169 := hok.2 n901 (by omega)
        obtain rfl : x5166 = lN (L n901).2.2.2 := (EJ_l (l := n901) (r := 5) (by omega) (by decide)).mp h5167
        refine m_lconst F (v := 1) (by decide) e_X10_pays_244 ?_
        refine m_ladd F e_X10_pays_245 ?_
        refine Wm.toplE (w := lN ((L n901).2.2.2 + 1)) (lN_add ((L n901).2.2.2) 1) ?_
        refine r_sst F (g' := (⟨T, Z, u, h, P, (updL L n901 ((L n901).1, (L n901).2.1, (L n901).2.2.1, (L n901).2.2.2 + 1))⟩ : RG)) (j := 160 * n901 + 5) e_X10_pays_246 h5164 (by decide) (nI_clamp (by omega)) (vp_in_nI (by omega) (by decide)) (fun f q => EJ_up (l := n901) (r := 5) (by omega) (by decide) q rfl (by intro r' h1 h2 y hy; revert hy; unfold EL; split <;> simp_all)) CR.row (fun σ5170 h5171 g5172 => ?_)
        obtain ⟨L5173, eL5173⟩ : ∃ L9, L9 = (updL L n901 ((L n901).1, (L n901).2.1, (L n901).2.2.1, (L n901).2.2.2 + 1)) := ⟨_, rfl⟩
        rw [← eL5173] at h5171
        have fL5173 : L5173 n901 = ((L n901).1, (L n901).2.1, (L n901).2.2.1, (L n901).2.2.2 + 1) := by rw [eL5173]; exact if_pos rfl
        have fL51730 : (L5173 n901).1 = (L n901).1 := by rw [fL5173]
        have fL51731 : (L5173 n901).2.1 = (L n901).2.1 := by rw [fL5173]
        have fL51732 : (L5173 n901).2.2.1 = (L n901).2.2.1 := by rw [fL5173]
        have fL51733 : (L5173 n901).2.2.2 = (L n901).2.2.2 + 1 := by rw [fL5173]
        have oL5173 : ∀ i, i ≠ n901 → L5173 i = L i := fun i hi => by rw [eL5173]; exact if_neg hi
        have pL5173 : (L5173 4).1 = (L 4).1 := by rw [oL5173 4 (by omega)]
        refine m_aload_n F rfl e_X10_pays_247 ?_
        refine m_iconst F (v := 1) (by decide) e_X10_pays_248 ?_
        refine m_iload_n F rfl e_X10_pays_249 ?_
        refine m_lload_n F rfl e_X10_pays_250 ?_
        refine m_lneg F e_X10_pays_251 ?_
        refine Wm.topl (fun x5174 _ => ?_)
        refine m_lload F rfl e_X10_pays_252 ?_
        refine m_lload F rfl e_X10_pays_254 ?_
        refine m_lsub F e_X10_pays_256 ?_
        refine Wm.topl (fun x5175 _ => ?_)
        refine m_lload F rfl e_X10_pays_257 ?_
        refine m_lneg F e_X10_pays_259 ?_
        refine Wm.topl (fun x5176 _ => ?_)
        refine m_lload F rfl e_X10_pays_260 ?_
        refine m_lload F rfl e_X10_pays_262 ?_
        refine m_lconst F (v := 0) (by decide) e_X10_pays_264 ?_
        have okb5180 : OKB L5173 := OKB.upd (hok.b) (l := n901) (by omega) (fun i hi => (oL5173 i hi)) (by have h9 := (hok.b).2 n901 (by omega); omega)
        refine r_callV F e_X10_pays_265 (q_X10_entry (x_l X) V c T Z u h P L5173 _ _ 1 (nI n901) x5174 x5175 x5176 x5134 x5141 0 h5171.1 (okb5180) hP ) cb_X10_entry ml_X10_253 im_X10_entry se_X10_entry h5171 rfl rfl (rest := []) rfl (Nat.le_of_ble_eq_true rfl) ⟨Nat.le_of_ble_eq_true rfl, Nat.le_of_ble_eq_true rfl⟩ ⟨Nat.le_of_ble_eq_true rfl, Nat.le_of_ble_eq_true rfl⟩ (fun r σ5177 hp => ?_)
        obtain ⟨h5178, rfl⟩ := hp
        have h5179 := HS.trans h5171 h5178 (by decide)
        refine m_iload F rfl e_X10_pays_268 ?_
        refine m_if_eq F e_X10_pays_270 (fun _ => ?_) (fun q => absurd (by decide) q)
        have ok5181 : OKL P.n0 L5173 := OKL.upd hok (l := n901) (by omega) (fun i hi => (oL5173 i hi)) (by have h9 := hok.2 n901 (by omega); omega)
        exact m_vret F hQ e_X10_pays_284 (⟨L5173, ok5181, (by first | omega | rfl | assumption), h5179, rfl⟩)
    · have c58 : n5070 ≠ 0 := by have hh := mt (nI_eq (a := n5070) (b := 0) (by omega) (by omega)).mpr q58; omega
      refine m_lload F rfl e_X10_pays_61 ?_
      refine m_lload_n F rfl e_X10_pays_63 ?_
      refine m_lcmp F e_X10_pays_64 ?_
      refine Wm.top (fun x5182 _ => ?_)
      refine m_if_le F e_X10_pays_65 (fun q65 => ?_) (fun q65 => ?_)
      · refine m_lconst F (v := 0) (by decide) e_X10_pays_75 ?_
        refine m_lstore F (lv' := [(10, .long 0), (7, .int 0), (5, .long x5061), (3, .long x5058), (2, .int (nI (160 * n901))), (0, .ref c), (1, .int (nI n901))]) e_X10_pays_76 (by decide) rfl ?_
        refine m_iload F rfl e_X10_pays_78 ?_
        refine m_if_eq F e_X10_pays_80 (fun _ => ?_) (fun q => absurd (by decide) q)
        refine m_lload F rfl e_X10_pays_87 ?_
        refine m_lload F rfl e_X10_pays_89 ?_
        refine m_aload_n F rfl e_X10_pays_91 ?_
        refine r_getC F e_X10_pays_92 fl_X10_59 h5069 ((fld_eq (h5068.2 c (by rw [show kC c c = 1 from kC_at (k := 0) (by decide)]; decide))).trans ((fld_eq (h5065.2 c (by rw [show kC c c = 1 from kC_at (k := 0) (by decide)]; decide))).trans f5053)) ?_
        refine m_iload_n F rfl e_X10_pays_95 ?_
        refine m_iconst F (v := 2) (by decide) e_X10_pays_96 ?_
        refine m_iadd F e_X10_pays_97 ?_
        refine Wm.topE (w := nI (160 * n901 + 2)) (nI_add (160 * n901) 2) ?_
        refine r_sld F (j := 160 * n901 + 2) e_X10_pays_98 h5069 (nI_clamp (by omega)) (vp_in_nI (by omega) (by decide)) (fun x5183 h5184 f5185 => ?_)
        obtain ⟨n5186, hn5186, rfl⟩ : ∃ n : Nat, n ≤ 1000000 ∧ x5183 = lN n := (EJ_l (l := n901) (r := 2) (by omega) (by decide)).mp h5184
        refine m_lmul F e_X10_pays_99 ?_
        refine Wm.topl (fun x5187 _ => ?_)
        refine m_ldc2 F kc_X10_239 e_X10_pays_100 ?_
        refine m_callS F e_X10_pays_103 (q_X10_rounded (x_l X) V _ _ x5187 1000000 (by omega) (by first | omega | assumption | decide)) cb_X10_rounded ml_X10_241 sm_X10_rounded rfl (rest := [.long 0]) rfl (Nat.le_of_ble_eq_true rfl) ⟨Nat.le_of_ble_eq_true rfl, Nat.le_of_ble_eq_true rfl⟩ ⟨Nat.le_of_ble_eq_true rfl, Nat.le_of_ble_eq_true rfl⟩ (k' := 0) (z' := 0) (N' := N) rfl rfl rfl (fun r σ5188 hp => ?_)
        obtain ⟨rfl, x5191, rfl⟩ := hp
        refine m_ladd F e_X10_pays_106 ?_
        refine Wm.topl (fun x5192 _ => ?_)
        refine m_lstore F (lv' := [(8, .long x5192), (10, .long 0), (7, .int 0), (5, .long x5061), (3, .long x5058), (2, .int (nI (160 * n901))), (0, .ref c), (1, .int (nI n901))]) e_X10_pays_107 (by decide) rfl ?_
        refine m_goto F e_X10_pays_109 ?_
        refine m_lload F rfl e_X10_pays_156 ?_
        refine m_lload F rfl e_X10_pays_158 ?_
        refine m_lsub F e_X10_pays_160 ?_
        refine Wm.topl (fun x5193 _ => ?_)
        refine m_lload_n F rfl e_X10_pays_161 ?_
        refine m_ladd F e_X10_pays_162 ?_
        refine Wm.topl (fun x5194 _ => ?_)
        refine m_lstore F (lv' := [(10, .long x5194), (8, .long x5192), (7, .int 0), (5, .long x5061), (3, .long x5058), (2, .int (nI (160 * n901))), (0, .ref c), (1, .int (nI n901))]) e_X10_pays_163 (by decide) rfl ?_
        refine m_aload_n F rfl e_X10_pays_165 ?_
        refine r_getC F e_X10_pays_166 fl_X10_59 h5069 ((fld_eq (h5068.2 c (by rw [show kC c c = 1 from kC_at (k := 0) (by decide)]; decide))).trans ((fld_eq (h5065.2 c (by rw [show kC c c = 1 from kC_at (k := 0) (by decide)]; decide))).trans f5053)) ?_
        refine m_iload_n F rfl e_X10_pays_169 ?_
        refine m_bipush F (v := 7) (by decide) e_X10_pays_170 ?_
        refine m_iadd F e_X10_pays_172 ?_
        refine Wm.topE (w := nI (160 * n901 + 7)) (nI_add (160 * n901) 7) ?_
        refine r_sld F (j := 160 * n901 + 7) e_X10_pays_173 h5069 (nI_clamp (by omega)) (vp_in_nI (by omega) (by decide)) (fun x5195 h5196 f5197 => ?_)
        refine m_aload_n F rfl e_X10_pays_174 ?_
        refine m_iload_n F rfl e_X10_pays_175 ?_
        refine r_callV F e_X10_pays_176 (q_X10_leftOn (x_l X) V c T Z u h P L _ _ n901 h5069.1 (hok.b) hP (by omega) (by first | omega | assumption | decide)) cb_X10_left ml_X10_257 im_X10_left se_X10_left h5069 rfl rfl (rest := [.long x5195]) rfl (Nat.le_of_ble_eq_true rfl) ⟨Nat.le_of_ble_eq_true rfl, Nat.le_of_ble_eq_true rfl⟩ ⟨Nat.le_of_ble_eq_true rfl, Nat.le_of_ble_eq_true rfl⟩ (fun r σ5198 hp => ?_)
        obtain ⟨h5199, rfl⟩ := hp
        have h5200 := HS.trans h5069 h5199 (by decide)
        refine m_i2l F e_X10_pays_179 ?_
        refine Wm.toplE (w := lN ((L n901).2.1 - (L n901).2.2.2)) (nI_l (by omega)) ?_
        refine m_ldiv F (lN_ne0 (by omega) (by omega)) e_X10_pays_180 ?_
        refine Wm.topl (fun x5201 _ => ?_)
        refine m_lstore F (lv' := [(12, .long x5201), (10, .long x5194), (8, .long x5192), (7, .int 0), (5, .long x5061), (3, .long x5058), (2, .int (nI (160 * n901))), (0, .ref c), (1, .int (nI n901))]) e_X10_pays_181 (by decide) rfl ?_
        refine m_aload_n F rfl e_X10_pays_183 ?_
        refine r_getC F e_X10_pays_184 fl_X10_59 h5200 ((fld_eq (h5199.2 c (by rw [show kC c c = 1 from kC_at (k := 0) (by decide)]; decide))).trans ((fld_eq (h5068.2 c (by rw [show kC c c = 1 from kC_at (k := 0) (by decide)]; decide))).trans ((fld_eq (h5065.2 c (by rw [show kC c c = 1 from kC_at (k := 0) (by decide)]; decide))).trans f5053))) ?_
        refine m_iload_n F rfl e_X10_pays_187 ?_
        refine m_bipush F (v := 6) (by decide) e_X10_pays_188 ?_
        refine m_iadd F e_X10_pays_190 ?_
        refine Wm.topE (w := nI (160 * n901 + 6)) (nI_add (160 * n901) 6) ?_
        refine m_lload F rfl e_X10_pays_191 ?_
        refine r_sst F (g' := (⟨T, Z, u, h, P, L⟩ : RG)) (j := 160 * n901 + 6) e_X10_pays_193 h5200 (by decide) (nI_clamp (by omega)) (vp_in_nI (by omega) (by decide)) (fun f q => EJ_same (EJ_lw (l := n901) (r := 6) (by omega) (by omega) (by omega)) q) (fun _ _ _ q => q) (fun σ5202 h5203 g5204 => ?_)
        refine m_aload_n F rfl e_X10_pays_194 ?_
        refine r_getC F e_X10_pays_195 fl_X10_59 h5203 ((fld_eq (g5204 _ (by omega))).trans ((fld_eq (h5199.2 c (by rw [show kC c c = 1 from kC_at (k := 0) (by decide)]; decide))).trans ((fld_eq (h5068.2 c (by rw [show kC c c = 1 from kC_at (k := 0) (by decide)]; decide))).trans ((fld_eq (h5065.2 c (by rw [show kC c c = 1 from kC_at (k := 0) (by decide)]; decide))).trans f5053)))) ?_
        refine m_iload_n F rfl e_X10_pays_198 ?_
        refine m_bipush F (v := 7) (by decide) e_X10_pays_199 ?_
        refine m_iadd F e_X10_pays_201 ?_
        refine Wm.topE (w := nI (160 * n901 + 7)) (nI_add (160 * n901) 7) ?_
        refine m_dup2_11 F rfl rfl e_X10_pays_202 ?_
        refine r_sld F (j := 160 * n901 + 7) e_X10_pays_203 h5203 (nI_clamp (by omega)) (vp_in_nI (by omega) (by decide)) (fun x5205 h5206 f5207 => ?_)
        refine m_lload F rfl e_X10_pays_204 ?_
        refine m_lsub F e_X10_pays_206 ?_
        refine Wm.topl (fun x5208 _ => ?_)
        refine r_sst F (g' := (⟨T, Z, u, h, P, L⟩ : RG)) (j := 160 * n901 + 7) e_X10_pays_207 h5203 (by decide) (nI_clamp (by omega)) (vp_in_nI (by omega) (by decide)) (fun f q => EJ_same (EJ_lw (l := n901) (r := 7) (by omega) (by omega) (by omega)) q) (fun _ _ _ q => q) (fun σ5209 h5210 g5211 => ?_)
        refine m_aload_n F rfl e_X10_pays_208 ?_
        refine r_getC F e_X10_pays_209 fl_X10_59 h5210 ((fld_eq (g5211 _ (by omega))).trans ((fld_eq (g5204 _ (by omega))).trans ((fld_eq (h5199.2 c (by rw [show kC c c = 1 from kC_at (k := 0) (by decide)]; decide))).trans ((fld_eq (h5068.2 c (by rw [show kC c c = 1 from kC_at (k := 0) (by decide)]; decide))).trans ((fld_eq (h5065.2 c (by rw [show kC c c = 1 from kC_at (k := 0) (by decide)]; decide))).trans f5053))))) ?_
        refine m_iload_n F rfl e_X10_pays_212 ?_
        refine m_bipush F (v := 9) (by decide) e_X10_pays_213 ?_
        refine m_iadd F e_X10_pays_215 ?_
        refine Wm.topE (w := nI (160 * n901 + 9)) (nI_add (160 * n901) 9) ?_
        refine m_dup2_11 F rfl rfl e_X10_pays_216 ?_
        refine r_sld F (j := 160 * n901 + 9) e_X10_pays_217 h5210 (nI_clamp (by omega)) (vp_in_nI (by omega) (by decide)) (fun x5212 h5213 f5214 => ?_)
        refine m_lload F rfl e_X10_pays_218 ?_
        refine m_ladd F e_X10_pays_220 ?_
        refine Wm.topl (fun x5215 _ => ?_)
        refine r_sst F (g' := (⟨T, Z, u, h, P, L⟩ : RG)) (j := 160 * n901 + 9) e_X10_pays_221 h5210 (by decide) (nI_clamp (by omega)) (vp_in_nI (by omega) (by decide)) (fun f q => EJ_same (EJ_lw (l := n901) (r := 9) (by omega) (by omega) (by omega)) q) (fun _ _ _ q => q) (fun σ5216 h5217 g5218 => ?_)
        refine m_aload_n F rfl e_X10_pays_222 ?_
        refine r_getC F e_X10_pays_223 fl_X10_59 h5217 ((fld_eq (g5218 _ (by omega))).trans ((fld_eq (g5211 _ (by omega))).trans ((fld_eq (g5204 _ (by omega))).trans ((fld_eq (h5199.2 c (by rw [show kC c c = 1 from kC_at (k := 0) (by decide)]; decide))).trans ((fld_eq (h5068.2 c (by rw [show kC c c = 1 from kC_at (k := 0) (by decide)]; decide))).trans ((fld_eq (h5065.2 c (by rw [show kC c c = 1 from kC_at (k := 0) (by decide)]; decide))).trans f5053)))))) ?_
        refine m_iload_n F rfl e_X10_pays_226 ?_
        refine m_bipush F (v := 10) (by decide) e_X10_pays_227 ?_
        refine m_iadd F e_X10_pays_229 ?_
        refine Wm.topE (w := nI (160 * n901 + 10)) (nI_add (160 * n901) 10) ?_
        refine m_dup2_11 F rfl rfl e_X10_pays_230 ?_
        refine r_sld F (j := 160 * n901 + 10) e_X10_pays_231 h5217 (nI_clamp (by omega)) (vp_in_nI (by omega) (by decide)) (fun x5219 h5220 f5221 => ?_)
        refine m_lload_n F rfl e_X10_pays_232 ?_
        refine m_ladd F e_X10_pays_233 ?_
        refine Wm.topl (fun x5222 _ => ?_)
        refine r_sst F (g' := (⟨T, Z, u, h, P, L⟩ : RG)) (j := 160 * n901 + 10) e_X10_pays_234 h5217 (by decide) (nI_clamp (by omega)) (vp_in_nI (by omega) (by decide)) (fun f q => EJ_same (EJ_lw (l := n901) (r := 10) (by omega) (by omega) (by omega)) q) (fun _ _ _ q => q) (fun σ5223 h5224 g5225 => ?_)
        refine m_aload_n F rfl e_X10_pays_235 ?_
        refine r_getC F e_X10_pays_236 fl_X10_59 h5224 ((fld_eq (g5225 _ (by omega))).trans ((fld_eq (g5218 _ (by omega))).trans ((fld_eq (g5211 _ (by omega))).trans ((fld_eq (g5204 _ (by omega))).trans ((fld_eq (h5199.2 c (by rw [show kC c c = 1 from kC_at (k := 0) (by decide)]; decide))).trans ((fld_eq (h5068.2 c (by rw [show kC c c = 1 from kC_at (k := 0) (by decide)]; decide))).trans ((fld_eq (h5065.2 c (by rw [show kC c c = 1 from kC_at (k := 0) (by decide)]; decide))).trans f5053))))))) ?_
        refine m_iload_n F rfl e_X10_pays_239 ?_
        refine m_iconst F (v := 5) (by decide) e_X10_pays_240 ?_
        refine m_iadd F e_X10_pays_241 ?_
        refine Wm.topE (w := nI (160 * n901 + 5)) (nI_add (160 * n901) 5) ?_
        refine m_dup2_11 F rfl rfl e_X10_pays_242 ?_
        refine r_sld F (j := 160 * n901 + 5) e_X10_pays_243 h5224 (nI_clamp (by omega)) (vp_in_nI (by omega) (by decide)) (fun x5226 h5227 f5228 => ?_)
        have hl5229 := hok.2 n901 (by omega)
        obtain rfl : x5226 = lN (L n901).2.2.2 := (EJ_l (l := n901) (r := 5) (by omega) (by decide)).mp h5227
        refine m_lconst F (v := 1) (by decide) e_X10_pays_244 ?_
        refine m_ladd F e_X10_pays_245 ?_
        refine Wm.toplE (w := lN ((L n901).2.2.2 + 1)) (lN_add ((L n901).2.2.2) 1) ?_
        refine r_sst F (g' := (⟨T, Z, u, h, P, (updL L n901 ((L n901).1, (L n901).2.1, (L n901).2.2.1, (L n901).2.2.2 + 1))⟩ : RG)) (j := 160 * n901 + 5) e_X10_pays_246 h5224 (by decide) (nI_clamp (by omega)) (vp_in_nI (by omega) (by decide)) (fun f q => EJ_up (l := n901) (r := 5) (by omega) (by decide) q rfl (by intro r' h1 h2 y hy; revert hy; unfold EL; split <;> simp_all)) CR.row (fun σ5230 h5231 g5232 => ?_)
        obtain ⟨L5233, eL5233⟩ : ∃ L9, L9 = (updL L n901 ((L n901).1, (L n901).2.1, (L n901).2.2.1, (L n901).2.2.2 + 1)) := ⟨_, rfl⟩
        rw [← eL5233] at h5231
        have fL5233 : L5233 n901 = ((L n901).1, (L n901).2.1, (L n901).2.2.1, (L n901).2.2.2 + 1) := by rw [eL5233]; exact if_pos rfl
        have fL52330 : (L5233 n901).1 = (L n901).1 := by rw [fL5233]
        have fL52331 : (L5233 n901).2.1 = (L n901).2.1 := by rw [fL5233]
        have fL52332 : (L5233 n901).2.2.1 = (L n901).2.2.1 := by rw [fL5233]
        have fL52333 : (L5233 n901).2.2.2 = (L n901).2.2.2 + 1 := by rw [fL5233]
        have oL5233 : ∀ i, i ≠ n901 → L5233 i = L i := fun i hi => by rw [eL5233]; exact if_neg hi
        have pL5233 : (L5233 4).1 = (L 4).1 := by rw [oL5233 4 (by omega)]
        refine m_aload_n F rfl e_X10_pays_247 ?_
        refine m_iconst F (v := 1) (by decide) e_X10_pays_248 ?_
        refine m_iload_n F rfl e_X10_pays_249 ?_
        refine m_lload_n F rfl e_X10_pays_250 ?_
        refine m_lneg F e_X10_pays_251 ?_
        refine Wm.topl (fun x5234 _ => ?_)
        refine m_lload F rfl e_X10_pays_252 ?_
        refine m_lload F rfl e_X10_pays_254 ?_
        refine m_lsub F e_X10_pays_256 ?_
        refine Wm.topl (fun x5235 _ => ?_)
        refine m_lload F rfl e_X10_pays_257 ?_
        refine m_lneg F e_X10_pays_259 ?_
        refine Wm.topl (fun x5236 _ => ?_)
        refine m_lload F rfl e_X10_pays_260 ?_
        refine m_lload F rfl e_X10_pays_262 ?_
        refine m_lconst F (v := 0) (by decide) e_X10_pays_264 ?_
        have okb5240 : OKB L5233 := OKB.upd (hok.b) (l := n901) (by omega) (fun i hi => (oL5233 i hi)) (by have h9 := (hok.b).2 n901 (by omega); omega)
        refine r_callV F e_X10_pays_265 (q_X10_entry (x_l X) V c T Z u h P L5233 _ _ 1 (nI n901) x5234 x5235 x5236 x5194 x5201 0 h5231.1 (okb5240) hP ) cb_X10_entry ml_X10_253 im_X10_entry se_X10_entry h5231 rfl rfl (rest := []) rfl (Nat.le_of_ble_eq_true rfl) ⟨Nat.le_of_ble_eq_true rfl, Nat.le_of_ble_eq_true rfl⟩ ⟨Nat.le_of_ble_eq_true rfl, Nat.le_of_ble_eq_true rfl⟩ (fun r σ5237 hp => ?_)
        obtain ⟨h5238, rfl⟩ := hp
        have h5239 := HS.trans h5231 h5238 (by decide)
        refine m_iload F rfl e_X10_pays_268 ?_
        refine m_if_eq F e_X10_pays_270 (fun _ => ?_) (fun q => absurd (by decide) q)
        have ok5241 : OKL P.n0 L5233 := OKL.upd hok (l := n901) (by omega) (fun i hi => (oL5233 i hi)) (by have h9 := hok.2 n901 (by omega); omega)
        exact m_vret F hQ e_X10_pays_284 (⟨L5233, ok5241, (by first | omega | rfl | assumption), h5239, rfl⟩)
      · obtain ⟨n5242, hn5242, rfl⟩ := nI_nn (x := x5182) (fun e => q65 (Int32.le_trans (Int32.le_of_lt e) (by decide)))
        have c65 : n5242 > 0 := by have hh := mt (nI_leI (a := n5242) (b := 0) (by omega) (by omega)).mpr q65; omega
        refine m_lload F rfl e_X10_pays_68 ?_
        refine m_lload_n F rfl e_X10_pays_70 ?_
        refine m_lsub F e_X10_pays_71 ?_
        refine Wm.topl (fun x5243 _ => ?_)
        refine m_goto F e_X10_pays_72 ?_
        refine m_lstore F (lv' := [(10, .long x5243), (7, .int 0), (5, .long x5061), (3, .long x5058), (2, .int (nI (160 * n901))), (0, .ref c), (1, .int (nI n901))]) e_X10_pays_76 (by decide) rfl ?_
        refine m_iload F rfl e_X10_pays_78 ?_
        refine m_if_eq F e_X10_pays_80 (fun _ => ?_) (fun q => absurd (by decide) q)
        refine m_lload F rfl e_X10_pays_87 ?_
        refine m_lload F rfl e_X10_pays_89 ?_
        refine m_aload_n F rfl e_X10_pays_91 ?_
        refine r_getC F e_X10_pays_92 fl_X10_59 h5069 ((fld_eq (h5068.2 c (by rw [show kC c c = 1 from kC_at (k := 0) (by decide)]; decide))).trans ((fld_eq (h5065.2 c (by rw [show kC c c = 1 from kC_at (k := 0) (by decide)]; decide))).trans f5053)) ?_
        refine m_iload_n F rfl e_X10_pays_95 ?_
        refine m_iconst F (v := 2) (by decide) e_X10_pays_96 ?_
        refine m_iadd F e_X10_pays_97 ?_
        refine Wm.topE (w := nI (160 * n901 + 2)) (nI_add (160 * n901) 2) ?_
        refine r_sld F (j := 160 * n901 + 2) e_X10_pays_98 h5069 (nI_clamp (by omega)) (vp_in_nI (by omega) (by decide)) (fun x5244 h5245 f5246 => ?_)
        obtain ⟨n5247, hn5247, rfl⟩ : ∃ n : Nat, n ≤ 1000000 ∧ x5244 = lN n := (EJ_l (l := n901) (r := 2) (by omega) (by decide)).mp h5245
        refine m_lmul F e_X10_pays_99 ?_
        refine Wm.topl (fun x5248 _ => ?_)
        refine m_ldc2 F kc_X10_239 e_X10_pays_100 ?_
        refine m_callS F e_X10_pays_103 (q_X10_rounded (x_l X) V _ _ x5248 1000000 (by omega) (by first | omega | assumption | decide)) cb_X10_rounded ml_X10_241 sm_X10_rounded rfl (rest := [.long x5243]) rfl (Nat.le_of_ble_eq_true rfl) ⟨Nat.le_of_ble_eq_true rfl, Nat.le_of_ble_eq_true rfl⟩ ⟨Nat.le_of_ble_eq_true rfl, Nat.le_of_ble_eq_true rfl⟩ (k' := 0) (z' := 0) (N' := N) rfl rfl rfl (fun r σ5249 hp => ?_)
        obtain ⟨rfl, x5252, rfl⟩ := hp
        refine m_ladd F e_X10_pays_106 ?_
        refine Wm.topl (fun x5253 _ => ?_)
        refine m_lstore F (lv' := [(8, .long x5253), (10, .long x5243), (7, .int 0), (5, .long x5061), (3, .long x5058), (2, .int (nI (160 * n901))), (0, .ref c), (1, .int (nI n901))]) e_X10_pays_107 (by decide) rfl ?_
        refine m_goto F e_X10_pays_109 ?_
        refine m_lload F rfl e_X10_pays_156 ?_
        refine m_lload F rfl e_X10_pays_158 ?_
        refine m_lsub F e_X10_pays_160 ?_
        refine Wm.topl (fun x5254 _ => ?_)
        refine m_lload_n F rfl e_X10_pays_161 ?_
        refine m_ladd F e_X10_pays_162 ?_
        refine Wm.topl (fun x5255 _ => ?_)
        refine m_lstore F (lv' := [(10, .long x5255), (8, .long x5253), (7, .int 0), (5, .long x5061), (3, .long x5058), (2, .int (nI (160 * n901))), (0, .ref c), (1, .int (nI n901))]) e_X10_pays_163 (by decide) rfl ?_
        refine m_aload_n F rfl e_X10_pays_165 ?_
        refine r_getC F e_X10_pays_166 fl_X10_59 h5069 ((fld_eq (h5068.2 c (by rw [show kC c c = 1 from kC_at (k := 0) (by decide)]; decide))).trans ((fld_eq (h5065.2 c (by rw [show kC c c = 1 from kC_at (k := 0) (by decide)]; decide))).trans f5053)) ?_
        refine m_iload_n F rfl e_X10_pays_169 ?_
        refine m_bipush F (v := 7) (by decide) e_X10_pays_170 ?_
        refine m_iadd F e_X10_pays_172 ?_
        refine Wm.topE (w := nI (160 * n901 + 7)) (nI_add (160 * n901) 7) ?_
        refine r_sld F (j := 160 * n901 + 7) e_X10_pays_173 h5069 (nI_clamp (by omega)) (vp_in_nI (by omega) (by decide)) (fun x5256 h5257 f5258 => ?_)
        refine m_aload_n F rfl e_X10_pays_174 ?_
        refine m_iload_n F rfl e_X10_pays_175 ?_
        refine r_callV F e_X10_pays_176 (q_X10_leftOn (x_l X) V c T Z u h P L _ _ n901 h5069.1 (hok.b) hP (by omega) (by first | omega | assumption | decide)) cb_X10_left ml_X10_257 im_X10_left se_X10_left h5069 rfl rfl (rest := [.long x5256]) rfl (Nat.le_of_ble_eq_true rfl) ⟨Nat.le_of_ble_eq_true rfl, Nat.le_of_ble_eq_true rfl⟩ ⟨Nat.le_of_ble_eq_true rfl, Nat.le_of_ble_eq_true rfl⟩ (fun r σ5259 hp => ?_)
        obtain ⟨h5260, rfl⟩ := hp
        have h5261 := HS.trans h5069 h5260 (by decide)
        refine m_i2l F e_X10_pays_179 ?_
        refine Wm.toplE (w := lN ((L n901).2.1 - (L n901).2.2.2)) (nI_l (by omega)) ?_
        refine m_ldiv F (lN_ne0 (by omega) (by omega)) e_X10_pays_180 ?_
        refine Wm.topl (fun x5262 _ => ?_)
        refine m_lstore F (lv' := [(12, .long x5262), (10, .long x5255), (8, .long x5253), (7, .int 0), (5, .long x5061), (3, .long x5058), (2, .int (nI (160 * n901))), (0, .ref c), (1, .int (nI n901))]) e_X10_pays_181 (by decide) rfl ?_
        refine m_aload_n F rfl e_X10_pays_183 ?_
        refine r_getC F e_X10_pays_184 fl_X10_59 h5261 ((fld_eq (h5260.2 c (by rw [show kC c c = 1 from kC_at (k := 0) (by decide)]; decide))).trans ((fld_eq (h5068.2 c (by rw [show kC c c = 1 from kC_at (k := 0) (by decide)]; decide))).trans ((fld_eq (h5065.2 c (by rw [show kC c c = 1 from kC_at (k := 0) (by decide)]; decide))).trans f5053))) ?_
        refine m_iload_n F rfl e_X10_pays_187 ?_
        refine m_bipush F (v := 6) (by decide) e_X10_pays_188 ?_
        refine m_iadd F e_X10_pays_190 ?_
        refine Wm.topE (w := nI (160 * n901 + 6)) (nI_add (160 * n901) 6) ?_
        refine m_lload F rfl e_X10_pays_191 ?_
        refine r_sst F (g' := (⟨T, Z, u, h, P, L⟩ : RG)) (j := 160 * n901 + 6) e_X10_pays_193 h5261 (by decide) (nI_clamp (by omega)) (vp_in_nI (by omega) (by decide)) (fun f q => EJ_same (EJ_lw (l := n901) (r := 6) (by omega) (by omega) (by omega)) q) (fun _ _ _ q => q) (fun σ5263 h5264 g5265 => ?_)
        refine m_aload_n F rfl e_X10_pays_194 ?_
        refine r_getC F e_X10_pays_195 fl_X10_59 h5264 ((fld_eq (g5265 _ (by omega))).trans ((fld_eq (h5260.2 c (by rw [show kC c c = 1 from kC_at (k := 0) (by decide)]; decide))).trans ((fld_eq (h5068.2 c (by rw [show kC c c = 1 from kC_at (k := 0) (by decide)]; decide))).trans ((fld_eq (h5065.2 c (by rw [show kC c c = 1 from kC_at (k := 0) (by decide)]; decide))).trans f5053)))) ?_
        refine m_iload_n F rfl e_X10_pays_198 ?_
        refine m_bipush F (v := 7) (by decide) e_X10_pays_199 ?_
        refine m_iadd F e_X10_pays_201 ?_
        refine Wm.topE (w := nI (160 * n901 + 7)) (nI_add (160 * n901) 7) ?_
        refine m_dup2_11 F rfl rfl e_X10_pays_202 ?_
        refine r_sld F (j := 160 * n901 + 7) e_X10_pays_203 h5264 (nI_clamp (by omega)) (vp_in_nI (by omega) (by decide)) (fun x5266 h5267 f5268 => ?_)
        refine m_lload F rfl e_X10_pays_204 ?_
        refine m_lsub F e_X10_pays_206 ?_
        refine Wm.topl (fun x5269 _ => ?_)
        refine r_sst F (g' := (⟨T, Z, u, h, P, L⟩ : RG)) (j := 160 * n901 + 7) e_X10_pays_207 h5264 (by decide) (nI_clamp (by omega)) (vp_in_nI (by omega) (by decide)) (fun f q => EJ_same (EJ_lw (l := n901) (r := 7) (by omega) (by omega) (by omega)) q) (fun _ _ _ q => q) (fun σ5270 h5271 g5272 => ?_)
        refine m_aload_n F rfl e_X10_pays_208 ?_
        refine r_getC F e_X10_pays_209 fl_X10_59 h5271 ((fld_eq (g5272 _ (by omega))).trans ((fld_eq (g5265 _ (by omega))).trans ((fld_eq (h5260.2 c (by rw [show kC c c = 1 from kC_at (k := 0) (by decide)]; decide))).trans ((fld_eq (h5068.2 c (by rw [show kC c c = 1 from kC_at (k := 0) (by decide)]; decide))).trans ((fld_eq (h5065.2 c (by rw [show kC c c = 1 from kC_at (k := 0) (by decide)]; decide))).trans f5053))))) ?_
        refine m_iload_n F rfl e_X10_pays_212 ?_
        refine m_bipush F (v := 9) (by decide) e_X10_pays_213 ?_
        refine m_iadd F e_X10_pays_215 ?_
        refine Wm.topE (w := nI (160 * n901 + 9)) (nI_add (160 * n901) 9) ?_
        refine m_dup2_11 F rfl rfl e_X10_pays_216 ?_
        refine r_sld F (j := 160 * n901 + 9) e_X10_pays_217 h5271 (nI_clamp (by omega)) (vp_in_nI (by omega) (by decide)) (fun x5273 h5274 f5275 => ?_)
        refine m_lload F rfl e_X10_pays_218 ?_
        refine m_ladd F e_X10_pays_220 ?_
        refine Wm.topl (fun x5276 _ => ?_)
        refine r_sst F (g' := (⟨T, Z, u, h, P, L⟩ : RG)) (j := 160 * n901 + 9) e_X10_pays_221 h5271 (by decide) (nI_clamp (by omega)) (vp_in_nI (by omega) (by decide)) (fun f q => EJ_same (EJ_lw (l := n901) (r := 9) (by omega) (by omega) (by omega)) q) (fun _ _ _ q => q) (fun σ5277 h5278 g5279 => ?_)
        refine m_aload_n F rfl e_X10_pays_222 ?_
        refine r_getC F e_X10_pays_223 fl_X10_59 h5278 ((fld_eq (g5279 _ (by omega))).trans ((fld_eq (g5272 _ (by omega))).trans ((fld_eq (g5265 _ (by omega))).trans ((fld_eq (h5260.2 c (by rw [show kC c c = 1 from kC_at (k := 0) (by decide)]; decide))).trans ((fld_eq (h5068.2 c (by rw [show kC c c = 1 from kC_at (k := 0) (by decide)]; decide))).trans ((fld_eq (h5065.2 c (by rw [show kC c c = 1 from kC_at (k := 0) (by decide)]; decide))).trans f5053)))))) ?_
        refine m_iload_n F rfl e_X10_pays_226 ?_
        refine m_bipush F (v := 10) (by decide) e_X10_pays_227 ?_
        refine m_iadd F e_X10_pays_229 ?_
        refine Wm.topE (w := nI (160 * n901 + 10)) (nI_add (160 * n901) 10) ?_
        refine m_dup2_11 F rfl rfl e_X10_pays_230 ?_
        refine r_sld F (j := 160 * n901 + 10) e_X10_pays_231 h5278 (nI_clamp (by omega)) (vp_in_nI (by omega) (by decide)) (fun x5280 h5281 f5282 => ?_)
        refine m_lload_n F rfl e_X10_pays_232 ?_
        refine m_ladd F e_X10_pays_233 ?_
        refine Wm.topl (fun x5283 _ => ?_)
        refine r_sst F (g' := (⟨T, Z, u, h, P, L⟩ : RG)) (j := 160 * n901 + 10) e_X10_pays_234 h5278 (by decide) (nI_clamp (by omega)) (vp_in_nI (by omega) (by decide)) (fun f q => EJ_same (EJ_lw (l := n901) (r := 10) (by omega) (by omega) (by omega)) q) (fun _ _ _ q => q) (fun σ5284 h5285 g5286 => ?_)
        refine m_aload_n F rfl e_X10_pays_235 ?_
        refine r_getC F e_X10_pays_236 fl_X10_59 h5285 ((fld_eq (g5286 _ (by omega))).trans ((fld_eq (g5279 _ (by omega))).trans ((fld_eq (g5272 _ (by omega))).trans ((fld_eq (g5265 _ (by omega))).trans ((fld_eq (h5260.2 c (by rw [show kC c c = 1 from kC_at (k := 0) (by decide)]; decide))).trans ((fld_eq (h5068.2 c (by rw [show kC c c = 1 from kC_at (k := 0) (by decide)]; decide))).trans ((fld_eq (h5065.2 c (by rw [show kC c c = 1 from kC_at (k := 0) (by decide)]; decide))).trans f5053))))))) ?_
        refine m_iload_n F rfl e_X10_pays_239 ?_
        refine m_iconst F (v := 5) (by decide) e_X10_pays_240 ?_
        refine m_iadd F e_X10_pays_241 ?_
        refine Wm.topE (w := nI (160 * n901 + 5)) (nI_add (160 * n901) 5) ?_
        refine m_dup2_11 F rfl rfl e_X10_pays_242 ?_
        refine r_sld F (j := 160 * n901 + 5) e_X10_pays_243 h5285 (nI_clamp (by omega)) (vp_in_nI (by omega) (by decide)) (fun x5287 h5288 f5289 => ?_)
        have hl5290 := hok.2 n901 (by omega)
        obtain rfl : x5287 = lN (L n901).2.2.2 := (EJ_l (l := n901) (r := 5) (by omega) (by decide)).mp h5288
        refine m_lconst F (v := 1) (by decide) e_X10_pays_244 ?_
        refine m_ladd F e_X10_pays_245 ?_
        refine Wm.toplE (w := lN ((L n901).2.2.2 + 1)) (lN_add ((L n901).2.2.2) 1) ?_
        refine r_sst F (g' := (⟨T, Z, u, h, P, (updL L n901 ((L n901).1, (L n901).2.1, (L n901).2.2.1, (L n901).2.2.2 + 1))⟩ : RG)) (j := 160 * n901 + 5) e_X10_pays_246 h5285 (by decide) (nI_clamp (by omega)) (vp_in_nI (by omega) (by decide)) (fun f q => EJ_up (l := n901) (r := 5) (by omega) (by decide) q rfl (by intro r' h1 h2 y hy; revert hy; unfold EL; split <;> simp_all)) CR.row (fun σ5291 h5292 g5293 => ?_)
        obtain ⟨L5294, eL5294⟩ : ∃ L9, L9 = (updL L n901 ((L n901).1, (L n901).2.1, (L n901).2.2.1, (L n901).2.2.2 + 1)) := ⟨_, rfl⟩
        rw [← eL5294] at h5292
        have fL5294 : L5294 n901 = ((L n901).1, (L n901).2.1, (L n901).2.2.1, (L n901).2.2.2 + 1) := by rw [eL5294]; exact if_pos rfl
        have fL52940 : (L5294 n901).1 = (L n901).1 := by rw [fL5294]
        have fL52941 : (L5294 n901).2.1 = (L n901).2.1 := by rw [fL5294]
        have fL52942 : (L5294 n901).2.2.1 = (L n901).2.2.1 := by rw [fL5294]
        have fL52943 : (L5294 n901).2.2.2 = (L n901).2.2.2 + 1 := by rw [fL5294]
        have oL5294 : ∀ i, i ≠ n901 → L5294 i = L i := fun i hi => by rw [eL5294]; exact if_neg hi
        have pL5294 : (L5294 4).1 = (L 4).1 := by rw [oL5294 4 (by omega)]
        refine m_aload_n F rfl e_X10_pays_247 ?_
        refine m_iconst F (v := 1) (by decide) e_X10_pays_248 ?_
        refine m_iload_n F rfl e_X10_pays_249 ?_
        refine m_lload_n F rfl e_X10_pays_250 ?_
        refine m_lneg F e_X10_pays_251 ?_
        refine Wm.topl (fun x5295 _ => ?_)
        refine m_lload F rfl e_X10_pays_252 ?_
        refine m_lload F rfl e_X10_pays_254 ?_
        refine m_lsub F e_X10_pays_256 ?_
        refine Wm.topl (fun x5296 _ => ?_)
        refine m_lload F rfl e_X10_pays_257 ?_
        refine m_lneg F e_X10_pays_259 ?_
        refine Wm.topl (fun x5297 _ => ?_)
        refine m_lload F rfl e_X10_pays_260 ?_
        refine m_lload F rfl e_X10_pays_262 ?_
        refine m_lconst F (v := 0) (by decide) e_X10_pays_264 ?_
        have okb5301 : OKB L5294 := OKB.upd (hok.b) (l := n901) (by omega) (fun i hi => (oL5294 i hi)) (by have h9 := (hok.b).2 n901 (by omega); omega)
        refine r_callV F e_X10_pays_265 (q_X10_entry (x_l X) V c T Z u h P L5294 _ _ 1 (nI n901) x5295 x5296 x5297 x5255 x5262 0 h5292.1 (okb5301) hP ) cb_X10_entry ml_X10_253 im_X10_entry se_X10_entry h5292 rfl rfl (rest := []) rfl (Nat.le_of_ble_eq_true rfl) ⟨Nat.le_of_ble_eq_true rfl, Nat.le_of_ble_eq_true rfl⟩ ⟨Nat.le_of_ble_eq_true rfl, Nat.le_of_ble_eq_true rfl⟩ (fun r σ5298 hp => ?_)
        obtain ⟨h5299, rfl⟩ := hp
        have h5300 := HS.trans h5292 h5299 (by decide)
        refine m_iload F rfl e_X10_pays_268 ?_
        refine m_if_eq F e_X10_pays_270 (fun _ => ?_) (fun q => absurd (by decide) q)
        have ok5302 : OKL P.n0 L5294 := OKL.upd hok (l := n901) (by omega) (fun i hi => (oL5294 i hi)) (by have h9 := hok.2 n901 (by omega); omega)
        exact m_vret F hQ e_X10_pays_284 (⟨L5294, ok5302, (by first | omega | rfl | assumption), h5300, rfl⟩)
  · have c43 : ((L n901).2.1 - (L n901).2.2.2) = 1 := (nI_eq (a := ((L n901).2.1 - (L n901).2.2.2)) (b := 1) (by omega) (by omega)).mp q43
    refine m_iconst F (v := 1) (by decide) e_X10_pays_46 ?_
    refine m_goto F e_X10_pays_47 ?_
    refine m_istore F (lv' := [(7, .int 1), (5, .long x5061), (3, .long x5058), (2, .int (nI (160 * n901))), (0, .ref c), (1, .int (nI n901))]) e_X10_pays_51 (by decide) rfl ?_
    refine m_aload_n F rfl e_X10_pays_53 ?_
    refine m_iload_n F rfl e_X10_pays_54 ?_
    refine r_callV F e_X10_pays_55 (q_X10_isEarly (x_l X) V c T Z u h P L _ _ n901 h5066.1 (hok.b) hP (by omega)) cb_X10_isEarly ml_X10_236 im_X10_isEarly se_X10_isEarly h5066 rfl rfl (rest := []) rfl (Nat.le_of_ble_eq_true rfl) ⟨Nat.le_of_ble_eq_true rfl, Nat.le_of_ble_eq_true rfl⟩ ⟨Nat.le_of_ble_eq_true rfl, Nat.le_of_ble_eq_true rfl⟩ (fun r σ5303 hp => ?_)
    obtain ⟨h5304, n5306, hn5306, rfl⟩ := hp
    have h5305 := HS.trans h5066 h5304 (by decide)
    refine m_if_eq F e_X10_pays_58 (fun q58 => ?_) (fun q58 => ?_)
    · have c58 : n5306 = 0 := (nI_eq (a := n5306) (b := 0) (by omega) (by omega)).mp q58
      refine m_lload F rfl e_X10_pays_112 ?_
      refine m_lload F rfl e_X10_pays_114 ?_
      refine m_aload_n F rfl e_X10_pays_116 ?_
      refine r_getC F e_X10_pays_117 fl_X10_59 h5305 ((fld_eq (h5304.2 c (by rw [show kC c c = 1 from kC_at (k := 0) (by decide)]; decide))).trans ((fld_eq (h5065.2 c (by rw [show kC c c = 1 from kC_at (k := 0) (by decide)]; decide))).trans f5053)) ?_
      refine m_iload_n F rfl e_X10_pays_120 ?_
      refine m_iconst F (v := 2) (by decide) e_X10_pays_121 ?_
      refine m_iadd F e_X10_pays_122 ?_
      refine Wm.topE (w := nI (160 * n901 + 2)) (nI_add (160 * n901) 2) ?_
      refine r_sld F (j := 160 * n901 + 2) e_X10_pays_123 h5305 (nI_clamp (by omega)) (vp_in_nI (by omega) (by decide)) (fun x5307 h5308 f5309 => ?_)
      obtain ⟨n5310, hn5310, rfl⟩ : ∃ n : Nat, n ≤ 1000000 ∧ x5307 = lN n := (EJ_l (l := n901) (r := 2) (by omega) (by decide)).mp h5308
      refine m_lmul F e_X10_pays_124 ?_
      refine Wm.topl (fun x5311 _ => ?_)
      refine m_ldc2 F kc_X10_239 e_X10_pays_125 ?_
      refine m_callS F e_X10_pays_128 (q_X10_rounded (x_l X) V _ _ x5311 1000000 (by omega) (by first | omega | assumption | decide)) cb_X10_rounded ml_X10_241 sm_X10_rounded rfl (rest := [.long x5061]) rfl (Nat.le_of_ble_eq_true rfl) ⟨Nat.le_of_ble_eq_true rfl, Nat.le_of_ble_eq_true rfl⟩ ⟨Nat.le_of_ble_eq_true rfl, Nat.le_of_ble_eq_true rfl⟩ (k' := 0) (z' := 0) (N' := N) rfl rfl rfl (fun r σ5312 hp => ?_)
      obtain ⟨rfl, x5315, rfl⟩ := hp
      refine m_ladd F e_X10_pays_131 ?_
      refine Wm.topl (fun x5316 _ => ?_)
      refine m_lstore F (lv' := [(10, .long x5316), (7, .int 1), (5, .long x5061), (3, .long x5058), (2, .int (nI (160 * n901))), (0, .ref c), (1, .int (nI n901))]) e_X10_pays_132 (by decide) rfl ?_
      refine m_iload F rfl e_X10_pays_134 ?_
      refine m_if_ne F e_X10_pays_136 (fun _ => ?_) (fun q => absurd q (by decide))
      refine m_lconst F (v := 0) (by decide) e_X10_pays_146 ?_
      refine m_goto F e_X10_pays_147 ?_
      refine m_lstore F (lv' := [(8, .long 0), (10, .long x5316), (7, .int 1), (5, .long x5061), (3, .long x5058), (2, .int (nI (160 * n901))), (0, .ref c), (1, .int (nI n901))]) e_X10_pays_154 (by decide) rfl ?_
      refine m_lload F rfl e_X10_pays_156 ?_
      refine m_lload F rfl e_X10_pays_158 ?_
      refine m_lsub F e_X10_pays_160 ?_
      refine Wm.topl (fun x5317 _ => ?_)
      refine m_lload_n F rfl e_X10_pays_161 ?_
      refine m_ladd F e_X10_pays_162 ?_
      refine Wm.topl (fun x5318 _ => ?_)
      refine m_lstore F (lv' := [(10, .long x5318), (8, .long 0), (7, .int 1), (5, .long x5061), (3, .long x5058), (2, .int (nI (160 * n901))), (0, .ref c), (1, .int (nI n901))]) e_X10_pays_163 (by decide) rfl ?_
      refine m_aload_n F rfl e_X10_pays_165 ?_
      refine r_getC F e_X10_pays_166 fl_X10_59 h5305 ((fld_eq (h5304.2 c (by rw [show kC c c = 1 from kC_at (k := 0) (by decide)]; decide))).trans ((fld_eq (h5065.2 c (by rw [show kC c c = 1 from kC_at (k := 0) (by decide)]; decide))).trans f5053)) ?_
      refine m_iload_n F rfl e_X10_pays_169 ?_
      refine m_bipush F (v := 7) (by decide) e_X10_pays_170 ?_
      refine m_iadd F e_X10_pays_172 ?_
      refine Wm.topE (w := nI (160 * n901 + 7)) (nI_add (160 * n901) 7) ?_
      refine r_sld F (j := 160 * n901 + 7) e_X10_pays_173 h5305 (nI_clamp (by omega)) (vp_in_nI (by omega) (by decide)) (fun x5319 h5320 f5321 => ?_)
      refine m_aload_n F rfl e_X10_pays_174 ?_
      refine m_iload_n F rfl e_X10_pays_175 ?_
      refine r_callV F e_X10_pays_176 (q_X10_leftOn (x_l X) V c T Z u h P L _ _ n901 h5305.1 (hok.b) hP (by omega) (by first | omega | assumption | decide)) cb_X10_left ml_X10_257 im_X10_left se_X10_left h5305 rfl rfl (rest := [.long x5319]) rfl (Nat.le_of_ble_eq_true rfl) ⟨Nat.le_of_ble_eq_true rfl, Nat.le_of_ble_eq_true rfl⟩ ⟨Nat.le_of_ble_eq_true rfl, Nat.le_of_ble_eq_true rfl⟩ (fun r σ5322 hp => ?_)
      obtain ⟨h5323, rfl⟩ := hp
      have h5324 := HS.trans h5305 h5323 (by decide)
      refine m_i2l F e_X10_pays_179 ?_
      refine Wm.toplE (w := lN ((L n901).2.1 - (L n901).2.2.2)) (nI_l (by omega)) ?_
      refine m_ldiv F (lN_ne0 (by omega) (by omega)) e_X10_pays_180 ?_
      refine Wm.topl (fun x5325 _ => ?_)
      refine m_lstore F (lv' := [(12, .long x5325), (10, .long x5318), (8, .long 0), (7, .int 1), (5, .long x5061), (3, .long x5058), (2, .int (nI (160 * n901))), (0, .ref c), (1, .int (nI n901))]) e_X10_pays_181 (by decide) rfl ?_
      refine m_aload_n F rfl e_X10_pays_183 ?_
      refine r_getC F e_X10_pays_184 fl_X10_59 h5324 ((fld_eq (h5323.2 c (by rw [show kC c c = 1 from kC_at (k := 0) (by decide)]; decide))).trans ((fld_eq (h5304.2 c (by rw [show kC c c = 1 from kC_at (k := 0) (by decide)]; decide))).trans ((fld_eq (h5065.2 c (by rw [show kC c c = 1 from kC_at (k := 0) (by decide)]; decide))).trans f5053))) ?_
      refine m_iload_n F rfl e_X10_pays_187 ?_
      refine m_bipush F (v := 6) (by decide) e_X10_pays_188 ?_
      refine m_iadd F e_X10_pays_190 ?_
      refine Wm.topE (w := nI (160 * n901 + 6)) (nI_add (160 * n901) 6) ?_
      refine m_lload F rfl e_X10_pays_191 ?_
      refine r_sst F (g' := (⟨T, Z, u, h, P, L⟩ : RG)) (j := 160 * n901 + 6) e_X10_pays_193 h5324 (by decide) (nI_clamp (by omega)) (vp_in_nI (by omega) (by decide)) (fun f q => EJ_same (EJ_lw (l := n901) (r := 6) (by omega) (by omega) (by omega)) q) (fun _ _ _ q => q) (fun σ5326 h5327 g5328 => ?_)
      refine m_aload_n F rfl e_X10_pays_194 ?_
      refine r_getC F e_X10_pays_195 fl_X10_59 h5327 ((fld_eq (g5328 _ (by omega))).trans ((fld_eq (h5323.2 c (by rw [show kC c c = 1 from kC_at (k := 0) (by decide)]; decide))).trans ((fld_eq (h5304.2 c (by rw [show kC c c = 1 from kC_at (k := 0) (by decide)]; decide))).trans ((fld_eq (h5065.2 c (by rw [show kC c c = 1 from kC_at (k := 0) (by decide)]; decide))).trans f5053)))) ?_
      refine m_iload_n F rfl e_X10_pays_198 ?_
      refine m_bipush F (v := 7) (by decide) e_X10_pays_199 ?_
      refine m_iadd F e_X10_pays_201 ?_
      refine Wm.topE (w := nI (160 * n901 + 7)) (nI_add (160 * n901) 7) ?_
      refine m_dup2_11 F rfl rfl e_X10_pays_202 ?_
      refine r_sld F (j := 160 * n901 + 7) e_X10_pays_203 h5327 (nI_clamp (by omega)) (vp_in_nI (by omega) (by decide)) (fun x5329 h5330 f5331 => ?_)
      refine m_lload F rfl e_X10_pays_204 ?_
      refine m_lsub F e_X10_pays_206 ?_
      refine Wm.topl (fun x5332 _ => ?_)
      refine r_sst F (g' := (⟨T, Z, u, h, P, L⟩ : RG)) (j := 160 * n901 + 7) e_X10_pays_207 h5327 (by decide) (nI_clamp (by omega)) (vp_in_nI (by omega) (by decide)) (fun f q => EJ_same (EJ_lw (l := n901) (r := 7) (by omega) (by omega) (by omega)) q) (fun _ _ _ q => q) (fun σ5333 h5334 g5335 => ?_)
      refine m_aload_n F rfl e_X10_pays_208 ?_
      refine r_getC F e_X10_pays_209 fl_X10_59 h5334 ((fld_eq (g5335 _ (by omega))).trans ((fld_eq (g5328 _ (by omega))).trans ((fld_eq (h5323.2 c (by rw [show kC c c = 1 from kC_at (k := 0) (by decide)]; decide))).trans ((fld_eq (h5304.2 c (by rw [show kC c c = 1 from kC_at (k := 0) (by decide)]; decide))).trans ((fld_eq (h5065.2 c (by rw [show kC c c = 1 from kC_at (k := 0) (by decide)]; decide))).trans f5053))))) ?_
      refine m_iload_n F rfl e_X10_pays_212 ?_
      refine m_bipush F (v := 9) (by decide) e_X10_pays_213 ?_
      refine m_iadd F e_X10_pays_215 ?_
      refine Wm.topE (w := nI (160 * n901 + 9)) (nI_add (160 * n901) 9) ?_
      refine m_dup2_11 F rfl rfl e_X10_pays_216 ?_
      refine r_sld F (j := 160 * n901 + 9) e_X10_pays_217 h5334 (nI_clamp (by omega)) (vp_in_nI (by omega) (by decide)) (fun x5336 h5337 f5338 => ?_)
      refine m_lload F rfl e_X10_pays_218 ?_
      refine m_ladd F e_X10_pays_220 ?_
      refine Wm.topl (fun x5339 _ => ?_)
      refine r_sst F (g' := (⟨T, Z, u, h, P, L⟩ : RG)) (j := 160 * n901 + 9) e_X10_pays_221 h5334 (by decide) (nI_clamp (by omega)) (vp_in_nI (by omega) (by decide)) (fun f q => EJ_same (EJ_lw (l := n901) (r := 9) (by omega) (by omega) (by omega)) q) (fun _ _ _ q => q) (fun σ5340 h5341 g5342 => ?_)
      refine m_aload_n F rfl e_X10_pays_222 ?_
      refine r_getC F e_X10_pays_223 fl_X10_59 h5341 ((fld_eq (g5342 _ (by omega))).trans ((fld_eq (g5335 _ (by omega))).trans ((fld_eq (g5328 _ (by omega))).trans ((fld_eq (h5323.2 c (by rw [show kC c c = 1 from kC_at (k := 0) (by decide)]; decide))).trans ((fld_eq (h5304.2 c (by rw [show kC c c = 1 from kC_at (k := 0) (by decide)]; decide))).trans ((fld_eq (h5065.2 c (by rw [show kC c c = 1 from kC_at (k := 0) (by decide)]; decide))).trans f5053)))))) ?_
      refine m_iload_n F rfl e_X10_pays_226 ?_
      refine m_bipush F (v := 10) (by decide) e_X10_pays_227 ?_
      refine m_iadd F e_X10_pays_229 ?_
      refine Wm.topE (w := nI (160 * n901 + 10)) (nI_add (160 * n901) 10) ?_
      refine m_dup2_11 F rfl rfl e_X10_pays_230 ?_
      refine r_sld F (j := 160 * n901 + 10) e_X10_pays_231 h5341 (nI_clamp (by omega)) (vp_in_nI (by omega) (by decide)) (fun x5343 h5344 f5345 => ?_)
      refine m_lload_n F rfl e_X10_pays_232 ?_
      refine m_ladd F e_X10_pays_233 ?_
      refine Wm.topl (fun x5346 _ => ?_)
      refine r_sst F (g' := (⟨T, Z, u, h, P, L⟩ : RG)) (j := 160 * n901 + 10) e_X10_pays_234 h5341 (by decide) (nI_clamp (by omega)) (vp_in_nI (by omega) (by decide)) (fun f q => EJ_same (EJ_lw (l := n901) (r := 10) (by omega) (by omega) (by omega)) q) (fun _ _ _ q => q) (fun σ5347 h5348 g5349 => ?_)
      refine m_aload_n F rfl e_X10_pays_235 ?_
      refine r_getC F e_X10_pays_236 fl_X10_59 h5348 ((fld_eq (g5349 _ (by omega))).trans ((fld_eq (g5342 _ (by omega))).trans ((fld_eq (g5335 _ (by omega))).trans ((fld_eq (g5328 _ (by omega))).trans ((fld_eq (h5323.2 c (by rw [show kC c c = 1 from kC_at (k := 0) (by decide)]; decide))).trans ((fld_eq (h5304.2 c (by rw [show kC c c = 1 from kC_at (k := 0) (by decide)]; decide))).trans ((fld_eq (h5065.2 c (by rw [show kC c c = 1 from kC_at (k := 0) (by decide)]; decide))).trans f5053))))))) ?_
      refine m_iload_n F rfl e_X10_pays_239 ?_
      refine m_iconst F (v := 5) (by decide) e_X10_pays_240 ?_
      refine m_iadd F e_X10_pays_241 ?_
      refine Wm.topE (w := nI (160 * n901 + 5)) (nI_add (160 * n901) 5) ?_
      refine m_dup2_11 F rfl rfl e_X10_pays_242 ?_
      refine r_sld F (j := 160 * n901 + 5) e_X10_pays_243 h5348 (nI_clamp (by omega)) (vp_in_nI (by omega) (by decide)) (fun x5350 h5351 f5352 => ?_)
      have hl5353 := hok.2 n901 (by omega)
      obtain rfl : x5350 = lN (L n901).2.2.2 := (EJ_l (l := n901) (r := 5) (by omega) (by decide)).mp h5351
      refine m_lconst F (v := 1) (by decide) e_X10_pays_244 ?_
      refine m_ladd F e_X10_pays_245 ?_
      refine Wm.toplE (w := lN ((L n901).2.2.2 + 1)) (lN_add ((L n901).2.2.2) 1) ?_
      refine r_sst F (g' := (⟨T, Z, u, h, P, (updL L n901 ((L n901).1, (L n901).2.1, (L n901).2.2.1, (L n901).2.2.2 + 1))⟩ : RG)) (j := 160 * n901 + 5) e_X10_pays_246 h5348 (by decide) (nI_clamp (by omega)) (vp_in_nI (by omega) (by decide)) (fun f q => EJ_up (l := n901) (r := 5) (by omega) (by decide) q rfl (by intro r' h1 h2 y hy; revert hy; unfold EL; split <;> simp_all)) CR.row (fun σ5354 h5355 g5356 => ?_)
      obtain ⟨L5357, eL5357⟩ : ∃ L9, L9 = (updL L n901 ((L n901).1, (L n901).2.1, (L n901).2.2.1, (L n901).2.2.2 + 1)) := ⟨_, rfl⟩
      rw [← eL5357] at h5355
      have fL5357 : L5357 n901 = ((L n901).1, (L n901).2.1, (L n901).2.2.1, (L n901).2.2.2 + 1) := by rw [eL5357]; exact if_pos rfl
      have fL53570 : (L5357 n901).1 = (L n901).1 := by rw [fL5357]
      have fL53571 : (L5357 n901).2.1 = (L n901).2.1 := by rw [fL5357]
      have fL53572 : (L5357 n901).2.2.1 = (L n901).2.2.1 := by rw [fL5357]
      have fL53573 : (L5357 n901).2.2.2 = (L n901).2.2.2 + 1 := by rw [fL5357]
      have oL5357 : ∀ i, i ≠ n901 → L5357 i = L i := fun i hi => by rw [eL5357]; exact if_neg hi
      have pL5357 : (L5357 4).1 = (L 4).1 := by rw [oL5357 4 (by omega)]
      refine m_aload_n F rfl e_X10_pays_247 ?_
      refine m_iconst F (v := 1) (by decide) e_X10_pays_248 ?_
      refine m_iload_n F rfl e_X10_pays_249 ?_
      refine m_lload_n F rfl e_X10_pays_250 ?_
      refine m_lneg F e_X10_pays_251 ?_
      refine Wm.topl (fun x5358 _ => ?_)
      refine m_lload F rfl e_X10_pays_252 ?_
      refine m_lload F rfl e_X10_pays_254 ?_
      refine m_lsub F e_X10_pays_256 ?_
      refine Wm.topl (fun x5359 _ => ?_)
      refine m_lload F rfl e_X10_pays_257 ?_
      refine m_lneg F e_X10_pays_259 ?_
      refine Wm.topl (fun x5360 _ => ?_)
      refine m_lload F rfl e_X10_pays_260 ?_
      refine m_lload F rfl e_X10_pays_262 ?_
      refine m_lconst F (v := 0) (by decide) e_X10_pays_264 ?_
      have okb5364 : OKB L5357 := OKB.upd (hok.b) (l := n901) (by omega) (fun i hi => (oL5357 i hi)) (by have h9 := (hok.b).2 n901 (by omega); omega)
      refine r_callV F e_X10_pays_265 (q_X10_entry (x_l X) V c T Z u h P L5357 _ _ 1 (nI n901) x5358 x5359 x5360 x5318 x5325 0 h5355.1 (okb5364) hP ) cb_X10_entry ml_X10_253 im_X10_entry se_X10_entry h5355 rfl rfl (rest := []) rfl (Nat.le_of_ble_eq_true rfl) ⟨Nat.le_of_ble_eq_true rfl, Nat.le_of_ble_eq_true rfl⟩ ⟨Nat.le_of_ble_eq_true rfl, Nat.le_of_ble_eq_true rfl⟩ (fun r σ5361 hp => ?_)
      obtain ⟨h5362, rfl⟩ := hp
      have h5363 := HS.trans h5355 h5362 (by decide)
      refine m_iload F rfl e_X10_pays_268 ?_
      refine m_if_eq F e_X10_pays_270 (fun q => absurd q (by decide)) (fun _ => ?_)
      refine m_aload_n F rfl e_X10_pays_273 ?_
      refine r_getC F e_X10_pays_274 fl_X10_59 h5363 ((fld_eq (h5362.2 c (by rw [show kC c c = 1 from kC_at (k := 0) (by decide)]; decide))).trans ((fld_eq (g5356 _ (by omega))).trans ((fld_eq (g5349 _ (by omega))).trans ((fld_eq (g5342 _ (by omega))).trans ((fld_eq (g5335 _ (by omega))).trans ((fld_eq (g5328 _ (by omega))).trans ((fld_eq (h5323.2 c (by rw [show kC c c = 1 from kC_at (k := 0) (by decide)]; decide))).trans ((fld_eq (h5304.2 c (by rw [show kC c c = 1 from kC_at (k := 0) (by decide)]; decide))).trans ((fld_eq (h5065.2 c (by rw [show kC c c = 1 from kC_at (k := 0) (by decide)]; decide))).trans f5053))))))))) ?_
      refine m_iload_n F rfl e_X10_pays_277 ?_
      refine m_iconst F (v := 0) (by decide) e_X10_pays_278 ?_
      refine m_iadd F e_X10_pays_279 ?_
      refine Wm.topE (w := nI (160 * n901)) (nI_add (160 * n901) 0) ?_
      refine m_ldc2 F kc_X10_234 e_X10_pays_280 ?_
      refine r_sst F (g' := (⟨T, Z, u, h, P, (updL L5357 n901 (2, (L5357 n901).2.1, (L5357 n901).2.2.1, (L5357 n901).2.2.2))⟩ : RG)) (j := 160 * n901) e_X10_pays_283 h5363 (by decide) (nI_clamp (by omega)) (vp_in_nI (by omega) (by decide)) (fun f q => EJ_up (l := n901) (r := 0) (by omega) (by decide) q rfl (by intro r' h1 h2 y hy; revert hy; unfold EL; split <;> simp_all)) CR.row (fun σ5365 h5366 g5367 => ?_)
      obtain ⟨L5368, eL5368⟩ : ∃ L9, L9 = (updL L5357 n901 (2, (L5357 n901).2.1, (L5357 n901).2.2.1, (L5357 n901).2.2.2)) := ⟨_, rfl⟩
      rw [← eL5368] at h5366
      have fL5368 : L5368 n901 = (2, (L5357 n901).2.1, (L5357 n901).2.2.1, (L5357 n901).2.2.2) := by rw [eL5368]; exact if_pos rfl
      have fL53680 : (L5368 n901).1 = 2 := by rw [fL5368]
      have fL53681 : (L5368 n901).2.1 = (L5357 n901).2.1 := by rw [fL5368]
      have fL53682 : (L5368 n901).2.2.1 = (L5357 n901).2.2.1 := by rw [fL5368]
      have fL53683 : (L5368 n901).2.2.2 = (L5357 n901).2.2.2 := by rw [fL5368]
      have oL5368 : ∀ i, i ≠ n901 → L5368 i = L5357 i := fun i hi => by rw [eL5368]; exact if_neg hi
      have pL5368 : (L5368 4).1 = (L5357 4).1 := by rw [oL5368 4 (by omega)]
      have ok5369 : OKL P.n0 L5368 := OKL.upd hok (l := n901) (by omega) (fun i hi => (oL5368 i hi).trans (oL5357 i hi)) (by have h9 := hok.2 n901 (by omega); omega)
      exact m_vret F hQ e_X10_pays_284 (⟨L5368, ok5369, (by first | omega | rfl | assumption), h5366, rfl⟩)
    · have c58 : n5306 ≠ 0 := by have hh := mt (nI_eq (a := n5306) (b := 0) (by omega) (by omega)).mpr q58; omega
      refine m_lload F rfl e_X10_pays_61 ?_
      refine m_lload_n F rfl e_X10_pays_63 ?_
      refine m_lcmp F e_X10_pays_64 ?_
      refine Wm.top (fun x5370 _ => ?_)
      refine m_if_le F e_X10_pays_65 (fun q65 => ?_) (fun q65 => ?_)
      · refine m_lconst F (v := 0) (by decide) e_X10_pays_75 ?_
        refine m_lstore F (lv' := [(10, .long 0), (7, .int 1), (5, .long x5061), (3, .long x5058), (2, .int (nI (160 * n901))), (0, .ref c), (1, .int (nI n901))]) e_X10_pays_76 (by decide) rfl ?_
        refine m_iload F rfl e_X10_pays_78 ?_
        refine m_if_eq F e_X10_pays_80 (fun q => absurd q (by decide)) (fun _ => ?_)
        refine m_lconst F (v := 0) (by decide) e_X10_pays_83 ?_
        refine m_goto F e_X10_pays_84 ?_
        refine m_lstore F (lv' := [(8, .long 0), (10, .long 0), (7, .int 1), (5, .long x5061), (3, .long x5058), (2, .int (nI (160 * n901))), (0, .ref c), (1, .int (nI n901))]) e_X10_pays_107 (by decide) rfl ?_
        refine m_goto F e_X10_pays_109 ?_
        refine m_lload F rfl e_X10_pays_156 ?_
        refine m_lload F rfl e_X10_pays_158 ?_
        refine m_lsub F e_X10_pays_160 ?_
        refine Wm.topl (fun x5371 _ => ?_)
        refine m_lload_n F rfl e_X10_pays_161 ?_
        refine m_ladd F e_X10_pays_162 ?_
        refine Wm.topl (fun x5372 _ => ?_)
        refine m_lstore F (lv' := [(10, .long x5372), (8, .long 0), (7, .int 1), (5, .long x5061), (3, .long x5058), (2, .int (nI (160 * n901))), (0, .ref c), (1, .int (nI n901))]) e_X10_pays_163 (by decide) rfl ?_
        refine m_aload_n F rfl e_X10_pays_165 ?_
        refine r_getC F e_X10_pays_166 fl_X10_59 h5305 ((fld_eq (h5304.2 c (by rw [show kC c c = 1 from kC_at (k := 0) (by decide)]; decide))).trans ((fld_eq (h5065.2 c (by rw [show kC c c = 1 from kC_at (k := 0) (by decide)]; decide))).trans f5053)) ?_
        refine m_iload_n F rfl e_X10_pays_169 ?_
        refine m_bipush F (v := 7) (by decide) e_X10_pays_170 ?_
        refine m_iadd F e_X10_pays_172 ?_
        refine Wm.topE (w := nI (160 * n901 + 7)) (nI_add (160 * n901) 7) ?_
        refine r_sld F (j := 160 * n901 + 7) e_X10_pays_173 h5305 (nI_clamp (by omega)) (vp_in_nI (by omega) (by decide)) (fun x5373 h5374 f5375 => ?_)
        refine m_aload_n F rfl e_X10_pays_174 ?_
        refine m_iload_n F rfl e_X10_pays_175 ?_
        refine r_callV F e_X10_pays_176 (q_X10_leftOn (x_l X) V c T Z u h P L _ _ n901 h5305.1 (hok.b) hP (by omega) (by first | omega | assumption | decide)) cb_X10_left ml_X10_257 im_X10_left se_X10_left h5305 rfl rfl (rest := [.long x5373]) rfl (Nat.le_of_ble_eq_true rfl) ⟨Nat.le_of_ble_eq_true rfl, Nat.le_of_ble_eq_true rfl⟩ ⟨Nat.le_of_ble_eq_true rfl, Nat.le_of_ble_eq_true rfl⟩ (fun r σ5376 hp => ?_)
        obtain ⟨h5377, rfl⟩ := hp
        have h5378 := HS.trans h5305 h5377 (by decide)
        refine m_i2l F e_X10_pays_179 ?_
        refine Wm.toplE (w := lN ((L n901).2.1 - (L n901).2.2.2)) (nI_l (by omega)) ?_
        refine m_ldiv F (lN_ne0 (by omega) (by omega)) e_X10_pays_180 ?_
        refine Wm.topl (fun x5379 _ => ?_)
        refine m_lstore F (lv' := [(12, .long x5379), (10, .long x5372), (8, .long 0), (7, .int 1), (5, .long x5061), (3, .long x5058), (2, .int (nI (160 * n901))), (0, .ref c), (1, .int (nI n901))]) e_X10_pays_181 (by decide) rfl ?_
        refine m_aload_n F rfl e_X10_pays_183 ?_
        refine r_getC F e_X10_pays_184 fl_X10_59 h5378 ((fld_eq (h5377.2 c (by rw [show kC c c = 1 from kC_at (k := 0) (by decide)]; decide))).trans ((fld_eq (h5304.2 c (by rw [show kC c c = 1 from kC_at (k := 0) (by decide)]; decide))).trans ((fld_eq (h5065.2 c (by rw [show kC c c = 1 from kC_at (k := 0) (by decide)]; decide))).trans f5053))) ?_
        refine m_iload_n F rfl e_X10_pays_187 ?_
        refine m_bipush F (v := 6) (by decide) e_X10_pays_188 ?_
        refine m_iadd F e_X10_pays_190 ?_
        refine Wm.topE (w := nI (160 * n901 + 6)) (nI_add (160 * n901) 6) ?_
        refine m_lload F rfl e_X10_pays_191 ?_
        refine r_sst F (g' := (⟨T, Z, u, h, P, L⟩ : RG)) (j := 160 * n901 + 6) e_X10_pays_193 h5378 (by decide) (nI_clamp (by omega)) (vp_in_nI (by omega) (by decide)) (fun f q => EJ_same (EJ_lw (l := n901) (r := 6) (by omega) (by omega) (by omega)) q) (fun _ _ _ q => q) (fun σ5380 h5381 g5382 => ?_)
        refine m_aload_n F rfl e_X10_pays_194 ?_
        refine r_getC F e_X10_pays_195 fl_X10_59 h5381 ((fld_eq (g5382 _ (by omega))).trans ((fld_eq (h5377.2 c (by rw [show kC c c = 1 from kC_at (k := 0) (by decide)]; decide))).trans ((fld_eq (h5304.2 c (by rw [show kC c c = 1 from kC_at (k := 0) (by decide)]; decide))).trans ((fld_eq (h5065.2 c (by rw [show kC c c = 1 from kC_at (k := 0) (by decide)]; decide))).trans f5053)))) ?_
        refine m_iload_n F rfl e_X10_pays_198 ?_
        refine m_bipush F (v := 7) (by decide) e_X10_pays_199 ?_
        refine m_iadd F e_X10_pays_201 ?_
        refine Wm.topE (w := nI (160 * n901 + 7)) (nI_add (160 * n901) 7) ?_
        refine m_dup2_11 F rfl rfl e_X10_pays_202 ?_
        refine r_sld F (j := 160 * n901 + 7) e_X10_pays_203 h5381 (nI_clamp (by omega)) (vp_in_nI (by omega) (by decide)) (fun x5383 h5384 f5385 => ?_)
        refine m_lload F rfl e_X10_pays_204 ?_
        refine m_lsub F e_X10_pays_206 ?_
        refine Wm.topl (fun x5386 _ => ?_)
        refine r_sst F (g' := (⟨T, Z, u, h, P, L⟩ : RG)) (j := 160 * n901 + 7) e_X10_pays_207 h5381 (by decide) (nI_clamp (by omega)) (vp_in_nI (by omega) (by decide)) (fun f q => EJ_same (EJ_lw (l := n901) (r := 7) (by omega) (by omega) (by omega)) q) (fun _ _ _ q => q) (fun σ5387 h5388 g5389 => ?_)
        refine m_aload_n F rfl e_X10_pays_208 ?_
        refine r_getC F e_X10_pays_209 fl_X10_59 h5388 ((fld_eq (g5389 _ (by omega))).trans ((fld_eq (g5382 _ (by omega))).trans ((fld_eq (h5377.2 c (by rw [show kC c c = 1 from kC_at (k := 0) (by decide)]; decide))).trans ((fld_eq (h5304.2 c (by rw [show kC c c = 1 from kC_at (k := 0) (by decide)]; decide))).trans ((fld_eq (h5065.2 c (by rw [show kC c c = 1 from kC_at (k := 0) (by decide)]; decide))).trans f5053))))) ?_
        refine m_iload_n F rfl e_X10_pays_212 ?_
        refine m_bipush F (v := 9) (by decide) e_X10_pays_213 ?_
        refine m_iadd F e_X10_pays_215 ?_
        refine Wm.topE (w := nI (160 * n901 + 9)) (nI_add (160 * n901) 9) ?_
        refine m_dup2_11 F rfl rfl e_X10_pays_216 ?_
        refine r_sld F (j := 160 * n901 + 9) e_X10_pays_217 h5388 (nI_clamp (by omega)) (vp_in_nI (by omega) (by decide)) (fun x5390 h5391 f5392 => ?_)
        refine m_lload F rfl e_X10_pays_218 ?_
        refine m_ladd F e_X10_pays_220 ?_
        refine Wm.topl (fun x5393 _ => ?_)
        refine r_sst F (g' := (⟨T, Z, u, h, P, L⟩ : RG)) (j := 160 * n901 + 9) e_X10_pays_221 h5388 (by decide) (nI_clamp (by omega)) (vp_in_nI (by omega) (by decide)) (fun f q => EJ_same (EJ_lw (l := n901) (r := 9) (by omega) (by omega) (by omega)) q) (fun _ _ _ q => q) (fun σ5394 h5395 g5396 => ?_)
        refine m_aload_n F rfl e_X10_pays_222 ?_
        refine r_getC F e_X10_pays_223 fl_X10_59 h5395 ((fld_eq (g5396 _ (by omega))).trans ((fld_eq (g5389 _ (by omega))).trans ((fld_eq (g5382 _ (by omega))).trans ((fld_eq (h5377.2 c (by rw [show kC c c = 1 from kC_at (k := 0) (by decide)]; decide))).trans ((fld_eq (h5304.2 c (by rw [show kC c c = 1 from kC_at (k := 0) (by decide)]; decide))).trans ((fld_eq (h5065.2 c (by rw [show kC c c = 1 from kC_at (k := 0) (by decide)]; decide))).trans f5053)))))) ?_
        refine m_iload_n F rfl e_X10_pays_226 ?_
        refine m_bipush F (v := 10) (by decide) e_X10_pays_227 ?_
        refine m_iadd F e_X10_pays_229 ?_
        refine Wm.topE (w := nI (160 * n901 + 10)) (nI_add (160 * n901) 10) ?_
        refine m_dup2_11 F rfl rfl e_X10_pays_230 ?_
        refine r_sld F (j := 160 * n901 + 10) e_X10_pays_231 h5395 (nI_clamp (by omega)) (vp_in_nI (by omega) (by decide)) (fun x5397 h5398 f5399 => ?_)
        refine m_lload_n F rfl e_X10_pays_232 ?_
        refine m_ladd F e_X10_pays_233 ?_
        refine Wm.topl (fun x5400 _ => ?_)
        refine r_sst F (g' := (⟨T, Z, u, h, P, L⟩ : RG)) (j := 160 * n901 + 10) e_X10_pays_234 h5395 (by decide) (nI_clamp (by omega)) (vp_in_nI (by omega) (by decide)) (fun f q => EJ_same (EJ_lw (l := n901) (r := 10) (by omega) (by omega) (by omega)) q) (fun _ _ _ q => q) (fun σ5401 h5402 g5403 => ?_)
        refine m_aload_n F rfl e_X10_pays_235 ?_
        refine r_getC F e_X10_pays_236 fl_X10_59 h5402 ((fld_eq (g5403 _ (by omega))).trans ((fld_eq (g5396 _ (by omega))).trans ((fld_eq (g5389 _ (by omega))).trans ((fld_eq (g5382 _ (by omega))).trans ((fld_eq (h5377.2 c (by rw [show kC c c = 1 from kC_at (k := 0) (by decide)]; decide))).trans ((fld_eq (h5304.2 c (by rw [show kC c c = 1 from kC_at (k := 0) (by decide)]; decide))).trans ((fld_eq (h5065.2 c (by rw [show kC c c = 1 from kC_at (k := 0) (by decide)]; decide))).trans f5053))))))) ?_
        refine m_iload_n F rfl e_X10_pays_239 ?_
        refine m_iconst F (v := 5) (by decide) e_X10_pays_240 ?_
        refine m_iadd F e_X10_pays_241 ?_
        refine Wm.topE (w := nI (160 * n901 + 5)) (nI_add (160 * n901) 5) ?_
        refine m_dup2_11 F rfl rfl e_X10_pays_242 ?_
        refine r_sld F (j := 160 * n901 + 5) e_X10_pays_243 h5402 (nI_clamp (by omega)) (vp_in_nI (by omega) (by decide)) (fun x5404 h5405 f5406 => ?_)
        have hl5407 := hok.2 n901 (by omega)
        obtain rfl : x5404 = lN (L n901).2.2.2 := (EJ_l (l := n901) (r := 5) (by omega) (by decide)).mp h5405
        refine m_lconst F (v := 1) (by decide) e_X10_pays_244 ?_
        refine m_ladd F e_X10_pays_245 ?_
        refine Wm.toplE (w := lN ((L n901).2.2.2 + 1)) (lN_add ((L n901).2.2.2) 1) ?_
        refine r_sst F (g' := (⟨T, Z, u, h, P, (updL L n901 ((L n901).1, (L n901).2.1, (L n901).2.2.1, (L n901).2.2.2 + 1))⟩ : RG)) (j := 160 * n901 + 5) e_X10_pays_246 h5402 (by decide) (nI_clamp (by omega)) (vp_in_nI (by omega) (by decide)) (fun f q => EJ_up (l := n901) (r := 5) (by omega) (by decide) q rfl (by intro r' h1 h2 y hy; revert hy; unfold EL; split <;> simp_all)) CR.row (fun σ5408 h5409 g5410 => ?_)
        obtain ⟨L5411, eL5411⟩ : ∃ L9, L9 = (updL L n901 ((L n901).1, (L n901).2.1, (L n901).2.2.1, (L n901).2.2.2 + 1)) := ⟨_, rfl⟩
        rw [← eL5411] at h5409
        have fL5411 : L5411 n901 = ((L n901).1, (L n901).2.1, (L n901).2.2.1, (L n901).2.2.2 + 1) := by rw [eL5411]; exact if_pos rfl
        have fL54110 : (L5411 n901).1 = (L n901).1 := by rw [fL5411]
        have fL54111 : (L5411 n901).2.1 = (L n901).2.1 := by rw [fL5411]
        have fL54112 : (L5411 n901).2.2.1 = (L n901).2.2.1 := by rw [fL5411]
        have fL54113 : (L5411 n901).2.2.2 = (L n901).2.2.2 + 1 := by rw [fL5411]
        have oL5411 : ∀ i, i ≠ n901 → L5411 i = L i := fun i hi => by rw [eL5411]; exact if_neg hi
        have pL5411 : (L5411 4).1 = (L 4).1 := by rw [oL5411 4 (by omega)]
        refine m_aload_n F rfl e_X10_pays_247 ?_
        refine m_iconst F (v := 1) (by decide) e_X10_pays_248 ?_
        refine m_iload_n F rfl e_X10_pays_249 ?_
        refine m_lload_n F rfl e_X10_pays_250 ?_
        refine m_lneg F e_X10_pays_251 ?_
        refine Wm.topl (fun x5412 _ => ?_)
        refine m_lload F rfl e_X10_pays_252 ?_
        refine m_lload F rfl e_X10_pays_254 ?_
        refine m_lsub F e_X10_pays_256 ?_
        refine Wm.topl (fun x5413 _ => ?_)
        refine m_lload F rfl e_X10_pays_257 ?_
        refine m_lneg F e_X10_pays_259 ?_
        refine Wm.topl (fun x5414 _ => ?_)
        refine m_lload F rfl e_X10_pays_260 ?_
        refine m_lload F rfl e_X10_pays_262 ?_
        refine m_lconst F (v := 0) (by decide) e_X10_pays_264 ?_
        have okb5418 : OKB L5411 := OKB.upd (hok.b) (l := n901) (by omega) (fun i hi => (oL5411 i hi)) (by have h9 := (hok.b).2 n901 (by omega); omega)
        refine r_callV F e_X10_pays_265 (q_X10_entry (x_l X) V c T Z u h P L5411 _ _ 1 (nI n901) x5412 x5413 x5414 x5372 x5379 0 h5409.1 (okb5418) hP ) cb_X10_entry ml_X10_253 im_X10_entry se_X10_entry h5409 rfl rfl (rest := []) rfl (Nat.le_of_ble_eq_true rfl) ⟨Nat.le_of_ble_eq_true rfl, Nat.le_of_ble_eq_true rfl⟩ ⟨Nat.le_of_ble_eq_true rfl, Nat.le_of_ble_eq_true rfl⟩ (fun r σ5415 hp => ?_)
        obtain ⟨h5416, rfl⟩ := hp
        have h5417 := HS.trans h5409 h5416 (by decide)
        refine m_iload F rfl e_X10_pays_268 ?_
        refine m_if_eq F e_X10_pays_270 (fun q => absurd q (by decide)) (fun _ => ?_)
        refine m_aload_n F rfl e_X10_pays_273 ?_
        refine r_getC F e_X10_pays_274 fl_X10_59 h5417 ((fld_eq (h5416.2 c (by rw [show kC c c = 1 from kC_at (k := 0) (by decide)]; decide))).trans ((fld_eq (g5410 _ (by omega))).trans ((fld_eq (g5403 _ (by omega))).trans ((fld_eq (g5396 _ (by omega))).trans ((fld_eq (g5389 _ (by omega))).trans ((fld_eq (g5382 _ (by omega))).trans ((fld_eq (h5377.2 c (by rw [show kC c c = 1 from kC_at (k := 0) (by decide)]; decide))).trans ((fld_eq (h5304.2 c (by rw [show kC c c = 1 from kC_at (k := 0) (by decide)]; decide))).trans ((fld_eq (h5065.2 c (by rw [show kC c c = 1 from kC_at (k := 0) (by decide)]; decide))).trans f5053))))))))) ?_
        refine m_iload_n F rfl e_X10_pays_277 ?_
        refine m_iconst F (v := 0) (by decide) e_X10_pays_278 ?_
        refine m_iadd F e_X10_pays_279 ?_
        refine Wm.topE (w := nI (160 * n901)) (nI_add (160 * n901) 0) ?_
        refine m_ldc2 F kc_X10_234 e_X10_pays_280 ?_
        refine r_sst F (g' := (⟨T, Z, u, h, P, (updL L5411 n901 (2, (L5411 n901).2.1, (L5411 n901).2.2.1, (L5411 n901).2.2.2))⟩ : RG)) (j := 160 * n901) e_X10_pays_283 h5417 (by decide) (nI_clamp (by omega)) (vp_in_nI (by omega) (by decide)) (fun f q => EJ_up (l := n901) (r := 0) (by omega) (by decide) q rfl (by intro r' h1 h2 y hy; revert hy; unfold EL; split <;> simp_all)) CR.row (fun σ5419 h5420 g5421 => ?_)
        obtain ⟨L5422, eL5422⟩ : ∃ L9, L9 = (updL L5411 n901 (2, (L5411 n901).2.1, (L5411 n901).2.2.1, (L5411 n901).2.2.2)) := ⟨_, rfl⟩
        rw [← eL5422] at h5420
        have fL5422 : L5422 n901 = (2, (L5411 n901).2.1, (L5411 n901).2.2.1, (L5411 n901).2.2.2) := by rw [eL5422]; exact if_pos rfl
        have fL54220 : (L5422 n901).1 = 2 := by rw [fL5422]
        have fL54221 : (L5422 n901).2.1 = (L5411 n901).2.1 := by rw [fL5422]
        have fL54222 : (L5422 n901).2.2.1 = (L5411 n901).2.2.1 := by rw [fL5422]
        have fL54223 : (L5422 n901).2.2.2 = (L5411 n901).2.2.2 := by rw [fL5422]
        have oL5422 : ∀ i, i ≠ n901 → L5422 i = L5411 i := fun i hi => by rw [eL5422]; exact if_neg hi
        have pL5422 : (L5422 4).1 = (L5411 4).1 := by rw [oL5422 4 (by omega)]
        have ok5423 : OKL P.n0 L5422 := OKL.upd hok (l := n901) (by omega) (fun i hi => (oL5422 i hi).trans (oL5411 i hi)) (by have h9 := hok.2 n901 (by omega); omega)
        exact m_vret F hQ e_X10_pays_284 (⟨L5422, ok5423, (by first | omega | rfl | assumption), h5420, rfl⟩)
      · obtain ⟨n5424, hn5424, rfl⟩ := nI_nn (x := x5370) (fun e => q65 (Int32.le_trans (Int32.le_of_lt e) (by decide)))
        have c65 : n5424 > 0 := by have hh := mt (nI_leI (a := n5424) (b := 0) (by omega) (by omega)).mpr q65; omega
        refine m_lload F rfl e_X10_pays_68 ?_
        refine m_lload_n F rfl e_X10_pays_70 ?_
        refine m_lsub F e_X10_pays_71 ?_
        refine Wm.topl (fun x5425 _ => ?_)
        refine m_goto F e_X10_pays_72 ?_
        refine m_lstore F (lv' := [(10, .long x5425), (7, .int 1), (5, .long x5061), (3, .long x5058), (2, .int (nI (160 * n901))), (0, .ref c), (1, .int (nI n901))]) e_X10_pays_76 (by decide) rfl ?_
        refine m_iload F rfl e_X10_pays_78 ?_
        refine m_if_eq F e_X10_pays_80 (fun q => absurd q (by decide)) (fun _ => ?_)
        refine m_lconst F (v := 0) (by decide) e_X10_pays_83 ?_
        refine m_goto F e_X10_pays_84 ?_
        refine m_lstore F (lv' := [(8, .long 0), (10, .long x5425), (7, .int 1), (5, .long x5061), (3, .long x5058), (2, .int (nI (160 * n901))), (0, .ref c), (1, .int (nI n901))]) e_X10_pays_107 (by decide) rfl ?_
        refine m_goto F e_X10_pays_109 ?_
        refine m_lload F rfl e_X10_pays_156 ?_
        refine m_lload F rfl e_X10_pays_158 ?_
        refine m_lsub F e_X10_pays_160 ?_
        refine Wm.topl (fun x5426 _ => ?_)
        refine m_lload_n F rfl e_X10_pays_161 ?_
        refine m_ladd F e_X10_pays_162 ?_
        refine Wm.topl (fun x5427 _ => ?_)
        refine m_lstore F (lv' := [(10, .long x5427), (8, .long 0), (7, .int 1), (5, .long x5061), (3, .long x5058), (2, .int (nI (160 * n901))), (0, .ref c), (1, .int (nI n901))]) e_X10_pays_163 (by decide) rfl ?_
        refine m_aload_n F rfl e_X10_pays_165 ?_
        refine r_getC F e_X10_pays_166 fl_X10_59 h5305 ((fld_eq (h5304.2 c (by rw [show kC c c = 1 from kC_at (k := 0) (by decide)]; decide))).trans ((fld_eq (h5065.2 c (by rw [show kC c c = 1 from kC_at (k := 0) (by decide)]; decide))).trans f5053)) ?_
        refine m_iload_n F rfl e_X10_pays_169 ?_
        refine m_bipush F (v := 7) (by decide) e_X10_pays_170 ?_
        refine m_iadd F e_X10_pays_172 ?_
        refine Wm.topE (w := nI (160 * n901 + 7)) (nI_add (160 * n901) 7) ?_
        refine r_sld F (j := 160 * n901 + 7) e_X10_pays_173 h5305 (nI_clamp (by omega)) (vp_in_nI (by omega) (by decide)) (fun x5428 h5429 f5430 => ?_)
        refine m_aload_n F rfl e_X10_pays_174 ?_
        refine m_iload_n F rfl e_X10_pays_175 ?_
        refine r_callV F e_X10_pays_176 (q_X10_leftOn (x_l X) V c T Z u h P L _ _ n901 h5305.1 (hok.b) hP (by omega) (by first | omega | assumption | decide)) cb_X10_left ml_X10_257 im_X10_left se_X10_left h5305 rfl rfl (rest := [.long x5428]) rfl (Nat.le_of_ble_eq_true rfl) ⟨Nat.le_of_ble_eq_true rfl, Nat.le_of_ble_eq_true rfl⟩ ⟨Nat.le_of_ble_eq_true rfl, Nat.le_of_ble_eq_true rfl⟩ (fun r σ5431 hp => ?_)
        obtain ⟨h5432, rfl⟩ := hp
        have h5433 := HS.trans h5305 h5432 (by decide)
        refine m_i2l F e_X10_pays_179 ?_
        refine Wm.toplE (w := lN ((L n901).2.1 - (L n901).2.2.2)) (nI_l (by omega)) ?_
        refine m_ldiv F (lN_ne0 (by omega) (by omega)) e_X10_pays_180 ?_
        refine Wm.topl (fun x5434 _ => ?_)
        refine m_lstore F (lv' := [(12, .long x5434), (10, .long x5427), (8, .long 0), (7, .int 1), (5, .long x5061), (3, .long x5058), (2, .int (nI (160 * n901))), (0, .ref c), (1, .int (nI n901))]) e_X10_pays_181 (by decide) rfl ?_
        refine m_aload_n F rfl e_X10_pays_183 ?_
        refine r_getC F e_X10_pays_184 fl_X10_59 h5433 ((fld_eq (h5432.2 c (by rw [show kC c c = 1 from kC_at (k := 0) (by decide)]; decide))).trans ((fld_eq (h5304.2 c (by rw [show kC c c = 1 from kC_at (k := 0) (by decide)]; decide))).trans ((fld_eq (h5065.2 c (by rw [show kC c c = 1 from kC_at (k := 0) (by decide)]; decide))).trans f5053))) ?_
        refine m_iload_n F rfl e_X10_pays_187 ?_
        refine m_bipush F (v := 6) (by decide) e_X10_pays_188 ?_
        refine m_iadd F e_X10_pays_190 ?_
        refine Wm.topE (w := nI (160 * n901 + 6)) (nI_add (160 * n901) 6) ?_
        refine m_lload F rfl e_X10_pays_191 ?_
        refine r_sst F (g' := (⟨T, Z, u, h, P, L⟩ : RG)) (j := 160 * n901 + 6) e_X10_pays_193 h5433 (by decide) (nI_clamp (by omega)) (vp_in_nI (by omega) (by decide)) (fun f q => EJ_same (EJ_lw (l := n901) (r := 6) (by omega) (by omega) (by omega)) q) (fun _ _ _ q => q) (fun σ5435 h5436 g5437 => ?_)
        refine m_aload_n F rfl e_X10_pays_194 ?_
        refine r_getC F e_X10_pays_195 fl_X10_59 h5436 ((fld_eq (g5437 _ (by omega))).trans ((fld_eq (h5432.2 c (by rw [show kC c c = 1 from kC_at (k := 0) (by decide)]; decide))).trans ((fld_eq (h5304.2 c (by rw [show kC c c = 1 from kC_at (k := 0) (by decide)]; decide))).trans ((fld_eq (h5065.2 c (by rw [show kC c c = 1 from kC_at (k := 0) (by decide)]; decide))).trans f5053)))) ?_
        refine m_iload_n F rfl e_X10_pays_198 ?_
        refine m_bipush F (v := 7) (by decide) e_X10_pays_199 ?_
        refine m_iadd F e_X10_pays_201 ?_
        refine Wm.topE (w := nI (160 * n901 + 7)) (nI_add (160 * n901) 7) ?_
        refine m_dup2_11 F rfl rfl e_X10_pays_202 ?_
        refine r_sld F (j := 160 * n901 + 7) e_X10_pays_203 h5436 (nI_clamp (by omega)) (vp_in_nI (by omega) (by decide)) (fun x5438 h5439 f5440 => ?_)
        refine m_lload F rfl e_X10_pays_204 ?_
        refine m_lsub F e_X10_pays_206 ?_
        refine Wm.topl (fun x5441 _ => ?_)
        refine r_sst F (g' := (⟨T, Z, u, h, P, L⟩ : RG)) (j := 160 * n901 + 7) e_X10_pays_207 h5436 (by decide) (nI_clamp (by omega)) (vp_in_nI (by omega) (by decide)) (fun f q => EJ_same (EJ_lw (l := n901) (r := 7) (by omega) (by omega) (by omega)) q) (fun _ _ _ q => q) (fun σ5442 h5443 g5444 => ?_)
        refine m_aload_n F rfl e_X10_pays_208 ?_
        refine r_getC F e_X10_pays_209 fl_X10_59 h5443 ((fld_eq (g5444 _ (by omega))).trans ((fld_eq (g5437 _ (by omega))).trans ((fld_eq (h5432.2 c (by rw [show kC c c = 1 from kC_at (k := 0) (by decide)]; decide))).trans ((fld_eq (h5304.2 c (by rw [show kC c c = 1 from kC_at (k := 0) (by decide)]; decide))).trans ((fld_eq (h5065.2 c (by rw [show kC c c = 1 from kC_at (k := 0) (by decide)]; decide))).trans f5053))))) ?_
        refine m_iload_n F rfl e_X10_pays_212 ?_
        refine m_bipush F (v := 9) (by decide) e_X10_pays_213 ?_
        refine m_iadd F e_X10_pays_215 ?_
        refine Wm.topE (w := nI (160 * n901 + 9)) (nI_add (160 * n901) 9) ?_
        refine m_dup2_11 F rfl rfl e_X10_pays_216 ?_
        refine r_sld F (j := 160 * n901 + 9) e_X10_pays_217 h5443 (nI_clamp (by omega)) (vp_in_nI (by omega) (by decide)) (fun x5445 h5446 f5447 => ?_)
        refine m_lload F rfl e_X10_pays_218 ?_
        refine m_ladd F e_X10_pays_220 ?_
        refine Wm.topl (fun x5448 _ => ?_)
        refine r_sst F (g' := (⟨T, Z, u, h, P, L⟩ : RG)) (j := 160 * n901 + 9) e_X10_pays_221 h5443 (by decide) (nI_clamp (by omega)) (vp_in_nI (by omega) (by decide)) (fun f q => EJ_same (EJ_lw (l := n901) (r := 9) (by omega) (by omega) (by omega)) q) (fun _ _ _ q => q) (fun σ5449 h5450 g5451 => ?_)
        refine m_aload_n F rfl e_X10_pays_222 ?_
        refine r_getC F e_X10_pays_223 fl_X10_59 h5450 ((fld_eq (g5451 _ (by omega))).trans ((fld_eq (g5444 _ (by omega))).trans ((fld_eq (g5437 _ (by omega))).trans ((fld_eq (h5432.2 c (by rw [show kC c c = 1 from kC_at (k := 0) (by decide)]; decide))).trans ((fld_eq (h5304.2 c (by rw [show kC c c = 1 from kC_at (k := 0) (by decide)]; decide))).trans ((fld_eq (h5065.2 c (by rw [show kC c c = 1 from kC_at (k := 0) (by decide)]; decide))).trans f5053)))))) ?_
        refine m_iload_n F rfl e_X10_pays_226 ?_
        refine m_bipush F (v := 10) (by decide) e_X10_pays_227 ?_
        refine m_iadd F e_X10_pays_229 ?_
        refine Wm.topE (w := nI (160 * n901 + 10)) (nI_add (160 * n901) 10) ?_
        refine m_dup2_11 F rfl rfl e_X10_pays_230 ?_
        refine r_sld F (j := 160 * n901 + 10) e_X10_pays_231 h5450 (nI_clamp (by omega)) (vp_in_nI (by omega) (by decide)) (fun x5452 h5453 f5454 => ?_)
        refine m_lload_n F rfl e_X10_pays_232 ?_
        refine m_ladd F e_X10_pays_233 ?_
        refine Wm.topl (fun x5455 _ => ?_)
        refine r_sst F (g' := (⟨T, Z, u, h, P, L⟩ : RG)) (j := 160 * n901 + 10) e_X10_pays_234 h5450 (by decide) (nI_clamp (by omega)) (vp_in_nI (by omega) (by decide)) (fun f q => EJ_same (EJ_lw (l := n901) (r := 10) (by omega) (by omega) (by omega)) q) (fun _ _ _ q => q) (fun σ5456 h5457 g5458 => ?_)
        refine m_aload_n F rfl e_X10_pays_235 ?_
        refine r_getC F e_X10_pays_236 fl_X10_59 h5457 ((fld_eq (g5458 _ (by omega))).trans ((fld_eq (g5451 _ (by omega))).trans ((fld_eq (g5444 _ (by omega))).trans ((fld_eq (g5437 _ (by omega))).trans ((fld_eq (h5432.2 c (by rw [show kC c c = 1 from kC_at (k := 0) (by decide)]; decide))).trans ((fld_eq (h5304.2 c (by rw [show kC c c = 1 from kC_at (k := 0) (by decide)]; decide))).trans ((fld_eq (h5065.2 c (by rw [show kC c c = 1 from kC_at (k := 0) (by decide)]; decide))).trans f5053))))))) ?_
        refine m_iload_n F rfl e_X10_pays_239 ?_
        refine m_iconst F (v := 5) (by decide) e_X10_pays_240 ?_
        refine m_iadd F e_X10_pays_241 ?_
        refine Wm.topE (w := nI (160 * n901 + 5)) (nI_add (160 * n901) 5) ?_
        refine m_dup2_11 F rfl rfl e_X10_pays_242 ?_
        refine r_sld F (j := 160 * n901 + 5) e_X10_pays_243 h5457 (nI_clamp (by omega)) (vp_in_nI (by omega) (by decide)) (fun x5459 h5460 f5461 => ?_)
        have hl5462 := hok.2 n901 (by omega)
        obtain rfl : x5459 = lN (L n901).2.2.2 := (EJ_l (l := n901) (r := 5) (by omega) (by decide)).mp h5460
        refine m_lconst F (v := 1) (by decide) e_X10_pays_244 ?_
        refine m_ladd F e_X10_pays_245 ?_
        refine Wm.toplE (w := lN ((L n901).2.2.2 + 1)) (lN_add ((L n901).2.2.2) 1) ?_
        refine r_sst F (g' := (⟨T, Z, u, h, P, (updL L n901 ((L n901).1, (L n901).2.1, (L n901).2.2.1, (L n901).2.2.2 + 1))⟩ : RG)) (j := 160 * n901 + 5) e_X10_pays_246 h5457 (by decide) (nI_clamp (by omega)) (vp_in_nI (by omega) (by decide)) (fun f q => EJ_up (l := n901) (r := 5) (by omega) (by decide) q rfl (by intro r' h1 h2 y hy; revert hy; unfold EL; split <;> simp_all)) CR.row (fun σ5463 h5464 g5465 => ?_)
        obtain ⟨L5466, eL5466⟩ : ∃ L9, L9 = (updL L n901 ((L n901).1, (L n901).2.1, (L n901).2.2.1, (L n901).2.2.2 + 1)) := ⟨_, rfl⟩
        rw [← eL5466] at h5464
        have fL5466 : L5466 n901 = ((L n901).1, (L n901).2.1, (L n901).2.2.1, (L n901).2.2.2 + 1) := by rw [eL5466]; exact if_pos rfl
        have fL54660 : (L5466 n901).1 = (L n901).1 := by rw [fL5466]
        have fL54661 : (L5466 n901).2.1 = (L n901).2.1 := by rw [fL5466]
        have fL54662 : (L5466 n901).2.2.1 = (L n901).2.2.1 := by rw [fL5466]
        have fL54663 : (L5466 n901).2.2.2 = (L n901).2.2.2 + 1 := by rw [fL5466]
        have oL5466 : ∀ i, i ≠ n901 → L5466 i = L i := fun i hi => by rw [eL5466]; exact if_neg hi
        have pL5466 : (L5466 4).1 = (L 4).1 := by rw [oL5466 4 (by omega)]
        refine m_aload_n F rfl e_X10_pays_247 ?_
        refine m_iconst F (v := 1) (by decide) e_X10_pays_248 ?_
        refine m_iload_n F rfl e_X10_pays_249 ?_
        refine m_lload_n F rfl e_X10_pays_250 ?_
        refine m_lneg F e_X10_pays_251 ?_
        refine Wm.topl (fun x5467 _ => ?_)
        refine m_lload F rfl e_X10_pays_252 ?_
        refine m_lload F rfl e_X10_pays_254 ?_
        refine m_lsub F e_X10_pays_256 ?_
        refine Wm.topl (fun x5468 _ => ?_)
        refine m_lload F rfl e_X10_pays_257 ?_
        refine m_lneg F e_X10_pays_259 ?_
        refine Wm.topl (fun x5469 _ => ?_)
        refine m_lload F rfl e_X10_pays_260 ?_
        refine m_lload F rfl e_X10_pays_262 ?_
        refine m_lconst F (v := 0) (by decide) e_X10_pays_264 ?_
        have okb5473 : OKB L5466 := OKB.upd (hok.b) (l := n901) (by omega) (fun i hi => (oL5466 i hi)) (by have h9 := (hok.b).2 n901 (by omega); omega)
        refine r_callV F e_X10_pays_265 (q_X10_entry (x_l X) V c T Z u h P L5466 _ _ 1 (nI n901) x5467 x5468 x5469 x5427 x5434 0 h5464.1 (okb5473) hP ) cb_X10_entry ml_X10_253 im_X10_entry se_X10_entry h5464 rfl rfl (rest := []) rfl (Nat.le_of_ble_eq_true rfl) ⟨Nat.le_of_ble_eq_true rfl, Nat.le_of_ble_eq_true rfl⟩ ⟨Nat.le_of_ble_eq_true rfl, Nat.le_of_ble_eq_true rfl⟩ (fun r σ5470 hp => ?_)
        obtain ⟨h5471, rfl⟩ := hp
        have h5472 := HS.trans h5464 h5471 (by decide)
        refine m_iload F rfl e_X10_pays_268 ?_
        refine m_if_eq F e_X10_pays_270 (fun q => absurd q (by decide)) (fun _ => ?_)
        refine m_aload_n F rfl e_X10_pays_273 ?_
        refine r_getC F e_X10_pays_274 fl_X10_59 h5472 ((fld_eq (h5471.2 c (by rw [show kC c c = 1 from kC_at (k := 0) (by decide)]; decide))).trans ((fld_eq (g5465 _ (by omega))).trans ((fld_eq (g5458 _ (by omega))).trans ((fld_eq (g5451 _ (by omega))).trans ((fld_eq (g5444 _ (by omega))).trans ((fld_eq (g5437 _ (by omega))).trans ((fld_eq (h5432.2 c (by rw [show kC c c = 1 from kC_at (k := 0) (by decide)]; decide))).trans ((fld_eq (h5304.2 c (by rw [show kC c c = 1 from kC_at (k := 0) (by decide)]; decide))).trans ((fld_eq (h5065.2 c (by rw [show kC c c = 1 from kC_at (k := 0) (by decide)]; decide))).trans f5053))))))))) ?_
        refine m_iload_n F rfl e_X10_pays_277 ?_
        refine m_iconst F (v := 0) (by decide) e_X10_pays_278 ?_
        refine m_iadd F e_X10_pays_279 ?_
        refine Wm.topE (w := nI (160 * n901)) (nI_add (160 * n901) 0) ?_
        refine m_ldc2 F kc_X10_234 e_X10_pays_280 ?_
        refine r_sst F (g' := (⟨T, Z, u, h, P, (updL L5466 n901 (2, (L5466 n901).2.1, (L5466 n901).2.2.1, (L5466 n901).2.2.2))⟩ : RG)) (j := 160 * n901) e_X10_pays_283 h5472 (by decide) (nI_clamp (by omega)) (vp_in_nI (by omega) (by decide)) (fun f q => EJ_up (l := n901) (r := 0) (by omega) (by decide) q rfl (by intro r' h1 h2 y hy; revert hy; unfold EL; split <;> simp_all)) CR.row (fun σ5474 h5475 g5476 => ?_)
        obtain ⟨L5477, eL5477⟩ : ∃ L9, L9 = (updL L5466 n901 (2, (L5466 n901).2.1, (L5466 n901).2.2.1, (L5466 n901).2.2.2)) := ⟨_, rfl⟩
        rw [← eL5477] at h5475
        have fL5477 : L5477 n901 = (2, (L5466 n901).2.1, (L5466 n901).2.2.1, (L5466 n901).2.2.2) := by rw [eL5477]; exact if_pos rfl
        have fL54770 : (L5477 n901).1 = 2 := by rw [fL5477]
        have fL54771 : (L5477 n901).2.1 = (L5466 n901).2.1 := by rw [fL5477]
        have fL54772 : (L5477 n901).2.2.1 = (L5466 n901).2.2.1 := by rw [fL5477]
        have fL54773 : (L5477 n901).2.2.2 = (L5466 n901).2.2.2 := by rw [fL5477]
        have oL5477 : ∀ i, i ≠ n901 → L5477 i = L5466 i := fun i hi => by rw [eL5477]; exact if_neg hi
        have pL5477 : (L5477 4).1 = (L5466 4).1 := by rw [oL5477 4 (by omega)]
        have ok5478 : OKL P.n0 L5477 := OKL.upd hok (l := n901) (by omega) (fun i hi => (oL5477 i hi).trans (oL5466 i hi)) (by have h9 := hok.2 n901 (by omega); omega)
        exact m_vret F hQ e_X10_pays_284 (⟨L5477, ok5478, (by first | omega | rfl | assumption), h5475, rfl⟩)
set_option maxRecDepth 20000 in
theorem q_X10_starts1 (l : Launch) (V : VX) (c T Z u h : Nat) (P : NP) (L : Nat → LQ) (N : Nat) (σ : Mem) (n901 : Nat) (h0 : HR V c ⟨T, Z, u, h, P, L⟩ σ) (hok : OKL P.n0 L) (hP : OKP P) (hn901 : n901 ≤ 3) (hp0 : (L n901).1 = 0) (hp1 : n901 < P.n0) : Ct l V yX10_starts1 cX10_starts1 5 none 2 0 0 N σ [.ref c, .int (nI n901)] (fun r τ => ∃ L9, OKL P.n0 L9 ∧ (L9 4).1 = (L 4).1 ∧ HS V c (⟨T, Z, u, h, P, L9⟩ : RG) [0, 1, 2, 3, 4, 5, 6, 7, 8, 9, 10, 11, 12, 13, 14, 15, 16, 18, 19, 20, 21, 22] σ τ ∧ r = none) := by
  refine Ct.of (by decide) (Nat.le_of_ble_eq_true rfl) [(0, .ref c), (1, .int (nI n901))] rfl (fun X hX F hQ => ?_)
  have hPP := hP
  unfold OKP at hPP
  have h1 : HS V c ⟨T, Z, u, h, P, L⟩ [0, 1, 2, 3, 4, 5, 6, 7, 8, 9, 10, 11, 12, 13, 14, 15, 16, 18, 19, 20, 21, 22] σ σ := HS.start h0
  have hl := hok.2 n901 (by omega)
  refine m_sipush F (v := 160) (by decide) e_X10_starts1_0 ?_
  refine m_iload_n F rfl e_X10_starts1_3 ?_
  refine m_imul F e_X10_starts1_4 ?_
  refine Wm.topE (w := nI (160 * n901)) (pk_mul 160 n901) ?_
  refine m_istore_n F (lv' := [(2, .int (nI (160 * n901))), (0, .ref c), (1, .int (nI n901))]) e_X10_starts1_5 (by decide) rfl ?_
  refine m_aload_n F rfl e_X10_starts1_6 ?_
  refine r_get F e_X10_starts1_7 fl_X10_34 h1 rfl (fun v hv f5479 => ?_)
  obtain rfl : v = .ref (c + 9) := hv
  refine m_iload_n F rfl e_X10_starts1_10 ?_
  refine r_iald F (len := 8) (j := n901) e_X10_starts1_11 h1 (fun _ h => h) (by decide) (nI_clamp (by omega)) (vp_in_nI (by omega) (by decide)) (fun x5480 h5481 f5482 => ?_)
  refine m_if_ne F e_X10_starts1_12 (fun q12 => ?_) (fun q12 => ?_)
  · refine m_aload_n F rfl e_X10_starts1_19 ?_
    refine r_getC F e_X10_starts1_20 fl_X10_34 h1 (f5479) ?_
    refine m_iload_n F rfl e_X10_starts1_23 ?_
    refine r_iald F (len := 8) (j := n901) e_X10_starts1_24 h1 (fun _ h => h) (by decide) (nI_clamp (by omega)) (vp_in_nI (by omega) (by decide)) (fun x5483 h5484 f5485 => ?_)
    obtain rfl := Option.some.inj ((f5485).symm.trans (f5482))
    refine m_iconst F (v := 1) (by decide) e_X10_starts1_25 ?_
    refine m_isub F e_X10_starts1_26 ?_
    refine Wm.top (fun x5486 _ => ?_)
    refine m_i2l F e_X10_starts1_27 ?_
    refine Wm.topl (fun x5487 _ => ?_)
    refine m_lstore_n F (lv' := [(3, .long x5487), (2, .int (nI (160 * n901))), (0, .ref c), (1, .int (nI n901))]) e_X10_starts1_28 (by decide) rfl ?_
    refine m_aload_n F rfl e_X10_starts1_29 ?_
    refine r_get F e_X10_starts1_30 fl_X10_59 h1 rfl (fun v hv f5488 => ?_)
    obtain rfl : v = .ref (c + 16) := hv
    refine m_iload_n F rfl e_X10_starts1_33 ?_
    refine m_iconst F (v := 0) (by decide) e_X10_starts1_34 ?_
    refine m_iadd F e_X10_starts1_35 ?_
    refine Wm.topE (w := nI (160 * n901)) (nI_add (160 * n901) 0) ?_
    refine m_lconst F (v := 1) (by decide) e_X10_starts1_36 ?_
    refine r_sst F (g' := (⟨T, Z, u, h, P, (updL L n901 (1, (L n901).2.1, (L n901).2.2.1, (L n901).2.2.2))⟩ : RG)) (j := 160 * n901) e_X10_starts1_37 h1 (by decide) (nI_clamp (by omega)) (vp_in_nI (by omega) (by decide)) (fun f q => EJ_up (l := n901) (r := 0) (by omega) (by decide) q rfl (by intro r' h1 h2 y hy; revert hy; unfold EL; split <;> simp_all)) CR.row (fun σ5489 h5490 g5491 => ?_)
    obtain ⟨L5492, eL5492⟩ : ∃ L9, L9 = (updL L n901 (1, (L n901).2.1, (L n901).2.2.1, (L n901).2.2.2)) := ⟨_, rfl⟩
    rw [← eL5492] at h5490
    have fL5492 : L5492 n901 = (1, (L n901).2.1, (L n901).2.2.1, (L n901).2.2.2) := by rw [eL5492]; exact if_pos rfl
    have fL54920 : (L5492 n901).1 = 1 := by rw [fL5492]
    have fL54921 : (L5492 n901).2.1 = (L n901).2.1 := by rw [fL5492]
    have fL54922 : (L5492 n901).2.2.1 = (L n901).2.2.1 := by rw [fL5492]
    have fL54923 : (L5492 n901).2.2.2 = (L n901).2.2.2 := by rw [fL5492]
    have oL5492 : ∀ i, i ≠ n901 → L5492 i = L i := fun i hi => by rw [eL5492]; exact if_neg hi
    have pL5492 : (L5492 4).1 = (L 4).1 := by rw [oL5492 4 (by omega)]
    refine m_aload_n F rfl e_X10_starts1_38 ?_
    refine r_getC F e_X10_starts1_39 fl_X10_59 h5490 ((fld_eq (g5491 _ (by omega))).trans f5488) ?_
    refine m_iload_n F rfl e_X10_starts1_42 ?_
    refine m_bipush F (v := 6) (by decide) e_X10_starts1_43 ?_
    refine m_iadd F e_X10_starts1_45 ?_
    refine Wm.topE (w := nI (160 * n901 + 6)) (nI_add (160 * n901) 6) ?_
    refine m_aload_n F rfl e_X10_starts1_46 ?_
    refine m_iload_n F rfl e_X10_starts1_47 ?_
    refine m_iconst F (v := 1) (by decide) e_X10_starts1_48 ?_
    refine m_aload_n F rfl e_X10_starts1_49 ?_
    refine r_getC F e_X10_starts1_50 fl_X10_59 h5490 ((fld_eq (g5491 _ (by omega))).trans f5488) ?_
    refine m_iload_n F rfl e_X10_starts1_53 ?_
    refine m_iconst F (v := 2) (by decide) e_X10_starts1_54 ?_
    refine m_iadd F e_X10_starts1_55 ?_
    refine Wm.topE (w := nI (160 * n901 + 2)) (nI_add (160 * n901) 2) ?_
    refine r_sld F (j := 160 * n901 + 2) e_X10_starts1_56 h5490 (nI_clamp (by omega)) (vp_in_nI (by omega) (by decide)) (fun x5493 h5494 f5495 => ?_)
    obtain ⟨n5496, hn5496, rfl⟩ : ∃ n : Nat, n ≤ 1000000 ∧ x5493 = lN n := (EJ_l (l := n901) (r := 2) (by omega) (by decide)).mp h5494
    refine m_ldc2 F kc_X10_245 e_X10_starts1_57 ?_
    have okb5500 : OKB L5492 := OKB.upd (hok.b) (l := n901) (by omega) (fun i hi => (oL5492 i hi)) (by have h9 := (hok.b).2 n901 (by omega); omega)
    refine r_callV F e_X10_starts1_60 (q_X10_worthBy (x_l X) V c T Z u h P L5492 _ _ n901 1 n5496 (-1) h5490.1 (okb5500) hP (by omega) (by omega) (by omega) (by first | omega | assumption | decide)) cb_X10_worthBy ml_X10_247 im_X10_worthBy se_X10_worthBy h5490 rfl rfl (rest := [.int (nI (160 * n901 + 6)), .ref (c + 16)]) rfl (Nat.le_of_ble_eq_true rfl) ⟨Nat.le_of_ble_eq_true rfl, Nat.le_of_ble_eq_true rfl⟩ ⟨Nat.le_of_ble_eq_true rfl, Nat.le_of_ble_eq_true rfl⟩ (fun r σ5497 hp => ?_)
    obtain ⟨h5498, x5501, rfl⟩ := hp
    have h5499 := HS.trans h5490 h5498 (by decide)
    refine r_sst F (g' := (⟨T, Z, u, h, P, L5492⟩ : RG)) (j := 160 * n901 + 6) e_X10_starts1_63 h5499 (by decide) (nI_clamp (by omega)) (vp_in_nI (by omega) (by decide)) (fun f q => EJ_same (EJ_lw (l := n901) (r := 6) (by omega) (by omega) (by omega)) q) (fun _ _ _ q => q) (fun σ5502 h5503 g5504 => ?_)
    refine m_aload_n F rfl e_X10_starts1_64 ?_
    refine r_getC F e_X10_starts1_65 fl_X10_59 h5503 ((fld_eq (g5504 _ (by omega))).trans ((fld_eq (h5498.2 c (by rw [show kC c c = 1 from kC_at (k := 0) (by decide)]; decide))).trans ((fld_eq (g5491 _ (by omega))).trans f5488))) ?_
    refine m_iload_n F rfl e_X10_starts1_68 ?_
    refine m_bipush F (v := 8) (by decide) e_X10_starts1_69 ?_
    refine m_iadd F e_X10_starts1_71 ?_
    refine Wm.topE (w := nI (160 * n901 + 8)) (nI_add (160 * n901) 8) ?_
    refine m_aload_n F rfl e_X10_starts1_72 ?_
    refine r_getC F e_X10_starts1_73 fl_X10_59 h5503 ((fld_eq (g5504 _ (by omega))).trans ((fld_eq (h5498.2 c (by rw [show kC c c = 1 from kC_at (k := 0) (by decide)]; decide))).trans ((fld_eq (g5491 _ (by omega))).trans f5488))) ?_
    refine m_iload_n F rfl e_X10_starts1_76 ?_
    refine m_bipush F (v := 6) (by decide) e_X10_starts1_77 ?_
    refine m_iadd F e_X10_starts1_79 ?_
    refine Wm.topE (w := nI (160 * n901 + 6)) (nI_add (160 * n901) 6) ?_
    refine r_sld F (j := 160 * n901 + 6) e_X10_starts1_80 h5503 (nI_clamp (by omega)) (vp_in_nI (by omega) (by decide)) (fun x5505 h5506 f5507 => ?_)
    refine r_sst F (g' := (⟨T, Z, u, h, P, L5492⟩ : RG)) (j := 160 * n901 + 8) e_X10_starts1_81 h5503 (by decide) (nI_clamp (by omega)) (vp_in_nI (by omega) (by decide)) (fun f q => EJ_same (EJ_lw (l := n901) (r := 8) (by omega) (by omega) (by omega)) q) (fun _ _ _ q => q) (fun σ5508 h5509 g5510 => ?_)
    refine m_aload_n F rfl e_X10_starts1_82 ?_
    refine r_getC F e_X10_starts1_83 fl_X10_59 h5509 ((fld_eq (g5510 _ (by omega))).trans ((fld_eq (g5504 _ (by omega))).trans ((fld_eq (h5498.2 c (by rw [show kC c c = 1 from kC_at (k := 0) (by decide)]; decide))).trans ((fld_eq (g5491 _ (by omega))).trans f5488)))) ?_
    refine m_iload_n F rfl e_X10_starts1_86 ?_
    refine m_bipush F (v := 7) (by decide) e_X10_starts1_87 ?_
    refine m_iadd F e_X10_starts1_89 ?_
    refine Wm.topE (w := nI (160 * n901 + 7)) (nI_add (160 * n901) 7) ?_
    refine m_aload_n F rfl e_X10_starts1_90 ?_
    refine r_getC F e_X10_starts1_91 fl_X10_59 h5509 ((fld_eq (g5510 _ (by omega))).trans ((fld_eq (g5504 _ (by omega))).trans ((fld_eq (h5498.2 c (by rw [show kC c c = 1 from kC_at (k := 0) (by decide)]; decide))).trans ((fld_eq (g5491 _ (by omega))).trans f5488)))) ?_
    refine m_iload_n F rfl e_X10_starts1_94 ?_
    refine m_bipush F (v := 6) (by decide) e_X10_starts1_95 ?_
    refine m_iadd F e_X10_starts1_97 ?_
    refine Wm.topE (w := nI (160 * n901 + 6)) (nI_add (160 * n901) 6) ?_
    refine r_sld F (j := 160 * n901 + 6) e_X10_starts1_98 h5509 (nI_clamp (by omega)) (vp_in_nI (by omega) (by decide)) (fun x5511 h5512 f5513 => ?_)
    refine m_lload_n F rfl e_X10_starts1_99 ?_
    refine m_ladd F e_X10_starts1_100 ?_
    refine Wm.topl (fun x5514 _ => ?_)
    refine r_sst F (g' := (⟨T, Z, u, h, P, L5492⟩ : RG)) (j := 160 * n901 + 7) e_X10_starts1_101 h5509 (by decide) (nI_clamp (by omega)) (vp_in_nI (by omega) (by decide)) (fun f q => EJ_same (EJ_lw (l := n901) (r := 7) (by omega) (by omega) (by omega)) q) (fun _ _ _ q => q) (fun σ5515 h5516 g5517 => ?_)
    refine m_aload_n F rfl e_X10_starts1_102 ?_
    refine r_getC F e_X10_starts1_103 fl_X10_59 h5516 ((fld_eq (g5517 _ (by omega))).trans ((fld_eq (g5510 _ (by omega))).trans ((fld_eq (g5504 _ (by omega))).trans ((fld_eq (h5498.2 c (by rw [show kC c c = 1 from kC_at (k := 0) (by decide)]; decide))).trans ((fld_eq (g5491 _ (by omega))).trans f5488))))) ?_
    refine m_iload_n F rfl e_X10_starts1_106 ?_
    refine m_iconst F (v := 3) (by decide) e_X10_starts1_107 ?_
    refine m_iadd F e_X10_starts1_108 ?_
    refine Wm.topE (w := nI (160 * n901 + 3)) (nI_add (160 * n901) 3) ?_
    refine m_aload_n F rfl e_X10_starts1_109 ?_
    have okb5521 : OKB L5492 := OKB.upd (hok.b) (l := n901) (by omega) (fun i hi => (oL5492 i hi)) (by have h9 := (hok.b).2 n901 (by omega); omega)
    refine r_callV F e_X10_starts1_110 (q_X10_indexNow (x_l X) V c T Z u h P L5492 _ _  h5516.1 (okb5521) hP ) cb_X10_indexNow ml_X10_260 im_X10_indexNow se_X10_indexNow h5516 rfl rfl (rest := [.int (nI (160 * n901 + 3)), .ref (c + 16)]) rfl (Nat.le_of_ble_eq_true rfl) ⟨Nat.le_of_ble_eq_true rfl, Nat.le_of_ble_eq_true rfl⟩ ⟨Nat.le_of_ble_eq_true rfl, Nat.le_of_ble_eq_true rfl⟩ (fun r σ5518 hp => ?_)
    obtain ⟨h5519, n5522, hn5522, gn5522, rfl⟩ := hp
    have h5520 := HS.trans h5516 h5519 (by decide)
    refine r_sst F (g' := (⟨T, Z, u, h, P, (updL L5492 n901 ((L5492 n901).1, (L5492 n901).2.1, n5522, (L5492 n901).2.2.2))⟩ : RG)) (j := 160 * n901 + 3) e_X10_starts1_113 h5520 (by decide) (nI_clamp (by omega)) (vp_in_nI (by omega) (by decide)) (fun f q => EJ_up (l := n901) (r := 3) (by omega) (by decide) q rfl (by intro r' h1 h2 y hy; revert hy; unfold EL; split <;> simp_all)) CR.row (fun σ5523 h5524 g5525 => ?_)
    obtain ⟨L5526, eL5526⟩ : ∃ L9, L9 = (updL L5492 n901 ((L5492 n901).1, (L5492 n901).2.1, n5522, (L5492 n901).2.2.2)) := ⟨_, rfl⟩
    rw [← eL5526] at h5524
    have fL5526 : L5526 n901 = ((L5492 n901).1, (L5492 n901).2.1, n5522, (L5492 n901).2.2.2) := by rw [eL5526]; exact if_pos rfl
    have fL55260 : (L5526 n901).1 = (L5492 n901).1 := by rw [fL5526]
    have fL55261 : (L5526 n901).2.1 = (L5492 n901).2.1 := by rw [fL5526]
    have fL55262 : (L5526 n901).2.2.1 = n5522 := by rw [fL5526]
    have fL55263 : (L5526 n901).2.2.2 = (L5492 n901).2.2.2 := by rw [fL5526]
    have oL5526 : ∀ i, i ≠ n901 → L5526 i = L5492 i := fun i hi => by rw [eL5526]; exact if_neg hi
    have pL5526 : (L5526 4).1 = (L5492 4).1 := by rw [oL5526 4 (by omega)]
    refine m_aload_n F rfl e_X10_starts1_114 ?_
    refine r_getC F e_X10_starts1_115 fl_X10_59 h5524 ((fld_eq (g5525 _ (by omega))).trans ((fld_eq (h5519.2 c (by rw [show kC c c = 1 from kC_at (k := 0) (by decide)]; decide))).trans ((fld_eq (g5517 _ (by omega))).trans ((fld_eq (g5510 _ (by omega))).trans ((fld_eq (g5504 _ (by omega))).trans ((fld_eq (h5498.2 c (by rw [show kC c c = 1 from kC_at (k := 0) (by decide)]; decide))).trans ((fld_eq (g5491 _ (by omega))).trans f5488))))))) ?_
    refine m_iload_n F rfl e_X10_starts1_118 ?_
    refine m_iconst F (v := 4) (by decide) e_X10_starts1_119 ?_
    refine m_iadd F e_X10_starts1_120 ?_
    refine Wm.topE (w := nI (160 * n901 + 4)) (nI_add (160 * n901) 4) ?_
    refine m_aload_n F rfl e_X10_starts1_121 ?_
    have okb5530 : OKB L5526 := OKB.upd (hok.b) (l := n901) (by omega) (fun i hi => (oL5526 i hi).trans (oL5492 i hi)) (by have h9 := (hok.b).2 n901 (by omega); omega)
    refine r_callV F e_X10_starts1_122 (q_X10_indexNow (x_l X) V c T Z u h P L5526 _ _  h5524.1 (okb5530) hP ) cb_X10_indexNow ml_X10_260 im_X10_indexNow se_X10_indexNow h5524 rfl rfl (rest := [.int (nI (160 * n901 + 4)), .ref (c + 16)]) rfl (Nat.le_of_ble_eq_true rfl) ⟨Nat.le_of_ble_eq_true rfl, Nat.le_of_ble_eq_true rfl⟩ ⟨Nat.le_of_ble_eq_true rfl, Nat.le_of_ble_eq_true rfl⟩ (fun r σ5527 hp => ?_)
    obtain ⟨h5528, n5531, hn5531, gn5531, rfl⟩ := hp
    have h5529 := HS.trans h5524 h5528 (by decide)
    refine r_sst F (g' := (⟨T, Z, u, h, P, L5526⟩ : RG)) (j := 160 * n901 + 4) e_X10_starts1_125 h5529 (by decide) (nI_clamp (by omega)) (vp_in_nI (by omega) (by decide)) (fun f q => EJ_same (EJ_lw (l := n901) (r := 4) (by omega) (by omega) (by omega)) q) (fun _ _ _ q => q) (fun σ5532 h5533 g5534 => ?_)
    refine m_aload_n F rfl e_X10_starts1_126 ?_
    refine m_iconst F (v := 0) (by decide) e_X10_starts1_127 ?_
    refine m_iload_n F rfl e_X10_starts1_128 ?_
    refine m_lload_n F rfl e_X10_starts1_129 ?_
    refine m_lneg F e_X10_starts1_130 ?_
    refine Wm.topl (fun x5535 _ => ?_)
    refine m_aload_n F rfl e_X10_starts1_131 ?_
    refine r_getC F e_X10_starts1_132 fl_X10_59 h5533 ((fld_eq (g5534 _ (by omega))).trans ((fld_eq (h5528.2 c (by rw [show kC c c = 1 from kC_at (k := 0) (by decide)]; decide))).trans ((fld_eq (g5525 _ (by omega))).trans ((fld_eq (h5519.2 c (by rw [show kC c c = 1 from kC_at (k := 0) (by decide)]; decide))).trans ((fld_eq (g5517 _ (by omega))).trans ((fld_eq (g5510 _ (by omega))).trans ((fld_eq (g5504 _ (by omega))).trans ((fld_eq (h5498.2 c (by rw [show kC c c = 1 from kC_at (k := 0) (by decide)]; decide))).trans ((fld_eq (g5491 _ (by omega))).trans f5488))))))))) ?_
    refine m_iload_n F rfl e_X10_starts1_135 ?_
    refine m_bipush F (v := 6) (by decide) e_X10_starts1_136 ?_
    refine m_iadd F e_X10_starts1_138 ?_
    refine Wm.topE (w := nI (160 * n901 + 6)) (nI_add (160 * n901) 6) ?_
    refine r_sld F (j := 160 * n901 + 6) e_X10_starts1_139 h5533 (nI_clamp (by omega)) (vp_in_nI (by omega) (by decide)) (fun x5536 h5537 f5538 => ?_)
    refine m_lneg F e_X10_starts1_140 ?_
    refine Wm.topl (fun x5539 _ => ?_)
    refine m_aload_n F rfl e_X10_starts1_141 ?_
    refine r_getC F e_X10_starts1_142 fl_X10_59 h5533 ((fld_eq (g5534 _ (by omega))).trans ((fld_eq (h5528.2 c (by rw [show kC c c = 1 from kC_at (k := 0) (by decide)]; decide))).trans ((fld_eq (g5525 _ (by omega))).trans ((fld_eq (h5519.2 c (by rw [show kC c c = 1 from kC_at (k := 0) (by decide)]; decide))).trans ((fld_eq (g5517 _ (by omega))).trans ((fld_eq (g5510 _ (by omega))).trans ((fld_eq (g5504 _ (by omega))).trans ((fld_eq (h5498.2 c (by rw [show kC c c = 1 from kC_at (k := 0) (by decide)]; decide))).trans ((fld_eq (g5491 _ (by omega))).trans f5488))))))))) ?_
    refine m_iload_n F rfl e_X10_starts1_145 ?_
    refine m_bipush F (v := 7) (by decide) e_X10_starts1_146 ?_
    refine m_iadd F e_X10_starts1_148 ?_
    refine Wm.topE (w := nI (160 * n901 + 7)) (nI_add (160 * n901) 7) ?_
    refine r_sld F (j := 160 * n901 + 7) e_X10_starts1_149 h5533 (nI_clamp (by omega)) (vp_in_nI (by omega) (by decide)) (fun x5540 h5541 f5542 => ?_)
    refine m_lconst F (v := 0) (by decide) e_X10_starts1_150 ?_
    refine m_lconst F (v := 0) (by decide) e_X10_starts1_151 ?_
    refine m_lconst F (v := 0) (by decide) e_X10_starts1_152 ?_
    have okb5546 : OKB L5526 := OKB.upd (hok.b) (l := n901) (by omega) (fun i hi => (oL5526 i hi).trans (oL5492 i hi)) (by have h9 := (hok.b).2 n901 (by omega); omega)
    refine r_callV F e_X10_starts1_153 (q_X10_entry (x_l X) V c T Z u h P L5526 _ _ 0 (nI n901) x5535 x5539 x5540 0 0 0 h5533.1 (okb5546) hP ) cb_X10_entry ml_X10_253 im_X10_entry se_X10_entry h5533 rfl rfl (rest := []) rfl (Nat.le_of_ble_eq_true rfl) ⟨Nat.le_of_ble_eq_true rfl, Nat.le_of_ble_eq_true rfl⟩ ⟨Nat.le_of_ble_eq_true rfl, Nat.le_of_ble_eq_true rfl⟩ (fun r σ5543 hp => ?_)
    obtain ⟨h5544, rfl⟩ := hp
    have h5545 := HS.trans h5533 h5544 (by decide)
    have ok5547 : OKL P.n0 L5526 := OKL.upd hok (l := n901) (by omega) (fun i hi => (oL5526 i hi).trans (oL5492 i hi)) (by have h9 := hok.2 n901 (by omega); omega)
    exact m_vret F hQ e_X10_starts1_156 (⟨L5526, ok5547, (by first | omega | rfl | assumption), h5545, rfl⟩)
  · subst q12
    refine m_lconst F (v := 0) (by decide) e_X10_starts1_15 ?_
    refine m_goto F e_X10_starts1_16 ?_
    refine m_lstore_n F (lv' := [(3, .long 0), (2, .int (nI (160 * n901))), (0, .ref c), (1, .int (nI n901))]) e_X10_starts1_28 (by decide) rfl ?_
    refine m_aload_n F rfl e_X10_starts1_29 ?_
    refine r_get F e_X10_starts1_30 fl_X10_59 h1 rfl (fun v hv f5548 => ?_)
    obtain rfl : v = .ref (c + 16) := hv
    refine m_iload_n F rfl e_X10_starts1_33 ?_
    refine m_iconst F (v := 0) (by decide) e_X10_starts1_34 ?_
    refine m_iadd F e_X10_starts1_35 ?_
    refine Wm.topE (w := nI (160 * n901)) (nI_add (160 * n901) 0) ?_
    refine m_lconst F (v := 1) (by decide) e_X10_starts1_36 ?_
    refine r_sst F (g' := (⟨T, Z, u, h, P, (updL L n901 (1, (L n901).2.1, (L n901).2.2.1, (L n901).2.2.2))⟩ : RG)) (j := 160 * n901) e_X10_starts1_37 h1 (by decide) (nI_clamp (by omega)) (vp_in_nI (by omega) (by decide)) (fun f q => EJ_up (l := n901) (r := 0) (by omega) (by decide) q rfl (by intro r' h1 h2 y hy; revert hy; unfold EL; split <;> simp_all)) CR.row (fun σ5549 h5550 g5551 => ?_)
    obtain ⟨L5552, eL5552⟩ : ∃ L9, L9 = (updL L n901 (1, (L n901).2.1, (L n901).2.2.1, (L n901).2.2.2)) := ⟨_, rfl⟩
    rw [← eL5552] at h5550
    have fL5552 : L5552 n901 = (1, (L n901).2.1, (L n901).2.2.1, (L n901).2.2.2) := by rw [eL5552]; exact if_pos rfl
    have fL55520 : (L5552 n901).1 = 1 := by rw [fL5552]
    have fL55521 : (L5552 n901).2.1 = (L n901).2.1 := by rw [fL5552]
    have fL55522 : (L5552 n901).2.2.1 = (L n901).2.2.1 := by rw [fL5552]
    have fL55523 : (L5552 n901).2.2.2 = (L n901).2.2.2 := by rw [fL5552]
    have oL5552 : ∀ i, i ≠ n901 → L5552 i = L i := fun i hi => by rw [eL5552]; exact if_neg hi
    have pL5552 : (L5552 4).1 = (L 4).1 := by rw [oL5552 4 (by omega)]
    refine m_aload_n F rfl e_X10_starts1_38 ?_
    refine r_getC F e_X10_starts1_39 fl_X10_59 h5550 ((fld_eq (g5551 _ (by omega))).trans f5548) ?_
    refine m_iload_n F rfl e_X10_starts1_42 ?_
    refine m_bipush F (v := 6) (by decide) e_X10_starts1_43 ?_
    refine m_iadd F e_X10_starts1_45 ?_
    refine Wm.topE (w := nI (160 * n901 + 6)) (nI_add (160 * n901) 6) ?_
    refine m_aload_n F rfl e_X10_starts1_46 ?_
    refine m_iload_n F rfl e_X10_starts1_47 ?_
    refine m_iconst F (v := 1) (by decide) e_X10_starts1_48 ?_
    refine m_aload_n F rfl e_X10_starts1_49 ?_
    refine r_getC F e_X10_starts1_50 fl_X10_59 h5550 ((fld_eq (g5551 _ (by omega))).trans f5548) ?_
    refine m_iload_n F rfl e_X10_starts1_53 ?_
    refine m_iconst F (v := 2) (by decide) e_X10_starts1_54 ?_
    refine m_iadd F e_X10_starts1_55 ?_
    refine Wm.topE (w := nI (160 * n901 + 2)) (nI_add (160 * n901) 2) ?_
    refine r_sld F (j := 160 * n901 + 2) e_X10_starts1_56 h5550 (nI_clamp (by omega)) (vp_in_nI (by omega) (by decide)) (fun x5553 h5554 f5555 => ?_)
    obtain ⟨n5556, hn5556, rfl⟩ : ∃ n : Nat, n ≤ 1000000 ∧ x5553 = lN n := (EJ_l (l := n901) (r := 2) (by omega) (by decide)).mp h5554
    refine m_ldc2 F kc_X10_245 e_X10_starts1_57 ?_
    have okb5560 : OKB L5552 := OKB.upd (hok.b) (l := n901) (by omega) (fun i hi => (oL5552 i hi)) (by have h9 := (hok.b).2 n901 (by omega); omega)
    refine r_callV F e_X10_starts1_60 (q_X10_worthBy (x_l X) V c T Z u h P L5552 _ _ n901 1 n5556 (-1) h5550.1 (okb5560) hP (by omega) (by omega) (by omega) (by first | omega | assumption | decide)) cb_X10_worthBy ml_X10_247 im_X10_worthBy se_X10_worthBy h5550 rfl rfl (rest := [.int (nI (160 * n901 + 6)), .ref (c + 16)]) rfl (Nat.le_of_ble_eq_true rfl) ⟨Nat.le_of_ble_eq_true rfl, Nat.le_of_ble_eq_true rfl⟩ ⟨Nat.le_of_ble_eq_true rfl, Nat.le_of_ble_eq_true rfl⟩ (fun r σ5557 hp => ?_)
    obtain ⟨h5558, x5561, rfl⟩ := hp
    have h5559 := HS.trans h5550 h5558 (by decide)
    refine r_sst F (g' := (⟨T, Z, u, h, P, L5552⟩ : RG)) (j := 160 * n901 + 6) e_X10_starts1_63 h5559 (by decide) (nI_clamp (by omega)) (vp_in_nI (by omega) (by decide)) (fun f q => EJ_same (EJ_lw (l := n901) (r := 6) (by omega) (by omega) (by omega)) q) (fun _ _ _ q => q) (fun σ5562 h5563 g5564 => ?_)
    refine m_aload_n F rfl e_X10_starts1_64 ?_
    refine r_getC F e_X10_starts1_65 fl_X10_59 h5563 ((fld_eq (g5564 _ (by omega))).trans ((fld_eq (h5558.2 c (by rw [show kC c c = 1 from kC_at (k := 0) (by decide)]; decide))).trans ((fld_eq (g5551 _ (by omega))).trans f5548))) ?_
    refine m_iload_n F rfl e_X10_starts1_68 ?_
    refine m_bipush F (v := 8) (by decide) e_X10_starts1_69 ?_
    refine m_iadd F e_X10_starts1_71 ?_
    refine Wm.topE (w := nI (160 * n901 + 8)) (nI_add (160 * n901) 8) ?_
    refine m_aload_n F rfl e_X10_starts1_72 ?_
    refine r_getC F e_X10_starts1_73 fl_X10_59 h5563 ((fld_eq (g5564 _ (by omega))).trans ((fld_eq (h5558.2 c (by rw [show kC c c = 1 from kC_at (k := 0) (by decide)]; decide))).trans ((fld_eq (g5551 _ (by omega))).trans f5548))) ?_
    refine m_iload_n F rfl e_X10_starts1_76 ?_
    refine m_bipush F (v := 6) (by decide) e_X10_starts1_77 ?_
    refine m_iadd F e_X10_starts1_79 ?_
    refine Wm.topE (w := nI (160 * n901 + 6)) (nI_add (160 * n901) 6) ?_
    refine r_sld F (j := 160 * n901 + 6) e_X10_starts1_80 h5563 (nI_clamp (by omega)) (vp_in_nI (by omega) (by decide)) (fun x5565 h5566 f5567 => ?_)
    refine r_sst F (g' := (⟨T, Z, u, h, P, L5552⟩ : RG)) (j := 160 * n901 + 8) e_X10_starts1_81 h5563 (by decide) (nI_clamp (by omega)) (vp_in_nI (by omega) (by decide)) (fun f q => EJ_same (EJ_lw (l := n901) (r := 8) (by omega) (by omega) (by omega)) q) (fun _ _ _ q => q) (fun σ5568 h5569 g5570 => ?_)
    refine m_aload_n F rfl e_X10_starts1_82 ?_
    refine r_getC F e_X10_starts1_83 fl_X10_59 h5569 ((fld_eq (g5570 _ (by omega))).trans ((fld_eq (g5564 _ (by omega))).trans ((fld_eq (h5558.2 c (by rw [show kC c c = 1 from kC_at (k := 0) (by decide)]; decide))).trans ((fld_eq (g5551 _ (by omega))).trans f5548)))) ?_
    refine m_iload_n F rfl e_X10_starts1_86 ?_
    refine m_bipush F (v := 7) (by decide) e_X10_starts1_87 ?_
    refine m_iadd F e_X10_starts1_89 ?_
    refine Wm.topE (w := nI (160 * n901 + 7)) (nI_add (160 * n901) 7) ?_
    refine m_aload_n F rfl e_X10_starts1_90 ?_
    refine r_getC F e_X10_starts1_91 fl_X10_59 h5569 ((fld_eq (g5570 _ (by omega))).trans ((fld_eq (g5564 _ (by omega))).trans ((fld_eq (h5558.2 c (by rw [show kC c c = 1 from kC_at (k := 0) (by decide)]; decide))).trans ((fld_eq (g5551 _ (by omega))).trans f5548)))) ?_
    refine m_iload_n F rfl e_X10_starts1_94 ?_
    refine m_bipush F (v := 6) (by decide) e_X10_starts1_95 ?_
    refine m_iadd F e_X10_starts1_97 ?_
    refine Wm.topE (w := nI (160 * n901 + 6)) (nI_add (160 * n901) 6) ?_
    refine r_sld F (j := 160 * n901 + 6) e_X10_starts1_98 h5569 (nI_clamp (by omega)) (vp_in_nI (by omega) (by decide)) (fun x5571 h5572 f5573 => ?_)
    refine m_lload_n F rfl e_X10_starts1_99 ?_
    refine m_ladd F e_X10_starts1_100 ?_
    refine Wm.topl (fun x5574 _ => ?_)
    refine r_sst F (g' := (⟨T, Z, u, h, P, L5552⟩ : RG)) (j := 160 * n901 + 7) e_X10_starts1_101 h5569 (by decide) (nI_clamp (by omega)) (vp_in_nI (by omega) (by decide)) (fun f q => EJ_same (EJ_lw (l := n901) (r := 7) (by omega) (by omega) (by omega)) q) (fun _ _ _ q => q) (fun σ5575 h5576 g5577 => ?_)
    refine m_aload_n F rfl e_X10_starts1_102 ?_
    refine r_getC F e_X10_starts1_103 fl_X10_59 h5576 ((fld_eq (g5577 _ (by omega))).trans ((fld_eq (g5570 _ (by omega))).trans ((fld_eq (g5564 _ (by omega))).trans ((fld_eq (h5558.2 c (by rw [show kC c c = 1 from kC_at (k := 0) (by decide)]; decide))).trans ((fld_eq (g5551 _ (by omega))).trans f5548))))) ?_
    refine m_iload_n F rfl e_X10_starts1_106 ?_
    refine m_iconst F (v := 3) (by decide) e_X10_starts1_107 ?_
    refine m_iadd F e_X10_starts1_108 ?_
    refine Wm.topE (w := nI (160 * n901 + 3)) (nI_add (160 * n901) 3) ?_
    refine m_aload_n F rfl e_X10_starts1_109 ?_
    have okb5581 : OKB L5552 := OKB.upd (hok.b) (l := n901) (by omega) (fun i hi => (oL5552 i hi)) (by have h9 := (hok.b).2 n901 (by omega); omega)
    refine r_callV F e_X10_starts1_110 (q_X10_indexNow (x_l X) V c T Z u h P L5552 _ _  h5576.1 (okb5581) hP ) cb_X10_indexNow ml_X10_260 im_X10_indexNow se_X10_indexNow h5576 rfl rfl (rest := [.int (nI (160 * n901 + 3)), .ref (c + 16)]) rfl (Nat.le_of_ble_eq_true rfl) ⟨Nat.le_of_ble_eq_true rfl, Nat.le_of_ble_eq_true rfl⟩ ⟨Nat.le_of_ble_eq_true rfl, Nat.le_of_ble_eq_true rfl⟩ (fun r σ5578 hp => ?_)
    obtain ⟨h5579, n5582, hn5582, gn5582, rfl⟩ := hp
    have h5580 := HS.trans h5576 h5579 (by decide)
    refine r_sst F (g' := (⟨T, Z, u, h, P, (updL L5552 n901 ((L5552 n901).1, (L5552 n901).2.1, n5582, (L5552 n901).2.2.2))⟩ : RG)) (j := 160 * n901 + 3) e_X10_starts1_113 h5580 (by decide) (nI_clamp (by omega)) (vp_in_nI (by omega) (by decide)) (fun f q => EJ_up (l := n901) (r := 3) (by omega) (by decide) q rfl (by intro r' h1 h2 y hy; revert hy; unfold EL; split <;> simp_all)) CR.row (fun σ5583 h5584 g5585 => ?_)
    obtain ⟨L5586, eL5586⟩ : ∃ L9, L9 = (updL L5552 n901 ((L5552 n901).1, (L5552 n901).2.1, n5582, (L5552 n901).2.2.2)) := ⟨_, rfl⟩
    rw [← eL5586] at h5584
    have fL5586 : L5586 n901 = ((L5552 n901).1, (L5552 n901).2.1, n5582, (L5552 n901).2.2.2) := by rw [eL5586]; exact if_pos rfl
    have fL55860 : (L5586 n901).1 = (L5552 n901).1 := by rw [fL5586]
    have fL55861 : (L5586 n901).2.1 = (L5552 n901).2.1 := by rw [fL5586]
    have fL55862 : (L5586 n901).2.2.1 = n5582 := by rw [fL5586]
    have fL55863 : (L5586 n901).2.2.2 = (L5552 n901).2.2.2 := by rw [fL5586]
    have oL5586 : ∀ i, i ≠ n901 → L5586 i = L5552 i := fun i hi => by rw [eL5586]; exact if_neg hi
    have pL5586 : (L5586 4).1 = (L5552 4).1 := by rw [oL5586 4 (by omega)]
    refine m_aload_n F rfl e_X10_starts1_114 ?_
    refine r_getC F e_X10_starts1_115 fl_X10_59 h5584 ((fld_eq (g5585 _ (by omega))).trans ((fld_eq (h5579.2 c (by rw [show kC c c = 1 from kC_at (k := 0) (by decide)]; decide))).trans ((fld_eq (g5577 _ (by omega))).trans ((fld_eq (g5570 _ (by omega))).trans ((fld_eq (g5564 _ (by omega))).trans ((fld_eq (h5558.2 c (by rw [show kC c c = 1 from kC_at (k := 0) (by decide)]; decide))).trans ((fld_eq (g5551 _ (by omega))).trans f5548))))))) ?_
    refine m_iload_n F rfl e_X10_starts1_118 ?_
    refine m_iconst F (v := 4) (by decide) e_X10_starts1_119 ?_
    refine m_iadd F e_X10_starts1_120 ?_
    refine Wm.topE (w := nI (160 * n901 + 4)) (nI_add (160 * n901) 4) ?_
    refine m_aload_n F rfl e_X10_starts1_121 ?_
    have okb5590 : OKB L5586 := OKB.upd (hok.b) (l := n901) (by omega) (fun i hi => (oL5586 i hi).trans (oL5552 i hi)) (by have h9 := (hok.b).2 n901 (by omega); omega)
    refine r_callV F e_X10_starts1_122 (q_X10_indexNow (x_l X) V c T Z u h P L5586 _ _  h5584.1 (okb5590) hP ) cb_X10_indexNow ml_X10_260 im_X10_indexNow se_X10_indexNow h5584 rfl rfl (rest := [.int (nI (160 * n901 + 4)), .ref (c + 16)]) rfl (Nat.le_of_ble_eq_true rfl) ⟨Nat.le_of_ble_eq_true rfl, Nat.le_of_ble_eq_true rfl⟩ ⟨Nat.le_of_ble_eq_true rfl, Nat.le_of_ble_eq_true rfl⟩ (fun r σ5587 hp => ?_)
    obtain ⟨h5588, n5591, hn5591, gn5591, rfl⟩ := hp
    have h5589 := HS.trans h5584 h5588 (by decide)
    refine r_sst F (g' := (⟨T, Z, u, h, P, L5586⟩ : RG)) (j := 160 * n901 + 4) e_X10_starts1_125 h5589 (by decide) (nI_clamp (by omega)) (vp_in_nI (by omega) (by decide)) (fun f q => EJ_same (EJ_lw (l := n901) (r := 4) (by omega) (by omega) (by omega)) q) (fun _ _ _ q => q) (fun σ5592 h5593 g5594 => ?_)
    refine m_aload_n F rfl e_X10_starts1_126 ?_
    refine m_iconst F (v := 0) (by decide) e_X10_starts1_127 ?_
    refine m_iload_n F rfl e_X10_starts1_128 ?_
    refine m_lload_n F rfl e_X10_starts1_129 ?_
    refine m_lneg F e_X10_starts1_130 ?_
    refine Wm.topl (fun x5595 _ => ?_)
    refine m_aload_n F rfl e_X10_starts1_131 ?_
    refine r_getC F e_X10_starts1_132 fl_X10_59 h5593 ((fld_eq (g5594 _ (by omega))).trans ((fld_eq (h5588.2 c (by rw [show kC c c = 1 from kC_at (k := 0) (by decide)]; decide))).trans ((fld_eq (g5585 _ (by omega))).trans ((fld_eq (h5579.2 c (by rw [show kC c c = 1 from kC_at (k := 0) (by decide)]; decide))).trans ((fld_eq (g5577 _ (by omega))).trans ((fld_eq (g5570 _ (by omega))).trans ((fld_eq (g5564 _ (by omega))).trans ((fld_eq (h5558.2 c (by rw [show kC c c = 1 from kC_at (k := 0) (by decide)]; decide))).trans ((fld_eq (g5551 _ (by omega))).trans f5548))))))))) ?_
    refine m_iload_n F rfl e_X10_starts1_135 ?_
    refine m_bipush F (v := 6) (by decide) e_X10_starts1_136 ?_
    refine m_iadd F e_X10_starts1_138 ?_
    refine Wm.topE (w := nI (160 * n901 + 6)) (nI_add (160 * n901) 6) ?_
    refine r_sld F (j := 160 * n901 + 6) e_X10_starts1_139 h5593 (nI_clamp (by omega)) (vp_in_nI (by omega) (by decide)) (fun x5596 h5597 f5598 => ?_)
    refine m_lneg F e_X10_starts1_140 ?_
    refine Wm.topl (fun x5599 _ => ?_)
    refine m_aload_n F rfl e_X10_starts1_141 ?_
    refine r_getC F e_X10_starts1_142 fl_X10_59 h5593 ((fld_eq (g5594 _ (by omega))).trans ((fld_eq (h5588.2 c (by rw [show kC c c = 1 from kC_at (k := 0) (by decide)]; decide))).trans ((fld_eq (g5585 _ (by omega))).trans ((fld_eq (h5579.2 c (by rw [show kC c c = 1 from kC_at (k := 0) (by decide)]; decide))).trans ((fld_eq (g5577 _ (by omega))).trans ((fld_eq (g5570 _ (by omega))).trans ((fld_eq (g5564 _ (by omega))).trans ((fld_eq (h5558.2 c (by rw [show kC c c = 1 from kC_at (k := 0) (by decide)]; decide))).trans ((fld_eq (g5551 _ (by omega))).trans f5548))))))))) ?_
    refine m_iload_n F rfl e_X10_starts1_145 ?_
    refine m_bipush F (v := 7) (by decide) e_X10_starts1_146 ?_
    refine m_iadd F e_X10_starts1_148 ?_
    refine Wm.topE (w := nI (160 * n901 + 7)) (nI_add (160 * n901) 7) ?_
    refine r_sld F (j := 160 * n901 + 7) e_X10_starts1_149 h5593 (nI_clamp (by omega)) (vp_in_nI (by omega) (by decide)) (fun x5600 h5601 f5602 => ?_)
    refine m_lconst F (v := 0) (by decide) e_X10_starts1_150 ?_
    refine m_lconst F (v := 0) (by decide) e_X10_starts1_151 ?_
    refine m_lconst F (v := 0) (by decide) e_X10_starts1_152 ?_
    have okb5606 : OKB L5586 := OKB.upd (hok.b) (l := n901) (by omega) (fun i hi => (oL5586 i hi).trans (oL5552 i hi)) (by have h9 := (hok.b).2 n901 (by omega); omega)
    refine r_callV F e_X10_starts1_153 (q_X10_entry (x_l X) V c T Z u h P L5586 _ _ 0 (nI n901) x5595 x5599 x5600 0 0 0 h5593.1 (okb5606) hP ) cb_X10_entry ml_X10_253 im_X10_entry se_X10_entry h5593 rfl rfl (rest := []) rfl (Nat.le_of_ble_eq_true rfl) ⟨Nat.le_of_ble_eq_true rfl, Nat.le_of_ble_eq_true rfl⟩ ⟨Nat.le_of_ble_eq_true rfl, Nat.le_of_ble_eq_true rfl⟩ (fun r σ5603 hp => ?_)
    obtain ⟨h5604, rfl⟩ := hp
    have h5605 := HS.trans h5593 h5604 (by decide)
    have ok5607 : OKL P.n0 L5586 := OKL.upd hok (l := n901) (by omega) (fun i hi => (oL5586 i hi).trans (oL5552 i hi)) (by have h9 := hok.2 n901 (by omega); omega)
    exact m_vret F hQ e_X10_starts1_156 (⟨L5586, ok5607, (by first | omega | rfl | assumption), h5605, rfl⟩)
