set_option maxRecDepth 20000 in
theorem s_X8_copyFrom (l : Launch) (V : VX) (b M Z T N : Nat) (σ : Mem) (a : Nat) (r901 : Nat) (h0 : HT V (b, M, Z, T) σ) (hk : kA b a = 16) (k901 : kA b r901 = 16) (hM : M + 0 ≤ 1000000000) : Ct l V yX8_copyFrom cX8_copyFrom 2 none 1 0 0 N σ [.ref a, .ref r901] (fun r τ => HK V (b, M, Z, T) [0, 1, 3, 7, 12, 15, 19] σ τ ∧ r = none) := by
  refine Ct.of (by decide) (Nat.le_of_ble_eq_true rfl) [(0, .ref a), (1, .ref r901)] rfl (fun X hX F hQ => ?_)
  have h1 : HK V (b, M, Z, T) [0, 1, 3, 7, 12, 15, 19] σ σ := HK.start h0
  refine m_aload_n F rfl e_X8_copyFrom_0 ?_
  refine t_get F e_X8_copyFrom_1 fl_X8_9 (fun _ => o16) h1 k901 rfl (fun v hv f441 => ?_)
  obtain ⟨r442, k443, rfl⟩ := hv
  refine m_iconst F (v := 0) (by decide) e_X8_copyFrom_4 ?_
  refine m_aload_n F rfl e_X8_copyFrom_5 ?_
  refine t_get F e_X8_copyFrom_6 fl_X8_9 (fun _ => o16) h1 hk rfl (fun v hv f444 => ?_)
  obtain ⟨r445, k446, rfl⟩ := hv
  refine m_iconst F (v := 0) (by decide) e_X8_copyFrom_9 ?_
  refine m_bipush F (v := 72) (by decide) e_X8_copyFrom_10 ?_
  refine t_copyJ F (len := 72) e_X8_copyFrom_12 ac_X8_25 (fun _ => o17) (fun _ => o17) h1 k443 k446 (by decide) (by decide) (by decide) (by decide) (Nat.le_of_ble_eq_true rfl) (Nat.le_of_ble_eq_true rfl) (by decide) (fun σ447 h448 g449 => ?_)
  refine m_aload_n F rfl e_X8_copyFrom_15 ?_
  refine t_get F e_X8_copyFrom_16 fl_X8_15 (fun _ => o16) h448 k901 rfl (fun v hv f450 => ?_)
  obtain ⟨r451, k452, rfl⟩ := hv
  refine m_iconst F (v := 0) (by decide) e_X8_copyFrom_19 ?_
  refine m_aload_n F rfl e_X8_copyFrom_20 ?_
  refine t_get F e_X8_copyFrom_21 fl_X8_15 (fun _ => o16) h448 hk rfl (fun v hv f453 => ?_)
  obtain ⟨r454, k455, rfl⟩ := hv
  refine m_iconst F (v := 0) (by decide) e_X8_copyFrom_24 ?_
  refine m_bipush F (v := 72) (by decide) e_X8_copyFrom_25 ?_
  refine t_copyJ F (len := 72) e_X8_copyFrom_27 ac_X8_25 (fun _ => o17) (fun _ => o17) h448 k452 k455 (by decide) (by decide) (by decide) (by decide) (Nat.le_of_ble_eq_true rfl) (Nat.le_of_ble_eq_true rfl) (by decide) (fun σ456 h457 g458 => ?_)
  exact m_vret F hQ e_X8_copyFrom_30 (⟨h457, rfl⟩)
set_option maxRecDepth 20000 in
theorem s_X8_fill (l : Launch) (V : VX) (b M Z T N : Nat) (σ : Mem) (a : Nat) (x901 : Int32) (x902 : Int64) (h0 : HT V (b, M, Z, T) σ) (hk : kA b a = 16) (hM : M + 0 ≤ 1000000000) : Ct l V yX8_fill cX8_fill 5 none 3 0 0 N σ [.ref a, .int x901, .long x902] (fun r τ => HK V (b, M, Z, T) [0, 1, 3, 7, 12, 15, 19] σ τ ∧ r = none) := by
  refine Ct.of (by decide) (Nat.le_of_ble_eq_true rfl) [(0, .ref a), (1, .int x901), (2, .long x902)] rfl (fun X hX F hQ => ?_)
  have h1 : HK V (b, M, Z, T) [0, 1, 3, 7, 12, 15, 19] σ σ := HK.start h0
  refine m_iconst F (v := 0) (by decide) e_X8_fill_0 ?_
  refine m_iload_n F rfl e_X8_fill_1 ?_
  refine m_bipush F (v := 72) (by decide) e_X8_fill_2 ?_
  refine m_min F e_X8_fill_4 ml_X8_31 sm_min ini_math co_min (Nat.le_of_ble_eq_true rfl) (Nat.le_of_ble_eq_true rfl) (Nat.le_of_ble_eq_true rfl) (Nat.le_of_ble_eq_true rfl) ?_
  refine m_max F e_X8_fill_7 ml_X8_37 sm_max ini_math co_max (Nat.le_of_ble_eq_true rfl) (Nat.le_of_ble_eq_true rfl) (Nat.le_of_ble_eq_true rfl) (Nat.le_of_ble_eq_true rfl) ?_
  obtain ⟨n77, hn77, e77⟩ := clampF x901
  refine Wm.topE (w := nI n77) (e77) ?_
  refine m_istore F (lv' := [(4, .int (nI n77)), (0, .ref a), (1, .int x901), (2, .long x902)]) e_X8_fill_10 (by decide) rfl ?_
  refine m_aload_n F rfl e_X8_fill_12 ?_
  refine t_get F e_X8_fill_13 fl_X8_21 (fun _ => o16) h1 hk rfl (fun v hv f459 => ?_)
  obtain ⟨r460, k461, rfl⟩ := hv
  refine m_lload_n F rfl e_X8_fill_16 ?_
  refine t_callV F e_X8_fill_17 (s_X1_set (x_l X) V b M Z T _ _ r460 x902 h1.1 k461  (by omega)) cb_X1_set ml_X8_40 im_X1_set se_X1_set (fun _ => o6) h1 k461 rfl rfl (rest := []) rfl (Nat.le_of_ble_eq_true rfl) ⟨Nat.le_of_ble_eq_true rfl, Nat.le_of_ble_eq_true rfl⟩ ⟨Nat.le_of_ble_eq_true rfl, Nat.le_of_ble_eq_true rfl⟩ (fun r σ462 hp => ?_)
  obtain ⟨h464, rfl⟩ := hp
  have h463 := HK.trans h1 h464 (by decide)
  refine m_aload_n F rfl e_X8_fill_20 ?_
  refine t_get F e_X8_fill_21 fl_X8_9 (fun _ => o16) h463 hk rfl (fun v hv f465 => ?_)
  obtain ⟨r466, k467, rfl⟩ := hv
  refine m_iconst F (v := 0) (by decide) e_X8_fill_24 ?_
  refine m_iload F rfl e_X8_fill_25 ?_
  refine m_aload_n F rfl e_X8_fill_27 ?_
  refine t_get F e_X8_fill_28 fl_X8_21 (fun _ => o16) h463 hk rfl (fun v hv f468 => ?_)
  obtain ⟨r469, k470, rfl⟩ := hv
  refine t_get F e_X8_fill_31 fl_X8_44 (fun _ => o6) h463 k470 rfl (fun v hv f471 => ?_)
  obtain ⟨x472, rfl⟩ := hv
  refine m_callS F e_X8_fill_34 (s_J7_fill_bad5a_17 (x_l X) V b M Z T _ _ r466 0 n77 x472 h463.1 k467 (by omega) (by omega) (by first | omega | assumption | decide) (by first | omega | assumption | decide) (by omega)) cb_J7_fill_bad5a ml_X8_48 sm_J7_fill_bad5a rfl (rest := []) rfl (Nat.le_of_ble_eq_true rfl) ⟨Nat.le_of_ble_eq_true rfl, Nat.le_of_ble_eq_true rfl⟩ ⟨Nat.le_of_ble_eq_true rfl, Nat.le_of_ble_eq_true rfl⟩ (k' := 0) (z' := 0) (N' := N) rfl rfl rfl (fun r σ473 hp => ?_)
  obtain ⟨h475, rfl⟩ := hp
  have h474 := HK.trans h463 h475 (by decide)
  refine m_aload_n F rfl e_X8_fill_37 ?_
  refine t_get F e_X8_fill_38 fl_X8_15 (fun _ => o16) h474 hk rfl (fun v hv f476 => ?_)
  obtain ⟨r477, k478, rfl⟩ := hv
  refine m_iconst F (v := 0) (by decide) e_X8_fill_41 ?_
  refine m_iload F rfl e_X8_fill_42 ?_
  refine m_aload_n F rfl e_X8_fill_44 ?_
  refine t_get F e_X8_fill_45 fl_X8_21 (fun _ => o16) h474 hk rfl (fun v hv f479 => ?_)
  obtain ⟨r480, k481, rfl⟩ := hv
  refine t_get F e_X8_fill_48 fl_X8_54 (fun _ => o6) h474 k481 rfl (fun v hv f482 => ?_)
  obtain ⟨x483, rfl⟩ := hv
  refine m_callS F e_X8_fill_51 (s_J7_fill_bad5a_17 (x_l X) V b M Z T _ _ r477 0 n77 x483 h474.1 k478 (by omega) (by omega) (by first | omega | assumption | decide) (by first | omega | assumption | decide) (by omega)) cb_J7_fill_bad5a ml_X8_48 sm_J7_fill_bad5a rfl (rest := []) rfl (Nat.le_of_ble_eq_true rfl) ⟨Nat.le_of_ble_eq_true rfl, Nat.le_of_ble_eq_true rfl⟩ ⟨Nat.le_of_ble_eq_true rfl, Nat.le_of_ble_eq_true rfl⟩ (k' := 0) (z' := 0) (N' := N) rfl rfl rfl (fun r σ484 hp => ?_)
  obtain ⟨h486, rfl⟩ := hp
  have h485 := HK.trans h474 h486 (by decide)
  exact m_vret F hQ e_X8_fill_54 (⟨h485, rfl⟩)
set_option maxRecDepth 20000 in
theorem s_X8_copyTo (l : Launch) (V : VX) (b M Z T N : Nat) (σ : Mem) (a : Nat) (x901 : Int32) (r902 : Nat) (h0 : HT V (b, M, Z, T) σ) (hk : kA b a = 16) (k902 : kA b r902 = 6) (hM : M + 0 ≤ 1000000000) : Ct l V yX8_copyTo cX8_copyTo 4 none 0 0 0 N σ [.ref a, .int x901, .ref r902] (fun r τ => HK V (b, M, Z, T) [0, 1, 3, 7, 12, 15, 19] σ τ ∧ r = none) := by
  refine Ct.of (by decide) (Nat.le_of_ble_eq_true rfl) [(0, .ref a), (1, .int x901), (2, .ref r902)] rfl (fun X hX F hQ => ?_)
  have h1 : HK V (b, M, Z, T) [0, 1, 3, 7, 12, 15, 19] σ σ := HK.start h0
  refine m_iload_n F rfl e_X8_copyTo_0 ?_
  refine m_if_lt F e_X8_copyTo_1 (fun q1 => ?_) (fun q1 => ?_)
  · refine m_iconst F (v := 0) (by decide) e_X8_copyTo_14 ?_
    refine m_istore_n F (lv' := [(3, .int 0), (0, .ref a), (1, .int x901), (2, .ref r902)]) e_X8_copyTo_15 (by decide) rfl ?_
    refine m_aload_n F rfl e_X8_copyTo_16 ?_
    refine m_iload_n F rfl e_X8_copyTo_17 ?_
    refine m_if_eq F e_X8_copyTo_18 (fun _ => ?_) (fun q => absurd (by decide) q)
    refine m_lconst F (v := 0) (by decide) e_X8_copyTo_30 ?_
    refine t_put F e_X8_copyTo_31 fp_X8_44 (fun _ => o6) h1 k902 rfl ⟨_, rfl⟩ rfl rfl (by decide) (fun σ487 h488 g489 g490 f491 => ?_)
    refine m_aload_n F rfl e_X8_copyTo_34 ?_
    refine m_iload_n F rfl e_X8_copyTo_35 ?_
    refine m_if_eq F e_X8_copyTo_36 (fun _ => ?_) (fun q => absurd (by decide) q)
    refine m_lconst F (v := 0) (by decide) e_X8_copyTo_48 ?_
    refine t_put F e_X8_copyTo_49 fp_X8_54 (fun _ => o6) h488 k902 rfl ⟨_, rfl⟩ rfl rfl (by decide) (fun σ492 h493 g494 g495 f496 => ?_)
    exact m_vret F hQ e_X8_copyTo_52 (⟨h493, rfl⟩)
  · obtain ⟨n497, hn497, rfl⟩ := nI_nn (x := x901) (fun e => q1 (Int32.lt_of_lt_of_le e (by decide)))
    have c1 : n497 ≥ 0 := by have hh := mt (nI_ltI (a := n497) (b := 0) (by omega) (by omega)).mpr q1; omega
    refine m_iload_n F rfl e_X8_copyTo_4 ?_
    refine m_bipush F (v := 72) (by decide) e_X8_copyTo_5 ?_
    refine m_icmp_ge F e_X8_copyTo_7 (fun q7 => ?_) (fun q7 => ?_)
    · have c7 : n497 ≥ 72 := (nI_leI (a := 72) (b := n497) (by omega) (by omega)).mp q7
      refine m_iconst F (v := 0) (by decide) e_X8_copyTo_14 ?_
      refine m_istore_n F (lv' := [(3, .int 0), (0, .ref a), (1, .int (nI n497)), (2, .ref r902)]) e_X8_copyTo_15 (by decide) rfl ?_
      refine m_aload_n F rfl e_X8_copyTo_16 ?_
      refine m_iload_n F rfl e_X8_copyTo_17 ?_
      refine m_if_eq F e_X8_copyTo_18 (fun _ => ?_) (fun q => absurd (by decide) q)
      refine m_lconst F (v := 0) (by decide) e_X8_copyTo_30 ?_
      refine t_put F e_X8_copyTo_31 fp_X8_44 (fun _ => o6) h1 k902 rfl ⟨_, rfl⟩ rfl rfl (by decide) (fun σ498 h499 g500 g501 f502 => ?_)
      refine m_aload_n F rfl e_X8_copyTo_34 ?_
      refine m_iload_n F rfl e_X8_copyTo_35 ?_
      refine m_if_eq F e_X8_copyTo_36 (fun _ => ?_) (fun q => absurd (by decide) q)
      refine m_lconst F (v := 0) (by decide) e_X8_copyTo_48 ?_
      refine t_put F e_X8_copyTo_49 fp_X8_54 (fun _ => o6) h499 k902 rfl ⟨_, rfl⟩ rfl rfl (by decide) (fun σ503 h504 g505 g506 f507 => ?_)
      exact m_vret F hQ e_X8_copyTo_52 (⟨h504, rfl⟩)
    · have c7 : n497 < 72 := by have hh := mt (nI_leI (a := 72) (b := n497) (by omega) (by omega)).mpr q7; omega
      refine m_iconst F (v := 1) (by decide) e_X8_copyTo_10 ?_
      refine m_goto F e_X8_copyTo_11 ?_
      refine m_istore_n F (lv' := [(3, .int 1), (0, .ref a), (1, .int (nI n497)), (2, .ref r902)]) e_X8_copyTo_15 (by decide) rfl ?_
      refine m_aload_n F rfl e_X8_copyTo_16 ?_
      refine m_iload_n F rfl e_X8_copyTo_17 ?_
      refine m_if_eq F e_X8_copyTo_18 (fun q => absurd q (by decide)) (fun _ => ?_)
      refine m_aload_n F rfl e_X8_copyTo_21 ?_
      refine t_get F e_X8_copyTo_22 fl_X8_9 (fun _ => o16) h1 hk rfl (fun v hv f508 => ?_)
      obtain ⟨r509, k510, rfl⟩ := hv
      refine m_iload_n F rfl e_X8_copyTo_25 ?_
      refine t_lald F (len := 72) (j := n497) e_X8_copyTo_26 (fun _ => o17) h1 k510 (nI_clamp (by omega)) (vp_in_nI (by omega) (by decide)) (fun x511 => ?_)
      refine m_goto F e_X8_copyTo_27 ?_
      refine t_put F e_X8_copyTo_31 fp_X8_44 (fun _ => o6) h1 k902 rfl ⟨_, rfl⟩ rfl rfl (by decide) (fun σ512 h513 g514 g515 f516 => ?_)
      refine m_aload_n F rfl e_X8_copyTo_34 ?_
      refine m_iload_n F rfl e_X8_copyTo_35 ?_
      refine m_if_eq F e_X8_copyTo_36 (fun q => absurd q (by decide)) (fun _ => ?_)
      refine m_aload_n F rfl e_X8_copyTo_39 ?_
      refine t_get F e_X8_copyTo_40 fl_X8_15 (fun _ => o16) h513 hk rfl (fun v hv f517 => ?_)
      obtain ⟨r518, k519, rfl⟩ := hv
      refine m_iload_n F rfl e_X8_copyTo_43 ?_
      refine t_lald F (len := 72) (j := n497) e_X8_copyTo_44 (fun _ => o17) h513 k519 (nI_clamp (by omega)) (vp_in_nI (by omega) (by decide)) (fun x520 => ?_)
      refine m_goto F e_X8_copyTo_45 ?_
      refine t_put F e_X8_copyTo_49 fp_X8_54 (fun _ => o6) h513 k902 rfl ⟨_, rfl⟩ rfl rfl (by decide) (fun σ521 h522 g523 g524 f525 => ?_)
      exact m_vret F hQ e_X8_copyTo_52 (⟨h522, rfl⟩)
set_option maxRecDepth 20000 in
theorem s_X8_addTo (l : Launch) (V : VX) (b M Z T N : Nat) (σ : Mem) (a : Nat) (x901 : Int32) (r902 : Nat) (h0 : HT V (b, M, Z, T) σ) (hk : kA b a = 16) (k902 : kA b r902 = 6) (hM : M + 0 ≤ 1000000000) : Ct l V yX8_addTo cX8_addTo 3 none 0 0 0 N σ [.ref a, .int x901, .ref r902] (fun r τ => HK V (b, M, Z, T) [0, 1, 3, 7, 12, 15, 19] σ τ ∧ r = none) := by
  refine Ct.of (by decide) (Nat.le_of_ble_eq_true rfl) [(0, .ref a), (1, .int x901), (2, .ref r902)] rfl (fun X hX F hQ => ?_)
  have h1 : HK V (b, M, Z, T) [0, 1, 3, 7, 12, 15, 19] σ σ := HK.start h0
  refine m_iload_n F rfl e_X8_addTo_0 ?_
  refine m_if_lt F e_X8_addTo_1 (fun q1 => ?_) (fun q1 => ?_)
  · exact m_vret F hQ e_X8_addTo_60 (⟨h1, rfl⟩)
  · obtain ⟨n526, hn526, rfl⟩ := nI_nn (x := x901) (fun e => q1 (Int32.lt_of_lt_of_le e (by decide)))
    have c1 : n526 ≥ 0 := by have hh := mt (nI_ltI (a := n526) (b := 0) (by omega) (by omega)).mpr q1; omega
    refine m_iload_n F rfl e_X8_addTo_4 ?_
    refine m_bipush F (v := 72) (by decide) e_X8_addTo_5 ?_
    refine m_icmp_ge F e_X8_addTo_7 (fun q7 => ?_) (fun q7 => ?_)
    · have c7 : n526 ≥ 72 := (nI_leI (a := 72) (b := n526) (by omega) (by omega)).mp q7
      exact m_vret F hQ e_X8_addTo_60 (⟨h1, rfl⟩)
    · have c7 : n526 < 72 := by have hh := mt (nI_leI (a := 72) (b := n526) (by omega) (by omega)).mpr q7; omega
      refine m_aload_n F rfl e_X8_addTo_10 ?_
      refine m_dup F rfl e_X8_addTo_11 ?_
      refine t_get F e_X8_addTo_12 fl_X8_54 (fun _ => o6) h1 k902 rfl (fun v hv f527 => ?_)
      obtain ⟨x528, rfl⟩ := hv
      refine m_aload_n F rfl e_X8_addTo_15 ?_
      refine t_get F e_X8_addTo_16 fl_X8_15 (fun _ => o16) h1 hk rfl (fun v hv f529 => ?_)
      obtain ⟨r530, k531, rfl⟩ := hv
      refine m_iload_n F rfl e_X8_addTo_19 ?_
      refine t_lald F (len := 72) (j := n526) e_X8_addTo_20 (fun _ => o17) h1 k531 (nI_clamp (by omega)) (vp_in_nI (by omega) (by decide)) (fun x532 => ?_)
      refine m_ladd F e_X8_addTo_21 ?_
      refine Wm.topl (fun x533 _ => ?_)
      refine t_put F e_X8_addTo_22 fp_X8_54 (fun _ => o6) h1 k902 rfl ⟨_, rfl⟩ rfl rfl (by decide) (fun σ534 h535 g536 g537 f538 => ?_)
      refine m_aload_n F rfl e_X8_addTo_25 ?_
      refine m_dup F rfl e_X8_addTo_26 ?_
      refine t_get F e_X8_addTo_27 fl_X8_44 (fun _ => o6) h535 k902 rfl (fun v hv f539 => ?_)
      obtain ⟨x540, rfl⟩ := hv
      refine m_aload_n F rfl e_X8_addTo_30 ?_
      refine t_get F e_X8_addTo_31 fl_X8_9 (fun _ => o16) h535 hk rfl (fun v hv f541 => ?_)
      obtain ⟨r542, k543, rfl⟩ := hv
      refine m_iload_n F rfl e_X8_addTo_34 ?_
      refine t_lald F (len := 72) (j := n526) e_X8_addTo_35 (fun _ => o17) h535 k543 (nI_clamp (by omega)) (vp_in_nI (by omega) (by decide)) (fun x544 => ?_)
      refine m_aload_n F rfl e_X8_addTo_36 ?_
      refine t_getC F e_X8_addTo_37 fl_X8_54 (fun _ => o6) h535 k902 (f538) ?_
      refine m_bipush F (v := 42) (by decide) e_X8_addTo_40 ?_
      refine m_lshr F e_X8_addTo_42 ?_
      refine Wm.topl (fun x545 _ => ?_)
      refine m_ladd F e_X8_addTo_43 ?_
      refine Wm.topl (fun x546 _ => ?_)
      refine m_ladd F e_X8_addTo_44 ?_
      refine Wm.topl (fun x547 _ => ?_)
      refine t_put F e_X8_addTo_45 fp_X8_44 (fun _ => o6) h535 k902 rfl ⟨_, rfl⟩ rfl rfl (by decide) (fun σ548 h549 g550 g551 f552 => ?_)
      refine m_aload_n F rfl e_X8_addTo_48 ?_
      refine m_dup F rfl e_X8_addTo_49 ?_
      refine t_getC F e_X8_addTo_50 fl_X8_54 (fun _ => o6) h549 k902 ((g551 1 (by decide)).trans f538) ?_
      refine m_ldc2 F kc_X8_57 e_X8_addTo_53 ?_
      refine m_land F e_X8_addTo_56 ?_
      refine Wm.topl (fun x553 _ => ?_)
      refine t_put F e_X8_addTo_57 fp_X8_54 (fun _ => o6) h549 k902 rfl ⟨_, rfl⟩ rfl rfl (by decide) (fun σ554 h555 g556 g557 f558 => ?_)
      exact m_vret F hQ e_X8_addTo_60 (⟨h555, rfl⟩)
set_option maxRecDepth 20000 in
theorem s_X8_put (l : Launch) (V : VX) (b M Z T N : Nat) (σ : Mem) (a : Nat) (x901 : Int32) (r902 : Nat) (h0 : HT V (b, M, Z, T) σ) (hk : kA b a = 16) (k902 : kA b r902 = 6) (hM : M + 0 ≤ 1000000000) : Ct l V yX8_put cX8_put 3 none 0 0 0 N σ [.ref a, .int x901, .ref r902] (fun r τ => HK V (b, M, Z, T) [0, 1, 3, 7, 12, 15, 19] σ τ ∧ r = none) := by
  refine Ct.of (by decide) (Nat.le_of_ble_eq_true rfl) [(0, .ref a), (1, .int x901), (2, .ref r902)] rfl (fun X hX F hQ => ?_)
  have h1 : HK V (b, M, Z, T) [0, 1, 3, 7, 12, 15, 19] σ σ := HK.start h0
  refine m_iload_n F rfl e_X8_put_0 ?_
  refine m_if_lt F e_X8_put_1 (fun q1 => ?_) (fun q1 => ?_)
  · exact m_vret F hQ e_X8_put_30 (⟨h1, rfl⟩)
  · obtain ⟨n559, hn559, rfl⟩ := nI_nn (x := x901) (fun e => q1 (Int32.lt_of_lt_of_le e (by decide)))
    have c1 : n559 ≥ 0 := by have hh := mt (nI_ltI (a := n559) (b := 0) (by omega) (by omega)).mpr q1; omega
    refine m_iload_n F rfl e_X8_put_4 ?_
    refine m_bipush F (v := 72) (by decide) e_X8_put_5 ?_
    refine m_icmp_ge F e_X8_put_7 (fun q7 => ?_) (fun q7 => ?_)
    · have c7 : n559 ≥ 72 := (nI_leI (a := 72) (b := n559) (by omega) (by omega)).mp q7
      exact m_vret F hQ e_X8_put_30 (⟨h1, rfl⟩)
    · have c7 : n559 < 72 := by have hh := mt (nI_leI (a := 72) (b := n559) (by omega) (by omega)).mpr q7; omega
      refine m_aload_n F rfl e_X8_put_10 ?_
      refine t_get F e_X8_put_11 fl_X8_9 (fun _ => o16) h1 hk rfl (fun v hv f560 => ?_)
      obtain ⟨r561, k562, rfl⟩ := hv
      refine m_iload_n F rfl e_X8_put_14 ?_
      refine m_aload_n F rfl e_X8_put_15 ?_
      refine t_get F e_X8_put_16 fl_X8_44 (fun _ => o6) h1 k902 rfl (fun v hv f563 => ?_)
      obtain ⟨x564, rfl⟩ := hv
      refine t_last F (len := 72) (j := n559) e_X8_put_19 (fun _ => o17) h1 k562 (nI_clamp (by omega)) (vp_in_nI (by omega) (by decide)) (by decide) (fun σ565 h566 g567 => ?_)
      refine m_aload_n F rfl e_X8_put_20 ?_
      refine t_get F e_X8_put_21 fl_X8_15 (fun _ => o16) h566 hk rfl (fun v hv f568 => ?_)
      obtain ⟨r569, k570, rfl⟩ := hv
      refine m_iload_n F rfl e_X8_put_24 ?_
      refine m_aload_n F rfl e_X8_put_25 ?_
      refine t_get F e_X8_put_26 fl_X8_54 (fun _ => o6) h566 k902 rfl (fun v hv f571 => ?_)
      obtain ⟨x572, rfl⟩ := hv
      refine t_last F (len := 72) (j := n559) e_X8_put_29 (fun _ => o17) h566 k570 (nI_clamp (by omega)) (vp_in_nI (by omega) (by decide)) (by decide) (fun σ573 h574 g575 => ?_)
      exact m_vret F hQ e_X8_put_30 (⟨h574, rfl⟩)
set_option maxRecDepth 20000 in
theorem s_X8_setAt (l : Launch) (V : VX) (b M Z T N : Nat) (σ : Mem) (a : Nat) (x901 : Int32) (x902 : Int64) (h0 : HT V (b, M, Z, T) σ) (hk : kA b a = 16) (hM : M + 0 ≤ 1000000000) : Ct l V yX8_setAt cX8_setAt 4 none 1 0 0 N σ [.ref a, .int x901, .long x902] (fun r τ => HK V (b, M, Z, T) [0, 1, 3, 7, 12, 15, 19] σ τ ∧ r = none) := by
  refine Ct.of (by decide) (Nat.le_of_ble_eq_true rfl) [(0, .ref a), (1, .int x901), (2, .long x902)] rfl (fun X hX F hQ => ?_)
  have h1 : HK V (b, M, Z, T) [0, 1, 3, 7, 12, 15, 19] σ σ := HK.start h0
  refine m_aload_n F rfl e_X8_setAt_0 ?_
  refine t_get F e_X8_setAt_1 fl_X8_21 (fun _ => o16) h1 hk rfl (fun v hv f576 => ?_)
  obtain ⟨r577, k578, rfl⟩ := hv
  refine m_lload_n F rfl e_X8_setAt_4 ?_
  refine t_callV F e_X8_setAt_5 (s_X1_set (x_l X) V b M Z T _ _ r577 x902 h1.1 k578  (by omega)) cb_X1_set ml_X8_40 im_X1_set se_X1_set (fun _ => o6) h1 k578 rfl rfl (rest := []) rfl (Nat.le_of_ble_eq_true rfl) ⟨Nat.le_of_ble_eq_true rfl, Nat.le_of_ble_eq_true rfl⟩ ⟨Nat.le_of_ble_eq_true rfl, Nat.le_of_ble_eq_true rfl⟩ (fun r σ579 hp => ?_)
  obtain ⟨h581, rfl⟩ := hp
  have h580 := HK.trans h1 h581 (by decide)
  refine m_aload_n F rfl e_X8_setAt_8 ?_
  refine m_iload_n F rfl e_X8_setAt_9 ?_
  refine m_aload_n F rfl e_X8_setAt_10 ?_
  refine t_get F e_X8_setAt_11 fl_X8_21 (fun _ => o16) h580 hk rfl (fun v hv f582 => ?_)
  obtain ⟨r583, k584, rfl⟩ := hv
  refine t_callV F e_X8_setAt_14 (s_X8_put (x_l X) V b M Z T _ _ a x901 r583 h580.1 hk k584 (by omega)) cb_X8_put ml_X8_59 im_X8_put se_X8_put (fun _ => o16) h580 hk rfl rfl (rest := []) rfl (Nat.le_of_ble_eq_true rfl) ⟨Nat.le_of_ble_eq_true rfl, Nat.le_of_ble_eq_true rfl⟩ ⟨Nat.le_of_ble_eq_true rfl, Nat.le_of_ble_eq_true rfl⟩ (fun r σ585 hp => ?_)
  obtain ⟨h587, rfl⟩ := hp
  have h586 := HK.trans h580 h587 (by decide)
  exact m_vret F hQ e_X8_setAt_17 (⟨h586, rfl⟩)
set_option maxRecDepth 20000 in
theorem s_X8_addAt (l : Launch) (V : VX) (b M Z T N : Nat) (σ : Mem) (a : Nat) (x901 : Int32) (x902 : Int64) (h0 : HT V (b, M, Z, T) σ) (hk : kA b a = 16) (hM : M + 0 ≤ 1000000000) : Ct l V yX8_addAt cX8_addAt 4 none 1 0 0 N σ [.ref a, .int x901, .long x902] (fun r τ => HK V (b, M, Z, T) [0, 1, 3, 7, 12, 15, 19] σ τ ∧ r = none) := by
  refine Ct.of (by decide) (Nat.le_of_ble_eq_true rfl) [(0, .ref a), (1, .int x901), (2, .long x902)] rfl (fun X hX F hQ => ?_)
  have h1 : HK V (b, M, Z, T) [0, 1, 3, 7, 12, 15, 19] σ σ := HK.start h0
  refine m_aload_n F rfl e_X8_addAt_0 ?_
  refine m_iload_n F rfl e_X8_addAt_1 ?_
  refine m_aload_n F rfl e_X8_addAt_2 ?_
  refine t_get F e_X8_addAt_3 fl_X8_21 (fun _ => o16) h1 hk rfl (fun v hv f588 => ?_)
  obtain ⟨r589, k590, rfl⟩ := hv
  refine t_callV F e_X8_addAt_6 (s_X8_copyTo (x_l X) V b M Z T _ _ a x901 r589 h1.1 hk k590 (by omega)) cb_X8_copyTo ml_X8_63 im_X8_copyTo se_X8_copyTo (fun _ => o16) h1 hk rfl rfl (rest := []) rfl (Nat.le_of_ble_eq_true rfl) ⟨Nat.le_of_ble_eq_true rfl, Nat.le_of_ble_eq_true rfl⟩ ⟨Nat.le_of_ble_eq_true rfl, Nat.le_of_ble_eq_true rfl⟩ (fun r σ591 hp => ?_)
  obtain ⟨h593, rfl⟩ := hp
  have h592 := HK.trans h1 h593 (by decide)
  refine m_aload_n F rfl e_X8_addAt_9 ?_
  refine t_get F e_X8_addAt_10 fl_X8_21 (fun _ => o16) h592 hk rfl (fun v hv f594 => ?_)
  obtain ⟨r595, k596, rfl⟩ := hv
  refine m_lload_n F rfl e_X8_addAt_13 ?_
  refine t_callV F e_X8_addAt_14 (s_X1_addLong (x_l X) V b M Z T _ _ r595 x902 h592.1 k596  (by omega)) cb_X1_addLong ml_X8_66 im_X1_addLong se_X1_addLong (fun _ => o6) h592 k596 rfl rfl (rest := []) rfl (Nat.le_of_ble_eq_true rfl) ⟨Nat.le_of_ble_eq_true rfl, Nat.le_of_ble_eq_true rfl⟩ ⟨Nat.le_of_ble_eq_true rfl, Nat.le_of_ble_eq_true rfl⟩ (fun r σ597 hp => ?_)
  obtain ⟨h599, rfl⟩ := hp
  have h598 := HK.trans h592 h599 (by decide)
  refine m_aload_n F rfl e_X8_addAt_17 ?_
  refine m_iload_n F rfl e_X8_addAt_18 ?_
  refine m_aload_n F rfl e_X8_addAt_19 ?_
  refine t_get F e_X8_addAt_20 fl_X8_21 (fun _ => o16) h598 hk rfl (fun v hv f600 => ?_)
  obtain ⟨r601, k602, rfl⟩ := hv
  refine t_callV F e_X8_addAt_23 (s_X8_put (x_l X) V b M Z T _ _ a x901 r601 h598.1 hk k602 (by omega)) cb_X8_put ml_X8_59 im_X8_put se_X8_put (fun _ => o16) h598 hk rfl rfl (rest := []) rfl (Nat.le_of_ble_eq_true rfl) ⟨Nat.le_of_ble_eq_true rfl, Nat.le_of_ble_eq_true rfl⟩ ⟨Nat.le_of_ble_eq_true rfl, Nat.le_of_ble_eq_true rfl⟩ (fun r σ603 hp => ?_)
  obtain ⟨h605, rfl⟩ := hp
  have h604 := HK.trans h598 h605 (by decide)
  exact m_vret F hQ e_X8_addAt_26 (⟨h604, rfl⟩)
set_option maxRecDepth 20000 in
theorem s_X8_repeat (l : Launch) (V : VX) (b M Z T N : Nat) (σ : Mem) (a : Nat) (x901 : Int32) (h0 : HT V (b, M, Z, T) σ) (hk : kA b a = 16) (hM : M + 0 ≤ 1000000000) : Ct l V yX8_repeat cX8_repeat 2 none 1 0 0 N σ [.ref a, .int x901] (fun r τ => HK V (b, M, Z, T) [0, 1, 3, 7, 12, 15, 19] σ τ ∧ r = none) := by
  refine Ct.of (by decide) (Nat.le_of_ble_eq_true rfl) [(0, .ref a), (1, .int x901)] rfl (fun X hX F hQ => ?_)
  have h1 : HK V (b, M, Z, T) [0, 1, 3, 7, 12, 15, 19] σ σ := HK.start h0
  refine m_aload_n F rfl e_X8_repeat_0 ?_
  refine m_iload_n F rfl e_X8_repeat_1 ?_
  refine m_aload_n F rfl e_X8_repeat_2 ?_
  refine t_get F e_X8_repeat_3 fl_X8_21 (fun _ => o16) h1 hk rfl (fun v hv f606 => ?_)
  obtain ⟨r607, k608, rfl⟩ := hv
  refine t_callV F e_X8_repeat_6 (s_X8_copyTo (x_l X) V b M Z T _ _ a x901 r607 h1.1 hk k608 (by omega)) cb_X8_copyTo ml_X8_63 im_X8_copyTo se_X8_copyTo (fun _ => o16) h1 hk rfl rfl (rest := []) rfl (Nat.le_of_ble_eq_true rfl) ⟨Nat.le_of_ble_eq_true rfl, Nat.le_of_ble_eq_true rfl⟩ ⟨Nat.le_of_ble_eq_true rfl, Nat.le_of_ble_eq_true rfl⟩ (fun r σ609 hp => ?_)
  obtain ⟨h611, rfl⟩ := hp
  have h610 := HK.trans h1 h611 (by decide)
  refine m_aload_n F rfl e_X8_repeat_9 ?_
  refine m_iload_n F rfl e_X8_repeat_10 ?_
  refine m_iconst F (v := 1) (by decide) e_X8_repeat_11 ?_
  refine m_iadd F e_X8_repeat_12 ?_
  refine Wm.top (fun x612 _ => ?_)
  refine m_aload_n F rfl e_X8_repeat_13 ?_
  refine t_get F e_X8_repeat_14 fl_X8_21 (fun _ => o16) h610 hk rfl (fun v hv f613 => ?_)
  obtain ⟨r614, k615, rfl⟩ := hv
  refine t_callV F e_X8_repeat_17 (s_X8_put (x_l X) V b M Z T _ _ a x612 r614 h610.1 hk k615 (by omega)) cb_X8_put ml_X8_59 im_X8_put se_X8_put (fun _ => o16) h610 hk rfl rfl (rest := []) rfl (Nat.le_of_ble_eq_true rfl) ⟨Nat.le_of_ble_eq_true rfl, Nat.le_of_ble_eq_true rfl⟩ ⟨Nat.le_of_ble_eq_true rfl, Nat.le_of_ble_eq_true rfl⟩ (fun r σ616 hp => ?_)
  obtain ⟨h618, rfl⟩ := hp
  have h617 := HK.trans h610 h618 (by decide)
  exact m_vret F hQ e_X8_repeat_20 (⟨h617, rfl⟩)
set_option maxRecDepth 20000 in
theorem s_X8_move (l : Launch) (V : VX) (b M Z T N : Nat) (σ : Mem) (a : Nat) (x901 : Int32) (x902 : Int32) (h0 : HT V (b, M, Z, T) σ) (hk : kA b a = 16) (hM : M + 0 ≤ 1000000000) : Ct l V yX8_move cX8_move 3 none 2 0 0 N σ [.ref a, .int x901, .int x902] (fun r τ => HK V (b, M, Z, T) [0, 1, 3, 7, 12, 15, 19] σ τ ∧ r = none) := by
  refine Ct.of (by decide) (Nat.le_of_ble_eq_true rfl) [(0, .ref a), (1, .int x901), (2, .int x902)] rfl (fun X hX F hQ => ?_)
  have h1 : HK V (b, M, Z, T) [0, 1, 3, 7, 12, 15, 19] σ σ := HK.start h0
  refine m_aload_n F rfl e_X8_move_0 ?_
  refine m_iload_n F rfl e_X8_move_1 ?_
  refine m_aload_n F rfl e_X8_move_2 ?_
  refine t_get F e_X8_move_3 fl_X8_21 (fun _ => o16) h1 hk rfl (fun v hv f619 => ?_)
  obtain ⟨r620, k621, rfl⟩ := hv
  refine t_callV F e_X8_move_6 (s_X8_copyTo (x_l X) V b M Z T _ _ a x901 r620 h1.1 hk k621 (by omega)) cb_X8_copyTo ml_X8_63 im_X8_copyTo se_X8_copyTo (fun _ => o16) h1 hk rfl rfl (rest := []) rfl (Nat.le_of_ble_eq_true rfl) ⟨Nat.le_of_ble_eq_true rfl, Nat.le_of_ble_eq_true rfl⟩ ⟨Nat.le_of_ble_eq_true rfl, Nat.le_of_ble_eq_true rfl⟩ (fun r σ622 hp => ?_)
  obtain ⟨h624, rfl⟩ := hp
  have h623 := HK.trans h1 h624 (by decide)
  refine m_aload_n F rfl e_X8_move_9 ?_
  refine m_iload_n F rfl e_X8_move_10 ?_
  refine m_aload_n F rfl e_X8_move_11 ?_
  refine t_get F e_X8_move_12 fl_X8_21 (fun _ => o16) h623 hk rfl (fun v hv f625 => ?_)
  obtain ⟨r626, k627, rfl⟩ := hv
  refine t_callV F e_X8_move_15 (s_X8_addTo (x_l X) V b M Z T _ _ a x902 r626 h623.1 hk k627 (by omega)) cb_X8_addTo ml_X8_69 im_X8_addTo se_X8_addTo (fun _ => o16) h623 hk rfl rfl (rest := []) rfl (Nat.le_of_ble_eq_true rfl) ⟨Nat.le_of_ble_eq_true rfl, Nat.le_of_ble_eq_true rfl⟩ ⟨Nat.le_of_ble_eq_true rfl, Nat.le_of_ble_eq_true rfl⟩ (fun r σ628 hp => ?_)
  obtain ⟨h630, rfl⟩ := hp
  have h629 := HK.trans h623 h630 (by decide)
  refine m_aload_n F rfl e_X8_move_18 ?_
  refine m_iload_n F rfl e_X8_move_19 ?_
  refine m_aload_n F rfl e_X8_move_20 ?_
  refine t_get F e_X8_move_21 fl_X8_21 (fun _ => o16) h629 hk rfl (fun v hv f631 => ?_)
  obtain ⟨r632, k633, rfl⟩ := hv
  refine t_callV F e_X8_move_24 (s_X8_put (x_l X) V b M Z T _ _ a x902 r632 h629.1 hk k633 (by omega)) cb_X8_put ml_X8_59 im_X8_put se_X8_put (fun _ => o16) h629 hk rfl rfl (rest := []) rfl (Nat.le_of_ble_eq_true rfl) ⟨Nat.le_of_ble_eq_true rfl, Nat.le_of_ble_eq_true rfl⟩ ⟨Nat.le_of_ble_eq_true rfl, Nat.le_of_ble_eq_true rfl⟩ (fun r σ634 hp => ?_)
  obtain ⟨h636, rfl⟩ := hp
  have h635 := HK.trans h629 h636 (by decide)
  refine m_aload_n F rfl e_X8_move_27 ?_
  refine m_iload_n F rfl e_X8_move_28 ?_
  refine m_lconst F (v := 0) (by decide) e_X8_move_29 ?_
  refine t_callV F e_X8_move_30 (s_X8_setAt (x_l X) V b M Z T _ _ a x901 0 h635.1 hk  (by omega)) cb_X8_setAt ml_X8_72 im_X8_setAt se_X8_setAt (fun _ => o16) h635 hk rfl rfl (rest := []) rfl (Nat.le_of_ble_eq_true rfl) ⟨Nat.le_of_ble_eq_true rfl, Nat.le_of_ble_eq_true rfl⟩ ⟨Nat.le_of_ble_eq_true rfl, Nat.le_of_ble_eq_true rfl⟩ (fun r σ637 hp => ?_)
  obtain ⟨h639, rfl⟩ := hp
  have h638 := HK.trans h635 h639 (by decide)
  exact m_vret F hQ e_X8_move_33 (⟨h638, rfl⟩)
set_option maxRecDepth 20000 in
theorem lp_X8_shareDownOf_3 {V : VX} {X : MX} {b M Z T N : Nat} {σ : Mem} {a : Nat} {r901 : Nat} {x902 : Int32} {x903 : Int32} {x904 : Int64} {x905 : Int64}  (F : Fx V X yX8_shareDownOf cX8_shareDownOf 9 none (rmd 2 0 0)) (hQ : Rt V X 0 0 N (fun r τ => HK V (b, M, Z, T) [0, 1, 3, 7, 12, 15, 19] σ τ ∧ r = none)) (hk : kA b a = 16) (k901 : kA b r901 = 16) (hM : M + 0 ≤ 1000000000)  : ∀ (fuel : Nat) (i1 : Int32) (τ : Mem), HK V (b, M, Z, T) [0, 1, 3, 7, 12, 15, 19] σ τ → True → (x903.toInt - i1.toInt).toNat < fuel → Wm V X 9 N τ 0 0 3 [(8, .int i1), (0, .ref a), (1, .ref r901), (2, .int x902), (3, .int x903), (4, .long x904), (6, .long x905)] [] := by
  intro fuel
  induction fuel with
  | zero => intro i1 τ h1 hi hm; exact absurd hm (Nat.not_lt_zero _)
  | succ fuel ih =>
    intro i1 τ h1 hi hm
    refine m_iload F rfl e_X8_shareDownOf_3 ?_
    refine m_iload_n F rfl e_X8_shareDownOf_5 ?_
    refine m_icmp_ge F e_X8_shareDownOf_6 (fun q6 => ?_) (fun q6 => ?_)
    · exact m_vret F hQ e_X8_shareDownOf_46 (⟨h1, rfl⟩)
    · refine m_aload_n F rfl e_X8_shareDownOf_9 ?_
      refine m_iload F rfl e_X8_shareDownOf_10 ?_
      refine m_aload_n F rfl e_X8_shareDownOf_12 ?_
      refine t_get F e_X8_shareDownOf_13 fl_X8_21 (fun _ => o16) h1 hk rfl (fun v hv f640 => ?_)
      obtain ⟨r641, k642, rfl⟩ := hv
      refine t_callV F e_X8_shareDownOf_16 (s_X8_copyTo (x_l X) V b M Z T _ _ r901 i1 r641 h1.1 k901 k642 (by omega)) cb_X8_copyTo ml_X8_63 im_X8_copyTo se_X8_copyTo (fun _ => o16) h1 k901 rfl rfl (rest := []) rfl (Nat.le_of_ble_eq_true rfl) ⟨Nat.le_of_ble_eq_true rfl, Nat.le_of_ble_eq_true rfl⟩ ⟨Nat.le_of_ble_eq_true rfl, Nat.le_of_ble_eq_true rfl⟩ (fun r σ643 hp => ?_)
      obtain ⟨h645, rfl⟩ := hp
      have h644 := HK.trans h1 h645 (by decide)
      refine m_aload_n F rfl e_X8_shareDownOf_19 ?_
      refine t_get F e_X8_shareDownOf_20 fl_X8_21 (fun _ => o16) h644 hk rfl (fun v hv f646 => ?_)
      obtain ⟨r647, k648, rfl⟩ := hv
      refine m_lload F rfl e_X8_shareDownOf_23 ?_
      refine m_lload F rfl e_X8_shareDownOf_25 ?_
      refine t_callV F e_X8_shareDownOf_27 (s_X1_shareDown (x_l X) V b M Z T _ _ r647 x904 x905 h644.1 k648  (by omega)) cb_X1_shareDown ml_X8_76 im_X1_shareDown se_X1_shareDown (fun _ => o6) h644 k648 rfl rfl (rest := []) rfl (Nat.le_of_ble_eq_true rfl) ⟨Nat.le_of_ble_eq_true rfl, Nat.le_of_ble_eq_true rfl⟩ ⟨Nat.le_of_ble_eq_true rfl, Nat.le_of_ble_eq_true rfl⟩ (fun r σ649 hp => ?_)
      obtain ⟨h651, rfl⟩ := hp
      have h650 := HK.trans h644 h651 (by decide)
      refine m_aload_n F rfl e_X8_shareDownOf_30 ?_
      refine m_iload F rfl e_X8_shareDownOf_31 ?_
      refine m_aload_n F rfl e_X8_shareDownOf_33 ?_
      refine t_get F e_X8_shareDownOf_34 fl_X8_21 (fun _ => o16) h650 hk rfl (fun v hv f652 => ?_)
      obtain ⟨r653, k654, rfl⟩ := hv
      refine t_callV F e_X8_shareDownOf_37 (s_X8_put (x_l X) V b M Z T _ _ a i1 r653 h650.1 hk k654 (by omega)) cb_X8_put ml_X8_59 im_X8_put se_X8_put (fun _ => o16) h650 hk rfl rfl (rest := []) rfl (Nat.le_of_ble_eq_true rfl) ⟨Nat.le_of_ble_eq_true rfl, Nat.le_of_ble_eq_true rfl⟩ ⟨Nat.le_of_ble_eq_true rfl, Nat.le_of_ble_eq_true rfl⟩ (fun r σ655 hp => ?_)
      obtain ⟨h657, rfl⟩ := hp
      have h656 := HK.trans h650 h657 (by decide)
      refine m_iinc F (v := (i1 + 1)) (lv' := [(8, .int (i1 + 1)), (0, .ref a), (1, .ref r901), (2, .int x902), (3, .int x903), (4, .long x904), (6, .long x905)]) e_X8_shareDownOf_40 rfl rfl (by decide) rfl ?_
      refine m_goto F e_X8_shareDownOf_43 ?_
      exact ih (i1 + 1) _ h656 trivial (by have h9 := inc_lt (Int32.not_le.mp q6); have h8 := Int32.lt_iff_toInt_lt.mp (Int32.not_le.mp q6); omega)
set_option maxRecDepth 20000 in
theorem s_X8_shareDownOf (l : Launch) (V : VX) (b M Z T N : Nat) (σ : Mem) (a : Nat) (r901 : Nat) (x902 : Int32) (x903 : Int32) (x904 : Int64) (x905 : Int64) (h0 : HT V (b, M, Z, T) σ) (hk : kA b a = 16) (k901 : kA b r901 = 16) (hM : M + 0 ≤ 1000000000) : Ct l V yX8_shareDownOf cX8_shareDownOf 9 none 2 0 0 N σ [.ref a, .ref r901, .int x902, .int x903, .long x904, .long x905] (fun r τ => HK V (b, M, Z, T) [0, 1, 3, 7, 12, 15, 19] σ τ ∧ r = none) := by
  refine Ct.of (by decide) (Nat.le_of_ble_eq_true rfl) [(0, .ref a), (1, .ref r901), (2, .int x902), (3, .int x903), (4, .long x904), (6, .long x905)] rfl (fun X hX F hQ => ?_)
  have h1 : HK V (b, M, Z, T) [0, 1, 3, 7, 12, 15, 19] σ σ := HK.start h0
  refine m_iload_n F rfl e_X8_shareDownOf_0 ?_
  refine m_istore F (lv' := [(8, .int x902), (0, .ref a), (1, .ref r901), (2, .int x902), (3, .int x903), (4, .long x904), (6, .long x905)]) e_X8_shareDownOf_1 (by decide) rfl ?_
  exact lp_X8_shareDownOf_3 F hQ hk k901 hM ((x903.toInt - x902.toInt).toNat + 1) x902 _ h1 trivial (Nat.lt_succ_self _)
set_option maxRecDepth 20000 in
theorem s_X6_copyFrom (l : Launch) (V : VX) (b M Z T N : Nat) (σ : Mem) (a : Nat) (r901 : Nat) (h0 : HT V (b, M, Z, T) σ) (hk : kA b a = 19) (k901 : kA b r901 = 19) (hM : M + 0 ≤ 1000000000) : Ct l V yX6_copyFrom cX6_copyFrom 2 none 0 0 0 N σ [.ref a, .ref r901] (fun r τ => HK V (b, M, Z, T) [0, 1, 3, 7, 12, 15] σ τ ∧ r = none) := by
  refine Ct.of (by decide) (Nat.le_of_ble_eq_true rfl) [(0, .ref a), (1, .ref r901)] rfl (fun X hX F hQ => ?_)
  have h1 : HK V (b, M, Z, T) [0, 1, 3, 7, 12, 15] σ σ := HK.start h0
  refine m_aload_n F rfl e_X6_copyFrom_0 ?_
  refine m_aload_n F rfl e_X6_copyFrom_1 ?_
  refine t_get F e_X6_copyFrom_2 fl_X6_7 (fun _ => o19) h1 k901 rfl (fun v hv f658 => ?_)
  obtain ⟨n659, hn659, rfl⟩ := hv
  replace hn659 : n659 ≤ 3 := hn659
  refine t_put F e_X6_copyFrom_5 fp_X6_7 (fun _ => o19) h1 hk rfl ⟨n659, (show n659 ≤ 3 by omega), rfl⟩ rfl rfl (by decide) (fun σ660 h661 g662 g663 f664 => ?_)
  refine m_aload_n F rfl e_X6_copyFrom_8 ?_
  refine m_aload_n F rfl e_X6_copyFrom_9 ?_
  refine t_get F e_X6_copyFrom_10 fl_X6_13 (fun _ => o19) h661 k901 rfl (fun v hv f665 => ?_)
  obtain ⟨n666, hn666, rfl⟩ := hv
  replace hn666 : n666 ≤ 24 := hn666
  refine t_put F e_X6_copyFrom_13 fp_X6_13 (fun _ => o19) h661 hk rfl ⟨n666, (show n666 ≤ 24 by omega), rfl⟩ rfl rfl (by decide) (fun σ667 h668 g669 g670 f671 => ?_)
  refine m_aload_n F rfl e_X6_copyFrom_16 ?_
  refine m_aload_n F rfl e_X6_copyFrom_17 ?_
  refine t_get F e_X6_copyFrom_18 fl_X6_16 (fun _ => o19) h668 k901 rfl (fun v hv f672 => ?_)
  obtain ⟨x673, rfl⟩ := hv
  refine t_put F e_X6_copyFrom_21 fp_X6_16 (fun _ => o19) h668 hk rfl ⟨_, rfl⟩ rfl rfl (by decide) (fun σ674 h675 g676 g677 f678 => ?_)
  refine m_aload_n F rfl e_X6_copyFrom_24 ?_
  refine m_aload_n F rfl e_X6_copyFrom_25 ?_
  refine t_get F e_X6_copyFrom_26 fl_X6_19 (fun _ => o19) h675 k901 rfl (fun v hv f679 => ?_)
  obtain ⟨n680, hn680, rfl⟩ := hv
  replace hn680 : n680 ≤ 1 := hn680
  refine t_put F e_X6_copyFrom_29 fp_X6_19 (fun _ => o19) h675 hk rfl ⟨n680, (show n680 ≤ 1 by omega), rfl⟩ (nz1 (by omega)) (fz1 (by omega)) (by decide) (fun σ681 h682 g683 g684 f685 => ?_)
  exact m_vret F hQ e_X6_copyFrom_32 (⟨h682, rfl⟩)
set_option maxRecDepth 20000 in
theorem s_X3_clear (l : Launch) (V : VX) (b M Z T N : Nat) (σ : Mem) (a : Nat) (h0 : HT V (b, M, Z, T) σ) (hk : kA b a = 12) (hM : M + 0 ≤ 1000000000) : Ct l V yX3_clear cX3_clear 1 none 1 0 0 N σ [.ref a] (fun r τ => HK V (b, M, Z, T) [0, 1, 3, 7, 15, 19] σ τ ∧ r = none) := by
  refine Ct.of (by decide) (Nat.le_of_ble_eq_true rfl) [(0, .ref a)] rfl (fun X hX F hQ => ?_)
  have h1 : HK V (b, M, Z, T) [0, 1, 3, 7, 15, 19] σ σ := HK.start h0
  refine m_aload_n F rfl e_X3_clear_0 ?_
  refine m_iconst F (v := 0) (by decide) e_X3_clear_1 ?_
  refine t_put F e_X3_clear_2 fp_X3_18 (fun _ => o12) h1 hk rfl ⟨0, (show 0 ≤ M by omega), rfl⟩ rfl rfl (by decide) (fun σ686 h687 g688 g689 f690 => ?_)
  refine m_aload_n F rfl e_X3_clear_5 ?_
  refine t_get F e_X3_clear_6 fl_X3_15 (fun _ => o12) h687 hk rfl (fun v hv f691 => ?_)
  obtain ⟨r692, k693, rfl⟩ := hv
  refine m_lconst F (v := 0) (by decide) e_X3_clear_9 ?_
  refine m_callS F e_X3_clear_10 (s_J7_fill_d0a16_14 (x_l X) V b M Z T _ _ r692 0 h687.1 k693 (by omega)) cb_J7_fill_d0a16 ml_X3_22 sm_J7_fill_d0a16 rfl (rest := []) rfl (Nat.le_of_ble_eq_true rfl) ⟨Nat.le_of_ble_eq_true rfl, Nat.le_of_ble_eq_true rfl⟩ ⟨Nat.le_of_ble_eq_true rfl, Nat.le_of_ble_eq_true rfl⟩ (k' := 0) (z' := 0) (N' := N) rfl rfl rfl (fun r σ694 hp => ?_)
  obtain ⟨h696, rfl⟩ := hp
  have h695 := HK.trans h687 h696 (by decide)
  exact m_vret F hQ e_X3_clear_13 (⟨h695, rfl⟩)
set_option maxRecDepth 20000 in
theorem s_X3_copyFrom (l : Launch) (V : VX) (b M Z T N : Nat) (σ : Mem) (a : Nat) (r901 : Nat) (h0 : HT V (b, M, Z, T) σ) (hk : kA b a = 12) (k901 : kA b r901 = 12) (hM : M + 0 ≤ 1000000000) : Ct l V yX3_copyFrom cX3_copyFrom 2 none 1 0 0 N σ [.ref a, .ref r901] (fun r τ => HK V (b, M, Z, T) [0, 1, 3, 7, 15, 19] σ τ ∧ r = none) := by
  refine Ct.of (by decide) (Nat.le_of_ble_eq_true rfl) [(0, .ref a), (1, .ref r901)] rfl (fun X hX F hQ => ?_)
  have h1 : HK V (b, M, Z, T) [0, 1, 3, 7, 15, 19] σ σ := HK.start h0
  refine m_aload_n F rfl e_X3_copyFrom_0 ?_
  refine m_aload_n F rfl e_X3_copyFrom_1 ?_
  refine t_get F e_X3_copyFrom_2 fl_X3_18 (fun _ => o12) h1 k901 rfl (fun v hv f697 => ?_)
  obtain ⟨n698, hn698, rfl⟩ := hv
  replace hn698 : n698 ≤ M := hn698
  refine t_put F e_X3_copyFrom_5 fp_X3_18 (fun _ => o12) h1 hk rfl ⟨n698, (show n698 ≤ M by omega), rfl⟩ rfl rfl (by decide) (fun σ699 h700 g701 g702 f703 => ?_)
  refine m_aload_n F rfl e_X3_copyFrom_8 ?_
  refine t_get F e_X3_copyFrom_9 fl_X3_11 (fun _ => o12) h700 k901 rfl (fun v hv f704 => ?_)
  obtain ⟨r705, k706, rfl⟩ := hv
  refine m_iconst F (v := 0) (by decide) e_X3_copyFrom_12 ?_
  refine m_aload_n F rfl e_X3_copyFrom_13 ?_
  refine t_get F e_X3_copyFrom_14 fl_X3_11 (fun _ => o12) h700 hk rfl (fun v hv f707 => ?_)
  obtain ⟨r708, k709, rfl⟩ := hv
  refine m_iconst F (v := 0) (by decide) e_X3_copyFrom_17 ?_
  refine m_sipush F (v := 360) (by decide) e_X3_copyFrom_18 ?_
  refine t_copyJ F (len := 360) e_X3_copyFrom_21 ac_X3_28 (fun _ => o13) (fun _ => o13) h700 k706 k709 (by decide) (by decide) (by decide) (by decide) (Nat.le_of_ble_eq_true rfl) (Nat.le_of_ble_eq_true rfl) (by decide) (fun σ710 h711 g712 => ?_)
  refine m_aload_n F rfl e_X3_copyFrom_24 ?_
  refine t_get F e_X3_copyFrom_25 fl_X3_15 (fun _ => o12) h711 k901 rfl (fun v hv f713 => ?_)
  obtain ⟨r714, k715, rfl⟩ := hv
  refine m_iconst F (v := 0) (by decide) e_X3_copyFrom_28 ?_
  refine m_aload_n F rfl e_X3_copyFrom_29 ?_
  refine t_get F e_X3_copyFrom_30 fl_X3_15 (fun _ => o12) h711 hk rfl (fun v hv f716 => ?_)
  obtain ⟨r717, k718, rfl⟩ := hv
  refine m_iconst F (v := 0) (by decide) e_X3_copyFrom_33 ?_
  refine m_bipush F (v := 6) (by decide) e_X3_copyFrom_34 ?_
  refine t_copyJ F (len := 6) e_X3_copyFrom_36 ac_X3_28 (fun _ => o14) (fun _ => o14) h711 k715 k718 (by decide) (by decide) (by decide) (by decide) (Nat.le_of_ble_eq_true rfl) (Nat.le_of_ble_eq_true rfl) (by decide) (fun σ719 h720 g721 => ?_)
  exact m_vret F hQ e_X3_copyFrom_39 (⟨h720, rfl⟩)
set_option maxRecDepth 20000 in
theorem s_X3_kept (l : Launch) (V : VX) (b M Z T N : Nat) (σ : Mem) (a : Nat) (t : Nat) (h0 : HT V (b, M, Z, T) σ) (hk : kA b a = 12) (hft : fld σ a 2 = some (.int (nI t))) (ht : t ≤ M) (hM : M + 0 ≤ 1000000000) : Ct l V yX3_kept cX3_kept 1 (some .int) 1 0 0 N σ [.ref a] (fun r τ => HK V (b, M, Z, T) [0, 1, 3, 7, 12, 15, 19] σ τ ∧ ∃ n : Nat, n ≤ 40 ∧ n ≤ t ∧ r = some (.int (nI n))) := by
  refine Ct.of (by decide) (Nat.le_of_ble_eq_true rfl) [(0, .ref a)] rfl (fun X hX F hQ => ?_)
  have h1 : HK V (b, M, Z, T) [0, 1, 3, 7, 12, 15, 19] σ σ := HK.start h0
  refine m_aload_n F rfl e_X3_kept_0 ?_
  refine t_getC F e_X3_kept_1 fl_X3_18 (fun _ => o12) h1 hk (hft) ?_
  refine m_bipush F (v := 40) (by decide) e_X3_kept_4 ?_
  refine m_min F e_X3_kept_6 ml_X3_34 sm_min ini_math co_min (Nat.le_of_ble_eq_true rfl) (Nat.le_of_ble_eq_true rfl) (Nat.le_of_ble_eq_true rfl) (Nat.le_of_ble_eq_true rfl) ?_
  refine Wm.topE (w := nI (min t 40)) (minN (a := t) (b := 40) (by omega) (by omega)) ?_
  exact m_iret F hQ e_X3_kept_9 (⟨h1, min t 40, by omega, by omega, rfl⟩)
set_option maxRecDepth 20000 in
theorem s_X3_open (l : Launch) (V : VX) (b M Z T N : Nat) (σ : Mem) (a : Nat) (x901 : Int32) (x902 : Int32) (x903 : Int32) (h0 : HT V (b, M, Z, T) σ) (hk : kA b a = 12) (hM : M + 1 ≤ 1000000000) : Ct l V yX3_open cX3_open 5 none 3 0 0 N σ [.ref a, .int x901, .int x902, .int x903] (fun r τ => HK V (b, M + 1, Z, T) [0, 1, 3, 7, 15, 19] σ τ ∧ r = none) := by
  refine Ct.of (by decide) (Nat.le_of_ble_eq_true rfl) [(0, .ref a), (1, .int x901), (2, .int x902), (3, .int x903)] rfl (fun X hX F hQ => ?_)
  have h1 : HK V (b, M, Z, T) [0, 1, 3, 7, 15, 19] σ σ := HK.start h0
  refine m_aload_n F rfl e_X3_open_0 ?_
  refine t_get F e_X3_open_1 fl_X3_18 (fun _ => o12) h1 hk rfl (fun v hv f722 => ?_)
  obtain ⟨n723, hn723, rfl⟩ := hv
  replace hn723 : n723 ≤ M := hn723
  refine m_bipush F (v := 40) (by decide) e_X3_open_4 ?_
  refine m_irem F (by decide) e_X3_open_6 ?_
  refine Wm.topE (w := nI (n723 % 40)) (pk_rem (a := n723) (d := 40) (by omega) (by decide) (by decide)) ?_
  refine m_bipush F (v := 9) (by decide) e_X3_open_7 ?_
  refine m_imul F e_X3_open_9 ?_
  refine Wm.topE (w := nI ((n723 % 40) * 9)) (pk_mul (n723 % 40) 9) ?_
  refine m_istore F (lv' := [(4, .int (nI ((n723 % 40) * 9))), (0, .ref a), (1, .int x901), (2, .int x902), (3, .int x903)]) e_X3_open_10 (by decide) rfl ?_
  refine m_aload_n F rfl e_X3_open_12 ?_
  refine m_dup F rfl e_X3_open_13 ?_
  refine t_getC F e_X3_open_14 fl_X3_18 (fun _ => o12) h1 hk (f722) ?_
  refine m_iconst F (v := 1) (by decide) e_X3_open_17 ?_
  refine m_iadd F e_X3_open_18 ?_
  refine Wm.topE (w := nI (n723 + 1)) (nI_add n723 1) ?_
  have h729 := h1.mono (M' := M + 1) (Z' := Z) (by omega) id
  refine t_put F e_X3_open_19 fp_X3_18 (fun _ => o12) h729 hk rfl ⟨n723 + 1, (show n723 + 1 ≤ M + 1 by omega), rfl⟩ rfl rfl (by decide) (fun σ724 h725 g726 g727 f728 => ?_)
  refine m_aload_n F rfl e_X3_open_22 ?_
  refine t_get F e_X3_open_23 fl_X3_11 (fun _ => o12) h725 hk rfl (fun v hv f730 => ?_)
  obtain ⟨r731, k732, rfl⟩ := hv
  refine m_iload F rfl e_X3_open_26 ?_
  refine m_iload_n F rfl e_X3_open_28 ?_
  refine m_i2l F e_X3_open_29 ?_
  refine Wm.topl (fun x733 _ => ?_)
  refine t_last F (len := 360) (j := (n723 % 40) * 9) e_X3_open_30 (fun _ => o13) h725 k732 (nI_clamp (by omega)) (vp_in_nI (by omega) (by decide)) (by decide) (fun σ734 h735 g736 => ?_)
  refine m_aload_n F rfl e_X3_open_31 ?_
  refine t_getC F e_X3_open_32 fl_X3_11 (fun _ => o12) h735 hk ((g736 a 0 (fun e => absurd ((hk).symm.trans e) (by decide))).trans f730) ?_
  refine m_iload F rfl e_X3_open_35 ?_
  refine m_iconst F (v := 1) (by decide) e_X3_open_37 ?_
  refine m_iadd F e_X3_open_38 ?_
  refine Wm.topE (w := nI ((n723 % 40) * 9 + 1)) (nI_add ((n723 % 40) * 9) 1) ?_
  refine m_iload_n F rfl e_X3_open_39 ?_
  refine m_i2l F e_X3_open_40 ?_
  refine Wm.topl (fun x737 _ => ?_)
  refine t_last F (len := 360) (j := (n723 % 40) * 9 + 1) e_X3_open_41 (fun _ => o13) h735 k732 (nI_clamp (by omega)) (vp_in_nI (by omega) (by decide)) (by decide) (fun σ738 h739 g740 => ?_)
  refine m_aload_n F rfl e_X3_open_42 ?_
  refine t_getC F e_X3_open_43 fl_X3_11 (fun _ => o12) h739 hk ((g740 a 0 (fun e => absurd ((hk).symm.trans e) (by decide))).trans ((g736 a 0 (fun e => absurd ((hk).symm.trans e) (by decide))).trans f730)) ?_
  refine m_iload F rfl e_X3_open_46 ?_
  refine m_iconst F (v := 2) (by decide) e_X3_open_48 ?_
  refine m_iadd F e_X3_open_49 ?_
  refine Wm.topE (w := nI ((n723 % 40) * 9 + 2)) (nI_add ((n723 % 40) * 9) 2) ?_
  refine m_iload_n F rfl e_X3_open_50 ?_
  refine m_i2l F e_X3_open_51 ?_
  refine Wm.topl (fun x741 _ => ?_)
  refine t_last F (len := 360) (j := (n723 % 40) * 9 + 2) e_X3_open_52 (fun _ => o13) h739 k732 (nI_clamp (by omega)) (vp_in_nI (by omega) (by decide)) (by decide) (fun σ742 h743 g744 => ?_)
  refine m_aload_n F rfl e_X3_open_53 ?_
  refine t_getC F e_X3_open_54 fl_X3_11 (fun _ => o12) h743 hk ((g744 a 0 (fun e => absurd ((hk).symm.trans e) (by decide))).trans ((g740 a 0 (fun e => absurd ((hk).symm.trans e) (by decide))).trans ((g736 a 0 (fun e => absurd ((hk).symm.trans e) (by decide))).trans f730))) ?_
  refine m_iload F rfl e_X3_open_57 ?_
  refine m_iconst F (v := 3) (by decide) e_X3_open_59 ?_
  refine m_iadd F e_X3_open_60 ?_
  refine Wm.topE (w := nI ((n723 % 40) * 9 + 3)) (nI_add ((n723 % 40) * 9) 3) ?_
  refine m_iload F rfl e_X3_open_61 ?_
  refine m_bipush F (v := 9) (by decide) e_X3_open_63 ?_
  refine m_iadd F e_X3_open_65 ?_
  refine Wm.topE (w := nI ((n723 % 40) * 9 + 9)) (nI_add ((n723 % 40) * 9) 9) ?_
  refine m_lconst F (v := 0) (by decide) e_X3_open_66 ?_
  refine m_callS F e_X3_open_67 (s_J7_fill_bad5a_13 (x_l X) V b (M + 1) Z T _ _ r731 ((n723 % 40) * 9 + 3) ((n723 % 40) * 9 + 9) 0 h743.1 k732 (by omega) (by omega) (by first | omega | assumption | decide) (by first | omega | assumption | decide) (by omega)) cb_J7_fill_bad5a ml_X3_40 sm_J7_fill_bad5a rfl (rest := []) rfl (Nat.le_of_ble_eq_true rfl) ⟨Nat.le_of_ble_eq_true rfl, Nat.le_of_ble_eq_true rfl⟩ ⟨Nat.le_of_ble_eq_true rfl, Nat.le_of_ble_eq_true rfl⟩ (k' := 0) (z' := 0) (N' := N) rfl rfl rfl (fun r σ745 hp => ?_)
  obtain ⟨h747, rfl⟩ := hp
  have h746 := HK.trans h743 h747 (by decide)
  exact m_vret F hQ e_X3_open_70 (⟨h746, rfl⟩)
set_option maxRecDepth 20000 in
theorem s_X3_put (l : Launch) (V : VX) (b M Z T N : Nat) (σ : Mem) (a : Nat) (x901 : Int32) (x902 : Int64) (h0 : HT V (b, M, Z, T) σ) (hk : kA b a = 12) (hM : M + 0 ≤ 1000000000) : Ct l V yX3_put cX3_put 4 none 0 0 0 N σ [.ref a, .int x901, .long x902] (fun r τ => HK V (b, M, Z, T) [0, 1, 3, 7, 12, 15, 19] σ τ ∧ r = none) := by
  refine Ct.of (by decide) (Nat.le_of_ble_eq_true rfl) [(0, .ref a), (1, .int x901), (2, .long x902)] rfl (fun X hX F hQ => ?_)
  have h1 : HK V (b, M, Z, T) [0, 1, 3, 7, 12, 15, 19] σ σ := HK.start h0
  refine m_aload_n F rfl e_X3_put_0 ?_
  refine t_get F e_X3_put_1 fl_X3_18 (fun _ => o12) h1 hk rfl (fun v hv f748 => ?_)
  obtain ⟨n749, hn749, rfl⟩ := hv
  replace hn749 : n749 ≤ M := hn749
  refine m_iconst F (v := 1) (by decide) e_X3_put_4 ?_
  refine m_icmp_lt F e_X3_put_5 (fun q5 => ?_) (fun q5 => ?_)
  · have c5 : n749 < 1 := (nI_ltI (a := n749) (b := 1) (by omega) (by omega)).mp q5
    exact m_vret F hQ e_X3_put_18 (⟨h1, rfl⟩)
  · have c5 : n749 ≥ 1 := by have hh := mt (nI_ltI (a := n749) (b := 1) (by omega) (by omega)).mpr q5; omega
    refine m_iload_n F rfl e_X3_put_8 ?_
    refine m_if_lt F e_X3_put_9 (fun q9 => ?_) (fun q9 => ?_)
    · exact m_vret F hQ e_X3_put_18 (⟨h1, rfl⟩)
    · obtain ⟨n750, hn750, rfl⟩ := nI_nn (x := x901) (fun e => q9 (Int32.lt_of_lt_of_le e (by decide)))
      have c9 : n750 ≥ 0 := by have hh := mt (nI_ltI (a := n750) (b := 0) (by omega) (by omega)).mpr q9; omega
      refine m_iload_n F rfl e_X3_put_12 ?_
      refine m_bipush F (v := 6) (by decide) e_X3_put_13 ?_
      refine m_icmp_lt F e_X3_put_15 (fun q15 => ?_) (fun q15 => ?_)
      · have c15 : n750 < 6 := (nI_ltI (a := n750) (b := 6) (by omega) (by omega)).mp q15
        refine m_aload_n F rfl e_X3_put_19 ?_
        refine t_get F e_X3_put_20 fl_X3_11 (fun _ => o12) h1 hk rfl (fun v hv f751 => ?_)
        obtain ⟨r752, k753, rfl⟩ := hv
        refine m_aload_n F rfl e_X3_put_23 ?_
        refine t_getC F e_X3_put_24 fl_X3_18 (fun _ => o12) h1 hk (f748) ?_
        refine m_iconst F (v := 1) (by decide) e_X3_put_27 ?_
        refine m_isub F e_X3_put_28 ?_
        refine Wm.topE (w := nI (n749 - 1)) (pk_sub (a := n749) (b := 1) (by omega)) ?_
        refine m_bipush F (v := 40) (by decide) e_X3_put_29 ?_
        refine m_irem F (by decide) e_X3_put_31 ?_
        refine Wm.topE (w := nI ((n749 - 1) % 40)) (pk_rem (a := n749 - 1) (d := 40) (by omega) (by decide) (by decide)) ?_
        refine m_bipush F (v := 9) (by decide) e_X3_put_32 ?_
        refine m_imul F e_X3_put_34 ?_
        refine Wm.topE (w := nI (((n749 - 1) % 40) * 9)) (pk_mul ((n749 - 1) % 40) 9) ?_
        refine m_iconst F (v := 3) (by decide) e_X3_put_35 ?_
        refine m_iadd F e_X3_put_36 ?_
        refine Wm.topE (w := nI (((n749 - 1) % 40) * 9 + 3)) (nI_add (((n749 - 1) % 40) * 9) 3) ?_
        refine m_iload_n F rfl e_X3_put_37 ?_
        refine m_iadd F e_X3_put_38 ?_
        refine Wm.topE (w := nI ((((n749 - 1) % 40) * 9 + 3) + n750)) (nI_add (((n749 - 1) % 40) * 9 + 3) n750) ?_
        refine m_dup2_11 F rfl rfl e_X3_put_39 ?_
        refine t_lald F (len := 360) (j := (((n749 - 1) % 40) * 9 + 3) + n750) e_X3_put_40 (fun _ => o13) h1 k753 (nI_clamp (by omega)) (vp_in_nI (by omega) (by decide)) (fun x754 => ?_)
        refine m_lload_n F rfl e_X3_put_41 ?_
        refine m_ladd F e_X3_put_42 ?_
        refine Wm.topl (fun x755 _ => ?_)
        refine t_last F (len := 360) (j := (((n749 - 1) % 40) * 9 + 3) + n750) e_X3_put_43 (fun _ => o13) h1 k753 (nI_clamp (by omega)) (vp_in_nI (by omega) (by decide)) (by decide) (fun σ756 h757 g758 => ?_)
        refine m_aload_n F rfl e_X3_put_44 ?_
        refine t_get F e_X3_put_45 fl_X3_15 (fun _ => o12) h757 hk rfl (fun v hv f759 => ?_)
        obtain ⟨r760, k761, rfl⟩ := hv
        refine m_iload_n F rfl e_X3_put_48 ?_
        refine m_dup2_11 F rfl rfl e_X3_put_49 ?_
        refine t_lald F (len := 6) (j := n750) e_X3_put_50 (fun _ => o14) h757 k761 (nI_clamp (by omega)) (vp_in_nI (by omega) (by decide)) (fun x762 => ?_)
        refine m_lload_n F rfl e_X3_put_51 ?_
        refine m_ladd F e_X3_put_52 ?_
        refine Wm.topl (fun x763 _ => ?_)
        refine t_last F (len := 6) (j := n750) e_X3_put_53 (fun _ => o14) h757 k761 (nI_clamp (by omega)) (vp_in_nI (by omega) (by decide)) (by decide) (fun σ764 h765 g766 => ?_)
        exact m_vret F hQ e_X3_put_54 (⟨h765, rfl⟩)
      · have c15 : n750 ≥ 6 := by have hh := mt (nI_ltI (a := n750) (b := 6) (by omega) (by omega)).mpr q15; omega
        exact m_vret F hQ e_X3_put_18 (⟨h1, rfl⟩)
set_option maxRecDepth 20000 in
theorem s_X3_told (l : Launch) (V : VX) (b M Z T N : Nat) (σ : Mem) (a : Nat) (x901 : Int32) (x902 : Int32) (h0 : HT V (b, M, Z, T) σ) (hk : kA b a = 12) (hM : M + 0 ≤ 1000000000) : Ct l V yX3_told cX3_told 3 (some .long) 2 0 0 N σ [.ref a, .int x901, .int x902] (fun r τ => HK V (b, M, Z, T) [0, 1, 3, 7, 12, 15, 19] σ τ ∧ ∃ x : Int64, r = some (.long x)) := by
  refine Ct.of (by decide) (Nat.le_of_ble_eq_true rfl) [(0, .ref a), (1, .int x901), (2, .int x902)] rfl (fun X hX F hQ => ?_)
  have h1 : HK V (b, M, Z, T) [0, 1, 3, 7, 12, 15, 19] σ σ := HK.start h0
  refine m_iload_n F rfl e_X3_told_0 ?_
  refine m_if_lt F e_X3_told_1 (fun q1 => ?_) (fun q1 => ?_)
  · refine m_lconst F (v := 0) (by decide) e_X3_told_22 ?_
    exact m_lret F hQ e_X3_told_23 (⟨h1, _, rfl⟩)
  · obtain ⟨n767, hn767, rfl⟩ := nI_nn (x := x901) (fun e => q1 (Int32.lt_of_lt_of_le e (by decide)))
    have c1 : n767 ≥ 0 := by have hh := mt (nI_ltI (a := n767) (b := 0) (by omega) (by omega)).mpr q1; omega
    refine m_iload_n F rfl e_X3_told_4 ?_
    refine m_aload_n F rfl e_X3_told_5 ?_
    obtain ⟨v9, ⟨n768, hn768, rfl⟩, f769⟩ := HK.f (j := 2) h1 (fun _ => o12) hk rfl
    replace hn768 : n768 ≤ M := hn768
    refine t_callV F e_X3_told_6 (s_X3_kept (x_l X) V b M Z T _ _ a n768 h1.1 hk (f769) (by omega) (by omega)) cb_X3_kept ml_X3_43 im_X3_kept se_X3_kept (fun _ => o12) h1 hk rfl rfl (rest := [.int (nI n767)]) rfl (Nat.le_of_ble_eq_true rfl) ⟨Nat.le_of_ble_eq_true rfl, Nat.le_of_ble_eq_true rfl⟩ ⟨Nat.le_of_ble_eq_true rfl, Nat.le_of_ble_eq_true rfl⟩ (fun r σ770 hp => ?_)
    obtain ⟨h772, n773, hn773, gn773, rfl⟩ := hp
    have h771 := HK.trans h1 h772 (by decide)
    refine m_icmp_ge F e_X3_told_9 (fun q9 => ?_) (fun q9 => ?_)
    · have c9 : n767 ≥ n773 := (nI_leI (a := n773) (b := n767) (by omega) (by omega)).mp q9
      refine m_lconst F (v := 0) (by decide) e_X3_told_22 ?_
      exact m_lret F hQ e_X3_told_23 (⟨h771, _, rfl⟩)
    · have c9 : n767 < n773 := by have hh := mt (nI_leI (a := n773) (b := n767) (by omega) (by omega)).mpr q9; omega
      refine m_iload_n F rfl e_X3_told_12 ?_
      refine m_if_lt F e_X3_told_13 (fun q13 => ?_) (fun q13 => ?_)
      · refine m_lconst F (v := 0) (by decide) e_X3_told_22 ?_
        exact m_lret F hQ e_X3_told_23 (⟨h771, _, rfl⟩)
      · obtain ⟨n774, hn774, rfl⟩ := nI_nn (x := x902) (fun e => q13 (Int32.lt_of_lt_of_le e (by decide)))
        have c13 : n774 ≥ 0 := by have hh := mt (nI_ltI (a := n774) (b := 0) (by omega) (by omega)).mpr q13; omega
        refine m_iload_n F rfl e_X3_told_16 ?_
        refine m_bipush F (v := 9) (by decide) e_X3_told_17 ?_
        refine m_icmp_lt F e_X3_told_19 (fun q19 => ?_) (fun q19 => ?_)
        · have c19 : n774 < 9 := (nI_ltI (a := n774) (b := 9) (by omega) (by omega)).mp q19
          refine m_aload_n F rfl e_X3_told_24 ?_
          refine t_get F e_X3_told_25 fl_X3_11 (fun _ => o12) h771 hk rfl (fun v hv f775 => ?_)
          obtain ⟨r776, k777, rfl⟩ := hv
          refine m_aload_n F rfl e_X3_told_28 ?_
          refine t_getC F e_X3_told_29 fl_X3_18 (fun _ => o12) h771 hk ((fld_eq (h772.2 a (by rw [show kA _ a = 12 from hk]; decide))).trans f769) ?_
          refine m_iconst F (v := 1) (by decide) e_X3_told_32 ?_
          refine m_isub F e_X3_told_33 ?_
          refine Wm.topE (w := nI (n768 - 1)) (pk_sub (a := n768) (b := 1) (by omega)) ?_
          refine m_iload_n F rfl e_X3_told_34 ?_
          refine m_isub F e_X3_told_35 ?_
          refine Wm.topE (w := nI ((n768 - 1) - n767)) (pk_sub (a := n768 - 1) (b := n767) (by omega)) ?_
          refine m_bipush F (v := 40) (by decide) e_X3_told_36 ?_
          refine m_irem F (by decide) e_X3_told_38 ?_
          refine Wm.topE (w := nI (((n768 - 1) - n767) % 40)) (pk_rem (a := (n768 - 1) - n767) (d := 40) (by omega) (by decide) (by decide)) ?_
          refine m_bipush F (v := 9) (by decide) e_X3_told_39 ?_
          refine m_imul F e_X3_told_41 ?_
          refine Wm.topE (w := nI ((((n768 - 1) - n767) % 40) * 9)) (pk_mul (((n768 - 1) - n767) % 40) 9) ?_
          refine m_iload_n F rfl e_X3_told_42 ?_
          refine m_iadd F e_X3_told_43 ?_
          refine Wm.topE (w := nI (((((n768 - 1) - n767) % 40) * 9) + n774)) (nI_add ((((n768 - 1) - n767) % 40) * 9) n774) ?_
          refine t_lald F (len := 360) (j := ((((n768 - 1) - n767) % 40) * 9) + n774) e_X3_told_44 (fun _ => o13) h771 k777 (nI_clamp (by omega)) (vp_in_nI (by omega) (by decide)) (fun x778 => ?_)
          exact m_lret F hQ e_X3_told_45 (⟨h771, _, rfl⟩)
        · have c19 : n774 ≥ 9 := by have hh := mt (nI_ltI (a := n774) (b := 9) (by omega) (by omega)).mpr q19; omega
          refine m_lconst F (v := 0) (by decide) e_X3_told_22 ?_
          exact m_lret F hQ e_X3_told_23 (⟨h771, _, rfl⟩)
set_option maxRecDepth 20000 in
theorem s_X5_tell (l : Launch) (V : VX) (b M Z T N : Nat) (σ : Mem) (a : Nat) (x901 : Int32) (x902 : Int32) (x903 : Int32) (x904 : Int32) (h0 : HT V (b, M, Z, T) σ) (hk : kA b a = 15) (hM : M + 0 ≤ 1000000000) : Ct l V yX5_tell cX5_tell 5 none 4 0 0 N σ [.ref a, .int x901, .int x902, .int x903, .int x904] (fun r τ => HK V (b, M, Z, T) [0, 1, 3, 7, 12, 19] σ τ ∧ r = none) := by
  refine Ct.of (by decide) (Nat.le_of_ble_eq_true rfl) [(0, .ref a), (1, .int x901), (2, .int x902), (3, .int x903), (4, .int x904)] rfl (fun X hX F hQ => ?_)
  have h1 : HK V (b, M, Z, T) [0, 1, 3, 7, 12, 19] σ σ := HK.start h0
  refine m_aload_n F rfl e_X5_tell_0 ?_
  refine m_iload_n F rfl e_X5_tell_1 ?_
  refine t_put F e_X5_tell_2 fp_X5_35 (fun _ => o15) h1 hk rfl ⟨_, rfl⟩ rfl rfl (by decide) (fun σ779 h780 g781 g782 f783 => ?_)
  refine m_aload_n F rfl e_X5_tell_5 ?_
  refine m_iload_n F rfl e_X5_tell_6 ?_
  refine t_put F e_X5_tell_7 fp_X5_39 (fun _ => o15) h780 hk rfl ⟨_, rfl⟩ rfl rfl (by decide) (fun σ784 h785 g786 g787 f788 => ?_)
  refine m_aload_n F rfl e_X5_tell_10 ?_
  refine m_iload_n F rfl e_X5_tell_11 ?_
  refine t_put F e_X5_tell_12 fp_X5_42 (fun _ => o15) h785 hk rfl ⟨_, rfl⟩ rfl rfl (by decide) (fun σ789 h790 g791 g792 f793 => ?_)
  refine m_aload_n F rfl e_X5_tell_15 ?_
  refine m_iload F rfl e_X5_tell_16 ?_
  refine t_put F e_X5_tell_18 fp_X5_45 (fun _ => o15) h790 hk rfl ⟨_, rfl⟩ rfl rfl (by decide) (fun σ794 h795 g796 g797 f798 => ?_)
  refine m_aload_n F rfl e_X5_tell_21 ?_
  refine m_iconst F (v := 0) (by decide) e_X5_tell_22 ?_
  refine t_put F e_X5_tell_23 fp_X5_48 (fun _ => o15) h795 hk rfl ⟨_, rfl⟩ rfl rfl (by decide) (fun σ799 h800 g801 g802 f803 => ?_)
  refine m_aload_n F rfl e_X5_tell_26 ?_
  refine m_iconst F (v := 0) (by decide) e_X5_tell_27 ?_
  refine t_put F e_X5_tell_28 fp_X5_51 (fun _ => o15) h800 hk rfl ⟨_, rfl⟩ rfl rfl (by decide) (fun σ804 h805 g806 g807 f808 => ?_)
  refine m_aload_n F rfl e_X5_tell_31 ?_
  refine m_iconst F (v := 0) (by decide) e_X5_tell_32 ?_
  refine t_put F e_X5_tell_33 fp_X5_54 (fun _ => o15) h805 hk rfl ⟨_, rfl⟩ rfl rfl (by decide) (fun σ809 h810 g811 g812 f813 => ?_)
  refine m_aload_n F rfl e_X5_tell_36 ?_
  refine m_iconst F (v := 0) (by decide) e_X5_tell_37 ?_
  refine t_put F e_X5_tell_38 fp_X5_57 (fun _ => o15) h810 hk rfl ⟨_, rfl⟩ rfl rfl (by decide) (fun σ814 h815 g816 g817 f818 => ?_)
  refine m_aload_n F rfl e_X5_tell_41 ?_
  refine m_iconst F (v := 0) (by decide) e_X5_tell_42 ?_
  refine t_put F e_X5_tell_43 fp_X5_60 (fun _ => o15) h815 hk rfl ⟨_, rfl⟩ rfl rfl (by decide) (fun σ819 h820 g821 g822 f823 => ?_)
  refine m_aload_n F rfl e_X5_tell_46 ?_
  refine m_iconst F (v := 0) (by decide) e_X5_tell_47 ?_
  refine t_put F e_X5_tell_48 fp_X5_63 (fun _ => o15) h820 hk rfl ⟨_, rfl⟩ rfl rfl (by decide) (fun σ824 h825 g826 g827 f828 => ?_)
  refine m_aload_n F rfl e_X5_tell_51 ?_
  refine m_iconst F (v := 0) (by decide) e_X5_tell_52 ?_
  refine t_put F e_X5_tell_53 fp_X5_66 (fun _ => o15) h825 hk rfl ⟨0, (show 0 ≤ 1 by omega), rfl⟩ (by decide) rfl (by decide) (fun σ829 h830 g831 g832 f833 => ?_)
  refine m_aload_n F rfl e_X5_tell_56 ?_
  refine m_iconst F (v := 0) (by decide) e_X5_tell_57 ?_
  refine t_put F e_X5_tell_58 fp_X5_70 (fun _ => o15) h830 hk rfl ⟨0, (show 0 ≤ 1 by omega), rfl⟩ (by decide) rfl (by decide) (fun σ834 h835 g836 g837 f838 => ?_)
  refine m_aload_n F rfl e_X5_tell_61 ?_
  refine m_iconst F (v := 0) (by decide) e_X5_tell_62 ?_
  refine t_put F e_X5_tell_63 fp_X5_73 (fun _ => o15) h835 hk rfl ⟨0, (show 0 ≤ 1 by omega), rfl⟩ (by decide) rfl (by decide) (fun σ839 h840 g841 g842 f843 => ?_)
  refine m_aload_n F rfl e_X5_tell_66 ?_
  refine t_get F e_X5_tell_67 fl_X5_12 (fun _ => o15) h840 hk rfl (fun v hv f844 => ?_)
  obtain ⟨r845, k846, rfl⟩ := hv
  refine m_lconst F (v := 0) (by decide) e_X5_tell_70 ?_
  refine t_callV F e_X5_tell_71 (s_X1_set (x_l X) V b M Z T _ _ r845 0 h840.1 k846  (by omega)) cb_X1_set ml_X5_76 im_X1_set se_X1_set (fun _ => o6) h840 k846 rfl rfl (rest := []) rfl (Nat.le_of_ble_eq_true rfl) ⟨Nat.le_of_ble_eq_true rfl, Nat.le_of_ble_eq_true rfl⟩ ⟨Nat.le_of_ble_eq_true rfl, Nat.le_of_ble_eq_true rfl⟩ (fun r σ847 hp => ?_)
  obtain ⟨h849, rfl⟩ := hp
  have h848 := HK.trans h840 h849 (by decide)
  refine m_aload_n F rfl e_X5_tell_74 ?_
  refine t_get F e_X5_tell_75 fl_X5_18 (fun _ => o15) h848 hk rfl (fun v hv f850 => ?_)
  obtain ⟨r851, k852, rfl⟩ := hv
  refine m_lconst F (v := 0) (by decide) e_X5_tell_78 ?_
  refine t_callV F e_X5_tell_79 (s_X1_set (x_l X) V b M Z T _ _ r851 0 h848.1 k852  (by omega)) cb_X1_set ml_X5_76 im_X1_set se_X1_set (fun _ => o6) h848 k852 rfl rfl (rest := []) rfl (Nat.le_of_ble_eq_true rfl) ⟨Nat.le_of_ble_eq_true rfl, Nat.le_of_ble_eq_true rfl⟩ ⟨Nat.le_of_ble_eq_true rfl, Nat.le_of_ble_eq_true rfl⟩ (fun r σ853 hp => ?_)
  obtain ⟨h855, rfl⟩ := hp
  have h854 := HK.trans h848 h855 (by decide)
  refine m_aload_n F rfl e_X5_tell_82 ?_
  refine t_get F e_X5_tell_83 fl_X5_24 (fun _ => o15) h854 hk rfl (fun v hv f856 => ?_)
  obtain ⟨r857, k858, rfl⟩ := hv
  refine m_bipush F (v := 72) (by decide) e_X5_tell_86 ?_
  refine m_lconst F (v := 0) (by decide) e_X5_tell_88 ?_
  refine t_callV F e_X5_tell_89 (s_X8_fill (x_l X) V b M Z T _ _ r857 72 0 h854.1 k858  (by omega)) cb_X8_fill ml_X5_80 im_X8_fill se_X8_fill (fun _ => o16) h854 k858 rfl rfl (rest := []) rfl (Nat.le_of_ble_eq_true rfl) ⟨Nat.le_of_ble_eq_true rfl, Nat.le_of_ble_eq_true rfl⟩ ⟨Nat.le_of_ble_eq_true rfl, Nat.le_of_ble_eq_true rfl⟩ (fun r σ859 hp => ?_)
  obtain ⟨h861, rfl⟩ := hp
  have h860 := HK.trans h854 h861 (by decide)
  refine m_aload_n F rfl e_X5_tell_92 ?_
  refine t_get F e_X5_tell_93 fl_X5_28 (fun _ => o15) h860 hk rfl (fun v hv f862 => ?_)
  obtain ⟨r863, k864, rfl⟩ := hv
  refine m_bipush F (v := 72) (by decide) e_X5_tell_96 ?_
  refine m_lconst F (v := 0) (by decide) e_X5_tell_98 ?_
  refine t_callV F e_X5_tell_99 (s_X8_fill (x_l X) V b M Z T _ _ r863 72 0 h860.1 k864  (by omega)) cb_X8_fill ml_X5_80 im_X8_fill se_X8_fill (fun _ => o16) h860 k864 rfl rfl (rest := []) rfl (Nat.le_of_ble_eq_true rfl) ⟨Nat.le_of_ble_eq_true rfl, Nat.le_of_ble_eq_true rfl⟩ ⟨Nat.le_of_ble_eq_true rfl, Nat.le_of_ble_eq_true rfl⟩ (fun r σ865 hp => ?_)
  obtain ⟨h867, rfl⟩ := hp
  have h866 := HK.trans h860 h867 (by decide)
  refine m_aload_n F rfl e_X5_tell_102 ?_
  refine t_get F e_X5_tell_103 fl_X5_31 (fun _ => o15) h866 hk rfl (fun v hv f868 => ?_)
  obtain ⟨r869, k870, rfl⟩ := hv
  refine m_lconst F (v := 0) (by decide) e_X5_tell_106 ?_
  refine m_callS F e_X5_tell_107 (s_J7_fill_d0a16_18 (x_l X) V b M Z T _ _ r869 0 h866.1 k870 (by omega)) cb_J7_fill_d0a16 ml_X5_84 sm_J7_fill_d0a16 rfl (rest := []) rfl (Nat.le_of_ble_eq_true rfl) ⟨Nat.le_of_ble_eq_true rfl, Nat.le_of_ble_eq_true rfl⟩ ⟨Nat.le_of_ble_eq_true rfl, Nat.le_of_ble_eq_true rfl⟩ (k' := 0) (z' := 0) (N' := N) rfl rfl rfl (fun r σ871 hp => ?_)
  obtain ⟨h873, rfl⟩ := hp
  have h872 := HK.trans h866 h873 (by decide)
  exact m_vret F hQ e_X5_tell_110 (⟨h872, rfl⟩)
set_option maxRecDepth 20000 in
theorem s_X5_copyFrom (l : Launch) (V : VX) (b M Z T N : Nat) (σ : Mem) (a : Nat) (r901 : Nat) (h0 : HT V (b, M, Z, T) σ) (hk : kA b a = 15) (k901 : kA b r901 = 15) (hM : M + 0 ≤ 1000000000) : Ct l V yX5_copyFrom cX5_copyFrom 2 none 2 0 0 N σ [.ref a, .ref r901] (fun r τ => HK V (b, M, Z, T) [0, 1, 3, 7, 12, 19] σ τ ∧ r = none) := by
  refine Ct.of (by decide) (Nat.le_of_ble_eq_true rfl) [(0, .ref a), (1, .ref r901)] rfl (fun X hX F hQ => ?_)
  have h1 : HK V (b, M, Z, T) [0, 1, 3, 7, 12, 19] σ σ := HK.start h0
  refine m_aload_n F rfl e_X5_copyFrom_0 ?_
  refine m_aload_n F rfl e_X5_copyFrom_1 ?_
  refine t_get F e_X5_copyFrom_2 fl_X5_35 (fun _ => o15) h1 k901 rfl (fun v hv f874 => ?_)
  obtain ⟨x875, rfl⟩ := hv
  refine t_put F e_X5_copyFrom_5 fp_X5_35 (fun _ => o15) h1 hk rfl ⟨_, rfl⟩ rfl rfl (by decide) (fun σ876 h877 g878 g879 f880 => ?_)
  refine m_aload_n F rfl e_X5_copyFrom_8 ?_
  refine m_aload_n F rfl e_X5_copyFrom_9 ?_
  refine t_get F e_X5_copyFrom_10 fl_X5_39 (fun _ => o15) h877 k901 rfl (fun v hv f881 => ?_)
  obtain ⟨x882, rfl⟩ := hv
  refine t_put F e_X5_copyFrom_13 fp_X5_39 (fun _ => o15) h877 hk rfl ⟨_, rfl⟩ rfl rfl (by decide) (fun σ883 h884 g885 g886 f887 => ?_)
  refine m_aload_n F rfl e_X5_copyFrom_16 ?_
  refine m_aload_n F rfl e_X5_copyFrom_17 ?_
  refine t_get F e_X5_copyFrom_18 fl_X5_42 (fun _ => o15) h884 k901 rfl (fun v hv f888 => ?_)
  obtain ⟨x889, rfl⟩ := hv
  refine t_put F e_X5_copyFrom_21 fp_X5_42 (fun _ => o15) h884 hk rfl ⟨_, rfl⟩ rfl rfl (by decide) (fun σ890 h891 g892 g893 f894 => ?_)
  refine m_aload_n F rfl e_X5_copyFrom_24 ?_
  refine m_aload_n F rfl e_X5_copyFrom_25 ?_
  refine t_get F e_X5_copyFrom_26 fl_X5_45 (fun _ => o15) h891 k901 rfl (fun v hv f895 => ?_)
  obtain ⟨x896, rfl⟩ := hv
  refine t_put F e_X5_copyFrom_29 fp_X5_45 (fun _ => o15) h891 hk rfl ⟨_, rfl⟩ rfl rfl (by decide) (fun σ897 h898 g899 g900 f901 => ?_)
  refine m_aload_n F rfl e_X5_copyFrom_32 ?_
  refine m_aload_n F rfl e_X5_copyFrom_33 ?_
  refine t_get F e_X5_copyFrom_34 fl_X5_48 (fun _ => o15) h898 k901 rfl (fun v hv f902 => ?_)
  obtain ⟨x903, rfl⟩ := hv
  refine t_put F e_X5_copyFrom_37 fp_X5_48 (fun _ => o15) h898 hk rfl ⟨_, rfl⟩ rfl rfl (by decide) (fun σ904 h905 g906 g907 f908 => ?_)
  refine m_aload_n F rfl e_X5_copyFrom_40 ?_
  refine m_aload_n F rfl e_X5_copyFrom_41 ?_
  refine t_get F e_X5_copyFrom_42 fl_X5_51 (fun _ => o15) h905 k901 rfl (fun v hv f909 => ?_)
  obtain ⟨x910, rfl⟩ := hv
  refine t_put F e_X5_copyFrom_45 fp_X5_51 (fun _ => o15) h905 hk rfl ⟨_, rfl⟩ rfl rfl (by decide) (fun σ911 h912 g913 g914 f915 => ?_)
  refine m_aload_n F rfl e_X5_copyFrom_48 ?_
  refine m_aload_n F rfl e_X5_copyFrom_49 ?_
  refine t_get F e_X5_copyFrom_50 fl_X5_54 (fun _ => o15) h912 k901 rfl (fun v hv f916 => ?_)
  obtain ⟨x917, rfl⟩ := hv
  refine t_put F e_X5_copyFrom_53 fp_X5_54 (fun _ => o15) h912 hk rfl ⟨_, rfl⟩ rfl rfl (by decide) (fun σ918 h919 g920 g921 f922 => ?_)
  refine m_aload_n F rfl e_X5_copyFrom_56 ?_
  refine m_aload_n F rfl e_X5_copyFrom_57 ?_
  refine t_get F e_X5_copyFrom_58 fl_X5_57 (fun _ => o15) h919 k901 rfl (fun v hv f923 => ?_)
  obtain ⟨x924, rfl⟩ := hv
  refine t_put F e_X5_copyFrom_61 fp_X5_57 (fun _ => o15) h919 hk rfl ⟨_, rfl⟩ rfl rfl (by decide) (fun σ925 h926 g927 g928 f929 => ?_)
  refine m_aload_n F rfl e_X5_copyFrom_64 ?_
  refine m_aload_n F rfl e_X5_copyFrom_65 ?_
  refine t_get F e_X5_copyFrom_66 fl_X5_60 (fun _ => o15) h926 k901 rfl (fun v hv f930 => ?_)
  obtain ⟨x931, rfl⟩ := hv
  refine t_put F e_X5_copyFrom_69 fp_X5_60 (fun _ => o15) h926 hk rfl ⟨_, rfl⟩ rfl rfl (by decide) (fun σ932 h933 g934 g935 f936 => ?_)
  refine m_aload_n F rfl e_X5_copyFrom_72 ?_
  refine m_aload_n F rfl e_X5_copyFrom_73 ?_
  refine t_get F e_X5_copyFrom_74 fl_X5_63 (fun _ => o15) h933 k901 rfl (fun v hv f937 => ?_)
  obtain ⟨x938, rfl⟩ := hv
  refine t_put F e_X5_copyFrom_77 fp_X5_63 (fun _ => o15) h933 hk rfl ⟨_, rfl⟩ rfl rfl (by decide) (fun σ939 h940 g941 g942 f943 => ?_)
  refine m_aload_n F rfl e_X5_copyFrom_80 ?_
  refine m_aload_n F rfl e_X5_copyFrom_81 ?_
  refine t_get F e_X5_copyFrom_82 fl_X5_66 (fun _ => o15) h940 k901 rfl (fun v hv f944 => ?_)
  obtain ⟨n945, hn945, rfl⟩ := hv
  replace hn945 : n945 ≤ 1 := hn945
  refine t_put F e_X5_copyFrom_85 fp_X5_66 (fun _ => o15) h940 hk rfl ⟨n945, (show n945 ≤ 1 by omega), rfl⟩ (nz1 (by omega)) (fz1 (by omega)) (by decide) (fun σ946 h947 g948 g949 f950 => ?_)
  refine m_aload_n F rfl e_X5_copyFrom_88 ?_
  refine m_aload_n F rfl e_X5_copyFrom_89 ?_
  refine t_get F e_X5_copyFrom_90 fl_X5_70 (fun _ => o15) h947 k901 rfl (fun v hv f951 => ?_)
  obtain ⟨n952, hn952, rfl⟩ := hv
  replace hn952 : n952 ≤ 1 := hn952
  refine t_put F e_X5_copyFrom_93 fp_X5_70 (fun _ => o15) h947 hk rfl ⟨n952, (show n952 ≤ 1 by omega), rfl⟩ (nz1 (by omega)) (fz1 (by omega)) (by decide) (fun σ953 h954 g955 g956 f957 => ?_)
  refine m_aload_n F rfl e_X5_copyFrom_96 ?_
  refine m_aload_n F rfl e_X5_copyFrom_97 ?_
  refine t_get F e_X5_copyFrom_98 fl_X5_73 (fun _ => o15) h954 k901 rfl (fun v hv f958 => ?_)
  obtain ⟨n959, hn959, rfl⟩ := hv
  replace hn959 : n959 ≤ 1 := hn959
  refine t_put F e_X5_copyFrom_101 fp_X5_73 (fun _ => o15) h954 hk rfl ⟨n959, (show n959 ≤ 1 by omega), rfl⟩ (nz1 (by omega)) (fz1 (by omega)) (by decide) (fun σ960 h961 g962 g963 f964 => ?_)
  refine m_aload_n F rfl e_X5_copyFrom_104 ?_
  refine t_get F e_X5_copyFrom_105 fl_X5_12 (fun _ => o15) h961 hk rfl (fun v hv f965 => ?_)
  obtain ⟨r966, k967, rfl⟩ := hv
  refine m_aload_n F rfl e_X5_copyFrom_108 ?_
  refine t_get F e_X5_copyFrom_109 fl_X5_12 (fun _ => o15) h961 k901 rfl (fun v hv f968 => ?_)
  obtain ⟨r969, k970, rfl⟩ := hv
  refine t_callV F e_X5_copyFrom_112 (s_X1_copyFrom (x_l X) V b M Z T _ _ r966 r969 h961.1 k967 k970 (by omega)) cb_X1_copyFrom ml_X5_89 im_X1_copyFrom se_X1_copyFrom (fun _ => o6) h961 k967 rfl rfl (rest := []) rfl (Nat.le_of_ble_eq_true rfl) ⟨Nat.le_of_ble_eq_true rfl, Nat.le_of_ble_eq_true rfl⟩ ⟨Nat.le_of_ble_eq_true rfl, Nat.le_of_ble_eq_true rfl⟩ (fun r σ971 hp => ?_)
  obtain ⟨h973, rfl⟩ := hp
  have h972 := HK.trans h961 h973 (by decide)
  refine m_aload_n F rfl e_X5_copyFrom_115 ?_
  refine t_get F e_X5_copyFrom_116 fl_X5_18 (fun _ => o15) h972 hk rfl (fun v hv f974 => ?_)
  obtain ⟨r975, k976, rfl⟩ := hv
  refine m_aload_n F rfl e_X5_copyFrom_119 ?_
  refine t_get F e_X5_copyFrom_120 fl_X5_18 (fun _ => o15) h972 k901 rfl (fun v hv f977 => ?_)
  obtain ⟨r978, k979, rfl⟩ := hv
  refine t_callV F e_X5_copyFrom_123 (s_X1_copyFrom (x_l X) V b M Z T _ _ r975 r978 h972.1 k976 k979 (by omega)) cb_X1_copyFrom ml_X5_89 im_X1_copyFrom se_X1_copyFrom (fun _ => o6) h972 k976 rfl rfl (rest := []) rfl (Nat.le_of_ble_eq_true rfl) ⟨Nat.le_of_ble_eq_true rfl, Nat.le_of_ble_eq_true rfl⟩ ⟨Nat.le_of_ble_eq_true rfl, Nat.le_of_ble_eq_true rfl⟩ (fun r σ980 hp => ?_)
  obtain ⟨h982, rfl⟩ := hp
  have h981 := HK.trans h972 h982 (by decide)
  refine m_aload_n F rfl e_X5_copyFrom_126 ?_
  refine t_get F e_X5_copyFrom_127 fl_X5_24 (fun _ => o15) h981 hk rfl (fun v hv f983 => ?_)
  obtain ⟨r984, k985, rfl⟩ := hv
  refine m_aload_n F rfl e_X5_copyFrom_130 ?_
  refine t_get F e_X5_copyFrom_131 fl_X5_24 (fun _ => o15) h981 k901 rfl (fun v hv f986 => ?_)
  obtain ⟨r987, k988, rfl⟩ := hv
  refine t_callV F e_X5_copyFrom_134 (s_X8_copyFrom (x_l X) V b M Z T _ _ r984 r987 h981.1 k985 k988 (by omega)) cb_X8_copyFrom ml_X5_93 im_X8_copyFrom se_X8_copyFrom (fun _ => o16) h981 k985 rfl rfl (rest := []) rfl (Nat.le_of_ble_eq_true rfl) ⟨Nat.le_of_ble_eq_true rfl, Nat.le_of_ble_eq_true rfl⟩ ⟨Nat.le_of_ble_eq_true rfl, Nat.le_of_ble_eq_true rfl⟩ (fun r σ989 hp => ?_)
  obtain ⟨h991, rfl⟩ := hp
  have h990 := HK.trans h981 h991 (by decide)
  refine m_aload_n F rfl e_X5_copyFrom_137 ?_
  refine t_get F e_X5_copyFrom_138 fl_X5_28 (fun _ => o15) h990 hk rfl (fun v hv f992 => ?_)
  obtain ⟨r993, k994, rfl⟩ := hv
  refine m_aload_n F rfl e_X5_copyFrom_141 ?_
  refine t_get F e_X5_copyFrom_142 fl_X5_28 (fun _ => o15) h990 k901 rfl (fun v hv f995 => ?_)
  obtain ⟨r996, k997, rfl⟩ := hv
  refine t_callV F e_X5_copyFrom_145 (s_X8_copyFrom (x_l X) V b M Z T _ _ r993 r996 h990.1 k994 k997 (by omega)) cb_X8_copyFrom ml_X5_93 im_X8_copyFrom se_X8_copyFrom (fun _ => o16) h990 k994 rfl rfl (rest := []) rfl (Nat.le_of_ble_eq_true rfl) ⟨Nat.le_of_ble_eq_true rfl, Nat.le_of_ble_eq_true rfl⟩ ⟨Nat.le_of_ble_eq_true rfl, Nat.le_of_ble_eq_true rfl⟩ (fun r σ998 hp => ?_)
  obtain ⟨h1000, rfl⟩ := hp
  have h999 := HK.trans h990 h1000 (by decide)
  refine m_aload_n F rfl e_X5_copyFrom_148 ?_
  refine t_get F e_X5_copyFrom_149 fl_X5_31 (fun _ => o15) h999 k901 rfl (fun v hv f1001 => ?_)
  obtain ⟨r1002, k1003, rfl⟩ := hv
  refine m_iconst F (v := 0) (by decide) e_X5_copyFrom_152 ?_
  refine m_aload_n F rfl e_X5_copyFrom_153 ?_
  refine t_get F e_X5_copyFrom_154 fl_X5_31 (fun _ => o15) h999 hk rfl (fun v hv f1004 => ?_)
  obtain ⟨r1005, k1006, rfl⟩ := hv
  refine m_iconst F (v := 0) (by decide) e_X5_copyFrom_157 ?_
  refine m_iconst F (v := 5) (by decide) e_X5_copyFrom_158 ?_
  refine t_copyJ F (len := 5) e_X5_copyFrom_159 ac_X5_96 (fun _ => o18) (fun _ => o18) h999 k1003 k1006 (by decide) (by decide) (by decide) (by decide) (Nat.le_of_ble_eq_true rfl) (Nat.le_of_ble_eq_true rfl) (by decide) (fun σ1007 h1008 g1009 => ?_)
  exact m_vret F hQ e_X5_copyFrom_162 (⟨h1008, rfl⟩)
set_option maxRecDepth 20000 in
theorem s_X5_owns (l : Launch) (V : VX) (b M Z T N : Nat) (σ : Mem) (a : Nat) (x901 : Int32) (h0 : HT V (b, M, Z, T) σ) (hk : kA b a = 15) (hM : M + 0 ≤ 1000000000) : Ct l V yX5_owns cX5_owns 2 (some .boolean) 0 0 0 N σ [.ref a, .int x901] (fun r τ => HK V (b, M, Z, T) [0, 1, 3, 7, 12, 15, 19] σ τ ∧ ∃ n : Nat, n ≤ 1 ∧ r = some (.int (nI n))) := by
  refine Ct.of (by decide) (Nat.le_of_ble_eq_true rfl) [(0, .ref a), (1, .int x901)] rfl (fun X hX F hQ => ?_)
  have h1 : HK V (b, M, Z, T) [0, 1, 3, 7, 12, 15, 19] σ σ := HK.start h0
  refine m_iload_n F rfl e_X5_owns_0 ?_
  refine m_iconst F (v := 1) (by decide) e_X5_owns_1 ?_
  refine m_icmp_lt F e_X5_owns_2 (fun q2 => ?_) (fun q2 => ?_)
  · refine m_iconst F (v := 0) (by decide) e_X5_owns_23 ?_
    exact m_zret F hQ e_X5_owns_24 (by decide) (⟨h1, 0, by omega, rfl⟩)
  · obtain ⟨n1010, hn1010, rfl⟩ := nI_nn (x := x901) (fun e => q2 (Int32.lt_of_lt_of_le e (by decide)))
    have c2 : n1010 ≥ 1 := by have hh := mt (nI_ltI (a := n1010) (b := 1) (by omega) (by omega)).mpr q2; omega
    refine m_iload_n F rfl e_X5_owns_5 ?_
    refine m_aload_n F rfl e_X5_owns_6 ?_
    refine t_get F e_X5_owns_7 fl_X5_42 (fun _ => o15) h1 hk rfl (fun v hv f1011 => ?_)
    obtain ⟨x1012, rfl⟩ := hv
    refine m_icmp_gt F e_X5_owns_10 (fun q10 => ?_) (fun q10 => ?_)
    · refine m_iconst F (v := 0) (by decide) e_X5_owns_23 ?_
      exact m_zret F hQ e_X5_owns_24 (by decide) (⟨h1, 0, by omega, rfl⟩)
    · refine m_iload_n F rfl e_X5_owns_13 ?_
      refine m_bipush F (v := 72) (by decide) e_X5_owns_14 ?_
      refine m_icmp_gt F e_X5_owns_16 (fun q16 => ?_) (fun q16 => ?_)
      · have c16 : n1010 > 72 := (nI_ltI (a := 72) (b := n1010) (by omega) (by omega)).mp q16
        refine m_iconst F (v := 0) (by decide) e_X5_owns_23 ?_
        exact m_zret F hQ e_X5_owns_24 (by decide) (⟨h1, 0, by omega, rfl⟩)
      · have c16 : n1010 ≤ 72 := by have hh := mt (nI_ltI (a := 72) (b := n1010) (by omega) (by omega)).mpr q16; omega
        refine m_iconst F (v := 1) (by decide) e_X5_owns_19 ?_
        refine m_goto F e_X5_owns_20 ?_
        exact m_zret F hQ e_X5_owns_24 (by decide) (⟨h1, 1, by omega, rfl⟩)
set_option maxRecDepth 20000 in
theorem s_X5_left (l : Launch) (V : VX) (b M Z T N : Nat) (σ : Mem) (a : Nat) (h0 : HT V (b, M, Z, T) σ) (hk : kA b a = 15) (hM : M + 0 ≤ 1000000000) : Ct l V yX5_left cX5_left 1 (some .int) 0 0 0 N σ [.ref a] (fun r τ => HK V (b, M, Z, T) [0, 1, 3, 7, 12, 15, 19] σ τ ∧ ∃ x : Int32, r = some (.int x)) := by
  refine Ct.of (by decide) (Nat.le_of_ble_eq_true rfl) [(0, .ref a)] rfl (fun X hX F hQ => ?_)
  have h1 : HK V (b, M, Z, T) [0, 1, 3, 7, 12, 15, 19] σ σ := HK.start h0
  refine m_aload_n F rfl e_X5_left_0 ?_
  refine t_get F e_X5_left_1 fl_X5_63 (fun _ => o15) h1 hk rfl (fun v hv f1013 => ?_)
  obtain ⟨x1014, rfl⟩ := hv
  refine m_iconst F (v := 2) (by decide) e_X5_left_4 ?_
  refine m_icmp_ne F e_X5_left_5 (fun q5 => ?_) (fun q5 => ?_)
  · refine m_aload_n F rfl e_X5_left_12 ?_
    refine t_get F e_X5_left_13 fl_X5_42 (fun _ => o15) h1 hk rfl (fun v hv f1015 => ?_)
    obtain ⟨x1016, rfl⟩ := hv
    refine m_aload_n F rfl e_X5_left_16 ?_
    refine t_get F e_X5_left_17 fl_X5_60 (fun _ => o15) h1 hk rfl (fun v hv f1017 => ?_)
    obtain ⟨x1018, rfl⟩ := hv
    refine m_isub F e_X5_left_20 ?_
    refine Wm.top (fun x1019 _ => ?_)
    exact m_iret F hQ e_X5_left_21 (⟨h1, _, rfl⟩)
  · refine m_iconst F (v := 0) (by decide) e_X5_left_8 ?_
    refine m_goto F e_X5_left_9 ?_
    exact m_iret F hQ e_X5_left_21 (⟨h1, _, rfl⟩)
set_option maxRecDepth 20000 in
theorem lp_X5_payMore_3 {V : VX} {X : MX} {b M Z T N : Nat} {σ : Mem} {a : Nat} {x901 : Int32} {x902 : Int32} {x903 : Int32}  (F : Fx V X yX5_payMore cX5_payMore 5 none (rmd 2 0 0)) (hQ : Rt V X 0 0 N (fun r τ => HK V (b, M, Z, T) [0, 1, 3, 7, 12, 15, 19] σ τ ∧ r = none)) (hk : kA b a = 15) (hp0 : x902.toInt < 1000) (hM : M + 0 ≤ 1000000000)  : ∀ (fuel : Nat) (i1 : Int32) (τ : Mem), HK V (b, M, Z, T) [0, 1, 3, 7, 12, 15, 19] σ τ → True → (1000 - i1.toInt).toNat < fuel → Wm V X 5 N τ 0 0 3 [(4, .int i1), (0, .ref a), (1, .int x901), (2, .int x902), (3, .int x903)] [] := by
  intro fuel
  induction fuel with
  | zero => intro i1 τ h1 hi hm; exact absurd hm (Nat.not_lt_zero _)
  | succ fuel ih =>
    intro i1 τ h1 hi hm
    refine m_iload F rfl e_X5_payMore_3 ?_
    refine m_iload_n F rfl e_X5_payMore_5 ?_
    refine m_icmp_gt F e_X5_payMore_6 (fun q6 => ?_) (fun q6 => ?_)
    · exact m_vret F hQ e_X5_payMore_37 (⟨h1, rfl⟩)
    · refine m_aload_n F rfl e_X5_payMore_9 ?_
      refine t_get F e_X5_payMore_10 fl_X5_24 (fun _ => o15) h1 hk rfl (fun v hv f1020 => ?_)
      obtain ⟨r1021, k1022, rfl⟩ := hv
      refine m_iload F rfl e_X5_payMore_13 ?_
      refine m_iload_n F rfl e_X5_payMore_15 ?_
      refine m_i2l F e_X5_payMore_16 ?_
      refine Wm.topl (fun x1023 _ => ?_)
      refine t_callV F e_X5_payMore_17 (s_X8_addAt (x_l X) V b M Z T _ _ r1021 i1 x1023 h1.1 k1022  (by omega)) cb_X8_addAt ml_X5_102 im_X8_addAt se_X8_addAt (fun _ => o16) h1 k1022 rfl rfl (rest := []) rfl (Nat.le_of_ble_eq_true rfl) ⟨Nat.le_of_ble_eq_true rfl, Nat.le_of_ble_eq_true rfl⟩ ⟨Nat.le_of_ble_eq_true rfl, Nat.le_of_ble_eq_true rfl⟩ (fun r σ1024 hp => ?_)
      obtain ⟨h1026, rfl⟩ := hp
      have h1025 := HK.trans h1 h1026 (by decide)
      refine m_aload_n F rfl e_X5_payMore_20 ?_
      refine t_get F e_X5_payMore_21 fl_X5_28 (fun _ => o15) h1025 hk rfl (fun v hv f1027 => ?_)
      obtain ⟨r1028, k1029, rfl⟩ := hv
      refine m_iload F rfl e_X5_payMore_24 ?_
      refine m_iload_n F rfl e_X5_payMore_26 ?_
      refine m_i2l F e_X5_payMore_27 ?_
      refine Wm.topl (fun x1030 _ => ?_)
      refine t_callV F e_X5_payMore_28 (s_X8_addAt (x_l X) V b M Z T _ _ r1028 i1 x1030 h1025.1 k1029  (by omega)) cb_X8_addAt ml_X5_102 im_X8_addAt se_X8_addAt (fun _ => o16) h1025 k1029 rfl rfl (rest := []) rfl (Nat.le_of_ble_eq_true rfl) ⟨Nat.le_of_ble_eq_true rfl, Nat.le_of_ble_eq_true rfl⟩ ⟨Nat.le_of_ble_eq_true rfl, Nat.le_of_ble_eq_true rfl⟩ (fun r σ1031 hp => ?_)
      obtain ⟨h1033, rfl⟩ := hp
      have h1032 := HK.trans h1025 h1033 (by decide)
      refine m_iinc F (v := (i1 + 1)) (lv' := [(4, .int (i1 + 1)), (0, .ref a), (1, .int x901), (2, .int x902), (3, .int x903)]) e_X5_payMore_31 rfl rfl (by decide) rfl ?_
      refine m_goto F e_X5_payMore_34 ?_
      exact ih (i1 + 1) _ h1032 trivial (by have h9 := inc_le q6 hp0; omega)
set_option maxRecDepth 20000 in
theorem s_X5_payMore (l : Launch) (V : VX) (b M Z T N : Nat) (σ : Mem) (a : Nat) (x901 : Int32) (x902 : Int32) (x903 : Int32) (h0 : HT V (b, M, Z, T) σ) (hk : kA b a = 15) (hp0 : x902.toInt < 1000) (hM : M + 0 ≤ 1000000000) : Ct l V yX5_payMore cX5_payMore 5 none 2 0 0 N σ [.ref a, .int x901, .int x902, .int x903] (fun r τ => HK V (b, M, Z, T) [0, 1, 3, 7, 12, 15, 19] σ τ ∧ r = none) := by
  refine Ct.of (by decide) (Nat.le_of_ble_eq_true rfl) [(0, .ref a), (1, .int x901), (2, .int x902), (3, .int x903)] rfl (fun X hX F hQ => ?_)
  have h1 : HK V (b, M, Z, T) [0, 1, 3, 7, 12, 15, 19] σ σ := HK.start h0
  refine m_iload_n F rfl e_X5_payMore_0 ?_
  refine m_istore F (lv' := [(4, .int x901), (0, .ref a), (1, .int x901), (2, .int x902), (3, .int x903)]) e_X5_payMore_1 (by decide) rfl ?_
  exact lp_X5_payMore_3 F hQ hk hp0 hM ((1000 - x901.toInt).toNat + 1) x901 _ h1 trivial (Nat.lt_succ_self _)
