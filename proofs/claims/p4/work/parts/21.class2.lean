set_option maxRecDepth 20000 in
theorem s_X8_copyFrom (l : Launch) (V : VX) (b M Z T N : Nat) (σ : Mem) (a : Nat) (r901 : Nat) (h0 : HT V (b, M, Z, T) σ) (hk : kA b a = 16) (k901 : kA b r901 = 16) (hM : M + 0 ≤ 1000000000) : Ct l V yX8_copyFrom cX8_copyFrom 2 none 1 0 0 N σ [.ref a, .ref r901] (fun r τ => HK V (b, M, Z, T) [0, 1, 2, 3, 4, 5, 6, 7, 8, 9, 10, 11, 12, 13, 14, 15, 16, 18, 19] σ τ ∧ r = none) := by
  refine Ct.of (by decide) (Nat.le_of_ble_eq_true rfl) [(0, .ref a), (1, .ref r901)] rfl (fun X hX F hQ => ?_)
  have h1 : HK V (b, M, Z, T) [0, 1, 2, 3, 4, 5, 6, 7, 8, 9, 10, 11, 12, 13, 14, 15, 16, 18, 19] σ σ := HK.start h0
  refine m_aload_n F rfl e_X8_copyFrom_0 ?_
  refine t_get F e_X8_copyFrom_1 fl_X8_9 (fun _ => o16) h1 k901 rfl (fun v hv f441 => ?_)
  obtain ⟨r442, k443, rfl⟩ := hv
  refine m_iconst F (v := 0) (by decide) e_X8_copyFrom_4 ?_
  refine m_aload_n F rfl e_X8_copyFrom_5 ?_
  refine t_get F e_X8_copyFrom_6 fl_X8_9 (fun _ => o16) h1 hk rfl (fun v hv f444 => ?_)
  obtain ⟨r445, k446, rfl⟩ := hv
  refine m_iconst F (v := 0) (by decide) e_X8_copyFrom_9 ?_
  refine m_bipush F (v := 72) (by decide) e_X8_copyFrom_10 ?_
  refine t_copyJ F (len := 72) e_X8_copyFrom_12 ac_X8_25 (fun _ => o17) (fun _ => o17) h1 k443 k446 (by decide) (by decide) (by decide) (by decide) (Nat.le_of_ble_eq_true rfl) (Nat.le_of_ble_eq_true rfl) (by decide) (fun σ447 h448 g449 => ?_)
  refine m_aload_n F rfl e_X8_copyFrom_15 ?_
  refine t_get F e_X8_copyFrom_16 fl_X8_15 (fun _ => o16) h448 k901 rfl (fun v hv f450 => ?_)
  obtain ⟨r451, k452, rfl⟩ := hv
  refine m_iconst F (v := 0) (by decide) e_X8_copyFrom_19 ?_
  refine m_aload_n F rfl e_X8_copyFrom_20 ?_
  refine t_get F e_X8_copyFrom_21 fl_X8_15 (fun _ => o16) h448 hk rfl (fun v hv f453 => ?_)
  obtain ⟨r454, k455, rfl⟩ := hv
  refine m_iconst F (v := 0) (by decide) e_X8_copyFrom_24 ?_
  refine m_bipush F (v := 72) (by decide) e_X8_copyFrom_25 ?_
  refine t_copyJ F (len := 72) e_X8_copyFrom_27 ac_X8_25 (fun _ => o17) (fun _ => o17) h448 k452 k455 (by decide) (by decide) (by decide) (by decide) (Nat.le_of_ble_eq_true rfl) (Nat.le_of_ble_eq_true rfl) (by decide) (fun σ456 h457 g458 => ?_)
  exact m_vret F hQ e_X8_copyFrom_30 (⟨h457, rfl⟩)
set_option maxRecDepth 20000 in
theorem s_X8_fill (l : Launch) (V : VX) (b M Z T N : Nat) (σ : Mem) (a : Nat) (x901 : Int32) (x902 : Int64) (h0 : HT V (b, M, Z, T) σ) (hk : kA b a = 16) (hM : M + 0 ≤ 1000000000) : Ct l V yX8_fill cX8_fill 5 none 3 0 0 N σ [.ref a, .int x901, .long x902] (fun r τ => HK V (b, M, Z, T) [0, 1, 2, 3, 4, 5, 7, 8, 9, 10, 11, 12, 13, 14, 15, 16, 18, 19] σ τ ∧ r = none) := by
  refine Ct.of (by decide) (Nat.le_of_ble_eq_true rfl) [(0, .ref a), (1, .int x901), (2, .long x902)] rfl (fun X hX F hQ => ?_)
  have h1 : HK V (b, M, Z, T) [0, 1, 2, 3, 4, 5, 7, 8, 9, 10, 11, 12, 13, 14, 15, 16, 18, 19] σ σ := HK.start h0
  refine m_iconst F (v := 0) (by decide) e_X8_fill_0 ?_
  refine m_iload_n F rfl e_X8_fill_1 ?_
  refine m_bipush F (v := 72) (by decide) e_X8_fill_2 ?_
  refine m_min F e_X8_fill_4 ml_X8_31 sm_min ini_math co_min (Nat.le_of_ble_eq_true rfl) (Nat.le_of_ble_eq_true rfl) (Nat.le_of_ble_eq_true rfl) (Nat.le_of_ble_eq_true rfl) ?_
  refine m_max F e_X8_fill_7 ml_X8_37 sm_max ini_math co_max (Nat.le_of_ble_eq_true rfl) (Nat.le_of_ble_eq_true rfl) (Nat.le_of_ble_eq_true rfl) (Nat.le_of_ble_eq_true rfl) ?_
  obtain ⟨n77, hn77, e77⟩ := clampF x901
  refine Wm.topE (w := nI n77) (e77) ?_
  refine m_istore F (lv' := [(4, .int (nI n77)), (0, .ref a), (1, .int x901), (2, .long x902)]) e_X8_fill_10 (by decide) rfl ?_
  refine m_aload_n F rfl e_X8_fill_12 ?_
  refine t_get F e_X8_fill_13 fl_X8_21 (fun _ => o16) h1 hk rfl (fun v hv f459 => ?_)
  obtain ⟨r460, k461, rfl⟩ := hv
  refine m_lload_n F rfl e_X8_fill_16 ?_
  refine t_callV F e_X8_fill_17 (s_X1_set (x_l X) V b M Z T _ _ r460 x902 h1.1 k461  (by omega)) cb_X1_set ml_X8_40 im_X1_set se_X1_set (fun _ => o6) h1 k461 rfl rfl (rest := []) rfl (Nat.le_of_ble_eq_true rfl) ⟨Nat.le_of_ble_eq_true rfl, Nat.le_of_ble_eq_true rfl⟩ ⟨Nat.le_of_ble_eq_true rfl, Nat.le_of_ble_eq_true rfl⟩ (fun r σ462 hp => ?_)
  obtain ⟨h464, rfl⟩ := hp
  have h463 := HK.trans h1 h464 (by decide)
  refine m_aload_n F rfl e_X8_fill_20 ?_
  refine t_get F e_X8_fill_21 fl_X8_9 (fun _ => o16) h463 hk rfl (fun v hv f465 => ?_)
  obtain ⟨r466, k467, rfl⟩ := hv
  refine m_iconst F (v := 0) (by decide) e_X8_fill_24 ?_
  refine m_iload F rfl e_X8_fill_25 ?_
  refine m_aload_n F rfl e_X8_fill_27 ?_
  refine t_getC F e_X8_fill_28 fl_X8_21 (fun _ => o16) h463 hk ((fld_eq (h464.2 a (by rw [show kA _ a = 16 from hk]; decide))).trans f459) ?_
  refine t_get F e_X8_fill_31 fl_X8_44 (fun _ => o6) h463 k461 rfl (fun v hv f468 => ?_)
  obtain ⟨x469, rfl⟩ := hv
  refine m_callS F e_X8_fill_34 (s_J7_fill_bad5a_17 (x_l X) V b M Z T _ _ r466 0 n77 x469 h463.1 k467 (by omega) (by omega) (by first | omega | assumption | decide) (by first | omega | assumption | decide) (by omega)) cb_J7_fill_bad5a ml_X8_48 sm_J7_fill_bad5a rfl (rest := []) rfl (Nat.le_of_ble_eq_true rfl) ⟨Nat.le_of_ble_eq_true rfl, Nat.le_of_ble_eq_true rfl⟩ ⟨Nat.le_of_ble_eq_true rfl, Nat.le_of_ble_eq_true rfl⟩ (k' := 0) (z' := 0) (N' := N) rfl rfl rfl (fun r σ470 hp => ?_)
  obtain ⟨h472, rfl⟩ := hp
  have h471 := HK.trans h463 h472 (by decide)
  refine m_aload_n F rfl e_X8_fill_37 ?_
  refine t_get F e_X8_fill_38 fl_X8_15 (fun _ => o16) h471 hk rfl (fun v hv f473 => ?_)
  obtain ⟨r474, k475, rfl⟩ := hv
  refine m_iconst F (v := 0) (by decide) e_X8_fill_41 ?_
  refine m_iload F rfl e_X8_fill_42 ?_
  refine m_aload_n F rfl e_X8_fill_44 ?_
  refine t_getC F e_X8_fill_45 fl_X8_21 (fun _ => o16) h471 hk ((fld_eq (h472.2 a (by rw [show kA _ a = 16 from hk]; decide))).trans ((fld_eq (h464.2 a (by rw [show kA _ a = 16 from hk]; decide))).trans f459)) ?_
  refine t_get F e_X8_fill_48 fl_X8_54 (fun _ => o6) h471 k461 rfl (fun v hv f476 => ?_)
  obtain ⟨x477, rfl⟩ := hv
  refine m_callS F e_X8_fill_51 (s_J7_fill_bad5a_17 (x_l X) V b M Z T _ _ r474 0 n77 x477 h471.1 k475 (by omega) (by omega) (by first | omega | assumption | decide) (by first | omega | assumption | decide) (by omega)) cb_J7_fill_bad5a ml_X8_48 sm_J7_fill_bad5a rfl (rest := []) rfl (Nat.le_of_ble_eq_true rfl) ⟨Nat.le_of_ble_eq_true rfl, Nat.le_of_ble_eq_true rfl⟩ ⟨Nat.le_of_ble_eq_true rfl, Nat.le_of_ble_eq_true rfl⟩ (k' := 0) (z' := 0) (N' := N) rfl rfl rfl (fun r σ478 hp => ?_)
  obtain ⟨h480, rfl⟩ := hp
  have h479 := HK.trans h471 h480 (by decide)
  exact m_vret F hQ e_X8_fill_54 (⟨h479, rfl⟩)
set_option maxRecDepth 20000 in
theorem s_X8_copyTo (l : Launch) (V : VX) (b M Z T N : Nat) (σ : Mem) (a : Nat) (x901 : Int32) (r902 : Nat) (h0 : HT V (b, M, Z, T) σ) (hk : kA b a = 16) (k902 : kA b r902 = 6) (hM : M + 0 ≤ 1000000000) : Ct l V yX8_copyTo cX8_copyTo 4 none 0 0 0 N σ [.ref a, .int x901, .ref r902] (fun r τ => HK V (b, M, Z, T) [0, 1, 2, 3, 4, 5, 7, 8, 9, 10, 11, 12, 13, 14, 15, 16, 17, 18, 19] σ τ ∧ r = none) := by
  refine Ct.of (by decide) (Nat.le_of_ble_eq_true rfl) [(0, .ref a), (1, .int x901), (2, .ref r902)] rfl (fun X hX F hQ => ?_)
  have h1 : HK V (b, M, Z, T) [0, 1, 2, 3, 4, 5, 7, 8, 9, 10, 11, 12, 13, 14, 15, 16, 17, 18, 19] σ σ := HK.start h0
  refine m_iload_n F rfl e_X8_copyTo_0 ?_
  refine m_if_lt F e_X8_copyTo_1 (fun q1 => ?_) (fun q1 => ?_)
  · refine m_iconst F (v := 0) (by decide) e_X8_copyTo_14 ?_
    refine m_istore_n F (lv' := [(3, .int 0), (0, .ref a), (1, .int x901), (2, .ref r902)]) e_X8_copyTo_15 (by decide) rfl ?_
    refine m_aload_n F rfl e_X8_copyTo_16 ?_
    refine m_iload_n F rfl e_X8_copyTo_17 ?_
    refine m_if_eq F e_X8_copyTo_18 (fun _ => ?_) (fun q => absurd (by decide) q)
    refine m_lconst F (v := 0) (by decide) e_X8_copyTo_30 ?_
    refine t_put F e_X8_copyTo_31 fp_X8_44 (fun _ => o6) h1 k902 rfl ⟨_, rfl⟩ rfl rfl (by decide) (fun σ481 h482 g483 g484 f485 => ?_)
    refine m_aload_n F rfl e_X8_copyTo_34 ?_
    refine m_iload_n F rfl e_X8_copyTo_35 ?_
    refine m_if_eq F e_X8_copyTo_36 (fun _ => ?_) (fun q => absurd (by decide) q)
    refine m_lconst F (v := 0) (by decide) e_X8_copyTo_48 ?_
    refine t_put F e_X8_copyTo_49 fp_X8_54 (fun _ => o6) h482 k902 rfl ⟨_, rfl⟩ rfl rfl (by decide) (fun σ486 h487 g488 g489 f490 => ?_)
    exact m_vret F hQ e_X8_copyTo_52 (⟨h487, rfl⟩)
  · obtain ⟨n491, hn491, rfl⟩ := nI_nn (x := x901) (fun e => q1 (Int32.lt_of_lt_of_le e (by decide)))
    have c1 : n491 ≥ 0 := by have hh := mt (nI_ltI (a := n491) (b := 0) (by omega) (by omega)).mpr q1; omega
    refine m_iload_n F rfl e_X8_copyTo_4 ?_
    refine m_bipush F (v := 72) (by decide) e_X8_copyTo_5 ?_
    refine m_icmp_ge F e_X8_copyTo_7 (fun q7 => ?_) (fun q7 => ?_)
    · have c7 : n491 ≥ 72 := (nI_leI (a := 72) (b := n491) (by omega) (by omega)).mp q7
      refine m_iconst F (v := 0) (by decide) e_X8_copyTo_14 ?_
      refine m_istore_n F (lv' := [(3, .int 0), (0, .ref a), (1, .int (nI n491)), (2, .ref r902)]) e_X8_copyTo_15 (by decide) rfl ?_
      refine m_aload_n F rfl e_X8_copyTo_16 ?_
      refine m_iload_n F rfl e_X8_copyTo_17 ?_
      refine m_if_eq F e_X8_copyTo_18 (fun _ => ?_) (fun q => absurd (by decide) q)
      refine m_lconst F (v := 0) (by decide) e_X8_copyTo_30 ?_
      refine t_put F e_X8_copyTo_31 fp_X8_44 (fun _ => o6) h1 k902 rfl ⟨_, rfl⟩ rfl rfl (by decide) (fun σ492 h493 g494 g495 f496 => ?_)
      refine m_aload_n F rfl e_X8_copyTo_34 ?_
      refine m_iload_n F rfl e_X8_copyTo_35 ?_
      refine m_if_eq F e_X8_copyTo_36 (fun _ => ?_) (fun q => absurd (by decide) q)
      refine m_lconst F (v := 0) (by decide) e_X8_copyTo_48 ?_
      refine t_put F e_X8_copyTo_49 fp_X8_54 (fun _ => o6) h493 k902 rfl ⟨_, rfl⟩ rfl rfl (by decide) (fun σ497 h498 g499 g500 f501 => ?_)
      exact m_vret F hQ e_X8_copyTo_52 (⟨h498, rfl⟩)
    · have c7 : n491 < 72 := by have hh := mt (nI_leI (a := 72) (b := n491) (by omega) (by omega)).mpr q7; omega
      refine m_iconst F (v := 1) (by decide) e_X8_copyTo_10 ?_
      refine m_goto F e_X8_copyTo_11 ?_
      refine m_istore_n F (lv' := [(3, .int 1), (0, .ref a), (1, .int (nI n491)), (2, .ref r902)]) e_X8_copyTo_15 (by decide) rfl ?_
      refine m_aload_n F rfl e_X8_copyTo_16 ?_
      refine m_iload_n F rfl e_X8_copyTo_17 ?_
      refine m_if_eq F e_X8_copyTo_18 (fun q => absurd q (by decide)) (fun _ => ?_)
      refine m_aload_n F rfl e_X8_copyTo_21 ?_
      refine t_get F e_X8_copyTo_22 fl_X8_9 (fun _ => o16) h1 hk rfl (fun v hv f502 => ?_)
      obtain ⟨r503, k504, rfl⟩ := hv
      refine m_iload_n F rfl e_X8_copyTo_25 ?_
      refine t_lald F (len := 72) (j := n491) e_X8_copyTo_26 (fun _ => o17) h1 k504 (nI_clamp (by omega)) (vp_in_nI (by omega) (by decide)) (fun x505 => ?_)
      refine m_goto F e_X8_copyTo_27 ?_
      refine t_put F e_X8_copyTo_31 fp_X8_44 (fun _ => o6) h1 k902 rfl ⟨_, rfl⟩ rfl rfl (by decide) (fun σ506 h507 g508 g509 f510 => ?_)
      refine m_aload_n F rfl e_X8_copyTo_34 ?_
      refine m_iload_n F rfl e_X8_copyTo_35 ?_
      refine m_if_eq F e_X8_copyTo_36 (fun q => absurd q (by decide)) (fun _ => ?_)
      refine m_aload_n F rfl e_X8_copyTo_39 ?_
      refine t_get F e_X8_copyTo_40 fl_X8_15 (fun _ => o16) h507 hk rfl (fun v hv f511 => ?_)
      obtain ⟨r512, k513, rfl⟩ := hv
      refine m_iload_n F rfl e_X8_copyTo_43 ?_
      refine t_lald F (len := 72) (j := n491) e_X8_copyTo_44 (fun _ => o17) h507 k513 (nI_clamp (by omega)) (vp_in_nI (by omega) (by decide)) (fun x514 => ?_)
      refine m_goto F e_X8_copyTo_45 ?_
      refine t_put F e_X8_copyTo_49 fp_X8_54 (fun _ => o6) h507 k902 rfl ⟨_, rfl⟩ rfl rfl (by decide) (fun σ515 h516 g517 g518 f519 => ?_)
      exact m_vret F hQ e_X8_copyTo_52 (⟨h516, rfl⟩)
set_option maxRecDepth 20000 in
theorem s_X8_addTo (l : Launch) (V : VX) (b M Z T N : Nat) (σ : Mem) (a : Nat) (x901 : Int32) (r902 : Nat) (h0 : HT V (b, M, Z, T) σ) (hk : kA b a = 16) (k902 : kA b r902 = 6) (hM : M + 0 ≤ 1000000000) : Ct l V yX8_addTo cX8_addTo 3 none 0 0 0 N σ [.ref a, .int x901, .ref r902] (fun r τ => HK V (b, M, Z, T) [0, 1, 2, 3, 4, 5, 7, 8, 9, 10, 11, 12, 13, 14, 15, 16, 17, 18, 19] σ τ ∧ r = none) := by
  refine Ct.of (by decide) (Nat.le_of_ble_eq_true rfl) [(0, .ref a), (1, .int x901), (2, .ref r902)] rfl (fun X hX F hQ => ?_)
  have h1 : HK V (b, M, Z, T) [0, 1, 2, 3, 4, 5, 7, 8, 9, 10, 11, 12, 13, 14, 15, 16, 17, 18, 19] σ σ := HK.start h0
  refine m_iload_n F rfl e_X8_addTo_0 ?_
  refine m_if_lt F e_X8_addTo_1 (fun q1 => ?_) (fun q1 => ?_)
  · exact m_vret F hQ e_X8_addTo_60 (⟨h1, rfl⟩)
  · obtain ⟨n520, hn520, rfl⟩ := nI_nn (x := x901) (fun e => q1 (Int32.lt_of_lt_of_le e (by decide)))
    have c1 : n520 ≥ 0 := by have hh := mt (nI_ltI (a := n520) (b := 0) (by omega) (by omega)).mpr q1; omega
    refine m_iload_n F rfl e_X8_addTo_4 ?_
    refine m_bipush F (v := 72) (by decide) e_X8_addTo_5 ?_
    refine m_icmp_ge F e_X8_addTo_7 (fun q7 => ?_) (fun q7 => ?_)
    · have c7 : n520 ≥ 72 := (nI_leI (a := 72) (b := n520) (by omega) (by omega)).mp q7
      exact m_vret F hQ e_X8_addTo_60 (⟨h1, rfl⟩)
    · have c7 : n520 < 72 := by have hh := mt (nI_leI (a := 72) (b := n520) (by omega) (by omega)).mpr q7; omega
      refine m_aload_n F rfl e_X8_addTo_10 ?_
      refine m_dup F rfl e_X8_addTo_11 ?_
      refine t_get F e_X8_addTo_12 fl_X8_54 (fun _ => o6) h1 k902 rfl (fun v hv f521 => ?_)
      obtain ⟨x522, rfl⟩ := hv
      refine m_aload_n F rfl e_X8_addTo_15 ?_
      refine t_get F e_X8_addTo_16 fl_X8_15 (fun _ => o16) h1 hk rfl (fun v hv f523 => ?_)
      obtain ⟨r524, k525, rfl⟩ := hv
      refine m_iload_n F rfl e_X8_addTo_19 ?_
      refine t_lald F (len := 72) (j := n520) e_X8_addTo_20 (fun _ => o17) h1 k525 (nI_clamp (by omega)) (vp_in_nI (by omega) (by decide)) (fun x526 => ?_)
      refine m_ladd F e_X8_addTo_21 ?_
      refine Wm.topl (fun x527 _ => ?_)
      refine t_put F e_X8_addTo_22 fp_X8_54 (fun _ => o6) h1 k902 rfl ⟨_, rfl⟩ rfl rfl (by decide) (fun σ528 h529 g530 g531 f532 => ?_)
      refine m_aload_n F rfl e_X8_addTo_25 ?_
      refine m_dup F rfl e_X8_addTo_26 ?_
      refine t_get F e_X8_addTo_27 fl_X8_44 (fun _ => o6) h529 k902 rfl (fun v hv f533 => ?_)
      obtain ⟨x534, rfl⟩ := hv
      refine m_aload_n F rfl e_X8_addTo_30 ?_
      refine t_get F e_X8_addTo_31 fl_X8_9 (fun _ => o16) h529 hk rfl (fun v hv f535 => ?_)
      obtain ⟨r536, k537, rfl⟩ := hv
      refine m_iload_n F rfl e_X8_addTo_34 ?_
      refine t_lald F (len := 72) (j := n520) e_X8_addTo_35 (fun _ => o17) h529 k537 (nI_clamp (by omega)) (vp_in_nI (by omega) (by decide)) (fun x538 => ?_)
      refine m_aload_n F rfl e_X8_addTo_36 ?_
      refine t_getC F e_X8_addTo_37 fl_X8_54 (fun _ => o6) h529 k902 (f532) ?_
      refine m_bipush F (v := 42) (by decide) e_X8_addTo_40 ?_
      refine m_lshr F e_X8_addTo_42 ?_
      refine Wm.topl (fun x539 _ => ?_)
      refine m_ladd F e_X8_addTo_43 ?_
      refine Wm.topl (fun x540 _ => ?_)
      refine m_ladd F e_X8_addTo_44 ?_
      refine Wm.topl (fun x541 _ => ?_)
      refine t_put F e_X8_addTo_45 fp_X8_44 (fun _ => o6) h529 k902 rfl ⟨_, rfl⟩ rfl rfl (by decide) (fun σ542 h543 g544 g545 f546 => ?_)
      refine m_aload_n F rfl e_X8_addTo_48 ?_
      refine m_dup F rfl e_X8_addTo_49 ?_
      refine t_getC F e_X8_addTo_50 fl_X8_54 (fun _ => o6) h543 k902 ((g545 1 (by decide)).trans f532) ?_
      refine m_ldc2 F kc_X8_57 e_X8_addTo_53 ?_
      refine m_land F e_X8_addTo_56 ?_
      refine Wm.topl (fun x547 _ => ?_)
      refine t_put F e_X8_addTo_57 fp_X8_54 (fun _ => o6) h543 k902 rfl ⟨_, rfl⟩ rfl rfl (by decide) (fun σ548 h549 g550 g551 f552 => ?_)
      exact m_vret F hQ e_X8_addTo_60 (⟨h549, rfl⟩)
set_option maxRecDepth 20000 in
theorem s_X8_put (l : Launch) (V : VX) (b M Z T N : Nat) (σ : Mem) (a : Nat) (x901 : Int32) (r902 : Nat) (h0 : HT V (b, M, Z, T) σ) (hk : kA b a = 16) (k902 : kA b r902 = 6) (hM : M + 0 ≤ 1000000000) : Ct l V yX8_put cX8_put 3 none 0 0 0 N σ [.ref a, .int x901, .ref r902] (fun r τ => HK V (b, M, Z, T) [0, 1, 2, 3, 4, 5, 6, 7, 8, 9, 10, 11, 12, 13, 14, 15, 16, 18, 19] σ τ ∧ r = none) := by
  refine Ct.of (by decide) (Nat.le_of_ble_eq_true rfl) [(0, .ref a), (1, .int x901), (2, .ref r902)] rfl (fun X hX F hQ => ?_)
  have h1 : HK V (b, M, Z, T) [0, 1, 2, 3, 4, 5, 6, 7, 8, 9, 10, 11, 12, 13, 14, 15, 16, 18, 19] σ σ := HK.start h0
  refine m_iload_n F rfl e_X8_put_0 ?_
  refine m_if_lt F e_X8_put_1 (fun q1 => ?_) (fun q1 => ?_)
  · exact m_vret F hQ e_X8_put_30 (⟨h1, rfl⟩)
  · obtain ⟨n553, hn553, rfl⟩ := nI_nn (x := x901) (fun e => q1 (Int32.lt_of_lt_of_le e (by decide)))
    have c1 : n553 ≥ 0 := by have hh := mt (nI_ltI (a := n553) (b := 0) (by omega) (by omega)).mpr q1; omega
    refine m_iload_n F rfl e_X8_put_4 ?_
    refine m_bipush F (v := 72) (by decide) e_X8_put_5 ?_
    refine m_icmp_ge F e_X8_put_7 (fun q7 => ?_) (fun q7 => ?_)
    · have c7 : n553 ≥ 72 := (nI_leI (a := 72) (b := n553) (by omega) (by omega)).mp q7
      exact m_vret F hQ e_X8_put_30 (⟨h1, rfl⟩)
    · have c7 : n553 < 72 := by have hh := mt (nI_leI (a := 72) (b := n553) (by omega) (by omega)).mpr q7; omega
      refine m_aload_n F rfl e_X8_put_10 ?_
      refine t_get F e_X8_put_11 fl_X8_9 (fun _ => o16) h1 hk rfl (fun v hv f554 => ?_)
      obtain ⟨r555, k556, rfl⟩ := hv
      refine m_iload_n F rfl e_X8_put_14 ?_
      refine m_aload_n F rfl e_X8_put_15 ?_
      refine t_get F e_X8_put_16 fl_X8_44 (fun _ => o6) h1 k902 rfl (fun v hv f557 => ?_)
      obtain ⟨x558, rfl⟩ := hv
      refine t_last F (len := 72) (j := n553) e_X8_put_19 (fun _ => o17) h1 k556 (nI_clamp (by omega)) (vp_in_nI (by omega) (by decide)) (by decide) (fun σ559 h560 g561 => ?_)
      refine m_aload_n F rfl e_X8_put_20 ?_
      refine t_get F e_X8_put_21 fl_X8_15 (fun _ => o16) h560 hk rfl (fun v hv f562 => ?_)
      obtain ⟨r563, k564, rfl⟩ := hv
      refine m_iload_n F rfl e_X8_put_24 ?_
      refine m_aload_n F rfl e_X8_put_25 ?_
      refine t_get F e_X8_put_26 fl_X8_54 (fun _ => o6) h560 k902 rfl (fun v hv f565 => ?_)
      obtain ⟨x566, rfl⟩ := hv
      refine t_last F (len := 72) (j := n553) e_X8_put_29 (fun _ => o17) h560 k564 (nI_clamp (by omega)) (vp_in_nI (by omega) (by decide)) (by decide) (fun σ567 h568 g569 => ?_)
      exact m_vret F hQ e_X8_put_30 (⟨h568, rfl⟩)
set_option maxRecDepth 20000 in
theorem s_X8_setAt (l : Launch) (V : VX) (b M Z T N : Nat) (σ : Mem) (a : Nat) (x901 : Int32) (x902 : Int64) (h0 : HT V (b, M, Z, T) σ) (hk : kA b a = 16) (hM : M + 0 ≤ 1000000000) : Ct l V yX8_setAt cX8_setAt 4 none 1 0 0 N σ [.ref a, .int x901, .long x902] (fun r τ => HK V (b, M, Z, T) [0, 1, 2, 3, 4, 5, 7, 8, 9, 10, 11, 12, 13, 14, 15, 16, 18, 19] σ τ ∧ r = none) := by
  refine Ct.of (by decide) (Nat.le_of_ble_eq_true rfl) [(0, .ref a), (1, .int x901), (2, .long x902)] rfl (fun X hX F hQ => ?_)
  have h1 : HK V (b, M, Z, T) [0, 1, 2, 3, 4, 5, 7, 8, 9, 10, 11, 12, 13, 14, 15, 16, 18, 19] σ σ := HK.start h0
  refine m_aload_n F rfl e_X8_setAt_0 ?_
  refine t_get F e_X8_setAt_1 fl_X8_21 (fun _ => o16) h1 hk rfl (fun v hv f570 => ?_)
  obtain ⟨r571, k572, rfl⟩ := hv
  refine m_lload_n F rfl e_X8_setAt_4 ?_
  refine t_callV F e_X8_setAt_5 (s_X1_set (x_l X) V b M Z T _ _ r571 x902 h1.1 k572  (by omega)) cb_X1_set ml_X8_40 im_X1_set se_X1_set (fun _ => o6) h1 k572 rfl rfl (rest := []) rfl (Nat.le_of_ble_eq_true rfl) ⟨Nat.le_of_ble_eq_true rfl, Nat.le_of_ble_eq_true rfl⟩ ⟨Nat.le_of_ble_eq_true rfl, Nat.le_of_ble_eq_true rfl⟩ (fun r σ573 hp => ?_)
  obtain ⟨h575, rfl⟩ := hp
  have h574 := HK.trans h1 h575 (by decide)
  refine m_aload_n F rfl e_X8_setAt_8 ?_
  refine m_iload_n F rfl e_X8_setAt_9 ?_
  refine m_aload_n F rfl e_X8_setAt_10 ?_
  refine t_getC F e_X8_setAt_11 fl_X8_21 (fun _ => o16) h574 hk ((fld_eq (h575.2 a (by rw [show kA _ a = 16 from hk]; decide))).trans f570) ?_
  refine t_callV F e_X8_setAt_14 (s_X8_put (x_l X) V b M Z T _ _ a x901 r571 h574.1 hk k572 (by omega)) cb_X8_put ml_X8_59 im_X8_put se_X8_put (fun _ => o16) h574 hk rfl rfl (rest := []) rfl (Nat.le_of_ble_eq_true rfl) ⟨Nat.le_of_ble_eq_true rfl, Nat.le_of_ble_eq_true rfl⟩ ⟨Nat.le_of_ble_eq_true rfl, Nat.le_of_ble_eq_true rfl⟩ (fun r σ576 hp => ?_)
  obtain ⟨h578, rfl⟩ := hp
  have h577 := HK.trans h574 h578 (by decide)
  exact m_vret F hQ e_X8_setAt_17 (⟨h577, rfl⟩)
set_option maxRecDepth 20000 in
theorem s_X8_addAt (l : Launch) (V : VX) (b M Z T N : Nat) (σ : Mem) (a : Nat) (x901 : Int32) (x902 : Int64) (h0 : HT V (b, M, Z, T) σ) (hk : kA b a = 16) (hM : M + 0 ≤ 1000000000) : Ct l V yX8_addAt cX8_addAt 4 none 1 0 0 N σ [.ref a, .int x901, .long x902] (fun r τ => HK V (b, M, Z, T) [0, 1, 2, 3, 4, 5, 7, 8, 9, 10, 11, 12, 13, 14, 15, 16, 18, 19] σ τ ∧ r = none) := by
  refine Ct.of (by decide) (Nat.le_of_ble_eq_true rfl) [(0, .ref a), (1, .int x901), (2, .long x902)] rfl (fun X hX F hQ => ?_)
  have h1 : HK V (b, M, Z, T) [0, 1, 2, 3, 4, 5, 7, 8, 9, 10, 11, 12, 13, 14, 15, 16, 18, 19] σ σ := HK.start h0
  refine m_aload_n F rfl e_X8_addAt_0 ?_
  refine m_iload_n F rfl e_X8_addAt_1 ?_
  refine m_aload_n F rfl e_X8_addAt_2 ?_
  refine t_get F e_X8_addAt_3 fl_X8_21 (fun _ => o16) h1 hk rfl (fun v hv f579 => ?_)
  obtain ⟨r580, k581, rfl⟩ := hv
  refine t_callV F e_X8_addAt_6 (s_X8_copyTo (x_l X) V b M Z T _ _ a x901 r580 h1.1 hk k581 (by omega)) cb_X8_copyTo ml_X8_63 im_X8_copyTo se_X8_copyTo (fun _ => o16) h1 hk rfl rfl (rest := []) rfl (Nat.le_of_ble_eq_true rfl) ⟨Nat.le_of_ble_eq_true rfl, Nat.le_of_ble_eq_true rfl⟩ ⟨Nat.le_of_ble_eq_true rfl, Nat.le_of_ble_eq_true rfl⟩ (fun r σ582 hp => ?_)
  obtain ⟨h584, rfl⟩ := hp
  have h583 := HK.trans h1 h584 (by decide)
  refine m_aload_n F rfl e_X8_addAt_9 ?_
  refine t_getC F e_X8_addAt_10 fl_X8_21 (fun _ => o16) h583 hk ((fld_eq (h584.2 a (by rw [show kA _ a = 16 from hk]; decide))).trans f579) ?_
  refine m_lload_n F rfl e_X8_addAt_13 ?_
  refine t_callV F e_X8_addAt_14 (s_X1_addLong (x_l X) V b M Z T _ _ r580 x902 h583.1 k581  (by omega)) cb_X1_addLong ml_X8_66 im_X1_addLong se_X1_addLong (fun _ => o6) h583 k581 rfl rfl (rest := []) rfl (Nat.le_of_ble_eq_true rfl) ⟨Nat.le_of_ble_eq_true rfl, Nat.le_of_ble_eq_true rfl⟩ ⟨Nat.le_of_ble_eq_true rfl, Nat.le_of_ble_eq_true rfl⟩ (fun r σ585 hp => ?_)
  obtain ⟨h587, rfl⟩ := hp
  have h586 := HK.trans h583 h587 (by decide)
  refine m_aload_n F rfl e_X8_addAt_17 ?_
  refine m_iload_n F rfl e_X8_addAt_18 ?_
  refine m_aload_n F rfl e_X8_addAt_19 ?_
  refine t_getC F e_X8_addAt_20 fl_X8_21 (fun _ => o16) h586 hk ((fld_eq (h587.2 a (by rw [show kA _ a = 16 from hk]; decide))).trans ((fld_eq (h584.2 a (by rw [show kA _ a = 16 from hk]; decide))).trans f579)) ?_
  refine t_callV F e_X8_addAt_23 (s_X8_put (x_l X) V b M Z T _ _ a x901 r580 h586.1 hk k581 (by omega)) cb_X8_put ml_X8_59 im_X8_put se_X8_put (fun _ => o16) h586 hk rfl rfl (rest := []) rfl (Nat.le_of_ble_eq_true rfl) ⟨Nat.le_of_ble_eq_true rfl, Nat.le_of_ble_eq_true rfl⟩ ⟨Nat.le_of_ble_eq_true rfl, Nat.le_of_ble_eq_true rfl⟩ (fun r σ588 hp => ?_)
  obtain ⟨h590, rfl⟩ := hp
  have h589 := HK.trans h586 h590 (by decide)
  exact m_vret F hQ e_X8_addAt_26 (⟨h589, rfl⟩)
set_option maxRecDepth 20000 in
theorem s_X8_repeat (l : Launch) (V : VX) (b M Z T N : Nat) (σ : Mem) (a : Nat) (x901 : Int32) (h0 : HT V (b, M, Z, T) σ) (hk : kA b a = 16) (hM : M + 0 ≤ 1000000000) : Ct l V yX8_repeat cX8_repeat 2 none 1 0 0 N σ [.ref a, .int x901] (fun r τ => HK V (b, M, Z, T) [0, 1, 2, 3, 4, 5, 7, 8, 9, 10, 11, 12, 13, 14, 15, 16, 18, 19] σ τ ∧ r = none) := by
  refine Ct.of (by decide) (Nat.le_of_ble_eq_true rfl) [(0, .ref a), (1, .int x901)] rfl (fun X hX F hQ => ?_)
  have h1 : HK V (b, M, Z, T) [0, 1, 2, 3, 4, 5, 7, 8, 9, 10, 11, 12, 13, 14, 15, 16, 18, 19] σ σ := HK.start h0
  refine m_aload_n F rfl e_X8_repeat_0 ?_
  refine m_iload_n F rfl e_X8_repeat_1 ?_
  refine m_aload_n F rfl e_X8_repeat_2 ?_
  refine t_get F e_X8_repeat_3 fl_X8_21 (fun _ => o16) h1 hk rfl (fun v hv f591 => ?_)
  obtain ⟨r592, k593, rfl⟩ := hv
  refine t_callV F e_X8_repeat_6 (s_X8_copyTo (x_l X) V b M Z T _ _ a x901 r592 h1.1 hk k593 (by omega)) cb_X8_copyTo ml_X8_63 im_X8_copyTo se_X8_copyTo (fun _ => o16) h1 hk rfl rfl (rest := []) rfl (Nat.le_of_ble_eq_true rfl) ⟨Nat.le_of_ble_eq_true rfl, Nat.le_of_ble_eq_true rfl⟩ ⟨Nat.le_of_ble_eq_true rfl, Nat.le_of_ble_eq_true rfl⟩ (fun r σ594 hp => ?_)
  obtain ⟨h596, rfl⟩ := hp
  have h595 := HK.trans h1 h596 (by decide)
  refine m_aload_n F rfl e_X8_repeat_9 ?_
  refine m_iload_n F rfl e_X8_repeat_10 ?_
  refine m_iconst F (v := 1) (by decide) e_X8_repeat_11 ?_
  refine m_iadd F e_X8_repeat_12 ?_
  refine Wm.top (fun x597 _ => ?_)
  refine m_aload_n F rfl e_X8_repeat_13 ?_
  refine t_getC F e_X8_repeat_14 fl_X8_21 (fun _ => o16) h595 hk ((fld_eq (h596.2 a (by rw [show kA _ a = 16 from hk]; decide))).trans f591) ?_
  refine t_callV F e_X8_repeat_17 (s_X8_put (x_l X) V b M Z T _ _ a x597 r592 h595.1 hk k593 (by omega)) cb_X8_put ml_X8_59 im_X8_put se_X8_put (fun _ => o16) h595 hk rfl rfl (rest := []) rfl (Nat.le_of_ble_eq_true rfl) ⟨Nat.le_of_ble_eq_true rfl, Nat.le_of_ble_eq_true rfl⟩ ⟨Nat.le_of_ble_eq_true rfl, Nat.le_of_ble_eq_true rfl⟩ (fun r σ598 hp => ?_)
  obtain ⟨h600, rfl⟩ := hp
  have h599 := HK.trans h595 h600 (by decide)
  exact m_vret F hQ e_X8_repeat_20 (⟨h599, rfl⟩)
set_option maxRecDepth 20000 in
theorem s_X8_move (l : Launch) (V : VX) (b M Z T N : Nat) (σ : Mem) (a : Nat) (x901 : Int32) (x902 : Int32) (h0 : HT V (b, M, Z, T) σ) (hk : kA b a = 16) (hM : M + 0 ≤ 1000000000) : Ct l V yX8_move cX8_move 3 none 2 0 0 N σ [.ref a, .int x901, .int x902] (fun r τ => HK V (b, M, Z, T) [0, 1, 2, 3, 4, 5, 7, 8, 9, 10, 11, 12, 13, 14, 15, 16, 18, 19] σ τ ∧ r = none) := by
  refine Ct.of (by decide) (Nat.le_of_ble_eq_true rfl) [(0, .ref a), (1, .int x901), (2, .int x902)] rfl (fun X hX F hQ => ?_)
  have h1 : HK V (b, M, Z, T) [0, 1, 2, 3, 4, 5, 7, 8, 9, 10, 11, 12, 13, 14, 15, 16, 18, 19] σ σ := HK.start h0
  refine m_aload_n F rfl e_X8_move_0 ?_
  refine m_iload_n F rfl e_X8_move_1 ?_
  refine m_aload_n F rfl e_X8_move_2 ?_
  refine t_get F e_X8_move_3 fl_X8_21 (fun _ => o16) h1 hk rfl (fun v hv f601 => ?_)
  obtain ⟨r602, k603, rfl⟩ := hv
  refine t_callV F e_X8_move_6 (s_X8_copyTo (x_l X) V b M Z T _ _ a x901 r602 h1.1 hk k603 (by omega)) cb_X8_copyTo ml_X8_63 im_X8_copyTo se_X8_copyTo (fun _ => o16) h1 hk rfl rfl (rest := []) rfl (Nat.le_of_ble_eq_true rfl) ⟨Nat.le_of_ble_eq_true rfl, Nat.le_of_ble_eq_true rfl⟩ ⟨Nat.le_of_ble_eq_true rfl, Nat.le_of_ble_eq_true rfl⟩ (fun r σ604 hp => ?_)
  obtain ⟨h606, rfl⟩ := hp
  have h605 := HK.trans h1 h606 (by decide)
  refine m_aload_n F rfl e_X8_move_9 ?_
  refine m_iload_n F rfl e_X8_move_10 ?_
  refine m_aload_n F rfl e_X8_move_11 ?_
  refine t_getC F e_X8_move_12 fl_X8_21 (fun _ => o16) h605 hk ((fld_eq (h606.2 a (by rw [show kA _ a = 16 from hk]; decide))).trans f601) ?_
  refine t_callV F e_X8_move_15 (s_X8_addTo (x_l X) V b M Z T _ _ a x902 r602 h605.1 hk k603 (by omega)) cb_X8_addTo ml_X8_69 im_X8_addTo se_X8_addTo (fun _ => o16) h605 hk rfl rfl (rest := []) rfl (Nat.le_of_ble_eq_true rfl) ⟨Nat.le_of_ble_eq_true rfl, Nat.le_of_ble_eq_true rfl⟩ ⟨Nat.le_of_ble_eq_true rfl, Nat.le_of_ble_eq_true rfl⟩ (fun r σ607 hp => ?_)
  obtain ⟨h609, rfl⟩ := hp
  have h608 := HK.trans h605 h609 (by decide)
  refine m_aload_n F rfl e_X8_move_18 ?_
  refine m_iload_n F rfl e_X8_move_19 ?_
  refine m_aload_n F rfl e_X8_move_20 ?_
  refine t_getC F e_X8_move_21 fl_X8_21 (fun _ => o16) h608 hk ((fld_eq (h609.2 a (by rw [show kA _ a = 16 from hk]; decide))).trans ((fld_eq (h606.2 a (by rw [show kA _ a = 16 from hk]; decide))).trans f601)) ?_
  refine t_callV F e_X8_move_24 (s_X8_put (x_l X) V b M Z T _ _ a x902 r602 h608.1 hk k603 (by omega)) cb_X8_put ml_X8_59 im_X8_put se_X8_put (fun _ => o16) h608 hk rfl rfl (rest := []) rfl (Nat.le_of_ble_eq_true rfl) ⟨Nat.le_of_ble_eq_true rfl, Nat.le_of_ble_eq_true rfl⟩ ⟨Nat.le_of_ble_eq_true rfl, Nat.le_of_ble_eq_true rfl⟩ (fun r σ610 hp => ?_)
  obtain ⟨h612, rfl⟩ := hp
  have h611 := HK.trans h608 h612 (by decide)
  refine m_aload_n F rfl e_X8_move_27 ?_
  refine m_iload_n F rfl e_X8_move_28 ?_
  refine m_lconst F (v := 0) (by decide) e_X8_move_29 ?_
  refine t_callV F e_X8_move_30 (s_X8_setAt (x_l X) V b M Z T _ _ a x901 0 h611.1 hk  (by omega)) cb_X8_setAt ml_X8_72 im_X8_setAt se_X8_setAt (fun _ => o16) h611 hk rfl rfl (rest := []) rfl (Nat.le_of_ble_eq_true rfl) ⟨Nat.le_of_ble_eq_true rfl, Nat.le_of_ble_eq_true rfl⟩ ⟨Nat.le_of_ble_eq_true rfl, Nat.le_of_ble_eq_true rfl⟩ (fun r σ613 hp => ?_)
  obtain ⟨h615, rfl⟩ := hp
  have h614 := HK.trans h611 h615 (by decide)
  exact m_vret F hQ e_X8_move_33 (⟨h614, rfl⟩)
set_option maxRecDepth 20000 in
theorem lp_X8_shareDownOf_3 {V : VX} {X : MX} {b M Z T N : Nat} {σ : Mem} {a : Nat} {r901 : Nat} {x902 : Int32} {x903 : Int32} {x904 : Int64} {x905 : Int64}  (F : Fx V X yX8_shareDownOf cX8_shareDownOf 9 none (rmd 2 0 0)) (hQ : Rt V X 0 0 N (fun r τ => HK V (b, M, Z, T) [0, 1, 2, 3, 4, 5, 7, 8, 9, 10, 11, 12, 13, 14, 15, 16, 18, 19] σ τ ∧ r = none)) (hk : kA b a = 16) (k901 : kA b r901 = 16) (hM : M + 0 ≤ 1000000000)  : ∀ (fuel : Nat) (i1 : Int32) (τ : Mem), HK V (b, M, Z, T) [0, 1, 2, 3, 4, 5, 7, 8, 9, 10, 11, 12, 13, 14, 15, 16, 18, 19] σ τ → True → (x903.toInt - i1.toInt).toNat < fuel → Wm V X 9 N τ 0 0 3 [(8, .int i1), (0, .ref a), (1, .ref r901), (2, .int x902), (3, .int x903), (4, .long x904), (6, .long x905)] [] := by
  intro fuel
  induction fuel with
  | zero => intro i1 τ h1 hi hm; exact absurd hm (Nat.not_lt_zero _)
  | succ fuel ih =>
    intro i1 τ h1 hi hm
    refine m_iload F rfl e_X8_shareDownOf_3 ?_
    refine m_iload_n F rfl e_X8_shareDownOf_5 ?_
    refine m_icmp_ge F e_X8_shareDownOf_6 (fun q6 => ?_) (fun q6 => ?_)
    · exact m_vret F hQ e_X8_shareDownOf_46 (⟨h1, rfl⟩)
    · refine m_aload_n F rfl e_X8_shareDownOf_9 ?_
      refine m_iload F rfl e_X8_shareDownOf_10 ?_
      refine m_aload_n F rfl e_X8_shareDownOf_12 ?_
      refine t_get F e_X8_shareDownOf_13 fl_X8_21 (fun _ => o16) h1 hk rfl (fun v hv f616 => ?_)
      obtain ⟨r617, k618, rfl⟩ := hv
      refine t_callV F e_X8_shareDownOf_16 (s_X8_copyTo (x_l X) V b M Z T _ _ r901 i1 r617 h1.1 k901 k618 (by omega)) cb_X8_copyTo ml_X8_63 im_X8_copyTo se_X8_copyTo (fun _ => o16) h1 k901 rfl rfl (rest := []) rfl (Nat.le_of_ble_eq_true rfl) ⟨Nat.le_of_ble_eq_true rfl, Nat.le_of_ble_eq_true rfl⟩ ⟨Nat.le_of_ble_eq_true rfl, Nat.le_of_ble_eq_true rfl⟩ (fun r σ619 hp => ?_)
      obtain ⟨h621, rfl⟩ := hp
      have h620 := HK.trans h1 h621 (by decide)
      refine m_aload_n F rfl e_X8_shareDownOf_19 ?_
      refine t_getC F e_X8_shareDownOf_20 fl_X8_21 (fun _ => o16) h620 hk ((fld_eq (h621.2 a (by rw [show kA _ a = 16 from hk]; decide))).trans f616) ?_
      refine m_lload F rfl e_X8_shareDownOf_23 ?_
      refine m_lload F rfl e_X8_shareDownOf_25 ?_
      refine t_callV F e_X8_shareDownOf_27 (s_X1_shareDown (x_l X) V b M Z T _ _ r617 x904 x905 h620.1 k618  (by omega)) cb_X1_shareDown ml_X8_76 im_X1_shareDown se_X1_shareDown (fun _ => o6) h620 k618 rfl rfl (rest := []) rfl (Nat.le_of_ble_eq_true rfl) ⟨Nat.le_of_ble_eq_true rfl, Nat.le_of_ble_eq_true rfl⟩ ⟨Nat.le_of_ble_eq_true rfl, Nat.le_of_ble_eq_true rfl⟩ (fun r σ622 hp => ?_)
      obtain ⟨h624, rfl⟩ := hp
      have h623 := HK.trans h620 h624 (by decide)
      refine m_aload_n F rfl e_X8_shareDownOf_30 ?_
      refine m_iload F rfl e_X8_shareDownOf_31 ?_
      refine m_aload_n F rfl e_X8_shareDownOf_33 ?_
      refine t_getC F e_X8_shareDownOf_34 fl_X8_21 (fun _ => o16) h623 hk ((fld_eq (h624.2 a (by rw [show kA _ a = 16 from hk]; decide))).trans ((fld_eq (h621.2 a (by rw [show kA _ a = 16 from hk]; decide))).trans f616)) ?_
      refine t_callV F e_X8_shareDownOf_37 (s_X8_put (x_l X) V b M Z T _ _ a i1 r617 h623.1 hk k618 (by omega)) cb_X8_put ml_X8_59 im_X8_put se_X8_put (fun _ => o16) h623 hk rfl rfl (rest := []) rfl (Nat.le_of_ble_eq_true rfl) ⟨Nat.le_of_ble_eq_true rfl, Nat.le_of_ble_eq_true rfl⟩ ⟨Nat.le_of_ble_eq_true rfl, Nat.le_of_ble_eq_true rfl⟩ (fun r σ625 hp => ?_)
      obtain ⟨h627, rfl⟩ := hp
      have h626 := HK.trans h623 h627 (by decide)
      refine m_iinc F (v := (i1 + 1)) (lv' := [(8, .int (i1 + 1)), (0, .ref a), (1, .ref r901), (2, .int x902), (3, .int x903), (4, .long x904), (6, .long x905)]) e_X8_shareDownOf_40 rfl rfl (by decide) rfl ?_
      refine m_goto F e_X8_shareDownOf_43 ?_
      exact ih (i1 + 1) _ h626 trivial (by have h9 := inc_lt (Int32.not_le.mp q6); have h8 := Int32.lt_iff_toInt_lt.mp (Int32.not_le.mp q6); omega)
set_option maxRecDepth 20000 in
theorem s_X8_shareDownOf (l : Launch) (V : VX) (b M Z T N : Nat) (σ : Mem) (a : Nat) (r901 : Nat) (x902 : Int32) (x903 : Int32) (x904 : Int64) (x905 : Int64) (h0 : HT V (b, M, Z, T) σ) (hk : kA b a = 16) (k901 : kA b r901 = 16) (hM : M + 0 ≤ 1000000000) : Ct l V yX8_shareDownOf cX8_shareDownOf 9 none 2 0 0 N σ [.ref a, .ref r901, .int x902, .int x903, .long x904, .long x905] (fun r τ => HK V (b, M, Z, T) [0, 1, 2, 3, 4, 5, 7, 8, 9, 10, 11, 12, 13, 14, 15, 16, 18, 19] σ τ ∧ r = none) := by
  refine Ct.of (by decide) (Nat.le_of_ble_eq_true rfl) [(0, .ref a), (1, .ref r901), (2, .int x902), (3, .int x903), (4, .long x904), (6, .long x905)] rfl (fun X hX F hQ => ?_)
  have h1 : HK V (b, M, Z, T) [0, 1, 2, 3, 4, 5, 7, 8, 9, 10, 11, 12, 13, 14, 15, 16, 18, 19] σ σ := HK.start h0
  refine m_iload_n F rfl e_X8_shareDownOf_0 ?_
  refine m_istore F (lv' := [(8, .int x902), (0, .ref a), (1, .ref r901), (2, .int x902), (3, .int x903), (4, .long x904), (6, .long x905)]) e_X8_shareDownOf_1 (by decide) rfl ?_
  exact lp_X8_shareDownOf_3 F hQ hk k901 hM ((x903.toInt - x902.toInt).toNat + 1) x902 _ h1 trivial (Nat.lt_succ_self _)
set_option maxRecDepth 20000 in
theorem s_X6_copyFrom (l : Launch) (V : VX) (b M Z T N : Nat) (σ : Mem) (a : Nat) (r901 : Nat) (h0 : HT V (b, M, Z, T) σ) (hk : kA b a = 19) (k901 : kA b r901 = 19) (hM : M + 0 ≤ 1000000000) : Ct l V yX6_copyFrom cX6_copyFrom 2 none 0 0 0 N σ [.ref a, .ref r901] (fun r τ => HK V (b, M, Z, T) [0, 1, 2, 3, 4, 5, 6, 7, 8, 9, 10, 11, 12, 13, 14, 15, 16, 17, 18] σ τ ∧ r = none) := by
  refine Ct.of (by decide) (Nat.le_of_ble_eq_true rfl) [(0, .ref a), (1, .ref r901)] rfl (fun X hX F hQ => ?_)
  have h1 : HK V (b, M, Z, T) [0, 1, 2, 3, 4, 5, 6, 7, 8, 9, 10, 11, 12, 13, 14, 15, 16, 17, 18] σ σ := HK.start h0
  refine m_aload_n F rfl e_X6_copyFrom_0 ?_
  refine m_aload_n F rfl e_X6_copyFrom_1 ?_
  refine t_get F e_X6_copyFrom_2 fl_X6_7 (fun _ => o19) h1 k901 rfl (fun v hv f628 => ?_)
  obtain ⟨n629, hn629, rfl⟩ := hv
  replace hn629 : n629 ≤ 3 := hn629
  refine t_put F e_X6_copyFrom_5 fp_X6_7 (fun _ => o19) h1 hk rfl ⟨n629, (show n629 ≤ 3 by omega), rfl⟩ rfl rfl (by decide) (fun σ630 h631 g632 g633 f634 => ?_)
  refine m_aload_n F rfl e_X6_copyFrom_8 ?_
  refine m_aload_n F rfl e_X6_copyFrom_9 ?_
  refine t_get F e_X6_copyFrom_10 fl_X6_13 (fun _ => o19) h631 k901 rfl (fun v hv f635 => ?_)
  obtain ⟨n636, hn636, rfl⟩ := hv
  replace hn636 : n636 ≤ 24 := hn636
  refine t_put F e_X6_copyFrom_13 fp_X6_13 (fun _ => o19) h631 hk rfl ⟨n636, (show n636 ≤ 24 by omega), rfl⟩ rfl rfl (by decide) (fun σ637 h638 g639 g640 f641 => ?_)
  refine m_aload_n F rfl e_X6_copyFrom_16 ?_
  refine m_aload_n F rfl e_X6_copyFrom_17 ?_
  refine t_get F e_X6_copyFrom_18 fl_X6_16 (fun _ => o19) h638 k901 rfl (fun v hv f642 => ?_)
  obtain ⟨x643, rfl⟩ := hv
  refine t_put F e_X6_copyFrom_21 fp_X6_16 (fun _ => o19) h638 hk rfl ⟨_, rfl⟩ rfl rfl (by decide) (fun σ644 h645 g646 g647 f648 => ?_)
  refine m_aload_n F rfl e_X6_copyFrom_24 ?_
  refine m_aload_n F rfl e_X6_copyFrom_25 ?_
  refine t_get F e_X6_copyFrom_26 fl_X6_19 (fun _ => o19) h645 k901 rfl (fun v hv f649 => ?_)
  obtain ⟨n650, hn650, rfl⟩ := hv
  replace hn650 : n650 ≤ 1 := hn650
  refine t_put F e_X6_copyFrom_29 fp_X6_19 (fun _ => o19) h645 hk rfl ⟨n650, (show n650 ≤ 1 by omega), rfl⟩ (nz1 (by omega)) (fz1 (by omega)) (by decide) (fun σ651 h652 g653 g654 f655 => ?_)
  exact m_vret F hQ e_X6_copyFrom_32 (⟨h652, rfl⟩)
set_option maxRecDepth 20000 in
theorem s_X3_clear (l : Launch) (V : VX) (b M Z T N : Nat) (σ : Mem) (a : Nat) (h0 : HT V (b, M, Z, T) σ) (hk : kA b a = 12) (hM : M + 0 ≤ 1000000000) : Ct l V yX3_clear cX3_clear 1 none 1 0 0 N σ [.ref a] (fun r τ => HK V (b, M, Z, T) [0, 1, 2, 3, 4, 5, 6, 7, 8, 9, 10, 11, 13, 15, 16, 17, 18, 19] σ τ ∧ r = none) := by
  refine Ct.of (by decide) (Nat.le_of_ble_eq_true rfl) [(0, .ref a)] rfl (fun X hX F hQ => ?_)
  have h1 : HK V (b, M, Z, T) [0, 1, 2, 3, 4, 5, 6, 7, 8, 9, 10, 11, 13, 15, 16, 17, 18, 19] σ σ := HK.start h0
  refine m_aload_n F rfl e_X3_clear_0 ?_
  refine m_iconst F (v := 0) (by decide) e_X3_clear_1 ?_
  refine t_put F e_X3_clear_2 fp_X3_18 (fun _ => o12) h1 hk rfl ⟨0, (show 0 ≤ M by omega), rfl⟩ rfl rfl (by decide) (fun σ656 h657 g658 g659 f660 => ?_)
  refine m_aload_n F rfl e_X3_clear_5 ?_
  refine t_get F e_X3_clear_6 fl_X3_15 (fun _ => o12) h657 hk rfl (fun v hv f661 => ?_)
  obtain ⟨r662, k663, rfl⟩ := hv
  refine m_lconst F (v := 0) (by decide) e_X3_clear_9 ?_
  refine m_callS F e_X3_clear_10 (s_J7_fill_d0a16_14 (x_l X) V b M Z T _ _ r662 0 h657.1 k663 (by omega)) cb_J7_fill_d0a16 ml_X3_22 sm_J7_fill_d0a16 rfl (rest := []) rfl (Nat.le_of_ble_eq_true rfl) ⟨Nat.le_of_ble_eq_true rfl, Nat.le_of_ble_eq_true rfl⟩ ⟨Nat.le_of_ble_eq_true rfl, Nat.le_of_ble_eq_true rfl⟩ (k' := 0) (z' := 0) (N' := N) rfl rfl rfl (fun r σ664 hp => ?_)
  obtain ⟨h666, rfl⟩ := hp
  have h665 := HK.trans h657 h666 (by decide)
  exact m_vret F hQ e_X3_clear_13 (⟨h665, rfl⟩)
set_option maxRecDepth 20000 in
theorem s_X3_copyFrom (l : Launch) (V : VX) (b M Z T N : Nat) (σ : Mem) (a : Nat) (r901 : Nat) (h0 : HT V (b, M, Z, T) σ) (hk : kA b a = 12) (k901 : kA b r901 = 12) (hM : M + 0 ≤ 1000000000) : Ct l V yX3_copyFrom cX3_copyFrom 2 none 1 0 0 N σ [.ref a, .ref r901] (fun r τ => HK V (b, M, Z, T) [0, 1, 2, 3, 4, 5, 6, 7, 8, 9, 10, 11, 15, 16, 17, 18, 19] σ τ ∧ r = none) := by
  refine Ct.of (by decide) (Nat.le_of_ble_eq_true rfl) [(0, .ref a), (1, .ref r901)] rfl (fun X hX F hQ => ?_)
  have h1 : HK V (b, M, Z, T) [0, 1, 2, 3, 4, 5, 6, 7, 8, 9, 10, 11, 15, 16, 17, 18, 19] σ σ := HK.start h0
  refine m_aload_n F rfl e_X3_copyFrom_0 ?_
  refine m_aload_n F rfl e_X3_copyFrom_1 ?_
  refine t_get F e_X3_copyFrom_2 fl_X3_18 (fun _ => o12) h1 k901 rfl (fun v hv f667 => ?_)
  obtain ⟨n668, hn668, rfl⟩ := hv
  replace hn668 : n668 ≤ M := hn668
  refine t_put F e_X3_copyFrom_5 fp_X3_18 (fun _ => o12) h1 hk rfl ⟨n668, (show n668 ≤ M by omega), rfl⟩ rfl rfl (by decide) (fun σ669 h670 g671 g672 f673 => ?_)
  refine m_aload_n F rfl e_X3_copyFrom_8 ?_
  refine t_get F e_X3_copyFrom_9 fl_X3_11 (fun _ => o12) h670 k901 rfl (fun v hv f674 => ?_)
  obtain ⟨r675, k676, rfl⟩ := hv
  refine m_iconst F (v := 0) (by decide) e_X3_copyFrom_12 ?_
  refine m_aload_n F rfl e_X3_copyFrom_13 ?_
  refine t_get F e_X3_copyFrom_14 fl_X3_11 (fun _ => o12) h670 hk rfl (fun v hv f677 => ?_)
  obtain ⟨r678, k679, rfl⟩ := hv
  refine m_iconst F (v := 0) (by decide) e_X3_copyFrom_17 ?_
  refine m_sipush F (v := 360) (by decide) e_X3_copyFrom_18 ?_
  refine t_copyJ F (len := 360) e_X3_copyFrom_21 ac_X3_28 (fun _ => o13) (fun _ => o13) h670 k676 k679 (by decide) (by decide) (by decide) (by decide) (Nat.le_of_ble_eq_true rfl) (Nat.le_of_ble_eq_true rfl) (by decide) (fun σ680 h681 g682 => ?_)
  refine m_aload_n F rfl e_X3_copyFrom_24 ?_
  refine t_get F e_X3_copyFrom_25 fl_X3_15 (fun _ => o12) h681 k901 rfl (fun v hv f683 => ?_)
  obtain ⟨r684, k685, rfl⟩ := hv
  refine m_iconst F (v := 0) (by decide) e_X3_copyFrom_28 ?_
  refine m_aload_n F rfl e_X3_copyFrom_29 ?_
  refine t_get F e_X3_copyFrom_30 fl_X3_15 (fun _ => o12) h681 hk rfl (fun v hv f686 => ?_)
  obtain ⟨r687, k688, rfl⟩ := hv
  refine m_iconst F (v := 0) (by decide) e_X3_copyFrom_33 ?_
  refine m_bipush F (v := 6) (by decide) e_X3_copyFrom_34 ?_
  refine t_copyJ F (len := 6) e_X3_copyFrom_36 ac_X3_28 (fun _ => o14) (fun _ => o14) h681 k685 k688 (by decide) (by decide) (by decide) (by decide) (Nat.le_of_ble_eq_true rfl) (Nat.le_of_ble_eq_true rfl) (by decide) (fun σ689 h690 g691 => ?_)
  exact m_vret F hQ e_X3_copyFrom_39 (⟨h690, rfl⟩)
set_option maxRecDepth 20000 in
theorem s_X3_kept (l : Launch) (V : VX) (b M Z T N : Nat) (σ : Mem) (a : Nat) (t : Nat) (h0 : HT V (b, M, Z, T) σ) (hk : kA b a = 12) (hft : fld σ a 2 = some (.int (nI t))) (ht : t ≤ M) (hM : M + 0 ≤ 1000000000) : Ct l V yX3_kept cX3_kept 1 (some .int) 1 0 0 N σ [.ref a] (fun r τ => HK V (b, M, Z, T) [0, 1, 2, 3, 4, 5, 6, 7, 8, 9, 10, 11, 12, 13, 14, 15, 16, 17, 18, 19] σ τ ∧ ∃ n : Nat, n ≤ 40 ∧ n ≤ t ∧ r = some (.int (nI n))) := by
  refine Ct.of (by decide) (Nat.le_of_ble_eq_true rfl) [(0, .ref a)] rfl (fun X hX F hQ => ?_)
  have h1 : HK V (b, M, Z, T) [0, 1, 2, 3, 4, 5, 6, 7, 8, 9, 10, 11, 12, 13, 14, 15, 16, 17, 18, 19] σ σ := HK.start h0
  refine m_aload_n F rfl e_X3_kept_0 ?_
  refine t_getC F e_X3_kept_1 fl_X3_18 (fun _ => o12) h1 hk (hft) ?_
  refine m_bipush F (v := 40) (by decide) e_X3_kept_4 ?_
  refine m_min F e_X3_kept_6 ml_X3_34 sm_min ini_math co_min (Nat.le_of_ble_eq_true rfl) (Nat.le_of_ble_eq_true rfl) (Nat.le_of_ble_eq_true rfl) (Nat.le_of_ble_eq_true rfl) ?_
  refine Wm.topE (w := nI (min t 40)) (minN (a := t) (b := 40) (by omega) (by omega)) ?_
  exact m_iret F hQ e_X3_kept_9 (⟨h1, min t 40, by omega, by omega, rfl⟩)
set_option maxRecDepth 20000 in
theorem s_X3_open (l : Launch) (V : VX) (b M Z T N : Nat) (σ : Mem) (a : Nat) (x901 : Int32) (x902 : Int32) (x903 : Int32) (h0 : HT V (b, M, Z, T) σ) (hk : kA b a = 12) (hM : M + 1 ≤ 1000000000) : Ct l V yX3_open cX3_open 5 none 3 0 0 N σ [.ref a, .int x901, .int x902, .int x903] (fun r τ => HK V (b, M + 1, Z, T) [0, 1, 2, 3, 4, 5, 6, 7, 8, 9, 10, 11, 14, 15, 16, 17, 18, 19] σ τ ∧ r = none) := by
  refine Ct.of (by decide) (Nat.le_of_ble_eq_true rfl) [(0, .ref a), (1, .int x901), (2, .int x902), (3, .int x903)] rfl (fun X hX F hQ => ?_)
  have h1 : HK V (b, M, Z, T) [0, 1, 2, 3, 4, 5, 6, 7, 8, 9, 10, 11, 14, 15, 16, 17, 18, 19] σ σ := HK.start h0
  refine m_aload_n F rfl e_X3_open_0 ?_
  refine t_get F e_X3_open_1 fl_X3_18 (fun _ => o12) h1 hk rfl (fun v hv f692 => ?_)
  obtain ⟨n693, hn693, rfl⟩ := hv
  replace hn693 : n693 ≤ M := hn693
  refine m_bipush F (v := 40) (by decide) e_X3_open_4 ?_
  refine m_irem F (by decide) e_X3_open_6 ?_
  refine Wm.topE (w := nI (n693 % 40)) (pk_rem (a := n693) (d := 40) (by omega) (by decide) (by decide)) ?_
  refine m_bipush F (v := 9) (by decide) e_X3_open_7 ?_
  refine m_imul F e_X3_open_9 ?_
  refine Wm.topE (w := nI ((n693 % 40) * 9)) (pk_mul (n693 % 40) 9) ?_
  refine m_istore F (lv' := [(4, .int (nI ((n693 % 40) * 9))), (0, .ref a), (1, .int x901), (2, .int x902), (3, .int x903)]) e_X3_open_10 (by decide) rfl ?_
  refine m_aload_n F rfl e_X3_open_12 ?_
  refine m_dup F rfl e_X3_open_13 ?_
  refine t_getC F e_X3_open_14 fl_X3_18 (fun _ => o12) h1 hk (f692) ?_
  refine m_iconst F (v := 1) (by decide) e_X3_open_17 ?_
  refine m_iadd F e_X3_open_18 ?_
  refine Wm.topE (w := nI (n693 + 1)) (nI_add n693 1) ?_
  have h699 := h1.mono (M' := M + 1) (Z' := Z) (by omega) id
  refine t_put F e_X3_open_19 fp_X3_18 (fun _ => o12) h699 hk rfl ⟨n693 + 1, (show n693 + 1 ≤ M + 1 by omega), rfl⟩ rfl rfl (by decide) (fun σ694 h695 g696 g697 f698 => ?_)
  refine m_aload_n F rfl e_X3_open_22 ?_
  refine t_get F e_X3_open_23 fl_X3_11 (fun _ => o12) h695 hk rfl (fun v hv f700 => ?_)
  obtain ⟨r701, k702, rfl⟩ := hv
  refine m_iload F rfl e_X3_open_26 ?_
  refine m_iload_n F rfl e_X3_open_28 ?_
  refine m_i2l F e_X3_open_29 ?_
  refine Wm.topl (fun x703 _ => ?_)
  refine t_last F (len := 360) (j := (n693 % 40) * 9) e_X3_open_30 (fun _ => o13) h695 k702 (nI_clamp (by omega)) (vp_in_nI (by omega) (by decide)) (by decide) (fun σ704 h705 g706 => ?_)
  refine m_aload_n F rfl e_X3_open_31 ?_
  refine t_getC F e_X3_open_32 fl_X3_11 (fun _ => o12) h705 hk ((g706 a 0 (fun e => absurd ((hk).symm.trans e) (by decide))).trans f700) ?_
  refine m_iload F rfl e_X3_open_35 ?_
  refine m_iconst F (v := 1) (by decide) e_X3_open_37 ?_
  refine m_iadd F e_X3_open_38 ?_
  refine Wm.topE (w := nI ((n693 % 40) * 9 + 1)) (nI_add ((n693 % 40) * 9) 1) ?_
  refine m_iload_n F rfl e_X3_open_39 ?_
  refine m_i2l F e_X3_open_40 ?_
  refine Wm.topl (fun x707 _ => ?_)
  refine t_last F (len := 360) (j := (n693 % 40) * 9 + 1) e_X3_open_41 (fun _ => o13) h705 k702 (nI_clamp (by omega)) (vp_in_nI (by omega) (by decide)) (by decide) (fun σ708 h709 g710 => ?_)
  refine m_aload_n F rfl e_X3_open_42 ?_
  refine t_getC F e_X3_open_43 fl_X3_11 (fun _ => o12) h709 hk ((g710 a 0 (fun e => absurd ((hk).symm.trans e) (by decide))).trans ((g706 a 0 (fun e => absurd ((hk).symm.trans e) (by decide))).trans f700)) ?_
  refine m_iload F rfl e_X3_open_46 ?_
  refine m_iconst F (v := 2) (by decide) e_X3_open_48 ?_
  refine m_iadd F e_X3_open_49 ?_
  refine Wm.topE (w := nI ((n693 % 40) * 9 + 2)) (nI_add ((n693 % 40) * 9) 2) ?_
  refine m_iload_n F rfl e_X3_open_50 ?_
  refine m_i2l F e_X3_open_51 ?_
  refine Wm.topl (fun x711 _ => ?_)
  refine t_last F (len := 360) (j := (n693 % 40) * 9 + 2) e_X3_open_52 (fun _ => o13) h709 k702 (nI_clamp (by omega)) (vp_in_nI (by omega) (by decide)) (by decide) (fun σ712 h713 g714 => ?_)
  refine m_aload_n F rfl e_X3_open_53 ?_
  refine t_getC F e_X3_open_54 fl_X3_11 (fun _ => o12) h713 hk ((g714 a 0 (fun e => absurd ((hk).symm.trans e) (by decide))).trans ((g710 a 0 (fun e => absurd ((hk).symm.trans e) (by decide))).trans ((g706 a 0 (fun e => absurd ((hk).symm.trans e) (by decide))).trans f700))) ?_
  refine m_iload F rfl e_X3_open_57 ?_
  refine m_iconst F (v := 3) (by decide) e_X3_open_59 ?_
  refine m_iadd F e_X3_open_60 ?_
  refine Wm.topE (w := nI ((n693 % 40) * 9 + 3)) (nI_add ((n693 % 40) * 9) 3) ?_
  refine m_iload F rfl e_X3_open_61 ?_
  refine m_bipush F (v := 9) (by decide) e_X3_open_63 ?_
  refine m_iadd F e_X3_open_65 ?_
  refine Wm.topE (w := nI ((n693 % 40) * 9 + 9)) (nI_add ((n693 % 40) * 9) 9) ?_
  refine m_lconst F (v := 0) (by decide) e_X3_open_66 ?_
  refine m_callS F e_X3_open_67 (s_J7_fill_bad5a_13 (x_l X) V b (M + 1) Z T _ _ r701 ((n693 % 40) * 9 + 3) ((n693 % 40) * 9 + 9) 0 h713.1 k702 (by omega) (by omega) (by first | omega | assumption | decide) (by first | omega | assumption | decide) (by omega)) cb_J7_fill_bad5a ml_X3_40 sm_J7_fill_bad5a rfl (rest := []) rfl (Nat.le_of_ble_eq_true rfl) ⟨Nat.le_of_ble_eq_true rfl, Nat.le_of_ble_eq_true rfl⟩ ⟨Nat.le_of_ble_eq_true rfl, Nat.le_of_ble_eq_true rfl⟩ (k' := 0) (z' := 0) (N' := N) rfl rfl rfl (fun r σ715 hp => ?_)
  obtain ⟨h717, rfl⟩ := hp
  have h716 := HK.trans h713 h717 (by decide)
  exact m_vret F hQ e_X3_open_70 (⟨h716, rfl⟩)
set_option maxRecDepth 20000 in
theorem s_X3_put (l : Launch) (V : VX) (b M Z T N : Nat) (σ : Mem) (a : Nat) (x901 : Int32) (x902 : Int64) (h0 : HT V (b, M, Z, T) σ) (hk : kA b a = 12) (hM : M + 0 ≤ 1000000000) : Ct l V yX3_put cX3_put 4 none 0 0 0 N σ [.ref a, .int x901, .long x902] (fun r τ => HK V (b, M, Z, T) [0, 1, 2, 3, 4, 5, 6, 7, 8, 9, 10, 11, 12, 15, 16, 17, 18, 19] σ τ ∧ r = none) := by
  refine Ct.of (by decide) (Nat.le_of_ble_eq_true rfl) [(0, .ref a), (1, .int x901), (2, .long x902)] rfl (fun X hX F hQ => ?_)
  have h1 : HK V (b, M, Z, T) [0, 1, 2, 3, 4, 5, 6, 7, 8, 9, 10, 11, 12, 15, 16, 17, 18, 19] σ σ := HK.start h0
  refine m_aload_n F rfl e_X3_put_0 ?_
  refine t_get F e_X3_put_1 fl_X3_18 (fun _ => o12) h1 hk rfl (fun v hv f718 => ?_)
  obtain ⟨n719, hn719, rfl⟩ := hv
  replace hn719 : n719 ≤ M := hn719
  refine m_iconst F (v := 1) (by decide) e_X3_put_4 ?_
  refine m_icmp_lt F e_X3_put_5 (fun q5 => ?_) (fun q5 => ?_)
  · have c5 : n719 < 1 := (nI_ltI (a := n719) (b := 1) (by omega) (by omega)).mp q5
    exact m_vret F hQ e_X3_put_18 (⟨h1, rfl⟩)
  · have c5 : n719 ≥ 1 := by have hh := mt (nI_ltI (a := n719) (b := 1) (by omega) (by omega)).mpr q5; omega
    refine m_iload_n F rfl e_X3_put_8 ?_
    refine m_if_lt F e_X3_put_9 (fun q9 => ?_) (fun q9 => ?_)
    · exact m_vret F hQ e_X3_put_18 (⟨h1, rfl⟩)
    · obtain ⟨n720, hn720, rfl⟩ := nI_nn (x := x901) (fun e => q9 (Int32.lt_of_lt_of_le e (by decide)))
      have c9 : n720 ≥ 0 := by have hh := mt (nI_ltI (a := n720) (b := 0) (by omega) (by omega)).mpr q9; omega
      refine m_iload_n F rfl e_X3_put_12 ?_
      refine m_bipush F (v := 6) (by decide) e_X3_put_13 ?_
      refine m_icmp_lt F e_X3_put_15 (fun q15 => ?_) (fun q15 => ?_)
      · have c15 : n720 < 6 := (nI_ltI (a := n720) (b := 6) (by omega) (by omega)).mp q15
        refine m_aload_n F rfl e_X3_put_19 ?_
        refine t_get F e_X3_put_20 fl_X3_11 (fun _ => o12) h1 hk rfl (fun v hv f721 => ?_)
        obtain ⟨r722, k723, rfl⟩ := hv
        refine m_aload_n F rfl e_X3_put_23 ?_
        refine t_getC F e_X3_put_24 fl_X3_18 (fun _ => o12) h1 hk (f718) ?_
        refine m_iconst F (v := 1) (by decide) e_X3_put_27 ?_
        refine m_isub F e_X3_put_28 ?_
        refine Wm.topE (w := nI (n719 - 1)) (pk_sub (a := n719) (b := 1) (by omega)) ?_
        refine m_bipush F (v := 40) (by decide) e_X3_put_29 ?_
        refine m_irem F (by decide) e_X3_put_31 ?_
        refine Wm.topE (w := nI ((n719 - 1) % 40)) (pk_rem (a := n719 - 1) (d := 40) (by omega) (by decide) (by decide)) ?_
        refine m_bipush F (v := 9) (by decide) e_X3_put_32 ?_
        refine m_imul F e_X3_put_34 ?_
        refine Wm.topE (w := nI (((n719 - 1) % 40) * 9)) (pk_mul ((n719 - 1) % 40) 9) ?_
        refine m_iconst F (v := 3) (by decide) e_X3_put_35 ?_
        refine m_iadd F e_X3_put_36 ?_
        refine Wm.topE (w := nI (((n719 - 1) % 40) * 9 + 3)) (nI_add (((n719 - 1) % 40) * 9) 3) ?_
        refine m_iload_n F rfl e_X3_put_37 ?_
        refine m_iadd F e_X3_put_38 ?_
        refine Wm.topE (w := nI ((((n719 - 1) % 40) * 9 + 3) + n720)) (nI_add (((n719 - 1) % 40) * 9 + 3) n720) ?_
        refine m_dup2_11 F rfl rfl e_X3_put_39 ?_
        refine t_lald F (len := 360) (j := (((n719 - 1) % 40) * 9 + 3) + n720) e_X3_put_40 (fun _ => o13) h1 k723 (nI_clamp (by omega)) (vp_in_nI (by omega) (by decide)) (fun x724 => ?_)
        refine m_lload_n F rfl e_X3_put_41 ?_
        refine m_ladd F e_X3_put_42 ?_
        refine Wm.topl (fun x725 _ => ?_)
        refine t_last F (len := 360) (j := (((n719 - 1) % 40) * 9 + 3) + n720) e_X3_put_43 (fun _ => o13) h1 k723 (nI_clamp (by omega)) (vp_in_nI (by omega) (by decide)) (by decide) (fun σ726 h727 g728 => ?_)
        refine m_aload_n F rfl e_X3_put_44 ?_
        refine t_get F e_X3_put_45 fl_X3_15 (fun _ => o12) h727 hk rfl (fun v hv f729 => ?_)
        obtain ⟨r730, k731, rfl⟩ := hv
        refine m_iload_n F rfl e_X3_put_48 ?_
        refine m_dup2_11 F rfl rfl e_X3_put_49 ?_
        refine t_lald F (len := 6) (j := n720) e_X3_put_50 (fun _ => o14) h727 k731 (nI_clamp (by omega)) (vp_in_nI (by omega) (by decide)) (fun x732 => ?_)
        refine m_lload_n F rfl e_X3_put_51 ?_
        refine m_ladd F e_X3_put_52 ?_
        refine Wm.topl (fun x733 _ => ?_)
        refine t_last F (len := 6) (j := n720) e_X3_put_53 (fun _ => o14) h727 k731 (nI_clamp (by omega)) (vp_in_nI (by omega) (by decide)) (by decide) (fun σ734 h735 g736 => ?_)
        exact m_vret F hQ e_X3_put_54 (⟨h735, rfl⟩)
      · have c15 : n720 ≥ 6 := by have hh := mt (nI_ltI (a := n720) (b := 6) (by omega) (by omega)).mpr q15; omega
        exact m_vret F hQ e_X3_put_18 (⟨h1, rfl⟩)
set_option maxRecDepth 20000 in
theorem s_X3_told (l : Launch) (V : VX) (b M Z T N : Nat) (σ : Mem) (a : Nat) (x901 : Int32) (x902 : Int32) (h0 : HT V (b, M, Z, T) σ) (hk : kA b a = 12) (hM : M + 0 ≤ 1000000000) : Ct l V yX3_told cX3_told 3 (some .long) 2 0 0 N σ [.ref a, .int x901, .int x902] (fun r τ => HK V (b, M, Z, T) [0, 1, 2, 3, 4, 5, 6, 7, 8, 9, 10, 11, 12, 13, 14, 15, 16, 17, 18, 19] σ τ ∧ ∃ x : Int64, r = some (.long x)) := by
  refine Ct.of (by decide) (Nat.le_of_ble_eq_true rfl) [(0, .ref a), (1, .int x901), (2, .int x902)] rfl (fun X hX F hQ => ?_)
  have h1 : HK V (b, M, Z, T) [0, 1, 2, 3, 4, 5, 6, 7, 8, 9, 10, 11, 12, 13, 14, 15, 16, 17, 18, 19] σ σ := HK.start h0
  refine m_iload_n F rfl e_X3_told_0 ?_
  refine m_if_lt F e_X3_told_1 (fun q1 => ?_) (fun q1 => ?_)
  · refine m_lconst F (v := 0) (by decide) e_X3_told_22 ?_
    exact m_lret F hQ e_X3_told_23 (⟨h1, _, rfl⟩)
  · obtain ⟨n737, hn737, rfl⟩ := nI_nn (x := x901) (fun e => q1 (Int32.lt_of_lt_of_le e (by decide)))
    have c1 : n737 ≥ 0 := by have hh := mt (nI_ltI (a := n737) (b := 0) (by omega) (by omega)).mpr q1; omega
    refine m_iload_n F rfl e_X3_told_4 ?_
    refine m_aload_n F rfl e_X3_told_5 ?_
    obtain ⟨v9, ⟨n738, hn738, rfl⟩, f739⟩ := HK.f (j := 2) h1 (fun _ => o12) hk rfl
    replace hn738 : n738 ≤ M := hn738
    refine t_callV F e_X3_told_6 (s_X3_kept (x_l X) V b M Z T _ _ a n738 h1.1 hk (f739) (by omega) (by omega)) cb_X3_kept ml_X3_43 im_X3_kept se_X3_kept (fun _ => o12) h1 hk rfl rfl (rest := [.int (nI n737)]) rfl (Nat.le_of_ble_eq_true rfl) ⟨Nat.le_of_ble_eq_true rfl, Nat.le_of_ble_eq_true rfl⟩ ⟨Nat.le_of_ble_eq_true rfl, Nat.le_of_ble_eq_true rfl⟩ (fun r σ740 hp => ?_)
    obtain ⟨h742, n743, hn743, gn743, rfl⟩ := hp
    have h741 := HK.trans h1 h742 (by decide)
    refine m_icmp_ge F e_X3_told_9 (fun q9 => ?_) (fun q9 => ?_)
    · have c9 : n737 ≥ n743 := (nI_leI (a := n743) (b := n737) (by omega) (by omega)).mp q9
      refine m_lconst F (v := 0) (by decide) e_X3_told_22 ?_
      exact m_lret F hQ e_X3_told_23 (⟨h741, _, rfl⟩)
    · have c9 : n737 < n743 := by have hh := mt (nI_leI (a := n743) (b := n737) (by omega) (by omega)).mpr q9; omega
      refine m_iload_n F rfl e_X3_told_12 ?_
      refine m_if_lt F e_X3_told_13 (fun q13 => ?_) (fun q13 => ?_)
      · refine m_lconst F (v := 0) (by decide) e_X3_told_22 ?_
        exact m_lret F hQ e_X3_told_23 (⟨h741, _, rfl⟩)
      · obtain ⟨n744, hn744, rfl⟩ := nI_nn (x := x902) (fun e => q13 (Int32.lt_of_lt_of_le e (by decide)))
        have c13 : n744 ≥ 0 := by have hh := mt (nI_ltI (a := n744) (b := 0) (by omega) (by omega)).mpr q13; omega
        refine m_iload_n F rfl e_X3_told_16 ?_
        refine m_bipush F (v := 9) (by decide) e_X3_told_17 ?_
        refine m_icmp_lt F e_X3_told_19 (fun q19 => ?_) (fun q19 => ?_)
        · have c19 : n744 < 9 := (nI_ltI (a := n744) (b := 9) (by omega) (by omega)).mp q19
          refine m_aload_n F rfl e_X3_told_24 ?_
          refine t_get F e_X3_told_25 fl_X3_11 (fun _ => o12) h741 hk rfl (fun v hv f745 => ?_)
          obtain ⟨r746, k747, rfl⟩ := hv
          refine m_aload_n F rfl e_X3_told_28 ?_
          refine t_getC F e_X3_told_29 fl_X3_18 (fun _ => o12) h741 hk ((fld_eq (h742.2 a (by rw [show kA _ a = 12 from hk]; decide))).trans f739) ?_
          refine m_iconst F (v := 1) (by decide) e_X3_told_32 ?_
          refine m_isub F e_X3_told_33 ?_
          refine Wm.topE (w := nI (n738 - 1)) (pk_sub (a := n738) (b := 1) (by omega)) ?_
          refine m_iload_n F rfl e_X3_told_34 ?_
          refine m_isub F e_X3_told_35 ?_
          refine Wm.topE (w := nI ((n738 - 1) - n737)) (pk_sub (a := n738 - 1) (b := n737) (by omega)) ?_
          refine m_bipush F (v := 40) (by decide) e_X3_told_36 ?_
          refine m_irem F (by decide) e_X3_told_38 ?_
          refine Wm.topE (w := nI (((n738 - 1) - n737) % 40)) (pk_rem (a := (n738 - 1) - n737) (d := 40) (by omega) (by decide) (by decide)) ?_
          refine m_bipush F (v := 9) (by decide) e_X3_told_39 ?_
          refine m_imul F e_X3_told_41 ?_
          refine Wm.topE (w := nI ((((n738 - 1) - n737) % 40) * 9)) (pk_mul (((n738 - 1) - n737) % 40) 9) ?_
          refine m_iload_n F rfl e_X3_told_42 ?_
          refine m_iadd F e_X3_told_43 ?_
          refine Wm.topE (w := nI (((((n738 - 1) - n737) % 40) * 9) + n744)) (nI_add ((((n738 - 1) - n737) % 40) * 9) n744) ?_
          refine t_lald F (len := 360) (j := ((((n738 - 1) - n737) % 40) * 9) + n744) e_X3_told_44 (fun _ => o13) h741 k747 (nI_clamp (by omega)) (vp_in_nI (by omega) (by decide)) (fun x748 => ?_)
          exact m_lret F hQ e_X3_told_45 (⟨h741, _, rfl⟩)
        · have c19 : n744 ≥ 9 := by have hh := mt (nI_ltI (a := n744) (b := 9) (by omega) (by omega)).mpr q19; omega
          refine m_lconst F (v := 0) (by decide) e_X3_told_22 ?_
          exact m_lret F hQ e_X3_told_23 (⟨h741, _, rfl⟩)
set_option maxRecDepth 20000 in
theorem s_X5_tell (l : Launch) (V : VX) (b M Z T N : Nat) (σ : Mem) (a : Nat) (x901 : Int32) (x902 : Int32) (x903 : Int32) (x904 : Int32) (h0 : HT V (b, M, Z, T) σ) (hk : kA b a = 15) (hM : M + 0 ≤ 1000000000) : Ct l V yX5_tell cX5_tell 5 none 4 0 0 N σ [.ref a, .int x901, .int x902, .int x903, .int x904] (fun r τ => HK V (b, M, Z, T) [0, 1, 2, 3, 4, 5, 7, 8, 9, 10, 11, 12, 13, 14, 16, 19] σ τ ∧ r = none) := by
  refine Ct.of (by decide) (Nat.le_of_ble_eq_true rfl) [(0, .ref a), (1, .int x901), (2, .int x902), (3, .int x903), (4, .int x904)] rfl (fun X hX F hQ => ?_)
  have h1 : HK V (b, M, Z, T) [0, 1, 2, 3, 4, 5, 7, 8, 9, 10, 11, 12, 13, 14, 16, 19] σ σ := HK.start h0
  refine m_aload_n F rfl e_X5_tell_0 ?_
  refine m_iload_n F rfl e_X5_tell_1 ?_
  refine t_put F e_X5_tell_2 fp_X5_35 (fun _ => o15) h1 hk rfl ⟨_, rfl⟩ rfl rfl (by decide) (fun σ749 h750 g751 g752 f753 => ?_)
  refine m_aload_n F rfl e_X5_tell_5 ?_
  refine m_iload_n F rfl e_X5_tell_6 ?_
  refine t_put F e_X5_tell_7 fp_X5_39 (fun _ => o15) h750 hk rfl ⟨_, rfl⟩ rfl rfl (by decide) (fun σ754 h755 g756 g757 f758 => ?_)
  refine m_aload_n F rfl e_X5_tell_10 ?_
  refine m_iload_n F rfl e_X5_tell_11 ?_
  refine t_put F e_X5_tell_12 fp_X5_42 (fun _ => o15) h755 hk rfl ⟨_, rfl⟩ rfl rfl (by decide) (fun σ759 h760 g761 g762 f763 => ?_)
  refine m_aload_n F rfl e_X5_tell_15 ?_
  refine m_iload F rfl e_X5_tell_16 ?_
  refine t_put F e_X5_tell_18 fp_X5_45 (fun _ => o15) h760 hk rfl ⟨_, rfl⟩ rfl rfl (by decide) (fun σ764 h765 g766 g767 f768 => ?_)
  refine m_aload_n F rfl e_X5_tell_21 ?_
  refine m_iconst F (v := 0) (by decide) e_X5_tell_22 ?_
  refine t_put F e_X5_tell_23 fp_X5_48 (fun _ => o15) h765 hk rfl ⟨_, rfl⟩ rfl rfl (by decide) (fun σ769 h770 g771 g772 f773 => ?_)
  refine m_aload_n F rfl e_X5_tell_26 ?_
  refine m_iconst F (v := 0) (by decide) e_X5_tell_27 ?_
  refine t_put F e_X5_tell_28 fp_X5_51 (fun _ => o15) h770 hk rfl ⟨_, rfl⟩ rfl rfl (by decide) (fun σ774 h775 g776 g777 f778 => ?_)
  refine m_aload_n F rfl e_X5_tell_31 ?_
  refine m_iconst F (v := 0) (by decide) e_X5_tell_32 ?_
  refine t_put F e_X5_tell_33 fp_X5_54 (fun _ => o15) h775 hk rfl ⟨_, rfl⟩ rfl rfl (by decide) (fun σ779 h780 g781 g782 f783 => ?_)
  refine m_aload_n F rfl e_X5_tell_36 ?_
  refine m_iconst F (v := 0) (by decide) e_X5_tell_37 ?_
  refine t_put F e_X5_tell_38 fp_X5_57 (fun _ => o15) h780 hk rfl ⟨_, rfl⟩ rfl rfl (by decide) (fun σ784 h785 g786 g787 f788 => ?_)
  refine m_aload_n F rfl e_X5_tell_41 ?_
  refine m_iconst F (v := 0) (by decide) e_X5_tell_42 ?_
  refine t_put F e_X5_tell_43 fp_X5_60 (fun _ => o15) h785 hk rfl ⟨_, rfl⟩ rfl rfl (by decide) (fun σ789 h790 g791 g792 f793 => ?_)
  refine m_aload_n F rfl e_X5_tell_46 ?_
  refine m_iconst F (v := 0) (by decide) e_X5_tell_47 ?_
  refine t_put F e_X5_tell_48 fp_X5_63 (fun _ => o15) h790 hk rfl ⟨_, rfl⟩ rfl rfl (by decide) (fun σ794 h795 g796 g797 f798 => ?_)
  refine m_aload_n F rfl e_X5_tell_51 ?_
  refine m_iconst F (v := 0) (by decide) e_X5_tell_52 ?_
  refine t_put F e_X5_tell_53 fp_X5_66 (fun _ => o15) h795 hk rfl ⟨0, (show 0 ≤ 1 by omega), rfl⟩ (by decide) rfl (by decide) (fun σ799 h800 g801 g802 f803 => ?_)
  refine m_aload_n F rfl e_X5_tell_56 ?_
  refine m_iconst F (v := 0) (by decide) e_X5_tell_57 ?_
  refine t_put F e_X5_tell_58 fp_X5_70 (fun _ => o15) h800 hk rfl ⟨0, (show 0 ≤ 1 by omega), rfl⟩ (by decide) rfl (by decide) (fun σ804 h805 g806 g807 f808 => ?_)
  refine m_aload_n F rfl e_X5_tell_61 ?_
  refine m_iconst F (v := 0) (by decide) e_X5_tell_62 ?_
  refine t_put F e_X5_tell_63 fp_X5_73 (fun _ => o15) h805 hk rfl ⟨0, (show 0 ≤ 1 by omega), rfl⟩ (by decide) rfl (by decide) (fun σ809 h810 g811 g812 f813 => ?_)
  refine m_aload_n F rfl e_X5_tell_66 ?_
  refine t_get F e_X5_tell_67 fl_X5_12 (fun _ => o15) h810 hk rfl (fun v hv f814 => ?_)
  obtain ⟨r815, k816, rfl⟩ := hv
  refine m_lconst F (v := 0) (by decide) e_X5_tell_70 ?_
  refine t_callV F e_X5_tell_71 (s_X1_set (x_l X) V b M Z T _ _ r815 0 h810.1 k816  (by omega)) cb_X1_set ml_X5_76 im_X1_set se_X1_set (fun _ => o6) h810 k816 rfl rfl (rest := []) rfl (Nat.le_of_ble_eq_true rfl) ⟨Nat.le_of_ble_eq_true rfl, Nat.le_of_ble_eq_true rfl⟩ ⟨Nat.le_of_ble_eq_true rfl, Nat.le_of_ble_eq_true rfl⟩ (fun r σ817 hp => ?_)
  obtain ⟨h819, rfl⟩ := hp
  have h818 := HK.trans h810 h819 (by decide)
  refine m_aload_n F rfl e_X5_tell_74 ?_
  refine t_get F e_X5_tell_75 fl_X5_18 (fun _ => o15) h818 hk rfl (fun v hv f820 => ?_)
  obtain ⟨r821, k822, rfl⟩ := hv
  refine m_lconst F (v := 0) (by decide) e_X5_tell_78 ?_
  refine t_callV F e_X5_tell_79 (s_X1_set (x_l X) V b M Z T _ _ r821 0 h818.1 k822  (by omega)) cb_X1_set ml_X5_76 im_X1_set se_X1_set (fun _ => o6) h818 k822 rfl rfl (rest := []) rfl (Nat.le_of_ble_eq_true rfl) ⟨Nat.le_of_ble_eq_true rfl, Nat.le_of_ble_eq_true rfl⟩ ⟨Nat.le_of_ble_eq_true rfl, Nat.le_of_ble_eq_true rfl⟩ (fun r σ823 hp => ?_)
  obtain ⟨h825, rfl⟩ := hp
  have h824 := HK.trans h818 h825 (by decide)
  refine m_aload_n F rfl e_X5_tell_82 ?_
  refine t_get F e_X5_tell_83 fl_X5_24 (fun _ => o15) h824 hk rfl (fun v hv f826 => ?_)
  obtain ⟨r827, k828, rfl⟩ := hv
  refine m_bipush F (v := 72) (by decide) e_X5_tell_86 ?_
  refine m_lconst F (v := 0) (by decide) e_X5_tell_88 ?_
  refine t_callV F e_X5_tell_89 (s_X8_fill (x_l X) V b M Z T _ _ r827 72 0 h824.1 k828  (by omega)) cb_X8_fill ml_X5_80 im_X8_fill se_X8_fill (fun _ => o16) h824 k828 rfl rfl (rest := []) rfl (Nat.le_of_ble_eq_true rfl) ⟨Nat.le_of_ble_eq_true rfl, Nat.le_of_ble_eq_true rfl⟩ ⟨Nat.le_of_ble_eq_true rfl, Nat.le_of_ble_eq_true rfl⟩ (fun r σ829 hp => ?_)
  obtain ⟨h831, rfl⟩ := hp
  have h830 := HK.trans h824 h831 (by decide)
  refine m_aload_n F rfl e_X5_tell_92 ?_
  refine t_get F e_X5_tell_93 fl_X5_28 (fun _ => o15) h830 hk rfl (fun v hv f832 => ?_)
  obtain ⟨r833, k834, rfl⟩ := hv
  refine m_bipush F (v := 72) (by decide) e_X5_tell_96 ?_
  refine m_lconst F (v := 0) (by decide) e_X5_tell_98 ?_
  refine t_callV F e_X5_tell_99 (s_X8_fill (x_l X) V b M Z T _ _ r833 72 0 h830.1 k834  (by omega)) cb_X8_fill ml_X5_80 im_X8_fill se_X8_fill (fun _ => o16) h830 k834 rfl rfl (rest := []) rfl (Nat.le_of_ble_eq_true rfl) ⟨Nat.le_of_ble_eq_true rfl, Nat.le_of_ble_eq_true rfl⟩ ⟨Nat.le_of_ble_eq_true rfl, Nat.le_of_ble_eq_true rfl⟩ (fun r σ835 hp => ?_)
  obtain ⟨h837, rfl⟩ := hp
  have h836 := HK.trans h830 h837 (by decide)
  refine m_aload_n F rfl e_X5_tell_102 ?_
  refine t_get F e_X5_tell_103 fl_X5_31 (fun _ => o15) h836 hk rfl (fun v hv f838 => ?_)
  obtain ⟨r839, k840, rfl⟩ := hv
  refine m_lconst F (v := 0) (by decide) e_X5_tell_106 ?_
  refine m_callS F e_X5_tell_107 (s_J7_fill_d0a16_18 (x_l X) V b M Z T _ _ r839 0 h836.1 k840 (by omega)) cb_J7_fill_d0a16 ml_X5_84 sm_J7_fill_d0a16 rfl (rest := []) rfl (Nat.le_of_ble_eq_true rfl) ⟨Nat.le_of_ble_eq_true rfl, Nat.le_of_ble_eq_true rfl⟩ ⟨Nat.le_of_ble_eq_true rfl, Nat.le_of_ble_eq_true rfl⟩ (k' := 0) (z' := 0) (N' := N) rfl rfl rfl (fun r σ841 hp => ?_)
  obtain ⟨h843, rfl⟩ := hp
  have h842 := HK.trans h836 h843 (by decide)
  exact m_vret F hQ e_X5_tell_110 (⟨h842, rfl⟩)
set_option maxRecDepth 20000 in
theorem s_X5_copyFrom (l : Launch) (V : VX) (b M Z T N : Nat) (σ : Mem) (a : Nat) (r901 : Nat) (h0 : HT V (b, M, Z, T) σ) (hk : kA b a = 15) (k901 : kA b r901 = 15) (hM : M + 0 ≤ 1000000000) : Ct l V yX5_copyFrom cX5_copyFrom 2 none 2 0 0 N σ [.ref a, .ref r901] (fun r τ => HK V (b, M, Z, T) [0, 1, 2, 3, 4, 5, 7, 8, 9, 10, 11, 12, 13, 14, 16, 19] σ τ ∧ r = none) := by
  refine Ct.of (by decide) (Nat.le_of_ble_eq_true rfl) [(0, .ref a), (1, .ref r901)] rfl (fun X hX F hQ => ?_)
  have h1 : HK V (b, M, Z, T) [0, 1, 2, 3, 4, 5, 7, 8, 9, 10, 11, 12, 13, 14, 16, 19] σ σ := HK.start h0
  refine m_aload_n F rfl e_X5_copyFrom_0 ?_
  refine m_aload_n F rfl e_X5_copyFrom_1 ?_
  refine t_get F e_X5_copyFrom_2 fl_X5_35 (fun _ => o15) h1 k901 rfl (fun v hv f844 => ?_)
  obtain ⟨x845, rfl⟩ := hv
  refine t_put F e_X5_copyFrom_5 fp_X5_35 (fun _ => o15) h1 hk rfl ⟨_, rfl⟩ rfl rfl (by decide) (fun σ846 h847 g848 g849 f850 => ?_)
  refine m_aload_n F rfl e_X5_copyFrom_8 ?_
  refine m_aload_n F rfl e_X5_copyFrom_9 ?_
  refine t_get F e_X5_copyFrom_10 fl_X5_39 (fun _ => o15) h847 k901 rfl (fun v hv f851 => ?_)
  obtain ⟨x852, rfl⟩ := hv
  refine t_put F e_X5_copyFrom_13 fp_X5_39 (fun _ => o15) h847 hk rfl ⟨_, rfl⟩ rfl rfl (by decide) (fun σ853 h854 g855 g856 f857 => ?_)
  refine m_aload_n F rfl e_X5_copyFrom_16 ?_
  refine m_aload_n F rfl e_X5_copyFrom_17 ?_
  refine t_get F e_X5_copyFrom_18 fl_X5_42 (fun _ => o15) h854 k901 rfl (fun v hv f858 => ?_)
  obtain ⟨x859, rfl⟩ := hv
  refine t_put F e_X5_copyFrom_21 fp_X5_42 (fun _ => o15) h854 hk rfl ⟨_, rfl⟩ rfl rfl (by decide) (fun σ860 h861 g862 g863 f864 => ?_)
  refine m_aload_n F rfl e_X5_copyFrom_24 ?_
  refine m_aload_n F rfl e_X5_copyFrom_25 ?_
  refine t_get F e_X5_copyFrom_26 fl_X5_45 (fun _ => o15) h861 k901 rfl (fun v hv f865 => ?_)
  obtain ⟨x866, rfl⟩ := hv
  refine t_put F e_X5_copyFrom_29 fp_X5_45 (fun _ => o15) h861 hk rfl ⟨_, rfl⟩ rfl rfl (by decide) (fun σ867 h868 g869 g870 f871 => ?_)
  refine m_aload_n F rfl e_X5_copyFrom_32 ?_
  refine m_aload_n F rfl e_X5_copyFrom_33 ?_
  refine t_get F e_X5_copyFrom_34 fl_X5_48 (fun _ => o15) h868 k901 rfl (fun v hv f872 => ?_)
  obtain ⟨x873, rfl⟩ := hv
  refine t_put F e_X5_copyFrom_37 fp_X5_48 (fun _ => o15) h868 hk rfl ⟨_, rfl⟩ rfl rfl (by decide) (fun σ874 h875 g876 g877 f878 => ?_)
  refine m_aload_n F rfl e_X5_copyFrom_40 ?_
  refine m_aload_n F rfl e_X5_copyFrom_41 ?_
  refine t_get F e_X5_copyFrom_42 fl_X5_51 (fun _ => o15) h875 k901 rfl (fun v hv f879 => ?_)
  obtain ⟨x880, rfl⟩ := hv
  refine t_put F e_X5_copyFrom_45 fp_X5_51 (fun _ => o15) h875 hk rfl ⟨_, rfl⟩ rfl rfl (by decide) (fun σ881 h882 g883 g884 f885 => ?_)
  refine m_aload_n F rfl e_X5_copyFrom_48 ?_
  refine m_aload_n F rfl e_X5_copyFrom_49 ?_
  refine t_get F e_X5_copyFrom_50 fl_X5_54 (fun _ => o15) h882 k901 rfl (fun v hv f886 => ?_)
  obtain ⟨x887, rfl⟩ := hv
  refine t_put F e_X5_copyFrom_53 fp_X5_54 (fun _ => o15) h882 hk rfl ⟨_, rfl⟩ rfl rfl (by decide) (fun σ888 h889 g890 g891 f892 => ?_)
  refine m_aload_n F rfl e_X5_copyFrom_56 ?_
  refine m_aload_n F rfl e_X5_copyFrom_57 ?_
  refine t_get F e_X5_copyFrom_58 fl_X5_57 (fun _ => o15) h889 k901 rfl (fun v hv f893 => ?_)
  obtain ⟨x894, rfl⟩ := hv
  refine t_put F e_X5_copyFrom_61 fp_X5_57 (fun _ => o15) h889 hk rfl ⟨_, rfl⟩ rfl rfl (by decide) (fun σ895 h896 g897 g898 f899 => ?_)
  refine m_aload_n F rfl e_X5_copyFrom_64 ?_
  refine m_aload_n F rfl e_X5_copyFrom_65 ?_
  refine t_get F e_X5_copyFrom_66 fl_X5_60 (fun _ => o15) h896 k901 rfl (fun v hv f900 => ?_)
  obtain ⟨x901, rfl⟩ := hv
  refine t_put F e_X5_copyFrom_69 fp_X5_60 (fun _ => o15) h896 hk rfl ⟨_, rfl⟩ rfl rfl (by decide) (fun σ902 h903 g904 g905 f906 => ?_)
  refine m_aload_n F rfl e_X5_copyFrom_72 ?_
  refine m_aload_n F rfl e_X5_copyFrom_73 ?_
  refine t_get F e_X5_copyFrom_74 fl_X5_63 (fun _ => o15) h903 k901 rfl (fun v hv f907 => ?_)
  obtain ⟨x908, rfl⟩ := hv
  refine t_put F e_X5_copyFrom_77 fp_X5_63 (fun _ => o15) h903 hk rfl ⟨_, rfl⟩ rfl rfl (by decide) (fun σ909 h910 g911 g912 f913 => ?_)
  refine m_aload_n F rfl e_X5_copyFrom_80 ?_
  refine m_aload_n F rfl e_X5_copyFrom_81 ?_
  refine t_get F e_X5_copyFrom_82 fl_X5_66 (fun _ => o15) h910 k901 rfl (fun v hv f914 => ?_)
  obtain ⟨n915, hn915, rfl⟩ := hv
  replace hn915 : n915 ≤ 1 := hn915
  refine t_put F e_X5_copyFrom_85 fp_X5_66 (fun _ => o15) h910 hk rfl ⟨n915, (show n915 ≤ 1 by omega), rfl⟩ (nz1 (by omega)) (fz1 (by omega)) (by decide) (fun σ916 h917 g918 g919 f920 => ?_)
  refine m_aload_n F rfl e_X5_copyFrom_88 ?_
  refine m_aload_n F rfl e_X5_copyFrom_89 ?_
  refine t_get F e_X5_copyFrom_90 fl_X5_70 (fun _ => o15) h917 k901 rfl (fun v hv f921 => ?_)
  obtain ⟨n922, hn922, rfl⟩ := hv
  replace hn922 : n922 ≤ 1 := hn922
  refine t_put F e_X5_copyFrom_93 fp_X5_70 (fun _ => o15) h917 hk rfl ⟨n922, (show n922 ≤ 1 by omega), rfl⟩ (nz1 (by omega)) (fz1 (by omega)) (by decide) (fun σ923 h924 g925 g926 f927 => ?_)
  refine m_aload_n F rfl e_X5_copyFrom_96 ?_
  refine m_aload_n F rfl e_X5_copyFrom_97 ?_
  refine t_get F e_X5_copyFrom_98 fl_X5_73 (fun _ => o15) h924 k901 rfl (fun v hv f928 => ?_)
  obtain ⟨n929, hn929, rfl⟩ := hv
  replace hn929 : n929 ≤ 1 := hn929
  refine t_put F e_X5_copyFrom_101 fp_X5_73 (fun _ => o15) h924 hk rfl ⟨n929, (show n929 ≤ 1 by omega), rfl⟩ (nz1 (by omega)) (fz1 (by omega)) (by decide) (fun σ930 h931 g932 g933 f934 => ?_)
  refine m_aload_n F rfl e_X5_copyFrom_104 ?_
  refine t_get F e_X5_copyFrom_105 fl_X5_12 (fun _ => o15) h931 hk rfl (fun v hv f935 => ?_)
  obtain ⟨r936, k937, rfl⟩ := hv
  refine m_aload_n F rfl e_X5_copyFrom_108 ?_
  refine t_get F e_X5_copyFrom_109 fl_X5_12 (fun _ => o15) h931 k901 rfl (fun v hv f938 => ?_)
  obtain ⟨r939, k940, rfl⟩ := hv
  refine t_callV F e_X5_copyFrom_112 (s_X1_copyFrom (x_l X) V b M Z T _ _ r936 r939 h931.1 k937 k940 (by omega)) cb_X1_copyFrom ml_X5_89 im_X1_copyFrom se_X1_copyFrom (fun _ => o6) h931 k937 rfl rfl (rest := []) rfl (Nat.le_of_ble_eq_true rfl) ⟨Nat.le_of_ble_eq_true rfl, Nat.le_of_ble_eq_true rfl⟩ ⟨Nat.le_of_ble_eq_true rfl, Nat.le_of_ble_eq_true rfl⟩ (fun r σ941 hp => ?_)
  obtain ⟨h943, rfl⟩ := hp
  have h942 := HK.trans h931 h943 (by decide)
  refine m_aload_n F rfl e_X5_copyFrom_115 ?_
  refine t_get F e_X5_copyFrom_116 fl_X5_18 (fun _ => o15) h942 hk rfl (fun v hv f944 => ?_)
  obtain ⟨r945, k946, rfl⟩ := hv
  refine m_aload_n F rfl e_X5_copyFrom_119 ?_
  refine t_get F e_X5_copyFrom_120 fl_X5_18 (fun _ => o15) h942 k901 rfl (fun v hv f947 => ?_)
  obtain ⟨r948, k949, rfl⟩ := hv
  refine t_callV F e_X5_copyFrom_123 (s_X1_copyFrom (x_l X) V b M Z T _ _ r945 r948 h942.1 k946 k949 (by omega)) cb_X1_copyFrom ml_X5_89 im_X1_copyFrom se_X1_copyFrom (fun _ => o6) h942 k946 rfl rfl (rest := []) rfl (Nat.le_of_ble_eq_true rfl) ⟨Nat.le_of_ble_eq_true rfl, Nat.le_of_ble_eq_true rfl⟩ ⟨Nat.le_of_ble_eq_true rfl, Nat.le_of_ble_eq_true rfl⟩ (fun r σ950 hp => ?_)
  obtain ⟨h952, rfl⟩ := hp
  have h951 := HK.trans h942 h952 (by decide)
  refine m_aload_n F rfl e_X5_copyFrom_126 ?_
  refine t_get F e_X5_copyFrom_127 fl_X5_24 (fun _ => o15) h951 hk rfl (fun v hv f953 => ?_)
  obtain ⟨r954, k955, rfl⟩ := hv
  refine m_aload_n F rfl e_X5_copyFrom_130 ?_
  refine t_get F e_X5_copyFrom_131 fl_X5_24 (fun _ => o15) h951 k901 rfl (fun v hv f956 => ?_)
  obtain ⟨r957, k958, rfl⟩ := hv
  refine t_callV F e_X5_copyFrom_134 (s_X8_copyFrom (x_l X) V b M Z T _ _ r954 r957 h951.1 k955 k958 (by omega)) cb_X8_copyFrom ml_X5_93 im_X8_copyFrom se_X8_copyFrom (fun _ => o16) h951 k955 rfl rfl (rest := []) rfl (Nat.le_of_ble_eq_true rfl) ⟨Nat.le_of_ble_eq_true rfl, Nat.le_of_ble_eq_true rfl⟩ ⟨Nat.le_of_ble_eq_true rfl, Nat.le_of_ble_eq_true rfl⟩ (fun r σ959 hp => ?_)
  obtain ⟨h961, rfl⟩ := hp
  have h960 := HK.trans h951 h961 (by decide)
  refine m_aload_n F rfl e_X5_copyFrom_137 ?_
  refine t_get F e_X5_copyFrom_138 fl_X5_28 (fun _ => o15) h960 hk rfl (fun v hv f962 => ?_)
  obtain ⟨r963, k964, rfl⟩ := hv
  refine m_aload_n F rfl e_X5_copyFrom_141 ?_
  refine t_get F e_X5_copyFrom_142 fl_X5_28 (fun _ => o15) h960 k901 rfl (fun v hv f965 => ?_)
  obtain ⟨r966, k967, rfl⟩ := hv
  refine t_callV F e_X5_copyFrom_145 (s_X8_copyFrom (x_l X) V b M Z T _ _ r963 r966 h960.1 k964 k967 (by omega)) cb_X8_copyFrom ml_X5_93 im_X8_copyFrom se_X8_copyFrom (fun _ => o16) h960 k964 rfl rfl (rest := []) rfl (Nat.le_of_ble_eq_true rfl) ⟨Nat.le_of_ble_eq_true rfl, Nat.le_of_ble_eq_true rfl⟩ ⟨Nat.le_of_ble_eq_true rfl, Nat.le_of_ble_eq_true rfl⟩ (fun r σ968 hp => ?_)
  obtain ⟨h970, rfl⟩ := hp
  have h969 := HK.trans h960 h970 (by decide)
  refine m_aload_n F rfl e_X5_copyFrom_148 ?_
  refine t_get F e_X5_copyFrom_149 fl_X5_31 (fun _ => o15) h969 k901 rfl (fun v hv f971 => ?_)
  obtain ⟨r972, k973, rfl⟩ := hv
  refine m_iconst F (v := 0) (by decide) e_X5_copyFrom_152 ?_
  refine m_aload_n F rfl e_X5_copyFrom_153 ?_
  refine t_get F e_X5_copyFrom_154 fl_X5_31 (fun _ => o15) h969 hk rfl (fun v hv f974 => ?_)
  obtain ⟨r975, k976, rfl⟩ := hv
  refine m_iconst F (v := 0) (by decide) e_X5_copyFrom_157 ?_
  refine m_iconst F (v := 5) (by decide) e_X5_copyFrom_158 ?_
  refine t_copyJ F (len := 5) e_X5_copyFrom_159 ac_X5_96 (fun _ => o18) (fun _ => o18) h969 k973 k976 (by decide) (by decide) (by decide) (by decide) (Nat.le_of_ble_eq_true rfl) (Nat.le_of_ble_eq_true rfl) (by decide) (fun σ977 h978 g979 => ?_)
  exact m_vret F hQ e_X5_copyFrom_162 (⟨h978, rfl⟩)
set_option maxRecDepth 20000 in
theorem s_X5_owns (l : Launch) (V : VX) (b M Z T N : Nat) (σ : Mem) (a : Nat) (x901 : Int32) (h0 : HT V (b, M, Z, T) σ) (hk : kA b a = 15) (hM : M + 0 ≤ 1000000000) : Ct l V yX5_owns cX5_owns 2 (some .boolean) 0 0 0 N σ [.ref a, .int x901] (fun r τ => HK V (b, M, Z, T) [0, 1, 2, 3, 4, 5, 6, 7, 8, 9, 10, 11, 12, 13, 14, 15, 16, 17, 18, 19] σ τ ∧ ∃ n : Nat, n ≤ 1 ∧ r = some (.int (nI n))) := by
  refine Ct.of (by decide) (Nat.le_of_ble_eq_true rfl) [(0, .ref a), (1, .int x901)] rfl (fun X hX F hQ => ?_)
  have h1 : HK V (b, M, Z, T) [0, 1, 2, 3, 4, 5, 6, 7, 8, 9, 10, 11, 12, 13, 14, 15, 16, 17, 18, 19] σ σ := HK.start h0
  refine m_iload_n F rfl e_X5_owns_0 ?_
  refine m_iconst F (v := 1) (by decide) e_X5_owns_1 ?_
  refine m_icmp_lt F e_X5_owns_2 (fun q2 => ?_) (fun q2 => ?_)
  · refine m_iconst F (v := 0) (by decide) e_X5_owns_23 ?_
    exact m_zret F hQ e_X5_owns_24 (by decide) (⟨h1, 0, by omega, rfl⟩)
  · obtain ⟨n980, hn980, rfl⟩ := nI_nn (x := x901) (fun e => q2 (Int32.lt_of_lt_of_le e (by decide)))
    have c2 : n980 ≥ 1 := by have hh := mt (nI_ltI (a := n980) (b := 1) (by omega) (by omega)).mpr q2; omega
    refine m_iload_n F rfl e_X5_owns_5 ?_
    refine m_aload_n F rfl e_X5_owns_6 ?_
    refine t_get F e_X5_owns_7 fl_X5_42 (fun _ => o15) h1 hk rfl (fun v hv f981 => ?_)
    obtain ⟨x982, rfl⟩ := hv
    refine m_icmp_gt F e_X5_owns_10 (fun q10 => ?_) (fun q10 => ?_)
    · refine m_iconst F (v := 0) (by decide) e_X5_owns_23 ?_
      exact m_zret F hQ e_X5_owns_24 (by decide) (⟨h1, 0, by omega, rfl⟩)
    · refine m_iload_n F rfl e_X5_owns_13 ?_
      refine m_bipush F (v := 72) (by decide) e_X5_owns_14 ?_
      refine m_icmp_gt F e_X5_owns_16 (fun q16 => ?_) (fun q16 => ?_)
      · have c16 : n980 > 72 := (nI_ltI (a := 72) (b := n980) (by omega) (by omega)).mp q16
        refine m_iconst F (v := 0) (by decide) e_X5_owns_23 ?_
        exact m_zret F hQ e_X5_owns_24 (by decide) (⟨h1, 0, by omega, rfl⟩)
      · have c16 : n980 ≤ 72 := by have hh := mt (nI_ltI (a := 72) (b := n980) (by omega) (by omega)).mpr q16; omega
        refine m_iconst F (v := 1) (by decide) e_X5_owns_19 ?_
        refine m_goto F e_X5_owns_20 ?_
        exact m_zret F hQ e_X5_owns_24 (by decide) (⟨h1, 1, by omega, rfl⟩)
set_option maxRecDepth 20000 in
theorem s_X5_left (l : Launch) (V : VX) (b M Z T N : Nat) (σ : Mem) (a : Nat) (h0 : HT V (b, M, Z, T) σ) (hk : kA b a = 15) (hM : M + 0 ≤ 1000000000) : Ct l V yX5_left cX5_left 1 (some .int) 0 0 0 N σ [.ref a] (fun r τ => HK V (b, M, Z, T) [0, 1, 2, 3, 4, 5, 6, 7, 8, 9, 10, 11, 12, 13, 14, 15, 16, 17, 18, 19] σ τ ∧ ∃ x : Int32, r = some (.int x)) := by
  refine Ct.of (by decide) (Nat.le_of_ble_eq_true rfl) [(0, .ref a)] rfl (fun X hX F hQ => ?_)
  have h1 : HK V (b, M, Z, T) [0, 1, 2, 3, 4, 5, 6, 7, 8, 9, 10, 11, 12, 13, 14, 15, 16, 17, 18, 19] σ σ := HK.start h0
  refine m_aload_n F rfl e_X5_left_0 ?_
  refine t_get F e_X5_left_1 fl_X5_63 (fun _ => o15) h1 hk rfl (fun v hv f983 => ?_)
  obtain ⟨x984, rfl⟩ := hv
  refine m_iconst F (v := 2) (by decide) e_X5_left_4 ?_
  refine m_icmp_ne F e_X5_left_5 (fun q5 => ?_) (fun q5 => ?_)
  · refine m_aload_n F rfl e_X5_left_12 ?_
    refine t_get F e_X5_left_13 fl_X5_42 (fun _ => o15) h1 hk rfl (fun v hv f985 => ?_)
    obtain ⟨x986, rfl⟩ := hv
    refine m_aload_n F rfl e_X5_left_16 ?_
    refine t_get F e_X5_left_17 fl_X5_60 (fun _ => o15) h1 hk rfl (fun v hv f987 => ?_)
    obtain ⟨x988, rfl⟩ := hv
    refine m_isub F e_X5_left_20 ?_
    refine Wm.top (fun x989 _ => ?_)
    exact m_iret F hQ e_X5_left_21 (⟨h1, _, rfl⟩)
  · refine m_iconst F (v := 0) (by decide) e_X5_left_8 ?_
    refine m_goto F e_X5_left_9 ?_
    exact m_iret F hQ e_X5_left_21 (⟨h1, _, rfl⟩)
set_option maxRecDepth 20000 in
theorem lp_X5_payMore_3 {V : VX} {X : MX} {b M Z T N : Nat} {σ : Mem} {a : Nat} {x901 : Int32} {x902 : Int32} {x903 : Int32}  (F : Fx V X yX5_payMore cX5_payMore 5 none (rmd 2 0 0)) (hQ : Rt V X 0 0 N (fun r τ => HK V (b, M, Z, T) [0, 1, 2, 3, 4, 5, 7, 8, 9, 10, 11, 12, 13, 14, 15, 16, 18, 19] σ τ ∧ r = none)) (hk : kA b a = 15) (hp0 : x902.toInt < 1000) (hM : M + 0 ≤ 1000000000)  : ∀ (fuel : Nat) (i1 : Int32) (τ : Mem), HK V (b, M, Z, T) [0, 1, 2, 3, 4, 5, 7, 8, 9, 10, 11, 12, 13, 14, 15, 16, 18, 19] σ τ → True → (1000 - i1.toInt).toNat < fuel → Wm V X 5 N τ 0 0 3 [(4, .int i1), (0, .ref a), (1, .int x901), (2, .int x902), (3, .int x903)] [] := by
  intro fuel
  induction fuel with
  | zero => intro i1 τ h1 hi hm; exact absurd hm (Nat.not_lt_zero _)
  | succ fuel ih =>
    intro i1 τ h1 hi hm
    refine m_iload F rfl e_X5_payMore_3 ?_
    refine m_iload_n F rfl e_X5_payMore_5 ?_
    refine m_icmp_gt F e_X5_payMore_6 (fun q6 => ?_) (fun q6 => ?_)
    · exact m_vret F hQ e_X5_payMore_37 (⟨h1, rfl⟩)
    · refine m_aload_n F rfl e_X5_payMore_9 ?_
      refine t_get F e_X5_payMore_10 fl_X5_24 (fun _ => o15) h1 hk rfl (fun v hv f990 => ?_)
      obtain ⟨r991, k992, rfl⟩ := hv
      refine m_iload F rfl e_X5_payMore_13 ?_
      refine m_iload_n F rfl e_X5_payMore_15 ?_
      refine m_i2l F e_X5_payMore_16 ?_
      refine Wm.topl (fun x993 _ => ?_)
      refine t_callV F e_X5_payMore_17 (s_X8_addAt (x_l X) V b M Z T _ _ r991 i1 x993 h1.1 k992  (by omega)) cb_X8_addAt ml_X5_102 im_X8_addAt se_X8_addAt (fun _ => o16) h1 k992 rfl rfl (rest := []) rfl (Nat.le_of_ble_eq_true rfl) ⟨Nat.le_of_ble_eq_true rfl, Nat.le_of_ble_eq_true rfl⟩ ⟨Nat.le_of_ble_eq_true rfl, Nat.le_of_ble_eq_true rfl⟩ (fun r σ994 hp => ?_)
      obtain ⟨h996, rfl⟩ := hp
      have h995 := HK.trans h1 h996 (by decide)
      refine m_aload_n F rfl e_X5_payMore_20 ?_
      refine t_get F e_X5_payMore_21 fl_X5_28 (fun _ => o15) h995 hk rfl (fun v hv f997 => ?_)
      obtain ⟨r998, k999, rfl⟩ := hv
      refine m_iload F rfl e_X5_payMore_24 ?_
      refine m_iload_n F rfl e_X5_payMore_26 ?_
      refine m_i2l F e_X5_payMore_27 ?_
      refine Wm.topl (fun x1000 _ => ?_)
      refine t_callV F e_X5_payMore_28 (s_X8_addAt (x_l X) V b M Z T _ _ r998 i1 x1000 h995.1 k999  (by omega)) cb_X8_addAt ml_X5_102 im_X8_addAt se_X8_addAt (fun _ => o16) h995 k999 rfl rfl (rest := []) rfl (Nat.le_of_ble_eq_true rfl) ⟨Nat.le_of_ble_eq_true rfl, Nat.le_of_ble_eq_true rfl⟩ ⟨Nat.le_of_ble_eq_true rfl, Nat.le_of_ble_eq_true rfl⟩ (fun r σ1001 hp => ?_)
      obtain ⟨h1003, rfl⟩ := hp
      have h1002 := HK.trans h995 h1003 (by decide)
      refine m_iinc F (v := (i1 + 1)) (lv' := [(4, .int (i1 + 1)), (0, .ref a), (1, .int x901), (2, .int x902), (3, .int x903)]) e_X5_payMore_31 rfl rfl (by decide) rfl ?_
      refine m_goto F e_X5_payMore_34 ?_
      exact ih (i1 + 1) _ h1002 trivial (by have h9 := inc_le q6 hp0; omega)
set_option maxRecDepth 20000 in
theorem s_X5_payMore (l : Launch) (V : VX) (b M Z T N : Nat) (σ : Mem) (a : Nat) (x901 : Int32) (x902 : Int32) (x903 : Int32) (h0 : HT V (b, M, Z, T) σ) (hk : kA b a = 15) (hp0 : x902.toInt < 1000) (hM : M + 0 ≤ 1000000000) : Ct l V yX5_payMore cX5_payMore 5 none 2 0 0 N σ [.ref a, .int x901, .int x902, .int x903] (fun r τ => HK V (b, M, Z, T) [0, 1, 2, 3, 4, 5, 7, 8, 9, 10, 11, 12, 13, 14, 15, 16, 18, 19] σ τ ∧ r = none) := by
  refine Ct.of (by decide) (Nat.le_of_ble_eq_true rfl) [(0, .ref a), (1, .int x901), (2, .int x902), (3, .int x903)] rfl (fun X hX F hQ => ?_)
  have h1 : HK V (b, M, Z, T) [0, 1, 2, 3, 4, 5, 7, 8, 9, 10, 11, 12, 13, 14, 15, 16, 18, 19] σ σ := HK.start h0
  refine m_iload_n F rfl e_X5_payMore_0 ?_
  refine m_istore F (lv' := [(4, .int x901), (0, .ref a), (1, .int x901), (2, .int x902), (3, .int x903)]) e_X5_payMore_1 (by decide) rfl ?_
  exact lp_X5_payMore_3 F hQ hk hp0 hM ((1000 - x901.toInt).toNat + 1) x901 _ h1 trivial (Nat.lt_succ_self _)
