set_option maxRecDepth 20000 in
theorem s_X8_copyFrom (l : Launch) (V : VX) (G : GH) (b M Z T N : Nat) (σ : Mem) (a : Nat) (r901 : Nat) (h0 : HT V G (b, M, Z, T) σ) (hk : kA b a = 16) (k901 : kA b r901 = 16) (hM : M + 0 ≤ 1000000000) : Ct l V yX8_copyFrom cX8_copyFrom 2 none 1 0 0 N σ [.ref a, .ref r901] (fun r τ => HK V G (b, M, Z, T) [0, 1, 2, 3, 4, 5, 6, 7, 8, 9, 10, 11, 12, 13, 14, 15, 16, 18, 19] σ τ ∧ r = none) := by
  refine Ct.of (by decide) (Nat.le_of_ble_eq_true rfl) [(0, .ref a), (1, .ref r901)] rfl (fun X hX F hQ => ?_)
  have h1 : HK V G (b, M, Z, T) [0, 1, 2, 3, 4, 5, 6, 7, 8, 9, 10, 11, 12, 13, 14, 15, 16, 18, 19] σ σ := HK.start h0
  refine m_aload_n F rfl e_X8_copyFrom_0 ?_
  refine t_get F e_X8_copyFrom_1 fl_X8_9 (fun _ => o16) h1 k901 rfl (fun v hv f441 => ?_)
  obtain ⟨r442, k443, rfl⟩ := hv
  refine m_iconst F (v := 0) (by decide) e_X8_copyFrom_4 ?_
  refine m_aload_n F rfl e_X8_copyFrom_5 ?_
  refine t_get F e_X8_copyFrom_6 fl_X8_9 (fun _ => o16) h1 hk rfl (fun v hv f444 => ?_)
  obtain ⟨r445, k446, rfl⟩ := hv
  refine m_iconst F (v := 0) (by decide) e_X8_copyFrom_9 ?_
  refine m_bipush F (v := 72) (by decide) e_X8_copyFrom_10 ?_
  refine t_copyJ F (len := 72) e_X8_copyFrom_12 ac_X8_25 (fun _ => o17) (fun _ => o17) h1 k443 k446 (by decide) (by decide) (by decide) (by decide) (Nat.le_of_ble_eq_true rfl) (Nat.le_of_ble_eq_true rfl) (by decide) (fun σ447 h448 g449 => ?_)
  refine m_aload_n F rfl e_X8_copyFrom_15 ?_
  refine t_get F e_X8_copyFrom_16 fl_X8_15 (fun _ => o16) h448 k901 rfl (fun v hv f450 => ?_)
  obtain ⟨r451, k452, rfl⟩ := hv
  refine m_iconst F (v := 0) (by decide) e_X8_copyFrom_19 ?_
  refine m_aload_n F rfl e_X8_copyFrom_20 ?_
  refine t_get F e_X8_copyFrom_21 fl_X8_15 (fun _ => o16) h448 hk rfl (fun v hv f453 => ?_)
  obtain ⟨r454, k455, rfl⟩ := hv
  refine m_iconst F (v := 0) (by decide) e_X8_copyFrom_24 ?_
  refine m_bipush F (v := 72) (by decide) e_X8_copyFrom_25 ?_
  refine t_copyJ F (len := 72) e_X8_copyFrom_27 ac_X8_25 (fun _ => o17) (fun _ => o17) h448 k452 k455 (by decide) (by decide) (by decide) (by decide) (Nat.le_of_ble_eq_true rfl) (Nat.le_of_ble_eq_true rfl) (by decide) (fun σ456 h457 g458 => ?_)
  exact m_vret F hQ e_X8_copyFrom_30 (⟨h457, rfl⟩)
set_option maxRecDepth 20000 in
theorem s_X8_fill (l : Launch) (V : VX) (G : GH) (b M Z T N : Nat) (σ : Mem) (a : Nat) (x901 : Int32) (x902 : Int64) (h0 : HT V G (b, M, Z, T) σ) (hk : kA b a = 16) (hM : M + 0 ≤ 1000000000) : Ct l V yX8_fill cX8_fill 5 none 3 0 0 N σ [.ref a, .int x901, .long x902] (fun r τ => HK V G (b, M, Z, T) [0, 1, 2, 3, 4, 5, 7, 8, 9, 10, 11, 12, 13, 14, 15, 16, 18, 19] σ τ ∧ r = none) := by
  refine Ct.of (by decide) (Nat.le_of_ble_eq_true rfl) [(0, .ref a), (1, .int x901), (2, .long x902)] rfl (fun X hX F hQ => ?_)
  have h1 : HK V G (b, M, Z, T) [0, 1, 2, 3, 4, 5, 7, 8, 9, 10, 11, 12, 13, 14, 15, 16, 18, 19] σ σ := HK.start h0
  refine m_iconst F (v := 0) (by decide) e_X8_fill_0 ?_
  refine m_iload_n F rfl e_X8_fill_1 ?_
  refine m_bipush F (v := 72) (by decide) e_X8_fill_2 ?_
  refine m_min F e_X8_fill_4 ml_X8_31 sm_min ini_math co_min (Nat.le_of_ble_eq_true rfl) (Nat.le_of_ble_eq_true rfl) (Nat.le_of_ble_eq_true rfl) (Nat.le_of_ble_eq_true rfl) ?_
  refine m_max F e_X8_fill_7 ml_X8_37 sm_max ini_math co_max (Nat.le_of_ble_eq_true rfl) (Nat.le_of_ble_eq_true rfl) (Nat.le_of_ble_eq_true rfl) (Nat.le_of_ble_eq_true rfl) ?_
  obtain ⟨n77, hn77, e77⟩ := clampF x901
  refine Wm.topE (w := nI n77) (e77) ?_
  refine m_istore F (lv' := [(4, .int (nI n77)), (0, .ref a), (1, .int x901), (2, .long x902)]) e_X8_fill_10 (by decide) rfl ?_
  refine m_aload_n F rfl e_X8_fill_12 ?_
  refine t_get F e_X8_fill_13 fl_X8_21 (fun _ => o16) h1 hk rfl (fun v hv f459 => ?_)
  obtain ⟨r460, k461, rfl⟩ := hv
  refine m_lload_n F rfl e_X8_fill_16 ?_
  refine t_callV F e_X8_fill_17 (s_X1_set (x_l X) V G b M Z T _ _ r460 x902 h1.1 k461  (by omega)) cb_X1_set ml_X8_40 im_X1_set se_X1_set (fun _ => o6) h1 k461 rfl rfl (rest := []) rfl (Nat.le_of_ble_eq_true rfl) ⟨Nat.le_of_ble_eq_true rfl, Nat.le_of_ble_eq_true rfl⟩ ⟨Nat.le_of_ble_eq_true rfl, Nat.le_of_ble_eq_true rfl⟩ (fun r σ462 hp => ?_)
  obtain ⟨h464, rfl⟩ := hp
  have h463 := HK.trans h1 h464 (by decide)
  refine m_aload_n F rfl e_X8_fill_20 ?_
  refine t_get F e_X8_fill_21 fl_X8_9 (fun _ => o16) h463 hk rfl (fun v hv f465 => ?_)
  obtain ⟨r466, k467, rfl⟩ := hv
  refine m_iconst F (v := 0) (by decide) e_X8_fill_24 ?_
  refine m_iload F rfl e_X8_fill_25 ?_
  refine m_aload_n F rfl e_X8_fill_27 ?_
  refine t_getC F e_X8_fill_28 fl_X8_21 (fun _ => o16) h463 hk ((fld_eq (h464.2 a (by rw [show kA _ a = 16 from hk]; decide))).trans f459) ?_
  refine t_get F e_X8_fill_31 fl_X8_44 (fun _ => o6) h463 k461 rfl (fun v hv f468 => ?_)
  obtain ⟨x469, rfl⟩ := hv
  refine m_callS F e_X8_fill_34 (s_J7_fill_bad5a_17 (x_l X) V G b M Z T _ _ r466 0 n77 x469 h463.1 k467 (by omega) (by omega) (by first | omega | assumption | decide) (by first | omega | assumption | decide) (by omega)) cb_J7_fill_bad5a ml_X8_48 sm_J7_fill_bad5a rfl (rest := []) rfl (Nat.le_of_ble_eq_true rfl) ⟨Nat.le_of_ble_eq_true rfl, Nat.le_of_ble_eq_true rfl⟩ ⟨Nat.le_of_ble_eq_true rfl, Nat.le_of_ble_eq_true rfl⟩ (k' := 0) (z' := 0) (N' := N) rfl rfl rfl (fun r σ470 hp => ?_)
  obtain ⟨h472, rfl⟩ := hp
  have h471 := HK.trans h463 h472 (by decide)
  refine m_aload_n F rfl e_X8_fill_37 ?_
  refine t_get F e_X8_fill_38 fl_X8_15 (fun _ => o16) h471 hk rfl (fun v hv f473 => ?_)
  obtain ⟨r474, k475, rfl⟩ := hv
  refine m_iconst F (v := 0) (by decide) e_X8_fill_41 ?_
  refine m_iload F rfl e_X8_fill_42 ?_
  refine m_aload_n F rfl e_X8_fill_44 ?_
  refine t_getC F e_X8_fill_45 fl_X8_21 (fun _ => o16) h471 hk ((fld_eq (h472.2 a (by rw [show kA _ a = 16 from hk]; decide))).trans ((fld_eq (h464.2 a (by rw [show kA _ a = 16 from hk]; decide))).trans f459)) ?_
  refine t_get F e_X8_fill_48 fl_X8_54 (fun _ => o6) h471 k461 rfl (fun v hv f476 => ?_)
  obtain ⟨x477, rfl⟩ := hv
  refine m_callS F e_X8_fill_51 (s_J7_fill_bad5a_17 (x_l X) V G b M Z T _ _ r474 0 n77 x477 h471.1 k475 (by omega) (by omega) (by first | omega | assumption | decide) (by first | omega | assumption | decide) (by omega)) cb_J7_fill_bad5a ml_X8_48 sm_J7_fill_bad5a rfl (rest := []) rfl (Nat.le_of_ble_eq_true rfl) ⟨Nat.le_of_ble_eq_true rfl, Nat.le_of_ble_eq_true rfl⟩ ⟨Nat.le_of_ble_eq_true rfl, Nat.le_of_ble_eq_true rfl⟩ (k' := 0) (z' := 0) (N' := N) rfl rfl rfl (fun r σ478 hp => ?_)
  obtain ⟨h480, rfl⟩ := hp
  have h479 := HK.trans h471 h480 (by decide)
  exact m_vret F hQ e_X8_fill_54 (⟨h479, rfl⟩)
set_option maxRecDepth 20000 in
theorem s_X8_copyTo (l : Launch) (V : VX) (G : GH) (b M Z T N : Nat) (σ : Mem) (a : Nat) (x901 : Int32) (r902 : Nat) (h0 : HT V G (b, M, Z, T) σ) (hk : kA b a = 16) (k902 : kA b r902 = 6) (hM : M + 0 ≤ 1000000000) : Ct l V yX8_copyTo cX8_copyTo 4 none 0 0 0 N σ [.ref a, .int x901, .ref r902] (fun r τ => HK V G (b, M, Z, T) [0, 1, 2, 3, 4, 5, 7, 8, 9, 10, 11, 12, 13, 14, 15, 16, 17, 18, 19] σ τ ∧ r = none) := by
  refine Ct.of (by decide) (Nat.le_of_ble_eq_true rfl) [(0, .ref a), (1, .int x901), (2, .ref r902)] rfl (fun X hX F hQ => ?_)
  have h1 : HK V G (b, M, Z, T) [0, 1, 2, 3, 4, 5, 7, 8, 9, 10, 11, 12, 13, 14, 15, 16, 17, 18, 19] σ σ := HK.start h0
  refine m_iload_n F rfl e_X8_copyTo_0 ?_
  refine m_if_lt F e_X8_copyTo_1 (fun q1 => ?_) (fun q1 => ?_)
  · refine m_iconst F (v := 0) (by decide) e_X8_copyTo_14 ?_
    refine m_istore_n F (lv' := [(3, .int 0), (0, .ref a), (1, .int x901), (2, .ref r902)]) e_X8_copyTo_15 (by decide) rfl ?_
    refine m_aload_n F rfl e_X8_copyTo_16 ?_
    refine m_iload_n F rfl e_X8_copyTo_17 ?_
    refine m_if_eq F e_X8_copyTo_18 (fun _ => ?_) (fun q => absurd (by decide) q)
    refine m_lconst F (v := 0) (by decide) e_X8_copyTo_30 ?_
    refine t_put F e_X8_copyTo_31 fp_X8_44 (fun _ => o6) h1 k902 rfl ⟨_, rfl⟩ rfl rfl (by decide) (fun σ481 h482 g483 g484 f485 => ?_)
    refine m_aload_n F rfl e_X8_copyTo_34 ?_
    refine m_iload_n F rfl e_X8_copyTo_35 ?_
    refine m_if_eq F e_X8_copyTo_36 (fun _ => ?_) (fun q => absurd (by decide) q)
    refine m_lconst F (v := 0) (by decide) e_X8_copyTo_48 ?_
    refine t_put F e_X8_copyTo_49 fp_X8_54 (fun _ => o6) h482 k902 rfl ⟨_, rfl⟩ rfl rfl (by decide) (fun σ486 h487 g488 g489 f490 => ?_)
    exact m_vret F hQ e_X8_copyTo_52 (⟨h487, rfl⟩)
  · obtain ⟨n491, hn491, rfl⟩ := nI_nn (x := x901) (fun e => q1 (Int32.lt_of_lt_of_le e (by decide)))
    have c1 : n491 ≥ 0 := by have hh := mt (nI_ltI (a := n491) (b := 0) (by omega) (by omega)).mpr q1; omega
    refine m_iload_n F rfl e_X8_copyTo_4 ?_
    refine m_bipush F (v := 72) (by decide) e_X8_copyTo_5 ?_
    refine m_icmp_ge F e_X8_copyTo_7 (fun q7 => ?_) (fun q7 => ?_)
    · have c7 : n491 ≥ 72 := (nI_leI (a := 72) (b := n491) (by omega) (by omega)).mp q7
      refine m_iconst F (v := 0) (by decide) e_X8_copyTo_14 ?_
      refine m_istore_n F (lv' := [(3, .int 0), (0, .ref a), (1, .int (nI n491)), (2, .ref r902)]) e_X8_copyTo_15 (by decide) rfl ?_
      refine m_aload_n F rfl e_X8_copyTo_16 ?_
      refine m_iload_n F rfl e_X8_copyTo_17 ?_
      refine m_if_eq F e_X8_copyTo_18 (fun _ => ?_) (fun q => absurd (by decide) q)
      refine m_lconst F (v := 0) (by decide) e_X8_copyTo_30 ?_
      refine t_put F e_X8_copyTo_31 fp_X8_44 (fun _ => o6) h1 k902 rfl ⟨_, rfl⟩ rfl rfl (by decide) (fun σ492 h493 g494 g495 f496 => ?_)
      refine m_aload_n F rfl e_X8_copyTo_34 ?_
      refine m_iload_n F rfl e_X8_copyTo_35 ?_
      refine m_if_eq F e_X8_copyTo_36 (fun _ => ?_) (fun q => absurd (by decide) q)
      refine m_lconst F (v := 0) (by decide) e_X8_copyTo_48 ?_
      refine t_put F e_X8_copyTo_49 fp_X8_54 (fun _ => o6) h493 k902 rfl ⟨_, rfl⟩ rfl rfl (by decide) (fun σ497 h498 g499 g500 f501 => ?_)
      exact m_vret F hQ e_X8_copyTo_52 (⟨h498, rfl⟩)
    · have c7 : n491 < 72 := by have hh := mt (nI_leI (a := 72) (b := n491) (by omega) (by omega)).mpr q7; omega
      refine m_iconst F (v := 1) (by decide) e_X8_copyTo_10 ?_
      refine m_goto F e_X8_copyTo_11 ?_
      refine m_istore_n F (lv' := [(3, .int 1), (0, .ref a), (1, .int (nI n491)), (2, .ref r902)]) e_X8_copyTo_15 (by decide) rfl ?_
      refine m_aload_n F rfl e_X8_copyTo_16 ?_
      refine m_iload_n F rfl e_X8_copyTo_17 ?_
      refine m_if_eq F e_X8_copyTo_18 (fun q => absurd q (by decide)) (fun _ => ?_)
      refine m_aload_n F rfl e_X8_copyTo_21 ?_
      refine t_get F e_X8_copyTo_22 fl_X8_9 (fun _ => o16) h1 hk rfl (fun v hv f502 => ?_)
      obtain ⟨r503, k504, rfl⟩ := hv
      refine m_iload_n F rfl e_X8_copyTo_25 ?_
      refine t_lald F (len := 72) (j := n491) e_X8_copyTo_26 (fun _ => o17) h1 k504 (nI_clamp (by omega)) (vp_in_nI (by omega) (by decide)) (fun x505 => ?_)
      refine m_goto F e_X8_copyTo_27 ?_
      refine t_put F e_X8_copyTo_31 fp_X8_44 (fun _ => o6) h1 k902 rfl ⟨_, rfl⟩ rfl rfl (by decide) (fun σ506 h507 g508 g509 f510 => ?_)
      refine m_aload_n F rfl e_X8_copyTo_34 ?_
      refine m_iload_n F rfl e_X8_copyTo_35 ?_
      refine m_if_eq F e_X8_copyTo_36 (fun q => absurd q (by decide)) (fun _ => ?_)
      refine m_aload_n F rfl e_X8_copyTo_39 ?_
      refine t_get F e_X8_copyTo_40 fl_X8_15 (fun _ => o16) h507 hk rfl (fun v hv f511 => ?_)
      obtain ⟨r512, k513, rfl⟩ := hv
      refine m_iload_n F rfl e_X8_copyTo_43 ?_
      refine t_lald F (len := 72) (j := n491) e_X8_copyTo_44 (fun _ => o17) h507 k513 (nI_clamp (by omega)) (vp_in_nI (by omega) (by decide)) (fun x514 => ?_)
      refine m_goto F e_X8_copyTo_45 ?_
      refine t_put F e_X8_copyTo_49 fp_X8_54 (fun _ => o6) h507 k902 rfl ⟨_, rfl⟩ rfl rfl (by decide) (fun σ515 h516 g517 g518 f519 => ?_)
      exact m_vret F hQ e_X8_copyTo_52 (⟨h516, rfl⟩)
set_option maxRecDepth 20000 in
theorem s_X8_addTo (l : Launch) (V : VX) (G : GH) (b M Z T N : Nat) (σ : Mem) (a : Nat) (x901 : Int32) (r902 : Nat) (h0 : HT V G (b, M, Z, T) σ) (hk : kA b a = 16) (k902 : kA b r902 = 6) (hM : M + 0 ≤ 1000000000) : Ct l V yX8_addTo cX8_addTo 3 none 0 0 0 N σ [.ref a, .int x901, .ref r902] (fun r τ => HK V G (b, M, Z, T) [0, 1, 2, 3, 4, 5, 7, 8, 9, 10, 11, 12, 13, 14, 15, 16, 17, 18, 19] σ τ ∧ r = none) := by
  refine Ct.of (by decide) (Nat.le_of_ble_eq_true rfl) [(0, .ref a), (1, .int x901), (2, .ref r902)] rfl (fun X hX F hQ => ?_)
  have h1 : HK V G (b, M, Z, T) [0, 1, 2, 3, 4, 5, 7, 8, 9, 10, 11, 12, 13, 14, 15, 16, 17, 18, 19] σ σ := HK.start h0
  refine m_iload_n F rfl e_X8_addTo_0 ?_
  refine m_if_lt F e_X8_addTo_1 (fun q1 => ?_) (fun q1 => ?_)
  · exact m_vret F hQ e_X8_addTo_60 (⟨h1, rfl⟩)
  · obtain ⟨n520, hn520, rfl⟩ := nI_nn (x := x901) (fun e => q1 (Int32.lt_of_lt_of_le e (by decide)))
    have c1 : n520 ≥ 0 := by have hh := mt (nI_ltI (a := n520) (b := 0) (by omega) (by omega)).mpr q1; omega
    refine m_iload_n F rfl e_X8_addTo_4 ?_
    refine m_bipush F (v := 72) (by decide) e_X8_addTo_5 ?_
    refine m_icmp_ge F e_X8_addTo_7 (fun q7 => ?_) (fun q7 => ?_)
    · have c7 : n520 ≥ 72 := (nI_leI (a := 72) (b := n520) (by omega) (by omega)).mp q7
      exact m_vret F hQ e_X8_addTo_60 (⟨h1, rfl⟩)
    · have c7 : n520 < 72 := by have hh := mt (nI_leI (a := 72) (b := n520) (by omega) (by omega)).mpr q7; omega
      refine m_aload_n F rfl e_X8_addTo_10 ?_
      refine m_dup F rfl e_X8_addTo_11 ?_
      refine t_get F e_X8_addTo_12 fl_X8_54 (fun _ => o6) h1 k902 rfl (fun v hv f521 => ?_)
      obtain ⟨x522, rfl⟩ := hv
      refine m_aload_n F rfl e_X8_addTo_15 ?_
      refine t_get F e_X8_addTo_16 fl_X8_15 (fun _ => o16) h1 hk rfl (fun v hv f523 => ?_)
      obtain ⟨r524, k525, rfl⟩ := hv
      refine m_iload_n F rfl e_X8_addTo_19 ?_
      refine t_lald F (len := 72) (j := n520) e_X8_addTo_20 (fun _ => o17) h1 k525 (nI_clamp (by omega)) (vp_in_nI (by omega) (by decide)) (fun x526 => ?_)
      refine m_ladd F e_X8_addTo_21 ?_
      refine Wm.topl (fun x527 _ => ?_)
      refine t_put F e_X8_addTo_22 fp_X8_54 (fun _ => o6) h1 k902 rfl ⟨_, rfl⟩ rfl rfl (by decide) (fun σ528 h529 g530 g531 f532 => ?_)
      refine m_aload_n F rfl e_X8_addTo_25 ?_
      refine m_dup F rfl e_X8_addTo_26 ?_
      refine t_get F e_X8_addTo_27 fl_X8_44 (fun _ => o6) h529 k902 rfl (fun v hv f533 => ?_)
      obtain ⟨x534, rfl⟩ := hv
      refine m_aload_n F rfl e_X8_addTo_30 ?_
      refine t_get F e_X8_addTo_31 fl_X8_9 (fun _ => o16) h529 hk rfl (fun v hv f535 => ?_)
      obtain ⟨r536, k537, rfl⟩ := hv
      refine m_iload_n F rfl e_X8_addTo_34 ?_
      refine t_lald F (len := 72) (j := n520) e_X8_addTo_35 (fun _ => o17) h529 k537 (nI_clamp (by omega)) (vp_in_nI (by omega) (by decide)) (fun x538 => ?_)
      refine m_aload_n F rfl e_X8_addTo_36 ?_
      refine t_getC F e_X8_addTo_37 fl_X8_54 (fun _ => o6) h529 k902 (f532) ?_
      refine m_bipush F (v := 42) (by decide) e_X8_addTo_40 ?_
      refine m_lshr F e_X8_addTo_42 ?_
      refine Wm.topl (fun x539 _ => ?_)
      refine m_ladd F e_X8_addTo_43 ?_
      refine Wm.topl (fun x540 _ => ?_)
      refine m_ladd F e_X8_addTo_44 ?_
      refine Wm.topl (fun x541 _ => ?_)
      refine t_put F e_X8_addTo_45 fp_X8_44 (fun _ => o6) h529 k902 rfl ⟨_, rfl⟩ rfl rfl (by decide) (fun σ542 h543 g544 g545 f546 => ?_)
      refine m_aload_n F rfl e_X8_addTo_48 ?_
      refine m_dup F rfl e_X8_addTo_49 ?_
      refine t_getC F e_X8_addTo_50 fl_X8_54 (fun _ => o6) h543 k902 ((g545 1 (by decide)).trans f532) ?_
      refine m_ldc2 F kc_X8_57 e_X8_addTo_53 ?_
      refine m_land F e_X8_addTo_56 ?_
      refine Wm.topl (fun x547 _ => ?_)
      refine t_put F e_X8_addTo_57 fp_X8_54 (fun _ => o6) h543 k902 rfl ⟨_, rfl⟩ rfl rfl (by decide) (fun σ548 h549 g550 g551 f552 => ?_)
      exact m_vret F hQ e_X8_addTo_60 (⟨h549, rfl⟩)
set_option maxRecDepth 20000 in
theorem s_X8_put (l : Launch) (V : VX) (G : GH) (b M Z T N : Nat) (σ : Mem) (a : Nat) (x901 : Int32) (r902 : Nat) (h0 : HT V G (b, M, Z, T) σ) (hk : kA b a = 16) (k902 : kA b r902 = 6) (hM : M + 0 ≤ 1000000000) : Ct l V yX8_put cX8_put 3 none 0 0 0 N σ [.ref a, .int x901, .ref r902] (fun r τ => HK V G (b, M, Z, T) [0, 1, 2, 3, 4, 5, 6, 7, 8, 9, 10, 11, 12, 13, 14, 15, 16, 18, 19] σ τ ∧ r = none) := by
  refine Ct.of (by decide) (Nat.le_of_ble_eq_true rfl) [(0, .ref a), (1, .int x901), (2, .ref r902)] rfl (fun X hX F hQ => ?_)
  have h1 : HK V G (b, M, Z, T) [0, 1, 2, 3, 4, 5, 6, 7, 8, 9, 10, 11, 12, 13, 14, 15, 16, 18, 19] σ σ := HK.start h0
  refine m_iload_n F rfl e_X8_put_0 ?_
  refine m_if_lt F e_X8_put_1 (fun q1 => ?_) (fun q1 => ?_)
  · exact m_vret F hQ e_X8_put_30 (⟨h1, rfl⟩)
  · obtain ⟨n553, hn553, rfl⟩ := nI_nn (x := x901) (fun e => q1 (Int32.lt_of_lt_of_le e (by decide)))
    have c1 : n553 ≥ 0 := by have hh := mt (nI_ltI (a := n553) (b := 0) (by omega) (by omega)).mpr q1; omega
    refine m_iload_n F rfl e_X8_put_4 ?_
    refine m_bipush F (v := 72) (by decide) e_X8_put_5 ?_
    refine m_icmp_ge F e_X8_put_7 (fun q7 => ?_) (fun q7 => ?_)
    · have c7 : n553 ≥ 72 := (nI_leI (a := 72) (b := n553) (by omega) (by omega)).mp q7
      exact m_vret F hQ e_X8_put_30 (⟨h1, rfl⟩)
    · have c7 : n553 < 72 := by have hh := mt (nI_leI (a := 72) (b := n553) (by omega) (by omega)).mpr q7; omega
      refine m_aload_n F rfl e_X8_put_10 ?_
      refine t_get F e_X8_put_11 fl_X8_9 (fun _ => o16) h1 hk rfl (fun v hv f554 => ?_)
      obtain ⟨r555, k556, rfl⟩ := hv
      refine m_iload_n F rfl e_X8_put_14 ?_
      refine m_aload_n F rfl e_X8_put_15 ?_
      refine t_get F e_X8_put_16 fl_X8_44 (fun _ => o6) h1 k902 rfl (fun v hv f557 => ?_)
      obtain ⟨x558, rfl⟩ := hv
      refine t_last F (len := 72) (j := n553) e_X8_put_19 (fun _ => o17) h1 k556 (nI_clamp (by omega)) (vp_in_nI (by omega) (by decide)) (by decide) (fun σ559 h560 g561 => ?_)
      refine m_aload_n F rfl e_X8_put_20 ?_
      refine t_get F e_X8_put_21 fl_X8_15 (fun _ => o16) h560 hk rfl (fun v hv f562 => ?_)
      obtain ⟨r563, k564, rfl⟩ := hv
      refine m_iload_n F rfl e_X8_put_24 ?_
      refine m_aload_n F rfl e_X8_put_25 ?_
      refine t_get F e_X8_put_26 fl_X8_54 (fun _ => o6) h560 k902 rfl (fun v hv f565 => ?_)
      obtain ⟨x566, rfl⟩ := hv
      refine t_last F (len := 72) (j := n553) e_X8_put_29 (fun _ => o17) h560 k564 (nI_clamp (by omega)) (vp_in_nI (by omega) (by decide)) (by decide) (fun σ567 h568 g569 => ?_)
      exact m_vret F hQ e_X8_put_30 (⟨h568, rfl⟩)
set_option maxRecDepth 20000 in
theorem s_X8_setAt (l : Launch) (V : VX) (G : GH) (b M Z T N : Nat) (σ : Mem) (a : Nat) (x901 : Int32) (x902 : Int64) (h0 : HT V G (b, M, Z, T) σ) (hk : kA b a = 16) (hM : M + 0 ≤ 1000000000) : Ct l V yX8_setAt cX8_setAt 4 none 1 0 0 N σ [.ref a, .int x901, .long x902] (fun r τ => HK V G (b, M, Z, T) [0, 1, 2, 3, 4, 5, 7, 8, 9, 10, 11, 12, 13, 14, 15, 16, 18, 19] σ τ ∧ r = none) := by
  refine Ct.of (by decide) (Nat.le_of_ble_eq_true rfl) [(0, .ref a), (1, .int x901), (2, .long x902)] rfl (fun X hX F hQ => ?_)
  have h1 : HK V G (b, M, Z, T) [0, 1, 2, 3, 4, 5, 7, 8, 9, 10, 11, 12, 13, 14, 15, 16, 18, 19] σ σ := HK.start h0
  refine m_aload_n F rfl e_X8_setAt_0 ?_
  refine t_get F e_X8_setAt_1 fl_X8_21 (fun _ => o16) h1 hk rfl (fun v hv f570 => ?_)
  obtain ⟨r571, k572, rfl⟩ := hv
  refine m_lload_n F rfl e_X8_setAt_4 ?_
  refine t_callV F e_X8_setAt_5 (s_X1_set (x_l X) V G b M Z T _ _ r571 x902 h1.1 k572  (by omega)) cb_X1_set ml_X8_40 im_X1_set se_X1_set (fun _ => o6) h1 k572 rfl rfl (rest := []) rfl (Nat.le_of_ble_eq_true rfl) ⟨Nat.le_of_ble_eq_true rfl, Nat.le_of_ble_eq_true rfl⟩ ⟨Nat.le_of_ble_eq_true rfl, Nat.le_of_ble_eq_true rfl⟩ (fun r σ573 hp => ?_)
  obtain ⟨h575, rfl⟩ := hp
  have h574 := HK.trans h1 h575 (by decide)
  refine m_aload_n F rfl e_X8_setAt_8 ?_
  refine m_iload_n F rfl e_X8_setAt_9 ?_
  refine m_aload_n F rfl e_X8_setAt_10 ?_
  refine t_getC F e_X8_setAt_11 fl_X8_21 (fun _ => o16) h574 hk ((fld_eq (h575.2 a (by rw [show kA _ a = 16 from hk]; decide))).trans f570) ?_
  refine t_callV F e_X8_setAt_14 (s_X8_put (x_l X) V G b M Z T _ _ a x901 r571 h574.1 hk k572 (by omega)) cb_X8_put ml_X8_59 im_X8_put se_X8_put (fun _ => o16) h574 hk rfl rfl (rest := []) rfl (Nat.le_of_ble_eq_true rfl) ⟨Nat.le_of_ble_eq_true rfl, Nat.le_of_ble_eq_true rfl⟩ ⟨Nat.le_of_ble_eq_true rfl, Nat.le_of_ble_eq_true rfl⟩ (fun r σ576 hp => ?_)
  obtain ⟨h578, rfl⟩ := hp
  have h577 := HK.trans h574 h578 (by decide)
  exact m_vret F hQ e_X8_setAt_17 (⟨h577, rfl⟩)
set_option maxRecDepth 20000 in
theorem s_X8_addAt (l : Launch) (V : VX) (G : GH) (b M Z T N : Nat) (σ : Mem) (a : Nat) (x901 : Int32) (x902 : Int64) (h0 : HT V G (b, M, Z, T) σ) (hk : kA b a = 16) (hM : M + 0 ≤ 1000000000) : Ct l V yX8_addAt cX8_addAt 4 none 1 0 0 N σ [.ref a, .int x901, .long x902] (fun r τ => HK V G (b, M, Z, T) [0, 1, 2, 3, 4, 5, 7, 8, 9, 10, 11, 12, 13, 14, 15, 16, 18, 19] σ τ ∧ r = none) := by
  refine Ct.of (by decide) (Nat.le_of_ble_eq_true rfl) [(0, .ref a), (1, .int x901), (2, .long x902)] rfl (fun X hX F hQ => ?_)
  have h1 : HK V G (b, M, Z, T) [0, 1, 2, 3, 4, 5, 7, 8, 9, 10, 11, 12, 13, 14, 15, 16, 18, 19] σ σ := HK.start h0
  refine m_aload_n F rfl e_X8_addAt_0 ?_
  refine m_iload_n F rfl e_X8_addAt_1 ?_
  refine m_aload_n F rfl e_X8_addAt_2 ?_
  refine t_get F e_X8_addAt_3 fl_X8_21 (fun _ => o16) h1 hk rfl (fun v hv f579 => ?_)
  obtain ⟨r580, k581, rfl⟩ := hv
  refine t_callV F e_X8_addAt_6 (s_X8_copyTo (x_l X) V G b M Z T _ _ a x901 r580 h1.1 hk k581 (by omega)) cb_X8_copyTo ml_X8_63 im_X8_copyTo se_X8_copyTo (fun _ => o16) h1 hk rfl rfl (rest := []) rfl (Nat.le_of_ble_eq_true rfl) ⟨Nat.le_of_ble_eq_true rfl, Nat.le_of_ble_eq_true rfl⟩ ⟨Nat.le_of_ble_eq_true rfl, Nat.le_of_ble_eq_true rfl⟩ (fun r σ582 hp => ?_)
  obtain ⟨h584, rfl⟩ := hp
  have h583 := HK.trans h1 h584 (by decide)
  refine m_aload_n F rfl e_X8_addAt_9 ?_
  refine t_getC F e_X8_addAt_10 fl_X8_21 (fun _ => o16) h583 hk ((fld_eq (h584.2 a (by rw [show kA _ a = 16 from hk]; decide))).trans f579) ?_
  refine m_lload_n F rfl e_X8_addAt_13 ?_
  refine t_callV F e_X8_addAt_14 (s_X1_addLong (x_l X) V G b M Z T _ _ r580 x902 h583.1 k581  (by omega)) cb_X1_addLong ml_X8_66 im_X1_addLong se_X1_addLong (fun _ => o6) h583 k581 rfl rfl (rest := []) rfl (Nat.le_of_ble_eq_true rfl) ⟨Nat.le_of_ble_eq_true rfl, Nat.le_of_ble_eq_true rfl⟩ ⟨Nat.le_of_ble_eq_true rfl, Nat.le_of_ble_eq_true rfl⟩ (fun r σ585 hp => ?_)
  obtain ⟨h587, rfl⟩ := hp
  have h586 := HK.trans h583 h587 (by decide)
  refine m_aload_n F rfl e_X8_addAt_17 ?_
  refine m_iload_n F rfl e_X8_addAt_18 ?_
  refine m_aload_n F rfl e_X8_addAt_19 ?_
  refine t_getC F e_X8_addAt_20 fl_X8_21 (fun _ => o16) h586 hk ((fld_eq (h587.2 a (by rw [show kA _ a = 16 from hk]; decide))).trans ((fld_eq (h584.2 a (by rw [show kA _ a = 16 from hk]; decide))).trans f579)) ?_
  refine t_callV F e_X8_addAt_23 (s_X8_put (x_l X) V G b M Z T _ _ a x901 r580 h586.1 hk k581 (by omega)) cb_X8_put ml_X8_59 im_X8_put se_X8_put (fun _ => o16) h586 hk rfl rfl (rest := []) rfl (Nat.le_of_ble_eq_true rfl) ⟨Nat.le_of_ble_eq_true rfl, Nat.le_of_ble_eq_true rfl⟩ ⟨Nat.le_of_ble_eq_true rfl, Nat.le_of_ble_eq_true rfl⟩ (fun r σ588 hp => ?_)
  obtain ⟨h590, rfl⟩ := hp
  have h589 := HK.trans h586 h590 (by decide)
  exact m_vret F hQ e_X8_addAt_26 (⟨h589, rfl⟩)
set_option maxRecDepth 20000 in
theorem s_X8_repeat (l : Launch) (V : VX) (G : GH) (b M Z T N : Nat) (σ : Mem) (a : Nat) (x901 : Int32) (h0 : HT V G (b, M, Z, T) σ) (hk : kA b a = 16) (hM : M + 0 ≤ 1000000000) : Ct l V yX8_repeat cX8_repeat 2 none 1 0 0 N σ [.ref a, .int x901] (fun r τ => HK V G (b, M, Z, T) [0, 1, 2, 3, 4, 5, 7, 8, 9, 10, 11, 12, 13, 14, 15, 16, 18, 19] σ τ ∧ r = none) := by
  refine Ct.of (by decide) (Nat.le_of_ble_eq_true rfl) [(0, .ref a), (1, .int x901)] rfl (fun X hX F hQ => ?_)
  have h1 : HK V G (b, M, Z, T) [0, 1, 2, 3, 4, 5, 7, 8, 9, 10, 11, 12, 13, 14, 15, 16, 18, 19] σ σ := HK.start h0
  refine m_aload_n F rfl e_X8_repeat_0 ?_
  refine m_iload_n F rfl e_X8_repeat_1 ?_
  refine m_aload_n F rfl e_X8_repeat_2 ?_
  refine t_get F e_X8_repeat_3 fl_X8_21 (fun _ => o16) h1 hk rfl (fun v hv f591 => ?_)
  obtain ⟨r592, k593, rfl⟩ := hv
  refine t_callV F e_X8_repeat_6 (s_X8_copyTo (x_l X) V G b M Z T _ _ a x901 r592 h1.1 hk k593 (by omega)) cb_X8_copyTo ml_X8_63 im_X8_copyTo se_X8_copyTo (fun _ => o16) h1 hk rfl rfl (rest := []) rfl (Nat.le_of_ble_eq_true rfl) ⟨Nat.le_of_ble_eq_true rfl, Nat.le_of_ble_eq_true rfl⟩ ⟨Nat.le_of_ble_eq_true rfl, Nat.le_of_ble_eq_true rfl⟩ (fun r σ594 hp => ?_)
  obtain ⟨h596, rfl⟩ := hp
  have h595 := HK.trans h1 h596 (by decide)
  refine m_aload_n F rfl e_X8_repeat_9 ?_
  refine m_iload_n F rfl e_X8_repeat_10 ?_
  refine m_iconst F (v := 1) (by decide) e_X8_repeat_11 ?_
  refine m_iadd F e_X8_repeat_12 ?_
  refine Wm.top (fun x597 _ => ?_)
  refine m_aload_n F rfl e_X8_repeat_13 ?_
  refine t_getC F e_X8_repeat_14 fl_X8_21 (fun _ => o16) h595 hk ((fld_eq (h596.2 a (by rw [show kA _ a = 16 from hk]; decide))).trans f591) ?_
  refine t_callV F e_X8_repeat_17 (s_X8_put (x_l X) V G b M Z T _ _ a x597 r592 h595.1 hk k593 (by omega)) cb_X8_put ml_X8_59 im_X8_put se_X8_put (fun _ => o16) h595 hk rfl rfl (rest := []) rfl (Nat.le_of_ble_eq_true rfl) ⟨Nat.le_of_ble_eq_true rfl, Nat.le_of_ble_eq_true rfl⟩ ⟨Nat.le_of_ble_eq_true rfl, Nat.le_of_ble_eq_true rfl⟩ (fun r σ598 hp => ?_)
  obtain ⟨h600, rfl⟩ := hp
  have h599 := HK.trans h595 h600 (by decide)
  exact m_vret F hQ e_X8_repeat_20 (⟨h599, rfl⟩)
set_option maxRecDepth 20000 in
theorem s_X8_move (l : Launch) (V : VX) (G : GH) (b M Z T N : Nat) (σ : Mem) (a : Nat) (x901 : Int32) (x902 : Int32) (h0 : HT V G (b, M, Z, T) σ) (hk : kA b a = 16) (hM : M + 0 ≤ 1000000000) : Ct l V yX8_move cX8_move 3 none 2 0 0 N σ [.ref a, .int x901, .int x902] (fun r τ => HK V G (b, M, Z, T) [0, 1, 2, 3, 4, 5, 7, 8, 9, 10, 11, 12, 13, 14, 15, 16, 18, 19] σ τ ∧ r = none) := by
  refine Ct.of (by decide) (Nat.le_of_ble_eq_true rfl) [(0, .ref a), (1, .int x901), (2, .int x902)] rfl (fun X hX F hQ => ?_)
  have h1 : HK V G (b, M, Z, T) [0, 1, 2, 3, 4, 5, 7, 8, 9, 10, 11, 12, 13, 14, 15, 16, 18, 19] σ σ := HK.start h0
  refine m_aload_n F rfl e_X8_move_0 ?_
  refine m_iload_n F rfl e_X8_move_1 ?_
  refine m_aload_n F rfl e_X8_move_2 ?_
  refine t_get F e_X8_move_3 fl_X8_21 (fun _ => o16) h1 hk rfl (fun v hv f601 => ?_)
  obtain ⟨r602, k603, rfl⟩ := hv
  refine t_callV F e_X8_move_6 (s_X8_copyTo (x_l X) V G b M Z T _ _ a x901 r602 h1.1 hk k603 (by omega)) cb_X8_copyTo ml_X8_63 im_X8_copyTo se_X8_copyTo (fun _ => o16) h1 hk rfl rfl (rest := []) rfl (Nat.le_of_ble_eq_true rfl) ⟨Nat.le_of_ble_eq_true rfl, Nat.le_of_ble_eq_true rfl⟩ ⟨Nat.le_of_ble_eq_true rfl, Nat.le_of_ble_eq_true rfl⟩ (fun r σ604 hp => ?_)
  obtain ⟨h606, rfl⟩ := hp
  have h605 := HK.trans h1 h606 (by decide)
  refine m_aload_n F rfl e_X8_move_9 ?_
  refine m_iload_n F rfl e_X8_move_10 ?_
  refine m_aload_n F rfl e_X8_move_11 ?_
  refine t_getC F e_X8_move_12 fl_X8_21 (fun _ => o16) h605 hk ((fld_eq (h606.2 a (by rw [show kA _ a = 16 from hk]; decide))).trans f601) ?_
  refine t_callV F e_X8_move_15 (s_X8_addTo (x_l X) V G b M Z T _ _ a x902 r602 h605.1 hk k603 (by omega)) cb_X8_addTo ml_X8_69 im_X8_addTo se_X8_addTo (fun _ => o16) h605 hk rfl rfl (rest := []) rfl (Nat.le_of_ble_eq_true rfl) ⟨Nat.le_of_ble_eq_true rfl, Nat.le_of_ble_eq_true rfl⟩ ⟨Nat.le_of_ble_eq_true rfl, Nat.le_of_ble_eq_true rfl⟩ (fun r σ607 hp => ?_)
  obtain ⟨h609, rfl⟩ := hp
  have h608 := HK.trans h605 h609 (by decide)
  refine m_aload_n F rfl e_X8_move_18 ?_
  refine m_iload_n F rfl e_X8_move_19 ?_
  refine m_aload_n F rfl e_X8_move_20 ?_
  refine t_getC F e_X8_move_21 fl_X8_21 (fun _ => o16) h608 hk ((fld_eq (h609.2 a (by rw [show kA _ a = 16 from hk]; decide))).trans ((fld_eq (h606.2 a (by rw [show kA _ a = 16 from hk]; decide))).trans f601)) ?_
  refine t_callV F e_X8_move_24 (s_X8_put (x_l X) V G b M Z T _ _ a x902 r602 h608.1 hk k603 (by omega)) cb_X8_put ml_X8_59 im_X8_put se_X8_put (fun _ => o16) h608 hk rfl rfl (rest := []) rfl (Nat.le_of_ble_eq_true rfl) ⟨Nat.le_of_ble_eq_true rfl, Nat.le_of_ble_eq_true rfl⟩ ⟨Nat.le_of_ble_eq_true rfl, Nat.le_of_ble_eq_true rfl⟩ (fun r σ610 hp => ?_)
  obtain ⟨h612, rfl⟩ := hp
  have h611 := HK.trans h608 h612 (by decide)
  refine m_aload_n F rfl e_X8_move_27 ?_
  refine m_iload_n F rfl e_X8_move_28 ?_
  refine m_lconst F (v := 0) (by decide) e_X8_move_29 ?_
  refine t_callV F e_X8_move_30 (s_X8_setAt (x_l X) V G b M Z T _ _ a x901 0 h611.1 hk  (by omega)) cb_X8_setAt ml_X8_72 im_X8_setAt se_X8_setAt (fun _ => o16) h611 hk rfl rfl (rest := []) rfl (Nat.le_of_ble_eq_true rfl) ⟨Nat.le_of_ble_eq_true rfl, Nat.le_of_ble_eq_true rfl⟩ ⟨Nat.le_of_ble_eq_true rfl, Nat.le_of_ble_eq_true rfl⟩ (fun r σ613 hp => ?_)
  obtain ⟨h615, rfl⟩ := hp
  have h614 := HK.trans h611 h615 (by decide)
  exact m_vret F hQ e_X8_move_33 (⟨h614, rfl⟩)
set_option maxRecDepth 20000 in
theorem lp_X8_shareDownOf_3 {V : VX} {G : GH} {X : MX} {b M Z T N : Nat} {σ : Mem} {a : Nat} {r901 : Nat} {x902 : Int32} {x903 : Int32} {x904 : Int64} {x905 : Int64}  (F : Fx V X yX8_shareDownOf cX8_shareDownOf 9 none (rmd 2 0 0)) (hQ : Rt V X 0 0 N (fun r τ => HK V G (b, M, Z, T) [0, 1, 2, 3, 4, 5, 7, 8, 9, 10, 11, 12, 13, 14, 15, 16, 18, 19] σ τ ∧ r = none)) (hk : kA b a = 16) (k901 : kA b r901 = 16) (hM : M + 0 ≤ 1000000000)  : ∀ (fuel : Nat) (i1 : Int32) (τ : Mem), HK V G (b, M, Z, T) [0, 1, 2, 3, 4, 5, 7, 8, 9, 10, 11, 12, 13, 14, 15, 16, 18, 19] σ τ → True → (x903.toInt - i1.toInt).toNat < fuel → Wm V X 9 N τ 0 0 3 [(8, .int i1), (0, .ref a), (1, .ref r901), (2, .int x902), (3, .int x903), (4, .long x904), (6, .long x905)] [] := by
  intro fuel
  induction fuel with
  | zero => intro i1 τ h1 hi hm; exact absurd hm (Nat.not_lt_zero _)
  | succ fuel ih =>
    intro i1 τ h1 hi hm
    refine m_iload F rfl e_X8_shareDownOf_3 ?_
    refine m_iload_n F rfl e_X8_shareDownOf_5 ?_
    refine m_icmp_ge F e_X8_shareDownOf_6 (fun q6 => ?_) (fun q6 => ?_)
    · exact m_vret F hQ e_X8_shareDownOf_46 (⟨h1, rfl⟩)
    · refine m_aload_n F rfl e_X8_shareDownOf_9 ?_
      refine m_iload F rfl e_X8_shareDownOf_10 ?_
      refine m_aload_n F rfl e_X8_shareDownOf_12 ?_
      refine t_get F e_X8_shareDownOf_13 fl_X8_21 (fun _ => o16) h1 hk rfl (fun v hv f616 => ?_)
      obtain ⟨r617, k618, rfl⟩ := hv
      refine t_callV F e_X8_shareDownOf_16 (s_X8_copyTo (x_l X) V G b M Z T _ _ r901 i1 r617 h1.1 k901 k618 (by omega)) cb_X8_copyTo ml_X8_63 im_X8_copyTo se_X8_copyTo (fun _ => o16) h1 k901 rfl rfl (rest := []) rfl (Nat.le_of_ble_eq_true rfl) ⟨Nat.le_of_ble_eq_true rfl, Nat.le_of_ble_eq_true rfl⟩ ⟨Nat.le_of_ble_eq_true rfl, Nat.le_of_ble_eq_true rfl⟩ (fun r σ619 hp => ?_)
      obtain ⟨h621, rfl⟩ := hp
      have h620 := HK.trans h1 h621 (by decide)
      refine m_aload_n F rfl e_X8_shareDownOf_19 ?_
      refine t_getC F e_X8_shareDownOf_20 fl_X8_21 (fun _ => o16) h620 hk ((fld_eq (h621.2 a (by rw [show kA _ a = 16 from hk]; decide))).trans f616) ?_
      refine m_lload F rfl e_X8_shareDownOf_23 ?_
      refine m_lload F rfl e_X8_shareDownOf_25 ?_
      refine t_callV F e_X8_shareDownOf_27 (s_X1_shareDown (x_l X) V G b M Z T _ _ r617 x904 x905 h620.1 k618  (by omega)) cb_X1_shareDown ml_X8_76 im_X1_shareDown se_X1_shareDown (fun _ => o6) h620 k618 rfl rfl (rest := []) rfl (Nat.le_of_ble_eq_true rfl) ⟨Nat.le_of_ble_eq_true rfl, Nat.le_of_ble_eq_true rfl⟩ ⟨Nat.le_of_ble_eq_true rfl, Nat.le_of_ble_eq_true rfl⟩ (fun r σ622 hp => ?_)
      obtain ⟨h624, rfl⟩ := hp
      have h623 := HK.trans h620 h624 (by decide)
      refine m_aload_n F rfl e_X8_shareDownOf_30 ?_
      refine m_iload F rfl e_X8_shareDownOf_31 ?_
      refine m_aload_n F rfl e_X8_shareDownOf_33 ?_
      refine t_getC F e_X8_shareDownOf_34 fl_X8_21 (fun _ => o16) h623 hk ((fld_eq (h624.2 a (by rw [show kA _ a = 16 from hk]; decide))).trans ((fld_eq (h621.2 a (by rw [show kA _ a = 16 from hk]; decide))).trans f616)) ?_
      refine t_callV F e_X8_shareDownOf_37 (s_X8_put (x_l X) V G b M Z T _ _ a i1 r617 h623.1 hk k618 (by omega)) cb_X8_put ml_X8_59 im_X8_put se_X8_put (fun _ => o16) h623 hk rfl rfl (rest := []) rfl (Nat.le_of_ble_eq_true rfl) ⟨Nat.le_of_ble_eq_true rfl, Nat.le_of_ble_eq_true rfl⟩ ⟨Nat.le_of_ble_eq_true rfl, Nat.le_of_ble_eq_true rfl⟩ (fun r σ625 hp => ?_)
      obtain ⟨h627, rfl⟩ := hp
      have h626 := HK.trans h623 h627 (by decide)
      refine m_iinc F (v := (i1 + 1)) (lv' := [(8, .int (i1 + 1)), (0, .ref a), (1, .ref r901), (2, .int x902), (3, .int x903), (4, .long x904), (6, .long x905)]) e_X8_shareDownOf_40 rfl rfl (by decide) rfl ?_
      refine m_goto F e_X8_shareDownOf_43 ?_
      exact ih (i1 + 1) _ h626 trivial (by have h9 := inc_lt (Int32.not_le.mp q6); have h8 := Int32.lt_iff_toInt_lt.mp (Int32.not_le.mp q6); omega)
set_option maxRecDepth 20000 in
theorem s_X8_shareDownOf (l : Launch) (V : VX) (G : GH) (b M Z T N : Nat) (σ : Mem) (a : Nat) (r901 : Nat) (x902 : Int32) (x903 : Int32) (x904 : Int64) (x905 : Int64) (h0 : HT V G (b, M, Z, T) σ) (hk : kA b a = 16) (k901 : kA b r901 = 16) (hM : M + 0 ≤ 1000000000) : Ct l V yX8_shareDownOf cX8_shareDownOf 9 none 2 0 0 N σ [.ref a, .ref r901, .int x902, .int x903, .long x904, .long x905] (fun r τ => HK V G (b, M, Z, T) [0, 1, 2, 3, 4, 5, 7, 8, 9, 10, 11, 12, 13, 14, 15, 16, 18, 19] σ τ ∧ r = none) := by
  refine Ct.of (by decide) (Nat.le_of_ble_eq_true rfl) [(0, .ref a), (1, .ref r901), (2, .int x902), (3, .int x903), (4, .long x904), (6, .long x905)] rfl (fun X hX F hQ => ?_)
  have h1 : HK V G (b, M, Z, T) [0, 1, 2, 3, 4, 5, 7, 8, 9, 10, 11, 12, 13, 14, 15, 16, 18, 19] σ σ := HK.start h0
  refine m_iload_n F rfl e_X8_shareDownOf_0 ?_
  refine m_istore F (lv' := [(8, .int x902), (0, .ref a), (1, .ref r901), (2, .int x902), (3, .int x903), (4, .long x904), (6, .long x905)]) e_X8_shareDownOf_1 (by decide) rfl ?_
  exact lp_X8_shareDownOf_3 F hQ hk k901 hM ((x903.toInt - x902.toInt).toNat + 1) x902 _ h1 trivial (Nat.lt_succ_self _)
set_option maxRecDepth 20000 in
theorem s_X6_copyFrom (l : Launch) (V : VX) (G : GH) (b M Z T N : Nat) (σ : Mem) (a : Nat) (r901 : Nat) (h0 : HT V G (b, M, Z, T) σ) (hk : kA b a = 19) (k901 : kA b r901 = 19) (hM : M + 0 ≤ 1000000000) : Ct l V yX6_copyFrom cX6_copyFrom 2 none 0 0 0 N σ [.ref a, .ref r901] (fun r τ => HK V G (b, M, Z, T) [0, 1, 2, 3, 4, 5, 6, 7, 8, 9, 10, 11, 12, 13, 14, 15, 16, 17, 18] σ τ ∧ r = none) := by
  refine Ct.of (by decide) (Nat.le_of_ble_eq_true rfl) [(0, .ref a), (1, .ref r901)] rfl (fun X hX F hQ => ?_)
  have h1 : HK V G (b, M, Z, T) [0, 1, 2, 3, 4, 5, 6, 7, 8, 9, 10, 11, 12, 13, 14, 15, 16, 17, 18] σ σ := HK.start h0
  refine m_aload_n F rfl e_X6_copyFrom_0 ?_
  refine m_aload_n F rfl e_X6_copyFrom_1 ?_
  refine t_get F e_X6_copyFrom_2 fl_X6_7 (fun _ => o19) h1 k901 rfl (fun v hv f628 => ?_)
  obtain ⟨n629, hn629, rfl⟩ := hv
  replace hn629 : n629 ≤ 3 := hn629
  refine t_put F e_X6_copyFrom_5 fp_X6_7 (fun _ => o19) h1 hk rfl ⟨n629, (show n629 ≤ 3 by omega), rfl⟩ rfl rfl (by decide) (fun σ630 h631 g632 g633 f634 => ?_)
  refine m_aload_n F rfl e_X6_copyFrom_8 ?_
  refine m_aload_n F rfl e_X6_copyFrom_9 ?_
  refine t_get F e_X6_copyFrom_10 fl_X6_13 (fun _ => o19) h631 k901 rfl (fun v hv f635 => ?_)
  obtain ⟨n636, hn636, rfl⟩ := hv
  replace hn636 : n636 ≤ 24 := hn636
  refine t_put F e_X6_copyFrom_13 fp_X6_13 (fun _ => o19) h631 hk rfl ⟨n636, (show n636 ≤ 24 by omega), rfl⟩ rfl rfl (by decide) (fun σ637 h638 g639 g640 f641 => ?_)
  refine m_aload_n F rfl e_X6_copyFrom_16 ?_
  refine m_aload_n F rfl e_X6_copyFrom_17 ?_
  refine t_get F e_X6_copyFrom_18 fl_X6_16 (fun _ => o19) h638 k901 rfl (fun v hv f642 => ?_)
  obtain ⟨x643, rfl⟩ := hv
  refine t_put F e_X6_copyFrom_21 fp_X6_16 (fun _ => o19) h638 hk rfl ⟨_, rfl⟩ rfl rfl (by decide) (fun σ644 h645 g646 g647 f648 => ?_)
  refine m_aload_n F rfl e_X6_copyFrom_24 ?_
  refine m_aload_n F rfl e_X6_copyFrom_25 ?_
  refine t_get F e_X6_copyFrom_26 fl_X6_19 (fun _ => o19) h645 k901 rfl (fun v hv f649 => ?_)
  obtain ⟨n650, hn650, rfl⟩ := hv
  replace hn650 : n650 ≤ 1 := hn650
  refine t_put F e_X6_copyFrom_29 fp_X6_19 (fun _ => o19) h645 hk rfl ⟨n650, (show n650 ≤ 1 by omega), rfl⟩ (nz1 (by omega)) (fz1 (by omega)) (by decide) (fun σ651 h652 g653 g654 f655 => ?_)
  exact m_vret F hQ e_X6_copyFrom_32 (⟨h652, rfl⟩)
set_option maxRecDepth 20000 in
theorem s_X3_clear (l : Launch) (V : VX) (G : GH) (b M Z T N : Nat) (σ : Mem) (a : Nat) (h0 : HT V G (b, M, Z, T) σ) (hk : kA b a = 12) (hM : M + 0 ≤ 1000000000) : Ct l V yX3_clear cX3_clear 1 none 1 0 0 N σ [.ref a] (fun r τ => HK V G (b, M, Z, T) [0, 1, 2, 3, 4, 5, 6, 7, 8, 9, 10, 11, 13, 15, 16, 17, 18, 19] σ τ ∧ r = none) := by
  refine Ct.of (by decide) (Nat.le_of_ble_eq_true rfl) [(0, .ref a)] rfl (fun X hX F hQ => ?_)
  have h1 : HK V G (b, M, Z, T) [0, 1, 2, 3, 4, 5, 6, 7, 8, 9, 10, 11, 13, 15, 16, 17, 18, 19] σ σ := HK.start h0
  refine m_aload_n F rfl e_X3_clear_0 ?_
  refine m_iconst F (v := 0) (by decide) e_X3_clear_1 ?_
  refine t_put F e_X3_clear_2 fp_X3_18 (fun _ => o12) h1 hk rfl ⟨0, (show 0 ≤ M by omega), rfl⟩ rfl rfl (by decide) (fun σ656 h657 g658 g659 f660 => ?_)
  refine m_aload_n F rfl e_X3_clear_5 ?_
  refine t_get F e_X3_clear_6 fl_X3_15 (fun _ => o12) h657 hk rfl (fun v hv f661 => ?_)
  obtain ⟨r662, k663, rfl⟩ := hv
  refine m_lconst F (v := 0) (by decide) e_X3_clear_9 ?_
  refine m_callS F e_X3_clear_10 (s_J7_fill_d0a16_14 (x_l X) V G b M Z T _ _ r662 0 h657.1 k663 (by omega)) cb_J7_fill_d0a16 ml_X3_22 sm_J7_fill_d0a16 rfl (rest := []) rfl (Nat.le_of_ble_eq_true rfl) ⟨Nat.le_of_ble_eq_true rfl, Nat.le_of_ble_eq_true rfl⟩ ⟨Nat.le_of_ble_eq_true rfl, Nat.le_of_ble_eq_true rfl⟩ (k' := 0) (z' := 0) (N' := N) rfl rfl rfl (fun r σ664 hp => ?_)
  obtain ⟨h666, rfl⟩ := hp
  have h665 := HK.trans h657 h666 (by decide)
  exact m_vret F hQ e_X3_clear_13 (⟨h665, rfl⟩)
set_option maxRecDepth 20000 in
theorem s_X3_copyFrom (l : Launch) (V : VX) (G : GH) (b M Z T N : Nat) (σ : Mem) (a : Nat) (r901 : Nat) (h0 : HT V G (b, M, Z, T) σ) (hk : kA b a = 12) (k901 : kA b r901 = 12) (hM : M + 0 ≤ 1000000000) : Ct l V yX3_copyFrom cX3_copyFrom 2 none 1 0 0 N σ [.ref a, .ref r901] (fun r τ => HK V G (b, M, Z, T) [0, 1, 2, 3, 4, 5, 6, 7, 8, 9, 10, 11, 15, 16, 17, 18, 19] σ τ ∧ r = none) := by
  refine Ct.of (by decide) (Nat.le_of_ble_eq_true rfl) [(0, .ref a), (1, .ref r901)] rfl (fun X hX F hQ => ?_)
  have h1 : HK V G (b, M, Z, T) [0, 1, 2, 3, 4, 5, 6, 7, 8, 9, 10, 11, 15, 16, 17, 18, 19] σ σ := HK.start h0
  refine m_aload_n F rfl e_X3_copyFrom_0 ?_
  refine m_aload_n F rfl e_X3_copyFrom_1 ?_
  refine t_get F e_X3_copyFrom_2 fl_X3_18 (fun _ => o12) h1 k901 rfl (fun v hv f667 => ?_)
  obtain ⟨n668, hn668, rfl⟩ := hv
  replace hn668 : n668 ≤ M := hn668
  refine t_put F e_X3_copyFrom_5 fp_X3_18 (fun _ => o12) h1 hk rfl ⟨n668, (show n668 ≤ M by omega), rfl⟩ rfl rfl (by decide) (fun σ669 h670 g671 g672 f673 => ?_)
  refine m_aload_n F rfl e_X3_copyFrom_8 ?_
  refine t_get F e_X3_copyFrom_9 fl_X3_11 (fun _ => o12) h670 k901 rfl (fun v hv f674 => ?_)
  obtain ⟨r675, k676, rfl⟩ := hv
  refine m_iconst F (v := 0) (by decide) e_X3_copyFrom_12 ?_
  refine m_aload_n F rfl e_X3_copyFrom_13 ?_
  refine t_get F e_X3_copyFrom_14 fl_X3_11 (fun _ => o12) h670 hk rfl (fun v hv f677 => ?_)
  obtain ⟨r678, k679, rfl⟩ := hv
  refine m_iconst F (v := 0) (by decide) e_X3_copyFrom_17 ?_
  refine m_sipush F (v := 360) (by decide) e_X3_copyFrom_18 ?_
  refine t_copyJ F (len := 360) e_X3_copyFrom_21 ac_X3_28 (fun _ => o13) (fun _ => o13) h670 k676 k679 (by decide) (by decide) (by decide) (by decide) (Nat.le_of_ble_eq_true rfl) (Nat.le_of_ble_eq_true rfl) (by decide) (fun σ680 h681 g682 => ?_)
  refine m_aload_n F rfl e_X3_copyFrom_24 ?_
  refine t_get F e_X3_copyFrom_25 fl_X3_15 (fun _ => o12) h681 k901 rfl (fun v hv f683 => ?_)
  obtain ⟨r684, k685, rfl⟩ := hv
  refine m_iconst F (v := 0) (by decide) e_X3_copyFrom_28 ?_
  refine m_aload_n F rfl e_X3_copyFrom_29 ?_
  refine t_get F e_X3_copyFrom_30 fl_X3_15 (fun _ => o12) h681 hk rfl (fun v hv f686 => ?_)
  obtain ⟨r687, k688, rfl⟩ := hv
  refine m_iconst F (v := 0) (by decide) e_X3_copyFrom_33 ?_
  refine m_bipush F (v := 6) (by decide) e_X3_copyFrom_34 ?_
  refine t_copyJ F (len := 6) e_X3_copyFrom_36 ac_X3_28 (fun _ => o14) (fun _ => o14) h681 k685 k688 (by decide) (by decide) (by decide) (by decide) (Nat.le_of_ble_eq_true rfl) (Nat.le_of_ble_eq_true rfl) (by decide) (fun σ689 h690 g691 => ?_)
  exact m_vret F hQ e_X3_copyFrom_39 (⟨h690, rfl⟩)
set_option maxRecDepth 20000 in
theorem s_X3_kept (l : Launch) (V : VX) (G : GH) (b M Z T N : Nat) (σ : Mem) (a : Nat) (t : Nat) (h0 : HT V G (b, M, Z, T) σ) (hk : kA b a = 12) (hft : fld σ a 2 = some (.int (nI t))) (ht : t ≤ M) (hM : M + 0 ≤ 1000000000) : Ct l V yX3_kept cX3_kept 1 (some .int) 1 0 0 N σ [.ref a] (fun r τ => HK V G (b, M, Z, T) [0, 1, 2, 3, 4, 5, 6, 7, 8, 9, 10, 11, 12, 13, 14, 15, 16, 17, 18, 19] σ τ ∧ ∃ n : Nat, n ≤ 40 ∧ n ≤ t ∧ r = some (.int (nI n))) := by
  refine Ct.of (by decide) (Nat.le_of_ble_eq_true rfl) [(0, .ref a)] rfl (fun X hX F hQ => ?_)
  have h1 : HK V G (b, M, Z, T) [0, 1, 2, 3, 4, 5, 6, 7, 8, 9, 10, 11, 12, 13, 14, 15, 16, 17, 18, 19] σ σ := HK.start h0
  refine m_aload_n F rfl e_X3_kept_0 ?_
  refine t_getC F e_X3_kept_1 fl_X3_18 (fun _ => o12) h1 hk (hft) ?_
  refine m_bipush F (v := 40) (by decide) e_X3_kept_4 ?_
  refine m_min F e_X3_kept_6 ml_X3_34 sm_min ini_math co_min (Nat.le_of_ble_eq_true rfl) (Nat.le_of_ble_eq_true rfl) (Nat.le_of_ble_eq_true rfl) (Nat.le_of_ble_eq_true rfl) ?_
  refine Wm.topE (w := nI (min t 40)) (minN (a := t) (b := 40) (by omega) (by omega)) ?_
  exact m_iret F hQ e_X3_kept_9 (⟨h1, min t 40, by omega, by omega, rfl⟩)
set_option maxRecDepth 20000 in
theorem s_X3_open (l : Launch) (V : VX) (G : GH) (b M Z T N : Nat) (σ : Mem) (a : Nat) (x901 : Int32) (x902 : Int32) (x903 : Int32) (h0 : HT V G (b, M, Z, T) σ) (hk : kA b a = 12) (hM : M + 1 ≤ 1000000000) : Ct l V yX3_open cX3_open 5 none 3 0 0 N σ [.ref a, .int x901, .int x902, .int x903] (fun r τ => HK V G (b, M + 1, Z, T) [0, 1, 2, 3, 4, 5, 6, 7, 8, 9, 10, 11, 14, 15, 16, 17, 18, 19] σ τ ∧ r = none) := by
  refine Ct.of (by decide) (Nat.le_of_ble_eq_true rfl) [(0, .ref a), (1, .int x901), (2, .int x902), (3, .int x903)] rfl (fun X hX F hQ => ?_)
  have h1 : HK V G (b, M, Z, T) [0, 1, 2, 3, 4, 5, 6, 7, 8, 9, 10, 11, 14, 15, 16, 17, 18, 19] σ σ := HK.start h0
  refine m_aload_n F rfl e_X3_open_0 ?_
  refine t_get F e_X3_open_1 fl_X3_18 (fun _ => o12) h1 hk rfl (fun v hv f692 => ?_)
  obtain ⟨n693, hn693, rfl⟩ := hv
  replace hn693 : n693 ≤ M := hn693
  refine m_bipush F (v := 40) (by decide) e_X3_open_4 ?_
  refine m_irem F (by decide) e_X3_open_6 ?_
  refine Wm.topE (w := nI (n693 % 40)) (pk_rem (a := n693) (d := 40) (by omega) (by decide) (by decide)) ?_
  refine m_bipush F (v := 9) (by decide) e_X3_open_7 ?_
  refine m_imul F e_X3_open_9 ?_
  refine Wm.topE (w := nI ((n693 % 40) * 9)) (pk_mul (n693 % 40) 9) ?_
  refine m_istore F (lv' := [(4, .int (nI ((n693 % 40) * 9))), (0, .ref a), (1, .int x901), (2, .int x902), (3, .int x903)]) e_X3_open_10 (by decide) rfl ?_
  refine m_aload_n F rfl e_X3_open_12 ?_
  refine m_dup F rfl e_X3_open_13 ?_
  refine t_getC F e_X3_open_14 fl_X3_18 (fun _ => o12) h1 hk (f692) ?_
  refine m_iconst F (v := 1) (by decide) e_X3_open_17 ?_
  refine m_iadd F e_X3_open_18 ?_
  refine Wm.topE (w := nI (n693 + 1)) (nI_add n693 1) ?_
  have h699 := h1.mono (M' := M + 1) (Z' := Z) (by omega) id
  refine t_put F e_X3_open_19 fp_X3_18 (fun _ => o12) h699 hk rfl ⟨n693 + 1, (show n693 + 1 ≤ M + 1 by omega), rfl⟩ rfl rfl (by decide) (fun σ694 h695 g696 g697 f698 => ?_)
  refine m_aload_n F rfl e_X3_open_22 ?_
  refine t_get F e_X3_open_23 fl_X3_11 (fun _ => o12) h695 hk rfl (fun v hv f700 => ?_)
  obtain ⟨r701, k702, rfl⟩ := hv
  refine m_iload F rfl e_X3_open_26 ?_
  refine m_iload_n F rfl e_X3_open_28 ?_
  refine m_i2l F e_X3_open_29 ?_
  refine Wm.topl (fun x703 _ => ?_)
  refine t_last F (len := 360) (j := (n693 % 40) * 9) e_X3_open_30 (fun _ => o13) h695 k702 (nI_clamp (by omega)) (vp_in_nI (by omega) (by decide)) (by decide) (fun σ704 h705 g706 => ?_)
  refine m_aload_n F rfl e_X3_open_31 ?_
  refine t_getC F e_X3_open_32 fl_X3_11 (fun _ => o12) h705 hk ((g706 a 0 (fun e => absurd ((hk).symm.trans e) (by decide))).trans f700) ?_
  refine m_iload F rfl e_X3_open_35 ?_
  refine m_iconst F (v := 1) (by decide) e_X3_open_37 ?_
  refine m_iadd F e_X3_open_38 ?_
  refine Wm.topE (w := nI ((n693 % 40) * 9 + 1)) (nI_add ((n693 % 40) * 9) 1) ?_
  refine m_iload_n F rfl e_X3_open_39 ?_
  refine m_i2l F e_X3_open_40 ?_
  refine Wm.topl (fun x707 _ => ?_)
  refine t_last F (len := 360) (j := (n693 % 40) * 9 + 1) e_X3_open_41 (fun _ => o13) h705 k702 (nI_clamp (by omega)) (vp_in_nI (by omega) (by decide)) (by decide) (fun σ708 h709 g710 => ?_)
  refine m_aload_n F rfl e_X3_open_42 ?_
  refine t_getC F e_X3_open_43 fl_X3_11 (fun _ => o12) h709 hk ((g710 a 0 (fun e => absurd ((hk).symm.trans e) (by decide))).trans ((g706 a 0 (fun e => absurd ((hk).symm.trans e) (by decide))).trans f700)) ?_
  refine m_iload F rfl e_X3_open_46 ?_
  refine m_iconst F (v := 2) (by decide) e_X3_open_48 ?_
  refine m_iadd F e_X3_open_49 ?_
  refine Wm.topE (w := nI ((n693 % 40) * 9 + 2)) (nI_add ((n693 % 40) * 9) 2) ?_
  refine m_iload_n F rfl e_X3_open_50 ?_
  refine m_i2l F e_X3_open_51 ?_
  refine Wm.topl (fun x711 _ => ?_)
  refine t_last F (len := 360) (j := (n693 % 40) * 9 + 2) e_X3_open_52 (fun _ => o13) h709 k702 (nI_clamp (by omega)) (vp_in_nI (by omega) (by decide)) (by decide) (fun σ712 h713 g714 => ?_)
  refine m_aload_n F rfl e_X3_open_53 ?_
  refine t_getC F e_X3_open_54 fl_X3_11 (fun _ => o12) h713 hk ((g714 a 0 (fun e => absurd ((hk).symm.trans e) (by decide))).trans ((g710 a 0 (fun e => absurd ((hk).symm.trans e) (by decide))).trans ((g706 a 0 (fun e => absurd ((hk).symm.trans e) (by decide))).trans f700))) ?_
  refine m_iload F rfl e_X3_open_57 ?_
  refine m_iconst F (v := 3) (by decide) e_X3_open_59 ?_
  refine m_iadd F e_X3_open_60 ?_
  refine Wm.topE (w := nI ((n693 % 40) * 9 + 3)) (nI_add ((n693 % 40) * 9) 3) ?_
  refine m_iload F rfl e_X3_open_61 ?_
  refine m_bipush F (v := 9) (by decide) e_X3_open_63 ?_
  refine m_iadd F e_X3_open_65 ?_
  refine Wm.topE (w := nI ((n693 % 40) * 9 + 9)) (nI_add ((n693 % 40) * 9) 9) ?_
  refine m_lconst F (v := 0) (by decide) e_X3_open_66 ?_
  refine m_callS F e_X3_open_67 (s_J7_fill_bad5a_13 (x_l X) V G b (M + 1) Z T _ _ r701 ((n693 % 40) * 9 + 3) ((n693 % 40) * 9 + 9) 0 h713.1 k702 (by omega) (by omega) (by first | omega | assumption | decide) (by first | omega | assumption | decide) (by omega)) cb_J7_fill_bad5a ml_X3_40 sm_J7_fill_bad5a rfl (rest := []) rfl (Nat.le_of_ble_eq_true rfl) ⟨Nat.le_of_ble_eq_true rfl, Nat.le_of_ble_eq_true rfl⟩ ⟨Nat.le_of_ble_eq_true rfl, Nat.le_of_ble_eq_true rfl⟩ (k' := 0) (z' := 0) (N' := N) rfl rfl rfl (fun r σ715 hp => ?_)
  obtain ⟨h717, rfl⟩ := hp
  have h716 := HK.trans h713 h717 (by decide)
  exact m_vret F hQ e_X3_open_70 (⟨h716, rfl⟩)
set_option maxRecDepth 20000 in
theorem s_X3_put (l : Launch) (V : VX) (G : GH) (b M Z T N : Nat) (σ : Mem) (a : Nat) (x901 : Int32) (x902 : Int64) (h0 : HT V G (b, M, Z, T) σ) (hk : kA b a = 12) (hM : M + 0 ≤ 1000000000) : Ct l V yX3_put cX3_put 4 none 0 0 0 N σ [.ref a, .int x901, .long x902] (fun r τ => HK V G (b, M, Z, T) [0, 1, 2, 3, 4, 5, 6, 7, 8, 9, 10, 11, 12, 15, 16, 17, 18, 19] σ τ ∧ r = none) := by
  refine Ct.of (by decide) (Nat.le_of_ble_eq_true rfl) [(0, .ref a), (1, .int x901), (2, .long x902)] rfl (fun X hX F hQ => ?_)
  have h1 : HK V G (b, M, Z, T) [0, 1, 2, 3, 4, 5, 6, 7, 8, 9, 10, 11, 12, 15, 16, 17, 18, 19] σ σ := HK.start h0
  refine m_aload_n F rfl e_X3_put_0 ?_
  refine t_get F e_X3_put_1 fl_X3_18 (fun _ => o12) h1 hk rfl (fun v hv f718 => ?_)
  obtain ⟨n719, hn719, rfl⟩ := hv
  replace hn719 : n719 ≤ M := hn719
  refine m_iconst F (v := 1) (by decide) e_X3_put_4 ?_
  refine m_icmp_lt F e_X3_put_5 (fun q5 => ?_) (fun q5 => ?_)
  · have c5 : n719 < 1 := (nI_ltI (a := n719) (b := 1) (by omega) (by omega)).mp q5
    exact m_vret F hQ e_X3_put_18 (⟨h1, rfl⟩)
  · have c5 : n719 ≥ 1 := by have hh := mt (nI_ltI (a := n719) (b := 1) (by omega) (by omega)).mpr q5; omega
    refine m_iload_n F rfl e_X3_put_8 ?_
    refine m_if_lt F e_X3_put_9 (fun q9 => ?_) (fun q9 => ?_)
    · exact m_vret F hQ e_X3_put_18 (⟨h1, rfl⟩)
    · obtain ⟨n720, hn720, rfl⟩ := nI_nn (x := x901) (fun e => q9 (Int32.lt_of_lt_of_le e (by decide)))
      have c9 : n720 ≥ 0 := by have hh := mt (nI_ltI (a := n720) (b := 0) (by omega) (by omega)).mpr q9; omega
      refine m_iload_n F rfl e_X3_put_12 ?_
      refine m_bipush F (v := 6) (by decide) e_X3_put_13 ?_
      refine m_icmp_lt F e_X3_put_15 (fun q15 => ?_) (fun q15 => ?_)
      · have c15 : n720 < 6 := (nI_ltI (a := n720) (b := 6) (by omega) (by omega)).mp q15
        refine m_aload_n F rfl e_X3_put_19 ?_
        refine t_get F e_X3_put_20 fl_X3_11 (fun _ => o12) h1 hk rfl (fun v hv f721 => ?_)
        obtain ⟨r722, k723, rfl⟩ := hv
        refine m_aload_n F rfl e_X3_put_23 ?_
        refine t_getC F e_X3_put_24 fl_X3_18 (fun _ => o12) h1 hk (f718) ?_
        refine m_iconst F (v := 1) (by decide) e_X3_put_27 ?_
        refine m_isub F e_X3_put_28 ?_
        refine Wm.topE (w := nI (n719 - 1)) (pk_sub (a := n719) (b := 1) (by omega)) ?_
        refine m_bipush F (v := 40) (by decide) e_X3_put_29 ?_
        refine m_irem F (by decide) e_X3_put_31 ?_
        refine Wm.topE (w := nI ((n719 - 1) % 40)) (pk_rem (a := n719 - 1) (d := 40) (by omega) (by decide) (by decide)) ?_
        refine m_bipush F (v := 9) (by decide) e_X3_put_32 ?_
        refine m_imul F e_X3_put_34 ?_
        refine Wm.topE (w := nI (((n719 - 1) % 40) * 9)) (pk_mul ((n719 - 1) % 40) 9) ?_
        refine m_iconst F (v := 3) (by decide) e_X3_put_35 ?_
        refine m_iadd F e_X3_put_36 ?_
        refine Wm.topE (w := nI (((n719 - 1) % 40) * 9 + 3)) (nI_add (((n719 - 1) % 40) * 9) 3) ?_
        refine m_iload_n F rfl e_X3_put_37 ?_
        refine m_iadd F e_X3_put_38 ?_
        refine Wm.topE (w := nI ((((n719 - 1) % 40) * 9 + 3) + n720)) (nI_add (((n719 - 1) % 40) * 9 + 3) n720) ?_
        refine m_dup2_11 F rfl rfl e_X3_put_39 ?_
        refine t_lald F (len := 360) (j := (((n719 - 1) % 40) * 9 + 3) + n720) e_X3_put_40 (fun _ => o13) h1 k723 (nI_clamp (by omega)) (vp_in_nI (by omega) (by decide)) (fun x724 => ?_)
        refine m_lload_n F rfl e_X3_put_41 ?_
        refine m_ladd F e_X3_put_42 ?_
        refine Wm.topl (fun x725 _ => ?_)
        refine t_last F (len := 360) (j := (((n719 - 1) % 40) * 9 + 3) + n720) e_X3_put_43 (fun _ => o13) h1 k723 (nI_clamp (by omega)) (vp_in_nI (by omega) (by decide)) (by decide) (fun σ726 h727 g728 => ?_)
        refine m_aload_n F rfl e_X3_put_44 ?_
        refine t_get F e_X3_put_45 fl_X3_15 (fun _ => o12) h727 hk rfl (fun v hv f729 => ?_)
        obtain ⟨r730, k731, rfl⟩ := hv
        refine m_iload_n F rfl e_X3_put_48 ?_
        refine m_dup2_11 F rfl rfl e_X3_put_49 ?_
        refine t_lald F (len := 6) (j := n720) e_X3_put_50 (fun _ => o14) h727 k731 (nI_clamp (by omega)) (vp_in_nI (by omega) (by decide)) (fun x732 => ?_)
        refine m_lload_n F rfl e_X3_put_51 ?_
        refine m_ladd F e_X3_put_52 ?_
        refine Wm.topl (fun x733 _ => ?_)
        refine t_last F (len := 6) (j := n720) e_X3_put_53 (fun _ => o14) h727 k731 (nI_clamp (by omega)) (vp_in_nI (by omega) (by decide)) (by decide) (fun σ734 h735 g736 => ?_)
        exact m_vret F hQ e_X3_put_54 (⟨h735, rfl⟩)
      · have c15 : n720 ≥ 6 := by have hh := mt (nI_ltI (a := n720) (b := 6) (by omega) (by omega)).mpr q15; omega
        exact m_vret F hQ e_X3_put_18 (⟨h1, rfl⟩)
set_option maxRecDepth 20000 in
theorem s_X3_told (l : Launch) (V : VX) (G : GH) (b M Z T N : Nat) (σ : Mem) (a : Nat) (x901 : Int32) (x902 : Int32) (h0 : HT V G (b, M, Z, T) σ) (hk : kA b a = 12) (hM : M + 0 ≤ 1000000000) : Ct l V yX3_told cX3_told 3 (some .long) 2 0 0 N σ [.ref a, .int x901, .int x902] (fun r τ => HK V G (b, M, Z, T) [0, 1, 2, 3, 4, 5, 6, 7, 8, 9, 10, 11, 12, 13, 14, 15, 16, 17, 18, 19] σ τ ∧ ∃ x : Int64, r = some (.long x)) := by
  refine Ct.of (by decide) (Nat.le_of_ble_eq_true rfl) [(0, .ref a), (1, .int x901), (2, .int x902)] rfl (fun X hX F hQ => ?_)
  have h1 : HK V G (b, M, Z, T) [0, 1, 2, 3, 4, 5, 6, 7, 8, 9, 10, 11, 12, 13, 14, 15, 16, 17, 18, 19] σ σ := HK.start h0
  refine m_iload_n F rfl e_X3_told_0 ?_
  refine m_if_lt F e_X3_told_1 (fun q1 => ?_) (fun q1 => ?_)
  · refine m_lconst F (v := 0) (by decide) e_X3_told_22 ?_
    exact m_lret F hQ e_X3_told_23 (⟨h1, _, rfl⟩)
  · obtain ⟨n737, hn737, rfl⟩ := nI_nn (x := x901) (fun e => q1 (Int32.lt_of_lt_of_le e (by decide)))
    have c1 : n737 ≥ 0 := by have hh := mt (nI_ltI (a := n737) (b := 0) (by omega) (by omega)).mpr q1; omega
    refine m_iload_n F rfl e_X3_told_4 ?_
    refine m_aload_n F rfl e_X3_told_5 ?_
    obtain ⟨v9, ⟨n738, hn738, rfl⟩, f739⟩ := HK.f (j := 2) h1 (fun _ => o12) hk rfl
    replace hn738 : n738 ≤ M := hn738
    refine t_callV F e_X3_told_6 (s_X3_kept (x_l X) V G b M Z T _ _ a n738 h1.1 hk (f739) (by omega) (by omega)) cb_X3_kept ml_X3_43 im_X3_kept se_X3_kept (fun _ => o12) h1 hk rfl rfl (rest := [.int (nI n737)]) rfl (Nat.le_of_ble_eq_true rfl) ⟨Nat.le_of_ble_eq_true rfl, Nat.le_of_ble_eq_true rfl⟩ ⟨Nat.le_of_ble_eq_true rfl, Nat.le_of_ble_eq_true rfl⟩ (fun r σ740 hp => ?_)
    obtain ⟨h742, n743, hn743, gn743, rfl⟩ := hp
    have h741 := HK.trans h1 h742 (by decide)
    refine m_icmp_ge F e_X3_told_9 (fun q9 => ?_) (fun q9 => ?_)
    · have c9 : n737 ≥ n743 := (nI_leI (a := n743) (b := n737) (by omega) (by omega)).mp q9
      refine m_lconst F (v := 0) (by decide) e_X3_told_22 ?_
      exact m_lret F hQ e_X3_told_23 (⟨h741, _, rfl⟩)
    · have c9 : n737 < n743 := by have hh := mt (nI_leI (a := n743) (b := n737) (by omega) (by omega)).mpr q9; omega
      refine m_iload_n F rfl e_X3_told_12 ?_
      refine m_if_lt F e_X3_told_13 (fun q13 => ?_) (fun q13 => ?_)
      · refine m_lconst F (v := 0) (by decide) e_X3_told_22 ?_
        exact m_lret F hQ e_X3_told_23 (⟨h741, _, rfl⟩)
      · obtain ⟨n744, hn744, rfl⟩ := nI_nn (x := x902) (fun e => q13 (Int32.lt_of_lt_of_le e (by decide)))
        have c13 : n744 ≥ 0 := by have hh := mt (nI_ltI (a := n744) (b := 0) (by omega) (by omega)).mpr q13; omega
        refine m_iload_n F rfl e_X3_told_16 ?_
        refine m_bipush F (v := 9) (by decide) e_X3_told_17 ?_
        refine m_icmp_lt F e_X3_told_19 (fun q19 => ?_) (fun q19 => ?_)
        · have c19 : n744 < 9 := (nI_ltI (a := n744) (b := 9) (by omega) (by omega)).mp q19
          refine m_aload_n F rfl e_X3_told_24 ?_
          refine t_get F e_X3_told_25 fl_X3_11 (fun _ => o12) h741 hk rfl (fun v hv f745 => ?_)
          obtain ⟨r746, k747, rfl⟩ := hv
          refine m_aload_n F rfl e_X3_told_28 ?_
          refine t_getC F e_X3_told_29 fl_X3_18 (fun _ => o12) h741 hk ((fld_eq (h742.2 a (by rw [show kA _ a = 12 from hk]; decide))).trans f739) ?_
          refine m_iconst F (v := 1) (by decide) e_X3_told_32 ?_
          refine m_isub F e_X3_told_33 ?_
          refine Wm.topE (w := nI (n738 - 1)) (pk_sub (a := n738) (b := 1) (by omega)) ?_
          refine m_iload_n F rfl e_X3_told_34 ?_
          refine m_isub F e_X3_told_35 ?_
          refine Wm.topE (w := nI ((n738 - 1) - n737)) (pk_sub (a := n738 - 1) (b := n737) (by omega)) ?_
          refine m_bipush F (v := 40) (by decide) e_X3_told_36 ?_
          refine m_irem F (by decide) e_X3_told_38 ?_
          refine Wm.topE (w := nI (((n738 - 1) - n737) % 40)) (pk_rem (a := (n738 - 1) - n737) (d := 40) (by omega) (by decide) (by decide)) ?_
          refine m_bipush F (v := 9) (by decide) e_X3_told_39 ?_
          refine m_imul F e_X3_told_41 ?_
          refine Wm.topE (w := nI ((((n738 - 1) - n737) % 40) * 9)) (pk_mul (((n738 - 1) - n737) % 40) 9) ?_
          refine m_iload_n F rfl e_X3_told_42 ?_
          refine m_iadd F e_X3_told_43 ?_
          refine Wm.topE (w := nI (((((n738 - 1) - n737) % 40) * 9) + n744)) (nI_add ((((n738 - 1) - n737) % 40) * 9) n744) ?_
          refine t_lald F (len := 360) (j := ((((n738 - 1) - n737) % 40) * 9) + n744) e_X3_told_44 (fun _ => o13) h741 k747 (nI_clamp (by omega)) (vp_in_nI (by omega) (by decide)) (fun x748 => ?_)
          exact m_lret F hQ e_X3_told_45 (⟨h741, _, rfl⟩)
        · have c19 : n744 ≥ 9 := by have hh := mt (nI_ltI (a := n744) (b := 9) (by omega) (by omega)).mpr q19; omega
          refine m_lconst F (v := 0) (by decide) e_X3_told_22 ?_
          exact m_lret F hQ e_X3_told_23 (⟨h741, _, rfl⟩)
set_option maxRecDepth 20000 in
theorem s_X5_tell (l : Launch) (V : VX) (G : GH) (b M Z T N : Nat) (σ : Mem) (a : Nat) (x901 : Int32) (x902 : Int32) (x903 : Int32) (x904 : Int32) (h0 : HT V G (b, M, Z, T) σ) (hk : kA b a = 15) (hg : ¬ G.gd (blk (a - b)) = 1) (hM : M + 0 ≤ 1000000000) : Ct l V yX5_tell cX5_tell 5 none 4 0 0 N σ [.ref a, .int x901, .int x902, .int x903, .int x904] (fun r τ => HK V G (b, M, Z, T) [0, 1, 2, 3, 4, 5, 7, 8, 9, 10, 11, 12, 13, 14, 16, 19] σ τ ∧ r = none) := by
  refine Ct.of (by decide) (Nat.le_of_ble_eq_true rfl) [(0, .ref a), (1, .int x901), (2, .int x902), (3, .int x903), (4, .int x904)] rfl (fun X hX F hQ => ?_)
  have h1 : HK V G (b, M, Z, T) [0, 1, 2, 3, 4, 5, 7, 8, 9, 10, 11, 12, 13, 14, 16, 19] σ σ := HK.start h0
  refine m_aload_n F rfl e_X5_tell_0 ?_
  refine m_iload_n F rfl e_X5_tell_1 ?_
  refine t_put F e_X5_tell_2 fp_X5_35 (fun _ => o15) h1 hk rfl ⟨_, fun e => absurd e hg, rfl⟩ rfl rfl (by decide) (fun σ749 h750 g751 g752 f753 => ?_)
  refine m_aload_n F rfl e_X5_tell_5 ?_
  refine m_iload_n F rfl e_X5_tell_6 ?_
  refine t_put F e_X5_tell_7 fp_X5_39 (fun _ => o15) h750 hk rfl ⟨_, rfl⟩ rfl rfl (by decide) (fun σ754 h755 g756 g757 f758 => ?_)
  refine m_aload_n F rfl e_X5_tell_10 ?_
  refine m_iload_n F rfl e_X5_tell_11 ?_
  refine t_put F e_X5_tell_12 fp_X5_42 (fun _ => o15) h755 hk rfl ⟨_, rfl⟩ rfl rfl (by decide) (fun σ759 h760 g761 g762 f763 => ?_)
  refine m_aload_n F rfl e_X5_tell_15 ?_
  refine m_iload F rfl e_X5_tell_16 ?_
  refine t_put F e_X5_tell_18 fp_X5_45 (fun _ => o15) h760 hk rfl ⟨_, rfl⟩ rfl rfl (by decide) (fun σ764 h765 g766 g767 f768 => ?_)
  refine m_aload_n F rfl e_X5_tell_21 ?_
  refine m_iconst F (v := 0) (by decide) e_X5_tell_22 ?_
  refine t_put F e_X5_tell_23 fp_X5_48 (fun _ => o15) h765 hk rfl ⟨_, rfl⟩ rfl rfl (by decide) (fun σ769 h770 g771 g772 f773 => ?_)
  refine m_aload_n F rfl e_X5_tell_26 ?_
  refine m_iconst F (v := 0) (by decide) e_X5_tell_27 ?_
  refine t_put F e_X5_tell_28 fp_X5_51 (fun _ => o15) h770 hk rfl ⟨_, rfl⟩ rfl rfl (by decide) (fun σ774 h775 g776 g777 f778 => ?_)
  refine m_aload_n F rfl e_X5_tell_31 ?_
  refine m_iconst F (v := 0) (by decide) e_X5_tell_32 ?_
  refine t_put F e_X5_tell_33 fp_X5_54 (fun _ => o15) h775 hk rfl ⟨_, rfl⟩ rfl rfl (by decide) (fun σ779 h780 g781 g782 f783 => ?_)
  refine m_aload_n F rfl e_X5_tell_36 ?_
  refine m_iconst F (v := 0) (by decide) e_X5_tell_37 ?_
  refine t_put F e_X5_tell_38 fp_X5_57 (fun _ => o15) h780 hk rfl ⟨_, rfl⟩ rfl rfl (by decide) (fun σ784 h785 g786 g787 f788 => ?_)
  refine m_aload_n F rfl e_X5_tell_41 ?_
  refine m_iconst F (v := 0) (by decide) e_X5_tell_42 ?_
  refine t_put F e_X5_tell_43 fp_X5_60 (fun _ => o15) h785 hk rfl ⟨_, rfl⟩ rfl rfl (by decide) (fun σ789 h790 g791 g792 f793 => ?_)
  refine m_aload_n F rfl e_X5_tell_46 ?_
  refine m_iconst F (v := 0) (by decide) e_X5_tell_47 ?_
  refine t_put F e_X5_tell_48 fp_X5_63 (fun _ => o15) h790 hk rfl ⟨_, rfl⟩ rfl rfl (by decide) (fun σ794 h795 g796 g797 f798 => ?_)
  refine m_aload_n F rfl e_X5_tell_51 ?_
  refine m_iconst F (v := 0) (by decide) e_X5_tell_52 ?_
  refine t_put F e_X5_tell_53 fp_X5_66 (fun _ => o15) h795 hk rfl ⟨0, (show 0 ≤ 1 by omega), rfl⟩ (by decide) rfl (by decide) (fun σ799 h800 g801 g802 f803 => ?_)
  refine m_aload_n F rfl e_X5_tell_56 ?_
  refine m_iconst F (v := 0) (by decide) e_X5_tell_57 ?_
  refine t_put F e_X5_tell_58 fp_X5_70 (fun _ => o15) h800 hk rfl ⟨0, (show 0 ≤ 1 by omega), rfl⟩ (by decide) rfl (by decide) (fun σ804 h805 g806 g807 f808 => ?_)
  refine m_aload_n F rfl e_X5_tell_61 ?_
  refine m_iconst F (v := 0) (by decide) e_X5_tell_62 ?_
  refine t_put F e_X5_tell_63 fp_X5_73 (fun _ => o15) h805 hk rfl ⟨0, (show 0 ≤ 1 by omega), rfl⟩ (by decide) rfl (by decide) (fun σ809 h810 g811 g812 f813 => ?_)
  refine m_aload_n F rfl e_X5_tell_66 ?_
  refine t_get F e_X5_tell_67 fl_X5_12 (fun _ => o15) h810 hk rfl (fun v hv f814 => ?_)
  obtain ⟨r815, k816, rfl⟩ := hv
  refine m_lconst F (v := 0) (by decide) e_X5_tell_70 ?_
  refine t_callV F e_X5_tell_71 (s_X1_set (x_l X) V G b M Z T _ _ r815 0 h810.1 k816  (by omega)) cb_X1_set ml_X5_76 im_X1_set se_X1_set (fun _ => o6) h810 k816 rfl rfl (rest := []) rfl (Nat.le_of_ble_eq_true rfl) ⟨Nat.le_of_ble_eq_true rfl, Nat.le_of_ble_eq_true rfl⟩ ⟨Nat.le_of_ble_eq_true rfl, Nat.le_of_ble_eq_true rfl⟩ (fun r σ817 hp => ?_)
  obtain ⟨h819, rfl⟩ := hp
  have h818 := HK.trans h810 h819 (by decide)
  refine m_aload_n F rfl e_X5_tell_74 ?_
  refine t_get F e_X5_tell_75 fl_X5_18 (fun _ => o15) h818 hk rfl (fun v hv f820 => ?_)
  obtain ⟨r821, k822, rfl⟩ := hv
  refine m_lconst F (v := 0) (by decide) e_X5_tell_78 ?_
  refine t_callV F e_X5_tell_79 (s_X1_set (x_l X) V G b M Z T _ _ r821 0 h818.1 k822  (by omega)) cb_X1_set ml_X5_76 im_X1_set se_X1_set (fun _ => o6) h818 k822 rfl rfl (rest := []) rfl (Nat.le_of_ble_eq_true rfl) ⟨Nat.le_of_ble_eq_true rfl, Nat.le_of_ble_eq_true rfl⟩ ⟨Nat.le_of_ble_eq_true rfl, Nat.le_of_ble_eq_true rfl⟩ (fun r σ823 hp => ?_)
  obtain ⟨h825, rfl⟩ := hp
  have h824 := HK.trans h818 h825 (by decide)
  refine m_aload_n F rfl e_X5_tell_82 ?_
  refine t_get F e_X5_tell_83 fl_X5_24 (fun _ => o15) h824 hk rfl (fun v hv f826 => ?_)
  obtain ⟨r827, k828, rfl⟩ := hv
  refine m_bipush F (v := 72) (by decide) e_X5_tell_86 ?_
  refine m_lconst F (v := 0) (by decide) e_X5_tell_88 ?_
  refine t_callV F e_X5_tell_89 (s_X8_fill (x_l X) V G b M Z T _ _ r827 72 0 h824.1 k828  (by omega)) cb_X8_fill ml_X5_80 im_X8_fill se_X8_fill (fun _ => o16) h824 k828 rfl rfl (rest := []) rfl (Nat.le_of_ble_eq_true rfl) ⟨Nat.le_of_ble_eq_true rfl, Nat.le_of_ble_eq_true rfl⟩ ⟨Nat.le_of_ble_eq_true rfl, Nat.le_of_ble_eq_true rfl⟩ (fun r σ829 hp => ?_)
  obtain ⟨h831, rfl⟩ := hp
  have h830 := HK.trans h824 h831 (by decide)
  refine m_aload_n F rfl e_X5_tell_92 ?_
  refine t_get F e_X5_tell_93 fl_X5_28 (fun _ => o15) h830 hk rfl (fun v hv f832 => ?_)
  obtain ⟨r833, k834, rfl⟩ := hv
  refine m_bipush F (v := 72) (by decide) e_X5_tell_96 ?_
  refine m_lconst F (v := 0) (by decide) e_X5_tell_98 ?_
  refine t_callV F e_X5_tell_99 (s_X8_fill (x_l X) V G b M Z T _ _ r833 72 0 h830.1 k834  (by omega)) cb_X8_fill ml_X5_80 im_X8_fill se_X8_fill (fun _ => o16) h830 k834 rfl rfl (rest := []) rfl (Nat.le_of_ble_eq_true rfl) ⟨Nat.le_of_ble_eq_true rfl, Nat.le_of_ble_eq_true rfl⟩ ⟨Nat.le_of_ble_eq_true rfl, Nat.le_of_ble_eq_true rfl⟩ (fun r σ835 hp => ?_)
  obtain ⟨h837, rfl⟩ := hp
  have h836 := HK.trans h830 h837 (by decide)
  refine m_aload_n F rfl e_X5_tell_102 ?_
  refine t_get F e_X5_tell_103 fl_X5_31 (fun _ => o15) h836 hk rfl (fun v hv f838 => ?_)
  obtain ⟨r839, k840, rfl⟩ := hv
  refine m_lconst F (v := 0) (by decide) e_X5_tell_106 ?_
  refine m_callS F e_X5_tell_107 (s_J7_fill_d0a16_18 (x_l X) V G b M Z T _ _ r839 0 h836.1 k840 (by omega)) cb_J7_fill_d0a16 ml_X5_84 sm_J7_fill_d0a16 rfl (rest := []) rfl (Nat.le_of_ble_eq_true rfl) ⟨Nat.le_of_ble_eq_true rfl, Nat.le_of_ble_eq_true rfl⟩ ⟨Nat.le_of_ble_eq_true rfl, Nat.le_of_ble_eq_true rfl⟩ (k' := 0) (z' := 0) (N' := N) rfl rfl rfl (fun r σ841 hp => ?_)
  obtain ⟨h843, rfl⟩ := hp
  have h842 := HK.trans h836 h843 (by decide)
  exact m_vret F hQ e_X5_tell_110 (⟨h842, rfl⟩)
set_option maxRecDepth 20000 in
theorem s_X5_copyFrom (l : Launch) (V : VX) (G : GH) (b M Z T N : Nat) (σ : Mem) (a : Nat) (r901 : Nat) (h0 : HT V G (b, M, Z, T) σ) (hk : kA b a = 15) (k901 : kA b r901 = 15) (hg : ¬ G.gd (blk (a - b)) = 1) (hM : M + 0 ≤ 1000000000) : Ct l V yX5_copyFrom cX5_copyFrom 2 none 2 0 0 N σ [.ref a, .ref r901] (fun r τ => HK V G (b, M, Z, T) [0, 1, 2, 3, 4, 5, 7, 8, 9, 10, 11, 12, 13, 14, 16, 19] σ τ ∧ (fld τ a 0 = fld σ r901 0 ∧ ∀ x, x ≠ a → kA b x = 15 → fld τ x 0 = fld σ x 0) ∧ r = none) := by
  refine Ct.of (by decide) (Nat.le_of_ble_eq_true rfl) [(0, .ref a), (1, .ref r901)] rfl (fun X hX F hQ => ?_)
  have h1 : HK V G (b, M, Z, T) [0, 1, 2, 3, 4, 5, 7, 8, 9, 10, 11, 12, 13, 14, 16, 19] σ σ := HK.start h0
  refine m_aload_n F rfl e_X5_copyFrom_0 ?_
  refine m_aload_n F rfl e_X5_copyFrom_1 ?_
  refine t_get F e_X5_copyFrom_2 fl_X5_35 (fun _ => o15) h1 k901 rfl (fun v hv f844 => ?_)
  obtain ⟨x845, gx845, rfl⟩ := hv
  refine t_putN F e_X5_copyFrom_5 fp_X5_35 (fun _ => o15) h1 hk rfl ⟨_, fun e => absurd e hg, rfl⟩ rfl rfl (by decide) (fun σ846 h847 g848 g849 f850 => ?_)
  have ot851 : ∀ x, x ≠ a → kA b x = 15 → fld _ x 0 = fld _ x 0 := fun x h1 h2 => (fld_eq (g848 x h1)).trans ((fun _ _ _ => rfl) x h1 h2)
  refine m_aload_n F rfl e_X5_copyFrom_8 ?_
  refine m_aload_n F rfl e_X5_copyFrom_9 ?_
  refine t_get F e_X5_copyFrom_10 fl_X5_39 (fun _ => o15) h847 k901 rfl (fun v hv f852 => ?_)
  obtain ⟨x853, rfl⟩ := hv
  refine t_putN F e_X5_copyFrom_13 fp_X5_39 (fun _ => o15) h847 hk rfl ⟨_, rfl⟩ rfl rfl (by decide) (fun σ854 h855 g856 g857 f858 => ?_)
  have ot859 : ∀ x, x ≠ a → kA b x = 15 → fld _ x 0 = fld _ x 0 := fun x h1 h2 => (fld_eq (g856 x h1)).trans (ot851 x h1 h2)
  refine m_aload_n F rfl e_X5_copyFrom_16 ?_
  refine m_aload_n F rfl e_X5_copyFrom_17 ?_
  refine t_get F e_X5_copyFrom_18 fl_X5_42 (fun _ => o15) h855 k901 rfl (fun v hv f860 => ?_)
  obtain ⟨x861, rfl⟩ := hv
  refine t_putN F e_X5_copyFrom_21 fp_X5_42 (fun _ => o15) h855 hk rfl ⟨_, rfl⟩ rfl rfl (by decide) (fun σ862 h863 g864 g865 f866 => ?_)
  have ot867 : ∀ x, x ≠ a → kA b x = 15 → fld _ x 0 = fld _ x 0 := fun x h1 h2 => (fld_eq (g864 x h1)).trans (ot859 x h1 h2)
  refine m_aload_n F rfl e_X5_copyFrom_24 ?_
  refine m_aload_n F rfl e_X5_copyFrom_25 ?_
  refine t_get F e_X5_copyFrom_26 fl_X5_45 (fun _ => o15) h863 k901 rfl (fun v hv f868 => ?_)
  obtain ⟨x869, rfl⟩ := hv
  refine t_putN F e_X5_copyFrom_29 fp_X5_45 (fun _ => o15) h863 hk rfl ⟨_, rfl⟩ rfl rfl (by decide) (fun σ870 h871 g872 g873 f874 => ?_)
  have ot875 : ∀ x, x ≠ a → kA b x = 15 → fld _ x 0 = fld _ x 0 := fun x h1 h2 => (fld_eq (g872 x h1)).trans (ot867 x h1 h2)
  refine m_aload_n F rfl e_X5_copyFrom_32 ?_
  refine m_aload_n F rfl e_X5_copyFrom_33 ?_
  refine t_get F e_X5_copyFrom_34 fl_X5_48 (fun _ => o15) h871 k901 rfl (fun v hv f876 => ?_)
  obtain ⟨x877, rfl⟩ := hv
  refine t_putN F e_X5_copyFrom_37 fp_X5_48 (fun _ => o15) h871 hk rfl ⟨_, rfl⟩ rfl rfl (by decide) (fun σ878 h879 g880 g881 f882 => ?_)
  have ot883 : ∀ x, x ≠ a → kA b x = 15 → fld _ x 0 = fld _ x 0 := fun x h1 h2 => (fld_eq (g880 x h1)).trans (ot875 x h1 h2)
  refine m_aload_n F rfl e_X5_copyFrom_40 ?_
  refine m_aload_n F rfl e_X5_copyFrom_41 ?_
  refine t_get F e_X5_copyFrom_42 fl_X5_51 (fun _ => o15) h879 k901 rfl (fun v hv f884 => ?_)
  obtain ⟨x885, rfl⟩ := hv
  refine t_putN F e_X5_copyFrom_45 fp_X5_51 (fun _ => o15) h879 hk rfl ⟨_, rfl⟩ rfl rfl (by decide) (fun σ886 h887 g888 g889 f890 => ?_)
  have ot891 : ∀ x, x ≠ a → kA b x = 15 → fld _ x 0 = fld _ x 0 := fun x h1 h2 => (fld_eq (g888 x h1)).trans (ot883 x h1 h2)
  refine m_aload_n F rfl e_X5_copyFrom_48 ?_
  refine m_aload_n F rfl e_X5_copyFrom_49 ?_
  refine t_get F e_X5_copyFrom_50 fl_X5_54 (fun _ => o15) h887 k901 rfl (fun v hv f892 => ?_)
  obtain ⟨x893, rfl⟩ := hv
  refine t_putN F e_X5_copyFrom_53 fp_X5_54 (fun _ => o15) h887 hk rfl ⟨_, rfl⟩ rfl rfl (by decide) (fun σ894 h895 g896 g897 f898 => ?_)
  have ot899 : ∀ x, x ≠ a → kA b x = 15 → fld _ x 0 = fld _ x 0 := fun x h1 h2 => (fld_eq (g896 x h1)).trans (ot891 x h1 h2)
  refine m_aload_n F rfl e_X5_copyFrom_56 ?_
  refine m_aload_n F rfl e_X5_copyFrom_57 ?_
  refine t_get F e_X5_copyFrom_58 fl_X5_57 (fun _ => o15) h895 k901 rfl (fun v hv f900 => ?_)
  obtain ⟨x901, rfl⟩ := hv
  refine t_putN F e_X5_copyFrom_61 fp_X5_57 (fun _ => o15) h895 hk rfl ⟨_, rfl⟩ rfl rfl (by decide) (fun σ902 h903 g904 g905 f906 => ?_)
  have ot907 : ∀ x, x ≠ a → kA b x = 15 → fld _ x 0 = fld _ x 0 := fun x h1 h2 => (fld_eq (g904 x h1)).trans (ot899 x h1 h2)
  refine m_aload_n F rfl e_X5_copyFrom_64 ?_
  refine m_aload_n F rfl e_X5_copyFrom_65 ?_
  refine t_get F e_X5_copyFrom_66 fl_X5_60 (fun _ => o15) h903 k901 rfl (fun v hv f908 => ?_)
  obtain ⟨x909, rfl⟩ := hv
  refine t_putN F e_X5_copyFrom_69 fp_X5_60 (fun _ => o15) h903 hk rfl ⟨_, rfl⟩ rfl rfl (by decide) (fun σ910 h911 g912 g913 f914 => ?_)
  have ot915 : ∀ x, x ≠ a → kA b x = 15 → fld _ x 0 = fld _ x 0 := fun x h1 h2 => (fld_eq (g912 x h1)).trans (ot907 x h1 h2)
  refine m_aload_n F rfl e_X5_copyFrom_72 ?_
  refine m_aload_n F rfl e_X5_copyFrom_73 ?_
  refine t_get F e_X5_copyFrom_74 fl_X5_63 (fun _ => o15) h911 k901 rfl (fun v hv f916 => ?_)
  obtain ⟨x917, rfl⟩ := hv
  refine t_putN F e_X5_copyFrom_77 fp_X5_63 (fun _ => o15) h911 hk rfl ⟨_, rfl⟩ rfl rfl (by decide) (fun σ918 h919 g920 g921 f922 => ?_)
  have ot923 : ∀ x, x ≠ a → kA b x = 15 → fld _ x 0 = fld _ x 0 := fun x h1 h2 => (fld_eq (g920 x h1)).trans (ot915 x h1 h2)
  refine m_aload_n F rfl e_X5_copyFrom_80 ?_
  refine m_aload_n F rfl e_X5_copyFrom_81 ?_
  refine t_get F e_X5_copyFrom_82 fl_X5_66 (fun _ => o15) h919 k901 rfl (fun v hv f924 => ?_)
  obtain ⟨n925, hn925, rfl⟩ := hv
  replace hn925 : n925 ≤ 1 := hn925
  refine t_putN F e_X5_copyFrom_85 fp_X5_66 (fun _ => o15) h919 hk rfl ⟨n925, (show n925 ≤ 1 by omega), rfl⟩ (nz1 (by omega)) (fz1 (by omega)) (by decide) (fun σ926 h927 g928 g929 f930 => ?_)
  have ot931 : ∀ x, x ≠ a → kA b x = 15 → fld _ x 0 = fld _ x 0 := fun x h1 h2 => (fld_eq (g928 x h1)).trans (ot923 x h1 h2)
  refine m_aload_n F rfl e_X5_copyFrom_88 ?_
  refine m_aload_n F rfl e_X5_copyFrom_89 ?_
  refine t_get F e_X5_copyFrom_90 fl_X5_70 (fun _ => o15) h927 k901 rfl (fun v hv f932 => ?_)
  obtain ⟨n933, hn933, rfl⟩ := hv
  replace hn933 : n933 ≤ 1 := hn933
  refine t_putN F e_X5_copyFrom_93 fp_X5_70 (fun _ => o15) h927 hk rfl ⟨n933, (show n933 ≤ 1 by omega), rfl⟩ (nz1 (by omega)) (fz1 (by omega)) (by decide) (fun σ934 h935 g936 g937 f938 => ?_)
  have ot939 : ∀ x, x ≠ a → kA b x = 15 → fld _ x 0 = fld _ x 0 := fun x h1 h2 => (fld_eq (g936 x h1)).trans (ot931 x h1 h2)
  refine m_aload_n F rfl e_X5_copyFrom_96 ?_
  refine m_aload_n F rfl e_X5_copyFrom_97 ?_
  refine t_get F e_X5_copyFrom_98 fl_X5_73 (fun _ => o15) h935 k901 rfl (fun v hv f940 => ?_)
  obtain ⟨n941, hn941, rfl⟩ := hv
  replace hn941 : n941 ≤ 1 := hn941
  refine t_putN F e_X5_copyFrom_101 fp_X5_73 (fun _ => o15) h935 hk rfl ⟨n941, (show n941 ≤ 1 by omega), rfl⟩ (nz1 (by omega)) (fz1 (by omega)) (by decide) (fun σ942 h943 g944 g945 f946 => ?_)
  have ot947 : ∀ x, x ≠ a → kA b x = 15 → fld _ x 0 = fld _ x 0 := fun x h1 h2 => (fld_eq (g944 x h1)).trans (ot939 x h1 h2)
  refine m_aload_n F rfl e_X5_copyFrom_104 ?_
  refine t_get F e_X5_copyFrom_105 fl_X5_12 (fun _ => o15) h943 hk rfl (fun v hv f948 => ?_)
  obtain ⟨r949, k950, rfl⟩ := hv
  refine m_aload_n F rfl e_X5_copyFrom_108 ?_
  refine t_get F e_X5_copyFrom_109 fl_X5_12 (fun _ => o15) h943 k901 rfl (fun v hv f951 => ?_)
  obtain ⟨r952, k953, rfl⟩ := hv
  refine t_callV F e_X5_copyFrom_112 (s_X1_copyFrom (x_l X) V G b M Z T _ _ r949 r952 h943.1 k950 k953 (by omega)) cb_X1_copyFrom ml_X5_89 im_X1_copyFrom se_X1_copyFrom (fun _ => o6) h943 k950 rfl rfl (rest := []) rfl (Nat.le_of_ble_eq_true rfl) ⟨Nat.le_of_ble_eq_true rfl, Nat.le_of_ble_eq_true rfl⟩ ⟨Nat.le_of_ble_eq_true rfl, Nat.le_of_ble_eq_true rfl⟩ (fun r σ954 hp => ?_)
  obtain ⟨h956, rfl⟩ := hp
  have h955 := HK.trans h943 h956 (by decide)
  have ot957 : ∀ x, x ≠ a → kA b x = 15 → fld _ x 0 = fld _ x 0 := fun x h1 h2 => (fld_eq (h956.2 x (by rw [show kA _ x = 15 from h2]; decide))).trans (ot947 x h1 h2)
  refine m_aload_n F rfl e_X5_copyFrom_115 ?_
  refine t_get F e_X5_copyFrom_116 fl_X5_18 (fun _ => o15) h955 hk rfl (fun v hv f958 => ?_)
  obtain ⟨r959, k960, rfl⟩ := hv
  refine m_aload_n F rfl e_X5_copyFrom_119 ?_
  refine t_get F e_X5_copyFrom_120 fl_X5_18 (fun _ => o15) h955 k901 rfl (fun v hv f961 => ?_)
  obtain ⟨r962, k963, rfl⟩ := hv
  refine t_callV F e_X5_copyFrom_123 (s_X1_copyFrom (x_l X) V G b M Z T _ _ r959 r962 h955.1 k960 k963 (by omega)) cb_X1_copyFrom ml_X5_89 im_X1_copyFrom se_X1_copyFrom (fun _ => o6) h955 k960 rfl rfl (rest := []) rfl (Nat.le_of_ble_eq_true rfl) ⟨Nat.le_of_ble_eq_true rfl, Nat.le_of_ble_eq_true rfl⟩ ⟨Nat.le_of_ble_eq_true rfl, Nat.le_of_ble_eq_true rfl⟩ (fun r σ964 hp => ?_)
  obtain ⟨h966, rfl⟩ := hp
  have h965 := HK.trans h955 h966 (by decide)
  have ot967 : ∀ x, x ≠ a → kA b x = 15 → fld _ x 0 = fld _ x 0 := fun x h1 h2 => (fld_eq (h966.2 x (by rw [show kA _ x = 15 from h2]; decide))).trans (ot957 x h1 h2)
  refine m_aload_n F rfl e_X5_copyFrom_126 ?_
  refine t_get F e_X5_copyFrom_127 fl_X5_24 (fun _ => o15) h965 hk rfl (fun v hv f968 => ?_)
  obtain ⟨r969, k970, rfl⟩ := hv
  refine m_aload_n F rfl e_X5_copyFrom_130 ?_
  refine t_get F e_X5_copyFrom_131 fl_X5_24 (fun _ => o15) h965 k901 rfl (fun v hv f971 => ?_)
  obtain ⟨r972, k973, rfl⟩ := hv
  refine t_callV F e_X5_copyFrom_134 (s_X8_copyFrom (x_l X) V G b M Z T _ _ r969 r972 h965.1 k970 k973 (by omega)) cb_X8_copyFrom ml_X5_93 im_X8_copyFrom se_X8_copyFrom (fun _ => o16) h965 k970 rfl rfl (rest := []) rfl (Nat.le_of_ble_eq_true rfl) ⟨Nat.le_of_ble_eq_true rfl, Nat.le_of_ble_eq_true rfl⟩ ⟨Nat.le_of_ble_eq_true rfl, Nat.le_of_ble_eq_true rfl⟩ (fun r σ974 hp => ?_)
  obtain ⟨h976, rfl⟩ := hp
  have h975 := HK.trans h965 h976 (by decide)
  have ot977 : ∀ x, x ≠ a → kA b x = 15 → fld _ x 0 = fld _ x 0 := fun x h1 h2 => (fld_eq (h976.2 x (by rw [show kA _ x = 15 from h2]; decide))).trans (ot967 x h1 h2)
  refine m_aload_n F rfl e_X5_copyFrom_137 ?_
  refine t_get F e_X5_copyFrom_138 fl_X5_28 (fun _ => o15) h975 hk rfl (fun v hv f978 => ?_)
  obtain ⟨r979, k980, rfl⟩ := hv
  refine m_aload_n F rfl e_X5_copyFrom_141 ?_
  refine t_get F e_X5_copyFrom_142 fl_X5_28 (fun _ => o15) h975 k901 rfl (fun v hv f981 => ?_)
  obtain ⟨r982, k983, rfl⟩ := hv
  refine t_callV F e_X5_copyFrom_145 (s_X8_copyFrom (x_l X) V G b M Z T _ _ r979 r982 h975.1 k980 k983 (by omega)) cb_X8_copyFrom ml_X5_93 im_X8_copyFrom se_X8_copyFrom (fun _ => o16) h975 k980 rfl rfl (rest := []) rfl (Nat.le_of_ble_eq_true rfl) ⟨Nat.le_of_ble_eq_true rfl, Nat.le_of_ble_eq_true rfl⟩ ⟨Nat.le_of_ble_eq_true rfl, Nat.le_of_ble_eq_true rfl⟩ (fun r σ984 hp => ?_)
  obtain ⟨h986, rfl⟩ := hp
  have h985 := HK.trans h975 h986 (by decide)
  have ot987 : ∀ x, x ≠ a → kA b x = 15 → fld _ x 0 = fld _ x 0 := fun x h1 h2 => (fld_eq (h986.2 x (by rw [show kA _ x = 15 from h2]; decide))).trans (ot977 x h1 h2)
  refine m_aload_n F rfl e_X5_copyFrom_148 ?_
  refine t_get F e_X5_copyFrom_149 fl_X5_31 (fun _ => o15) h985 k901 rfl (fun v hv f988 => ?_)
  obtain ⟨r989, k990, rfl⟩ := hv
  refine m_iconst F (v := 0) (by decide) e_X5_copyFrom_152 ?_
  refine m_aload_n F rfl e_X5_copyFrom_153 ?_
  refine t_get F e_X5_copyFrom_154 fl_X5_31 (fun _ => o15) h985 hk rfl (fun v hv f991 => ?_)
  obtain ⟨r992, k993, rfl⟩ := hv
  refine m_iconst F (v := 0) (by decide) e_X5_copyFrom_157 ?_
  refine m_iconst F (v := 5) (by decide) e_X5_copyFrom_158 ?_
  refine t_copyJ F (len := 5) e_X5_copyFrom_159 ac_X5_96 (fun _ => o18) (fun _ => o18) h985 k990 k993 (by decide) (by decide) (by decide) (by decide) (Nat.le_of_ble_eq_true rfl) (Nat.le_of_ble_eq_true rfl) (by decide) (fun σ994 h995 g996 => ?_)
  have ot997 : ∀ x, x ≠ a → kA b x = 15 → fld _ x 0 = fld _ x 0 := fun x h1 h2 => (g996 x 0 (fun e => absurd (h2.symm.trans e) (by decide))).trans (ot987 x h1 h2)
  exact m_vret F hQ e_X5_copyFrom_162 (⟨h995, ⟨((g996 a 0 (fun e => absurd ((hk).symm.trans e) (by decide))).trans ((fld_eq (h986.2 a (by rw [show kA _ a = 15 from hk]; decide))).trans ((fld_eq (h976.2 a (by rw [show kA _ a = 15 from hk]; decide))).trans ((fld_eq (h966.2 a (by rw [show kA _ a = 15 from hk]; decide))).trans ((fld_eq (h956.2 a (by rw [show kA _ a = 15 from hk]; decide))).trans ((g945 0 (by decide)).trans ((g937 0 (by decide)).trans ((g929 0 (by decide)).trans ((g921 0 (by decide)).trans ((g913 0 (by decide)).trans ((g905 0 (by decide)).trans ((g897 0 (by decide)).trans ((g889 0 (by decide)).trans ((g881 0 (by decide)).trans ((g873 0 (by decide)).trans ((g865 0 (by decide)).trans ((g857 0 (by decide)).trans f850))))))))))))))))).trans (f844).symm, ot997⟩, rfl⟩)
set_option maxRecDepth 20000 in
theorem s_X5_owns (l : Launch) (V : VX) (G : GH) (b M Z T N : Nat) (σ : Mem) (a : Nat) (x901 : Int32) (h0 : HT V G (b, M, Z, T) σ) (hk : kA b a = 15) (hM : M + 0 ≤ 1000000000) : Ct l V yX5_owns cX5_owns 2 (some .boolean) 0 0 0 N σ [.ref a, .int x901] (fun r τ => HK V G (b, M, Z, T) [0, 1, 2, 3, 4, 5, 6, 7, 8, 9, 10, 11, 12, 13, 14, 15, 16, 17, 18, 19] σ τ ∧ ∃ n : Nat, n ≤ 1 ∧ r = some (.int (nI n))) := by
  refine Ct.of (by decide) (Nat.le_of_ble_eq_true rfl) [(0, .ref a), (1, .int x901)] rfl (fun X hX F hQ => ?_)
  have h1 : HK V G (b, M, Z, T) [0, 1, 2, 3, 4, 5, 6, 7, 8, 9, 10, 11, 12, 13, 14, 15, 16, 17, 18, 19] σ σ := HK.start h0
  refine m_iload_n F rfl e_X5_owns_0 ?_
  refine m_iconst F (v := 1) (by decide) e_X5_owns_1 ?_
  refine m_icmp_lt F e_X5_owns_2 (fun q2 => ?_) (fun q2 => ?_)
  · refine m_iconst F (v := 0) (by decide) e_X5_owns_23 ?_
    exact m_zret F hQ e_X5_owns_24 (by decide) (⟨h1, 0, by omega, rfl⟩)
  · obtain ⟨n998, hn998, rfl⟩ := nI_nn (x := x901) (fun e => q2 (Int32.lt_of_lt_of_le e (by decide)))
    have c2 : n998 ≥ 1 := by have hh := mt (nI_ltI (a := n998) (b := 1) (by omega) (by omega)).mpr q2; omega
    refine m_iload_n F rfl e_X5_owns_5 ?_
    refine m_aload_n F rfl e_X5_owns_6 ?_
    refine t_get F e_X5_owns_7 fl_X5_42 (fun _ => o15) h1 hk rfl (fun v hv f999 => ?_)
    obtain ⟨x1000, rfl⟩ := hv
    refine m_icmp_gt F e_X5_owns_10 (fun q10 => ?_) (fun q10 => ?_)
    · refine m_iconst F (v := 0) (by decide) e_X5_owns_23 ?_
      exact m_zret F hQ e_X5_owns_24 (by decide) (⟨h1, 0, by omega, rfl⟩)
    · refine m_iload_n F rfl e_X5_owns_13 ?_
      refine m_bipush F (v := 72) (by decide) e_X5_owns_14 ?_
      refine m_icmp_gt F e_X5_owns_16 (fun q16 => ?_) (fun q16 => ?_)
      · have c16 : n998 > 72 := (nI_ltI (a := 72) (b := n998) (by omega) (by omega)).mp q16
        refine m_iconst F (v := 0) (by decide) e_X5_owns_23 ?_
        exact m_zret F hQ e_X5_owns_24 (by decide) (⟨h1, 0, by omega, rfl⟩)
      · have c16 : n998 ≤ 72 := by have hh := mt (nI_ltI (a := 72) (b := n998) (by omega) (by omega)).mpr q16; omega
        refine m_iconst F (v := 1) (by decide) e_X5_owns_19 ?_
        refine m_goto F e_X5_owns_20 ?_
        exact m_zret F hQ e_X5_owns_24 (by decide) (⟨h1, 1, by omega, rfl⟩)
set_option maxRecDepth 20000 in
theorem s_X5_left (l : Launch) (V : VX) (G : GH) (b M Z T N : Nat) (σ : Mem) (a : Nat) (h0 : HT V G (b, M, Z, T) σ) (hk : kA b a = 15) (hM : M + 0 ≤ 1000000000) : Ct l V yX5_left cX5_left 1 (some .int) 0 0 0 N σ [.ref a] (fun r τ => HK V G (b, M, Z, T) [0, 1, 2, 3, 4, 5, 6, 7, 8, 9, 10, 11, 12, 13, 14, 15, 16, 17, 18, 19] σ τ ∧ ∃ x : Int32, r = some (.int x)) := by
  refine Ct.of (by decide) (Nat.le_of_ble_eq_true rfl) [(0, .ref a)] rfl (fun X hX F hQ => ?_)
  have h1 : HK V G (b, M, Z, T) [0, 1, 2, 3, 4, 5, 6, 7, 8, 9, 10, 11, 12, 13, 14, 15, 16, 17, 18, 19] σ σ := HK.start h0
  refine m_aload_n F rfl e_X5_left_0 ?_
  refine t_get F e_X5_left_1 fl_X5_63 (fun _ => o15) h1 hk rfl (fun v hv f1001 => ?_)
  obtain ⟨x1002, rfl⟩ := hv
  refine m_iconst F (v := 2) (by decide) e_X5_left_4 ?_
  refine m_icmp_ne F e_X5_left_5 (fun q5 => ?_) (fun q5 => ?_)
  · refine m_aload_n F rfl e_X5_left_12 ?_
    refine t_get F e_X5_left_13 fl_X5_42 (fun _ => o15) h1 hk rfl (fun v hv f1003 => ?_)
    obtain ⟨x1004, rfl⟩ := hv
    refine m_aload_n F rfl e_X5_left_16 ?_
    refine t_get F e_X5_left_17 fl_X5_60 (fun _ => o15) h1 hk rfl (fun v hv f1005 => ?_)
    obtain ⟨x1006, rfl⟩ := hv
    refine m_isub F e_X5_left_20 ?_
    refine Wm.top (fun x1007 _ => ?_)
    exact m_iret F hQ e_X5_left_21 (⟨h1, _, rfl⟩)
  · refine m_iconst F (v := 0) (by decide) e_X5_left_8 ?_
    refine m_goto F e_X5_left_9 ?_
    exact m_iret F hQ e_X5_left_21 (⟨h1, _, rfl⟩)
set_option maxRecDepth 20000 in
theorem lp_X5_payMore_3 {V : VX} {G : GH} {X : MX} {b M Z T N : Nat} {σ : Mem} {a : Nat} {x901 : Int32} {x902 : Int32} {x903 : Int32}  (F : Fx V X yX5_payMore cX5_payMore 5 none (rmd 2 0 0)) (hQ : Rt V X 0 0 N (fun r τ => HK V G (b, M, Z, T) [0, 1, 2, 3, 4, 5, 7, 8, 9, 10, 11, 12, 13, 14, 15, 16, 18, 19] σ τ ∧ r = none)) (hk : kA b a = 15) (hp0 : x902.toInt < 1000) (hM : M + 0 ≤ 1000000000)  : ∀ (fuel : Nat) (i1 : Int32) (τ : Mem), HK V G (b, M, Z, T) [0, 1, 2, 3, 4, 5, 7, 8, 9, 10, 11, 12, 13, 14, 15, 16, 18, 19] σ τ → True → (1000 - i1.toInt).toNat < fuel → Wm V X 5 N τ 0 0 3 [(4, .int i1), (0, .ref a), (1, .int x901), (2, .int x902), (3, .int x903)] [] := by
  intro fuel
  induction fuel with
  | zero => intro i1 τ h1 hi hm; exact absurd hm (Nat.not_lt_zero _)
  | succ fuel ih =>
    intro i1 τ h1 hi hm
    refine m_iload F rfl e_X5_payMore_3 ?_
    refine m_iload_n F rfl e_X5_payMore_5 ?_
    refine m_icmp_gt F e_X5_payMore_6 (fun q6 => ?_) (fun q6 => ?_)
    · exact m_vret F hQ e_X5_payMore_37 (⟨h1, rfl⟩)
    · refine m_aload_n F rfl e_X5_payMore_9 ?_
      refine t_get F e_X5_payMore_10 fl_X5_24 (fun _ => o15) h1 hk rfl (fun v hv f1008 => ?_)
      obtain ⟨r1009, k1010, rfl⟩ := hv
      refine m_iload F rfl e_X5_payMore_13 ?_
      refine m_iload_n F rfl e_X5_payMore_15 ?_
      refine m_i2l F e_X5_payMore_16 ?_
      refine Wm.topl (fun x1011 _ => ?_)
      refine t_callV F e_X5_payMore_17 (s_X8_addAt (x_l X) V G b M Z T _ _ r1009 i1 x1011 h1.1 k1010  (by omega)) cb_X8_addAt ml_X5_102 im_X8_addAt se_X8_addAt (fun _ => o16) h1 k1010 rfl rfl (rest := []) rfl (Nat.le_of_ble_eq_true rfl) ⟨Nat.le_of_ble_eq_true rfl, Nat.le_of_ble_eq_true rfl⟩ ⟨Nat.le_of_ble_eq_true rfl, Nat.le_of_ble_eq_true rfl⟩ (fun r σ1012 hp => ?_)
      obtain ⟨h1014, rfl⟩ := hp
      have h1013 := HK.trans h1 h1014 (by decide)
      refine m_aload_n F rfl e_X5_payMore_20 ?_
      refine t_get F e_X5_payMore_21 fl_X5_28 (fun _ => o15) h1013 hk rfl (fun v hv f1015 => ?_)
      obtain ⟨r1016, k1017, rfl⟩ := hv
      refine m_iload F rfl e_X5_payMore_24 ?_
      refine m_iload_n F rfl e_X5_payMore_26 ?_
      refine m_i2l F e_X5_payMore_27 ?_
      refine Wm.topl (fun x1018 _ => ?_)
      refine t_callV F e_X5_payMore_28 (s_X8_addAt (x_l X) V G b M Z T _ _ r1016 i1 x1018 h1013.1 k1017  (by omega)) cb_X8_addAt ml_X5_102 im_X8_addAt se_X8_addAt (fun _ => o16) h1013 k1017 rfl rfl (rest := []) rfl (Nat.le_of_ble_eq_true rfl) ⟨Nat.le_of_ble_eq_true rfl, Nat.le_of_ble_eq_true rfl⟩ ⟨Nat.le_of_ble_eq_true rfl, Nat.le_of_ble_eq_true rfl⟩ (fun r σ1019 hp => ?_)
      obtain ⟨h1021, rfl⟩ := hp
      have h1020 := HK.trans h1013 h1021 (by decide)
      refine m_iinc F (v := (i1 + 1)) (lv' := [(4, .int (i1 + 1)), (0, .ref a), (1, .int x901), (2, .int x902), (3, .int x903)]) e_X5_payMore_31 rfl rfl (by decide) rfl ?_
      refine m_goto F e_X5_payMore_34 ?_
      exact ih (i1 + 1) _ h1020 trivial (by have h9 := inc_le q6 hp0; omega)
set_option maxRecDepth 20000 in
theorem s_X5_payMore (l : Launch) (V : VX) (G : GH) (b M Z T N : Nat) (σ : Mem) (a : Nat) (x901 : Int32) (x902 : Int32) (x903 : Int32) (h0 : HT V G (b, M, Z, T) σ) (hk : kA b a = 15) (hp0 : x902.toInt < 1000) (hM : M + 0 ≤ 1000000000) : Ct l V yX5_payMore cX5_payMore 5 none 2 0 0 N σ [.ref a, .int x901, .int x902, .int x903] (fun r τ => HK V G (b, M, Z, T) [0, 1, 2, 3, 4, 5, 7, 8, 9, 10, 11, 12, 13, 14, 15, 16, 18, 19] σ τ ∧ r = none) := by
  refine Ct.of (by decide) (Nat.le_of_ble_eq_true rfl) [(0, .ref a), (1, .int x901), (2, .int x902), (3, .int x903)] rfl (fun X hX F hQ => ?_)
  have h1 : HK V G (b, M, Z, T) [0, 1, 2, 3, 4, 5, 7, 8, 9, 10, 11, 12, 13, 14, 15, 16, 18, 19] σ σ := HK.start h0
  refine m_iload_n F rfl e_X5_payMore_0 ?_
  refine m_istore F (lv' := [(4, .int x901), (0, .ref a), (1, .int x901), (2, .int x902), (3, .int x903)]) e_X5_payMore_1 (by decide) rfl ?_
  exact lp_X5_payMore_3 F hQ hk hp0 hM ((1000 - x901.toInt).toNat + 1) x901 _ h1 trivial (Nat.lt_succ_self _)
