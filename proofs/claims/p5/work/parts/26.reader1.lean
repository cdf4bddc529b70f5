set_option maxRecDepth 20000 in
theorem s_X7_begin (l : Launch) (V : VX) (G : GH) (b M Z T N : Nat) (σ : Mem) (a : Nat) (n901 : Nat) (r902 : Nat) (h0 : HT V G (b, M, Z, T) σ) (hk : kA b a = 3) (hn901 : n901 ≤ 700) (k902 : kA b r902 = 7) (hM : M + 0 ≤ 1000000000) : Ct l V yX7_begin cX7_begin 3 none 1 0 0 N σ [.ref a, .int (nI n901), .ref r902] (fun r τ => HK V G (b, M, 1, T) [0, 1, 2, 5, 6, 7, 8, 9, 10, 11, 12, 13, 14, 15, 16, 17, 18, 19] σ τ ∧ r = none) := by
  refine Ct.of (by decide) (Nat.le_of_ble_eq_true rfl) [(0, .ref a), (1, .int (nI n901)), (2, .ref r902)] rfl (fun X hX F hQ => ?_)
  have h1 : HK V G (b, M, Z, T) [0, 1, 2, 5, 6, 7, 8, 9, 10, 11, 12, 13, 14, 15, 16, 17, 18, 19] σ σ := HK.start h0
  have h2 := h1.mono (M' := M) (Z' := 1) (Nat.le_refl _) (fun e => absurd e (by decide))
  refine m_aload_n F rfl e_X7_begin_0 ?_
  refine m_iload_n F rfl e_X7_begin_1 ?_
  refine m_aload_n F rfl e_X7_begin_2 ?_
  refine t_get F e_X7_begin_3 fl_X7_19 (fun _ => o3) h2 hk rfl (fun v hv f3452 => ?_)
  obtain ⟨r3453, k3454, rfl⟩ := hv
  refine t_alenB F (len := 700) e_X7_begin_6 (fun _ => o2) h2 k3454 (v := 700) (by decide) ?_
  refine m_min F e_X7_begin_7 ml_X7_27 sm_min ini_math co_min (Nat.le_of_ble_eq_true rfl) (Nat.le_of_ble_eq_true rfl) (Nat.le_of_ble_eq_true rfl) (Nat.le_of_ble_eq_true rfl) ?_
  refine Wm.topE (w := nI (min n901 700)) (minN (a := n901) (b := 700) (by omega) (by omega)) ?_
  refine t_put F e_X7_begin_10 fp_X7_33 (fun _ => o3) h2 hk rfl ⟨min n901 700, (show min n901 700 ≤ 700 by omega), rfl⟩ rfl rfl (by decide) (fun σ3455 h3456 g3457 g3458 f3459 => ?_)
  refine m_aload_n F rfl e_X7_begin_13 ?_
  refine m_aload_n F rfl e_X7_begin_14 ?_
  refine t_put F e_X7_begin_15 fp_X7_23 (fun _ => o3) h3456 hk rfl ⟨_, k902, rfl⟩ rfl rfl (by decide) (fun σ3460 h3461 g3462 g3463 f3464 => ?_)
  refine m_aload_n F rfl e_X7_begin_18 ?_
  refine t_get F e_X7_begin_19 fl_X7_9 (fun _ => o3) h3461 hk rfl (fun v hv f3465 => ?_)
  obtain ⟨r3466, k3467, rfl⟩ := hv
  refine m_iconst F (v := 0) (by decide) e_X7_begin_22 ?_
  refine m_callS F e_X7_begin_23 (s_J7_fill_53178_4 (x_l X) V G b M 1 T _ _ r3466 0 h3461.1 k3467 (by omega)) cb_J7_fill_53178 ml_X7_36 sm_J7_fill_53178 rfl (rest := []) rfl (Nat.le_of_ble_eq_true rfl) ⟨Nat.le_of_ble_eq_true rfl, Nat.le_of_ble_eq_true rfl⟩ ⟨Nat.le_of_ble_eq_true rfl, Nat.le_of_ble_eq_true rfl⟩ (k' := 0) (z' := 0) (N' := N) rfl rfl rfl (fun r σ3468 hp => ?_)
  obtain ⟨h3470, rfl⟩ := hp
  have h3469 := HK.trans h3461 h3470 (by decide)
  refine m_aload_n F rfl e_X7_begin_26 ?_
  refine m_iconst F (v := 0) (by decide) e_X7_begin_27 ?_
  refine t_put F e_X7_begin_28 fp_X7_42 (fun _ => o3) h3469 hk rfl ⟨0, (show 0 ≤ 700 by omega), rfl⟩ rfl rfl (by decide) (fun σ3471 h3472 g3473 g3474 f3475 => ?_)
  refine m_aload_n F rfl e_X7_begin_31 ?_
  refine m_iconst F (v := 0) (by decide) e_X7_begin_32 ?_
  refine t_put F e_X7_begin_33 fp_X7_45 (fun _ => o3) h3472 hk rfl ⟨_, rfl⟩ rfl rfl (by decide) (fun σ3476 h3477 g3478 g3479 f3480 => ?_)
  refine m_aload_n F rfl e_X7_begin_36 ?_
  refine m_iconst F (v := 0) (by decide) e_X7_begin_37 ?_
  refine t_put F e_X7_begin_38 fp_X7_48 (fun _ => o3) h3477 hk rfl ⟨0, (show 0 ≤ 1 by omega), rfl⟩ (by decide) rfl (by decide) (fun σ3481 h3482 g3483 g3484 f3485 => ?_)
  refine m_aload_n F rfl e_X7_begin_41 ?_
  refine m_iconst F (v := 0) (by decide) e_X7_begin_42 ?_
  refine t_put F e_X7_begin_43 fp_X7_52 (fun _ => o3) h3482 hk rfl ⟨_, rfl⟩ rfl rfl (by decide) (fun σ3486 h3487 g3488 g3489 f3490 => ?_)
  refine m_aload_n F rfl e_X7_begin_46 ?_
  refine m_iconst F (v := 0) (by decide) e_X7_begin_47 ?_
  refine t_put F e_X7_begin_48 fp_X7_55 (fun _ => o3) h3487 hk rfl ⟨_, (fun e => absurd e (show ¬ (1 : Nat) = 0 by decide)), rfl⟩ rfl rfl (by decide) (fun σ3491 h3492 g3493 g3494 f3495 => ?_)
  refine m_aload_n F rfl e_X7_begin_51 ?_
  refine m_iconst F (v := (-1)) (by decide) e_X7_begin_52 ?_
  refine t_put F e_X7_begin_53 fp_X7_15 (fun _ => o3) h3492 hk rfl ⟨_, rfl⟩ rfl rfl (by decide) (fun σ3496 h3497 g3498 g3499 f3500 => ?_)
  exact m_vret F hQ e_X7_begin_56 (⟨h3497, rfl⟩)
set_option maxRecDepth 20000 in
theorem s_X7_tokenAt (l : Launch) (V : VX) (G : GH) (b M Z T N : Nat) (σ : Mem) (a : Nat) (n901 : Nat) (h0 : HT V G (b, M, Z, T) σ) (hk : kA b a = 3) (hn901 : n901 ≤ 700) (hM : M + 0 ≤ 1000000000) : Ct l V yX7_tokenAt cX7_tokenAt 3 (some .int) 0 0 0 N σ [.ref a, .int (nI n901)] (fun r τ => HK V G (b, M, Z, T) [0, 1, 2, 3, 4, 5, 6, 7, 8, 9, 10, 11, 12, 13, 14, 15, 16, 17, 18, 19] σ τ ∧ ∃ x : Int32, (x ≠ 0 → n901 < 700) ∧ r = some (.int x)) := by
  refine Ct.of (by decide) (Nat.le_of_ble_eq_true rfl) [(0, .ref a), (1, .int (nI n901))] rfl (fun X hX F hQ => ?_)
  have h1 : HK V G (b, M, Z, T) [0, 1, 2, 3, 4, 5, 6, 7, 8, 9, 10, 11, 12, 13, 14, 15, 16, 17, 18, 19] σ σ := HK.start h0
  refine m_iload_n F rfl e_X7_tokenAt_0 ?_
  refine m_if_lt F e_X7_tokenAt_1 (fun q1 => ?_) (fun q1 => ?_)
  · have c1 : n901 < 0 := (nI_ltI (a := n901) (b := 0) (by omega) (by omega)).mp q1
    refine m_iconst F (v := 0) (by decide) e_X7_tokenAt_12 ?_
    exact m_iret F hQ e_X7_tokenAt_13 (⟨h1, 0, (by first | (intro _; omega) | (intro e; exact absurd rfl e)), rfl⟩)
  · have c1 : n901 ≥ 0 := by have hh := mt (nI_ltI (a := n901) (b := 0) (by omega) (by omega)).mpr q1; omega
    refine m_iload_n F rfl e_X7_tokenAt_4 ?_
    refine m_aload_n F rfl e_X7_tokenAt_5 ?_
    refine t_get F e_X7_tokenAt_6 fl_X7_33 (fun _ => o3) h1 hk rfl (fun v hv f3501 => ?_)
    obtain ⟨n3502, hn3502, rfl⟩ := hv
    replace hn3502 : n3502 ≤ 700 := hn3502
    refine m_icmp_lt F e_X7_tokenAt_9 (fun q9 => ?_) (fun q9 => ?_)
    · have c9 : n901 < n3502 := (nI_ltI (a := n901) (b := n3502) (by omega) (by omega)).mp q9
      refine m_aload_n F rfl e_X7_tokenAt_14 ?_
      refine t_get F e_X7_tokenAt_15 fl_X7_19 (fun _ => o3) h1 hk rfl (fun v hv f3503 => ?_)
      obtain ⟨r3504, k3505, rfl⟩ := hv
      refine m_iload_n F rfl e_X7_tokenAt_18 ?_
      refine t_bald F (len := 700) (j := n901) e_X7_tokenAt_19 (fun _ => o2) h1 k3505 (nI_clamp (by omega)) (vp_in_nI (by omega) (by decide)) (fun x3506 => ?_)
      refine m_istore_n F (lv' := [(2, .int x3506), (0, .ref a), (1, .int (nI n901))]) e_X7_tokenAt_20 (by decide) rfl ?_
      refine m_iload_n F rfl e_X7_tokenAt_21 ?_
      refine m_bipush F (v := 97) (by decide) e_X7_tokenAt_22 ?_
      refine m_icmp_lt F e_X7_tokenAt_24 (fun q24 => ?_) (fun q24 => ?_)
      · refine m_iload_n F rfl e_X7_tokenAt_35 ?_
        refine m_bipush F (v := 48) (by decide) e_X7_tokenAt_36 ?_
        refine m_icmp_lt F e_X7_tokenAt_38 (fun q38 => ?_) (fun q38 => ?_)
        · refine m_iload_n F rfl e_X7_tokenAt_49 ?_
          refine m_bipush F (v := 59) (by decide) e_X7_tokenAt_50 ?_
          refine m_icmp_ne F e_X7_tokenAt_52 (fun q52 => ?_) (fun q52 => ?_)
          · refine m_iconst F (v := 4) (by decide) e_X7_tokenAt_59 ?_
            exact m_iret F hQ e_X7_tokenAt_60 (⟨h1, 4, (by first | (intro _; omega) | (intro e; exact absurd rfl e)), rfl⟩)
          · refine m_iconst F (v := 3) (by decide) e_X7_tokenAt_55 ?_
            refine m_goto F e_X7_tokenAt_56 ?_
            exact m_iret F hQ e_X7_tokenAt_60 (⟨h1, 3, (by first | (intro _; omega) | (intro e; exact absurd rfl e)), rfl⟩)
        · obtain ⟨n3507, hn3507, rfl⟩ := nI_nn (x := x3506) (fun e => q38 (Int32.lt_of_lt_of_le e (by decide)))
          have c38 : n3507 ≥ 48 := by have hh := mt (nI_ltI (a := n3507) (b := 48) (by omega) (by omega)).mpr q38; omega
          refine m_iload_n F rfl e_X7_tokenAt_41 ?_
          refine m_bipush F (v := 57) (by decide) e_X7_tokenAt_42 ?_
          refine m_icmp_gt F e_X7_tokenAt_44 (fun q44 => ?_) (fun q44 => ?_)
          · have c44 : n3507 > 57 := (nI_ltI (a := 57) (b := n3507) (by omega) (by omega)).mp q44
            refine m_iload_n F rfl e_X7_tokenAt_49 ?_
            refine m_bipush F (v := 59) (by decide) e_X7_tokenAt_50 ?_
            refine m_icmp_ne F e_X7_tokenAt_52 (fun q52 => ?_) (fun q52 => ?_)
            · have c52 : n3507 ≠ 59 := by have hh := mt (nI_eq (a := n3507) (b := 59) (by omega) (by omega)).mpr q52; omega
              refine m_iconst F (v := 4) (by decide) e_X7_tokenAt_59 ?_
              exact m_iret F hQ e_X7_tokenAt_60 (⟨h1, 4, (by first | (intro _; omega) | (intro e; exact absurd rfl e)), rfl⟩)
            · have c52 : n3507 = 59 := (nI_eq (a := n3507) (b := 59) (by omega) (by omega)).mp q52
              refine m_iconst F (v := 3) (by decide) e_X7_tokenAt_55 ?_
              refine m_goto F e_X7_tokenAt_56 ?_
              exact m_iret F hQ e_X7_tokenAt_60 (⟨h1, 3, (by first | (intro _; omega) | (intro e; exact absurd rfl e)), rfl⟩)
          · have c44 : n3507 ≤ 57 := by have hh := mt (nI_ltI (a := 57) (b := n3507) (by omega) (by omega)).mpr q44; omega
            refine m_iconst F (v := 2) (by decide) e_X7_tokenAt_47 ?_
            exact m_iret F hQ e_X7_tokenAt_48 (⟨h1, 2, (by first | (intro _; omega) | (intro e; exact absurd rfl e)), rfl⟩)
      · obtain ⟨n3508, hn3508, rfl⟩ := nI_nn (x := x3506) (fun e => q24 (Int32.lt_of_lt_of_le e (by decide)))
        have c24 : n3508 ≥ 97 := by have hh := mt (nI_ltI (a := n3508) (b := 97) (by omega) (by omega)).mpr q24; omega
        refine m_iload_n F rfl e_X7_tokenAt_27 ?_
        refine m_bipush F (v := 122) (by decide) e_X7_tokenAt_28 ?_
        refine m_icmp_gt F e_X7_tokenAt_30 (fun q30 => ?_) (fun q30 => ?_)
        · have c30 : n3508 > 122 := (nI_ltI (a := 122) (b := n3508) (by omega) (by omega)).mp q30
          refine m_iload_n F rfl e_X7_tokenAt_35 ?_
          refine m_bipush F (v := 48) (by decide) e_X7_tokenAt_36 ?_
          refine m_icmp_lt F e_X7_tokenAt_38 (fun q38 => ?_) (fun q38 => ?_)
          · have c38 : n3508 < 48 := (nI_ltI (a := n3508) (b := 48) (by omega) (by omega)).mp q38
            refine m_iload_n F rfl e_X7_tokenAt_49 ?_
            refine m_bipush F (v := 59) (by decide) e_X7_tokenAt_50 ?_
            refine m_icmp_ne F e_X7_tokenAt_52 (fun q52 => ?_) (fun q52 => ?_)
            · have c52 : n3508 ≠ 59 := by have hh := mt (nI_eq (a := n3508) (b := 59) (by omega) (by omega)).mpr q52; omega
              refine m_iconst F (v := 4) (by decide) e_X7_tokenAt_59 ?_
              exact m_iret F hQ e_X7_tokenAt_60 (⟨h1, 4, (by first | (intro _; omega) | (intro e; exact absurd rfl e)), rfl⟩)
            · have c52 : n3508 = 59 := (nI_eq (a := n3508) (b := 59) (by omega) (by omega)).mp q52
              refine m_iconst F (v := 3) (by decide) e_X7_tokenAt_55 ?_
              refine m_goto F e_X7_tokenAt_56 ?_
              exact m_iret F hQ e_X7_tokenAt_60 (⟨h1, 3, (by first | (intro _; omega) | (intro e; exact absurd rfl e)), rfl⟩)
          · have c38 : n3508 ≥ 48 := by have hh := mt (nI_ltI (a := n3508) (b := 48) (by omega) (by omega)).mpr q38; omega
            refine m_iload_n F rfl e_X7_tokenAt_41 ?_
            refine m_bipush F (v := 57) (by decide) e_X7_tokenAt_42 ?_
            refine m_icmp_gt F e_X7_tokenAt_44 (fun q44 => ?_) (fun q44 => ?_)
            · have c44 : n3508 > 57 := (nI_ltI (a := 57) (b := n3508) (by omega) (by omega)).mp q44
              refine m_iload_n F rfl e_X7_tokenAt_49 ?_
              refine m_bipush F (v := 59) (by decide) e_X7_tokenAt_50 ?_
              refine m_icmp_ne F e_X7_tokenAt_52 (fun q52 => ?_) (fun q52 => ?_)
              · have c52 : n3508 ≠ 59 := by have hh := mt (nI_eq (a := n3508) (b := 59) (by omega) (by omega)).mpr q52; omega
                refine m_iconst F (v := 4) (by decide) e_X7_tokenAt_59 ?_
                exact m_iret F hQ e_X7_tokenAt_60 (⟨h1, 4, (by first | (intro _; omega) | (intro e; exact absurd rfl e)), rfl⟩)
              · have c52 : n3508 = 59 := (nI_eq (a := n3508) (b := 59) (by omega) (by omega)).mp q52
                refine m_iconst F (v := 3) (by decide) e_X7_tokenAt_55 ?_
                refine m_goto F e_X7_tokenAt_56 ?_
                exact m_iret F hQ e_X7_tokenAt_60 (⟨h1, 3, (by first | (intro _; omega) | (intro e; exact absurd rfl e)), rfl⟩)
            · have c44 : n3508 ≤ 57 := by have hh := mt (nI_ltI (a := 57) (b := n3508) (by omega) (by omega)).mpr q44; omega
              refine m_iconst F (v := 2) (by decide) e_X7_tokenAt_47 ?_
              exact m_iret F hQ e_X7_tokenAt_48 (⟨h1, 2, (by first | (intro _; omega) | (intro e; exact absurd rfl e)), rfl⟩)
        · have c30 : n3508 ≤ 122 := by have hh := mt (nI_ltI (a := 122) (b := n3508) (by omega) (by omega)).mpr q30; omega
          refine m_iconst F (v := 1) (by decide) e_X7_tokenAt_33 ?_
          exact m_iret F hQ e_X7_tokenAt_34 (⟨h1, 1, (by first | (intro _; omega) | (intro e; exact absurd rfl e)), rfl⟩)
    · have c9 : n901 ≥ n3502 := by have hh := mt (nI_ltI (a := n901) (b := n3502) (by omega) (by omega)).mpr q9; omega
      refine m_iconst F (v := 0) (by decide) e_X7_tokenAt_12 ?_
      exact m_iret F hQ e_X7_tokenAt_13 (⟨h1, 0, (by first | (intro _; omega) | (intro e; exact absurd rfl e)), rfl⟩)
set_option maxRecDepth 20000 in
theorem lp_X7_advanceNumber_5 {V : VX} {G : GH} {X : MX} {b M Z T N : Nat} {σ : Mem} {a : Nat}   (F : Fx V X yX7_advanceNumber cX7_advanceNumber 1 none (rmd 0 0 0)) (hQ : Rt V X 0 0 N (fun r τ => HK V G (b, M, Z, T) [0, 1, 2, 4, 5, 6, 7, 8, 9, 10, 11, 12, 13, 14, 15, 16, 17, 18, 19] σ τ ∧ r = none)) (hk : kA b a = 3) (hM : M + 0 ≤ 1000000000)  : ∀ (fuel : Nat) (nx : Nat) (τ : Mem), HK V G (b, M, Z, T) [0, 1, 2, 4, 5, 6, 7, 8, 9, 10, 11, 12, 13, 14, 15, 16, 17, 18, 19] σ τ → fld τ a 4 = some (.int (nI nx)) ∧ nx ≤ 700 → 700 - nx < fuel → Wm V X 1 N τ 0 0 5 [(0, .ref a)] [] := by
  intro fuel
  induction fuel with
  | zero => intro nx τ h1 hi hm; exact absurd hm (Nat.not_lt_zero _)
  | succ fuel ih =>
    intro nx τ h1 hi hm
    obtain ⟨hfnx, hi⟩ := hi
    refine m_aload_n F rfl e_X7_advanceNumber_5 ?_
    refine t_getC F e_X7_advanceNumber_6 fl_X7_42 (fun _ => o3) h1 hk (hfnx) ?_
    refine m_aload_n F rfl e_X7_advanceNumber_9 ?_
    refine t_get F e_X7_advanceNumber_10 fl_X7_33 (fun _ => o3) h1 hk rfl (fun v hv f3509 => ?_)
    obtain ⟨n3510, hn3510, rfl⟩ := hv
    replace hn3510 : n3510 ≤ 700 := hn3510
    refine m_icmp_ge F e_X7_advanceNumber_13 (fun q13 => ?_) (fun q13 => ?_)
    · have c13 : nx ≥ n3510 := (nI_leI (a := n3510) (b := nx) (by omega) (by omega)).mp q13
      exact m_vret F hQ e_X7_advanceNumber_95 (⟨h1, rfl⟩)
    · have c13 : nx < n3510 := by have hh := mt (nI_leI (a := n3510) (b := nx) (by omega) (by omega)).mpr q13; omega
      refine m_aload_n F rfl e_X7_advanceNumber_16 ?_
      refine t_get F e_X7_advanceNumber_17 fl_X7_19 (fun _ => o3) h1 hk rfl (fun v hv f3511 => ?_)
      obtain ⟨r3512, k3513, rfl⟩ := hv
      refine m_aload_n F rfl e_X7_advanceNumber_20 ?_
      refine t_getC F e_X7_advanceNumber_21 fl_X7_42 (fun _ => o3) h1 hk (hfnx) ?_
      refine t_bald F (len := 700) (j := nx) e_X7_advanceNumber_24 (fun _ => o2) h1 k3513 (nI_clamp (by omega)) (vp_in_nI (by omega) (by decide)) (fun x3514 => ?_)
      refine m_bipush F (v := 48) (by decide) e_X7_advanceNumber_25 ?_
      refine m_icmp_lt F e_X7_advanceNumber_27 (fun q27 => ?_) (fun q27 => ?_)
      · exact m_vret F hQ e_X7_advanceNumber_95 (⟨h1, rfl⟩)
      · obtain ⟨n3515, hn3515, rfl⟩ := nI_nn (x := x3514) (fun e => q27 (Int32.lt_of_lt_of_le e (by decide)))
        have c27 : n3515 ≥ 48 := by have hh := mt (nI_ltI (a := n3515) (b := 48) (by omega) (by omega)).mpr q27; omega
        refine m_aload_n F rfl e_X7_advanceNumber_30 ?_
        refine t_getC F e_X7_advanceNumber_31 fl_X7_19 (fun _ => o3) h1 hk (f3511) ?_
        refine m_aload_n F rfl e_X7_advanceNumber_34 ?_
        refine t_getC F e_X7_advanceNumber_35 fl_X7_42 (fun _ => o3) h1 hk (hfnx) ?_
        refine t_bald F (len := 700) (j := nx) e_X7_advanceNumber_38 (fun _ => o2) h1 k3513 (nI_clamp (by omega)) (vp_in_nI (by omega) (by decide)) (fun x3516 => ?_)
        refine m_bipush F (v := 57) (by decide) e_X7_advanceNumber_39 ?_
        refine m_icmp_gt F e_X7_advanceNumber_41 (fun q41 => ?_) (fun q41 => ?_)
        · obtain ⟨n3517, hn3517, rfl⟩ := nI_nn (x := x3516) (fun e => Int32.lt_irrefl (Int32.lt_trans e (Int32.lt_of_le_of_lt (by decide) q41)))
          have c41 : n3517 > 57 := (nI_ltI (a := 57) (b := n3517) (by omega) (by omega)).mp q41
          exact m_vret F hQ e_X7_advanceNumber_95 (⟨h1, rfl⟩)
        · refine m_aload_n F rfl e_X7_advanceNumber_44 ?_
          refine m_aload_n F rfl e_X7_advanceNumber_45 ?_
          refine t_get F e_X7_advanceNumber_46 fl_X7_70 (fun _ => o3) h1 hk rfl (fun v hv f3518 => ?_)
          obtain ⟨x3519, rfl⟩ := hv
          refine m_ldc F kc_X7_216 e_X7_advanceNumber_49 ?_
          refine m_icmp_lt F e_X7_advanceNumber_51 (fun q51 => ?_) (fun q51 => ?_)
          · refine m_aload_n F rfl e_X7_advanceNumber_59 ?_
            refine t_getC F e_X7_advanceNumber_60 fl_X7_70 (fun _ => o3) h1 hk (f3518) ?_
            refine m_bipush F (v := 10) (by decide) e_X7_advanceNumber_63 ?_
            refine m_imul F e_X7_advanceNumber_65 ?_
            refine Wm.top (fun x3520 _ => ?_)
            refine m_aload_n F rfl e_X7_advanceNumber_66 ?_
            refine t_getC F e_X7_advanceNumber_67 fl_X7_19 (fun _ => o3) h1 hk (f3511) ?_
            refine m_aload_n F rfl e_X7_advanceNumber_70 ?_
            refine t_getC F e_X7_advanceNumber_71 fl_X7_42 (fun _ => o3) h1 hk (hfnx) ?_
            refine t_bald F (len := 700) (j := nx) e_X7_advanceNumber_74 (fun _ => o2) h1 k3513 (nI_clamp (by omega)) (vp_in_nI (by omega) (by decide)) (fun x3521 => ?_)
            refine m_iadd F e_X7_advanceNumber_75 ?_
            refine Wm.top (fun x3522 _ => ?_)
            refine m_bipush F (v := 48) (by decide) e_X7_advanceNumber_76 ?_
            refine m_isub F e_X7_advanceNumber_78 ?_
            refine Wm.top (fun x3523 _ => ?_)
            refine t_put F e_X7_advanceNumber_79 fp_X7_70 (fun _ => o3) h1 hk rfl ⟨_, rfl⟩ rfl rfl (by decide) (fun σ3524 h3525 g3526 g3527 f3528 => ?_)
            refine m_aload_n F rfl e_X7_advanceNumber_82 ?_
            refine m_dup F rfl e_X7_advanceNumber_83 ?_
            refine t_getC F e_X7_advanceNumber_84 fl_X7_42 (fun _ => o3) h3525 hk ((g3527 4 (by decide)).trans hfnx) ?_
            refine m_iconst F (v := 1) (by decide) e_X7_advanceNumber_87 ?_
            refine m_iadd F e_X7_advanceNumber_88 ?_
            refine Wm.topE (w := nI (nx + 1)) (nI_add nx 1) ?_
            refine t_put F e_X7_advanceNumber_89 fp_X7_42 (fun _ => o3) h3525 hk rfl ⟨nx + 1, (show nx + 1 ≤ 700 by omega), rfl⟩ rfl rfl (by decide) (fun σ3529 h3530 g3531 g3532 f3533 => ?_)
            refine m_goto F e_X7_advanceNumber_92 ?_
            exact ih (nx + 1) _ h3530 ⟨(f3533), (by omega)⟩ (by omega)
          · obtain ⟨n3534, hn3534, rfl⟩ := nI_nn (x := x3519) (fun e => q51 (Int32.lt_of_lt_of_le e (by decide)))
            have c51 : n3534 ≥ 100000000 := by have hh := mt (nI_ltI (a := n3534) (b := 100000000) (by omega) (by omega)).mpr q51; omega
            refine m_ldc F kc_X7_216 e_X7_advanceNumber_54 ?_
            refine m_goto F e_X7_advanceNumber_56 ?_
            refine t_put F e_X7_advanceNumber_79 fp_X7_70 (fun _ => o3) h1 hk rfl ⟨_, rfl⟩ rfl rfl (by decide) (fun σ3535 h3536 g3537 g3538 f3539 => ?_)
            refine m_aload_n F rfl e_X7_advanceNumber_82 ?_
            refine m_dup F rfl e_X7_advanceNumber_83 ?_
            refine t_getC F e_X7_advanceNumber_84 fl_X7_42 (fun _ => o3) h3536 hk ((g3538 4 (by decide)).trans hfnx) ?_
            refine m_iconst F (v := 1) (by decide) e_X7_advanceNumber_87 ?_
            refine m_iadd F e_X7_advanceNumber_88 ?_
            refine Wm.topE (w := nI (nx + 1)) (nI_add nx 1) ?_
            refine t_put F e_X7_advanceNumber_89 fp_X7_42 (fun _ => o3) h3536 hk rfl ⟨nx + 1, (show nx + 1 ≤ 700 by omega), rfl⟩ rfl rfl (by decide) (fun σ3540 h3541 g3542 g3543 f3544 => ?_)
            refine m_goto F e_X7_advanceNumber_92 ?_
            exact ih (nx + 1) _ h3541 ⟨(f3544), (by omega)⟩ (by omega)
set_option maxRecDepth 20000 in
theorem s_X7_advanceNumber (l : Launch) (V : VX) (G : GH) (b M Z T N : Nat) (σ : Mem) (a : Nat) (h0 : HT V G (b, M, Z, T) σ) (hk : kA b a = 3) (hM : M + 0 ≤ 1000000000) : Ct l V yX7_advanceNumber cX7_advanceNumber 1 none 0 0 0 N σ [.ref a] (fun r τ => HK V G (b, M, Z, T) [0, 1, 2, 4, 5, 6, 7, 8, 9, 10, 11, 12, 13, 14, 15, 16, 17, 18, 19] σ τ ∧ r = none) := by
  refine Ct.of (by decide) (Nat.le_of_ble_eq_true rfl) [(0, .ref a)] rfl (fun X hX F hQ => ?_)
  have h1 : HK V G (b, M, Z, T) [0, 1, 2, 4, 5, 6, 7, 8, 9, 10, 11, 12, 13, 14, 15, 16, 17, 18, 19] σ σ := HK.start h0
  refine m_aload_n F rfl e_X7_advanceNumber_0 ?_
  refine m_iconst F (v := 0) (by decide) e_X7_advanceNumber_1 ?_
  refine t_put F e_X7_advanceNumber_2 fp_X7_70 (fun _ => o3) h1 hk rfl ⟨_, rfl⟩ rfl rfl (by decide) (fun σ3545 h3546 g3547 g3548 f3549 => ?_)
  obtain ⟨v9, ⟨n3550, hn3550, rfl⟩, f3551⟩ := HK.f (j := 4) h3546 (fun _ => o3) hk rfl
  replace hn3550 : n3550 ≤ 700 := hn3550
  exact lp_X7_advanceNumber_5 F hQ hk hM (700 - n3550 + 1) n3550 _ h3546 ⟨(f3551), (by omega)⟩ (Nat.lt_succ_self _)
set_option maxRecDepth 20000 in
theorem lp_X7_advanceWord_111 {V : VX} {G : GH} {X : MX} {b M Z T N : Nat} {σ : Mem} {a : Nat}   (F : Fx V X yX7_advanceWord cX7_advanceWord 2 none (rmd 0 0 0)) (hQ : Rt V X 0 0 N (fun r τ => HK V G (b, M, Z, T) [0, 1, 2, 4, 5, 6, 7, 8, 9, 10, 11, 12, 13, 14, 15, 16, 17, 18, 19] σ τ ∧ r = none)) (hk : kA b a = 3) (hM : M + 0 ≤ 1000000000)  : ∀ (fuel : Nat) (i1 : Int32) (τ : Mem), HK V G (b, M, Z, T) [0, 1, 2, 4, 5, 6, 7, 8, 9, 10, 11, 12, 13, 14, 15, 16, 17, 18, 19] σ τ → True → (6 - i1.toInt).toNat < fuel → Wm V X 2 N τ 0 0 111 [(1, .int i1), (0, .ref a)] [] := by
  intro fuel
  induction fuel with
  | zero => intro i1 τ h1 hi hm; exact absurd hm (Nat.not_lt_zero _)
  | succ fuel ih =>
    intro i1 τ h1 hi hm
    refine m_iload_n F rfl e_X7_advanceWord_111 ?_
    refine m_bipush F (v := 6) (by decide) e_X7_advanceWord_112 ?_
    refine m_icmp_ge F e_X7_advanceWord_114 (fun q114 => ?_) (fun q114 => ?_)
    · obtain ⟨n3552, hn3552, rfl⟩ := nI_nn (x := i1) (fun e => Int32.lt_irrefl (Int32.lt_of_lt_of_le e (Int32.le_trans (by decide) q114)))
      have c114 : n3552 ≥ 6 := (nI_leI (a := 6) (b := n3552) (by omega) (by omega)).mp q114
      exact m_vret F hQ e_X7_advanceWord_134 (⟨h1, rfl⟩)
    · refine m_aload_n F rfl e_X7_advanceWord_117 ?_
      refine m_aload_n F rfl e_X7_advanceWord_118 ?_
      refine t_get F e_X7_advanceWord_119 fl_X7_70 (fun _ => o3) h1 hk rfl (fun v hv f3553 => ?_)
      obtain ⟨x3554, rfl⟩ := hv
      refine m_bipush F (v := 32) (by decide) e_X7_advanceWord_122 ?_
      refine m_imul F e_X7_advanceWord_124 ?_
      refine Wm.top (fun x3555 _ => ?_)
      refine t_put F e_X7_advanceWord_125 fp_X7_70 (fun _ => o3) h1 hk rfl ⟨_, rfl⟩ rfl rfl (by decide) (fun σ3556 h3557 g3558 g3559 f3560 => ?_)
      refine m_iinc F (v := (i1 + 1)) (lv' := [(1, .int (i1 + 1)), (0, .ref a)]) e_X7_advanceWord_128 rfl rfl (by decide) rfl ?_
      refine m_goto F e_X7_advanceWord_131 ?_
      exact ih (i1 + 1) _ h3557 (by first | trivial | omega) (by first | omega | (have h9 := inc_lt (w := 6) (Int32.not_le.mp q114); have h8 := Int32.lt_iff_toInt_lt.mp (Int32.not_le.mp q114); have h7 : (6 : Int32).toInt = 6 := (by decide); omega))
set_option maxRecDepth 20000 in
theorem lp_X7_advanceWord_5 {V : VX} {G : GH} {X : MX} {b M Z T N : Nat} {σ : Mem} {a : Nat}   (F : Fx V X yX7_advanceWord cX7_advanceWord 2 none (rmd 0 0 0)) (hQ : Rt V X 0 0 N (fun r τ => HK V G (b, M, Z, T) [0, 1, 2, 4, 5, 6, 7, 8, 9, 10, 11, 12, 13, 14, 15, 16, 17, 18, 19] σ τ ∧ r = none)) (hk : kA b a = 3) (hM : M + 0 ≤ 1000000000)  : ∀ (fuel : Nat) (nx : Nat) (τ : Mem), HK V G (b, M, Z, T) [0, 1, 2, 4, 5, 6, 7, 8, 9, 10, 11, 12, 13, 14, 15, 16, 17, 18, 19] σ τ → fld τ a 4 = some (.int (nI nx)) ∧ nx ≤ 700 → 700 - nx < fuel → Wm V X 2 N τ 0 0 5 [(0, .ref a)] [] := by
  intro fuel
  induction fuel with
  | zero => intro nx τ h1 hi hm; exact absurd hm (Nat.not_lt_zero _)
  | succ fuel ih =>
    intro nx τ h1 hi hm
    obtain ⟨hfnx, hi⟩ := hi
    refine m_aload_n F rfl e_X7_advanceWord_5 ?_
    refine t_getC F e_X7_advanceWord_6 fl_X7_42 (fun _ => o3) h1 hk (hfnx) ?_
    refine m_aload_n F rfl e_X7_advanceWord_9 ?_
    refine t_get F e_X7_advanceWord_10 fl_X7_33 (fun _ => o3) h1 hk rfl (fun v hv f3561 => ?_)
    obtain ⟨n3562, hn3562, rfl⟩ := hv
    replace hn3562 : n3562 ≤ 700 := hn3562
    refine m_icmp_ge F e_X7_advanceWord_13 (fun q13 => ?_) (fun q13 => ?_)
    · have c13 : nx ≥ n3562 := (nI_leI (a := n3562) (b := nx) (by omega) (by omega)).mp q13
      refine m_aload_n F rfl e_X7_advanceWord_101 ?_
      refine t_getC F e_X7_advanceWord_102 fl_X7_42 (fun _ => o3) h1 hk (hfnx) ?_
      refine m_aload_n F rfl e_X7_advanceWord_105 ?_
      refine t_get F e_X7_advanceWord_106 fl_X7_188 (fun _ => o3) h1 hk rfl (fun v hv f3563 => ?_)
      obtain ⟨x3564, rfl⟩ := hv
      refine m_isub F e_X7_advanceWord_109 ?_
      refine Wm.top (fun x3565 _ => ?_)
      refine m_istore_n F (lv' := [(1, .int x3565), (0, .ref a)]) e_X7_advanceWord_110 (by decide) rfl ?_
      exact lp_X7_advanceWord_111 F hQ hk hM ((6 - x3565.toInt).toNat + 1) x3565 _ h1 (by first | trivial | omega) (Nat.lt_succ_self _)
    · have c13 : nx < n3562 := by have hh := mt (nI_leI (a := n3562) (b := nx) (by omega) (by omega)).mpr q13; omega
      refine m_aload_n F rfl e_X7_advanceWord_16 ?_
      refine t_get F e_X7_advanceWord_17 fl_X7_19 (fun _ => o3) h1 hk rfl (fun v hv f3566 => ?_)
      obtain ⟨r3567, k3568, rfl⟩ := hv
      refine m_aload_n F rfl e_X7_advanceWord_20 ?_
      refine t_getC F e_X7_advanceWord_21 fl_X7_42 (fun _ => o3) h1 hk (hfnx) ?_
      refine t_bald F (len := 700) (j := nx) e_X7_advanceWord_24 (fun _ => o2) h1 k3568 (nI_clamp (by omega)) (vp_in_nI (by omega) (by decide)) (fun x3569 => ?_)
      refine m_bipush F (v := 97) (by decide) e_X7_advanceWord_25 ?_
      refine m_icmp_lt F e_X7_advanceWord_27 (fun q27 => ?_) (fun q27 => ?_)
      · refine m_aload_n F rfl e_X7_advanceWord_101 ?_
        refine t_getC F e_X7_advanceWord_102 fl_X7_42 (fun _ => o3) h1 hk (hfnx) ?_
        refine m_aload_n F rfl e_X7_advanceWord_105 ?_
        refine t_get F e_X7_advanceWord_106 fl_X7_188 (fun _ => o3) h1 hk rfl (fun v hv f3570 => ?_)
        obtain ⟨x3571, rfl⟩ := hv
        refine m_isub F e_X7_advanceWord_109 ?_
        refine Wm.top (fun x3572 _ => ?_)
        refine m_istore_n F (lv' := [(1, .int x3572), (0, .ref a)]) e_X7_advanceWord_110 (by decide) rfl ?_
        exact lp_X7_advanceWord_111 F hQ hk hM ((6 - x3572.toInt).toNat + 1) x3572 _ h1 (by first | trivial | omega) (Nat.lt_succ_self _)
      · obtain ⟨n3573, hn3573, rfl⟩ := nI_nn (x := x3569) (fun e => q27 (Int32.lt_of_lt_of_le e (by decide)))
        have c27 : n3573 ≥ 97 := by have hh := mt (nI_ltI (a := n3573) (b := 97) (by omega) (by omega)).mpr q27; omega
        refine m_aload_n F rfl e_X7_advanceWord_30 ?_
        refine t_getC F e_X7_advanceWord_31 fl_X7_19 (fun _ => o3) h1 hk (f3566) ?_
        refine m_aload_n F rfl e_X7_advanceWord_34 ?_
        refine t_getC F e_X7_advanceWord_35 fl_X7_42 (fun _ => o3) h1 hk (hfnx) ?_
        refine t_bald F (len := 700) (j := nx) e_X7_advanceWord_38 (fun _ => o2) h1 k3568 (nI_clamp (by omega)) (vp_in_nI (by omega) (by decide)) (fun x3574 => ?_)
        refine m_bipush F (v := 122) (by decide) e_X7_advanceWord_39 ?_
        refine m_icmp_gt F e_X7_advanceWord_41 (fun q41 => ?_) (fun q41 => ?_)
        · obtain ⟨n3575, hn3575, rfl⟩ := nI_nn (x := x3574) (fun e => Int32.lt_irrefl (Int32.lt_trans e (Int32.lt_of_le_of_lt (by decide) q41)))
          have c41 : n3575 > 122 := (nI_ltI (a := 122) (b := n3575) (by omega) (by omega)).mp q41
          refine m_aload_n F rfl e_X7_advanceWord_101 ?_
          refine t_getC F e_X7_advanceWord_102 fl_X7_42 (fun _ => o3) h1 hk (hfnx) ?_
          refine m_aload_n F rfl e_X7_advanceWord_105 ?_
          refine t_get F e_X7_advanceWord_106 fl_X7_188 (fun _ => o3) h1 hk rfl (fun v hv f3576 => ?_)
          obtain ⟨x3577, rfl⟩ := hv
          refine m_isub F e_X7_advanceWord_109 ?_
          refine Wm.top (fun x3578 _ => ?_)
          refine m_istore_n F (lv' := [(1, .int x3578), (0, .ref a)]) e_X7_advanceWord_110 (by decide) rfl ?_
          exact lp_X7_advanceWord_111 F hQ hk hM ((6 - x3578.toInt).toNat + 1) x3578 _ h1 (by first | trivial | omega) (Nat.lt_succ_self _)
        · refine m_aload_n F rfl e_X7_advanceWord_44 ?_
          refine m_aload_n F rfl e_X7_advanceWord_45 ?_
          refine t_getC F e_X7_advanceWord_46 fl_X7_42 (fun _ => o3) h1 hk (hfnx) ?_
          refine m_aload_n F rfl e_X7_advanceWord_49 ?_
          refine t_get F e_X7_advanceWord_50 fl_X7_188 (fun _ => o3) h1 hk rfl (fun v hv f3579 => ?_)
          obtain ⟨x3580, rfl⟩ := hv
          refine m_isub F e_X7_advanceWord_53 ?_
          refine Wm.top (fun x3581 _ => ?_)
          refine m_bipush F (v := 6) (by decide) e_X7_advanceWord_54 ?_
          refine m_icmp_ge F e_X7_advanceWord_56 (fun q56 => ?_) (fun q56 => ?_)
          · obtain ⟨n3582, hn3582, rfl⟩ := nI_nn (x := x3581) (fun e => Int32.lt_irrefl (Int32.lt_of_lt_of_le e (Int32.le_trans (by decide) q56)))
            have c56 : n3582 ≥ 6 := (nI_leI (a := 6) (b := n3582) (by omega) (by omega)).mp q56
            refine m_iconst F (v := (-1)) (by decide) e_X7_advanceWord_84 ?_
            refine t_put F e_X7_advanceWord_85 fp_X7_70 (fun _ => o3) h1 hk rfl ⟨_, rfl⟩ rfl rfl (by decide) (fun σ3583 h3584 g3585 g3586 f3587 => ?_)
            refine m_aload_n F rfl e_X7_advanceWord_88 ?_
            refine m_dup F rfl e_X7_advanceWord_89 ?_
            refine t_getC F e_X7_advanceWord_90 fl_X7_42 (fun _ => o3) h3584 hk ((g3586 4 (by decide)).trans hfnx) ?_
            refine m_iconst F (v := 1) (by decide) e_X7_advanceWord_93 ?_
            refine m_iadd F e_X7_advanceWord_94 ?_
            refine Wm.topE (w := nI (nx + 1)) (nI_add nx 1) ?_
            refine t_put F e_X7_advanceWord_95 fp_X7_42 (fun _ => o3) h3584 hk rfl ⟨nx + 1, (show nx + 1 ≤ 700 by omega), rfl⟩ rfl rfl (by decide) (fun σ3588 h3589 g3590 g3591 f3592 => ?_)
            refine m_goto F e_X7_advanceWord_98 ?_
            exact ih (nx + 1) _ h3589 ⟨(f3592), (by first | trivial | omega)⟩ (by first | omega | (have h9 := inc_lt (w := 6) (Int32.not_le.mp q114); have h8 := Int32.lt_iff_toInt_lt.mp (Int32.not_le.mp q114); have h7 : (6 : Int32).toInt = 6 := (by decide); omega))
          · refine m_aload_n F rfl e_X7_advanceWord_59 ?_
            refine t_get F e_X7_advanceWord_60 fl_X7_70 (fun _ => o3) h1 hk rfl (fun v hv f3593 => ?_)
            obtain ⟨x3594, rfl⟩ := hv
            refine m_bipush F (v := 32) (by decide) e_X7_advanceWord_63 ?_
            refine m_imul F e_X7_advanceWord_65 ?_
            refine Wm.top (fun x3595 _ => ?_)
            refine m_aload_n F rfl e_X7_advanceWord_66 ?_
            refine t_getC F e_X7_advanceWord_67 fl_X7_19 (fun _ => o3) h1 hk (f3566) ?_
            refine m_aload_n F rfl e_X7_advanceWord_70 ?_
            refine t_getC F e_X7_advanceWord_71 fl_X7_42 (fun _ => o3) h1 hk (hfnx) ?_
            refine t_bald F (len := 700) (j := nx) e_X7_advanceWord_74 (fun _ => o2) h1 k3568 (nI_clamp (by omega)) (vp_in_nI (by omega) (by decide)) (fun x3596 => ?_)
            refine m_iadd F e_X7_advanceWord_75 ?_
            refine Wm.top (fun x3597 _ => ?_)
            refine m_bipush F (v := 97) (by decide) e_X7_advanceWord_76 ?_
            refine m_isub F e_X7_advanceWord_78 ?_
            refine Wm.top (fun x3598 _ => ?_)
            refine m_iconst F (v := 1) (by decide) e_X7_advanceWord_79 ?_
            refine m_iadd F e_X7_advanceWord_80 ?_
            refine Wm.top (fun x3599 _ => ?_)
            refine m_goto F e_X7_advanceWord_81 ?_
            refine t_put F e_X7_advanceWord_85 fp_X7_70 (fun _ => o3) h1 hk rfl ⟨_, rfl⟩ rfl rfl (by decide) (fun σ3600 h3601 g3602 g3603 f3604 => ?_)
            refine m_aload_n F rfl e_X7_advanceWord_88 ?_
            refine m_dup F rfl e_X7_advanceWord_89 ?_
            refine t_getC F e_X7_advanceWord_90 fl_X7_42 (fun _ => o3) h3601 hk ((g3603 4 (by decide)).trans hfnx) ?_
            refine m_iconst F (v := 1) (by decide) e_X7_advanceWord_93 ?_
            refine m_iadd F e_X7_advanceWord_94 ?_
            refine Wm.topE (w := nI (nx + 1)) (nI_add nx 1) ?_
            refine t_put F e_X7_advanceWord_95 fp_X7_42 (fun _ => o3) h3601 hk rfl ⟨nx + 1, (show nx + 1 ≤ 700 by omega), rfl⟩ rfl rfl (by decide) (fun σ3605 h3606 g3607 g3608 f3609 => ?_)
            refine m_goto F e_X7_advanceWord_98 ?_
            exact ih (nx + 1) _ h3606 ⟨(f3609), (by first | trivial | omega)⟩ (by first | omega | (have h9 := inc_lt (w := 6) (Int32.not_le.mp q114); have h8 := Int32.lt_iff_toInt_lt.mp (Int32.not_le.mp q114); have h7 : (6 : Int32).toInt = 6 := (by decide); omega))
set_option maxRecDepth 20000 in
theorem s_X7_advanceWord (l : Launch) (V : VX) (G : GH) (b M Z T N : Nat) (σ : Mem) (a : Nat) (h0 : HT V G (b, M, Z, T) σ) (hk : kA b a = 3) (hM : M + 0 ≤ 1000000000) : Ct l V yX7_advanceWord cX7_advanceWord 2 none 0 0 0 N σ [.ref a] (fun r τ => HK V G (b, M, Z, T) [0, 1, 2, 4, 5, 6, 7, 8, 9, 10, 11, 12, 13, 14, 15, 16, 17, 18, 19] σ τ ∧ r = none) := by
  refine Ct.of (by decide) (Nat.le_of_ble_eq_true rfl) [(0, .ref a)] rfl (fun X hX F hQ => ?_)
  have h1 : HK V G (b, M, Z, T) [0, 1, 2, 4, 5, 6, 7, 8, 9, 10, 11, 12, 13, 14, 15, 16, 17, 18, 19] σ σ := HK.start h0
  refine m_aload_n F rfl e_X7_advanceWord_0 ?_
  refine m_iconst F (v := 0) (by decide) e_X7_advanceWord_1 ?_
  refine t_put F e_X7_advanceWord_2 fp_X7_70 (fun _ => o3) h1 hk rfl ⟨_, rfl⟩ rfl rfl (by decide) (fun σ3610 h3611 g3612 g3613 f3614 => ?_)
  obtain ⟨v9, ⟨n3615, hn3615, rfl⟩, f3616⟩ := HK.f (j := 4) h3611 (fun _ => o3) hk rfl
  replace hn3615 : n3615 ≤ 700 := hn3615
  exact lp_X7_advanceWord_5 F hQ hk hM (700 - n3615 + 1) n3615 _ h3611 ⟨(f3616), (by first | trivial | omega)⟩ (Nat.lt_succ_self _)
set_option maxRecDepth 20000 in
theorem lp_X7_advance_0 {V : VX} {G : GH} {X : MX} {b M Z T N : Nat} {σ : Mem} {a : Nat}   (F : Fx V X yX7_advance cX7_advance 1 none (rmd 1 0 0)) (hQ : Rt V X 0 0 N (fun r τ => HK V G (b, M, Z, T) [0, 1, 2, 4, 5, 6, 7, 8, 9, 10, 11, 12, 13, 14, 15, 16, 17, 18, 19] σ τ ∧ r = none)) (hk : kA b a = 3) (hM : M + 0 ≤ 1000000000)  : ∀ (fuel : Nat) (nx : Nat) (τ : Mem), HK V G (b, M, Z, T) [0, 1, 2, 4, 5, 6, 7, 8, 9, 10, 11, 12, 13, 14, 15, 16, 17, 18, 19] σ τ → fld τ a 4 = some (.int (nI nx)) ∧ nx ≤ 700 → 700 - nx < fuel → Wm V X 1 N τ 0 0 0 [(0, .ref a)] [] := by
  intro fuel
  induction fuel with
  | zero => intro nx τ h1 hi hm; exact absurd hm (Nat.not_lt_zero _)
  | succ fuel ih =>
    intro nx τ h1 hi hm
    obtain ⟨hfnx, hi⟩ := hi
    refine m_aload_n F rfl e_X7_advance_0 ?_
    refine t_getC F e_X7_advance_1 fl_X7_42 (fun _ => o3) h1 hk (hfnx) ?_
    refine m_aload_n F rfl e_X7_advance_4 ?_
    refine t_get F e_X7_advance_5 fl_X7_33 (fun _ => o3) h1 hk rfl (fun v hv f3617 => ?_)
    obtain ⟨n3618, hn3618, rfl⟩ := hv
    replace hn3618 : n3618 ≤ 700 := hn3618
    refine m_icmp_ge F e_X7_advance_8 (fun q8 => ?_) (fun q8 => ?_)
    · have c8 : nx ≥ n3618 := (nI_leI (a := n3618) (b := nx) (by omega) (by omega)).mp q8
      refine m_aload_n F rfl e_X7_advance_52 ?_
      refine m_aload_n F rfl e_X7_advance_53 ?_
      refine t_getC F e_X7_advance_54 fl_X7_42 (fun _ => o3) h1 hk (hfnx) ?_
      refine t_put F e_X7_advance_57 fp_X7_188 (fun _ => o3) h1 hk rfl ⟨_, rfl⟩ rfl rfl (by decide) (fun σ3619 h3620 g3621 g3622 f3623 => ?_)
      refine m_aload_n F rfl e_X7_advance_60 ?_
      refine m_aload_n F rfl e_X7_advance_61 ?_
      refine m_aload_n F rfl e_X7_advance_62 ?_
      refine t_getC F e_X7_advance_63 fl_X7_42 (fun _ => o3) h3620 hk ((g3622 4 (by decide)).trans hfnx) ?_
      refine t_callV F e_X7_advance_66 (s_X7_tokenAt (x_l X) V G b M Z T _ _ a nx h3620.1 hk (by omega) (by omega)) cb_X7_tokenAt ml_X7_207 im_X7_tokenAt se_X7_tokenAt (fun _ => o3) h3620 hk rfl rfl (rest := [.ref a]) rfl (Nat.le_of_ble_eq_true rfl) ⟨Nat.le_of_ble_eq_true rfl, Nat.le_of_ble_eq_true rfl⟩ ⟨Nat.le_of_ble_eq_true rfl, Nat.le_of_ble_eq_true rfl⟩ (fun r σ3624 hp => ?_)
      obtain ⟨h3626, x3627, gx3627, rfl⟩ := hp
      have h3625 := HK.trans h3620 h3626 (by decide)
      refine t_put F e_X7_advance_69 fp_X7_61 (fun _ => o3) h3625 hk rfl ⟨_, rfl⟩ rfl rfl (by decide) (fun σ3628 h3629 g3630 g3631 f3632 => ?_)
      refine m_aload_n F rfl e_X7_advance_72 ?_
      refine t_getC F e_X7_advance_73 fl_X7_61 (fun _ => o3) h3629 hk (f3632) ?_
      refine m_iconst F (v := 1) (by decide) e_X7_advance_76 ?_
      refine m_icmp_ne F e_X7_advance_77 (fun q77 => ?_) (fun q77 => ?_)
      · refine m_aload_n F rfl e_X7_advance_87 ?_
        refine t_getC F e_X7_advance_88 fl_X7_61 (fun _ => o3) h3629 hk (f3632) ?_
        refine m_iconst F (v := 2) (by decide) e_X7_advance_91 ?_
        refine m_icmp_ne F e_X7_advance_92 (fun q92 => ?_) (fun q92 => ?_)
        · refine m_aload_n F rfl e_X7_advance_102 ?_
          refine t_getC F e_X7_advance_103 fl_X7_61 (fun _ => o3) h3629 hk (f3632) ?_
          refine m_if_eq F e_X7_advance_106 (fun q106 => ?_) (fun q106 => ?_)
          · exact m_vret F hQ e_X7_advance_119 (⟨h3629, rfl⟩)
          · have gz := gx3627 q106
            refine m_aload_n F rfl e_X7_advance_109 ?_
            refine m_dup F rfl e_X7_advance_110 ?_
            refine t_getC F e_X7_advance_111 fl_X7_42 (fun _ => o3) h3629 hk ((g3631 4 (by decide)).trans ((fld_eq (h3626.2 a (by rw [show kA _ a = 3 from hk]; decide))).trans ((g3622 4 (by decide)).trans hfnx))) ?_
            refine m_iconst F (v := 1) (by decide) e_X7_advance_114 ?_
            refine m_iadd F e_X7_advance_115 ?_
            refine Wm.topE (w := nI (nx + 1)) (nI_add nx 1) ?_
            refine t_put F e_X7_advance_116 fp_X7_42 (fun _ => o3) h3629 hk rfl ⟨nx + 1, (show nx + 1 ≤ 700 by omega), rfl⟩ rfl rfl (by decide) (fun σ3633 h3634 g3635 g3636 f3637 => ?_)
            exact m_vret F hQ e_X7_advance_119 (⟨h3634, rfl⟩)
        · refine m_aload_n F rfl e_X7_advance_95 ?_
          refine t_callV F e_X7_advance_96 (s_X7_advanceNumber (x_l X) V G b M Z T _ _ a  h3629.1 hk  (by omega)) cb_X7_advanceNumber ml_X7_213 im_X7_advanceNumber se_X7_advanceNumber (fun _ => o3) h3629 hk rfl rfl (rest := []) rfl (Nat.le_of_ble_eq_true rfl) ⟨Nat.le_of_ble_eq_true rfl, Nat.le_of_ble_eq_true rfl⟩ ⟨Nat.le_of_ble_eq_true rfl, Nat.le_of_ble_eq_true rfl⟩ (fun r σ3638 hp => ?_)
          obtain ⟨h3640, rfl⟩ := hp
          have h3639 := HK.trans h3629 h3640 (by decide)
          refine m_goto F e_X7_advance_99 ?_
          exact m_vret F hQ e_X7_advance_119 (⟨h3639, rfl⟩)
      · refine m_aload_n F rfl e_X7_advance_80 ?_
        refine t_callV F e_X7_advance_81 (s_X7_advanceWord (x_l X) V G b M Z T _ _ a  h3629.1 hk  (by omega)) cb_X7_advanceWord ml_X7_210 im_X7_advanceWord se_X7_advanceWord (fun _ => o3) h3629 hk rfl rfl (rest := []) rfl (Nat.le_of_ble_eq_true rfl) ⟨Nat.le_of_ble_eq_true rfl, Nat.le_of_ble_eq_true rfl⟩ ⟨Nat.le_of_ble_eq_true rfl, Nat.le_of_ble_eq_true rfl⟩ (fun r σ3641 hp => ?_)
        obtain ⟨h3643, rfl⟩ := hp
        have h3642 := HK.trans h3629 h3643 (by decide)
        refine m_goto F e_X7_advance_84 ?_
        exact m_vret F hQ e_X7_advance_119 (⟨h3642, rfl⟩)
    · have c8 : nx < n3618 := by have hh := mt (nI_leI (a := n3618) (b := nx) (by omega) (by omega)).mpr q8; omega
      refine m_aload_n F rfl e_X7_advance_11 ?_
      refine t_get F e_X7_advance_12 fl_X7_19 (fun _ => o3) h1 hk rfl (fun v hv f3644 => ?_)
      obtain ⟨r3645, k3646, rfl⟩ := hv
      refine m_aload_n F rfl e_X7_advance_15 ?_
      refine t_getC F e_X7_advance_16 fl_X7_42 (fun _ => o3) h1 hk (hfnx) ?_
      refine t_bald F (len := 700) (j := nx) e_X7_advance_19 (fun _ => o2) h1 k3646 (nI_clamp (by omega)) (vp_in_nI (by omega) (by decide)) (fun x3647 => ?_)
      refine m_bipush F (v := 10) (by decide) e_X7_advance_20 ?_
      refine m_icmp_eq F e_X7_advance_22 (fun q22 => ?_) (fun q22 => ?_)
      · refine m_aload_n F rfl e_X7_advance_39 ?_
        refine m_dup F rfl e_X7_advance_40 ?_
        refine t_getC F e_X7_advance_41 fl_X7_42 (fun _ => o3) h1 hk (hfnx) ?_
        refine m_iconst F (v := 1) (by decide) e_X7_advance_44 ?_
        refine m_iadd F e_X7_advance_45 ?_
        refine Wm.topE (w := nI (nx + 1)) (nI_add nx 1) ?_
        refine t_put F e_X7_advance_46 fp_X7_42 (fun _ => o3) h1 hk rfl ⟨nx + 1, (show nx + 1 ≤ 700 by omega), rfl⟩ rfl rfl (by decide) (fun σ3648 h3649 g3650 g3651 f3652 => ?_)
        refine m_goto F e_X7_advance_49 ?_
        exact ih (nx + 1) _ h3649 ⟨(f3652), (by omega)⟩ (by omega)
      · refine m_aload_n F rfl e_X7_advance_25 ?_
        refine t_getC F e_X7_advance_26 fl_X7_19 (fun _ => o3) h1 hk (f3644) ?_
        refine m_aload_n F rfl e_X7_advance_29 ?_
        refine t_getC F e_X7_advance_30 fl_X7_42 (fun _ => o3) h1 hk (hfnx) ?_
        refine t_bald F (len := 700) (j := nx) e_X7_advance_33 (fun _ => o2) h1 k3646 (nI_clamp (by omega)) (vp_in_nI (by omega) (by decide)) (fun x3653 => ?_)
        refine m_bipush F (v := 32) (by decide) e_X7_advance_34 ?_
        refine m_icmp_ne F e_X7_advance_36 (fun q36 => ?_) (fun q36 => ?_)
        · refine m_aload_n F rfl e_X7_advance_52 ?_
          refine m_aload_n F rfl e_X7_advance_53 ?_
          refine t_getC F e_X7_advance_54 fl_X7_42 (fun _ => o3) h1 hk (hfnx) ?_
          refine t_put F e_X7_advance_57 fp_X7_188 (fun _ => o3) h1 hk rfl ⟨_, rfl⟩ rfl rfl (by decide) (fun σ3654 h3655 g3656 g3657 f3658 => ?_)
          refine m_aload_n F rfl e_X7_advance_60 ?_
          refine m_aload_n F rfl e_X7_advance_61 ?_
          refine m_aload_n F rfl e_X7_advance_62 ?_
          refine t_getC F e_X7_advance_63 fl_X7_42 (fun _ => o3) h3655 hk ((g3657 4 (by decide)).trans hfnx) ?_
          refine t_callV F e_X7_advance_66 (s_X7_tokenAt (x_l X) V G b M Z T _ _ a nx h3655.1 hk (by omega) (by omega)) cb_X7_tokenAt ml_X7_207 im_X7_tokenAt se_X7_tokenAt (fun _ => o3) h3655 hk rfl rfl (rest := [.ref a]) rfl (Nat.le_of_ble_eq_true rfl) ⟨Nat.le_of_ble_eq_true rfl, Nat.le_of_ble_eq_true rfl⟩ ⟨Nat.le_of_ble_eq_true rfl, Nat.le_of_ble_eq_true rfl⟩ (fun r σ3659 hp => ?_)
          obtain ⟨h3661, x3662, gx3662, rfl⟩ := hp
          have h3660 := HK.trans h3655 h3661 (by decide)
          refine t_put F e_X7_advance_69 fp_X7_61 (fun _ => o3) h3660 hk rfl ⟨_, rfl⟩ rfl rfl (by decide) (fun σ3663 h3664 g3665 g3666 f3667 => ?_)
          refine m_aload_n F rfl e_X7_advance_72 ?_
          refine t_getC F e_X7_advance_73 fl_X7_61 (fun _ => o3) h3664 hk (f3667) ?_
          refine m_iconst F (v := 1) (by decide) e_X7_advance_76 ?_
          refine m_icmp_ne F e_X7_advance_77 (fun q77 => ?_) (fun q77 => ?_)
          · refine m_aload_n F rfl e_X7_advance_87 ?_
            refine t_getC F e_X7_advance_88 fl_X7_61 (fun _ => o3) h3664 hk (f3667) ?_
            refine m_iconst F (v := 2) (by decide) e_X7_advance_91 ?_
            refine m_icmp_ne F e_X7_advance_92 (fun q92 => ?_) (fun q92 => ?_)
            · refine m_aload_n F rfl e_X7_advance_102 ?_
              refine t_getC F e_X7_advance_103 fl_X7_61 (fun _ => o3) h3664 hk (f3667) ?_
              refine m_if_eq F e_X7_advance_106 (fun q106 => ?_) (fun q106 => ?_)
              · exact m_vret F hQ e_X7_advance_119 (⟨h3664, rfl⟩)
              · have gz := gx3662 q106
                refine m_aload_n F rfl e_X7_advance_109 ?_
                refine m_dup F rfl e_X7_advance_110 ?_
                refine t_getC F e_X7_advance_111 fl_X7_42 (fun _ => o3) h3664 hk ((g3666 4 (by decide)).trans ((fld_eq (h3661.2 a (by rw [show kA _ a = 3 from hk]; decide))).trans ((g3657 4 (by decide)).trans hfnx))) ?_
                refine m_iconst F (v := 1) (by decide) e_X7_advance_114 ?_
                refine m_iadd F e_X7_advance_115 ?_
                refine Wm.topE (w := nI (nx + 1)) (nI_add nx 1) ?_
                refine t_put F e_X7_advance_116 fp_X7_42 (fun _ => o3) h3664 hk rfl ⟨nx + 1, (show nx + 1 ≤ 700 by omega), rfl⟩ rfl rfl (by decide) (fun σ3668 h3669 g3670 g3671 f3672 => ?_)
                exact m_vret F hQ e_X7_advance_119 (⟨h3669, rfl⟩)
            · refine m_aload_n F rfl e_X7_advance_95 ?_
              refine t_callV F e_X7_advance_96 (s_X7_advanceNumber (x_l X) V G b M Z T _ _ a  h3664.1 hk  (by omega)) cb_X7_advanceNumber ml_X7_213 im_X7_advanceNumber se_X7_advanceNumber (fun _ => o3) h3664 hk rfl rfl (rest := []) rfl (Nat.le_of_ble_eq_true rfl) ⟨Nat.le_of_ble_eq_true rfl, Nat.le_of_ble_eq_true rfl⟩ ⟨Nat.le_of_ble_eq_true rfl, Nat.le_of_ble_eq_true rfl⟩ (fun r σ3673 hp => ?_)
              obtain ⟨h3675, rfl⟩ := hp
              have h3674 := HK.trans h3664 h3675 (by decide)
              refine m_goto F e_X7_advance_99 ?_
              exact m_vret F hQ e_X7_advance_119 (⟨h3674, rfl⟩)
          · refine m_aload_n F rfl e_X7_advance_80 ?_
            refine t_callV F e_X7_advance_81 (s_X7_advanceWord (x_l X) V G b M Z T _ _ a  h3664.1 hk  (by omega)) cb_X7_advanceWord ml_X7_210 im_X7_advanceWord se_X7_advanceWord (fun _ => o3) h3664 hk rfl rfl (rest := []) rfl (Nat.le_of_ble_eq_true rfl) ⟨Nat.le_of_ble_eq_true rfl, Nat.le_of_ble_eq_true rfl⟩ ⟨Nat.le_of_ble_eq_true rfl, Nat.le_of_ble_eq_true rfl⟩ (fun r σ3676 hp => ?_)
            obtain ⟨h3678, rfl⟩ := hp
            have h3677 := HK.trans h3664 h3678 (by decide)
            refine m_goto F e_X7_advance_84 ?_
            exact m_vret F hQ e_X7_advance_119 (⟨h3677, rfl⟩)
        · refine m_aload_n F rfl e_X7_advance_39 ?_
          refine m_dup F rfl e_X7_advance_40 ?_
          refine t_getC F e_X7_advance_41 fl_X7_42 (fun _ => o3) h1 hk (hfnx) ?_
          refine m_iconst F (v := 1) (by decide) e_X7_advance_44 ?_
          refine m_iadd F e_X7_advance_45 ?_
          refine Wm.topE (w := nI (nx + 1)) (nI_add nx 1) ?_
          refine t_put F e_X7_advance_46 fp_X7_42 (fun _ => o3) h1 hk rfl ⟨nx + 1, (show nx + 1 ≤ 700 by omega), rfl⟩ rfl rfl (by decide) (fun σ3679 h3680 g3681 g3682 f3683 => ?_)
          refine m_goto F e_X7_advance_49 ?_
          exact ih (nx + 1) _ h3680 ⟨(f3683), (by omega)⟩ (by omega)
set_option maxRecDepth 20000 in
theorem s_X7_advance (l : Launch) (V : VX) (G : GH) (b M Z T N : Nat) (σ : Mem) (a : Nat) (h0 : HT V G (b, M, Z, T) σ) (hk : kA b a = 3) (hM : M + 0 ≤ 1000000000) : Ct l V yX7_advance cX7_advance 1 none 1 0 0 N σ [.ref a] (fun r τ => HK V G (b, M, Z, T) [0, 1, 2, 4, 5, 6, 7, 8, 9, 10, 11, 12, 13, 14, 15, 16, 17, 18, 19] σ τ ∧ r = none) := by
  refine Ct.of (by decide) (Nat.le_of_ble_eq_true rfl) [(0, .ref a)] rfl (fun X hX F hQ => ?_)
  have h1 : HK V G (b, M, Z, T) [0, 1, 2, 4, 5, 6, 7, 8, 9, 10, 11, 12, 13, 14, 15, 16, 17, 18, 19] σ σ := HK.start h0
  obtain ⟨v9, ⟨n3684, hn3684, rfl⟩, f3685⟩ := HK.f (j := 4) h1 (fun _ => o3) hk rfl
  replace hn3684 : n3684 ≤ 700 := hn3684
  exact lp_X7_advance_0 F hQ hk hM (700 - n3684 + 1) n3684 _ h1 ⟨(f3685), (by omega)⟩ (Nat.lt_succ_self _)
set_option maxRecDepth 20000 in
theorem s_X7_failAt (l : Launch) (V : VX) (G : GH) (b M Z T N : Nat) (σ : Mem) (a : Nat) (x901 : Int32) (x902 : Int32) (h0 : HT V G (b, M, Z, T) σ) (hk : kA b a = 3) (hp0 : x901 ≠ 0) (hM : M + 0 ≤ 1000000000) : Ct l V yX7_failAt cX7_failAt 3 none 0 0 0 N σ [.ref a, .int x901, .int x902] (fun r τ => HK V G (b, M, 0, T) [0, 1, 2, 4, 5, 6, 7, 8, 9, 10, 11, 12, 13, 14, 15, 16, 17, 18, 19] σ τ ∧ r = none) := by
  refine Ct.of (by decide) (Nat.le_of_ble_eq_true rfl) [(0, .ref a), (1, .int x901), (2, .int x902)] rfl (fun X hX F hQ => ?_)
  have h1 : HK V G (b, M, Z, T) [0, 1, 2, 4, 5, 6, 7, 8, 9, 10, 11, 12, 13, 14, 15, 16, 17, 18, 19] σ σ := HK.start h0
  refine m_aload_n F rfl e_X7_failAt_0 ?_
  refine t_get F e_X7_failAt_1 fl_X7_55 (fun _ => o3) h1 hk rfl (fun v hv f3686 => ?_)
  obtain ⟨x3687, hx3687, rfl⟩ := hv
  replace hx3687 : Z = 0 → x3687 ≠ 0 := hx3687
  refine m_if_ne F e_X7_failAt_4 (fun q4 => ?_) (fun q4 => ?_)
  · have h3688 := h1.z0 hk (f3686) q4
    exact m_vret F hQ e_X7_failAt_17 (⟨h3688, rfl⟩)
  · refine m_aload_n F rfl e_X7_failAt_7 ?_
    refine m_iload_n F rfl e_X7_failAt_8 ?_
    refine t_putF F e_X7_failAt_9 fp_X7_55 h1 hk (hp0) (by decide) (fun σ3689 h3690 g3691 g3692 f3693 => ?_)
    refine m_aload_n F rfl e_X7_failAt_12 ?_
    refine m_iload_n F rfl e_X7_failAt_13 ?_
    refine t_put F e_X7_failAt_14 fp_X7_15 (fun _ => o3) h3690 hk rfl ⟨_, rfl⟩ rfl rfl (by decide) (fun σ3694 h3695 g3696 g3697 f3698 => ?_)
    exact m_vret F hQ e_X7_failAt_17 (⟨h3695, rfl⟩)
set_option maxRecDepth 20000 in
theorem s_X7_fail (l : Launch) (V : VX) (G : GH) (b M Z T N : Nat) (σ : Mem) (a : Nat) (x901 : Int32) (h0 : HT V G (b, M, Z, T) σ) (hk : kA b a = 3) (hp0 : x901 ≠ 0) (hM : M + 0 ≤ 1000000000) : Ct l V yX7_fail cX7_fail 2 none 1 0 0 N σ [.ref a, .int x901] (fun r τ => HK V G (b, M, 0, T) [0, 1, 2, 4, 5, 6, 7, 8, 9, 10, 11, 12, 13, 14, 15, 16, 17, 18, 19] σ τ ∧ r = none) := by
  refine Ct.of (by decide) (Nat.le_of_ble_eq_true rfl) [(0, .ref a), (1, .int x901)] rfl (fun X hX F hQ => ?_)
  have h1 : HK V G (b, M, Z, T) [0, 1, 2, 4, 5, 6, 7, 8, 9, 10, 11, 12, 13, 14, 15, 16, 17, 18, 19] σ σ := HK.start h0
  refine m_aload_n F rfl e_X7_fail_0 ?_
  refine m_iload_n F rfl e_X7_fail_1 ?_
  refine m_aload_n F rfl e_X7_fail_2 ?_
  refine t_get F e_X7_fail_3 fl_X7_188 (fun _ => o3) h1 hk rfl (fun v hv f3699 => ?_)
  obtain ⟨x3700, rfl⟩ := hv
  refine t_callV F e_X7_fail_6 (s_X7_failAt (x_l X) V G b M Z T _ _ a x901 x3700 h1.1 hk (by first | omega | assumption | decide) (by omega)) cb_X7_failAt ml_X7_197 im_X7_failAt se_X7_failAt (fun _ => o3) h1 hk rfl rfl (rest := []) rfl (Nat.le_of_ble_eq_true rfl) ⟨Nat.le_of_ble_eq_true rfl, Nat.le_of_ble_eq_true rfl⟩ ⟨Nat.le_of_ble_eq_true rfl, Nat.le_of_ble_eq_true rfl⟩ (fun r σ3701 hp => ?_)
  obtain ⟨h3703, rfl⟩ := hp
  have h3702 := HK.trans h1 h3703 (by decide)
  exact m_vret F hQ e_X7_fail_9 (⟨h3702, rfl⟩)
set_option maxRecDepth 20000 in
theorem s_X7_startLine (l : Launch) (V : VX) (G : GH) (b M Z T N : Nat) (σ : Mem) (a : Nat) (x901 : Int32) (h0 : HT V G (b, M, Z, T) σ) (hk : kA b a = 3) (hM : M + 0 ≤ 1000000000) : Ct l V yX7_startLine cX7_startLine 2 none 2 0 0 N σ [.ref a, .int x901] (fun r τ => HK V G (b, M, Z, T) [0, 1, 2, 4, 5, 6, 7, 8, 9, 10, 11, 12, 13, 14, 15, 16, 17, 18, 19] σ τ ∧ r = none) := by
  refine Ct.of (by decide) (Nat.le_of_ble_eq_true rfl) [(0, .ref a), (1, .int x901)] rfl (fun X hX F hQ => ?_)
  have h1 : HK V G (b, M, Z, T) [0, 1, 2, 4, 5, 6, 7, 8, 9, 10, 11, 12, 13, 14, 15, 16, 17, 18, 19] σ σ := HK.start h0
  refine m_iload_n F rfl e_X7_startLine_0 ?_
  refine m_if_eq F e_X7_startLine_1 (fun q1 => ?_) (fun q1 => ?_)
  · refine m_aload_n F rfl e_X7_startLine_10 ?_
    refine t_callV F e_X7_startLine_11 (s_X7_advance (x_l X) V G b M Z T _ _ a  h1.1 hk  (by omega)) cb_X7_advance ml_X7_58 im_X7_advance se_X7_advance (fun _ => o3) h1 hk rfl rfl (rest := []) rfl (Nat.le_of_ble_eq_true rfl) ⟨Nat.le_of_ble_eq_true rfl, Nat.le_of_ble_eq_true rfl⟩ ⟨Nat.le_of_ble_eq_true rfl, Nat.le_of_ble_eq_true rfl⟩ (fun r σ3704 hp => ?_)
    obtain ⟨h3706, rfl⟩ := hp
    have h3705 := HK.trans h1 h3706 (by decide)
    exact m_vret F hQ e_X7_startLine_14 (⟨h3705, rfl⟩)
  · refine m_aload_n F rfl e_X7_startLine_4 ?_
    refine m_iload_n F rfl e_X7_startLine_5 ?_
    refine t_callV F e_X7_startLine_6 (s_X7_fail (x_l X) V G b M Z T _ _ a x901 h1.1 hk (by first | omega | assumption | decide) (by omega)) cb_X7_fail ml_X7_77 im_X7_fail se_X7_fail (fun _ => o3) h1 hk rfl rfl (rest := []) rfl (Nat.le_of_ble_eq_true rfl) ⟨Nat.le_of_ble_eq_true rfl, Nat.le_of_ble_eq_true rfl⟩ ⟨Nat.le_of_ble_eq_true rfl, Nat.le_of_ble_eq_true rfl⟩ (fun r σ3707 hp => ?_)
    obtain ⟨h3709, rfl⟩ := hp
    have h3708 := HK.trans h1 h3709 (by decide)
    exact m_vret F hQ e_X7_startLine_9 (⟨(h3708.mono (M' := M) (Z' := Z) (by omega) (by intro e; first | rfl | assumption | omega)), rfl⟩)
set_option maxRecDepth 20000 in
theorem s_X7_readStop (l : Launch) (V : VX) (G : GH) (b M Z T N : Nat) (σ : Mem) (a : Nat) (h0 : HT V G (b, M, Z, T) σ) (hk : kA b a = 3) (hM : M + 0 ≤ 1000000000) : Ct l V yX7_readStop cX7_readStop 1 none 2 0 0 N σ [.ref a] (fun r τ => HK V G (b, M, Z, T) [0, 1, 2, 4, 5, 6, 7, 8, 9, 10, 11, 12, 13, 14, 15, 16, 17, 18, 19] σ τ ∧ r = none) := by
  refine Ct.of (by decide) (Nat.le_of_ble_eq_true rfl) [(0, .ref a)] rfl (fun X hX F hQ => ?_)
  have h1 : HK V G (b, M, Z, T) [0, 1, 2, 4, 5, 6, 7, 8, 9, 10, 11, 12, 13, 14, 15, 16, 17, 18, 19] σ σ := HK.start h0
  refine m_aload_n F rfl e_X7_readStop_0 ?_
  refine t_get F e_X7_readStop_1 fl_X7_55 (fun _ => o3) h1 hk rfl (fun v hv f3710 => ?_)
  obtain ⟨x3711, hx3711, rfl⟩ := hv
  replace hx3711 : Z = 0 → x3711 ≠ 0 := hx3711
  refine m_if_eq F e_X7_readStop_4 (fun q4 => ?_) (fun q4 => ?_)
  · refine m_aload_n F rfl e_X7_readStop_8 ?_
    refine t_get F e_X7_readStop_9 fl_X7_61 (fun _ => o3) h1 hk rfl (fun v hv f3712 => ?_)
    obtain ⟨x3713, rfl⟩ := hv
    refine m_iconst F (v := 3) (by decide) e_X7_readStop_12 ?_
    refine m_icmp_eq F e_X7_readStop_13 (fun q13 => ?_) (fun q13 => ?_)
    · refine m_aload_n F rfl e_X7_readStop_22 ?_
      refine m_dup F rfl e_X7_readStop_23 ?_
      refine t_get F e_X7_readStop_24 fl_X7_52 (fun _ => o3) h1 hk rfl (fun v hv f3714 => ?_)
      obtain ⟨x3715, rfl⟩ := hv
      refine m_iconst F (v := 1) (by decide) e_X7_readStop_27 ?_
      refine m_iadd F e_X7_readStop_28 ?_
      refine Wm.top (fun x3716 _ => ?_)
      refine t_put F e_X7_readStop_29 fp_X7_52 (fun _ => o3) h1 hk rfl ⟨_, rfl⟩ rfl rfl (by decide) (fun σ3717 h3718 g3719 g3720 f3721 => ?_)
      refine m_aload_n F rfl e_X7_readStop_32 ?_
      refine t_callV F e_X7_readStop_33 (s_X7_advance (x_l X) V G b M Z T _ _ a  h3718.1 hk  (by omega)) cb_X7_advance ml_X7_58 im_X7_advance se_X7_advance (fun _ => o3) h3718 hk rfl rfl (rest := []) rfl (Nat.le_of_ble_eq_true rfl) ⟨Nat.le_of_ble_eq_true rfl, Nat.le_of_ble_eq_true rfl⟩ ⟨Nat.le_of_ble_eq_true rfl, Nat.le_of_ble_eq_true rfl⟩ (fun r σ3722 hp => ?_)
      obtain ⟨h3724, rfl⟩ := hp
      have h3723 := HK.trans h3718 h3724 (by decide)
      exact m_vret F hQ e_X7_readStop_36 (⟨h3723, rfl⟩)
    · refine m_aload_n F rfl e_X7_readStop_16 ?_
      refine m_iconst F (v := 1) (by decide) e_X7_readStop_17 ?_
      refine t_callV F e_X7_readStop_18 (s_X7_fail (x_l X) V G b M Z T _ _ a 1 h1.1 hk (by first | omega | assumption | decide) (by omega)) cb_X7_fail ml_X7_77 im_X7_fail se_X7_fail (fun _ => o3) h1 hk rfl rfl (rest := []) rfl (Nat.le_of_ble_eq_true rfl) ⟨Nat.le_of_ble_eq_true rfl, Nat.le_of_ble_eq_true rfl⟩ ⟨Nat.le_of_ble_eq_true rfl, Nat.le_of_ble_eq_true rfl⟩ (fun r σ3725 hp => ?_)
      obtain ⟨h3727, rfl⟩ := hp
      have h3726 := HK.trans h1 h3727 (by decide)
      exact m_vret F hQ e_X7_readStop_21 (⟨(h3726.mono (M' := M) (Z' := Z) (by omega) (by intro e; first | rfl | assumption | omega)), rfl⟩)
  · exact m_vret F hQ e_X7_readStop_7 (⟨h1, rfl⟩)
