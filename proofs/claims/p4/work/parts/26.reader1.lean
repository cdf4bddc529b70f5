set_option maxRecDepth 20000 in
theorem s_X7_begin (l : Launch) (V : VX) (b M Z T N : Nat) (σ : Mem) (a : Nat) (n901 : Nat) (r902 : Nat) (h0 : HT V (b, M, Z, T) σ) (hk : kA b a = 3) (hn901 : n901 ≤ 700) (k902 : kA b r902 = 7) (hM : M + 0 ≤ 1000000000) : Ct l V yX7_begin cX7_begin 3 none 1 0 0 N σ [.ref a, .int (nI n901), .ref r902] (fun r τ => HK V (b, M, 1, T) [0, 1, 2, 5, 6, 7, 8, 9, 10, 11, 12, 13, 14, 15, 16, 17, 18, 19] σ τ ∧ r = none) := by
  refine Ct.of (by decide) (Nat.le_of_ble_eq_true rfl) [(0, .ref a), (1, .int (nI n901)), (2, .ref r902)] rfl (fun X hX F hQ => ?_)
  have h1 : HK V (b, M, Z, T) [0, 1, 2, 5, 6, 7, 8, 9, 10, 11, 12, 13, 14, 15, 16, 17, 18, 19] σ σ := HK.start h0
  have h2 := h1.mono (M' := M) (Z' := 1) (Nat.le_refl _) (fun e => absurd e (by decide))
  refine m_aload_n F rfl e_X7_begin_0 ?_
  refine m_iload_n F rfl e_X7_begin_1 ?_
  refine m_aload_n F rfl e_X7_begin_2 ?_
  refine t_get F e_X7_begin_3 fl_X7_19 (fun _ => o3) h2 hk rfl (fun v hv f3386 => ?_)
  obtain ⟨r3387, k3388, rfl⟩ := hv
  refine t_alenB F (len := 700) e_X7_begin_6 (fun _ => o2) h2 k3388 (v := 700) (by decide) ?_
  refine m_min F e_X7_begin_7 ml_X7_27 sm_min ini_math co_min (Nat.le_of_ble_eq_true rfl) (Nat.le_of_ble_eq_true rfl) (Nat.le_of_ble_eq_true rfl) (Nat.le_of_ble_eq_true rfl) ?_
  refine Wm.topE (w := nI (min n901 700)) (minN (a := n901) (b := 700) (by omega) (by omega)) ?_
  refine t_put F e_X7_begin_10 fp_X7_33 (fun _ => o3) h2 hk rfl ⟨min n901 700, (show min n901 700 ≤ 700 by omega), rfl⟩ rfl rfl (by decide) (fun σ3389 h3390 g3391 g3392 f3393 => ?_)
  refine m_aload_n F rfl e_X7_begin_13 ?_
  refine m_aload_n F rfl e_X7_begin_14 ?_
  refine t_put F e_X7_begin_15 fp_X7_23 (fun _ => o3) h3390 hk rfl ⟨_, k902, rfl⟩ rfl rfl (by decide) (fun σ3394 h3395 g3396 g3397 f3398 => ?_)
  refine m_aload_n F rfl e_X7_begin_18 ?_
  refine t_get F e_X7_begin_19 fl_X7_9 (fun _ => o3) h3395 hk rfl (fun v hv f3399 => ?_)
  obtain ⟨r3400, k3401, rfl⟩ := hv
  refine m_iconst F (v := 0) (by decide) e_X7_begin_22 ?_
  refine m_callS F e_X7_begin_23 (s_J7_fill_53178_4 (x_l X) V b M 1 T _ _ r3400 0 h3395.1 k3401 (by omega)) cb_J7_fill_53178 ml_X7_36 sm_J7_fill_53178 rfl (rest := []) rfl (Nat.le_of_ble_eq_true rfl) ⟨Nat.le_of_ble_eq_true rfl, Nat.le_of_ble_eq_true rfl⟩ ⟨Nat.le_of_ble_eq_true rfl, Nat.le_of_ble_eq_true rfl⟩ (k' := 0) (z' := 0) (N' := N) rfl rfl rfl (fun r σ3402 hp => ?_)
  obtain ⟨h3404, rfl⟩ := hp
  have h3403 := HK.trans h3395 h3404 (by decide)
  refine m_aload_n F rfl e_X7_begin_26 ?_
  refine m_iconst F (v := 0) (by decide) e_X7_begin_27 ?_
  refine t_put F e_X7_begin_28 fp_X7_42 (fun _ => o3) h3403 hk rfl ⟨0, (show 0 ≤ 700 by omega), rfl⟩ rfl rfl (by decide) (fun σ3405 h3406 g3407 g3408 f3409 => ?_)
  refine m_aload_n F rfl e_X7_begin_31 ?_
  refine m_iconst F (v := 0) (by decide) e_X7_begin_32 ?_
  refine t_put F e_X7_begin_33 fp_X7_45 (fun _ => o3) h3406 hk rfl ⟨_, rfl⟩ rfl rfl (by decide) (fun σ3410 h3411 g3412 g3413 f3414 => ?_)
  refine m_aload_n F rfl e_X7_begin_36 ?_
  refine m_iconst F (v := 0) (by decide) e_X7_begin_37 ?_
  refine t_put F e_X7_begin_38 fp_X7_48 (fun _ => o3) h3411 hk rfl ⟨0, (show 0 ≤ 1 by omega), rfl⟩ (by decide) rfl (by decide) (fun σ3415 h3416 g3417 g3418 f3419 => ?_)
  refine m_aload_n F rfl e_X7_begin_41 ?_
  refine m_iconst F (v := 0) (by decide) e_X7_begin_42 ?_
  refine t_put F e_X7_begin_43 fp_X7_52 (fun _ => o3) h3416 hk rfl ⟨_, rfl⟩ rfl rfl (by decide) (fun σ3420 h3421 g3422 g3423 f3424 => ?_)
  refine m_aload_n F rfl e_X7_begin_46 ?_
  refine m_iconst F (v := 0) (by decide) e_X7_begin_47 ?_
  refine t_put F e_X7_begin_48 fp_X7_55 (fun _ => o3) h3421 hk rfl ⟨_, (fun e => absurd e (show ¬ (1 : Nat) = 0 by decide)), rfl⟩ rfl rfl (by decide) (fun σ3425 h3426 g3427 g3428 f3429 => ?_)
  refine m_aload_n F rfl e_X7_begin_51 ?_
  refine m_iconst F (v := (-1)) (by decide) e_X7_begin_52 ?_
  refine t_put F e_X7_begin_53 fp_X7_15 (fun _ => o3) h3426 hk rfl ⟨_, rfl⟩ rfl rfl (by decide) (fun σ3430 h3431 g3432 g3433 f3434 => ?_)
  exact m_vret F hQ e_X7_begin_56 (⟨h3431, rfl⟩)
set_option maxRecDepth 20000 in
theorem s_X7_tokenAt (l : Launch) (V : VX) (b M Z T N : Nat) (σ : Mem) (a : Nat) (n901 : Nat) (h0 : HT V (b, M, Z, T) σ) (hk : kA b a = 3) (hn901 : n901 ≤ 700) (hM : M + 0 ≤ 1000000000) : Ct l V yX7_tokenAt cX7_tokenAt 3 (some .int) 0 0 0 N σ [.ref a, .int (nI n901)] (fun r τ => HK V (b, M, Z, T) [0, 1, 2, 3, 4, 5, 6, 7, 8, 9, 10, 11, 12, 13, 14, 15, 16, 17, 18, 19] σ τ ∧ ∃ x : Int32, (x ≠ 0 → n901 < 700) ∧ r = some (.int x)) := by
  refine Ct.of (by decide) (Nat.le_of_ble_eq_true rfl) [(0, .ref a), (1, .int (nI n901))] rfl (fun X hX F hQ => ?_)
  have h1 : HK V (b, M, Z, T) [0, 1, 2, 3, 4, 5, 6, 7, 8, 9, 10, 11, 12, 13, 14, 15, 16, 17, 18, 19] σ σ := HK.start h0
  refine m_iload_n F rfl e_X7_tokenAt_0 ?_
  refine m_if_lt F e_X7_tokenAt_1 (fun q1 => ?_) (fun q1 => ?_)
  · have c1 : n901 < 0 := (nI_ltI (a := n901) (b := 0) (by omega) (by omega)).mp q1
    refine m_iconst F (v := 0) (by decide) e_X7_tokenAt_12 ?_
    exact m_iret F hQ e_X7_tokenAt_13 (⟨h1, 0, (by first | (intro _; omega) | (intro e; exact absurd rfl e)), rfl⟩)
  · have c1 : n901 ≥ 0 := by have hh := mt (nI_ltI (a := n901) (b := 0) (by omega) (by omega)).mpr q1; omega
    refine m_iload_n F rfl e_X7_tokenAt_4 ?_
    refine m_aload_n F rfl e_X7_tokenAt_5 ?_
    refine t_get F e_X7_tokenAt_6 fl_X7_33 (fun _ => o3) h1 hk rfl (fun v hv f3435 => ?_)
    obtain ⟨n3436, hn3436, rfl⟩ := hv
    replace hn3436 : n3436 ≤ 700 := hn3436
    refine m_icmp_lt F e_X7_tokenAt_9 (fun q9 => ?_) (fun q9 => ?_)
    · have c9 : n901 < n3436 := (nI_ltI (a := n901) (b := n3436) (by omega) (by omega)).mp q9
      refine m_aload_n F rfl e_X7_tokenAt_14 ?_
      refine t_get F e_X7_tokenAt_15 fl_X7_19 (fun _ => o3) h1 hk rfl (fun v hv f3437 => ?_)
      obtain ⟨r3438, k3439, rfl⟩ := hv
      refine m_iload_n F rfl e_X7_tokenAt_18 ?_
      refine t_bald F (len := 700) (j := n901) e_X7_tokenAt_19 (fun _ => o2) h1 k3439 (nI_clamp (by omega)) (vp_in_nI (by omega) (by decide)) (fun x3440 => ?_)
      refine m_istore_n F (lv' := [(2, .int x3440), (0, .ref a), (1, .int (nI n901))]) e_X7_tokenAt_20 (by decide) rfl ?_
      refine m_iload_n F rfl e_X7_tokenAt_21 ?_
      refine m_bipush F (v := 97) (by decide) e_X7_tokenAt_22 ?_
      refine m_icmp_lt F e_X7_tokenAt_24 (fun q24 => ?_) (fun q24 => ?_)
      · refine m_iload_n F rfl e_X7_tokenAt_35 ?_
        refine m_bipush F (v := 48) (by decide) e_X7_tokenAt_36 ?_
        refine m_icmp_lt F e_X7_tokenAt_38 (fun q38 => ?_) (fun q38 => ?_)
        · refine m_iload_n F rfl e_X7_tokenAt_49 ?_
          refine m_bipush F (v := 59) (by decide) e_X7_tokenAt_50 ?_
          refine m_icmp_ne F e_X7_tokenAt_52 (fun q52 => ?_) (fun q52 => ?_)
          · refine m_iconst F (v := 4) (by decide) e_X7_tokenAt_59 ?_
            exact m_iret F hQ e_X7_tokenAt_60 (⟨h1, 4, (by first | (intro _; omega) | (intro e; exact absurd rfl e)), rfl⟩)
          · refine m_iconst F (v := 3) (by decide) e_X7_tokenAt_55 ?_
            refine m_goto F e_X7_tokenAt_56 ?_
            exact m_iret F hQ e_X7_tokenAt_60 (⟨h1, 3, (by first | (intro _; omega) | (intro e; exact absurd rfl e)), rfl⟩)
        · obtain ⟨n3441, hn3441, rfl⟩ := nI_nn (x := x3440) (fun e => q38 (Int32.lt_of_lt_of_le e (by decide)))
          have c38 : n3441 ≥ 48 := by have hh := mt (nI_ltI (a := n3441) (b := 48) (by omega) (by omega)).mpr q38; omega
          refine m_iload_n F rfl e_X7_tokenAt_41 ?_
          refine m_bipush F (v := 57) (by decide) e_X7_tokenAt_42 ?_
          refine m_icmp_gt F e_X7_tokenAt_44 (fun q44 => ?_) (fun q44 => ?_)
          · have c44 : n3441 > 57 := (nI_ltI (a := 57) (b := n3441) (by omega) (by omega)).mp q44
            refine m_iload_n F rfl e_X7_tokenAt_49 ?_
            refine m_bipush F (v := 59) (by decide) e_X7_tokenAt_50 ?_
            refine m_icmp_ne F e_X7_tokenAt_52 (fun q52 => ?_) (fun q52 => ?_)
            · have c52 : n3441 ≠ 59 := by have hh := mt (nI_eq (a := n3441) (b := 59) (by omega) (by omega)).mpr q52; omega
              refine m_iconst F (v := 4) (by decide) e_X7_tokenAt_59 ?_
              exact m_iret F hQ e_X7_tokenAt_60 (⟨h1, 4, (by first | (intro _; omega) | (intro e; exact absurd rfl e)), rfl⟩)
            · have c52 : n3441 = 59 := (nI_eq (a := n3441) (b := 59) (by omega) (by omega)).mp q52
              refine m_iconst F (v := 3) (by decide) e_X7_tokenAt_55 ?_
              refine m_goto F e_X7_tokenAt_56 ?_
              exact m_iret F hQ e_X7_tokenAt_60 (⟨h1, 3, (by first | (intro _; omega) | (intro e; exact absurd rfl e)), rfl⟩)
          · have c44 : n3441 ≤ 57 := by have hh := mt (nI_ltI (a := 57) (b := n3441) (by omega) (by omega)).mpr q44; omega
            refine m_iconst F (v := 2) (by decide) e_X7_tokenAt_47 ?_
            exact m_iret F hQ e_X7_tokenAt_48 (⟨h1, 2, (by first | (intro _; omega) | (intro e; exact absurd rfl e)), rfl⟩)
      · obtain ⟨n3442, hn3442, rfl⟩ := nI_nn (x := x3440) (fun e => q24 (Int32.lt_of_lt_of_le e (by decide)))
        have c24 : n3442 ≥ 97 := by have hh := mt (nI_ltI (a := n3442) (b := 97) (by omega) (by omega)).mpr q24; omega
        refine m_iload_n F rfl e_X7_tokenAt_27 ?_
        refine m_bipush F (v := 122) (by decide) e_X7_tokenAt_28 ?_
        refine m_icmp_gt F e_X7_tokenAt_30 (fun q30 => ?_) (fun q30 => ?_)
        · have c30 : n3442 > 122 := (nI_ltI (a := 122) (b := n3442) (by omega) (by omega)).mp q30
          refine m_iload_n F rfl e_X7_tokenAt_35 ?_
          refine m_bipush F (v := 48) (by decide) e_X7_tokenAt_36 ?_
          refine m_icmp_lt F e_X7_tokenAt_38 (fun q38 => ?_) (fun q38 => ?_)
          · have c38 : n3442 < 48 := (nI_ltI (a := n3442) (b := 48) (by omega) (by omega)).mp q38
            refine m_iload_n F rfl e_X7_tokenAt_49 ?_
            refine m_bipush F (v := 59) (by decide) e_X7_tokenAt_50 ?_
            refine m_icmp_ne F e_X7_tokenAt_52 (fun q52 => ?_) (fun q52 => ?_)
            · have c52 : n3442 ≠ 59 := by have hh := mt (nI_eq (a := n3442) (b := 59) (by omega) (by omega)).mpr q52; omega
              refine m_iconst F (v := 4) (by decide) e_X7_tokenAt_59 ?_
              exact m_iret F hQ e_X7_tokenAt_60 (⟨h1, 4, (by first | (intro _; omega) | (intro e; exact absurd rfl e)), rfl⟩)
            · have c52 : n3442 = 59 := (nI_eq (a := n3442) (b := 59) (by omega) (by omega)).mp q52
              refine m_iconst F (v := 3) (by decide) e_X7_tokenAt_55 ?_
              refine m_goto F e_X7_tokenAt_56 ?_
              exact m_iret F hQ e_X7_tokenAt_60 (⟨h1, 3, (by first | (intro _; omega) | (intro e; exact absurd rfl e)), rfl⟩)
          · have c38 : n3442 ≥ 48 := by have hh := mt (nI_ltI (a := n3442) (b := 48) (by omega) (by omega)).mpr q38; omega
            refine m_iload_n F rfl e_X7_tokenAt_41 ?_
            refine m_bipush F (v := 57) (by decide) e_X7_tokenAt_42 ?_
            refine m_icmp_gt F e_X7_tokenAt_44 (fun q44 => ?_) (fun q44 => ?_)
            · have c44 : n3442 > 57 := (nI_ltI (a := 57) (b := n3442) (by omega) (by omega)).mp q44
              refine m_iload_n F rfl e_X7_tokenAt_49 ?_
              refine m_bipush F (v := 59) (by decide) e_X7_tokenAt_50 ?_
              refine m_icmp_ne F e_X7_tokenAt_52 (fun q52 => ?_) (fun q52 => ?_)
              · have c52 : n3442 ≠ 59 := by have hh := mt (nI_eq (a := n3442) (b := 59) (by omega) (by omega)).mpr q52; omega
                refine m_iconst F (v := 4) (by decide) e_X7_tokenAt_59 ?_
                exact m_iret F hQ e_X7_tokenAt_60 (⟨h1, 4, (by first | (intro _; omega) | (intro e; exact absurd rfl e)), rfl⟩)
              · have c52 : n3442 = 59 := (nI_eq (a := n3442) (b := 59) (by omega) (by omega)).mp q52
                refine m_iconst F (v := 3) (by decide) e_X7_tokenAt_55 ?_
                refine m_goto F e_X7_tokenAt_56 ?_
                exact m_iret F hQ e_X7_tokenAt_60 (⟨h1, 3, (by first | (intro _; omega) | (intro e; exact absurd rfl e)), rfl⟩)
            · have c44 : n3442 ≤ 57 := by have hh := mt (nI_ltI (a := 57) (b := n3442) (by omega) (by omega)).mpr q44; omega
              refine m_iconst F (v := 2) (by decide) e_X7_tokenAt_47 ?_
              exact m_iret F hQ e_X7_tokenAt_48 (⟨h1, 2, (by first | (intro _; omega) | (intro e; exact absurd rfl e)), rfl⟩)
        · have c30 : n3442 ≤ 122 := by have hh := mt (nI_ltI (a := 122) (b := n3442) (by omega) (by omega)).mpr q30; omega
          refine m_iconst F (v := 1) (by decide) e_X7_tokenAt_33 ?_
          exact m_iret F hQ e_X7_tokenAt_34 (⟨h1, 1, (by first | (intro _; omega) | (intro e; exact absurd rfl e)), rfl⟩)
    · have c9 : n901 ≥ n3436 := by have hh := mt (nI_ltI (a := n901) (b := n3436) (by omega) (by omega)).mpr q9; omega
      refine m_iconst F (v := 0) (by decide) e_X7_tokenAt_12 ?_
      exact m_iret F hQ e_X7_tokenAt_13 (⟨h1, 0, (by first | (intro _; omega) | (intro e; exact absurd rfl e)), rfl⟩)
set_option maxRecDepth 20000 in
theorem lp_X7_advanceNumber_5 {V : VX} {X : MX} {b M Z T N : Nat} {σ : Mem} {a : Nat}   (F : Fx V X yX7_advanceNumber cX7_advanceNumber 1 none (rmd 0 0 0)) (hQ : Rt V X 0 0 N (fun r τ => HK V (b, M, Z, T) [0, 1, 2, 4, 5, 6, 7, 8, 9, 10, 11, 12, 13, 14, 15, 16, 17, 18, 19] σ τ ∧ r = none)) (hk : kA b a = 3) (hM : M + 0 ≤ 1000000000)  : ∀ (fuel : Nat) (nx : Nat) (τ : Mem), HK V (b, M, Z, T) [0, 1, 2, 4, 5, 6, 7, 8, 9, 10, 11, 12, 13, 14, 15, 16, 17, 18, 19] σ τ → fld τ a 4 = some (.int (nI nx)) ∧ nx ≤ 700 → 700 - nx < fuel → Wm V X 1 N τ 0 0 5 [(0, .ref a)] [] := by
  intro fuel
  induction fuel with
  | zero => intro nx τ h1 hi hm; exact absurd hm (Nat.not_lt_zero _)
  | succ fuel ih =>
    intro nx τ h1 hi hm
    obtain ⟨hfnx, hi⟩ := hi
    refine m_aload_n F rfl e_X7_advanceNumber_5 ?_
    refine t_getC F e_X7_advanceNumber_6 fl_X7_42 (fun _ => o3) h1 hk (hfnx) ?_
    refine m_aload_n F rfl e_X7_advanceNumber_9 ?_
    refine t_get F e_X7_advanceNumber_10 fl_X7_33 (fun _ => o3) h1 hk rfl (fun v hv f3443 => ?_)
    obtain ⟨n3444, hn3444, rfl⟩ := hv
    replace hn3444 : n3444 ≤ 700 := hn3444
    refine m_icmp_ge F e_X7_advanceNumber_13 (fun q13 => ?_) (fun q13 => ?_)
    · have c13 : nx ≥ n3444 := (nI_leI (a := n3444) (b := nx) (by omega) (by omega)).mp q13
      exact m_vret F hQ e_X7_advanceNumber_95 (⟨h1, rfl⟩)
    · have c13 : nx < n3444 := by have hh := mt (nI_leI (a := n3444) (b := nx) (by omega) (by omega)).mpr q13; omega
      refine m_aload_n F rfl e_X7_advanceNumber_16 ?_
      refine t_get F e_X7_advanceNumber_17 fl_X7_19 (fun _ => o3) h1 hk rfl (fun v hv f3445 => ?_)
      obtain ⟨r3446, k3447, rfl⟩ := hv
      refine m_aload_n F rfl e_X7_advanceNumber_20 ?_
      refine t_getC F e_X7_advanceNumber_21 fl_X7_42 (fun _ => o3) h1 hk (hfnx) ?_
      refine t_bald F (len := 700) (j := nx) e_X7_advanceNumber_24 (fun _ => o2) h1 k3447 (nI_clamp (by omega)) (vp_in_nI (by omega) (by decide)) (fun x3448 => ?_)
      refine m_bipush F (v := 48) (by decide) e_X7_advanceNumber_25 ?_
      refine m_icmp_lt F e_X7_advanceNumber_27 (fun q27 => ?_) (fun q27 => ?_)
      · exact m_vret F hQ e_X7_advanceNumber_95 (⟨h1, rfl⟩)
      · obtain ⟨n3449, hn3449, rfl⟩ := nI_nn (x := x3448) (fun e => q27 (Int32.lt_of_lt_of_le e (by decide)))
        have c27 : n3449 ≥ 48 := by have hh := mt (nI_ltI (a := n3449) (b := 48) (by omega) (by omega)).mpr q27; omega
        refine m_aload_n F rfl e_X7_advanceNumber_30 ?_
        refine t_getC F e_X7_advanceNumber_31 fl_X7_19 (fun _ => o3) h1 hk (f3445) ?_
        refine m_aload_n F rfl e_X7_advanceNumber_34 ?_
        refine t_getC F e_X7_advanceNumber_35 fl_X7_42 (fun _ => o3) h1 hk (hfnx) ?_
        refine t_bald F (len := 700) (j := nx) e_X7_advanceNumber_38 (fun _ => o2) h1 k3447 (nI_clamp (by omega)) (vp_in_nI (by omega) (by decide)) (fun x3450 => ?_)
        refine m_bipush F (v := 57) (by decide) e_X7_advanceNumber_39 ?_
        refine m_icmp_gt F e_X7_advanceNumber_41 (fun q41 => ?_) (fun q41 => ?_)
        · obtain ⟨n3451, hn3451, rfl⟩ := nI_nn (x := x3450) (fun e => Int32.lt_irrefl (Int32.lt_trans e (Int32.lt_of_le_of_lt (by decide) q41)))
          have c41 : n3451 > 57 := (nI_ltI (a := 57) (b := n3451) (by omega) (by omega)).mp q41
          exact m_vret F hQ e_X7_advanceNumber_95 (⟨h1, rfl⟩)
        · refine m_aload_n F rfl e_X7_advanceNumber_44 ?_
          refine m_aload_n F rfl e_X7_advanceNumber_45 ?_
          refine t_get F e_X7_advanceNumber_46 fl_X7_70 (fun _ => o3) h1 hk rfl (fun v hv f3452 => ?_)
          obtain ⟨x3453, rfl⟩ := hv
          refine m_ldc F kc_X7_216 e_X7_advanceNumber_49 ?_
          refine m_icmp_lt F e_X7_advanceNumber_51 (fun q51 => ?_) (fun q51 => ?_)
          · refine m_aload_n F rfl e_X7_advanceNumber_59 ?_
            refine t_getC F e_X7_advanceNumber_60 fl_X7_70 (fun _ => o3) h1 hk (f3452) ?_
            refine m_bipush F (v := 10) (by decide) e_X7_advanceNumber_63 ?_
            refine m_imul F e_X7_advanceNumber_65 ?_
            refine Wm.top (fun x3454 _ => ?_)
            refine m_aload_n F rfl e_X7_advanceNumber_66 ?_
            refine t_getC F e_X7_advanceNumber_67 fl_X7_19 (fun _ => o3) h1 hk (f3445) ?_
            refine m_aload_n F rfl e_X7_advanceNumber_70 ?_
            refine t_getC F e_X7_advanceNumber_71 fl_X7_42 (fun _ => o3) h1 hk (hfnx) ?_
            refine t_bald F (len := 700) (j := nx) e_X7_advanceNumber_74 (fun _ => o2) h1 k3447 (nI_clamp (by omega)) (vp_in_nI (by omega) (by decide)) (fun x3455 => ?_)
            refine m_iadd F e_X7_advanceNumber_75 ?_
            refine Wm.top (fun x3456 _ => ?_)
            refine m_bipush F (v := 48) (by decide) e_X7_advanceNumber_76 ?_
            refine m_isub F e_X7_advanceNumber_78 ?_
            refine Wm.top (fun x3457 _ => ?_)
            refine t_put F e_X7_advanceNumber_79 fp_X7_70 (fun _ => o3) h1 hk rfl ⟨_, rfl⟩ rfl rfl (by decide) (fun σ3458 h3459 g3460 g3461 f3462 => ?_)
            refine m_aload_n F rfl e_X7_advanceNumber_82 ?_
            refine m_dup F rfl e_X7_advanceNumber_83 ?_
            refine t_getC F e_X7_advanceNumber_84 fl_X7_42 (fun _ => o3) h3459 hk ((g3461 4 (by decide)).trans hfnx) ?_
            refine m_iconst F (v := 1) (by decide) e_X7_advanceNumber_87 ?_
            refine m_iadd F e_X7_advanceNumber_88 ?_
            refine Wm.topE (w := nI (nx + 1)) (nI_add nx 1) ?_
            refine t_put F e_X7_advanceNumber_89 fp_X7_42 (fun _ => o3) h3459 hk rfl ⟨nx + 1, (show nx + 1 ≤ 700 by omega), rfl⟩ rfl rfl (by decide) (fun σ3463 h3464 g3465 g3466 f3467 => ?_)
            refine m_goto F e_X7_advanceNumber_92 ?_
            exact ih (nx + 1) _ h3464 ⟨(f3467), (by omega)⟩ (by omega)
          · obtain ⟨n3468, hn3468, rfl⟩ := nI_nn (x := x3453) (fun e => q51 (Int32.lt_of_lt_of_le e (by decide)))
            have c51 : n3468 ≥ 100000000 := by have hh := mt (nI_ltI (a := n3468) (b := 100000000) (by omega) (by omega)).mpr q51; omega
            refine m_ldc F kc_X7_216 e_X7_advanceNumber_54 ?_
            refine m_goto F e_X7_advanceNumber_56 ?_
            refine t_put F e_X7_advanceNumber_79 fp_X7_70 (fun _ => o3) h1 hk rfl ⟨_, rfl⟩ rfl rfl (by decide) (fun σ3469 h3470 g3471 g3472 f3473 => ?_)
            refine m_aload_n F rfl e_X7_advanceNumber_82 ?_
            refine m_dup F rfl e_X7_advanceNumber_83 ?_
            refine t_getC F e_X7_advanceNumber_84 fl_X7_42 (fun _ => o3) h3470 hk ((g3472 4 (by decide)).trans hfnx) ?_
            refine m_iconst F (v := 1) (by decide) e_X7_advanceNumber_87 ?_
            refine m_iadd F e_X7_advanceNumber_88 ?_
            refine Wm.topE (w := nI (nx + 1)) (nI_add nx 1) ?_
            refine t_put F e_X7_advanceNumber_89 fp_X7_42 (fun _ => o3) h3470 hk rfl ⟨nx + 1, (show nx + 1 ≤ 700 by omega), rfl⟩ rfl rfl (by decide) (fun σ3474 h3475 g3476 g3477 f3478 => ?_)
            refine m_goto F e_X7_advanceNumber_92 ?_
            exact ih (nx + 1) _ h3475 ⟨(f3478), (by omega)⟩ (by omega)
set_option maxRecDepth 20000 in
theorem s_X7_advanceNumber (l : Launch) (V : VX) (b M Z T N : Nat) (σ : Mem) (a : Nat) (h0 : HT V (b, M, Z, T) σ) (hk : kA b a = 3) (hM : M + 0 ≤ 1000000000) : Ct l V yX7_advanceNumber cX7_advanceNumber 1 none 0 0 0 N σ [.ref a] (fun r τ => HK V (b, M, Z, T) [0, 1, 2, 4, 5, 6, 7, 8, 9, 10, 11, 12, 13, 14, 15, 16, 17, 18, 19] σ τ ∧ r = none) := by
  refine Ct.of (by decide) (Nat.le_of_ble_eq_true rfl) [(0, .ref a)] rfl (fun X hX F hQ => ?_)
  have h1 : HK V (b, M, Z, T) [0, 1, 2, 4, 5, 6, 7, 8, 9, 10, 11, 12, 13, 14, 15, 16, 17, 18, 19] σ σ := HK.start h0
  refine m_aload_n F rfl e_X7_advanceNumber_0 ?_
  refine m_iconst F (v := 0) (by decide) e_X7_advanceNumber_1 ?_
  refine t_put F e_X7_advanceNumber_2 fp_X7_70 (fun _ => o3) h1 hk rfl ⟨_, rfl⟩ rfl rfl (by decide) (fun σ3479 h3480 g3481 g3482 f3483 => ?_)
  obtain ⟨v9, ⟨n3484, hn3484, rfl⟩, f3485⟩ := HK.f (j := 4) h3480 (fun _ => o3) hk rfl
  replace hn3484 : n3484 ≤ 700 := hn3484
  exact lp_X7_advanceNumber_5 F hQ hk hM (700 - n3484 + 1) n3484 _ h3480 ⟨(f3485), (by omega)⟩ (Nat.lt_succ_self _)
set_option maxRecDepth 20000 in
theorem lp_X7_advanceWord_111 {V : VX} {X : MX} {b M Z T N : Nat} {σ : Mem} {a : Nat}   (F : Fx V X yX7_advanceWord cX7_advanceWord 2 none (rmd 0 0 0)) (hQ : Rt V X 0 0 N (fun r τ => HK V (b, M, Z, T) [0, 1, 2, 4, 5, 6, 7, 8, 9, 10, 11, 12, 13, 14, 15, 16, 17, 18, 19] σ τ ∧ r = none)) (hk : kA b a = 3) (hM : M + 0 ≤ 1000000000)  : ∀ (fuel : Nat) (i1 : Int32) (τ : Mem), HK V (b, M, Z, T) [0, 1, 2, 4, 5, 6, 7, 8, 9, 10, 11, 12, 13, 14, 15, 16, 17, 18, 19] σ τ → True → (6 - i1.toInt).toNat < fuel → Wm V X 2 N τ 0 0 111 [(1, .int i1), (0, .ref a)] [] := by
  intro fuel
  induction fuel with
  | zero => intro i1 τ h1 hi hm; exact absurd hm (Nat.not_lt_zero _)
  | succ fuel ih =>
    intro i1 τ h1 hi hm
    refine m_iload_n F rfl e_X7_advanceWord_111 ?_
    refine m_bipush F (v := 6) (by decide) e_X7_advanceWord_112 ?_
    refine m_icmp_ge F e_X7_advanceWord_114 (fun q114 => ?_) (fun q114 => ?_)
    · obtain ⟨n3486, hn3486, rfl⟩ := nI_nn (x := i1) (fun e => Int32.lt_irrefl (Int32.lt_of_lt_of_le e (Int32.le_trans (by decide) q114)))
      have c114 : n3486 ≥ 6 := (nI_leI (a := 6) (b := n3486) (by omega) (by omega)).mp q114
      exact m_vret F hQ e_X7_advanceWord_134 (⟨h1, rfl⟩)
    · refine m_aload_n F rfl e_X7_advanceWord_117 ?_
      refine m_aload_n F rfl e_X7_advanceWord_118 ?_
      refine t_get F e_X7_advanceWord_119 fl_X7_70 (fun _ => o3) h1 hk rfl (fun v hv f3487 => ?_)
      obtain ⟨x3488, rfl⟩ := hv
      refine m_bipush F (v := 32) (by decide) e_X7_advanceWord_122 ?_
      refine m_imul F e_X7_advanceWord_124 ?_
      refine Wm.top (fun x3489 _ => ?_)
      refine t_put F e_X7_advanceWord_125 fp_X7_70 (fun _ => o3) h1 hk rfl ⟨_, rfl⟩ rfl rfl (by decide) (fun σ3490 h3491 g3492 g3493 f3494 => ?_)
      refine m_iinc F (v := (i1 + 1)) (lv' := [(1, .int (i1 + 1)), (0, .ref a)]) e_X7_advanceWord_128 rfl rfl (by decide) rfl ?_
      refine m_goto F e_X7_advanceWord_131 ?_
      exact ih (i1 + 1) _ h3491 (by first | trivial | omega) (by first | omega | (have h9 := inc_lt (w := 6) (Int32.not_le.mp q114); have h8 := Int32.lt_iff_toInt_lt.mp (Int32.not_le.mp q114); have h7 : (6 : Int32).toInt = 6 := (by decide); omega))
set_option maxRecDepth 20000 in
theorem lp_X7_advanceWord_5 {V : VX} {X : MX} {b M Z T N : Nat} {σ : Mem} {a : Nat}   (F : Fx V X yX7_advanceWord cX7_advanceWord 2 none (rmd 0 0 0)) (hQ : Rt V X 0 0 N (fun r τ => HK V (b, M, Z, T) [0, 1, 2, 4, 5, 6, 7, 8, 9, 10, 11, 12, 13, 14, 15, 16, 17, 18, 19] σ τ ∧ r = none)) (hk : kA b a = 3) (hM : M + 0 ≤ 1000000000)  : ∀ (fuel : Nat) (nx : Nat) (τ : Mem), HK V (b, M, Z, T) [0, 1, 2, 4, 5, 6, 7, 8, 9, 10, 11, 12, 13, 14, 15, 16, 17, 18, 19] σ τ → fld τ a 4 = some (.int (nI nx)) ∧ nx ≤ 700 → 700 - nx < fuel → Wm V X 2 N τ 0 0 5 [(0, .ref a)] [] := by
  intro fuel
  induction fuel with
  | zero => intro nx τ h1 hi hm; exact absurd hm (Nat.not_lt_zero _)
  | succ fuel ih =>
    intro nx τ h1 hi hm
    obtain ⟨hfnx, hi⟩ := hi
    refine m_aload_n F rfl e_X7_advanceWord_5 ?_
    refine t_getC F e_X7_advanceWord_6 fl_X7_42 (fun _ => o3) h1 hk (hfnx) ?_
    refine m_aload_n F rfl e_X7_advanceWord_9 ?_
    refine t_get F e_X7_advanceWord_10 fl_X7_33 (fun _ => o3) h1 hk rfl (fun v hv f3495 => ?_)
    obtain ⟨n3496, hn3496, rfl⟩ := hv
    replace hn3496 : n3496 ≤ 700 := hn3496
    refine m_icmp_ge F e_X7_advanceWord_13 (fun q13 => ?_) (fun q13 => ?_)
    · have c13 : nx ≥ n3496 := (nI_leI (a := n3496) (b := nx) (by omega) (by omega)).mp q13
      refine m_aload_n F rfl e_X7_advanceWord_101 ?_
      refine t_getC F e_X7_advanceWord_102 fl_X7_42 (fun _ => o3) h1 hk (hfnx) ?_
      refine m_aload_n F rfl e_X7_advanceWord_105 ?_
      refine t_get F e_X7_advanceWord_106 fl_X7_188 (fun _ => o3) h1 hk rfl (fun v hv f3497 => ?_)
      obtain ⟨x3498, rfl⟩ := hv
      refine m_isub F e_X7_advanceWord_109 ?_
      refine Wm.top (fun x3499 _ => ?_)
      refine m_istore_n F (lv' := [(1, .int x3499), (0, .ref a)]) e_X7_advanceWord_110 (by decide) rfl ?_
      exact lp_X7_advanceWord_111 F hQ hk hM ((6 - x3499.toInt).toNat + 1) x3499 _ h1 (by first | trivial | omega) (Nat.lt_succ_self _)
    · have c13 : nx < n3496 := by have hh := mt (nI_leI (a := n3496) (b := nx) (by omega) (by omega)).mpr q13; omega
      refine m_aload_n F rfl e_X7_advanceWord_16 ?_
      refine t_get F e_X7_advanceWord_17 fl_X7_19 (fun _ => o3) h1 hk rfl (fun v hv f3500 => ?_)
      obtain ⟨r3501, k3502, rfl⟩ := hv
      refine m_aload_n F rfl e_X7_advanceWord_20 ?_
      refine t_getC F e_X7_advanceWord_21 fl_X7_42 (fun _ => o3) h1 hk (hfnx) ?_
      refine t_bald F (len := 700) (j := nx) e_X7_advanceWord_24 (fun _ => o2) h1 k3502 (nI_clamp (by omega)) (vp_in_nI (by omega) (by decide)) (fun x3503 => ?_)
      refine m_bipush F (v := 97) (by decide) e_X7_advanceWord_25 ?_
      refine m_icmp_lt F e_X7_advanceWord_27 (fun q27 => ?_) (fun q27 => ?_)
      · refine m_aload_n F rfl e_X7_advanceWord_101 ?_
        refine t_getC F e_X7_advanceWord_102 fl_X7_42 (fun _ => o3) h1 hk (hfnx) ?_
        refine m_aload_n F rfl e_X7_advanceWord_105 ?_
        refine t_get F e_X7_advanceWord_106 fl_X7_188 (fun _ => o3) h1 hk rfl (fun v hv f3504 => ?_)
        obtain ⟨x3505, rfl⟩ := hv
        refine m_isub F e_X7_advanceWord_109 ?_
        refine Wm.top (fun x3506 _ => ?_)
        refine m_istore_n F (lv' := [(1, .int x3506), (0, .ref a)]) e_X7_advanceWord_110 (by decide) rfl ?_
        exact lp_X7_advanceWord_111 F hQ hk hM ((6 - x3506.toInt).toNat + 1) x3506 _ h1 (by first | trivial | omega) (Nat.lt_succ_self _)
      · obtain ⟨n3507, hn3507, rfl⟩ := nI_nn (x := x3503) (fun e => q27 (Int32.lt_of_lt_of_le e (by decide)))
        have c27 : n3507 ≥ 97 := by have hh := mt (nI_ltI (a := n3507) (b := 97) (by omega) (by omega)).mpr q27; omega
        refine m_aload_n F rfl e_X7_advanceWord_30 ?_
        refine t_getC F e_X7_advanceWord_31 fl_X7_19 (fun _ => o3) h1 hk (f3500) ?_
        refine m_aload_n F rfl e_X7_advanceWord_34 ?_
        refine t_getC F e_X7_advanceWord_35 fl_X7_42 (fun _ => o3) h1 hk (hfnx) ?_
        refine t_bald F (len := 700) (j := nx) e_X7_advanceWord_38 (fun _ => o2) h1 k3502 (nI_clamp (by omega)) (vp_in_nI (by omega) (by decide)) (fun x3508 => ?_)
        refine m_bipush F (v := 122) (by decide) e_X7_advanceWord_39 ?_
        refine m_icmp_gt F e_X7_advanceWord_41 (fun q41 => ?_) (fun q41 => ?_)
        · obtain ⟨n3509, hn3509, rfl⟩ := nI_nn (x := x3508) (fun e => Int32.lt_irrefl (Int32.lt_trans e (Int32.lt_of_le_of_lt (by decide) q41)))
          have c41 : n3509 > 122 := (nI_ltI (a := 122) (b := n3509) (by omega) (by omega)).mp q41
          refine m_aload_n F rfl e_X7_advanceWord_101 ?_
          refine t_getC F e_X7_advanceWord_102 fl_X7_42 (fun _ => o3) h1 hk (hfnx) ?_
          refine m_aload_n F rfl e_X7_advanceWord_105 ?_
          refine t_get F e_X7_advanceWord_106 fl_X7_188 (fun _ => o3) h1 hk rfl (fun v hv f3510 => ?_)
          obtain ⟨x3511, rfl⟩ := hv
          refine m_isub F e_X7_advanceWord_109 ?_
          refine Wm.top (fun x3512 _ => ?_)
          refine m_istore_n F (lv' := [(1, .int x3512), (0, .ref a)]) e_X7_advanceWord_110 (by decide) rfl ?_
          exact lp_X7_advanceWord_111 F hQ hk hM ((6 - x3512.toInt).toNat + 1) x3512 _ h1 (by first | trivial | omega) (Nat.lt_succ_self _)
        · refine m_aload_n F rfl e_X7_advanceWord_44 ?_
          refine m_aload_n F rfl e_X7_advanceWord_45 ?_
          refine t_getC F e_X7_advanceWord_46 fl_X7_42 (fun _ => o3) h1 hk (hfnx) ?_
          refine m_aload_n F rfl e_X7_advanceWord_49 ?_
          refine t_get F e_X7_advanceWord_50 fl_X7_188 (fun _ => o3) h1 hk rfl (fun v hv f3513 => ?_)
          obtain ⟨x3514, rfl⟩ := hv
          refine m_isub F e_X7_advanceWord_53 ?_
          refine Wm.top (fun x3515 _ => ?_)
          refine m_bipush F (v := 6) (by decide) e_X7_advanceWord_54 ?_
          refine m_icmp_ge F e_X7_advanceWord_56 (fun q56 => ?_) (fun q56 => ?_)
          · obtain ⟨n3516, hn3516, rfl⟩ := nI_nn (x := x3515) (fun e => Int32.lt_irrefl (Int32.lt_of_lt_of_le e (Int32.le_trans (by decide) q56)))
            have c56 : n3516 ≥ 6 := (nI_leI (a := 6) (b := n3516) (by omega) (by omega)).mp q56
            refine m_iconst F (v := (-1)) (by decide) e_X7_advanceWord_84 ?_
            refine t_put F e_X7_advanceWord_85 fp_X7_70 (fun _ => o3) h1 hk rfl ⟨_, rfl⟩ rfl rfl (by decide) (fun σ3517 h3518 g3519 g3520 f3521 => ?_)
            refine m_aload_n F rfl e_X7_advanceWord_88 ?_
            refine m_dup F rfl e_X7_advanceWord_89 ?_
            refine t_getC F e_X7_advanceWord_90 fl_X7_42 (fun _ => o3) h3518 hk ((g3520 4 (by decide)).trans hfnx) ?_
            refine m_iconst F (v := 1) (by decide) e_X7_advanceWord_93 ?_
            refine m_iadd F e_X7_advanceWord_94 ?_
            refine Wm.topE (w := nI (nx + 1)) (nI_add nx 1) ?_
            refine t_put F e_X7_advanceWord_95 fp_X7_42 (fun _ => o3) h3518 hk rfl ⟨nx + 1, (show nx + 1 ≤ 700 by omega), rfl⟩ rfl rfl (by decide) (fun σ3522 h3523 g3524 g3525 f3526 => ?_)
            refine m_goto F e_X7_advanceWord_98 ?_
            exact ih (nx + 1) _ h3523 ⟨(f3526), (by first | trivial | omega)⟩ (by first | omega | (have h9 := inc_lt (w := 6) (Int32.not_le.mp q114); have h8 := Int32.lt_iff_toInt_lt.mp (Int32.not_le.mp q114); have h7 : (6 : Int32).toInt = 6 := (by decide); omega))
          · refine m_aload_n F rfl e_X7_advanceWord_59 ?_
            refine t_get F e_X7_advanceWord_60 fl_X7_70 (fun _ => o3) h1 hk rfl (fun v hv f3527 => ?_)
            obtain ⟨x3528, rfl⟩ := hv
            refine m_bipush F (v := 32) (by decide) e_X7_advanceWord_63 ?_
            refine m_imul F e_X7_advanceWord_65 ?_
            refine Wm.top (fun x3529 _ => ?_)
            refine m_aload_n F rfl e_X7_advanceWord_66 ?_
            refine t_getC F e_X7_advanceWord_67 fl_X7_19 (fun _ => o3) h1 hk (f3500) ?_
            refine m_aload_n F rfl e_X7_advanceWord_70 ?_
            refine t_getC F e_X7_advanceWord_71 fl_X7_42 (fun _ => o3) h1 hk (hfnx) ?_
            refine t_bald F (len := 700) (j := nx) e_X7_advanceWord_74 (fun _ => o2) h1 k3502 (nI_clamp (by omega)) (vp_in_nI (by omega) (by decide)) (fun x3530 => ?_)
            refine m_iadd F e_X7_advanceWord_75 ?_
            refine Wm.top (fun x3531 _ => ?_)
            refine m_bipush F (v := 97) (by decide) e_X7_advanceWord_76 ?_
            refine m_isub F e_X7_advanceWord_78 ?_
            refine Wm.top (fun x3532 _ => ?_)
            refine m_iconst F (v := 1) (by decide) e_X7_advanceWord_79 ?_
            refine m_iadd F e_X7_advanceWord_80 ?_
            refine Wm.top (fun x3533 _ => ?_)
            refine m_goto F e_X7_advanceWord_81 ?_
            refine t_put F e_X7_advanceWord_85 fp_X7_70 (fun _ => o3) h1 hk rfl ⟨_, rfl⟩ rfl rfl (by decide) (fun σ3534 h3535 g3536 g3537 f3538 => ?_)
            refine m_aload_n F rfl e_X7_advanceWord_88 ?_
            refine m_dup F rfl e_X7_advanceWord_89 ?_
            refine t_getC F e_X7_advanceWord_90 fl_X7_42 (fun _ => o3) h3535 hk ((g3537 4 (by decide)).trans hfnx) ?_
            refine m_iconst F (v := 1) (by decide) e_X7_advanceWord_93 ?_
            refine m_iadd F e_X7_advanceWord_94 ?_
            refine Wm.topE (w := nI (nx + 1)) (nI_add nx 1) ?_
            refine t_put F e_X7_advanceWord_95 fp_X7_42 (fun _ => o3) h3535 hk rfl ⟨nx + 1, (show nx + 1 ≤ 700 by omega), rfl⟩ rfl rfl (by decide) (fun σ3539 h3540 g3541 g3542 f3543 => ?_)
            refine m_goto F e_X7_advanceWord_98 ?_
            exact ih (nx + 1) _ h3540 ⟨(f3543), (by first | trivial | omega)⟩ (by first | omega | (have h9 := inc_lt (w := 6) (Int32.not_le.mp q114); have h8 := Int32.lt_iff_toInt_lt.mp (Int32.not_le.mp q114); have h7 : (6 : Int32).toInt = 6 := (by decide); omega))
set_option maxRecDepth 20000 in
theorem s_X7_advanceWord (l : Launch) (V : VX) (b M Z T N : Nat) (σ : Mem) (a : Nat) (h0 : HT V (b, M, Z, T) σ) (hk : kA b a = 3) (hM : M + 0 ≤ 1000000000) : Ct l V yX7_advanceWord cX7_advanceWord 2 none 0 0 0 N σ [.ref a] (fun r τ => HK V (b, M, Z, T) [0, 1, 2, 4, 5, 6, 7, 8, 9, 10, 11, 12, 13, 14, 15, 16, 17, 18, 19] σ τ ∧ r = none) := by
  refine Ct.of (by decide) (Nat.le_of_ble_eq_true rfl) [(0, .ref a)] rfl (fun X hX F hQ => ?_)
  have h1 : HK V (b, M, Z, T) [0, 1, 2, 4, 5, 6, 7, 8, 9, 10, 11, 12, 13, 14, 15, 16, 17, 18, 19] σ σ := HK.start h0
  refine m_aload_n F rfl e_X7_advanceWord_0 ?_
  refine m_iconst F (v := 0) (by decide) e_X7_advanceWord_1 ?_
  refine t_put F e_X7_advanceWord_2 fp_X7_70 (fun _ => o3) h1 hk rfl ⟨_, rfl⟩ rfl rfl (by decide) (fun σ3544 h3545 g3546 g3547 f3548 => ?_)
  obtain ⟨v9, ⟨n3549, hn3549, rfl⟩, f3550⟩ := HK.f (j := 4) h3545 (fun _ => o3) hk rfl
  replace hn3549 : n3549 ≤ 700 := hn3549
  exact lp_X7_advanceWord_5 F hQ hk hM (700 - n3549 + 1) n3549 _ h3545 ⟨(f3550), (by first | trivial | omega)⟩ (Nat.lt_succ_self _)
set_option maxRecDepth 20000 in
theorem lp_X7_advance_0 {V : VX} {X : MX} {b M Z T N : Nat} {σ : Mem} {a : Nat}   (F : Fx V X yX7_advance cX7_advance 1 none (rmd 1 0 0)) (hQ : Rt V X 0 0 N (fun r τ => HK V (b, M, Z, T) [0, 1, 2, 4, 5, 6, 7, 8, 9, 10, 11, 12, 13, 14, 15, 16, 17, 18, 19] σ τ ∧ r = none)) (hk : kA b a = 3) (hM : M + 0 ≤ 1000000000)  : ∀ (fuel : Nat) (nx : Nat) (τ : Mem), HK V (b, M, Z, T) [0, 1, 2, 4, 5, 6, 7, 8, 9, 10, 11, 12, 13, 14, 15, 16, 17, 18, 19] σ τ → fld τ a 4 = some (.int (nI nx)) ∧ nx ≤ 700 → 700 - nx < fuel → Wm V X 1 N τ 0 0 0 [(0, .ref a)] [] := by
  intro fuel
  induction fuel with
  | zero => intro nx τ h1 hi hm; exact absurd hm (Nat.not_lt_zero _)
  | succ fuel ih =>
    intro nx τ h1 hi hm
    obtain ⟨hfnx, hi⟩ := hi
    refine m_aload_n F rfl e_X7_advance_0 ?_
    refine t_getC F e_X7_advance_1 fl_X7_42 (fun _ => o3) h1 hk (hfnx) ?_
    refine m_aload_n F rfl e_X7_advance_4 ?_
    refine t_get F e_X7_advance_5 fl_X7_33 (fun _ => o3) h1 hk rfl (fun v hv f3551 => ?_)
    obtain ⟨n3552, hn3552, rfl⟩ := hv
    replace hn3552 : n3552 ≤ 700 := hn3552
    refine m_icmp_ge F e_X7_advance_8 (fun q8 => ?_) (fun q8 => ?_)
    · have c8 : nx ≥ n3552 := (nI_leI (a := n3552) (b := nx) (by omega) (by omega)).mp q8
      refine m_aload_n F rfl e_X7_advance_52 ?_
      refine m_aload_n F rfl e_X7_advance_53 ?_
      refine t_getC F e_X7_advance_54 fl_X7_42 (fun _ => o3) h1 hk (hfnx) ?_
      refine t_put F e_X7_advance_57 fp_X7_188 (fun _ => o3) h1 hk rfl ⟨_, rfl⟩ rfl rfl (by decide) (fun σ3553 h3554 g3555 g3556 f3557 => ?_)
      refine m_aload_n F rfl e_X7_advance_60 ?_
      refine m_aload_n F rfl e_X7_advance_61 ?_
      refine m_aload_n F rfl e_X7_advance_62 ?_
      refine t_getC F e_X7_advance_63 fl_X7_42 (fun _ => o3) h3554 hk ((g3556 4 (by decide)).trans hfnx) ?_
      refine t_callV F e_X7_advance_66 (s_X7_tokenAt (x_l X) V b M Z T _ _ a nx h3554.1 hk (by omega) (by omega)) cb_X7_tokenAt ml_X7_207 im_X7_tokenAt se_X7_tokenAt (fun _ => o3) h3554 hk rfl rfl (rest := [.ref a]) rfl (Nat.le_of_ble_eq_true rfl) ⟨Nat.le_of_ble_eq_true rfl, Nat.le_of_ble_eq_true rfl⟩ ⟨Nat.le_of_ble_eq_true rfl, Nat.le_of_ble_eq_true rfl⟩ (fun r σ3558 hp => ?_)
      obtain ⟨h3560, x3561, gx3561, rfl⟩ := hp
      have h3559 := HK.trans h3554 h3560 (by decide)
      refine t_put F e_X7_advance_69 fp_X7_61 (fun _ => o3) h3559 hk rfl ⟨_, rfl⟩ rfl rfl (by decide) (fun σ3562 h3563 g3564 g3565 f3566 => ?_)
      refine m_aload_n F rfl e_X7_advance_72 ?_
      refine t_getC F e_X7_advance_73 fl_X7_61 (fun _ => o3) h3563 hk (f3566) ?_
      refine m_iconst F (v := 1) (by decide) e_X7_advance_76 ?_
      refine m_icmp_ne F e_X7_advance_77 (fun q77 => ?_) (fun q77 => ?_)
      · refine m_aload_n F rfl e_X7_advance_87 ?_
        refine t_getC F e_X7_advance_88 fl_X7_61 (fun _ => o3) h3563 hk (f3566) ?_
        refine m_iconst F (v := 2) (by decide) e_X7_advance_91 ?_
        refine m_icmp_ne F e_X7_advance_92 (fun q92 => ?_) (fun q92 => ?_)
        · refine m_aload_n F rfl e_X7_advance_102 ?_
          refine t_getC F e_X7_advance_103 fl_X7_61 (fun _ => o3) h3563 hk (f3566) ?_
          refine m_if_eq F e_X7_advance_106 (fun q106 => ?_) (fun q106 => ?_)
          · exact m_vret F hQ e_X7_advance_119 (⟨h3563, rfl⟩)
          · have gz := gx3561 q106
            refine m_aload_n F rfl e_X7_advance_109 ?_
            refine m_dup F rfl e_X7_advance_110 ?_
            refine t_getC F e_X7_advance_111 fl_X7_42 (fun _ => o3) h3563 hk ((g3565 4 (by decide)).trans ((fld_eq (h3560.2 a (by rw [show kA _ a = 3 from hk]; decide))).trans ((g3556 4 (by decide)).trans hfnx))) ?_
            refine m_iconst F (v := 1) (by decide) e_X7_advance_114 ?_
            refine m_iadd F e_X7_advance_115 ?_
            refine Wm.topE (w := nI (nx + 1)) (nI_add nx 1) ?_
            refine t_put F e_X7_advance_116 fp_X7_42 (fun _ => o3) h3563 hk rfl ⟨nx + 1, (show nx + 1 ≤ 700 by omega), rfl⟩ rfl rfl (by decide) (fun σ3567 h3568 g3569 g3570 f3571 => ?_)
            exact m_vret F hQ e_X7_advance_119 (⟨h3568, rfl⟩)
        · refine m_aload_n F rfl e_X7_advance_95 ?_
          refine t_callV F e_X7_advance_96 (s_X7_advanceNumber (x_l X) V b M Z T _ _ a  h3563.1 hk  (by omega)) cb_X7_advanceNumber ml_X7_213 im_X7_advanceNumber se_X7_advanceNumber (fun _ => o3) h3563 hk rfl rfl (rest := []) rfl (Nat.le_of_ble_eq_true rfl) ⟨Nat.le_of_ble_eq_true rfl, Nat.le_of_ble_eq_true rfl⟩ ⟨Nat.le_of_ble_eq_true rfl, Nat.le_of_ble_eq_true rfl⟩ (fun r σ3572 hp => ?_)
          obtain ⟨h3574, rfl⟩ := hp
          have h3573 := HK.trans h3563 h3574 (by decide)
          refine m_goto F e_X7_advance_99 ?_
          exact m_vret F hQ e_X7_advance_119 (⟨h3573, rfl⟩)
      · refine m_aload_n F rfl e_X7_advance_80 ?_
        refine t_callV F e_X7_advance_81 (s_X7_advanceWord (x_l X) V b M Z T _ _ a  h3563.1 hk  (by omega)) cb_X7_advanceWord ml_X7_210 im_X7_advanceWord se_X7_advanceWord (fun _ => o3) h3563 hk rfl rfl (rest := []) rfl (Nat.le_of_ble_eq_true rfl) ⟨Nat.le_of_ble_eq_true rfl, Nat.le_of_ble_eq_true rfl⟩ ⟨Nat.le_of_ble_eq_true rfl, Nat.le_of_ble_eq_true rfl⟩ (fun r σ3575 hp => ?_)
        obtain ⟨h3577, rfl⟩ := hp
        have h3576 := HK.trans h3563 h3577 (by decide)
        refine m_goto F e_X7_advance_84 ?_
        exact m_vret F hQ e_X7_advance_119 (⟨h3576, rfl⟩)
    · have c8 : nx < n3552 := by have hh := mt (nI_leI (a := n3552) (b := nx) (by omega) (by omega)).mpr q8; omega
      refine m_aload_n F rfl e_X7_advance_11 ?_
      refine t_get F e_X7_advance_12 fl_X7_19 (fun _ => o3) h1 hk rfl (fun v hv f3578 => ?_)
      obtain ⟨r3579, k3580, rfl⟩ := hv
      refine m_aload_n F rfl e_X7_advance_15 ?_
      refine t_getC F e_X7_advance_16 fl_X7_42 (fun _ => o3) h1 hk (hfnx) ?_
      refine t_bald F (len := 700) (j := nx) e_X7_advance_19 (fun _ => o2) h1 k3580 (nI_clamp (by omega)) (vp_in_nI (by omega) (by decide)) (fun x3581 => ?_)
      refine m_bipush F (v := 10) (by decide) e_X7_advance_20 ?_
      refine m_icmp_eq F e_X7_advance_22 (fun q22 => ?_) (fun q22 => ?_)
      · refine m_aload_n F rfl e_X7_advance_39 ?_
        refine m_dup F rfl e_X7_advance_40 ?_
        refine t_getC F e_X7_advance_41 fl_X7_42 (fun _ => o3) h1 hk (hfnx) ?_
        refine m_iconst F (v := 1) (by decide) e_X7_advance_44 ?_
        refine m_iadd F e_X7_advance_45 ?_
        refine Wm.topE (w := nI (nx + 1)) (nI_add nx 1) ?_
        refine t_put F e_X7_advance_46 fp_X7_42 (fun _ => o3) h1 hk rfl ⟨nx + 1, (show nx + 1 ≤ 700 by omega), rfl⟩ rfl rfl (by decide) (fun σ3582 h3583 g3584 g3585 f3586 => ?_)
        refine m_goto F e_X7_advance_49 ?_
        exact ih (nx + 1) _ h3583 ⟨(f3586), (by omega)⟩ (by omega)
      · refine m_aload_n F rfl e_X7_advance_25 ?_
        refine t_getC F e_X7_advance_26 fl_X7_19 (fun _ => o3) h1 hk (f3578) ?_
        refine m_aload_n F rfl e_X7_advance_29 ?_
        refine t_getC F e_X7_advance_30 fl_X7_42 (fun _ => o3) h1 hk (hfnx) ?_
        refine t_bald F (len := 700) (j := nx) e_X7_advance_33 (fun _ => o2) h1 k3580 (nI_clamp (by omega)) (vp_in_nI (by omega) (by decide)) (fun x3587 => ?_)
        refine m_bipush F (v := 32) (by decide) e_X7_advance_34 ?_
        refine m_icmp_ne F e_X7_advance_36 (fun q36 => ?_) (fun q36 => ?_)
        · refine m_aload_n F rfl e_X7_advance_52 ?_
          refine m_aload_n F rfl e_X7_advance_53 ?_
          refine t_getC F e_X7_advance_54 fl_X7_42 (fun _ => o3) h1 hk (hfnx) ?_
          refine t_put F e_X7_advance_57 fp_X7_188 (fun _ => o3) h1 hk rfl ⟨_, rfl⟩ rfl rfl (by decide) (fun σ3588 h3589 g3590 g3591 f3592 => ?_)
          refine m_aload_n F rfl e_X7_advance_60 ?_
          refine m_aload_n F rfl e_X7_advance_61 ?_
          refine m_aload_n F rfl e_X7_advance_62 ?_
          refine t_getC F e_X7_advance_63 fl_X7_42 (fun _ => o3) h3589 hk ((g3591 4 (by decide)).trans hfnx) ?_
          refine t_callV F e_X7_advance_66 (s_X7_tokenAt (x_l X) V b M Z T _ _ a nx h3589.1 hk (by omega) (by omega)) cb_X7_tokenAt ml_X7_207 im_X7_tokenAt se_X7_tokenAt (fun _ => o3) h3589 hk rfl rfl (rest := [.ref a]) rfl (Nat.le_of_ble_eq_true rfl) ⟨Nat.le_of_ble_eq_true rfl, Nat.le_of_ble_eq_true rfl⟩ ⟨Nat.le_of_ble_eq_true rfl, Nat.le_of_ble_eq_true rfl⟩ (fun r σ3593 hp => ?_)
          obtain ⟨h3595, x3596, gx3596, rfl⟩ := hp
          have h3594 := HK.trans h3589 h3595 (by decide)
          refine t_put F e_X7_advance_69 fp_X7_61 (fun _ => o3) h3594 hk rfl ⟨_, rfl⟩ rfl rfl (by decide) (fun σ3597 h3598 g3599 g3600 f3601 => ?_)
          refine m_aload_n F rfl e_X7_advance_72 ?_
          refine t_getC F e_X7_advance_73 fl_X7_61 (fun _ => o3) h3598 hk (f3601) ?_
          refine m_iconst F (v := 1) (by decide) e_X7_advance_76 ?_
          refine m_icmp_ne F e_X7_advance_77 (fun q77 => ?_) (fun q77 => ?_)
          · refine m_aload_n F rfl e_X7_advance_87 ?_
            refine t_getC F e_X7_advance_88 fl_X7_61 (fun _ => o3) h3598 hk (f3601) ?_
            refine m_iconst F (v := 2) (by decide) e_X7_advance_91 ?_
            refine m_icmp_ne F e_X7_advance_92 (fun q92 => ?_) (fun q92 => ?_)
            · refine m_aload_n F rfl e_X7_advance_102 ?_
              refine t_getC F e_X7_advance_103 fl_X7_61 (fun _ => o3) h3598 hk (f3601) ?_
              refine m_if_eq F e_X7_advance_106 (fun q106 => ?_) (fun q106 => ?_)
              · exact m_vret F hQ e_X7_advance_119 (⟨h3598, rfl⟩)
              · have gz := gx3596 q106
                refine m_aload_n F rfl e_X7_advance_109 ?_
                refine m_dup F rfl e_X7_advance_110 ?_
                refine t_getC F e_X7_advance_111 fl_X7_42 (fun _ => o3) h3598 hk ((g3600 4 (by decide)).trans ((fld_eq (h3595.2 a (by rw [show kA _ a = 3 from hk]; decide))).trans ((g3591 4 (by decide)).trans hfnx))) ?_
                refine m_iconst F (v := 1) (by decide) e_X7_advance_114 ?_
                refine m_iadd F e_X7_advance_115 ?_
                refine Wm.topE (w := nI (nx + 1)) (nI_add nx 1) ?_
                refine t_put F e_X7_advance_116 fp_X7_42 (fun _ => o3) h3598 hk rfl ⟨nx + 1, (show nx + 1 ≤ 700 by omega), rfl⟩ rfl rfl (by decide) (fun σ3602 h3603 g3604 g3605 f3606 => ?_)
                exact m_vret F hQ e_X7_advance_119 (⟨h3603, rfl⟩)
            · refine m_aload_n F rfl e_X7_advance_95 ?_
              refine t_callV F e_X7_advance_96 (s_X7_advanceNumber (x_l X) V b M Z T _ _ a  h3598.1 hk  (by omega)) cb_X7_advanceNumber ml_X7_213 im_X7_advanceNumber se_X7_advanceNumber (fun _ => o3) h3598 hk rfl rfl (rest := []) rfl (Nat.le_of_ble_eq_true rfl) ⟨Nat.le_of_ble_eq_true rfl, Nat.le_of_ble_eq_true rfl⟩ ⟨Nat.le_of_ble_eq_true rfl, Nat.le_of_ble_eq_true rfl⟩ (fun r σ3607 hp => ?_)
              obtain ⟨h3609, rfl⟩ := hp
              have h3608 := HK.trans h3598 h3609 (by decide)
              refine m_goto F e_X7_advance_99 ?_
              exact m_vret F hQ e_X7_advance_119 (⟨h3608, rfl⟩)
          · refine m_aload_n F rfl e_X7_advance_80 ?_
            refine t_callV F e_X7_advance_81 (s_X7_advanceWord (x_l X) V b M Z T _ _ a  h3598.1 hk  (by omega)) cb_X7_advanceWord ml_X7_210 im_X7_advanceWord se_X7_advanceWord (fun _ => o3) h3598 hk rfl rfl (rest := []) rfl (Nat.le_of_ble_eq_true rfl) ⟨Nat.le_of_ble_eq_true rfl, Nat.le_of_ble_eq_true rfl⟩ ⟨Nat.le_of_ble_eq_true rfl, Nat.le_of_ble_eq_true rfl⟩ (fun r σ3610 hp => ?_)
            obtain ⟨h3612, rfl⟩ := hp
            have h3611 := HK.trans h3598 h3612 (by decide)
            refine m_goto F e_X7_advance_84 ?_
            exact m_vret F hQ e_X7_advance_119 (⟨h3611, rfl⟩)
        · refine m_aload_n F rfl e_X7_advance_39 ?_
          refine m_dup F rfl e_X7_advance_40 ?_
          refine t_getC F e_X7_advance_41 fl_X7_42 (fun _ => o3) h1 hk (hfnx) ?_
          refine m_iconst F (v := 1) (by decide) e_X7_advance_44 ?_
          refine m_iadd F e_X7_advance_45 ?_
          refine Wm.topE (w := nI (nx + 1)) (nI_add nx 1) ?_
          refine t_put F e_X7_advance_46 fp_X7_42 (fun _ => o3) h1 hk rfl ⟨nx + 1, (show nx + 1 ≤ 700 by omega), rfl⟩ rfl rfl (by decide) (fun σ3613 h3614 g3615 g3616 f3617 => ?_)
          refine m_goto F e_X7_advance_49 ?_
          exact ih (nx + 1) _ h3614 ⟨(f3617), (by omega)⟩ (by omega)
set_option maxRecDepth 20000 in
theorem s_X7_advance (l : Launch) (V : VX) (b M Z T N : Nat) (σ : Mem) (a : Nat) (h0 : HT V (b, M, Z, T) σ) (hk : kA b a = 3) (hM : M + 0 ≤ 1000000000) : Ct l V yX7_advance cX7_advance 1 none 1 0 0 N σ [.ref a] (fun r τ => HK V (b, M, Z, T) [0, 1, 2, 4, 5, 6, 7, 8, 9, 10, 11, 12, 13, 14, 15, 16, 17, 18, 19] σ τ ∧ r = none) := by
  refine Ct.of (by decide) (Nat.le_of_ble_eq_true rfl) [(0, .ref a)] rfl (fun X hX F hQ => ?_)
  have h1 : HK V (b, M, Z, T) [0, 1, 2, 4, 5, 6, 7, 8, 9, 10, 11, 12, 13, 14, 15, 16, 17, 18, 19] σ σ := HK.start h0
  obtain ⟨v9, ⟨n3618, hn3618, rfl⟩, f3619⟩ := HK.f (j := 4) h1 (fun _ => o3) hk rfl
  replace hn3618 : n3618 ≤ 700 := hn3618
  exact lp_X7_advance_0 F hQ hk hM (700 - n3618 + 1) n3618 _ h1 ⟨(f3619), (by omega)⟩ (Nat.lt_succ_self _)
set_option maxRecDepth 20000 in
theorem s_X7_failAt (l : Launch) (V : VX) (b M Z T N : Nat) (σ : Mem) (a : Nat) (x901 : Int32) (x902 : Int32) (h0 : HT V (b, M, Z, T) σ) (hk : kA b a = 3) (hp0 : x901 ≠ 0) (hM : M + 0 ≤ 1000000000) : Ct l V yX7_failAt cX7_failAt 3 none 0 0 0 N σ [.ref a, .int x901, .int x902] (fun r τ => HK V (b, M, 0, T) [0, 1, 2, 4, 5, 6, 7, 8, 9, 10, 11, 12, 13, 14, 15, 16, 17, 18, 19] σ τ ∧ r = none) := by
  refine Ct.of (by decide) (Nat.le_of_ble_eq_true rfl) [(0, .ref a), (1, .int x901), (2, .int x902)] rfl (fun X hX F hQ => ?_)
  have h1 : HK V (b, M, Z, T) [0, 1, 2, 4, 5, 6, 7, 8, 9, 10, 11, 12, 13, 14, 15, 16, 17, 18, 19] σ σ := HK.start h0
  refine m_aload_n F rfl e_X7_failAt_0 ?_
  refine t_get F e_X7_failAt_1 fl_X7_55 (fun _ => o3) h1 hk rfl (fun v hv f3620 => ?_)
  obtain ⟨x3621, hx3621, rfl⟩ := hv
  replace hx3621 : Z = 0 → x3621 ≠ 0 := hx3621
  refine m_if_ne F e_X7_failAt_4 (fun q4 => ?_) (fun q4 => ?_)
  · have h3622 := h1.z0 hk (f3620) q4
    exact m_vret F hQ e_X7_failAt_17 (⟨h3622, rfl⟩)
  · refine m_aload_n F rfl e_X7_failAt_7 ?_
    refine m_iload_n F rfl e_X7_failAt_8 ?_
    refine t_putF F e_X7_failAt_9 fp_X7_55 h1 hk (hp0) (by decide) (fun σ3623 h3624 g3625 g3626 f3627 => ?_)
    refine m_aload_n F rfl e_X7_failAt_12 ?_
    refine m_iload_n F rfl e_X7_failAt_13 ?_
    refine t_put F e_X7_failAt_14 fp_X7_15 (fun _ => o3) h3624 hk rfl ⟨_, rfl⟩ rfl rfl (by decide) (fun σ3628 h3629 g3630 g3631 f3632 => ?_)
    exact m_vret F hQ e_X7_failAt_17 (⟨h3629, rfl⟩)
set_option maxRecDepth 20000 in
theorem s_X7_fail (l : Launch) (V : VX) (b M Z T N : Nat) (σ : Mem) (a : Nat) (x901 : Int32) (h0 : HT V (b, M, Z, T) σ) (hk : kA b a = 3) (hp0 : x901 ≠ 0) (hM : M + 0 ≤ 1000000000) : Ct l V yX7_fail cX7_fail 2 none 1 0 0 N σ [.ref a, .int x901] (fun r τ => HK V (b, M, 0, T) [0, 1, 2, 4, 5, 6, 7, 8, 9, 10, 11, 12, 13, 14, 15, 16, 17, 18, 19] σ τ ∧ r = none) := by
  refine Ct.of (by decide) (Nat.le_of_ble_eq_true rfl) [(0, .ref a), (1, .int x901)] rfl (fun X hX F hQ => ?_)
  have h1 : HK V (b, M, Z, T) [0, 1, 2, 4, 5, 6, 7, 8, 9, 10, 11, 12, 13, 14, 15, 16, 17, 18, 19] σ σ := HK.start h0
  refine m_aload_n F rfl e_X7_fail_0 ?_
  refine m_iload_n F rfl e_X7_fail_1 ?_
  refine m_aload_n F rfl e_X7_fail_2 ?_
  refine t_get F e_X7_fail_3 fl_X7_188 (fun _ => o3) h1 hk rfl (fun v hv f3633 => ?_)
  obtain ⟨x3634, rfl⟩ := hv
  refine t_callV F e_X7_fail_6 (s_X7_failAt (x_l X) V b M Z T _ _ a x901 x3634 h1.1 hk (by first | omega | assumption | decide) (by omega)) cb_X7_failAt ml_X7_197 im_X7_failAt se_X7_failAt (fun _ => o3) h1 hk rfl rfl (rest := []) rfl (Nat.le_of_ble_eq_true rfl) ⟨Nat.le_of_ble_eq_true rfl, Nat.le_of_ble_eq_true rfl⟩ ⟨Nat.le_of_ble_eq_true rfl, Nat.le_of_ble_eq_true rfl⟩ (fun r σ3635 hp => ?_)
  obtain ⟨h3637, rfl⟩ := hp
  have h3636 := HK.trans h1 h3637 (by decide)
  exact m_vret F hQ e_X7_fail_9 (⟨h3636, rfl⟩)
set_option maxRecDepth 20000 in
theorem s_X7_startLine (l : Launch) (V : VX) (b M Z T N : Nat) (σ : Mem) (a : Nat) (x901 : Int32) (h0 : HT V (b, M, Z, T) σ) (hk : kA b a = 3) (hM : M + 0 ≤ 1000000000) : Ct l V yX7_startLine cX7_startLine 2 none 2 0 0 N σ [.ref a, .int x901] (fun r τ => HK V (b, M, Z, T) [0, 1, 2, 4, 5, 6, 7, 8, 9, 10, 11, 12, 13, 14, 15, 16, 17, 18, 19] σ τ ∧ r = none) := by
  refine Ct.of (by decide) (Nat.le_of_ble_eq_true rfl) [(0, .ref a), (1, .int x901)] rfl (fun X hX F hQ => ?_)
  have h1 : HK V (b, M, Z, T) [0, 1, 2, 4, 5, 6, 7, 8, 9, 10, 11, 12, 13, 14, 15, 16, 17, 18, 19] σ σ := HK.start h0
  refine m_iload_n F rfl e_X7_startLine_0 ?_
  refine m_if_eq F e_X7_startLine_1 (fun q1 => ?_) (fun q1 => ?_)
  · refine m_aload_n F rfl e_X7_startLine_10 ?_
    refine t_callV F e_X7_startLine_11 (s_X7_advance (x_l X) V b M Z T _ _ a  h1.1 hk  (by omega)) cb_X7_advance ml_X7_58 im_X7_advance se_X7_advance (fun _ => o3) h1 hk rfl rfl (rest := []) rfl (Nat.le_of_ble_eq_true rfl) ⟨Nat.le_of_ble_eq_true rfl, Nat.le_of_ble_eq_true rfl⟩ ⟨Nat.le_of_ble_eq_true rfl, Nat.le_of_ble_eq_true rfl⟩ (fun r σ3638 hp => ?_)
    obtain ⟨h3640, rfl⟩ := hp
    have h3639 := HK.trans h1 h3640 (by decide)
    exact m_vret F hQ e_X7_startLine_14 (⟨h3639, rfl⟩)
  · refine m_aload_n F rfl e_X7_startLine_4 ?_
    refine m_iload_n F rfl e_X7_startLine_5 ?_
    refine t_callV F e_X7_startLine_6 (s_X7_fail (x_l X) V b M Z T _ _ a x901 h1.1 hk (by first | omega | assumption | decide) (by omega)) cb_X7_fail ml_X7_77 im_X7_fail se_X7_fail (fun _ => o3) h1 hk rfl rfl (rest := []) rfl (Nat.le_of_ble_eq_true rfl) ⟨Nat.le_of_ble_eq_true rfl, Nat.le_of_ble_eq_true rfl⟩ ⟨Nat.le_of_ble_eq_true rfl, Nat.le_of_ble_eq_true rfl⟩ (fun r σ3641 hp => ?_)
    obtain ⟨h3643, rfl⟩ := hp
    have h3642 := HK.trans h1 h3643 (by decide)
    exact m_vret F hQ e_X7_startLine_9 (⟨(h3642.mono (M' := M) (Z' := Z) (by omega) (by intro e; first | rfl | assumption | omega)), rfl⟩)
set_option maxRecDepth 20000 in
theorem s_X7_readStop (l : Launch) (V : VX) (b M Z T N : Nat) (σ : Mem) (a : Nat) (h0 : HT V (b, M, Z, T) σ) (hk : kA b a = 3) (hM : M + 0 ≤ 1000000000) : Ct l V yX7_readStop cX7_readStop 1 none 2 0 0 N σ [.ref a] (fun r τ => HK V (b, M, Z, T) [0, 1, 2, 4, 5, 6, 7, 8, 9, 10, 11, 12, 13, 14, 15, 16, 17, 18, 19] σ τ ∧ r = none) := by
  refine Ct.of (by decide) (Nat.le_of_ble_eq_true rfl) [(0, .ref a)] rfl (fun X hX F hQ => ?_)
  have h1 : HK V (b, M, Z, T) [0, 1, 2, 4, 5, 6, 7, 8, 9, 10, 11, 12, 13, 14, 15, 16, 17, 18, 19] σ σ := HK.start h0
  refine m_aload_n F rfl e_X7_readStop_0 ?_
  refine t_get F e_X7_readStop_1 fl_X7_55 (fun _ => o3) h1 hk rfl (fun v hv f3644 => ?_)
  obtain ⟨x3645, hx3645, rfl⟩ := hv
  replace hx3645 : Z = 0 → x3645 ≠ 0 := hx3645
  refine m_if_eq F e_X7_readStop_4 (fun q4 => ?_) (fun q4 => ?_)
  · refine m_aload_n F rfl e_X7_readStop_8 ?_
    refine t_get F e_X7_readStop_9 fl_X7_61 (fun _ => o3) h1 hk rfl (fun v hv f3646 => ?_)
    obtain ⟨x3647, rfl⟩ := hv
    refine m_iconst F (v := 3) (by decide) e_X7_readStop_12 ?_
    refine m_icmp_eq F e_X7_readStop_13 (fun q13 => ?_) (fun q13 => ?_)
    · refine m_aload_n F rfl e_X7_readStop_22 ?_
      refine m_dup F rfl e_X7_readStop_23 ?_
      refine t_get F e_X7_readStop_24 fl_X7_52 (fun _ => o3) h1 hk rfl (fun v hv f3648 => ?_)
      obtain ⟨x3649, rfl⟩ := hv
      refine m_iconst F (v := 1) (by decide) e_X7_readStop_27 ?_
      refine m_iadd F e_X7_readStop_28 ?_
      refine Wm.top (fun x3650 _ => ?_)
      refine t_put F e_X7_readStop_29 fp_X7_52 (fun _ => o3) h1 hk rfl ⟨_, rfl⟩ rfl rfl (by decide) (fun σ3651 h3652 g3653 g3654 f3655 => ?_)
      refine m_aload_n F rfl e_X7_readStop_32 ?_
      refine t_callV F e_X7_readStop_33 (s_X7_advance (x_l X) V b M Z T _ _ a  h3652.1 hk  (by omega)) cb_X7_advance ml_X7_58 im_X7_advance se_X7_advance (fun _ => o3) h3652 hk rfl rfl (rest := []) rfl (Nat.le_of_ble_eq_true rfl) ⟨Nat.le_of_ble_eq_true rfl, Nat.le_of_ble_eq_true rfl⟩ ⟨Nat.le_of_ble_eq_true rfl, Nat.le_of_ble_eq_true rfl⟩ (fun r σ3656 hp => ?_)
      obtain ⟨h3658, rfl⟩ := hp
      have h3657 := HK.trans h3652 h3658 (by decide)
      exact m_vret F hQ e_X7_readStop_36 (⟨h3657, rfl⟩)
    · refine m_aload_n F rfl e_X7_readStop_16 ?_
      refine m_iconst F (v := 1) (by decide) e_X7_readStop_17 ?_
      refine t_callV F e_X7_readStop_18 (s_X7_fail (x_l X) V b M Z T _ _ a 1 h1.1 hk (by first | omega | assumption | decide) (by omega)) cb_X7_fail ml_X7_77 im_X7_fail se_X7_fail (fun _ => o3) h1 hk rfl rfl (rest := []) rfl (Nat.le_of_ble_eq_true rfl) ⟨Nat.le_of_ble_eq_true rfl, Nat.le_of_ble_eq_true rfl⟩ ⟨Nat.le_of_ble_eq_true rfl, Nat.le_of_ble_eq_true rfl⟩ (fun r σ3659 hp => ?_)
      obtain ⟨h3661, rfl⟩ := hp
      have h3660 := HK.trans h1 h3661 (by decide)
      exact m_vret F hQ e_X7_readStop_21 (⟨(h3660.mono (M' := M) (Z' := Z) (by omega) (by intro e; first | rfl | assumption | omega)), rfl⟩)
  · exact m_vret F hQ e_X7_readStop_7 (⟨h1, rfl⟩)
