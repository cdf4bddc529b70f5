set_option maxRecDepth 20000 in
theorem s_X7_begin (l : Launch) (V : VX) (b M Z T N : Nat) (σ : Mem) (a : Nat) (n901 : Nat) (r902 : Nat) (h0 : HT V (b, M, Z, T) σ) (hk : kA b a = 3) (hn901 : n901 ≤ 700) (k902 : kA b r902 = 7) (hM : M + 0 ≤ 1000000000) : Ct l V yX7_begin cX7_begin 3 none 1 0 0 N σ [.ref a, .int (nI n901), .ref r902] (fun r τ => HK V (b, M, 1, T) [0, 1, 7, 12, 15, 19] σ τ ∧ r = none) := by
  refine Ct.of (by decide) (Nat.le_of_ble_eq_true rfl) [(0, .ref a), (1, .int (nI n901)), (2, .ref r902)] rfl (fun X hX F hQ => ?_)
  have h1 : HK V (b, M, Z, T) [0, 1, 7, 12, 15, 19] σ σ := HK.start h0
  have h2 := h1.mono (M' := M) (Z' := 1) (Nat.le_refl _) (fun e => absurd e (by decide))
  refine m_aload_n F rfl e_X7_begin_0 ?_
  refine m_iload_n F rfl e_X7_begin_1 ?_
  refine m_aload_n F rfl e_X7_begin_2 ?_
  refine t_get F e_X7_begin_3 fl_X7_19 (fun _ => o3) h2 hk rfl (fun v hv f3622 => ?_)
  obtain ⟨r3623, k3624, rfl⟩ := hv
  refine t_alenB F (len := 700) e_X7_begin_6 (fun _ => o2) h2 k3624 (v := 700) (by decide) ?_
  refine m_min F e_X7_begin_7 ml_X7_27 sm_min ini_math co_min (Nat.le_of_ble_eq_true rfl) (Nat.le_of_ble_eq_true rfl) (Nat.le_of_ble_eq_true rfl) (Nat.le_of_ble_eq_true rfl) ?_
  refine Wm.topE (w := nI (min n901 700)) (minN (a := n901) (b := 700) (by omega) (by omega)) ?_
  refine t_put F e_X7_begin_10 fp_X7_33 (fun _ => o3) h2 hk rfl ⟨min n901 700, (show min n901 700 ≤ 700 by omega), rfl⟩ rfl rfl (by decide) (fun σ3625 h3626 g3627 g3628 f3629 => ?_)
  refine m_aload_n F rfl e_X7_begin_13 ?_
  refine m_aload_n F rfl e_X7_begin_14 ?_
  refine t_put F e_X7_begin_15 fp_X7_23 (fun _ => o3) h3626 hk rfl ⟨_, k902, rfl⟩ rfl rfl (by decide) (fun σ3630 h3631 g3632 g3633 f3634 => ?_)
  refine m_aload_n F rfl e_X7_begin_18 ?_
  refine t_get F e_X7_begin_19 fl_X7_9 (fun _ => o3) h3631 hk rfl (fun v hv f3635 => ?_)
  obtain ⟨r3636, k3637, rfl⟩ := hv
  refine m_iconst F (v := 0) (by decide) e_X7_begin_22 ?_
  refine m_callS F e_X7_begin_23 (s_J7_fill_53178_4 (x_l X) V b M 1 T _ _ r3636 0 h3631.1 k3637 (by omega)) cb_J7_fill_53178 ml_X7_36 sm_J7_fill_53178 rfl (rest := []) rfl (Nat.le_of_ble_eq_true rfl) ⟨Nat.le_of_ble_eq_true rfl, Nat.le_of_ble_eq_true rfl⟩ ⟨Nat.le_of_ble_eq_true rfl, Nat.le_of_ble_eq_true rfl⟩ (k' := 0) (z' := 0) (N' := N) rfl rfl rfl (fun r σ3638 hp => ?_)
  obtain ⟨h3640, rfl⟩ := hp
  have h3639 := HK.trans h3631 h3640 (by decide)
  refine m_aload_n F rfl e_X7_begin_26 ?_
  refine m_iconst F (v := 0) (by decide) e_X7_begin_27 ?_
  refine t_put F e_X7_begin_28 fp_X7_42 (fun _ => o3) h3639 hk rfl ⟨0, (show 0 ≤ 700 by omega), rfl⟩ rfl rfl (by decide) (fun σ3641 h3642 g3643 g3644 f3645 => ?_)
  refine m_aload_n F rfl e_X7_begin_31 ?_
  refine m_iconst F (v := 0) (by decide) e_X7_begin_32 ?_
  refine t_put F e_X7_begin_33 fp_X7_45 (fun _ => o3) h3642 hk rfl ⟨_, rfl⟩ rfl rfl (by decide) (fun σ3646 h3647 g3648 g3649 f3650 => ?_)
  refine m_aload_n F rfl e_X7_begin_36 ?_
  refine m_iconst F (v := 0) (by decide) e_X7_begin_37 ?_
  refine t_put F e_X7_begin_38 fp_X7_48 (fun _ => o3) h3647 hk rfl ⟨0, (show 0 ≤ 1 by omega), rfl⟩ (by decide) rfl (by decide) (fun σ3651 h3652 g3653 g3654 f3655 => ?_)
  refine m_aload_n F rfl e_X7_begin_41 ?_
  refine m_iconst F (v := 0) (by decide) e_X7_begin_42 ?_
  refine t_put F e_X7_begin_43 fp_X7_52 (fun _ => o3) h3652 hk rfl ⟨_, rfl⟩ rfl rfl (by decide) (fun σ3656 h3657 g3658 g3659 f3660 => ?_)
  refine m_aload_n F rfl e_X7_begin_46 ?_
  refine m_iconst F (v := 0) (by decide) e_X7_begin_47 ?_
  refine t_put F e_X7_begin_48 fp_X7_55 (fun _ => o3) h3657 hk rfl ⟨_, (fun e => absurd e (show ¬ (1 : Nat) = 0 by decide)), rfl⟩ rfl rfl (by decide) (fun σ3661 h3662 g3663 g3664 f3665 => ?_)
  refine m_aload_n F rfl e_X7_begin_51 ?_
  refine m_iconst F (v := (-1)) (by decide) e_X7_begin_52 ?_
  refine t_put F e_X7_begin_53 fp_X7_15 (fun _ => o3) h3662 hk rfl ⟨_, rfl⟩ rfl rfl (by decide) (fun σ3666 h3667 g3668 g3669 f3670 => ?_)
  exact m_vret F hQ e_X7_begin_56 (⟨h3667, rfl⟩)
set_option maxRecDepth 20000 in
theorem s_X7_tokenAt (l : Launch) (V : VX) (b M Z T N : Nat) (σ : Mem) (a : Nat) (n901 : Nat) (h0 : HT V (b, M, Z, T) σ) (hk : kA b a = 3) (hn901 : n901 ≤ 700) (hM : M + 0 ≤ 1000000000) : Ct l V yX7_tokenAt cX7_tokenAt 3 (some .int) 0 0 0 N σ [.ref a, .int (nI n901)] (fun r τ => HK V (b, M, Z, T) [0, 1, 3, 7, 12, 15, 19] σ τ ∧ ∃ x : Int32, (x ≠ 0 → n901 < 700) ∧ r = some (.int x)) := by
  refine Ct.of (by decide) (Nat.le_of_ble_eq_true rfl) [(0, .ref a), (1, .int (nI n901))] rfl (fun X hX F hQ => ?_)
  have h1 : HK V (b, M, Z, T) [0, 1, 3, 7, 12, 15, 19] σ σ := HK.start h0
  refine m_iload_n F rfl e_X7_tokenAt_0 ?_
  refine m_if_lt F e_X7_tokenAt_1 (fun q1 => ?_) (fun q1 => ?_)
  · have c1 : n901 < 0 := (nI_ltI (a := n901) (b := 0) (by omega) (by omega)).mp q1
    refine m_iconst F (v := 0) (by decide) e_X7_tokenAt_12 ?_
    exact m_iret F hQ e_X7_tokenAt_13 (⟨h1, 0, (by first | (intro _; omega) | (intro e; exact absurd rfl e)), rfl⟩)
  · have c1 : n901 ≥ 0 := by have hh := mt (nI_ltI (a := n901) (b := 0) (by omega) (by omega)).mpr q1; omega
    refine m_iload_n F rfl e_X7_tokenAt_4 ?_
    refine m_aload_n F rfl e_X7_tokenAt_5 ?_
    refine t_get F e_X7_tokenAt_6 fl_X7_33 (fun _ => o3) h1 hk rfl (fun v hv f3671 => ?_)
    obtain ⟨n3672, hn3672, rfl⟩ := hv
    replace hn3672 : n3672 ≤ 700 := hn3672
    refine m_icmp_lt F e_X7_tokenAt_9 (fun q9 => ?_) (fun q9 => ?_)
    · have c9 : n901 < n3672 := (nI_ltI (a := n901) (b := n3672) (by omega) (by omega)).mp q9
      refine m_aload_n F rfl e_X7_tokenAt_14 ?_
      refine t_get F e_X7_tokenAt_15 fl_X7_19 (fun _ => o3) h1 hk rfl (fun v hv f3673 => ?_)
      obtain ⟨r3674, k3675, rfl⟩ := hv
      refine m_iload_n F rfl e_X7_tokenAt_18 ?_
      refine t_bald F (len := 700) (j := n901) e_X7_tokenAt_19 (fun _ => o2) h1 k3675 (nI_clamp (by omega)) (vp_in_nI (by omega) (by decide)) (fun x3676 => ?_)
      refine m_istore_n F (lv' := [(2, .int x3676), (0, .ref a), (1, .int (nI n901))]) e_X7_tokenAt_20 (by decide) rfl ?_
      refine m_iload_n F rfl e_X7_tokenAt_21 ?_
      refine m_bipush F (v := 97) (by decide) e_X7_tokenAt_22 ?_
      refine m_icmp_lt F e_X7_tokenAt_24 (fun q24 => ?_) (fun q24 => ?_)
      · refine m_iload_n F rfl e_X7_tokenAt_35 ?_
        refine m_bipush F (v := 48) (by decide) e_X7_tokenAt_36 ?_
        refine m_icmp_lt F e_X7_tokenAt_38 (fun q38 => ?_) (fun q38 => ?_)
        · refine m_iload_n F rfl e_X7_tokenAt_49 ?_
          refine m_bipush F (v := 59) (by decide) e_X7_tokenAt_50 ?_
          refine m_icmp_ne F e_X7_tokenAt_52 (fun q52 => ?_) (fun q52 => ?_)
          · refine m_iconst F (v := 4) (by decide) e_X7_tokenAt_59 ?_
            exact m_iret F hQ e_X7_tokenAt_60 (⟨h1, 4, (by first | (intro _; omega) | (intro e; exact absurd rfl e)), rfl⟩)
          · refine m_iconst F (v := 3) (by decide) e_X7_tokenAt_55 ?_
            refine m_goto F e_X7_tokenAt_56 ?_
            exact m_iret F hQ e_X7_tokenAt_60 (⟨h1, 3, (by first | (intro _; omega) | (intro e; exact absurd rfl e)), rfl⟩)
        · obtain ⟨n3677, hn3677, rfl⟩ := nI_nn (x := x3676) (fun e => q38 (Int32.lt_of_lt_of_le e (by decide)))
          have c38 : n3677 ≥ 48 := by have hh := mt (nI_ltI (a := n3677) (b := 48) (by omega) (by omega)).mpr q38; omega
          refine m_iload_n F rfl e_X7_tokenAt_41 ?_
          refine m_bipush F (v := 57) (by decide) e_X7_tokenAt_42 ?_
          refine m_icmp_gt F e_X7_tokenAt_44 (fun q44 => ?_) (fun q44 => ?_)
          · have c44 : n3677 > 57 := (nI_ltI (a := 57) (b := n3677) (by omega) (by omega)).mp q44
            refine m_iload_n F rfl e_X7_tokenAt_49 ?_
            refine m_bipush F (v := 59) (by decide) e_X7_tokenAt_50 ?_
            refine m_icmp_ne F e_X7_tokenAt_52 (fun q52 => ?_) (fun q52 => ?_)
            · have c52 : n3677 ≠ 59 := by have hh := mt (nI_eq (a := n3677) (b := 59) (by omega) (by omega)).mpr q52; omega
              refine m_iconst F (v := 4) (by decide) e_X7_tokenAt_59 ?_
              exact m_iret F hQ e_X7_tokenAt_60 (⟨h1, 4, (by first | (intro _; omega) | (intro e; exact absurd rfl e)), rfl⟩)
            · have c52 : n3677 = 59 := (nI_eq (a := n3677) (b := 59) (by omega) (by omega)).mp q52
              refine m_iconst F (v := 3) (by decide) e_X7_tokenAt_55 ?_
              refine m_goto F e_X7_tokenAt_56 ?_
              exact m_iret F hQ e_X7_tokenAt_60 (⟨h1, 3, (by first | (intro _; omega) | (intro e; exact absurd rfl e)), rfl⟩)
          · have c44 : n3677 ≤ 57 := by have hh := mt (nI_ltI (a := 57) (b := n3677) (by omega) (by omega)).mpr q44; omega
            refine m_iconst F (v := 2) (by decide) e_X7_tokenAt_47 ?_
            exact m_iret F hQ e_X7_tokenAt_48 (⟨h1, 2, (by first | (intro _; omega) | (intro e; exact absurd rfl e)), rfl⟩)
      · obtain ⟨n3678, hn3678, rfl⟩ := nI_nn (x := x3676) (fun e => q24 (Int32.lt_of_lt_of_le e (by decide)))
        have c24 : n3678 ≥ 97 := by have hh := mt (nI_ltI (a := n3678) (b := 97) (by omega) (by omega)).mpr q24; omega
        refine m_iload_n F rfl e_X7_tokenAt_27 ?_
        refine m_bipush F (v := 122) (by decide) e_X7_tokenAt_28 ?_
        refine m_icmp_gt F e_X7_tokenAt_30 (fun q30 => ?_) (fun q30 => ?_)
        · have c30 : n3678 > 122 := (nI_ltI (a := 122) (b := n3678) (by omega) (by omega)).mp q30
          refine m_iload_n F rfl e_X7_tokenAt_35 ?_
          refine m_bipush F (v := 48) (by decide) e_X7_tokenAt_36 ?_
          refine m_icmp_lt F e_X7_tokenAt_38 (fun q38 => ?_) (fun q38 => ?_)
          · have c38 : n3678 < 48 := (nI_ltI (a := n3678) (b := 48) (by omega) (by omega)).mp q38
            refine m_iload_n F rfl e_X7_tokenAt_49 ?_
            refine m_bipush F (v := 59) (by decide) e_X7_tokenAt_50 ?_
            refine m_icmp_ne F e_X7_tokenAt_52 (fun q52 => ?_) (fun q52 => ?_)
            · have c52 : n3678 ≠ 59 := by have hh := mt (nI_eq (a := n3678) (b := 59) (by omega) (by omega)).mpr q52; omega
              refine m_iconst F (v := 4) (by decide) e_X7_tokenAt_59 ?_
              exact m_iret F hQ e_X7_tokenAt_60 (⟨h1, 4, (by first | (intro _; omega) | (intro e; exact absurd rfl e)), rfl⟩)
            · have c52 : n3678 = 59 := (nI_eq (a := n3678) (b := 59) (by omega) (by omega)).mp q52
              refine m_iconst F (v := 3) (by decide) e_X7_tokenAt_55 ?_
              refine m_goto F e_X7_tokenAt_56 ?_
              exact m_iret F hQ e_X7_tokenAt_60 (⟨h1, 3, (by first | (intro _; omega) | (intro e; exact absurd rfl e)), rfl⟩)
          · have c38 : n3678 ≥ 48 := by have hh := mt (nI_ltI (a := n3678) (b := 48) (by omega) (by omega)).mpr q38; omega
            refine m_iload_n F rfl e_X7_tokenAt_41 ?_
            refine m_bipush F (v := 57) (by decide) e_X7_tokenAt_42 ?_
            refine m_icmp_gt F e_X7_tokenAt_44 (fun q44 => ?_) (fun q44 => ?_)
            · have c44 : n3678 > 57 := (nI_ltI (a := 57) (b := n3678) (by omega) (by omega)).mp q44
              refine m_iload_n F rfl e_X7_tokenAt_49 ?_
              refine m_bipush F (v := 59) (by decide) e_X7_tokenAt_50 ?_
              refine m_icmp_ne F e_X7_tokenAt_52 (fun q52 => ?_) (fun q52 => ?_)
              · have c52 : n3678 ≠ 59 := by have hh := mt (nI_eq (a := n3678) (b := 59) (by omega) (by omega)).mpr q52; omega
                refine m_iconst F (v := 4) (by decide) e_X7_tokenAt_59 ?_
                exact m_iret F hQ e_X7_tokenAt_60 (⟨h1, 4, (by first | (intro _; omega) | (intro e; exact absurd rfl e)), rfl⟩)
              · have c52 : n3678 = 59 := (nI_eq (a := n3678) (b := 59) (by omega) (by omega)).mp q52
                refine m_iconst F (v := 3) (by decide) e_X7_tokenAt_55 ?_
                refine m_goto F e_X7_tokenAt_56 ?_
                exact m_iret F hQ e_X7_tokenAt_60 (⟨h1, 3, (by first | (intro _; omega) | (intro e; exact absurd rfl e)), rfl⟩)
            · have c44 : n3678 ≤ 57 := by have hh := mt (nI_ltI (a := 57) (b := n3678) (by omega) (by omega)).mpr q44; omega
              refine m_iconst F (v := 2) (by decide) e_X7_tokenAt_47 ?_
              exact m_iret F hQ e_X7_tokenAt_48 (⟨h1, 2, (by first | (intro _; omega) | (intro e; exact absurd rfl e)), rfl⟩)
        · have c30 : n3678 ≤ 122 := by have hh := mt (nI_ltI (a := 122) (b := n3678) (by omega) (by omega)).mpr q30; omega
          refine m_iconst F (v := 1) (by decide) e_X7_tokenAt_33 ?_
          exact m_iret F hQ e_X7_tokenAt_34 (⟨h1, 1, (by first | (intro _; omega) | (intro e; exact absurd rfl e)), rfl⟩)
    · have c9 : n901 ≥ n3672 := by have hh := mt (nI_ltI (a := n901) (b := n3672) (by omega) (by omega)).mpr q9; omega
      refine m_iconst F (v := 0) (by decide) e_X7_tokenAt_12 ?_
      exact m_iret F hQ e_X7_tokenAt_13 (⟨h1, 0, (by first | (intro _; omega) | (intro e; exact absurd rfl e)), rfl⟩)
set_option maxRecDepth 20000 in
theorem lp_X7_advanceNumber_5 {V : VX} {X : MX} {b M Z T N : Nat} {σ : Mem} {a : Nat}   (F : Fx V X yX7_advanceNumber cX7_advanceNumber 1 none (rmd 0 0 0)) (hQ : Rt V X 0 0 N (fun r τ => HK V (b, M, Z, T) [0, 1, 7, 12, 15, 19] σ τ ∧ r = none)) (hk : kA b a = 3) (hM : M + 0 ≤ 1000000000)  : ∀ (fuel : Nat) (nx : Nat) (τ : Mem), HK V (b, M, Z, T) [0, 1, 7, 12, 15, 19] σ τ → fld τ a 4 = some (.int (nI nx)) ∧ nx ≤ 700 → 700 - nx < fuel → Wm V X 1 N τ 0 0 5 [(0, .ref a)] [] := by
  intro fuel
  induction fuel with
  | zero => intro nx τ h1 hi hm; exact absurd hm (Nat.not_lt_zero _)
  | succ fuel ih =>
    intro nx τ h1 hi hm
    obtain ⟨hfnx, hi⟩ := hi
    refine m_aload_n F rfl e_X7_advanceNumber_5 ?_
    refine t_getC F e_X7_advanceNumber_6 fl_X7_42 (fun _ => o3) h1 hk (hfnx) ?_
    refine m_aload_n F rfl e_X7_advanceNumber_9 ?_
    refine t_get F e_X7_advanceNumber_10 fl_X7_33 (fun _ => o3) h1 hk rfl (fun v hv f3679 => ?_)
    obtain ⟨n3680, hn3680, rfl⟩ := hv
    replace hn3680 : n3680 ≤ 700 := hn3680
    refine m_icmp_ge F e_X7_advanceNumber_13 (fun q13 => ?_) (fun q13 => ?_)
    · have c13 : nx ≥ n3680 := (nI_leI (a := n3680) (b := nx) (by omega) (by omega)).mp q13
      exact m_vret F hQ e_X7_advanceNumber_95 (⟨h1, rfl⟩)
    · have c13 : nx < n3680 := by have hh := mt (nI_leI (a := n3680) (b := nx) (by omega) (by omega)).mpr q13; omega
      refine m_aload_n F rfl e_X7_advanceNumber_16 ?_
      refine t_get F e_X7_advanceNumber_17 fl_X7_19 (fun _ => o3) h1 hk rfl (fun v hv f3681 => ?_)
      obtain ⟨r3682, k3683, rfl⟩ := hv
      refine m_aload_n F rfl e_X7_advanceNumber_20 ?_
      refine t_getC F e_X7_advanceNumber_21 fl_X7_42 (fun _ => o3) h1 hk (hfnx) ?_
      refine t_bald F (len := 700) (j := nx) e_X7_advanceNumber_24 (fun _ => o2) h1 k3683 (nI_clamp (by omega)) (vp_in_nI (by omega) (by decide)) (fun x3684 => ?_)
      refine m_bipush F (v := 48) (by decide) e_X7_advanceNumber_25 ?_
      refine m_icmp_lt F e_X7_advanceNumber_27 (fun q27 => ?_) (fun q27 => ?_)
      · exact m_vret F hQ e_X7_advanceNumber_95 (⟨h1, rfl⟩)
      · obtain ⟨n3685, hn3685, rfl⟩ := nI_nn (x := x3684) (fun e => q27 (Int32.lt_of_lt_of_le e (by decide)))
        have c27 : n3685 ≥ 48 := by have hh := mt (nI_ltI (a := n3685) (b := 48) (by omega) (by omega)).mpr q27; omega
        refine m_aload_n F rfl e_X7_advanceNumber_30 ?_
        refine t_getC F e_X7_advanceNumber_31 fl_X7_19 (fun _ => o3) h1 hk (f3681) ?_
        refine m_aload_n F rfl e_X7_advanceNumber_34 ?_
        refine t_getC F e_X7_advanceNumber_35 fl_X7_42 (fun _ => o3) h1 hk (hfnx) ?_
        refine t_bald F (len := 700) (j := nx) e_X7_advanceNumber_38 (fun _ => o2) h1 k3683 (nI_clamp (by omega)) (vp_in_nI (by omega) (by decide)) (fun x3686 => ?_)
        refine m_bipush F (v := 57) (by decide) e_X7_advanceNumber_39 ?_
        refine m_icmp_gt F e_X7_advanceNumber_41 (fun q41 => ?_) (fun q41 => ?_)
        · obtain ⟨n3687, hn3687, rfl⟩ := nI_nn (x := x3686) (fun e => Int32.lt_irrefl (Int32.lt_trans e (Int32.lt_of_le_of_lt (by decide) q41)))
          have c41 : n3687 > 57 := (nI_ltI (a := 57) (b := n3687) (by omega) (by omega)).mp q41
          exact m_vret F hQ e_X7_advanceNumber_95 (⟨h1, rfl⟩)
        · refine m_aload_n F rfl e_X7_advanceNumber_44 ?_
          refine m_aload_n F rfl e_X7_advanceNumber_45 ?_
          refine t_get F e_X7_advanceNumber_46 fl_X7_70 (fun _ => o3) h1 hk rfl (fun v hv f3688 => ?_)
          obtain ⟨x3689, rfl⟩ := hv
          refine m_ldc F kc_X7_216 e_X7_advanceNumber_49 ?_
          refine m_icmp_lt F e_X7_advanceNumber_51 (fun q51 => ?_) (fun q51 => ?_)
          · refine m_aload_n F rfl e_X7_advanceNumber_59 ?_
            refine t_getC F e_X7_advanceNumber_60 fl_X7_70 (fun _ => o3) h1 hk (f3688) ?_
            refine m_bipush F (v := 10) (by decide) e_X7_advanceNumber_63 ?_
            refine m_imul F e_X7_advanceNumber_65 ?_
            refine Wm.top (fun x3690 _ => ?_)
            refine m_aload_n F rfl e_X7_advanceNumber_66 ?_
            refine t_getC F e_X7_advanceNumber_67 fl_X7_19 (fun _ => o3) h1 hk (f3681) ?_
            refine m_aload_n F rfl e_X7_advanceNumber_70 ?_
            refine t_getC F e_X7_advanceNumber_71 fl_X7_42 (fun _ => o3) h1 hk (hfnx) ?_
            refine t_bald F (len := 700) (j := nx) e_X7_advanceNumber_74 (fun _ => o2) h1 k3683 (nI_clamp (by omega)) (vp_in_nI (by omega) (by decide)) (fun x3691 => ?_)
            refine m_iadd F e_X7_advanceNumber_75 ?_
            refine Wm.top (fun x3692 _ => ?_)
            refine m_bipush F (v := 48) (by decide) e_X7_advanceNumber_76 ?_
            refine m_isub F e_X7_advanceNumber_78 ?_
            refine Wm.top (fun x3693 _ => ?_)
            refine t_put F e_X7_advanceNumber_79 fp_X7_70 (fun _ => o3) h1 hk rfl ⟨_, rfl⟩ rfl rfl (by decide) (fun σ3694 h3695 g3696 g3697 f3698 => ?_)
            refine m_aload_n F rfl e_X7_advanceNumber_82 ?_
            refine m_dup F rfl e_X7_advanceNumber_83 ?_
            refine t_getC F e_X7_advanceNumber_84 fl_X7_42 (fun _ => o3) h3695 hk ((g3697 4 (by decide)).trans hfnx) ?_
            refine m_iconst F (v := 1) (by decide) e_X7_advanceNumber_87 ?_
            refine m_iadd F e_X7_advanceNumber_88 ?_
            refine Wm.topE (w := nI (nx + 1)) (nI_add nx 1) ?_
            refine t_put F e_X7_advanceNumber_89 fp_X7_42 (fun _ => o3) h3695 hk rfl ⟨nx + 1, (show nx + 1 ≤ 700 by omega), rfl⟩ rfl rfl (by decide) (fun σ3699 h3700 g3701 g3702 f3703 => ?_)
            refine m_goto F e_X7_advanceNumber_92 ?_
            exact ih (nx + 1) _ h3700 ⟨(f3703), (by omega)⟩ (by omega)
          · obtain ⟨n3704, hn3704, rfl⟩ := nI_nn (x := x3689) (fun e => q51 (Int32.lt_of_lt_of_le e (by decide)))
            have c51 : n3704 ≥ 100000000 := by have hh := mt (nI_ltI (a := n3704) (b := 100000000) (by omega) (by omega)).mpr q51; omega
            refine m_ldc F kc_X7_216 e_X7_advanceNumber_54 ?_
            refine m_goto F e_X7_advanceNumber_56 ?_
            refine t_put F e_X7_advanceNumber_79 fp_X7_70 (fun _ => o3) h1 hk rfl ⟨_, rfl⟩ rfl rfl (by decide) (fun σ3705 h3706 g3707 g3708 f3709 => ?_)
            refine m_aload_n F rfl e_X7_advanceNumber_82 ?_
            refine m_dup F rfl e_X7_advanceNumber_83 ?_
            refine t_getC F e_X7_advanceNumber_84 fl_X7_42 (fun _ => o3) h3706 hk ((g3708 4 (by decide)).trans hfnx) ?_
            refine m_iconst F (v := 1) (by decide) e_X7_advanceNumber_87 ?_
            refine m_iadd F e_X7_advanceNumber_88 ?_
            refine Wm.topE (w := nI (nx + 1)) (nI_add nx 1) ?_
            refine t_put F e_X7_advanceNumber_89 fp_X7_42 (fun _ => o3) h3706 hk rfl ⟨nx + 1, (show nx + 1 ≤ 700 by omega), rfl⟩ rfl rfl (by decide) (fun σ3710 h3711 g3712 g3713 f3714 => ?_)
            refine m_goto F e_X7_advanceNumber_92 ?_
            exact ih (nx + 1) _ h3711 ⟨(f3714), (by omega)⟩ (by omega)
set_option maxRecDepth 20000 in
theorem s_X7_advanceNumber (l : Launch) (V : VX) (b M Z T N : Nat) (σ : Mem) (a : Nat) (h0 : HT V (b, M, Z, T) σ) (hk : kA b a = 3) (hM : M + 0 ≤ 1000000000) : Ct l V yX7_advanceNumber cX7_advanceNumber 1 none 0 0 0 N σ [.ref a] (fun r τ => HK V (b, M, Z, T) [0, 1, 7, 12, 15, 19] σ τ ∧ r = none) := by
  refine Ct.of (by decide) (Nat.le_of_ble_eq_true rfl) [(0, .ref a)] rfl (fun X hX F hQ => ?_)
  have h1 : HK V (b, M, Z, T) [0, 1, 7, 12, 15, 19] σ σ := HK.start h0
  refine m_aload_n F rfl e_X7_advanceNumber_0 ?_
  refine m_iconst F (v := 0) (by decide) e_X7_advanceNumber_1 ?_
  refine t_put F e_X7_advanceNumber_2 fp_X7_70 (fun _ => o3) h1 hk rfl ⟨_, rfl⟩ rfl rfl (by decide) (fun σ3715 h3716 g3717 g3718 f3719 => ?_)
  obtain ⟨v9, ⟨n3720, hn3720, rfl⟩, f3721⟩ := HK.f (j := 4) h3716 (fun _ => o3) hk rfl
  replace hn3720 : n3720 ≤ 700 := hn3720
  exact lp_X7_advanceNumber_5 F hQ hk hM (700 - n3720 + 1) n3720 _ h3716 ⟨(f3721), (by omega)⟩ (Nat.lt_succ_self _)
set_option maxRecDepth 20000 in
theorem lp_X7_advanceWord_111 {V : VX} {X : MX} {b M Z T N : Nat} {σ : Mem} {a : Nat}   (F : Fx V X yX7_advanceWord cX7_advanceWord 2 none (rmd 0 0 0)) (hQ : Rt V X 0 0 N (fun r τ => HK V (b, M, Z, T) [0, 1, 7, 12, 15, 19] σ τ ∧ r = none)) (hk : kA b a = 3) (hM : M + 0 ≤ 1000000000)  : ∀ (fuel : Nat) (i1 : Int32) (τ : Mem), HK V (b, M, Z, T) [0, 1, 7, 12, 15, 19] σ τ → True → (6 - i1.toInt).toNat < fuel → Wm V X 2 N τ 0 0 111 [(1, .int i1), (0, .ref a)] [] := by
  intro fuel
  induction fuel with
  | zero => intro i1 τ h1 hi hm; exact absurd hm (Nat.not_lt_zero _)
  | succ fuel ih =>
    intro i1 τ h1 hi hm
    refine m_iload_n F rfl e_X7_advanceWord_111 ?_
    refine m_bipush F (v := 6) (by decide) e_X7_advanceWord_112 ?_
    refine m_icmp_ge F e_X7_advanceWord_114 (fun q114 => ?_) (fun q114 => ?_)
    · obtain ⟨n3722, hn3722, rfl⟩ := nI_nn (x := i1) (fun e => Int32.lt_irrefl (Int32.lt_of_lt_of_le e (Int32.le_trans (by decide) q114)))
      have c114 : n3722 ≥ 6 := (nI_leI (a := 6) (b := n3722) (by omega) (by omega)).mp q114
      exact m_vret F hQ e_X7_advanceWord_134 (⟨h1, rfl⟩)
    · refine m_aload_n F rfl e_X7_advanceWord_117 ?_
      refine m_aload_n F rfl e_X7_advanceWord_118 ?_
      refine t_get F e_X7_advanceWord_119 fl_X7_70 (fun _ => o3) h1 hk rfl (fun v hv f3723 => ?_)
      obtain ⟨x3724, rfl⟩ := hv
      refine m_bipush F (v := 32) (by decide) e_X7_advanceWord_122 ?_
      refine m_imul F e_X7_advanceWord_124 ?_
      refine Wm.top (fun x3725 _ => ?_)
      refine t_put F e_X7_advanceWord_125 fp_X7_70 (fun _ => o3) h1 hk rfl ⟨_, rfl⟩ rfl rfl (by decide) (fun σ3726 h3727 g3728 g3729 f3730 => ?_)
      refine m_iinc F (v := (i1 + 1)) (lv' := [(1, .int (i1 + 1)), (0, .ref a)]) e_X7_advanceWord_128 rfl rfl (by decide) rfl ?_
      refine m_goto F e_X7_advanceWord_131 ?_
      exact ih (i1 + 1) _ h3727 (by first | trivial | omega) (by first | omega | (have h9 := inc_lt (w := 6) (Int32.not_le.mp q114); have h8 := Int32.lt_iff_toInt_lt.mp (Int32.not_le.mp q114); have h7 : (6 : Int32).toInt = 6 := (by decide); omega))
set_option maxRecDepth 20000 in
theorem lp_X7_advanceWord_5 {V : VX} {X : MX} {b M Z T N : Nat} {σ : Mem} {a : Nat}   (F : Fx V X yX7_advanceWord cX7_advanceWord 2 none (rmd 0 0 0)) (hQ : Rt V X 0 0 N (fun r τ => HK V (b, M, Z, T) [0, 1, 7, 12, 15, 19] σ τ ∧ r = none)) (hk : kA b a = 3) (hM : M + 0 ≤ 1000000000)  : ∀ (fuel : Nat) (nx : Nat) (τ : Mem), HK V (b, M, Z, T) [0, 1, 7, 12, 15, 19] σ τ → fld τ a 4 = some (.int (nI nx)) ∧ nx ≤ 700 → 700 - nx < fuel → Wm V X 2 N τ 0 0 5 [(0, .ref a)] [] := by
  intro fuel
  induction fuel with
  | zero => intro nx τ h1 hi hm; exact absurd hm (Nat.not_lt_zero _)
  | succ fuel ih =>
    intro nx τ h1 hi hm
    obtain ⟨hfnx, hi⟩ := hi
    refine m_aload_n F rfl e_X7_advanceWord_5 ?_
    refine t_getC F e_X7_advanceWord_6 fl_X7_42 (fun _ => o3) h1 hk (hfnx) ?_
    refine m_aload_n F rfl e_X7_advanceWord_9 ?_
    refine t_get F e_X7_advanceWord_10 fl_X7_33 (fun _ => o3) h1 hk rfl (fun v hv f3731 => ?_)
    obtain ⟨n3732, hn3732, rfl⟩ := hv
    replace hn3732 : n3732 ≤ 700 := hn3732
    refine m_icmp_ge F e_X7_advanceWord_13 (fun q13 => ?_) (fun q13 => ?_)
    · have c13 : nx ≥ n3732 := (nI_leI (a := n3732) (b := nx) (by omega) (by omega)).mp q13
      refine m_aload_n F rfl e_X7_advanceWord_101 ?_
      refine t_getC F e_X7_advanceWord_102 fl_X7_42 (fun _ => o3) h1 hk (hfnx) ?_
      refine m_aload_n F rfl e_X7_advanceWord_105 ?_
      refine t_get F e_X7_advanceWord_106 fl_X7_188 (fun _ => o3) h1 hk rfl (fun v hv f3733 => ?_)
      obtain ⟨x3734, rfl⟩ := hv
      refine m_isub F e_X7_advanceWord_109 ?_
      refine Wm.top (fun x3735 _ => ?_)
      refine m_istore_n F (lv' := [(1, .int x3735), (0, .ref a)]) e_X7_advanceWord_110 (by decide) rfl ?_
      exact lp_X7_advanceWord_111 F hQ hk hM ((6 - x3735.toInt).toNat + 1) x3735 _ h1 (by first | trivial | omega) (Nat.lt_succ_self _)
    · have c13 : nx < n3732 := by have hh := mt (nI_leI (a := n3732) (b := nx) (by omega) (by omega)).mpr q13; omega
      refine m_aload_n F rfl e_X7_advanceWord_16 ?_
      refine t_get F e_X7_advanceWord_17 fl_X7_19 (fun _ => o3) h1 hk rfl (fun v hv f3736 => ?_)
      obtain ⟨r3737, k3738, rfl⟩ := hv
      refine m_aload_n F rfl e_X7_advanceWord_20 ?_
      refine t_getC F e_X7_advanceWord_21 fl_X7_42 (fun _ => o3) h1 hk (hfnx) ?_
      refine t_bald F (len := 700) (j := nx) e_X7_advanceWord_24 (fun _ => o2) h1 k3738 (nI_clamp (by omega)) (vp_in_nI (by omega) (by decide)) (fun x3739 => ?_)
      refine m_bipush F (v := 97) (by decide) e_X7_advanceWord_25 ?_
      refine m_icmp_lt F e_X7_advanceWord_27 (fun q27 => ?_) (fun q27 => ?_)
      · refine m_aload_n F rfl e_X7_advanceWord_101 ?_
        refine t_getC F e_X7_advanceWord_102 fl_X7_42 (fun _ => o3) h1 hk (hfnx) ?_
        refine m_aload_n F rfl e_X7_advanceWord_105 ?_
        refine t_get F e_X7_advanceWord_106 fl_X7_188 (fun _ => o3) h1 hk rfl (fun v hv f3740 => ?_)
        obtain ⟨x3741, rfl⟩ := hv
        refine m_isub F e_X7_advanceWord_109 ?_
        refine Wm.top (fun x3742 _ => ?_)
        refine m_istore_n F (lv' := [(1, .int x3742), (0, .ref a)]) e_X7_advanceWord_110 (by decide) rfl ?_
        exact lp_X7_advanceWord_111 F hQ hk hM ((6 - x3742.toInt).toNat + 1) x3742 _ h1 (by first | trivial | omega) (Nat.lt_succ_self _)
      · obtain ⟨n3743, hn3743, rfl⟩ := nI_nn (x := x3739) (fun e => q27 (Int32.lt_of_lt_of_le e (by decide)))
        have c27 : n3743 ≥ 97 := by have hh := mt (nI_ltI (a := n3743) (b := 97) (by omega) (by omega)).mpr q27; omega
        refine m_aload_n F rfl e_X7_advanceWord_30 ?_
        refine t_getC F e_X7_advanceWord_31 fl_X7_19 (fun _ => o3) h1 hk (f3736) ?_
        refine m_aload_n F rfl e_X7_advanceWord_34 ?_
        refine t_getC F e_X7_advanceWord_35 fl_X7_42 (fun _ => o3) h1 hk (hfnx) ?_
        refine t_bald F (len := 700) (j := nx) e_X7_advanceWord_38 (fun _ => o2) h1 k3738 (nI_clamp (by omega)) (vp_in_nI (by omega) (by decide)) (fun x3744 => ?_)
        refine m_bipush F (v := 122) (by decide) e_X7_advanceWord_39 ?_
        refine m_icmp_gt F e_X7_advanceWord_41 (fun q41 => ?_) (fun q41 => ?_)
        · obtain ⟨n3745, hn3745, rfl⟩ := nI_nn (x := x3744) (fun e => Int32.lt_irrefl (Int32.lt_trans e (Int32.lt_of_le_of_lt (by decide) q41)))
          have c41 : n3745 > 122 := (nI_ltI (a := 122) (b := n3745) (by omega) (by omega)).mp q41
          refine m_aload_n F rfl e_X7_advanceWord_101 ?_
          refine t_getC F e_X7_advanceWord_102 fl_X7_42 (fun _ => o3) h1 hk (hfnx) ?_
          refine m_aload_n F rfl e_X7_advanceWord_105 ?_
          refine t_get F e_X7_advanceWord_106 fl_X7_188 (fun _ => o3) h1 hk rfl (fun v hv f3746 => ?_)
          obtain ⟨x3747, rfl⟩ := hv
          refine m_isub F e_X7_advanceWord_109 ?_
          refine Wm.top (fun x3748 _ => ?_)
          refine m_istore_n F (lv' := [(1, .int x3748), (0, .ref a)]) e_X7_advanceWord_110 (by decide) rfl ?_
          exact lp_X7_advanceWord_111 F hQ hk hM ((6 - x3748.toInt).toNat + 1) x3748 _ h1 (by first | trivial | omega) (Nat.lt_succ_self _)
        · refine m_aload_n F rfl e_X7_advanceWord_44 ?_
          refine m_aload_n F rfl e_X7_advanceWord_45 ?_
          refine t_getC F e_X7_advanceWord_46 fl_X7_42 (fun _ => o3) h1 hk (hfnx) ?_
          refine m_aload_n F rfl e_X7_advanceWord_49 ?_
          refine t_get F e_X7_advanceWord_50 fl_X7_188 (fun _ => o3) h1 hk rfl (fun v hv f3749 => ?_)
          obtain ⟨x3750, rfl⟩ := hv
          refine m_isub F e_X7_advanceWord_53 ?_
          refine Wm.top (fun x3751 _ => ?_)
          refine m_bipush F (v := 6) (by decide) e_X7_advanceWord_54 ?_
          refine m_icmp_ge F e_X7_advanceWord_56 (fun q56 => ?_) (fun q56 => ?_)
          · obtain ⟨n3752, hn3752, rfl⟩ := nI_nn (x := x3751) (fun e => Int32.lt_irrefl (Int32.lt_of_lt_of_le e (Int32.le_trans (by decide) q56)))
            have c56 : n3752 ≥ 6 := (nI_leI (a := 6) (b := n3752) (by omega) (by omega)).mp q56
            refine m_iconst F (v := (-1)) (by decide) e_X7_advanceWord_84 ?_
            refine t_put F e_X7_advanceWord_85 fp_X7_70 (fun _ => o3) h1 hk rfl ⟨_, rfl⟩ rfl rfl (by decide) (fun σ3753 h3754 g3755 g3756 f3757 => ?_)
            refine m_aload_n F rfl e_X7_advanceWord_88 ?_
            refine m_dup F rfl e_X7_advanceWord_89 ?_
            refine t_getC F e_X7_advanceWord_90 fl_X7_42 (fun _ => o3) h3754 hk ((g3756 4 (by decide)).trans hfnx) ?_
            refine m_iconst F (v := 1) (by decide) e_X7_advanceWord_93 ?_
            refine m_iadd F e_X7_advanceWord_94 ?_
            refine Wm.topE (w := nI (nx + 1)) (nI_add nx 1) ?_
            refine t_put F e_X7_advanceWord_95 fp_X7_42 (fun _ => o3) h3754 hk rfl ⟨nx + 1, (show nx + 1 ≤ 700 by omega), rfl⟩ rfl rfl (by decide) (fun σ3758 h3759 g3760 g3761 f3762 => ?_)
            refine m_goto F e_X7_advanceWord_98 ?_
            exact ih (nx + 1) _ h3759 ⟨(f3762), (by first | trivial | omega)⟩ (by first | omega | (have h9 := inc_lt (w := 6) (Int32.not_le.mp q114); have h8 := Int32.lt_iff_toInt_lt.mp (Int32.not_le.mp q114); have h7 : (6 : Int32).toInt = 6 := (by decide); omega))
          · refine m_aload_n F rfl e_X7_advanceWord_59 ?_
            refine t_get F e_X7_advanceWord_60 fl_X7_70 (fun _ => o3) h1 hk rfl (fun v hv f3763 => ?_)
            obtain ⟨x3764, rfl⟩ := hv
            refine m_bipush F (v := 32) (by decide) e_X7_advanceWord_63 ?_
            refine m_imul F e_X7_advanceWord_65 ?_
            refine Wm.top (fun x3765 _ => ?_)
            refine m_aload_n F rfl e_X7_advanceWord_66 ?_
            refine t_getC F e_X7_advanceWord_67 fl_X7_19 (fun _ => o3) h1 hk (f3736) ?_
            refine m_aload_n F rfl e_X7_advanceWord_70 ?_
            refine t_getC F e_X7_advanceWord_71 fl_X7_42 (fun _ => o3) h1 hk (hfnx) ?_
            refine t_bald F (len := 700) (j := nx) e_X7_advanceWord_74 (fun _ => o2) h1 k3738 (nI_clamp (by omega)) (vp_in_nI (by omega) (by decide)) (fun x3766 => ?_)
            refine m_iadd F e_X7_advanceWord_75 ?_
            refine Wm.top (fun x3767 _ => ?_)
            refine m_bipush F (v := 97) (by decide) e_X7_advanceWord_76 ?_
            refine m_isub F e_X7_advanceWord_78 ?_
            refine Wm.top (fun x3768 _ => ?_)
            refine m_iconst F (v := 1) (by decide) e_X7_advanceWord_79 ?_
            refine m_iadd F e_X7_advanceWord_80 ?_
            refine Wm.top (fun x3769 _ => ?_)
            refine m_goto F e_X7_advanceWord_81 ?_
            refine t_put F e_X7_advanceWord_85 fp_X7_70 (fun _ => o3) h1 hk rfl ⟨_, rfl⟩ rfl rfl (by decide) (fun σ3770 h3771 g3772 g3773 f3774 => ?_)
            refine m_aload_n F rfl e_X7_advanceWord_88 ?_
            refine m_dup F rfl e_X7_advanceWord_89 ?_
            refine t_getC F e_X7_advanceWord_90 fl_X7_42 (fun _ => o3) h3771 hk ((g3773 4 (by decide)).trans hfnx) ?_
            refine m_iconst F (v := 1) (by decide) e_X7_advanceWord_93 ?_
            refine m_iadd F e_X7_advanceWord_94 ?_
            refine Wm.topE (w := nI (nx + 1)) (nI_add nx 1) ?_
            refine t_put F e_X7_advanceWord_95 fp_X7_42 (fun _ => o3) h3771 hk rfl ⟨nx + 1, (show nx + 1 ≤ 700 by omega), rfl⟩ rfl rfl (by decide) (fun σ3775 h3776 g3777 g3778 f3779 => ?_)
            refine m_goto F e_X7_advanceWord_98 ?_
            exact ih (nx + 1) _ h3776 ⟨(f3779), (by first | trivial | omega)⟩ (by first | omega | (have h9 := inc_lt (w := 6) (Int32.not_le.mp q114); have h8 := Int32.lt_iff_toInt_lt.mp (Int32.not_le.mp q114); have h7 : (6 : Int32).toInt = 6 := (by decide); omega))
set_option maxRecDepth 20000 in
theorem s_X7_advanceWord (l : Launch) (V : VX) (b M Z T N : Nat) (σ : Mem) (a : Nat) (h0 : HT V (b, M, Z, T) σ) (hk : kA b a = 3) (hM : M + 0 ≤ 1000000000) : Ct l V yX7_advanceWord cX7_advanceWord 2 none 0 0 0 N σ [.ref a] (fun r τ => HK V (b, M, Z, T) [0, 1, 7, 12, 15, 19] σ τ ∧ r = none) := by
  refine Ct.of (by decide) (Nat.le_of_ble_eq_true rfl) [(0, .ref a)] rfl (fun X hX F hQ => ?_)
  have h1 : HK V (b, M, Z, T) [0, 1, 7, 12, 15, 19] σ σ := HK.start h0
  refine m_aload_n F rfl e_X7_advanceWord_0 ?_
  refine m_iconst F (v := 0) (by decide) e_X7_advanceWord_1 ?_
  refine t_put F e_X7_advanceWord_2 fp_X7_70 (fun _ => o3) h1 hk rfl ⟨_, rfl⟩ rfl rfl (by decide) (fun σ3780 h3781 g3782 g3783 f3784 => ?_)
  obtain ⟨v9, ⟨n3785, hn3785, rfl⟩, f3786⟩ := HK.f (j := 4) h3781 (fun _ => o3) hk rfl
  replace hn3785 : n3785 ≤ 700 := hn3785
  exact lp_X7_advanceWord_5 F hQ hk hM (700 - n3785 + 1) n3785 _ h3781 ⟨(f3786), (by first | trivial | omega)⟩ (Nat.lt_succ_self _)
set_option maxRecDepth 20000 in
theorem lp_X7_advance_0 {V : VX} {X : MX} {b M Z T N : Nat} {σ : Mem} {a : Nat}   (F : Fx V X yX7_advance cX7_advance 1 none (rmd 1 0 0)) (hQ : Rt V X 0 0 N (fun r τ => HK V (b, M, Z, T) [0, 1, 7, 12, 15, 19] σ τ ∧ r = none)) (hk : kA b a = 3) (hM : M + 0 ≤ 1000000000)  : ∀ (fuel : Nat) (nx : Nat) (τ : Mem), HK V (b, M, Z, T) [0, 1, 7, 12, 15, 19] σ τ → fld τ a 4 = some (.int (nI nx)) ∧ nx ≤ 700 → 700 - nx < fuel → Wm V X 1 N τ 0 0 0 [(0, .ref a)] [] := by
  intro fuel
  induction fuel with
  | zero => intro nx τ h1 hi hm; exact absurd hm (Nat.not_lt_zero _)
  | succ fuel ih =>
    intro nx τ h1 hi hm
    obtain ⟨hfnx, hi⟩ := hi
    refine m_aload_n F rfl e_X7_advance_0 ?_
    refine t_getC F e_X7_advance_1 fl_X7_42 (fun _ => o3) h1 hk (hfnx) ?_
    refine m_aload_n F rfl e_X7_advance_4 ?_
    refine t_get F e_X7_advance_5 fl_X7_33 (fun _ => o3) h1 hk rfl (fun v hv f3787 => ?_)
    obtain ⟨n3788, hn3788, rfl⟩ := hv
    replace hn3788 : n3788 ≤ 700 := hn3788
    refine m_icmp_ge F e_X7_advance_8 (fun q8 => ?_) (fun q8 => ?_)
    · have c8 : nx ≥ n3788 := (nI_leI (a := n3788) (b := nx) (by omega) (by omega)).mp q8
      refine m_aload_n F rfl e_X7_advance_52 ?_
      refine m_aload_n F rfl e_X7_advance_53 ?_
      refine t_getC F e_X7_advance_54 fl_X7_42 (fun _ => o3) h1 hk (hfnx) ?_
      refine t_put F e_X7_advance_57 fp_X7_188 (fun _ => o3) h1 hk rfl ⟨_, rfl⟩ rfl rfl (by decide) (fun σ3789 h3790 g3791 g3792 f3793 => ?_)
      refine m_aload_n F rfl e_X7_advance_60 ?_
      refine m_aload_n F rfl e_X7_advance_61 ?_
      refine m_aload_n F rfl e_X7_advance_62 ?_
      refine t_getC F e_X7_advance_63 fl_X7_42 (fun _ => o3) h3790 hk ((g3792 4 (by decide)).trans hfnx) ?_
      refine t_callV F e_X7_advance_66 (s_X7_tokenAt (x_l X) V b M Z T _ _ a nx h3790.1 hk (by omega) (by omega)) cb_X7_tokenAt ml_X7_207 im_X7_tokenAt se_X7_tokenAt (fun _ => o3) h3790 hk rfl rfl (rest := [.ref a]) rfl (Nat.le_of_ble_eq_true rfl) ⟨Nat.le_of_ble_eq_true rfl, Nat.le_of_ble_eq_true rfl⟩ ⟨Nat.le_of_ble_eq_true rfl, Nat.le_of_ble_eq_true rfl⟩ (fun r σ3794 hp => ?_)
      obtain ⟨h3796, x3797, gx3797, rfl⟩ := hp
      have h3795 := HK.trans h3790 h3796 (by decide)
      refine t_put F e_X7_advance_69 fp_X7_61 (fun _ => o3) h3795 hk rfl ⟨_, rfl⟩ rfl rfl (by decide) (fun σ3798 h3799 g3800 g3801 f3802 => ?_)
      refine m_aload_n F rfl e_X7_advance_72 ?_
      refine t_getC F e_X7_advance_73 fl_X7_61 (fun _ => o3) h3799 hk (f3802) ?_
      refine m_iconst F (v := 1) (by decide) e_X7_advance_76 ?_
      refine m_icmp_ne F e_X7_advance_77 (fun q77 => ?_) (fun q77 => ?_)
      · refine m_aload_n F rfl e_X7_advance_87 ?_
        refine t_getC F e_X7_advance_88 fl_X7_61 (fun _ => o3) h3799 hk (f3802) ?_
        refine m_iconst F (v := 2) (by decide) e_X7_advance_91 ?_
        refine m_icmp_ne F e_X7_advance_92 (fun q92 => ?_) (fun q92 => ?_)
        · refine m_aload_n F rfl e_X7_advance_102 ?_
          refine t_getC F e_X7_advance_103 fl_X7_61 (fun _ => o3) h3799 hk (f3802) ?_
          refine m_if_eq F e_X7_advance_106 (fun q106 => ?_) (fun q106 => ?_)
          · exact m_vret F hQ e_X7_advance_119 (⟨h3799, rfl⟩)
          · have gz := gx3797 q106
            refine m_aload_n F rfl e_X7_advance_109 ?_
            refine m_dup F rfl e_X7_advance_110 ?_
            refine t_getC F e_X7_advance_111 fl_X7_42 (fun _ => o3) h3799 hk ((g3801 4 (by decide)).trans ((fld_eq (h3796.2 a (by rw [show kA _ a = 3 from hk]; decide))).trans ((g3792 4 (by decide)).trans hfnx))) ?_
            refine m_iconst F (v := 1) (by decide) e_X7_advance_114 ?_
            refine m_iadd F e_X7_advance_115 ?_
            refine Wm.topE (w := nI (nx + 1)) (nI_add nx 1) ?_
            refine t_put F e_X7_advance_116 fp_X7_42 (fun _ => o3) h3799 hk rfl ⟨nx + 1, (show nx + 1 ≤ 700 by omega), rfl⟩ rfl rfl (by decide) (fun σ3803 h3804 g3805 g3806 f3807 => ?_)
            exact m_vret F hQ e_X7_advance_119 (⟨h3804, rfl⟩)
        · refine m_aload_n F rfl e_X7_advance_95 ?_
          refine t_callV F e_X7_advance_96 (s_X7_advanceNumber (x_l X) V b M Z T _ _ a  h3799.1 hk  (by omega)) cb_X7_advanceNumber ml_X7_213 im_X7_advanceNumber se_X7_advanceNumber (fun _ => o3) h3799 hk rfl rfl (rest := []) rfl (Nat.le_of_ble_eq_true rfl) ⟨Nat.le_of_ble_eq_true rfl, Nat.le_of_ble_eq_true rfl⟩ ⟨Nat.le_of_ble_eq_true rfl, Nat.le_of_ble_eq_true rfl⟩ (fun r σ3808 hp => ?_)
          obtain ⟨h3810, rfl⟩ := hp
          have h3809 := HK.trans h3799 h3810 (by decide)
          refine m_goto F e_X7_advance_99 ?_
          exact m_vret F hQ e_X7_advance_119 (⟨h3809, rfl⟩)
      · refine m_aload_n F rfl e_X7_advance_80 ?_
        refine t_callV F e_X7_advance_81 (s_X7_advanceWord (x_l X) V b M Z T _ _ a  h3799.1 hk  (by omega)) cb_X7_advanceWord ml_X7_210 im_X7_advanceWord se_X7_advanceWord (fun _ => o3) h3799 hk rfl rfl (rest := []) rfl (Nat.le_of_ble_eq_true rfl) ⟨Nat.le_of_ble_eq_true rfl, Nat.le_of_ble_eq_true rfl⟩ ⟨Nat.le_of_ble_eq_true rfl, Nat.le_of_ble_eq_true rfl⟩ (fun r σ3811 hp => ?_)
        obtain ⟨h3813, rfl⟩ := hp
        have h3812 := HK.trans h3799 h3813 (by decide)
        refine m_goto F e_X7_advance_84 ?_
        exact m_vret F hQ e_X7_advance_119 (⟨h3812, rfl⟩)
    · have c8 : nx < n3788 := by have hh := mt (nI_leI (a := n3788) (b := nx) (by omega) (by omega)).mpr q8; omega
      refine m_aload_n F rfl e_X7_advance_11 ?_
      refine t_get F e_X7_advance_12 fl_X7_19 (fun _ => o3) h1 hk rfl (fun v hv f3814 => ?_)
      obtain ⟨r3815, k3816, rfl⟩ := hv
      refine m_aload_n F rfl e_X7_advance_15 ?_
      refine t_getC F e_X7_advance_16 fl_X7_42 (fun _ => o3) h1 hk (hfnx) ?_
      refine t_bald F (len := 700) (j := nx) e_X7_advance_19 (fun _ => o2) h1 k3816 (nI_clamp (by omega)) (vp_in_nI (by omega) (by decide)) (fun x3817 => ?_)
      refine m_bipush F (v := 10) (by decide) e_X7_advance_20 ?_
      refine m_icmp_eq F e_X7_advance_22 (fun q22 => ?_) (fun q22 => ?_)
      · refine m_aload_n F rfl e_X7_advance_39 ?_
        refine m_dup F rfl e_X7_advance_40 ?_
        refine t_getC F e_X7_advance_41 fl_X7_42 (fun _ => o3) h1 hk (hfnx) ?_
        refine m_iconst F (v := 1) (by decide) e_X7_advance_44 ?_
        refine m_iadd F e_X7_advance_45 ?_
        refine Wm.topE (w := nI (nx + 1)) (nI_add nx 1) ?_
        refine t_put F e_X7_advance_46 fp_X7_42 (fun _ => o3) h1 hk rfl ⟨nx + 1, (show nx + 1 ≤ 700 by omega), rfl⟩ rfl rfl (by decide) (fun σ3818 h3819 g3820 g3821 f3822 => ?_)
        refine m_goto F e_X7_advance_49 ?_
        exact ih (nx + 1) _ h3819 ⟨(f3822), (by omega)⟩ (by omega)
      · refine m_aload_n F rfl e_X7_advance_25 ?_
        refine t_getC F e_X7_advance_26 fl_X7_19 (fun _ => o3) h1 hk (f3814) ?_
        refine m_aload_n F rfl e_X7_advance_29 ?_
        refine t_getC F e_X7_advance_30 fl_X7_42 (fun _ => o3) h1 hk (hfnx) ?_
        refine t_bald F (len := 700) (j := nx) e_X7_advance_33 (fun _ => o2) h1 k3816 (nI_clamp (by omega)) (vp_in_nI (by omega) (by decide)) (fun x3823 => ?_)
        refine m_bipush F (v := 32) (by decide) e_X7_advance_34 ?_
        refine m_icmp_ne F e_X7_advance_36 (fun q36 => ?_) (fun q36 => ?_)
        · refine m_aload_n F rfl e_X7_advance_52 ?_
          refine m_aload_n F rfl e_X7_advance_53 ?_
          refine t_getC F e_X7_advance_54 fl_X7_42 (fun _ => o3) h1 hk (hfnx) ?_
          refine t_put F e_X7_advance_57 fp_X7_188 (fun _ => o3) h1 hk rfl ⟨_, rfl⟩ rfl rfl (by decide) (fun σ3824 h3825 g3826 g3827 f3828 => ?_)
          refine m_aload_n F rfl e_X7_advance_60 ?_
          refine m_aload_n F rfl e_X7_advance_61 ?_
          refine m_aload_n F rfl e_X7_advance_62 ?_
          refine t_getC F e_X7_advance_63 fl_X7_42 (fun _ => o3) h3825 hk ((g3827 4 (by decide)).trans hfnx) ?_
          refine t_callV F e_X7_advance_66 (s_X7_tokenAt (x_l X) V b M Z T _ _ a nx h3825.1 hk (by omega) (by omega)) cb_X7_tokenAt ml_X7_207 im_X7_tokenAt se_X7_tokenAt (fun _ => o3) h3825 hk rfl rfl (rest := [.ref a]) rfl (Nat.le_of_ble_eq_true rfl) ⟨Nat.le_of_ble_eq_true rfl, Nat.le_of_ble_eq_true rfl⟩ ⟨Nat.le_of_ble_eq_true rfl, Nat.le_of_ble_eq_true rfl⟩ (fun r σ3829 hp => ?_)
          obtain ⟨h3831, x3832, gx3832, rfl⟩ := hp
          have h3830 := HK.trans h3825 h3831 (by decide)
          refine t_put F e_X7_advance_69 fp_X7_61 (fun _ => o3) h3830 hk rfl ⟨_, rfl⟩ rfl rfl (by decide) (fun σ3833 h3834 g3835 g3836 f3837 => ?_)
          refine m_aload_n F rfl e_X7_advance_72 ?_
          refine t_getC F e_X7_advance_73 fl_X7_61 (fun _ => o3) h3834 hk (f3837) ?_
          refine m_iconst F (v := 1) (by decide) e_X7_advance_76 ?_
          refine m_icmp_ne F e_X7_advance_77 (fun q77 => ?_) (fun q77 => ?_)
          · refine m_aload_n F rfl e_X7_advance_87 ?_
            refine t_getC F e_X7_advance_88 fl_X7_61 (fun _ => o3) h3834 hk (f3837) ?_
            refine m_iconst F (v := 2) (by decide) e_X7_advance_91 ?_
            refine m_icmp_ne F e_X7_advance_92 (fun q92 => ?_) (fun q92 => ?_)
            · refine m_aload_n F rfl e_X7_advance_102 ?_
              refine t_getC F e_X7_advance_103 fl_X7_61 (fun _ => o3) h3834 hk (f3837) ?_
              refine m_if_eq F e_X7_advance_106 (fun q106 => ?_) (fun q106 => ?_)
              · exact m_vret F hQ e_X7_advance_119 (⟨h3834, rfl⟩)
              · have gz := gx3832 q106
                refine m_aload_n F rfl e_X7_advance_109 ?_
                refine m_dup F rfl e_X7_advance_110 ?_
                refine t_getC F e_X7_advance_111 fl_X7_42 (fun _ => o3) h3834 hk ((g3836 4 (by decide)).trans ((fld_eq (h3831.2 a (by rw [show kA _ a = 3 from hk]; decide))).trans ((g3827 4 (by decide)).trans hfnx))) ?_
                refine m_iconst F (v := 1) (by decide) e_X7_advance_114 ?_
                refine m_iadd F e_X7_advance_115 ?_
                refine Wm.topE (w := nI (nx + 1)) (nI_add nx 1) ?_
                refine t_put F e_X7_advance_116 fp_X7_42 (fun _ => o3) h3834 hk rfl ⟨nx + 1, (show nx + 1 ≤ 700 by omega), rfl⟩ rfl rfl (by decide) (fun σ3838 h3839 g3840 g3841 f3842 => ?_)
                exact m_vret F hQ e_X7_advance_119 (⟨h3839, rfl⟩)
            · refine m_aload_n F rfl e_X7_advance_95 ?_
              refine t_callV F e_X7_advance_96 (s_X7_advanceNumber (x_l X) V b M Z T _ _ a  h3834.1 hk  (by omega)) cb_X7_advanceNumber ml_X7_213 im_X7_advanceNumber se_X7_advanceNumber (fun _ => o3) h3834 hk rfl rfl (rest := []) rfl (Nat.le_of_ble_eq_true rfl) ⟨Nat.le_of_ble_eq_true rfl, Nat.le_of_ble_eq_true rfl⟩ ⟨Nat.le_of_ble_eq_true rfl, Nat.le_of_ble_eq_true rfl⟩ (fun r σ3843 hp => ?_)
              obtain ⟨h3845, rfl⟩ := hp
              have h3844 := HK.trans h3834 h3845 (by decide)
              refine m_goto F e_X7_advance_99 ?_
              exact m_vret F hQ e_X7_advance_119 (⟨h3844, rfl⟩)
          · refine m_aload_n F rfl e_X7_advance_80 ?_
            refine t_callV F e_X7_advance_81 (s_X7_advanceWord (x_l X) V b M Z T _ _ a  h3834.1 hk  (by omega)) cb_X7_advanceWord ml_X7_210 im_X7_advanceWord se_X7_advanceWord (fun _ => o3) h3834 hk rfl rfl (rest := []) rfl (Nat.le_of_ble_eq_true rfl) ⟨Nat.le_of_ble_eq_true rfl, Nat.le_of_ble_eq_true rfl⟩ ⟨Nat.le_of_ble_eq_true rfl, Nat.le_of_ble_eq_true rfl⟩ (fun r σ3846 hp => ?_)
            obtain ⟨h3848, rfl⟩ := hp
            have h3847 := HK.trans h3834 h3848 (by decide)
            refine m_goto F e_X7_advance_84 ?_
            exact m_vret F hQ e_X7_advance_119 (⟨h3847, rfl⟩)
        · refine m_aload_n F rfl e_X7_advance_39 ?_
          refine m_dup F rfl e_X7_advance_40 ?_
          refine t_getC F e_X7_advance_41 fl_X7_42 (fun _ => o3) h1 hk (hfnx) ?_
          refine m_iconst F (v := 1) (by decide) e_X7_advance_44 ?_
          refine m_iadd F e_X7_advance_45 ?_
          refine Wm.topE (w := nI (nx + 1)) (nI_add nx 1) ?_
          refine t_put F e_X7_advance_46 fp_X7_42 (fun _ => o3) h1 hk rfl ⟨nx + 1, (show nx + 1 ≤ 700 by omega), rfl⟩ rfl rfl (by decide) (fun σ3849 h3850 g3851 g3852 f3853 => ?_)
          refine m_goto F e_X7_advance_49 ?_
          exact ih (nx + 1) _ h3850 ⟨(f3853), (by omega)⟩ (by omega)
set_option maxRecDepth 20000 in
theorem s_X7_advance (l : Launch) (V : VX) (b M Z T N : Nat) (σ : Mem) (a : Nat) (h0 : HT V (b, M, Z, T) σ) (hk : kA b a = 3) (hM : M + 0 ≤ 1000000000) : Ct l V yX7_advance cX7_advance 1 none 1 0 0 N σ [.ref a] (fun r τ => HK V (b, M, Z, T) [0, 1, 7, 12, 15, 19] σ τ ∧ r = none) := by
  refine Ct.of (by decide) (Nat.le_of_ble_eq_true rfl) [(0, .ref a)] rfl (fun X hX F hQ => ?_)
  have h1 : HK V (b, M, Z, T) [0, 1, 7, 12, 15, 19] σ σ := HK.start h0
  obtain ⟨v9, ⟨n3854, hn3854, rfl⟩, f3855⟩ := HK.f (j := 4) h1 (fun _ => o3) hk rfl
  replace hn3854 : n3854 ≤ 700 := hn3854
  exact lp_X7_advance_0 F hQ hk hM (700 - n3854 + 1) n3854 _ h1 ⟨(f3855), (by omega)⟩ (Nat.lt_succ_self _)
set_option maxRecDepth 20000 in
theorem s_X7_failAt (l : Launch) (V : VX) (b M Z T N : Nat) (σ : Mem) (a : Nat) (x901 : Int32) (x902 : Int32) (h0 : HT V (b, M, Z, T) σ) (hk : kA b a = 3) (hp0 : x901 ≠ 0) (hM : M + 0 ≤ 1000000000) : Ct l V yX7_failAt cX7_failAt 3 none 0 0 0 N σ [.ref a, .int x901, .int x902] (fun r τ => HK V (b, M, 0, T) [0, 1, 7, 12, 15, 19] σ τ ∧ r = none) := by
  refine Ct.of (by decide) (Nat.le_of_ble_eq_true rfl) [(0, .ref a), (1, .int x901), (2, .int x902)] rfl (fun X hX F hQ => ?_)
  have h1 : HK V (b, M, Z, T) [0, 1, 7, 12, 15, 19] σ σ := HK.start h0
  refine m_aload_n F rfl e_X7_failAt_0 ?_
  refine t_get F e_X7_failAt_1 fl_X7_55 (fun _ => o3) h1 hk rfl (fun v hv f3856 => ?_)
  obtain ⟨x3857, hx3857, rfl⟩ := hv
  replace hx3857 : Z = 0 → x3857 ≠ 0 := hx3857
  refine m_if_ne F e_X7_failAt_4 (fun q4 => ?_) (fun q4 => ?_)
  · have h3858 := h1.z0 hk (f3856) q4
    exact m_vret F hQ e_X7_failAt_17 (⟨h3858, rfl⟩)
  · refine m_aload_n F rfl e_X7_failAt_7 ?_
    refine m_iload_n F rfl e_X7_failAt_8 ?_
    refine t_putF F e_X7_failAt_9 fp_X7_55 h1 hk (hp0) (by decide) (fun σ3859 h3860 g3861 g3862 f3863 => ?_)
    refine m_aload_n F rfl e_X7_failAt_12 ?_
    refine m_iload_n F rfl e_X7_failAt_13 ?_
    refine t_put F e_X7_failAt_14 fp_X7_15 (fun _ => o3) h3860 hk rfl ⟨_, rfl⟩ rfl rfl (by decide) (fun σ3864 h3865 g3866 g3867 f3868 => ?_)
    exact m_vret F hQ e_X7_failAt_17 (⟨h3865, rfl⟩)
set_option maxRecDepth 20000 in
theorem s_X7_fail (l : Launch) (V : VX) (b M Z T N : Nat) (σ : Mem) (a : Nat) (x901 : Int32) (h0 : HT V (b, M, Z, T) σ) (hk : kA b a = 3) (hp0 : x901 ≠ 0) (hM : M + 0 ≤ 1000000000) : Ct l V yX7_fail cX7_fail 2 none 1 0 0 N σ [.ref a, .int x901] (fun r τ => HK V (b, M, 0, T) [0, 1, 7, 12, 15, 19] σ τ ∧ r = none) := by
  refine Ct.of (by decide) (Nat.le_of_ble_eq_true rfl) [(0, .ref a), (1, .int x901)] rfl (fun X hX F hQ => ?_)
  have h1 : HK V (b, M, Z, T) [0, 1, 7, 12, 15, 19] σ σ := HK.start h0
  refine m_aload_n F rfl e_X7_fail_0 ?_
  refine m_iload_n F rfl e_X7_fail_1 ?_
  refine m_aload_n F rfl e_X7_fail_2 ?_
  refine t_get F e_X7_fail_3 fl_X7_188 (fun _ => o3) h1 hk rfl (fun v hv f3869 => ?_)
  obtain ⟨x3870, rfl⟩ := hv
  refine t_callV F e_X7_fail_6 (s_X7_failAt (x_l X) V b M Z T _ _ a x901 x3870 h1.1 hk (by first | omega | assumption | decide) (by omega)) cb_X7_failAt ml_X7_197 im_X7_failAt se_X7_failAt (fun _ => o3) h1 hk rfl rfl (rest := []) rfl (Nat.le_of_ble_eq_true rfl) ⟨Nat.le_of_ble_eq_true rfl, Nat.le_of_ble_eq_true rfl⟩ ⟨Nat.le_of_ble_eq_true rfl, Nat.le_of_ble_eq_true rfl⟩ (fun r σ3871 hp => ?_)
  obtain ⟨h3873, rfl⟩ := hp
  have h3872 := HK.trans h1 h3873 (by decide)
  exact m_vret F hQ e_X7_fail_9 (⟨h3872, rfl⟩)
set_option maxRecDepth 20000 in
theorem s_X7_startLine (l : Launch) (V : VX) (b M Z T N : Nat) (σ : Mem) (a : Nat) (x901 : Int32) (h0 : HT V (b, M, Z, T) σ) (hk : kA b a = 3) (hM : M + 0 ≤ 1000000000) : Ct l V yX7_startLine cX7_startLine 2 none 2 0 0 N σ [.ref a, .int x901] (fun r τ => HK V (b, M, Z, T) [0, 1, 7, 12, 15, 19] σ τ ∧ r = none) := by
  refine Ct.of (by decide) (Nat.le_of_ble_eq_true rfl) [(0, .ref a), (1, .int x901)] rfl (fun X hX F hQ => ?_)
  have h1 : HK V (b, M, Z, T) [0, 1, 7, 12, 15, 19] σ σ := HK.start h0
  refine m_iload_n F rfl e_X7_startLine_0 ?_
  refine m_if_eq F e_X7_startLine_1 (fun q1 => ?_) (fun q1 => ?_)
  · refine m_aload_n F rfl e_X7_startLine_10 ?_
    refine t_callV F e_X7_startLine_11 (s_X7_advance (x_l X) V b M Z T _ _ a  h1.1 hk  (by omega)) cb_X7_advance ml_X7_58 im_X7_advance se_X7_advance (fun _ => o3) h1 hk rfl rfl (rest := []) rfl (Nat.le_of_ble_eq_true rfl) ⟨Nat.le_of_ble_eq_true rfl, Nat.le_of_ble_eq_true rfl⟩ ⟨Nat.le_of_ble_eq_true rfl, Nat.le_of_ble_eq_true rfl⟩ (fun r σ3874 hp => ?_)
    obtain ⟨h3876, rfl⟩ := hp
    have h3875 := HK.trans h1 h3876 (by decide)
    exact m_vret F hQ e_X7_startLine_14 (⟨h3875, rfl⟩)
  · refine m_aload_n F rfl e_X7_startLine_4 ?_
    refine m_iload_n F rfl e_X7_startLine_5 ?_
    refine t_callV F e_X7_startLine_6 (s_X7_fail (x_l X) V b M Z T _ _ a x901 h1.1 hk (by first | omega | assumption | decide) (by omega)) cb_X7_fail ml_X7_77 im_X7_fail se_X7_fail (fun _ => o3) h1 hk rfl rfl (rest := []) rfl (Nat.le_of_ble_eq_true rfl) ⟨Nat.le_of_ble_eq_true rfl, Nat.le_of_ble_eq_true rfl⟩ ⟨Nat.le_of_ble_eq_true rfl, Nat.le_of_ble_eq_true rfl⟩ (fun r σ3877 hp => ?_)
    obtain ⟨h3879, rfl⟩ := hp
    have h3878 := HK.trans h1 h3879 (by decide)
    exact m_vret F hQ e_X7_startLine_9 (⟨(h3878.mono (M' := M) (Z' := Z) (by omega) (by intro e; first | rfl | assumption | omega)), rfl⟩)
set_option maxRecDepth 20000 in
theorem s_X7_readStop (l : Launch) (V : VX) (b M Z T N : Nat) (σ : Mem) (a : Nat) (h0 : HT V (b, M, Z, T) σ) (hk : kA b a = 3) (hM : M + 0 ≤ 1000000000) : Ct l V yX7_readStop cX7_readStop 1 none 2 0 0 N σ [.ref a] (fun r τ => HK V (b, M, Z, T) [0, 1, 7, 12, 15, 19] σ τ ∧ r = none) := by
  refine Ct.of (by decide) (Nat.le_of_ble_eq_true rfl) [(0, .ref a)] rfl (fun X hX F hQ => ?_)
  have h1 : HK V (b, M, Z, T) [0, 1, 7, 12, 15, 19] σ σ := HK.start h0
  refine m_aload_n F rfl e_X7_readStop_0 ?_
  refine t_get F e_X7_readStop_1 fl_X7_55 (fun _ => o3) h1 hk rfl (fun v hv f3880 => ?_)
  obtain ⟨x3881, hx3881, rfl⟩ := hv
  replace hx3881 : Z = 0 → x3881 ≠ 0 := hx3881
  refine m_if_eq F e_X7_readStop_4 (fun q4 => ?_) (fun q4 => ?_)
  · refine m_aload_n F rfl e_X7_readStop_8 ?_
    refine t_get F e_X7_readStop_9 fl_X7_61 (fun _ => o3) h1 hk rfl (fun v hv f3882 => ?_)
    obtain ⟨x3883, rfl⟩ := hv
    refine m_iconst F (v := 3) (by decide) e_X7_readStop_12 ?_
    refine m_icmp_eq F e_X7_readStop_13 (fun q13 => ?_) (fun q13 => ?_)
    · refine m_aload_n F rfl e_X7_readStop_22 ?_
      refine m_dup F rfl e_X7_readStop_23 ?_
      refine t_get F e_X7_readStop_24 fl_X7_52 (fun _ => o3) h1 hk rfl (fun v hv f3884 => ?_)
      obtain ⟨x3885, rfl⟩ := hv
      refine m_iconst F (v := 1) (by decide) e_X7_readStop_27 ?_
      refine m_iadd F e_X7_readStop_28 ?_
      refine Wm.top (fun x3886 _ => ?_)
      refine t_put F e_X7_readStop_29 fp_X7_52 (fun _ => o3) h1 hk rfl ⟨_, rfl⟩ rfl rfl (by decide) (fun σ3887 h3888 g3889 g3890 f3891 => ?_)
      refine m_aload_n F rfl e_X7_readStop_32 ?_
      refine t_callV F e_X7_readStop_33 (s_X7_advance (x_l X) V b M Z T _ _ a  h3888.1 hk  (by omega)) cb_X7_advance ml_X7_58 im_X7_advance se_X7_advance (fun _ => o3) h3888 hk rfl rfl (rest := []) rfl (Nat.le_of_ble_eq_true rfl) ⟨Nat.le_of_ble_eq_true rfl, Nat.le_of_ble_eq_true rfl⟩ ⟨Nat.le_of_ble_eq_true rfl, Nat.le_of_ble_eq_true rfl⟩ (fun r σ3892 hp => ?_)
      obtain ⟨h3894, rfl⟩ := hp
      have h3893 := HK.trans h3888 h3894 (by decide)
      exact m_vret F hQ e_X7_readStop_36 (⟨h3893, rfl⟩)
    · refine m_aload_n F rfl e_X7_readStop_16 ?_
      refine m_iconst F (v := 1) (by decide) e_X7_readStop_17 ?_
      refine t_callV F e_X7_readStop_18 (s_X7_fail (x_l X) V b M Z T _ _ a 1 h1.1 hk (by first | omega | assumption | decide) (by omega)) cb_X7_fail ml_X7_77 im_X7_fail se_X7_fail (fun _ => o3) h1 hk rfl rfl (rest := []) rfl (Nat.le_of_ble_eq_true rfl) ⟨Nat.le_of_ble_eq_true rfl, Nat.le_of_ble_eq_true rfl⟩ ⟨Nat.le_of_ble_eq_true rfl, Nat.le_of_ble_eq_true rfl⟩ (fun r σ3895 hp => ?_)
      obtain ⟨h3897, rfl⟩ := hp
      have h3896 := HK.trans h1 h3897 (by decide)
      exact m_vret F hQ e_X7_readStop_21 (⟨(h3896.mono (M' := M) (Z' := Z) (by omega) (by intro e; first | rfl | assumption | omega)), rfl⟩)
  · exact m_vret F hQ e_X7_readStop_7 (⟨h1, rfl⟩)
