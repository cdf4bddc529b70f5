set_option maxRecDepth 20000 in
theorem lp_X9_sum_38 {V : VX} {X : MX} {b M Z T N : Nat} {σ : Mem} {a : Nat}   (F : Fx V X yX9_sum cX9_sum 7 (some .long) (rmd 3 0 0)) (hQ : Rt V X 0 0 N (fun r τ => HK V (b, M, Z, T) [0, 1, 3, 7, 12, 15, 19] σ τ ∧ ∃ x : Int64, r = some (.long x))) (hk : kA b a = 1) (hM : M + 0 ≤ 1000000000)  : ∀ (fuel : Nat) (i : Nat) (c : Nat) (u1 : Int64) (p : Nat) (u2 : Int32) (τ : Mem), HK V (b, M, Z, T) [0, 1, 3, 7, 12, 15, 19] σ τ → i ≤ 40 ∧ c ≤ 40 ∧ p ≤ 5 → 40 - i < fuel → Wm V X 7 N τ 0 0 38 [(6, .int (nI i)), (5, .int (nI c)), (3, .long u1), (0, .ref a), (1, .int (nI p)), (2, .int u2)] [] := by
  intro fuel
  induction fuel with
  | zero => intro i c u1 p u2 τ h1 hi hm; exact absurd hm (Nat.not_lt_zero _)
  | succ fuel ih =>
    intro i c u1 p u2 τ h1 hi hm
    refine m_iload F rfl e_X9_sum_38 ?_
    refine m_iload F rfl e_X9_sum_40 ?_
    refine m_icmp_ge F e_X9_sum_42 (fun q42 => ?_) (fun q42 => ?_)
    · have c42 : i ≥ c := (nI_leI (a := c) (b := i) (by omega) (by omega)).mp q42
      refine m_lload_n F rfl e_X9_sum_88 ?_
      exact m_lret F hQ e_X9_sum_89 (⟨h1, _, rfl⟩)
    · have c42 : i < c := by have hh := mt (nI_leI (a := c) (b := i) (by omega) (by omega)).mpr q42; omega
      refine m_aload_n F rfl e_X9_sum_45 ?_
      refine t_get F e_X9_sum_46 fl_X9_16 (fun _ => o1) h1 hk rfl (fun v hv f2781 => ?_)
      obtain ⟨r2782, k2783, rfl⟩ := hv
      refine t_get F e_X9_sum_49 fl_X9_186 (fun _ => o7) h1 k2783 rfl (fun v hv f2784 => ?_)
      obtain ⟨r2785, k2786, rfl⟩ := hv
      refine m_iload F rfl e_X9_sum_52 ?_
      refine m_iconst F (v := 0) (by decide) e_X9_sum_54 ?_
      refine t_callV F e_X9_sum_55 (s_X3_told (x_l X) V b M Z T _ _ r2785 (nI i) 0 h1.1 k2786  (by omega)) cb_X3_told ml_X9_199 im_X3_told se_X3_told (fun _ => o12) h1 k2786 rfl rfl (rest := []) rfl (Nat.le_of_ble_eq_true rfl) ⟨Nat.le_of_ble_eq_true rfl, Nat.le_of_ble_eq_true rfl⟩ ⟨Nat.le_of_ble_eq_true rfl, Nat.le_of_ble_eq_true rfl⟩ (fun r σ2787 hp => ?_)
      obtain ⟨h2789, x2790, rfl⟩ := hp
      have h2788 := HK.trans h1 h2789 (by decide)
      refine m_iload_n F rfl e_X9_sum_58 ?_
      refine m_i2l F e_X9_sum_59 ?_
      refine Wm.topl (fun x2791 _ => ?_)
      refine m_lcmp F e_X9_sum_60 ?_
      refine Wm.top (fun x2792 _ => ?_)
      refine m_if_ne F e_X9_sum_61 (fun q61 => ?_) (fun q61 => ?_)
      · refine m_iinc F (v := nI (i + 1)) (lv' := [(6, .int (nI (i + 1))), (5, .int (nI c)), (3, .long u1), (0, .ref a), (1, .int (nI p)), (2, .int u2)]) e_X9_sum_82 rfl (nI_add i 1) (by decide) rfl ?_
        refine m_goto F e_X9_sum_85 ?_
        exact ih (i + 1) c u1 p u2 _ h2788 (by omega) (by omega)
      · refine m_lload_n F rfl e_X9_sum_64 ?_
        refine m_aload_n F rfl e_X9_sum_65 ?_
        refine t_getC F e_X9_sum_66 fl_X9_16 (fun _ => o1) h2788 hk ((fld_eq (h2789.2 a (by rw [show kA _ a = 1 from hk]; decide))).trans f2781) ?_
        refine t_getC F e_X9_sum_69 fl_X9_186 (fun _ => o7) h2788 k2783 ((fld_eq (h2789.2 r2782 (by rw [show kA _ r2782 = 7 from k2783]; decide))).trans f2784) ?_
        refine m_iload F rfl e_X9_sum_72 ?_
        refine m_iconst F (v := 3) (by decide) e_X9_sum_74 ?_
        refine m_iload_n F rfl e_X9_sum_75 ?_
        refine m_iadd F e_X9_sum_76 ?_
        refine Wm.topE (w := nI (3 + p)) (nI_add 3 p) ?_
        refine t_callV F e_X9_sum_77 (s_X3_told (x_l X) V b M Z T _ _ r2785 (nI i) (nI (3 + p)) h2788.1 k2786  (by omega)) cb_X3_told ml_X9_199 im_X3_told se_X3_told (fun _ => o12) h2788 k2786 rfl rfl (rest := [.long u1]) rfl (Nat.le_of_ble_eq_true rfl) ⟨Nat.le_of_ble_eq_true rfl, Nat.le_of_ble_eq_true rfl⟩ ⟨Nat.le_of_ble_eq_true rfl, Nat.le_of_ble_eq_true rfl⟩ (fun r σ2793 hp => ?_)
        obtain ⟨h2795, x2796, rfl⟩ := hp
        have h2794 := HK.trans h2788 h2795 (by decide)
        refine m_ladd F e_X9_sum_80 ?_
        refine Wm.topl (fun x2797 _ => ?_)
        refine m_lstore_n F (lv' := [(3, .long x2797), (6, .int (nI i)), (5, .int (nI c)), (0, .ref a), (1, .int (nI p)), (2, .int u2)]) e_X9_sum_81 (by decide) rfl ?_
        refine m_iinc F (v := nI (i + 1)) (lv' := [(6, .int (nI (i + 1))), (3, .long x2797), (5, .int (nI c)), (0, .ref a), (1, .int (nI p)), (2, .int u2)]) e_X9_sum_82 rfl (nI_add i 1) (by decide) rfl ?_
        refine m_goto F e_X9_sum_85 ?_
        refine Wm.lvsub (lv' := [(6, .int (nI (i + 1))), (5, .int (nI c)), (3, .long x2797), (0, .ref a), (1, .int (nI p)), (2, .int u2)]) ?_ [0, 2, 1, 3, 4, 5] rfl
        exact ih (i + 1) c x2797 p u2 _ h2794 (by omega) (by omega)
set_option maxRecDepth 20000 in
theorem s_X9_sum (l : Launch) (V : VX) (b M Z T N : Nat) (σ : Mem) (a : Nat) (x901 : Int32) (x902 : Int32) (h0 : HT V (b, M, Z, T) σ) (hk : kA b a = 1) (hM : M + 0 ≤ 1000000000) : Ct l V yX9_sum cX9_sum 7 (some .long) 3 0 0 N σ [.ref a, .int x901, .int x902] (fun r τ => HK V (b, M, Z, T) [0, 1, 3, 7, 12, 15, 19] σ τ ∧ ∃ x : Int64, r = some (.long x)) := by
  refine Ct.of (by decide) (Nat.le_of_ble_eq_true rfl) [(0, .ref a), (1, .int x901), (2, .int x902)] rfl (fun X hX F hQ => ?_)
  have h1 : HK V (b, M, Z, T) [0, 1, 3, 7, 12, 15, 19] σ σ := HK.start h0
  refine m_iload_n F rfl e_X9_sum_0 ?_
  refine m_if_lt F e_X9_sum_1 (fun q1 => ?_) (fun q1 => ?_)
  · refine m_ldc2 F kc_X9_184 e_X9_sum_17 ?_
    exact m_lret F hQ e_X9_sum_20 (⟨h1, _, rfl⟩)
  · obtain ⟨n2798, hn2798, rfl⟩ := nI_nn (x := x901) (fun e => q1 (Int32.lt_of_lt_of_le e (by decide)))
    have c1 : n2798 ≥ 0 := by have hh := mt (nI_ltI (a := n2798) (b := 0) (by omega) (by omega)).mpr q1; omega
    refine m_iload_n F rfl e_X9_sum_4 ?_
    refine m_bipush F (v := 6) (by decide) e_X9_sum_5 ?_
    refine m_icmp_ge F e_X9_sum_7 (fun q7 => ?_) (fun q7 => ?_)
    · have c7 : n2798 ≥ 6 := (nI_leI (a := 6) (b := n2798) (by omega) (by omega)).mp q7
      refine m_ldc2 F kc_X9_184 e_X9_sum_17 ?_
      exact m_lret F hQ e_X9_sum_20 (⟨h1, _, rfl⟩)
    · have c7 : n2798 < 6 := by have hh := mt (nI_leI (a := 6) (b := n2798) (by omega) (by omega)).mpr q7; omega
      refine m_iload_n F rfl e_X9_sum_10 ?_
      refine m_callS F e_X9_sum_11 (s_X9_isSort (x_l X) V b M Z T _ _ x902 h1.1  (by omega)) cb_X9_isSort ml_X9_281 sm_X9_isSort rfl (rest := []) rfl (Nat.le_of_ble_eq_true rfl) ⟨Nat.le_of_ble_eq_true rfl, Nat.le_of_ble_eq_true rfl⟩ ⟨Nat.le_of_ble_eq_true rfl, Nat.le_of_ble_eq_true rfl⟩ (k' := 0) (z' := 0) (N' := N) rfl rfl rfl (fun r σ2799 hp => ?_)
      obtain ⟨h2801, n2802, hn2802, rfl⟩ := hp
      have h2800 := HK.trans h1 h2801 (by decide)
      refine m_if_ne F e_X9_sum_14 (fun q14 => ?_) (fun q14 => ?_)
      · have c14 : n2802 ≠ 0 := by have hh := mt (nI_eq (a := n2802) (b := 0) (by omega) (by omega)).mpr q14; omega
        refine m_lconst F (v := 0) (by decide) e_X9_sum_21 ?_
        refine m_lstore_n F (lv' := [(3, .long 0), (0, .ref a), (1, .int (nI n2798)), (2, .int x902)]) e_X9_sum_22 (by decide) rfl ?_
        refine m_aload_n F rfl e_X9_sum_23 ?_
        refine t_get F e_X9_sum_24 fl_X9_16 (fun _ => o1) h2800 hk rfl (fun v hv f2803 => ?_)
        obtain ⟨r2804, k2805, rfl⟩ := hv
        refine t_get F e_X9_sum_27 fl_X9_186 (fun _ => o7) h2800 k2805 rfl (fun v hv f2806 => ?_)
        obtain ⟨r2807, k2808, rfl⟩ := hv
        obtain ⟨v9, ⟨n2809, hn2809, rfl⟩, f2810⟩ := HK.f (j := 2) h2800 (fun _ => o12) k2808 rfl
        replace hn2809 : n2809 ≤ M := hn2809
        refine t_callV F e_X9_sum_30 (s_X3_kept (x_l X) V b M Z T _ _ r2807 n2809 h2800.1 k2808 (f2810) (by omega) (by omega)) cb_X3_kept ml_X9_196 im_X3_kept se_X3_kept (fun _ => o12) h2800 k2808 rfl rfl (rest := []) rfl (Nat.le_of_ble_eq_true rfl) ⟨Nat.le_of_ble_eq_true rfl, Nat.le_of_ble_eq_true rfl⟩ ⟨Nat.le_of_ble_eq_true rfl, Nat.le_of_ble_eq_true rfl⟩ (fun r σ2811 hp => ?_)
        obtain ⟨h2813, n2814, hn2814, gn2814, rfl⟩ := hp
        have h2812 := HK.trans h2800 h2813 (by decide)
        refine m_istore F (lv' := [(5, .int (nI n2814)), (3, .long 0), (0, .ref a), (1, .int (nI n2798)), (2, .int x902)]) e_X9_sum_33 (by decide) rfl ?_
        refine m_iconst F (v := 0) (by decide) e_X9_sum_35 ?_
        refine m_istore F (lv' := [(6, .int 0), (5, .int (nI n2814)), (3, .long 0), (0, .ref a), (1, .int (nI n2798)), (2, .int x902)]) e_X9_sum_36 (by decide) rfl ?_
        exact lp_X9_sum_38 F hQ hk hM (40 - 0 + 1) 0 n2814 0 n2798 x902 _ h2812 (by omega) (Nat.lt_succ_self _)
      · have c14 : n2802 = 0 := (nI_eq (a := n2802) (b := 0) (by omega) (by omega)).mp q14
        refine m_ldc2 F kc_X9_184 e_X9_sum_17 ?_
        exact m_lret F hQ e_X9_sum_20 (⟨h2800, _, rfl⟩)
set_option maxRecDepth 20000 in
theorem s_X9_moved (l : Launch) (V : VX) (b M Z T N : Nat) (σ : Mem) (a : Nat) (x901 : Int32) (x902 : Int32) (h0 : HT V (b, M, Z, T) σ) (hk : kA b a = 1) (hM : M + 0 ≤ 1000000000) : Ct l V yX9_moved cX9_moved 4 (some .long) 1 0 0 N σ [.ref a, .int x901, .int x902] (fun r τ => HK V (b, M, Z, T) [0, 1, 3, 7, 12, 15, 19] σ τ ∧ ∃ x : Int64, r = some (.long x)) := by
  refine Ct.of (by decide) (Nat.le_of_ble_eq_true rfl) [(0, .ref a), (1, .int x901), (2, .int x902)] rfl (fun X hX F hQ => ?_)
  have h1 : HK V (b, M, Z, T) [0, 1, 3, 7, 12, 15, 19] σ σ := HK.start h0
  refine m_aload_n F rfl e_X9_moved_0 ?_
  refine m_iload_n F rfl e_X9_moved_1 ?_
  refine t_callV F e_X9_moved_2 (s_X9_leaseAt (x_l X) V b M Z T _ _ a x901 h1.1 hk  (by omega)) cb_X9_leaseAt ml_X9_103 im_X9_leaseAt se_X9_leaseAt (fun _ => o1) h1 hk rfl rfl (rest := []) rfl (Nat.le_of_ble_eq_true rfl) ⟨Nat.le_of_ble_eq_true rfl, Nat.le_of_ble_eq_true rfl⟩ ⟨Nat.le_of_ble_eq_true rfl, Nat.le_of_ble_eq_true rfl⟩ (fun r σ2815 hp => ?_)
  obtain ⟨h2817, c2818⟩ := hp
  have h2816 := HK.trans h1 h2817 (by decide)
  rcases c2818 with rfl | ⟨n2819, r2820, hn2819, en2819, k2821, rfl⟩
  · refine m_astore_nN F (lv' := [(3, .null), (0, .ref a), (1, .int x901), (2, .int x902)]) e_X9_moved_5 (by decide) rfl ?_
    refine m_aload_nN F rfl e_X9_moved_6 ?_
    refine m_ifnullN F e_X9_moved_7 ?_
    refine m_ldc2 F kc_X9_184 e_X9_moved_19 ?_
    exact m_lret F hQ e_X9_moved_22 (⟨h2816, _, rfl⟩)
  · subst en2819
    refine m_astore_n F (lv' := [(3, .ref r2820), (0, .ref a), (1, .int (nI n2819)), (2, .int x902)]) e_X9_moved_5 (by decide) rfl ?_
    refine m_aload_n F rfl e_X9_moved_6 ?_
    refine m_ifnullR F e_X9_moved_7 ?_
    refine m_iload_n F rfl e_X9_moved_10 ?_
    refine m_if_lt F e_X9_moved_11 (fun q11 => ?_) (fun q11 => ?_)
    · refine m_ldc2 F kc_X9_184 e_X9_moved_19 ?_
      exact m_lret F hQ e_X9_moved_22 (⟨h2816, _, rfl⟩)
    · obtain ⟨n2822, hn2822, rfl⟩ := nI_nn (x := x902) (fun e => q11 (Int32.lt_of_lt_of_le e (by decide)))
      have c11 : n2822 ≥ 0 := by have hh := mt (nI_ltI (a := n2822) (b := 0) (by omega) (by omega)).mpr q11; omega
      refine m_iload_n F rfl e_X9_moved_14 ?_
      refine m_iconst F (v := 5) (by decide) e_X9_moved_15 ?_
      refine m_icmp_lt F e_X9_moved_16 (fun q16 => ?_) (fun q16 => ?_)
      · have c16 : n2822 < 5 := (nI_ltI (a := n2822) (b := 5) (by omega) (by omega)).mp q16
        refine m_aload_n F rfl e_X9_moved_23 ?_
        refine t_get F e_X9_moved_24 fl_X9_275 (fun _ => o15) h2816 k2821 rfl (fun v hv f2823 => ?_)
        obtain ⟨r2824, k2825, rfl⟩ := hv
        refine m_iload_n F rfl e_X9_moved_27 ?_
        refine t_lald F (len := 5) (j := n2822) e_X9_moved_28 (fun _ => o18) h2816 k2825 (nI_clamp (by omega)) (vp_in_nI (by omega) (by decide)) (fun x2826 => ?_)
        exact m_lret F hQ e_X9_moved_29 (⟨h2816, _, rfl⟩)
      · have c16 : n2822 ≥ 5 := by have hh := mt (nI_ltI (a := n2822) (b := 5) (by omega) (by omega)).mpr q16; omega
        refine m_ldc2 F kc_X9_184 e_X9_moved_19 ?_
        exact m_lret F hQ e_X9_moved_22 (⟨h2816, _, rfl⟩)
set_option maxRecDepth 20000 in
theorem lp_X9_choose_66 {V : VX} {X : MX} {b M Z T N : Nat} {σ : Mem} {a : Nat}   (F : Fx V X yX9_choose cX9_choose 9 (some .int) (rmd 6 0 0)) (hQ : Rt V X 0 0 N (fun r τ => HK V (b, M, Z, T) [0, 1, 3, 7, 12, 19] σ τ ∧ ∃ x : Int32, r = some (.int x))) (hk : kA b a = 1) (hM : M + 0 ≤ 1000000000)  : ∀ (fuel : Nat) (i : Nat) (u1 : Int32) (u2 : Int32) (u3 : Int32) (q1 : Nat) (q2 : Nat) (q3 : Nat) (q4 : Nat) (τ : Mem), HK V (b, M, Z, T) [0, 1, 3, 7, 12, 19] σ τ → kA b q1 = 15 ∧ kA b q2 = 15 ∧ kA b q3 = 6 ∧ kA b q4 = 6 ∧ i ≤ 16 → 16 - i < fuel → Wm V X 9 N τ 0 0 66 [(8, .int (nI i)), (6, .int u1), (7, .int u2), (0, .ref a), (1, .int u3), (2, .ref q1), (3, .ref q2), (4, .ref q3), (5, .ref q4)] [] := by
  intro fuel
  induction fuel with
  | zero => intro i u1 u2 u3 q1 q2 q3 q4 τ h1 hi hm; exact absurd hm (Nat.not_lt_zero _)
  | succ fuel ih =>
    intro i u1 u2 u3 q1 q2 q3 q4 τ h1 hi hm
    obtain ⟨kq1, kq2, kq3, kq4, hi⟩ := hi
    refine m_iload F rfl e_X9_choose_66 ?_
    refine m_bipush F (v := 16) (by decide) e_X9_choose_68 ?_
    refine m_icmp_ge F e_X9_choose_70 (fun q70 => ?_) (fun q70 => ?_)
    · have c70 : i ≥ 16 := (nI_leI (a := 16) (b := i) (by omega) (by omega)).mp q70
      refine m_iload F rfl e_X9_choose_149 ?_
      exact m_iret F hQ e_X9_choose_151 (⟨h1, _, rfl⟩)
    · have c70 : i < 16 := by have hh := mt (nI_leI (a := 16) (b := i) (by omega) (by omega)).mpr q70; omega
      refine m_aload_n F rfl e_X9_choose_73 ?_
      refine t_get F e_X9_choose_74 fl_X9_16 (fun _ => o1) h1 hk rfl (fun v hv f2827 => ?_)
      obtain ⟨r2828, k2829, rfl⟩ := hv
      refine m_iload_n F rfl e_X9_choose_77 ?_
      refine m_iload F rfl e_X9_choose_78 ?_
      refine t_callV F e_X9_choose_80 (s_X2_canTakeSet (x_l X) V b M Z T _ _ r2828 u3 (nI i) h1.1 k2829  (by omega)) cb_X2_canTakeSet ml_X9_287 im_X2_canTakeSet se_X2_canTakeSet (fun _ => o7) h1 k2829 rfl rfl (rest := []) rfl (Nat.le_of_ble_eq_true rfl) ⟨Nat.le_of_ble_eq_true rfl, Nat.le_of_ble_eq_true rfl⟩ ⟨Nat.le_of_ble_eq_true rfl, Nat.le_of_ble_eq_true rfl⟩ (fun r σ2830 hp => ?_)
      obtain ⟨h2832, n2833, hn2833, rfl⟩ := hp
      have h2831 := HK.trans h1 h2832 (by decide)
      refine m_if_ne F e_X9_choose_83 (fun q83 => ?_) (fun q83 => ?_)
      · have c83 : n2833 ≠ 0 := by have hh := mt (nI_eq (a := n2833) (b := 0) (by omega) (by omega)).mpr q83; omega
        refine m_aload_n F rfl e_X9_choose_89 ?_
        refine m_aload_n F rfl e_X9_choose_90 ?_
        refine t_callV F e_X9_choose_91 (s_X5_copyFrom (x_l X) V b M Z T _ _ q2 q1 h2831.1 kq2 kq1 (by omega)) cb_X5_copyFrom ml_X9_291 im_X5_copyFrom se_X5_copyFrom (fun _ => o15) h2831 kq2 rfl rfl (rest := []) rfl (Nat.le_of_ble_eq_true rfl) ⟨Nat.le_of_ble_eq_true rfl, Nat.le_of_ble_eq_true rfl⟩ ⟨Nat.le_of_ble_eq_true rfl, Nat.le_of_ble_eq_true rfl⟩ (fun r σ2834 hp => ?_)
        obtain ⟨h2836, rfl⟩ := hp
        have h2835 := HK.trans h2831 h2836 (by decide)
        refine m_aload_n F rfl e_X9_choose_94 ?_
        refine t_getC F e_X9_choose_95 fl_X9_16 (fun _ => o1) h2835 hk ((fld_eq (h2836.2 a (by rw [show kA _ a = 1 from hk]; decide))).trans ((fld_eq (h2832.2 a (by rw [show kA _ a = 1 from hk]; decide))).trans f2827)) ?_
        refine m_aload_n F rfl e_X9_choose_98 ?_
        refine m_iload F rfl e_X9_choose_99 ?_
        refine t_callV F e_X9_choose_101 (s_X2_goOnBySet (x_l X) V b M Z T _ _ r2828 q2 (nI i) h2835.1 k2829 kq2 (by omega)) cb_X2_goOnBySet ml_X9_294 im_X2_goOnBySet se_X2_goOnBySet (fun _ => o7) h2835 k2829 rfl rfl (rest := []) rfl (Nat.le_of_ble_eq_true rfl) ⟨Nat.le_of_ble_eq_true rfl, Nat.le_of_ble_eq_true rfl⟩ ⟨Nat.le_of_ble_eq_true rfl, Nat.le_of_ble_eq_true rfl⟩ (fun r σ2837 hp => ?_)
        obtain ⟨h2839, rfl⟩ := hp
        have h2838 := HK.trans h2835 h2839 (by decide)
        refine m_aload_n F rfl e_X9_choose_104 ?_
        refine m_aload F rfl e_X9_choose_105 ?_
        refine t_callV F e_X9_choose_107 (s_X5_worthLeft (x_l X) V b M Z T _ _ q2 q3 h2838.1 kq2 kq3 (by omega)) cb_X5_worthLeft ml_X9_298 im_X5_worthLeft se_X5_worthLeft (fun _ => o15) h2838 kq2 rfl rfl (rest := []) rfl (Nat.le_of_ble_eq_true rfl) ⟨Nat.le_of_ble_eq_true rfl, Nat.le_of_ble_eq_true rfl⟩ ⟨Nat.le_of_ble_eq_true rfl, Nat.le_of_ble_eq_true rfl⟩ (fun r σ2840 hp => ?_)
        obtain ⟨h2842, rfl⟩ := hp
        have h2841 := HK.trans h2838 h2842 (by decide)
        refine m_aload F rfl e_X9_choose_110 ?_
        refine m_iload F rfl e_X9_choose_112 ?_
        refine m_aload F rfl e_X9_choose_114 ?_
        refine m_aload_n F rfl e_X9_choose_116 ?_
        refine t_callV F e_X9_choose_117 (s_X5_left (x_l X) V b M Z T _ _ q2  h2841.1 kq2  (by omega)) cb_X5_left ml_X9_128 im_X5_left se_X5_left (fun _ => o15) h2841 kq2 rfl rfl (rest := [.ref q3, .int u2, .ref q4]) rfl (Nat.le_of_ble_eq_true rfl) ⟨Nat.le_of_ble_eq_true rfl, Nat.le_of_ble_eq_true rfl⟩ ⟨Nat.le_of_ble_eq_true rfl, Nat.le_of_ble_eq_true rfl⟩ (fun r σ2843 hp => ?_)
        obtain ⟨h2845, x2846, rfl⟩ := hp
        have h2844 := HK.trans h2841 h2845 (by decide)
        refine t_callV F e_X9_choose_120 (s_X1_isGreaterShare (x_l X) V b M Z T _ _ q4 u2 q3 x2846 h2844.1 kq4 kq3 (by omega)) cb_X1_isGreaterShare ml_X9_301 im_X1_isGreaterShare se_X1_isGreaterShare (fun _ => o6) h2844 kq4 rfl rfl (rest := []) rfl (Nat.le_of_ble_eq_true rfl) ⟨Nat.le_of_ble_eq_true rfl, Nat.le_of_ble_eq_true rfl⟩ ⟨Nat.le_of_ble_eq_true rfl, Nat.le_of_ble_eq_true rfl⟩ (fun r σ2847 hp => ?_)
        obtain ⟨h2849, n2850, hn2850, rfl⟩ := hp
        have h2848 := HK.trans h2844 h2849 (by decide)
        refine m_if_eq F e_X9_choose_123 (fun q123 => ?_) (fun q123 => ?_)
        · have c123 : n2850 = 0 := (nI_eq (a := n2850) (b := 0) (by omega) (by omega)).mp q123
          refine m_iinc F (v := nI (i + 1)) (lv' := [(8, .int (nI (i + 1))), (6, .int u1), (7, .int u2), (0, .ref a), (1, .int u3), (2, .ref q1), (3, .ref q2), (4, .ref q3), (5, .ref q4)]) e_X9_choose_143 rfl (nI_add i 1) (by decide) rfl ?_
          refine m_goto F e_X9_choose_146 ?_
          exact ih (i + 1) u1 u2 u3 q1 q2 q3 q4 _ h2848 ⟨kq1, kq2, kq3, kq4, (by omega)⟩ (by omega)
        · have c123 : n2850 ≠ 0 := by have hh := mt (nI_eq (a := n2850) (b := 0) (by omega) (by omega)).mpr q123; omega
          refine m_iload F rfl e_X9_choose_126 ?_
          refine m_istore F (lv' := [(6, .int (nI i)), (8, .int (nI i)), (7, .int u2), (0, .ref a), (1, .int u3), (2, .ref q1), (3, .ref q2), (4, .ref q3), (5, .ref q4)]) e_X9_choose_128 (by decide) rfl ?_
          refine m_aload F rfl e_X9_choose_130 ?_
          refine m_aload F rfl e_X9_choose_132 ?_
          refine t_callV F e_X9_choose_134 (s_X1_copyFrom (x_l X) V b M Z T _ _ q4 q3 h2848.1 kq4 kq3 (by omega)) cb_X1_copyFrom ml_X9_284 im_X1_copyFrom se_X1_copyFrom (fun _ => o6) h2848 kq4 rfl rfl (rest := []) rfl (Nat.le_of_ble_eq_true rfl) ⟨Nat.le_of_ble_eq_true rfl, Nat.le_of_ble_eq_true rfl⟩ ⟨Nat.le_of_ble_eq_true rfl, Nat.le_of_ble_eq_true rfl⟩ (fun r σ2851 hp => ?_)
          obtain ⟨h2853, rfl⟩ := hp
          have h2852 := HK.trans h2848 h2853 (by decide)
          refine m_aload_n F rfl e_X9_choose_137 ?_
          refine t_callV F e_X9_choose_138 (s_X5_left (x_l X) V b M Z T _ _ q2  h2852.1 kq2  (by omega)) cb_X5_left ml_X9_128 im_X5_left se_X5_left (fun _ => o15) h2852 kq2 rfl rfl (rest := []) rfl (Nat.le_of_ble_eq_true rfl) ⟨Nat.le_of_ble_eq_true rfl, Nat.le_of_ble_eq_true rfl⟩ ⟨Nat.le_of_ble_eq_true rfl, Nat.le_of_ble_eq_true rfl⟩ (fun r σ2854 hp => ?_)
          obtain ⟨h2856, x2857, rfl⟩ := hp
          have h2855 := HK.trans h2852 h2856 (by decide)
          refine m_istore F (lv' := [(7, .int x2857), (6, .int (nI i)), (8, .int (nI i)), (0, .ref a), (1, .int u3), (2, .ref q1), (3, .ref q2), (4, .ref q3), (5, .ref q4)]) e_X9_choose_141 (by decide) rfl ?_
          refine m_iinc F (v := nI (i + 1)) (lv' := [(8, .int (nI (i + 1))), (7, .int x2857), (6, .int (nI i)), (0, .ref a), (1, .int u3), (2, .ref q1), (3, .ref q2), (4, .ref q3), (5, .ref q4)]) e_X9_choose_143 rfl (nI_add i 1) (by decide) rfl ?_
          refine m_goto F e_X9_choose_146 ?_
          refine Wm.lvsub (lv' := [(8, .int (nI (i + 1))), (6, .int (nI i)), (7, .int x2857), (0, .ref a), (1, .int u3), (2, .ref q1), (3, .ref q2), (4, .ref q3), (5, .ref q4)]) ?_ [0, 2, 1, 3, 4, 5, 6, 7, 8] rfl
          exact ih (i + 1) (nI i) x2857 u3 q1 q2 q3 q4 _ h2855 ⟨kq1, kq2, kq3, kq4, (by omega)⟩ (by omega)
      · have c83 : n2833 = 0 := (nI_eq (a := n2833) (b := 0) (by omega) (by omega)).mp q83
        refine m_goto F e_X9_choose_86 ?_
        refine m_iinc F (v := nI (i + 1)) (lv' := [(8, .int (nI (i + 1))), (6, .int u1), (7, .int u2), (0, .ref a), (1, .int u3), (2, .ref q1), (3, .ref q2), (4, .ref q3), (5, .ref q4)]) e_X9_choose_143 rfl (nI_add i 1) (by decide) rfl ?_
        refine m_goto F e_X9_choose_146 ?_
        exact ih (i + 1) u1 u2 u3 q1 q2 q3 q4 _ h2831 ⟨kq1, kq2, kq3, kq4, (by omega)⟩ (by omega)
set_option maxRecDepth 20000 in
theorem s_X9_choose (l : Launch) (V : VX) (b M Z T N : Nat) (σ : Mem) (a : Nat) (x901 : Int32) (h0 : HT V (b, M, Z, T) σ) (hk : kA b a = 1) (hM : M + 0 ≤ 1000000000) : Ct l V yX9_choose cX9_choose 9 (some .int) 6 0 0 N σ [.ref a, .int x901] (fun r τ => HK V (b, M, Z, T) [0, 1, 3, 7, 12, 19] σ τ ∧ ∃ x : Int32, r = some (.int x)) := by
  refine Ct.of (by decide) (Nat.le_of_ble_eq_true rfl) [(0, .ref a), (1, .int x901)] rfl (fun X hX F hQ => ?_)
  have h1 : HK V (b, M, Z, T) [0, 1, 3, 7, 12, 19] σ σ := HK.start h0
  refine m_aload_n F rfl e_X9_choose_0 ?_
  refine m_iload_n F rfl e_X9_choose_1 ?_
  refine t_callV F e_X9_choose_2 (s_X9_leaseAt (x_l X) V b M Z T _ _ a x901 h1.1 hk  (by omega)) cb_X9_leaseAt ml_X9_103 im_X9_leaseAt se_X9_leaseAt (fun _ => o1) h1 hk rfl rfl (rest := []) rfl (Nat.le_of_ble_eq_true rfl) ⟨Nat.le_of_ble_eq_true rfl, Nat.le_of_ble_eq_true rfl⟩ ⟨Nat.le_of_ble_eq_true rfl, Nat.le_of_ble_eq_true rfl⟩ (fun r σ2858 hp => ?_)
  obtain ⟨h2860, c2861⟩ := hp
  have h2859 := HK.trans h1 h2860 (by decide)
  rcases c2861 with rfl | ⟨n2862, r2863, hn2862, en2862, k2864, rfl⟩
  · refine m_ifnonnullN F e_X9_choose_5 ?_
    refine m_iconst F (v := (-1)) (by decide) e_X9_choose_8 ?_
    exact m_iret F hQ e_X9_choose_9 (⟨h2859, _, rfl⟩)
  · subst en2862
    refine m_ifnonnullR F e_X9_choose_5 ?_
    refine m_aload_n F rfl e_X9_choose_10 ?_
    refine m_iload_n F rfl e_X9_choose_11 ?_
    refine t_callV F e_X9_choose_12 (s_X9_runningAt (x_l X) V b M Z T _ _ a (nI n2862) h2859.1 hk  (by omega)) cb_X9_runningAt ml_X9_203 im_X9_runningAt se_X9_runningAt (fun _ => o1) h2859 hk rfl rfl (rest := []) rfl (Nat.le_of_ble_eq_true rfl) ⟨Nat.le_of_ble_eq_true rfl, Nat.le_of_ble_eq_true rfl⟩ ⟨Nat.le_of_ble_eq_true rfl, Nat.le_of_ble_eq_true rfl⟩ (fun r σ2865 hp => ?_)
    obtain ⟨h2867, c2868⟩ := hp
    have h2866 := HK.trans h2859 h2867 (by decide)
    rcases c2868 with rfl | ⟨n2869, r2870, hn2869, en2869, k2871, rfl⟩
    · refine m_astore_nN F (lv' := [(2, .null), (0, .ref a), (1, .int (nI n2862))]) e_X9_choose_15 (by decide) rfl ?_
      refine m_aload_nN F rfl e_X9_choose_16 ?_
      refine m_ifnonnullN F e_X9_choose_17 ?_
      refine m_bipush F (v := (-2)) (by decide) e_X9_choose_20 ?_
      exact m_iret F hQ e_X9_choose_22 (⟨h2866, _, rfl⟩)
    · refine m_astore_n F (lv' := [(2, .ref r2870), (0, .ref a), (1, .int (nI n2862))]) e_X9_choose_15 (by decide) rfl ?_
      refine m_aload_n F rfl e_X9_choose_16 ?_
      refine m_ifnonnullR F e_X9_choose_17 ?_
      refine m_aload_n F rfl e_X9_choose_23 ?_
      refine t_get F e_X9_choose_24 fl_X9_20 (fun _ => o1) h2866 hk rfl (fun v hv f2872 => ?_)
      obtain ⟨r2873, k2874, rfl⟩ := hv
      refine t_get F e_X9_choose_27 fl_X9_226 (fun _ => o7) h2866 k2874 rfl (fun v hv f2875 => ?_)
      obtain ⟨r2876, k2877, rfl⟩ := hv
      refine m_iconst F (v := 0) (by decide) e_X9_choose_30 ?_
      refine t_aald F (len := 4) (j := 0) e_X9_choose_31 (fun _ => o8) rfl h2866 k2877 (by decide) (by unfold vp_in; decide) (fun r2878 k2879 => ?_)
      refine m_astore_n F (lv' := [(3, .ref r2878), (2, .ref r2870), (0, .ref a), (1, .int (nI n2862))]) e_X9_choose_32 (by decide) rfl ?_
      refine m_aload_n F rfl e_X9_choose_33 ?_
      refine t_get F e_X9_choose_34 fl_X9_42 (fun _ => o1) h2866 hk rfl (fun v hv f2880 => ?_)
      obtain ⟨r2881, k2882, rfl⟩ := hv
      refine m_astore F (lv' := [(4, .ref r2881), (3, .ref r2878), (2, .ref r2870), (0, .ref a), (1, .int (nI n2862))]) e_X9_choose_37 (by decide) rfl ?_
      refine m_aload_n F rfl e_X9_choose_39 ?_
      refine t_get F e_X9_choose_40 fl_X9_46 (fun _ => o1) h2866 hk rfl (fun v hv f2883 => ?_)
      obtain ⟨r2884, k2885, rfl⟩ := hv
      refine m_astore F (lv' := [(5, .ref r2884), (4, .ref r2881), (3, .ref r2878), (2, .ref r2870), (0, .ref a), (1, .int (nI n2862))]) e_X9_choose_43 (by decide) rfl ?_
      refine m_aload F rfl e_X9_choose_45 ?_
      refine m_aload_n F rfl e_X9_choose_47 ?_
      refine t_get F e_X9_choose_48 fl_X9_151 (fun _ => o15) h2866 k2871 rfl (fun v hv f2886 => ?_)
      obtain ⟨r2887, k2888, rfl⟩ := hv
      refine t_callV F e_X9_choose_51 (s_X1_copyFrom (x_l X) V b M Z T _ _ r2884 r2887 h2866.1 k2885 k2888 (by omega)) cb_X1_copyFrom ml_X9_284 im_X1_copyFrom se_X1_copyFrom (fun _ => o6) h2866 k2885 rfl rfl (rest := []) rfl (Nat.le_of_ble_eq_true rfl) ⟨Nat.le_of_ble_eq_true rfl, Nat.le_of_ble_eq_true rfl⟩ ⟨Nat.le_of_ble_eq_true rfl, Nat.le_of_ble_eq_true rfl⟩ (fun r σ2889 hp => ?_)
      obtain ⟨h2891, rfl⟩ := hp
      have h2890 := HK.trans h2866 h2891 (by decide)
      refine m_iconst F (v := 0) (by decide) e_X9_choose_54 ?_
      refine m_istore F (lv' := [(6, .int 0), (5, .ref r2884), (4, .ref r2881), (3, .ref r2878), (2, .ref r2870), (0, .ref a), (1, .int (nI n2862))]) e_X9_choose_55 (by decide) rfl ?_
      refine m_aload_n F rfl e_X9_choose_57 ?_
      refine t_callV F e_X9_choose_58 (s_X5_left (x_l X) V b M Z T _ _ r2870  h2890.1 k2871  (by omega)) cb_X5_left ml_X9_128 im_X5_left se_X5_left (fun _ => o15) h2890 k2871 rfl rfl (rest := []) rfl (Nat.le_of_ble_eq_true rfl) ⟨Nat.le_of_ble_eq_true rfl, Nat.le_of_ble_eq_true rfl⟩ ⟨Nat.le_of_ble_eq_true rfl, Nat.le_of_ble_eq_true rfl⟩ (fun r σ2892 hp => ?_)
      obtain ⟨h2894, x2895, rfl⟩ := hp
      have h2893 := HK.trans h2890 h2894 (by decide)
      refine m_istore F (lv' := [(7, .int x2895), (6, .int 0), (5, .ref r2884), (4, .ref r2881), (3, .ref r2878), (2, .ref r2870), (0, .ref a), (1, .int (nI n2862))]) e_X9_choose_61 (by decide) rfl ?_
      refine m_iconst F (v := 1) (by decide) e_X9_choose_63 ?_
      refine m_istore F (lv' := [(8, .int 1), (7, .int x2895), (6, .int 0), (5, .ref r2884), (4, .ref r2881), (3, .ref r2878), (2, .ref r2870), (0, .ref a), (1, .int (nI n2862))]) e_X9_choose_64 (by decide) rfl ?_
      refine Wm.lvsub (lv' := [(8, .int 1), (6, .int 0), (7, .int x2895), (0, .ref a), (1, .int (nI n2862)), (2, .ref r2870), (3, .ref r2878), (4, .ref r2881), (5, .ref r2884)]) ?_ [0, 2, 1, 7, 8, 6, 5, 4, 3] rfl
      exact lp_X9_choose_66 F hQ hk hM (16 - 1 + 1) 1 0 x2895 (nI n2862) r2870 r2878 r2881 r2884 _ h2893 ⟨k2871, k2879, k2882, k2885, (by omega)⟩ (Nat.lt_succ_self _)
set_option maxRecDepth 20000 in
theorem lp_X9_life_74 {V : VX} {X : MX} {b M Z T N : Nat} {σ : Mem} {a : Nat} {n902 : Nat}  (F : Fx V X yX9_life cX9_life 8 (some .long) (rmd 2 0 0)) (hQ : Rt V X 0 0 N (fun r τ => HK V (b, M, Z, T) [0, 1, 3, 7, 12, 15, 19] σ τ ∧ ∃ x : Int64, r = some (.long x))) (hk : kA b a = 1) (hn902 : n902 ≤ 1) (hM : M + 0 ≤ 1000000000)  : ∀ (fuel : Nat) (i1 : Int32) (u1 : Int32) (u3 : Int32) (q1 : Nat) (q3 : Nat) (q4 : Nat) (w1 : Int32) (τ : Mem), HK V (b, M, Z, T) [0, 1, 3, 7, 12, 15, 19] σ τ → kA b q1 = 15 ∧ kA b q3 = 6 ∧ kA b q4 = 6 ∧ fld τ q1 2 = some (.int w1) ∧ True → (w1.toInt - i1.toInt).toNat < fuel → Wm V X 8 N τ 0 0 74 [(7, .int i1), (6, .int u1), (0, .ref a), (1, .int u3), (2, .int (nI n902)), (3, .ref q1), (4, .ref q3), (5, .ref q4)] [] := by
  intro fuel
  induction fuel with
  | zero => intro i1 u1 u3 q1 q3 q4 w1 τ h1 hi hm; exact absurd hm (Nat.not_lt_zero _)
  | succ fuel ih =>
    intro i1 u1 u3 q1 q3 q4 w1 τ h1 hi hm
    obtain ⟨kq1, kq3, kq4, hfw1, hi⟩ := hi
    refine m_iload F rfl e_X9_life_74 ?_
    refine m_aload_n F rfl e_X9_life_76 ?_
    refine t_getC F e_X9_life_77 fl_X9_119 (fun _ => o15) h1 kq1 (hfw1) ?_
    refine m_icmp_ge F e_X9_life_80 (fun q80 => ?_) (fun q80 => ?_)
    · refine m_aload F rfl e_X9_life_133 ?_
      refine t_callV F e_X9_life_135 (s_X1_isZero (x_l X) V b M Z T _ _ q4  h1.1 kq4  (by omega)) cb_X1_isZero ml_X9_314 im_X1_isZero se_X1_isZero (fun _ => o6) h1 kq4 rfl rfl (rest := []) rfl (Nat.le_of_ble_eq_true rfl) ⟨Nat.le_of_ble_eq_true rfl, Nat.le_of_ble_eq_true rfl⟩ ⟨Nat.le_of_ble_eq_true rfl, Nat.le_of_ble_eq_true rfl⟩ (fun r σ2896 hp => ?_)
      obtain ⟨h2898, n2899, hn2899, rfl⟩ := hp
      have h2897 := HK.trans h1 h2898 (by decide)
      refine m_if_eq F e_X9_life_138 (fun q138 => ?_) (fun q138 => ?_)
      · have c138 : n2899 = 0 := (nI_eq (a := n2899) (b := 0) (by omega) (by omega)).mp q138
        refine m_aload F rfl e_X9_life_145 ?_
        refine m_aload F rfl e_X9_life_147 ?_
        refine m_iload_n F rfl e_X9_life_149 ?_
        refine m_callS F e_X9_life_150 (s_X9_leastTerm (x_l X) V b M Z T _ _ q3 q4 n902 h2897.1 kq3 kq4 (by omega) (by omega)) cb_X9_leastTerm ml_X9_320 sm_X9_leastTerm rfl (rest := []) rfl (Nat.le_of_ble_eq_true rfl) ⟨Nat.le_of_ble_eq_true rfl, Nat.le_of_ble_eq_true rfl⟩ ⟨Nat.le_of_ble_eq_true rfl, Nat.le_of_ble_eq_true rfl⟩ (k' := 0) (z' := 0) (N' := N) rfl rfl rfl (fun r σ2900 hp => ?_)
        obtain ⟨h2902, x2903, rfl⟩ := hp
        have h2901 := HK.trans h2897 h2902 (by decide)
        exact m_lret F hQ e_X9_life_153 (⟨h2901, _, rfl⟩)
      · have c138 : n2899 ≠ 0 := by have hh := mt (nI_eq (a := n2899) (b := 0) (by omega) (by omega)).mpr q138; omega
        refine m_ldc2 F kc_X9_318 e_X9_life_141 ?_
        exact m_lret F hQ e_X9_life_144 (⟨h2897, _, rfl⟩)
    · refine m_aload_n F rfl e_X9_life_83 ?_
      refine t_get F e_X9_life_84 fl_X9_165 (fun _ => o15) h1 kq1 rfl (fun v hv f2904 => ?_)
      obtain ⟨r2905, k2906, rfl⟩ := hv
      refine m_iload F rfl e_X9_life_87 ?_
      refine m_aload_n F rfl e_X9_life_89 ?_
      refine t_get F e_X9_life_90 fl_X9_49 (fun _ => o1) h1 hk rfl (fun v hv f2907 => ?_)
      obtain ⟨r2908, k2909, rfl⟩ := hv
      refine t_callV F e_X9_life_93 (s_X8_copyTo (x_l X) V b M Z T _ _ r2905 i1 r2908 h1.1 k2906 k2909 (by omega)) cb_X8_copyTo ml_X9_169 im_X8_copyTo se_X8_copyTo (fun _ => o16) h1 k2906 rfl rfl (rest := []) rfl (Nat.le_of_ble_eq_true rfl) ⟨Nat.le_of_ble_eq_true rfl, Nat.le_of_ble_eq_true rfl⟩ ⟨Nat.le_of_ble_eq_true rfl, Nat.le_of_ble_eq_true rfl⟩ (fun r σ2910 hp => ?_)
      obtain ⟨h2912, rfl⟩ := hp
      have h2911 := HK.trans h1 h2912 (by decide)
      refine m_aload F rfl e_X9_life_96 ?_
      refine m_aload_n F rfl e_X9_life_98 ?_
      refine t_getC F e_X9_life_99 fl_X9_49 (fun _ => o1) h2911 hk ((fld_eq (h2912.2 a (by rw [show kA _ a = 1 from hk]; decide))).trans f2907) ?_
      refine t_callV F e_X9_life_102 (s_X1_add (x_l X) V b M Z T _ _ q4 r2908 h2911.1 kq4 k2909 (by omega)) cb_X1_add ml_X9_308 im_X1_add se_X1_add (fun _ => o6) h2911 kq4 rfl rfl (rest := []) rfl (Nat.le_of_ble_eq_true rfl) ⟨Nat.le_of_ble_eq_true rfl, Nat.le_of_ble_eq_true rfl⟩ ⟨Nat.le_of_ble_eq_true rfl, Nat.le_of_ble_eq_true rfl⟩ (fun r σ2913 hp => ?_)
      obtain ⟨h2915, rfl⟩ := hp
      have h2914 := HK.trans h2911 h2915 (by decide)
      refine m_aload_n F rfl e_X9_life_105 ?_
      refine t_getC F e_X9_life_106 fl_X9_49 (fun _ => o1) h2914 hk ((fld_eq (h2915.2 a (by rw [show kA _ a = 1 from hk]; decide))).trans ((fld_eq (h2912.2 a (by rw [show kA _ a = 1 from hk]; decide))).trans f2907)) ?_
      refine m_iload F rfl e_X9_life_109 ?_
      refine m_i2l F e_X9_life_111 ?_
      refine Wm.topl (fun x2916 _ => ?_)
      refine t_callV F e_X9_life_112 (s_X1_times (x_l X) V b M Z T _ _ r2908 x2916 h2914.1 k2909  (by omega)) cb_X1_times ml_X9_311 im_X1_times se_X1_times (fun _ => o6) h2914 k2909 rfl rfl (rest := []) rfl (Nat.le_of_ble_eq_true rfl) ⟨Nat.le_of_ble_eq_true rfl, Nat.le_of_ble_eq_true rfl⟩ ⟨Nat.le_of_ble_eq_true rfl, Nat.le_of_ble_eq_true rfl⟩ (fun r σ2917 hp => ?_)
      obtain ⟨h2919, rfl⟩ := hp
      have h2918 := HK.trans h2914 h2919 (by decide)
      refine m_aload F rfl e_X9_life_115 ?_
      refine m_aload_n F rfl e_X9_life_117 ?_
      refine t_getC F e_X9_life_118 fl_X9_49 (fun _ => o1) h2918 hk ((fld_eq (h2919.2 a (by rw [show kA _ a = 1 from hk]; decide))).trans ((fld_eq (h2915.2 a (by rw [show kA _ a = 1 from hk]; decide))).trans ((fld_eq (h2912.2 a (by rw [show kA _ a = 1 from hk]; decide))).trans f2907))) ?_
      refine t_callV F e_X9_life_121 (s_X1_add (x_l X) V b M Z T _ _ q3 r2908 h2918.1 kq3 k2909 (by omega)) cb_X1_add ml_X9_308 im_X1_add se_X1_add (fun _ => o6) h2918 kq3 rfl rfl (rest := []) rfl (Nat.le_of_ble_eq_true rfl) ⟨Nat.le_of_ble_eq_true rfl, Nat.le_of_ble_eq_true rfl⟩ ⟨Nat.le_of_ble_eq_true rfl, Nat.le_of_ble_eq_true rfl⟩ (fun r σ2920 hp => ?_)
      obtain ⟨h2922, rfl⟩ := hp
      have h2921 := HK.trans h2918 h2922 (by decide)
      refine m_iinc F (v := (u1 + 1)) (lv' := [(6, .int (u1 + 1)), (7, .int i1), (0, .ref a), (1, .int u3), (2, .int (nI n902)), (3, .ref q1), (4, .ref q3), (5, .ref q4)]) e_X9_life_124 rfl rfl (by decide) rfl ?_
      refine m_iinc F (v := (i1 + 1)) (lv' := [(7, .int (i1 + 1)), (6, .int (u1 + 1)), (0, .ref a), (1, .int u3), (2, .int (nI n902)), (3, .ref q1), (4, .ref q3), (5, .ref q4)]) e_X9_life_127 rfl rfl (by decide) rfl ?_
      refine m_goto F e_X9_life_130 ?_
      exact ih (i1 + 1) (u1 + 1) u3 q1 q3 q4 w1 _ h2921 ⟨kq1, kq3, kq4, ((fld_eq (h2922.2 q1 (by rw [show kA _ q1 = 15 from kq1]; decide))).trans ((fld_eq (h2919.2 q1 (by rw [show kA _ q1 = 15 from kq1]; decide))).trans ((fld_eq (h2915.2 q1 (by rw [show kA _ q1 = 15 from kq1]; decide))).trans ((fld_eq (h2912.2 q1 (by rw [show kA _ q1 = 15 from kq1]; decide))).trans hfw1)))), trivial⟩ (by have h9 := inc_lt (Int32.not_le.mp q80); have h8 := Int32.lt_iff_toInt_lt.mp (Int32.not_le.mp q80); omega)
set_option maxRecDepth 20000 in
theorem s_X9_life (l : Launch) (V : VX) (b M Z T N : Nat) (σ : Mem) (a : Nat) (x901 : Int32) (n902 : Nat) (h0 : HT V (b, M, Z, T) σ) (hk : kA b a = 1) (hn902 : n902 ≤ 1) (hM : M + 0 ≤ 1000000000) : Ct l V yX9_life cX9_life 8 (some .long) 2 0 0 N σ [.ref a, .int x901, .int (nI n902)] (fun r τ => HK V (b, M, Z, T) [0, 1, 3, 7, 12, 15, 19] σ τ ∧ ∃ x : Int64, r = some (.long x)) := by
  refine Ct.of (by decide) (Nat.le_of_ble_eq_true rfl) [(0, .ref a), (1, .int x901), (2, .int (nI n902))] rfl (fun X hX F hQ => ?_)
  have h1 : HK V (b, M, Z, T) [0, 1, 3, 7, 12, 15, 19] σ σ := HK.start h0
  refine m_aload_n F rfl e_X9_life_0 ?_
  refine m_iload_n F rfl e_X9_life_1 ?_
  refine t_callV F e_X9_life_2 (s_X9_leaseAt (x_l X) V b M Z T _ _ a x901 h1.1 hk  (by omega)) cb_X9_leaseAt ml_X9_103 im_X9_leaseAt se_X9_leaseAt (fun _ => o1) h1 hk rfl rfl (rest := []) rfl (Nat.le_of_ble_eq_true rfl) ⟨Nat.le_of_ble_eq_true rfl, Nat.le_of_ble_eq_true rfl⟩ ⟨Nat.le_of_ble_eq_true rfl, Nat.le_of_ble_eq_true rfl⟩ (fun r σ2923 hp => ?_)
  obtain ⟨h2925, c2926⟩ := hp
  have h2924 := HK.trans h1 h2925 (by decide)
  rcases c2926 with rfl | ⟨n2927, r2928, hn2927, en2927, k2929, rfl⟩
  · refine m_astore_nN F (lv' := [(3, .null), (0, .ref a), (1, .int x901), (2, .int (nI n902))]) e_X9_life_5 (by decide) rfl ?_
    refine m_aload_nN F rfl e_X9_life_6 ?_
    refine m_ifnonnullN F e_X9_life_7 ?_
    refine m_ldc2 F kc_X9_149 e_X9_life_10 ?_
    exact m_lret F hQ e_X9_life_13 (⟨h2924, _, rfl⟩)
  · subst en2927
    refine m_astore_n F (lv' := [(3, .ref r2928), (0, .ref a), (1, .int (nI n2927)), (2, .int (nI n902))]) e_X9_life_5 (by decide) rfl ?_
    refine m_aload_n F rfl e_X9_life_6 ?_
    refine m_ifnonnullR F e_X9_life_7 ?_
    refine m_aload_n F rfl e_X9_life_14 ?_
    refine t_get F e_X9_life_15 fl_X9_42 (fun _ => o1) h2924 hk rfl (fun v hv f2930 => ?_)
    obtain ⟨r2931, k2932, rfl⟩ := hv
    refine m_astore F (lv' := [(4, .ref r2931), (3, .ref r2928), (0, .ref a), (1, .int (nI n2927)), (2, .int (nI n902))]) e_X9_life_18 (by decide) rfl ?_
    refine m_aload_n F rfl e_X9_life_20 ?_
    refine t_get F e_X9_life_21 fl_X9_46 (fun _ => o1) h2924 hk rfl (fun v hv f2933 => ?_)
    obtain ⟨r2934, k2935, rfl⟩ := hv
    refine m_astore F (lv' := [(5, .ref r2934), (4, .ref r2931), (3, .ref r2928), (0, .ref a), (1, .int (nI n2927)), (2, .int (nI n902))]) e_X9_life_24 (by decide) rfl ?_
    refine m_aload F rfl e_X9_life_26 ?_
    refine m_lconst F (v := 0) (by decide) e_X9_life_28 ?_
    refine t_callV F e_X9_life_29 (s_X1_set (x_l X) V b M Z T _ _ r2931 0 h2924.1 k2932  (by omega)) cb_X1_set ml_X9_305 im_X1_set se_X1_set (fun _ => o6) h2924 k2932 rfl rfl (rest := []) rfl (Nat.le_of_ble_eq_true rfl) ⟨Nat.le_of_ble_eq_true rfl, Nat.le_of_ble_eq_true rfl⟩ ⟨Nat.le_of_ble_eq_true rfl, Nat.le_of_ble_eq_true rfl⟩ (fun r σ2936 hp => ?_)
    obtain ⟨h2938, rfl⟩ := hp
    have h2937 := HK.trans h2924 h2938 (by decide)
    refine m_aload F rfl e_X9_life_32 ?_
    refine m_lconst F (v := 0) (by decide) e_X9_life_34 ?_
    refine t_callV F e_X9_life_35 (s_X1_set (x_l X) V b M Z T _ _ r2934 0 h2937.1 k2935  (by omega)) cb_X1_set ml_X9_305 im_X1_set se_X1_set (fun _ => o6) h2937 k2935 rfl rfl (rest := []) rfl (Nat.le_of_ble_eq_true rfl) ⟨Nat.le_of_ble_eq_true rfl, Nat.le_of_ble_eq_true rfl⟩ ⟨Nat.le_of_ble_eq_true rfl, Nat.le_of_ble_eq_true rfl⟩ (fun r σ2939 hp => ?_)
    obtain ⟨h2941, rfl⟩ := hp
    have h2940 := HK.trans h2937 h2941 (by decide)
    refine m_aload_n F rfl e_X9_life_38 ?_
    refine t_get F e_X9_life_39 fl_X9_125 (fun _ => o15) h2940 k2929 rfl (fun v hv f2942 => ?_)
    obtain ⟨x2943, rfl⟩ := hv
    refine m_if_ne F e_X9_life_42 (fun q42 => ?_) (fun q42 => ?_)
    · refine m_iconst F (v := 0) (by decide) e_X9_life_60 ?_
      refine m_istore F (lv' := [(6, .int 0), (5, .ref r2934), (4, .ref r2931), (3, .ref r2928), (0, .ref a), (1, .int (nI n2927)), (2, .int (nI n902))]) e_X9_life_61 (by decide) rfl ?_
      refine m_aload_n F rfl e_X9_life_63 ?_
      refine t_get F e_X9_life_64 fl_X9_119 (fun _ => o15) h2940 k2929 rfl (fun v hv f2944 => ?_)
      obtain ⟨x2945, rfl⟩ := hv
      refine m_aload_n F rfl e_X9_life_67 ?_
      refine t_callV F e_X9_life_68 (s_X5_left (x_l X) V b M Z T _ _ r2928  h2940.1 k2929  (by omega)) cb_X5_left ml_X9_128 im_X5_left se_X5_left (fun _ => o15) h2940 k2929 rfl rfl (rest := [.int x2945]) rfl (Nat.le_of_ble_eq_true rfl) ⟨Nat.le_of_ble_eq_true rfl, Nat.le_of_ble_eq_true rfl⟩ ⟨Nat.le_of_ble_eq_true rfl, Nat.le_of_ble_eq_true rfl⟩ (fun r σ2946 hp => ?_)
      obtain ⟨h2948, x2949, rfl⟩ := hp
      have h2947 := HK.trans h2940 h2948 (by decide)
      refine m_isub F e_X9_life_71 ?_
      refine Wm.top (fun x2950 _ => ?_)
      refine m_istore F (lv' := [(7, .int x2950), (6, .int 0), (5, .ref r2934), (4, .ref r2931), (3, .ref r2928), (0, .ref a), (1, .int (nI n2927)), (2, .int (nI n902))]) e_X9_life_72 (by decide) rfl ?_
      refine Wm.lvsub (lv' := [(7, .int x2950), (6, .int 0), (0, .ref a), (1, .int (nI n2927)), (2, .int (nI n902)), (3, .ref r2928), (4, .ref r2931), (5, .ref r2934)]) ?_ [0, 1, 5, 6, 7, 4, 3, 2] rfl
      exact lp_X9_life_74 F hQ hk hn902 hM ((x2945.toInt - x2950.toInt).toNat + 1) x2950 0 (nI n2927) r2928 r2931 r2934 x2945 _ h2947 ⟨k2929, k2932, k2935, ((fld_eq (h2948.2 r2928 (by rw [show kA _ r2928 = 15 from k2929]; decide))).trans f2944), trivial⟩ (Nat.lt_succ_self _)
    · refine m_aload_n F rfl e_X9_life_45 ?_
      refine t_get F e_X9_life_46 fl_X9_114 (fun _ => o15) h2940 k2929 rfl (fun v hv f2951 => ?_)
      obtain ⟨x2952, rfl⟩ := hv
      refine m_aload_n F rfl e_X9_life_49 ?_
      refine t_get F e_X9_life_50 fl_X9_16 (fun _ => o1) h2940 hk rfl (fun v hv f2953 => ?_)
      obtain ⟨r2954, k2955, rfl⟩ := hv
      refine t_get F e_X9_life_53 fl_X9_94 (fun _ => o7) h2940 k2955 rfl (fun v hv f2956 => ?_)
      obtain ⟨n2957, hn2957, rfl⟩ := hv
      replace hn2957 : n2957 ≤ M := hn2957
      refine m_isub F e_X9_life_56 ?_
      refine Wm.top (fun x2958 _ => ?_)
      refine m_goto F e_X9_life_57 ?_
      refine m_istore F (lv' := [(6, .int x2958), (5, .ref r2934), (4, .ref r2931), (3, .ref r2928), (0, .ref a), (1, .int (nI n2927)), (2, .int (nI n902))]) e_X9_life_61 (by decide) rfl ?_
      refine m_aload_n F rfl e_X9_life_63 ?_
      refine t_get F e_X9_life_64 fl_X9_119 (fun _ => o15) h2940 k2929 rfl (fun v hv f2959 => ?_)
      obtain ⟨x2960, rfl⟩ := hv
      refine m_aload_n F rfl e_X9_life_67 ?_
      refine t_callV F e_X9_life_68 (s_X5_left (x_l X) V b M Z T _ _ r2928  h2940.1 k2929  (by omega)) cb_X5_left ml_X9_128 im_X5_left se_X5_left (fun _ => o15) h2940 k2929 rfl rfl (rest := [.int x2960]) rfl (Nat.le_of_ble_eq_true rfl) ⟨Nat.le_of_ble_eq_true rfl, Nat.le_of_ble_eq_true rfl⟩ ⟨Nat.le_of_ble_eq_true rfl, Nat.le_of_ble_eq_true rfl⟩ (fun r σ2961 hp => ?_)
      obtain ⟨h2963, x2964, rfl⟩ := hp
      have h2962 := HK.trans h2940 h2963 (by decide)
      refine m_isub F e_X9_life_71 ?_
      refine Wm.top (fun x2965 _ => ?_)
      refine m_istore F (lv' := [(7, .int x2965), (6, .int x2958), (5, .ref r2934), (4, .ref r2931), (3, .ref r2928), (0, .ref a), (1, .int (nI n2927)), (2, .int (nI n902))]) e_X9_life_72 (by decide) rfl ?_
      refine Wm.lvsub (lv' := [(7, .int x2965), (6, .int x2958), (0, .ref a), (1, .int (nI n2927)), (2, .int (nI n902)), (3, .ref r2928), (4, .ref r2931), (5, .ref r2934)]) ?_ [0, 1, 5, 6, 7, 4, 3, 2] rfl
      exact lp_X9_life_74 F hQ hk hn902 hM ((x2960.toInt - x2965.toInt).toNat + 1) x2965 x2958 (nI n2927) r2928 r2931 r2934 x2960 _ h2962 ⟨k2929, k2932, k2935, ((fld_eq (h2963.2 r2928 (by rw [show kA _ r2928 = 15 from k2929]; decide))).trans f2959), trivial⟩ (Nat.lt_succ_self _)
set_option maxRecDepth 20000 in
theorem lp_X9_peak_44 {V : VX} {X : MX} {b M Z T N : Nat} {σ : Mem} {a : Nat}   (F : Fx V X yX9_peak cX9_peak 7 (some .long) (rmd 7 0 0)) (hQ : Rt V X 0 0 N (fun r τ => HK V (b, M + 1296, Z, T) [0, 1, 3] σ τ ∧ ∃ x : Int64, r = some (.long x))) (hk : kA b a = 1) (hM : M + 1296 ≤ 1000000000)  : ∀ (fuel : Nat) (i : Nat) (u1 : Int32) (c : Nat) (u3 : Int32) (q1 : Nat) (q3 : Nat) (τ : Mem), HK V (b, M + 648 + 9 * i, Z, T) [0, 1, 3] σ τ → kA b q1 = 7 ∧ kA b q3 = 6 ∧ i ≤ 72 ∧ c ≤ 72 → 72 - i < fuel → Wm V X 7 N τ 0 0 44 [(6, .int (nI i)), (5, .int u1), (3, .int (nI c)), (0, .ref a), (1, .int u3), (2, .ref q1), (4, .ref q3)] [] := by
  intro fuel
  induction fuel with
  | zero => intro i u1 c u3 q1 q3 τ h1 hi hm; exact absurd hm (Nat.not_lt_zero _)
  | succ fuel ih =>
    intro i u1 c u3 q1 q3 τ h1 hi hm
    obtain ⟨kq1, kq3, hi⟩ := hi
    refine m_iload F rfl e_X9_peak_44 ?_
    refine m_iload_n F rfl e_X9_peak_46 ?_
    refine m_icmp_ge F e_X9_peak_47 (fun q47 => ?_) (fun q47 => ?_)
    · have c47 : i ≥ c := (nI_leI (a := c) (b := i) (by omega) (by omega)).mp q47
      refine m_aload F rfl e_X9_peak_85 ?_
      refine t_callV F e_X9_peak_87 (s_X1_isZero (x_l X) V b (M + 648 + 9 * i) Z T _ _ q3  h1.1 kq3  (by omega)) cb_X1_isZero ml_X9_314 im_X1_isZero se_X1_isZero (fun _ => o6) h1 kq3 rfl rfl (rest := []) rfl (Nat.le_of_ble_eq_true rfl) ⟨Nat.le_of_ble_eq_true rfl, Nat.le_of_ble_eq_true rfl⟩ ⟨Nat.le_of_ble_eq_true rfl, Nat.le_of_ble_eq_true rfl⟩ (fun r σ2966 hp => ?_)
      obtain ⟨h2968, n2969, hn2969, rfl⟩ := hp
      have h2967 := HK.trans h1 h2968 (by decide)
      refine m_if_eq F e_X9_peak_90 (fun q90 => ?_) (fun q90 => ?_)
      · have c90 : n2969 = 0 := (nI_eq (a := n2969) (b := 0) (by omega) (by omega)).mp q90
        refine m_iload_n F rfl e_X9_peak_97 ?_
        refine m_if_ne F e_X9_peak_98 (fun q98 => ?_) (fun q98 => ?_)
        · refine m_aload F rfl e_X9_peak_107 ?_
          refine t_callV F e_X9_peak_109 (s_X1_asLong (x_l X) V b (M + 648 + 9 * i) Z T _ _ q3  h2967.1 kq3  (by omega)) cb_X1_asLong ml_X9_157 im_X1_asLong se_X1_asLong (fun _ => o6) h2967 kq3 rfl rfl (rest := []) rfl (Nat.le_of_ble_eq_true rfl) ⟨Nat.le_of_ble_eq_true rfl, Nat.le_of_ble_eq_true rfl⟩ ⟨Nat.le_of_ble_eq_true rfl, Nat.le_of_ble_eq_true rfl⟩ (fun r σ2970 hp => ?_)
          obtain ⟨h2972, x2973, rfl⟩ := hp
          have h2971 := HK.trans h2967 h2972 (by decide)
          exact m_lret F hQ e_X9_peak_112 (⟨(h2971.mono (M' := M + 1296) (Z' := Z) (by omega) (by intro e; first | rfl | assumption | omega)), _, rfl⟩)
        · refine m_iload F rfl e_X9_peak_101 ?_
          refine m_i2l F e_X9_peak_103 ?_
          refine Wm.topl (fun x2974 _ => ?_)
          refine m_goto F e_X9_peak_104 ?_
          exact m_lret F hQ e_X9_peak_112 (⟨(h2967.mono (M' := M + 1296) (Z' := Z) (by omega) (by intro e; first | rfl | assumption | omega)), _, rfl⟩)
      · have c90 : n2969 ≠ 0 := by have hh := mt (nI_eq (a := n2969) (b := 0) (by omega) (by omega)).mpr q90; omega
        refine m_ldc2 F kc_X9_318 e_X9_peak_93 ?_
        exact m_lret F hQ e_X9_peak_96 (⟨(h2967.mono (M' := M + 1296) (Z' := Z) (by omega) (by intro e; first | rfl | assumption | omega)), _, rfl⟩)
    · have c47 : i < c := by have hh := mt (nI_leI (a := c) (b := i) (by omega) (by omega)).mpr q47; omega
      refine m_aload_n F rfl e_X9_peak_50 ?_
      refine t_callV F e_X9_peak_51 (s_X2_periodGoesBy (x_l X) V b (M + 648 + 9 * i) Z T _ _ q1  h1.1 kq1  (by omega)) cb_X2_periodGoesBy ml_X9_100 im_X2_periodGoesBy se_X2_periodGoesBy (fun _ => o7) h1 kq1 rfl rfl (rest := []) rfl (Nat.le_of_ble_eq_true rfl) ⟨Nat.le_of_ble_eq_true rfl, Nat.le_of_ble_eq_true rfl⟩ ⟨Nat.le_of_ble_eq_true rfl, Nat.le_of_ble_eq_true rfl⟩ (fun r σ2975 hp => ?_)
      obtain ⟨h2977, rfl⟩ := hp
      have h2976 := HK.trans h1 h2977 (by decide)
      refine m_aload_n F rfl e_X9_peak_54 ?_
      refine t_get F e_X9_peak_55 fl_X9_327 (fun _ => o7) h2976 kq1 rfl (fun v hv f2978 => ?_)
      obtain ⟨r2979, k2980, rfl⟩ := hv
      refine m_aload F rfl e_X9_peak_58 ?_
      refine t_callV F e_X9_peak_60 (s_X1_isAbove (x_l X) V b (M + 648 + 9 * i + 9) Z T _ _ r2979 q3 h2976.1 k2980 kq3 (by omega)) cb_X1_isAbove ml_X9_330 im_X1_isAbove se_X1_isAbove (fun _ => o6) h2976 k2980 rfl rfl (rest := []) rfl (Nat.le_of_ble_eq_true rfl) ⟨Nat.le_of_ble_eq_true rfl, Nat.le_of_ble_eq_true rfl⟩ ⟨Nat.le_of_ble_eq_true rfl, Nat.le_of_ble_eq_true rfl⟩ (fun r σ2981 hp => ?_)
      obtain ⟨h2983, n2984, hn2984, rfl⟩ := hp
      have h2982 := HK.trans h2976 h2983 (by decide)
      refine m_if_eq F e_X9_peak_63 (fun q63 => ?_) (fun q63 => ?_)
      · have c63 : n2984 = 0 := (nI_eq (a := n2984) (b := 0) (by omega) (by omega)).mp q63
        refine m_iinc F (v := nI (i + 1)) (lv' := [(6, .int (nI (i + 1))), (5, .int u1), (3, .int (nI c)), (0, .ref a), (1, .int u3), (2, .ref q1), (4, .ref q3)]) e_X9_peak_79 rfl (nI_add i 1) (by decide) rfl ?_
        refine m_goto F e_X9_peak_82 ?_
        exact ih (i + 1) u1 c u3 q1 q3 _ (h2982.mono (M' := M + 648 + 9 * (i + 1)) (Z' := Z) (by omega) (by intro e9; first | exact e9 | rfl)) ⟨kq1, kq3, (by omega)⟩ (by omega)
      · have c63 : n2984 ≠ 0 := by have hh := mt (nI_eq (a := n2984) (b := 0) (by omega) (by omega)).mpr q63; omega
        refine m_aload F rfl e_X9_peak_66 ?_
        refine m_aload_n F rfl e_X9_peak_68 ?_
        refine t_getC F e_X9_peak_69 fl_X9_327 (fun _ => o7) h2982 kq1 ((fld_eq (h2983.2 q1 (by rw [show kA _ q1 = 7 from kq1]; decide))).trans f2978) ?_
        refine t_callV F e_X9_peak_72 (s_X1_copyFrom (x_l X) V b (M + 648 + 9 * i + 9) Z T _ _ q3 r2979 h2982.1 kq3 k2980 (by omega)) cb_X1_copyFrom ml_X9_284 im_X1_copyFrom se_X1_copyFrom (fun _ => o6) h2982 kq3 rfl rfl (rest := []) rfl (Nat.le_of_ble_eq_true rfl) ⟨Nat.le_of_ble_eq_true rfl, Nat.le_of_ble_eq_true rfl⟩ ⟨Nat.le_of_ble_eq_true rfl, Nat.le_of_ble_eq_true rfl⟩ (fun r σ2985 hp => ?_)
        obtain ⟨h2987, rfl⟩ := hp
        have h2986 := HK.trans h2982 h2987 (by decide)
        refine m_iload F rfl e_X9_peak_75 ?_
        refine m_istore F (lv' := [(5, .int (nI i)), (6, .int (nI i)), (3, .int (nI c)), (0, .ref a), (1, .int u3), (2, .ref q1), (4, .ref q3)]) e_X9_peak_77 (by decide) rfl ?_
        refine m_iinc F (v := nI (i + 1)) (lv' := [(6, .int (nI (i + 1))), (5, .int (nI i)), (3, .int (nI c)), (0, .ref a), (1, .int u3), (2, .ref q1), (4, .ref q3)]) e_X9_peak_79 rfl (nI_add i 1) (by decide) rfl ?_
        refine m_goto F e_X9_peak_82 ?_
        exact ih (i + 1) (nI i) c u3 q1 q3 _ (h2986.mono (M' := M + 648 + 9 * (i + 1)) (Z' := Z) (by omega) (by intro e9; first | exact e9 | rfl)) ⟨kq1, kq3, (by omega)⟩ (by omega)
set_option maxRecDepth 20000 in
theorem s_X9_peak (l : Launch) (V : VX) (b M Z T N : Nat) (σ : Mem) (a : Nat) (x901 : Int32) (h0 : HT V (b, M, Z, T) σ) (hk : kA b a = 1) (hM : M + 1296 ≤ 1000000000) : Ct l V yX9_peak cX9_peak 7 (some .long) 7 0 0 N σ [.ref a, .int x901] (fun r τ => HK V (b, M + 1296, Z, T) [0, 1, 3] σ τ ∧ ∃ x : Int64, r = some (.long x)) := by
  refine Ct.of (by decide) (Nat.le_of_ble_eq_true rfl) [(0, .ref a), (1, .int x901)] rfl (fun X hX F hQ => ?_)
  have h1 : HK V (b, M, Z, T) [0, 1, 3] σ σ := HK.start h0
  refine m_iload_n F rfl e_X9_peak_0 ?_
  refine m_if_lt F e_X9_peak_1 (fun q1 => ?_) (fun q1 => ?_)
  · refine m_ldc2 F kc_X9_149 e_X9_peak_9 ?_
    exact m_lret F hQ e_X9_peak_12 (⟨(h1.mono (M' := M + 1296) (Z' := Z) (by omega) (by intro e; first | rfl | assumption | omega)), _, rfl⟩)
  · obtain ⟨n2988, hn2988, rfl⟩ := nI_nn (x := x901) (fun e => q1 (Int32.lt_of_lt_of_le e (by decide)))
    have c1 : n2988 ≥ 0 := by have hh := mt (nI_ltI (a := n2988) (b := 0) (by omega) (by omega)).mpr q1; omega
    refine m_iload_n F rfl e_X9_peak_4 ?_
    refine m_iconst F (v := 1) (by decide) e_X9_peak_5 ?_
    refine m_icmp_le F e_X9_peak_6 (fun q6 => ?_) (fun q6 => ?_)
    · have c6 : n2988 ≤ 1 := (nI_leI (a := n2988) (b := 1) (by omega) (by omega)).mp q6
      refine m_aload_n F rfl e_X9_peak_13 ?_
      refine m_iconst F (v := 0) (by decide) e_X9_peak_14 ?_
      refine t_callV F e_X9_peak_15 (s_X9_bookIn (x_l X) V b M Z T _ _ a 0 h1.1 hk (by omega) (by omega)) cb_X9_bookIn ml_X9_271 im_X9_bookIn se_X9_bookIn (fun _ => o1) h1 hk rfl rfl (rest := []) rfl (Nat.le_of_ble_eq_true rfl) ⟨Nat.le_of_ble_eq_true rfl, Nat.le_of_ble_eq_true rfl⟩ ⟨Nat.le_of_ble_eq_true rfl, Nat.le_of_ble_eq_true rfl⟩ (fun r σ2989 hp => ?_)
      obtain ⟨h2991, r2992, k2993, rfl⟩ := hp
      have h2990 := HK.trans h1 h2991 (by decide)
      refine m_astore_n F (lv' := [(2, .ref r2992), (0, .ref a), (1, .int (nI n2988))]) e_X9_peak_18 (by decide) rfl ?_
      refine m_aload_n F rfl e_X9_peak_19 ?_
      refine m_bipush F (v := 72) (by decide) e_X9_peak_20 ?_
      refine t_callV F e_X9_peak_22 (s_X9_coming (x_l X) V b (M + 648) Z T _ _ a 72 h2990.1 hk (by omega) (by omega)) cb_X9_coming ml_X9_324 im_X9_coming se_X9_coming (fun _ => o1) h2990 hk rfl rfl (rest := []) rfl (Nat.le_of_ble_eq_true rfl) ⟨Nat.le_of_ble_eq_true rfl, Nat.le_of_ble_eq_true rfl⟩ ⟨Nat.le_of_ble_eq_true rfl, Nat.le_of_ble_eq_true rfl⟩ (fun r σ2994 hp => ?_)
      obtain ⟨h2996, n2997, hn2997, rfl⟩ := hp
      have h2995 := HK.trans h2990 h2996 (by decide)
      refine m_istore_n F (lv' := [(3, .int (nI n2997)), (2, .ref r2992), (0, .ref a), (1, .int (nI n2988))]) e_X9_peak_25 (by decide) rfl ?_
      refine m_aload_n F rfl e_X9_peak_26 ?_
      refine t_get F e_X9_peak_27 fl_X9_42 (fun _ => o1) h2995 hk rfl (fun v hv f2998 => ?_)
      obtain ⟨r2999, k3000, rfl⟩ := hv
      refine m_astore F (lv' := [(4, .ref r2999), (3, .int (nI n2997)), (2, .ref r2992), (0, .ref a), (1, .int (nI n2988))]) e_X9_peak_30 (by decide) rfl ?_
      refine m_aload F rfl e_X9_peak_32 ?_
      refine m_lconst F (v := 0) (by decide) e_X9_peak_34 ?_
      refine t_callV F e_X9_peak_35 (s_X1_set (x_l X) V b (M + 648) Z T _ _ r2999 0 h2995.1 k3000  (by omega)) cb_X1_set ml_X9_305 im_X1_set se_X1_set (fun _ => o6) h2995 k3000 rfl rfl (rest := []) rfl (Nat.le_of_ble_eq_true rfl) ⟨Nat.le_of_ble_eq_true rfl, Nat.le_of_ble_eq_true rfl⟩ ⟨Nat.le_of_ble_eq_true rfl, Nat.le_of_ble_eq_true rfl⟩ (fun r σ3001 hp => ?_)
      obtain ⟨h3003, rfl⟩ := hp
      have h3002 := HK.trans h2995 h3003 (by decide)
      refine m_iconst F (v := 0) (by decide) e_X9_peak_38 ?_
      refine m_istore F (lv' := [(5, .int 0), (4, .ref r2999), (3, .int (nI n2997)), (2, .ref r2992), (0, .ref a), (1, .int (nI n2988))]) e_X9_peak_39 (by decide) rfl ?_
      refine m_iconst F (v := 0) (by decide) e_X9_peak_41 ?_
      refine m_istore F (lv' := [(6, .int 0), (5, .int 0), (4, .ref r2999), (3, .int (nI n2997)), (2, .ref r2992), (0, .ref a), (1, .int (nI n2988))]) e_X9_peak_42 (by decide) rfl ?_
      refine Wm.lvsub (lv' := [(6, .int 0), (5, .int 0), (3, .int (nI n2997)), (0, .ref a), (1, .int (nI n2988)), (2, .ref r2992), (4, .ref r2999)]) ?_ [0, 1, 3, 5, 6, 4, 2] rfl
      exact lp_X9_peak_44 F hQ hk hM (72 - 0 + 1) 0 0 n2997 (nI n2988) r2992 r2999 _ (h3002.mono (M' := M + 648 + 9 * 0) (Z' := Z) (by omega) (by intro e9; first | exact e9 | rfl)) ⟨k2993, k3000, (by omega)⟩ (Nat.lt_succ_self _)
    · have c6 : n2988 > 1 := by have hh := mt (nI_leI (a := n2988) (b := 1) (by omega) (by omega)).mpr q6; omega
      refine m_ldc2 F kc_X9_149 e_X9_peak_9 ?_
      exact m_lret F hQ e_X9_peak_12 (⟨(h1.mono (M' := M + 1296) (Z' := Z) (by omega) (by intro e; first | rfl | assumption | omega)), _, rfl⟩)
set_option maxRecDepth 20000 in
theorem lp_X9_partFor_28 {V : VX} {X : MX} {b M Z T N : Nat} {σ : Mem} {a : Nat} {x902 : Int64}  (F : Fx V X yX9_partFor cX9_partFor 6 (some .int) (rmd 2 0 0)) (hQ : Rt V X 0 0 N (fun r τ => HK V (b, M, Z, T) [0, 1, 3, 7, 12, 15, 19] σ τ ∧ ∃ x : Int32, r = some (.int x))) (hk : kA b a = 1) (hM : M + 0 ≤ 1000000000)  : ∀ (fuel : Nat) (i : Nat) (u3 : Int32) (q1 : Nat) (τ : Mem), HK V (b, M, Z, T) [0, 1, 3, 7, 12, 15, 19] σ τ → kA b q1 = 15 ∧ i ≤ 1000 → 1000 - i < fuel → Wm V X 6 N τ 0 0 28 [(5, .int (nI i)), (0, .ref a), (1, .int u3), (2, .long x902), (4, .ref q1)] [] := by
  intro fuel
  induction fuel with
  | zero => intro i u3 q1 τ h1 hi hm; exact absurd hm (Nat.not_lt_zero _)
  | succ fuel ih =>
    intro i u3 q1 τ h1 hi hm
    obtain ⟨kq1, hi⟩ := hi
    refine m_iload F rfl e_X9_partFor_28 ?_
    refine m_sipush F (v := 999) (by decide) e_X9_partFor_30 ?_
    refine m_icmp_gt F e_X9_partFor_33 (fun q33 => ?_) (fun q33 => ?_)
    · have c33 : i > 999 := (nI_ltI (a := 999) (b := i) (by omega) (by omega)).mp q33
      refine m_bipush F (v := (-2)) (by decide) e_X9_partFor_117 ?_
      exact m_iret F hQ e_X9_partFor_119 (⟨h1, _, rfl⟩)
    · have c33 : i ≤ 999 := by have hh := mt (nI_ltI (a := 999) (b := i) (by omega) (by omega)).mpr q33; omega
      refine m_aload_n F rfl e_X9_partFor_36 ?_
      refine t_get F e_X9_partFor_37 fl_X9_42 (fun _ => o1) h1 hk rfl (fun v hv f3004 => ?_)
      obtain ⟨r3005, k3006, rfl⟩ := hv
      refine m_aload F rfl e_X9_partFor_40 ?_
      refine t_get F e_X9_partFor_42 fl_X9_151 (fun _ => o15) h1 kq1 rfl (fun v hv f3007 => ?_)
      obtain ⟨r3008, k3009, rfl⟩ := hv
      refine t_callV F e_X9_partFor_45 (s_X1_copyFrom (x_l X) V b M Z T _ _ r3005 r3008 h1.1 k3006 k3009 (by omega)) cb_X1_copyFrom ml_X9_284 im_X1_copyFrom se_X1_copyFrom (fun _ => o6) h1 k3006 rfl rfl (rest := []) rfl (Nat.le_of_ble_eq_true rfl) ⟨Nat.le_of_ble_eq_true rfl, Nat.le_of_ble_eq_true rfl⟩ ⟨Nat.le_of_ble_eq_true rfl, Nat.le_of_ble_eq_true rfl⟩ (fun r σ3010 hp => ?_)
      obtain ⟨h3012, rfl⟩ := hp
      have h3011 := HK.trans h1 h3012 (by decide)
      refine m_aload_n F rfl e_X9_partFor_48 ?_
      refine t_getC F e_X9_partFor_49 fl_X9_42 (fun _ => o1) h3011 hk ((fld_eq (h3012.2 a (by rw [show kA _ a = 1 from hk]; decide))).trans f3004) ?_
      refine m_iload F rfl e_X9_partFor_52 ?_
      refine m_i2l F e_X9_partFor_54 ?_
      refine Wm.topl (fun x3013 _ => ?_)
      refine m_ldc2 F kc_X9_241 e_X9_partFor_55 ?_
      refine t_callV F e_X9_partFor_58 (s_X1_shareDown (x_l X) V b M Z T _ _ r3005 x3013 1000 h3011.1 k3006  (by omega)) cb_X1_shareDown ml_X9_334 im_X1_shareDown se_X1_shareDown (fun _ => o6) h3011 k3006 rfl rfl (rest := []) rfl (Nat.le_of_ble_eq_true rfl) ⟨Nat.le_of_ble_eq_true rfl, Nat.le_of_ble_eq_true rfl⟩ ⟨Nat.le_of_ble_eq_true rfl, Nat.le_of_ble_eq_true rfl⟩ (fun r σ3014 hp => ?_)
      obtain ⟨h3016, rfl⟩ := hp
      have h3015 := HK.trans h3011 h3016 (by decide)
      refine m_aload_n F rfl e_X9_partFor_61 ?_
      refine t_get F e_X9_partFor_62 fl_X9_46 (fun _ => o1) h3015 hk rfl (fun v hv f3017 => ?_)
      obtain ⟨r3018, k3019, rfl⟩ := hv
      refine m_aload F rfl e_X9_partFor_65 ?_
      refine t_get F e_X9_partFor_67 fl_X9_154 (fun _ => o15) h3015 kq1 rfl (fun v hv f3020 => ?_)
      obtain ⟨r3021, k3022, rfl⟩ := hv
      refine t_callV F e_X9_partFor_70 (s_X1_copyFrom (x_l X) V b M Z T _ _ r3018 r3021 h3015.1 k3019 k3022 (by omega)) cb_X1_copyFrom ml_X9_284 im_X1_copyFrom se_X1_copyFrom (fun _ => o6) h3015 k3019 rfl rfl (rest := []) rfl (Nat.le_of_ble_eq_true rfl) ⟨Nat.le_of_ble_eq_true rfl, Nat.le_of_ble_eq_true rfl⟩ ⟨Nat.le_of_ble_eq_true rfl, Nat.le_of_ble_eq_true rfl⟩ (fun r σ3023 hp => ?_)
      obtain ⟨h3025, rfl⟩ := hp
      have h3024 := HK.trans h3015 h3025 (by decide)
      refine m_aload_n F rfl e_X9_partFor_73 ?_
      refine t_getC F e_X9_partFor_74 fl_X9_46 (fun _ => o1) h3024 hk ((fld_eq (h3025.2 a (by rw [show kA _ a = 1 from hk]; decide))).trans f3017) ?_
      refine m_iload F rfl e_X9_partFor_77 ?_
      refine m_i2l F e_X9_partFor_79 ?_
      refine Wm.topl (fun x3026 _ => ?_)
      refine m_ldc2 F kc_X9_241 e_X9_partFor_80 ?_
      refine t_callV F e_X9_partFor_83 (s_X1_shareDown (x_l X) V b M Z T _ _ r3018 x3026 1000 h3024.1 k3019  (by omega)) cb_X1_shareDown ml_X9_334 im_X1_shareDown se_X1_shareDown (fun _ => o6) h3024 k3019 rfl rfl (rest := []) rfl (Nat.le_of_ble_eq_true rfl) ⟨Nat.le_of_ble_eq_true rfl, Nat.le_of_ble_eq_true rfl⟩ ⟨Nat.le_of_ble_eq_true rfl, Nat.le_of_ble_eq_true rfl⟩ (fun r σ3027 hp => ?_)
      obtain ⟨h3029, rfl⟩ := hp
      have h3028 := HK.trans h3024 h3029 (by decide)
      refine m_aload_n F rfl e_X9_partFor_86 ?_
      refine t_getC F e_X9_partFor_87 fl_X9_42 (fun _ => o1) h3028 hk ((fld_eq (h3029.2 a (by rw [show kA _ a = 1 from hk]; decide))).trans ((fld_eq (h3025.2 a (by rw [show kA _ a = 1 from hk]; decide))).trans ((fld_eq (h3016.2 a (by rw [show kA _ a = 1 from hk]; decide))).trans ((fld_eq (h3012.2 a (by rw [show kA _ a = 1 from hk]; decide))).trans f3004)))) ?_
      refine m_aload_n F rfl e_X9_partFor_90 ?_
      refine t_getC F e_X9_partFor_91 fl_X9_46 (fun _ => o1) h3028 hk ((fld_eq (h3029.2 a (by rw [show kA _ a = 1 from hk]; decide))).trans ((fld_eq (h3025.2 a (by rw [show kA _ a = 1 from hk]; decide))).trans f3017)) ?_
      refine t_callV F e_X9_partFor_94 (s_X1_subtract (x_l X) V b M Z T _ _ r3005 r3018 h3028.1 k3006 k3019 (by omega)) cb_X1_subtract ml_X9_338 im_X1_subtract se_X1_subtract (fun _ => o6) h3028 k3006 rfl rfl (rest := []) rfl (Nat.le_of_ble_eq_true rfl) ⟨Nat.le_of_ble_eq_true rfl, Nat.le_of_ble_eq_true rfl⟩ ⟨Nat.le_of_ble_eq_true rfl, Nat.le_of_ble_eq_true rfl⟩ (fun r σ3030 hp => ?_)
      obtain ⟨h3032, rfl⟩ := hp
      have h3031 := HK.trans h3028 h3032 (by decide)
      refine m_aload_n F rfl e_X9_partFor_97 ?_
      refine t_getC F e_X9_partFor_98 fl_X9_42 (fun _ => o1) h3031 hk ((fld_eq (h3032.2 a (by rw [show kA _ a = 1 from hk]; decide))).trans ((fld_eq (h3029.2 a (by rw [show kA _ a = 1 from hk]; decide))).trans ((fld_eq (h3025.2 a (by rw [show kA _ a = 1 from hk]; decide))).trans ((fld_eq (h3016.2 a (by rw [show kA _ a = 1 from hk]; decide))).trans ((fld_eq (h3012.2 a (by rw [show kA _ a = 1 from hk]; decide))).trans f3004))))) ?_
      refine m_lload_n F rfl e_X9_partFor_101 ?_
      refine t_callV F e_X9_partFor_102 (s_X1_isAtLeast (x_l X) V b M Z T _ _ r3005 x902 h3031.1 k3006  (by omega)) cb_X1_isAtLeast ml_X9_247 im_X1_isAtLeast se_X1_isAtLeast (fun _ => o6) h3031 k3006 rfl rfl (rest := []) rfl (Nat.le_of_ble_eq_true rfl) ⟨Nat.le_of_ble_eq_true rfl, Nat.le_of_ble_eq_true rfl⟩ ⟨Nat.le_of_ble_eq_true rfl, Nat.le_of_ble_eq_true rfl⟩ (fun r σ3033 hp => ?_)
      obtain ⟨h3035, n3036, hn3036, rfl⟩ := hp
      have h3034 := HK.trans h3031 h3035 (by decide)
      refine m_if_eq F e_X9_partFor_105 (fun q105 => ?_) (fun q105 => ?_)
      · have c105 : n3036 = 0 := (nI_eq (a := n3036) (b := 0) (by omega) (by omega)).mp q105
        refine m_iinc F (v := nI (i + 1)) (lv' := [(5, .int (nI (i + 1))), (0, .ref a), (1, .int u3), (2, .long x902), (4, .ref q1)]) e_X9_partFor_111 rfl (nI_add i 1) (by decide) rfl ?_
        refine m_goto F e_X9_partFor_114 ?_
        exact ih (i + 1) u3 q1 _ h3034 ⟨kq1, (by omega)⟩ (by omega)
      · have c105 : n3036 ≠ 0 := by have hh := mt (nI_eq (a := n3036) (b := 0) (by omega) (by omega)).mpr q105; omega
        refine m_iload F rfl e_X9_partFor_108 ?_
        exact m_iret F hQ e_X9_partFor_110 (⟨h3034, _, rfl⟩)
set_option maxRecDepth 20000 in
theorem s_X9_partFor (l : Launch) (V : VX) (b M Z T N : Nat) (σ : Mem) (a : Nat) (x901 : Int32) (x902 : Int64) (h0 : HT V (b, M, Z, T) σ) (hk : kA b a = 1) (hM : M + 0 ≤ 1000000000) : Ct l V yX9_partFor cX9_partFor 6 (some .int) 2 0 0 N σ [.ref a, .int x901, .long x902] (fun r τ => HK V (b, M, Z, T) [0, 1, 3, 7, 12, 15, 19] σ τ ∧ ∃ x : Int32, r = some (.int x)) := by
  refine Ct.of (by decide) (Nat.le_of_ble_eq_true rfl) [(0, .ref a), (1, .int x901), (2, .long x902)] rfl (fun X hX F hQ => ?_)
  have h1 : HK V (b, M, Z, T) [0, 1, 3, 7, 12, 15, 19] σ σ := HK.start h0
  refine m_aload_n F rfl e_X9_partFor_0 ?_
  refine m_iload_n F rfl e_X9_partFor_1 ?_
  refine t_callV F e_X9_partFor_2 (s_X9_leaseAt (x_l X) V b M Z T _ _ a x901 h1.1 hk  (by omega)) cb_X9_leaseAt ml_X9_103 im_X9_leaseAt se_X9_leaseAt (fun _ => o1) h1 hk rfl rfl (rest := []) rfl (Nat.le_of_ble_eq_true rfl) ⟨Nat.le_of_ble_eq_true rfl, Nat.le_of_ble_eq_true rfl⟩ ⟨Nat.le_of_ble_eq_true rfl, Nat.le_of_ble_eq_true rfl⟩ (fun r σ3037 hp => ?_)
  obtain ⟨h3039, c3040⟩ := hp
  have h3038 := HK.trans h1 h3039 (by decide)
  rcases c3040 with rfl | ⟨n3041, r3042, hn3041, en3041, k3043, rfl⟩
  · refine m_ifnonnullN F e_X9_partFor_5 ?_
    refine m_iconst F (v := (-1)) (by decide) e_X9_partFor_8 ?_
    exact m_iret F hQ e_X9_partFor_9 (⟨h3038, _, rfl⟩)
  · subst en3041
    refine m_ifnonnullR F e_X9_partFor_5 ?_
    refine m_aload_n F rfl e_X9_partFor_10 ?_
    refine m_iload_n F rfl e_X9_partFor_11 ?_
    refine t_callV F e_X9_partFor_12 (s_X9_runningAt (x_l X) V b M Z T _ _ a (nI n3041) h3038.1 hk  (by omega)) cb_X9_runningAt ml_X9_203 im_X9_runningAt se_X9_runningAt (fun _ => o1) h3038 hk rfl rfl (rest := []) rfl (Nat.le_of_ble_eq_true rfl) ⟨Nat.le_of_ble_eq_true rfl, Nat.le_of_ble_eq_true rfl⟩ ⟨Nat.le_of_ble_eq_true rfl, Nat.le_of_ble_eq_true rfl⟩ (fun r σ3044 hp => ?_)
    obtain ⟨h3046, c3047⟩ := hp
    have h3045 := HK.trans h3038 h3046 (by decide)
    rcases c3047 with rfl | ⟨n3048, r3049, hn3048, en3048, k3050, rfl⟩
    · refine m_astoreN F (lv' := [(4, .null), (0, .ref a), (1, .int (nI n3041)), (2, .long x902)]) e_X9_partFor_15 (by decide) rfl ?_
      refine m_aloadN F rfl e_X9_partFor_17 ?_
      refine m_ifnonnullN F e_X9_partFor_19 ?_
      refine m_bipush F (v := (-2)) (by decide) e_X9_partFor_22 ?_
      exact m_iret F hQ e_X9_partFor_24 (⟨h3045, _, rfl⟩)
    · refine m_astore F (lv' := [(4, .ref r3049), (0, .ref a), (1, .int (nI n3041)), (2, .long x902)]) e_X9_partFor_15 (by decide) rfl ?_
      refine m_aload F rfl e_X9_partFor_17 ?_
      refine m_ifnonnullR F e_X9_partFor_19 ?_
      refine m_iconst F (v := 1) (by decide) e_X9_partFor_25 ?_
      refine m_istore F (lv' := [(5, .int 1), (4, .ref r3049), (0, .ref a), (1, .int (nI n3041)), (2, .long x902)]) e_X9_partFor_26 (by decide) rfl ?_
      refine Wm.lvsub (lv' := [(5, .int 1), (0, .ref a), (1, .int (nI n3041)), (2, .long x902), (4, .ref r3049)]) ?_ [0, 2, 3, 4, 1] rfl
      exact lp_X9_partFor_28 F hQ hk hM (1000 - 1 + 1) 1 (nI n3041) r3049 _ h3045 ⟨k3050, (by omega)⟩ (Nat.lt_succ_self _)
set_option maxRecDepth 20000 in
theorem lp_X9_latest_31 {V : VX} {X : MX} {b M Z T N : Nat} {σ : Mem} {a : Nat}   (F : Fx V X yX9_latest cX9_latest 5 (some .int) (rmd 3 0 0)) (hQ : Rt V X 0 0 N (fun r τ => HK V (b, M, Z, T) [0, 1, 3, 7, 12, 15, 19] σ τ ∧ ∃ x : Int32, r = some (.int x))) (hk : kA b a = 1) (hM : M + 0 ≤ 1000000000)  : ∀ (fuel : Nat) (i : Nat) (c : Nat) (u3 : Int32) (u4 : Int32) (τ : Mem), HK V (b, M, Z, T) [0, 1, 3, 7, 12, 15, 19] σ τ → i ≤ 40 ∧ c ≤ 40 → 40 - i < fuel → Wm V X 5 N τ 0 0 31 [(4, .int (nI i)), (3, .int (nI c)), (0, .ref a), (1, .int u3), (2, .int u4)] [] := by
  intro fuel
  induction fuel with
  | zero => intro i c u3 u4 τ h1 hi hm; exact absurd hm (Nat.not_lt_zero _)
  | succ fuel ih =>
    intro i c u3 u4 τ h1 hi hm
    refine m_iload F rfl e_X9_latest_31 ?_
    refine m_iload_n F rfl e_X9_latest_33 ?_
    refine m_icmp_ge F e_X9_latest_34 (fun q34 => ?_) (fun q34 => ?_)
    · have c34 : i ≥ c := (nI_leI (a := c) (b := i) (by omega) (by omega)).mp q34
      refine m_bipush F (v := (-2)) (by decide) e_X9_latest_96 ?_
      exact m_iret F hQ e_X9_latest_98 (⟨h1, _, rfl⟩)
    · have c34 : i < c := by have hh := mt (nI_leI (a := c) (b := i) (by omega) (by omega)).mpr q34; omega
      refine m_aload_n F rfl e_X9_latest_37 ?_
      refine t_get F e_X9_latest_38 fl_X9_16 (fun _ => o1) h1 hk rfl (fun v hv f3051 => ?_)
      obtain ⟨r3052, k3053, rfl⟩ := hv
      refine t_get F e_X9_latest_41 fl_X9_186 (fun _ => o7) h1 k3053 rfl (fun v hv f3054 => ?_)
      obtain ⟨r3055, k3056, rfl⟩ := hv
      refine m_iload F rfl e_X9_latest_44 ?_
      refine m_iconst F (v := 0) (by decide) e_X9_latest_46 ?_
      refine t_callV F e_X9_latest_47 (s_X3_told (x_l X) V b M Z T _ _ r3055 (nI i) 0 h1.1 k3056  (by omega)) cb_X3_told ml_X9_199 im_X3_told se_X3_told (fun _ => o12) h1 k3056 rfl rfl (rest := []) rfl (Nat.le_of_ble_eq_true rfl) ⟨Nat.le_of_ble_eq_true rfl, Nat.le_of_ble_eq_true rfl⟩ ⟨Nat.le_of_ble_eq_true rfl, Nat.le_of_ble_eq_true rfl⟩ (fun r σ3057 hp => ?_)
      obtain ⟨h3059, x3060, rfl⟩ := hp
      have h3058 := HK.trans h1 h3059 (by decide)
      refine m_iload_n F rfl e_X9_latest_50 ?_
      refine m_i2l F e_X9_latest_51 ?_
      refine Wm.topl (fun x3061 _ => ?_)
      refine m_lcmp F e_X9_latest_52 ?_
      refine Wm.top (fun x3062 _ => ?_)
      refine m_if_ne F e_X9_latest_53 (fun q53 => ?_) (fun q53 => ?_)
      · refine m_iinc F (v := nI (i + 1)) (lv' := [(4, .int (nI (i + 1))), (3, .int (nI c)), (0, .ref a), (1, .int u3), (2, .int u4)]) e_X9_latest_90 rfl (nI_add i 1) (by decide) rfl ?_
        refine m_goto F e_X9_latest_93 ?_
        exact ih (i + 1) c u3 u4 _ h3058 (by omega) (by omega)
      · refine m_aload_n F rfl e_X9_latest_56 ?_
        refine t_getC F e_X9_latest_57 fl_X9_16 (fun _ => o1) h3058 hk ((fld_eq (h3059.2 a (by rw [show kA _ a = 1 from hk]; decide))).trans f3051) ?_
        refine t_getC F e_X9_latest_60 fl_X9_186 (fun _ => o7) h3058 k3053 ((fld_eq (h3059.2 r3052 (by rw [show kA _ r3052 = 7 from k3053]; decide))).trans f3054) ?_
        refine m_iload F rfl e_X9_latest_63 ?_
        refine m_iconst F (v := 2) (by decide) e_X9_latest_65 ?_
        refine t_callV F e_X9_latest_66 (s_X3_told (x_l X) V b M Z T _ _ r3055 (nI i) 2 h3058.1 k3056  (by omega)) cb_X3_told ml_X9_199 im_X3_told se_X3_told (fun _ => o12) h3058 k3056 rfl rfl (rest := []) rfl (Nat.le_of_ble_eq_true rfl) ⟨Nat.le_of_ble_eq_true rfl, Nat.le_of_ble_eq_true rfl⟩ ⟨Nat.le_of_ble_eq_true rfl, Nat.le_of_ble_eq_true rfl⟩ (fun r σ3063 hp => ?_)
        obtain ⟨h3065, x3066, rfl⟩ := hp
        have h3064 := HK.trans h3058 h3065 (by decide)
        refine m_iload_n F rfl e_X9_latest_69 ?_
        refine m_i2l F e_X9_latest_70 ?_
        refine Wm.topl (fun x3067 _ => ?_)
        refine m_lcmp F e_X9_latest_71 ?_
        refine Wm.top (fun x3068 _ => ?_)
        refine m_if_ne F e_X9_latest_72 (fun q72 => ?_) (fun q72 => ?_)
        · refine m_iinc F (v := nI (i + 1)) (lv' := [(4, .int (nI (i + 1))), (3, .int (nI c)), (0, .ref a), (1, .int u3), (2, .int u4)]) e_X9_latest_90 rfl (nI_add i 1) (by decide) rfl ?_
          refine m_goto F e_X9_latest_93 ?_
          exact ih (i + 1) c u3 u4 _ h3064 (by omega) (by omega)
        · refine m_aload_n F rfl e_X9_latest_75 ?_
          refine t_getC F e_X9_latest_76 fl_X9_16 (fun _ => o1) h3064 hk ((fld_eq (h3065.2 a (by rw [show kA _ a = 1 from hk]; decide))).trans ((fld_eq (h3059.2 a (by rw [show kA _ a = 1 from hk]; decide))).trans f3051)) ?_
          refine t_getC F e_X9_latest_79 fl_X9_186 (fun _ => o7) h3064 k3053 ((fld_eq (h3065.2 r3052 (by rw [show kA _ r3052 = 7 from k3053]; decide))).trans ((fld_eq (h3059.2 r3052 (by rw [show kA _ r3052 = 7 from k3053]; decide))).trans f3054)) ?_
          refine m_iload F rfl e_X9_latest_82 ?_
          refine m_iconst F (v := 1) (by decide) e_X9_latest_84 ?_
          refine t_callV F e_X9_latest_85 (s_X3_told (x_l X) V b M Z T _ _ r3055 (nI i) 1 h3064.1 k3056  (by omega)) cb_X3_told ml_X9_199 im_X3_told se_X3_told (fun _ => o12) h3064 k3056 rfl rfl (rest := []) rfl (Nat.le_of_ble_eq_true rfl) ⟨Nat.le_of_ble_eq_true rfl, Nat.le_of_ble_eq_true rfl⟩ ⟨Nat.le_of_ble_eq_true rfl, Nat.le_of_ble_eq_true rfl⟩ (fun r σ3069 hp => ?_)
          obtain ⟨h3071, x3072, rfl⟩ := hp
          have h3070 := HK.trans h3064 h3071 (by decide)
          refine m_l2i F e_X9_latest_88 ?_
          refine Wm.top (fun x3073 _ => ?_)
          exact m_iret F hQ e_X9_latest_89 (⟨h3070, _, rfl⟩)
set_option maxRecDepth 20000 in
theorem s_X9_latest (l : Launch) (V : VX) (b M Z T N : Nat) (σ : Mem) (a : Nat) (x901 : Int32) (x902 : Int32) (h0 : HT V (b, M, Z, T) σ) (hk : kA b a = 1) (hM : M + 0 ≤ 1000000000) : Ct l V yX9_latest cX9_latest 5 (some .int) 3 0 0 N σ [.ref a, .int x901, .int x902] (fun r τ => HK V (b, M, Z, T) [0, 1, 3, 7, 12, 15, 19] σ τ ∧ ∃ x : Int32, r = some (.int x)) := by
  refine Ct.of (by decide) (Nat.le_of_ble_eq_true rfl) [(0, .ref a), (1, .int x901), (2, .int x902)] rfl (fun X hX F hQ => ?_)
  have h1 : HK V (b, M, Z, T) [0, 1, 3, 7, 12, 15, 19] σ σ := HK.start h0
  refine m_aload_n F rfl e_X9_latest_0 ?_
  refine m_iload_n F rfl e_X9_latest_1 ?_
  refine t_callV F e_X9_latest_2 (s_X9_leaseAt (x_l X) V b M Z T _ _ a x901 h1.1 hk  (by omega)) cb_X9_leaseAt ml_X9_103 im_X9_leaseAt se_X9_leaseAt (fun _ => o1) h1 hk rfl rfl (rest := []) rfl (Nat.le_of_ble_eq_true rfl) ⟨Nat.le_of_ble_eq_true rfl, Nat.le_of_ble_eq_true rfl⟩ ⟨Nat.le_of_ble_eq_true rfl, Nat.le_of_ble_eq_true rfl⟩ (fun r σ3074 hp => ?_)
  obtain ⟨h3076, c3077⟩ := hp
  have h3075 := HK.trans h1 h3076 (by decide)
  rcases c3077 with rfl | ⟨n3078, r3079, hn3078, en3078, k3080, rfl⟩
  · refine m_ifnullN F e_X9_latest_5 ?_
    refine m_iconst F (v := (-1)) (by decide) e_X9_latest_15 ?_
    exact m_iret F hQ e_X9_latest_16 (⟨h3075, _, rfl⟩)
  · subst en3078
    refine m_ifnullR F e_X9_latest_5 ?_
    refine m_iload_n F rfl e_X9_latest_8 ?_
    refine m_callS F e_X9_latest_9 (s_X9_isSort (x_l X) V b M Z T _ _ x902 h3075.1  (by omega)) cb_X9_isSort ml_X9_281 sm_X9_isSort rfl (rest := []) rfl (Nat.le_of_ble_eq_true rfl) ⟨Nat.le_of_ble_eq_true rfl, Nat.le_of_ble_eq_true rfl⟩ ⟨Nat.le_of_ble_eq_true rfl, Nat.le_of_ble_eq_true rfl⟩ (k' := 0) (z' := 0) (N' := N) rfl rfl rfl (fun r σ3081 hp => ?_)
    obtain ⟨h3083, n3084, hn3084, rfl⟩ := hp
    have h3082 := HK.trans h3075 h3083 (by decide)
    refine m_if_ne F e_X9_latest_12 (fun q12 => ?_) (fun q12 => ?_)
    · have c12 : n3084 ≠ 0 := by have hh := mt (nI_eq (a := n3084) (b := 0) (by omega) (by omega)).mpr q12; omega
      refine m_aload_n F rfl e_X9_latest_17 ?_
      refine t_get F e_X9_latest_18 fl_X9_16 (fun _ => o1) h3082 hk rfl (fun v hv f3085 => ?_)
      obtain ⟨r3086, k3087, rfl⟩ := hv
      refine t_get F e_X9_latest_21 fl_X9_186 (fun _ => o7) h3082 k3087 rfl (fun v hv f3088 => ?_)
      obtain ⟨r3089, k3090, rfl⟩ := hv
      obtain ⟨v9, ⟨n3091, hn3091, rfl⟩, f3092⟩ := HK.f (j := 2) h3082 (fun _ => o12) k3090 rfl
      replace hn3091 : n3091 ≤ M := hn3091
      refine t_callV F e_X9_latest_24 (s_X3_kept (x_l X) V b M Z T _ _ r3089 n3091 h3082.1 k3090 (f3092) (by omega) (by omega)) cb_X3_kept ml_X9_196 im_X3_kept se_X3_kept (fun _ => o12) h3082 k3090 rfl rfl (rest := []) rfl (Nat.le_of_ble_eq_true rfl) ⟨Nat.le_of_ble_eq_true rfl, Nat.le_of_ble_eq_true rfl⟩ ⟨Nat.le_of_ble_eq_true rfl, Nat.le_of_ble_eq_true rfl⟩ (fun r σ3093 hp => ?_)
      obtain ⟨h3095, n3096, hn3096, gn3096, rfl⟩ := hp
      have h3094 := HK.trans h3082 h3095 (by decide)
      refine m_istore_n F (lv' := [(3, .int (nI n3096)), (0, .ref a), (1, .int (nI n3078)), (2, .int x902)]) e_X9_latest_27 (by decide) rfl ?_
      refine m_iconst F (v := 0) (by decide) e_X9_latest_28 ?_
      refine m_istore F (lv' := [(4, .int 0), (3, .int (nI n3096)), (0, .ref a), (1, .int (nI n3078)), (2, .int x902)]) e_X9_latest_29 (by decide) rfl ?_
      exact lp_X9_latest_31 F hQ hk hM (40 - 0 + 1) 0 n3096 (nI n3078) x902 _ h3094 (by omega) (Nat.lt_succ_self _)
    · have c12 : n3084 = 0 := (nI_eq (a := n3084) (b := 0) (by omega) (by omega)).mp q12
      refine m_iconst F (v := (-1)) (by decide) e_X9_latest_15 ?_
      exact m_iret F hQ e_X9_latest_16 (⟨h3082, _, rfl⟩)
set_option maxRecDepth 20000 in
theorem lp_X9_half_48 {V : VX} {X : MX} {b M Z T N : Nat} {σ : Mem} {a : Nat}   (F : Fx V X yX9_half cX9_half 6 (some .int) (rmd 7 0 0)) (hQ : Rt V X 0 0 N (fun r τ => HK V (b, M + 1400, Z, T) [0, 1, 3] σ τ ∧ ∃ x : Int32, r = some (.int x))) (hk : kA b a = 1) (hM : M + 1400 ≤ 1000000000)  : ∀ (fuel : Nat) (i : Nat) (c : Nat) (p : Nat) (q1 : Nat) (q2 : Nat) (τ : Mem), HK V (b, M + 648 + 9 * i, Z, T) [0, 1, 3] σ τ → kA b q1 = 15 ∧ kA b q2 = 7 ∧ i ≤ 73 ∧ c ≤ 72 ∧ p ≤ 3 → 73 - i < fuel → Wm V X 6 N τ 0 0 48 [(5, .int (nI i)), (4, .int (nI c)), (0, .ref a), (1, .int (nI p)), (2, .ref q1), (3, .ref q2)] [] := by
  intro fuel
  induction fuel with
  | zero => intro i c p q1 q2 τ h1 hi hm; exact absurd hm (Nat.not_lt_zero _)
  | succ fuel ih =>
    intro i c p q1 q2 τ h1 hi hm
    obtain ⟨kq1, kq2, hi⟩ := hi
    refine m_iload F rfl e_X9_half_48 ?_
    refine m_iload F rfl e_X9_half_50 ?_
    refine m_icmp_gt F e_X9_half_52 (fun q52 => ?_) (fun q52 => ?_)
    · have c52 : i > c := (nI_ltI (a := c) (b := i) (by omega) (by omega)).mp q52
      refine m_bipush F (v := (-2)) (by decide) e_X9_half_89 ?_
      exact m_iret F hQ e_X9_half_91 (⟨(h1.mono (M' := M + 1400) (Z' := Z) (by omega) (by intro e; first | rfl | assumption | omega)), _, rfl⟩)
    · have c52 : i ≤ c := by have hh := mt (nI_ltI (a := c) (b := i) (by omega) (by omega)).mpr q52; omega
      refine m_aload_n F rfl e_X9_half_55 ?_
      refine t_callV F e_X9_half_56 (s_X2_periodGoesBy (x_l X) V b (M + 648 + 9 * i) Z T _ _ q2  h1.1 kq2  (by omega)) cb_X2_periodGoesBy ml_X9_100 im_X2_periodGoesBy se_X2_periodGoesBy (fun _ => o7) h1 kq2 rfl rfl (rest := []) rfl (Nat.le_of_ble_eq_true rfl) ⟨Nat.le_of_ble_eq_true rfl, Nat.le_of_ble_eq_true rfl⟩ ⟨Nat.le_of_ble_eq_true rfl, Nat.le_of_ble_eq_true rfl⟩ (fun r σ3097 hp => ?_)
      obtain ⟨h3099, rfl⟩ := hp
      have h3098 := HK.trans h1 h3099 (by decide)
      refine m_aload_n F rfl e_X9_half_59 ?_
      refine t_get F e_X9_half_60 fl_X9_226 (fun _ => o7) h3098 kq2 rfl (fun v hv f3100 => ?_)
      obtain ⟨r3101, k3102, rfl⟩ := hv
      refine m_iload_n F rfl e_X9_half_63 ?_
      refine t_aald F (len := 4) (j := p) e_X9_half_64 (fun _ => o8) rfl h3098 k3102 (nI_clamp (by omega)) (vp_in_nI (by omega) (by decide)) (fun r3103 k3104 => ?_)
      refine t_get F e_X9_half_65 fl_X9_151 (fun _ => o15) h3098 k3104 rfl (fun v hv f3105 => ?_)
      obtain ⟨r3106, k3107, rfl⟩ := hv
      refine m_iconst F (v := 1) (by decide) e_X9_half_68 ?_
      refine m_aload_n F rfl e_X9_half_69 ?_
      refine t_get F e_X9_half_70 fl_X9_151 (fun _ => o15) h3098 kq1 rfl (fun v hv f3108 => ?_)
      obtain ⟨r3109, k3110, rfl⟩ := hv
      refine m_iconst F (v := 2) (by decide) e_X9_half_73 ?_
      refine t_callV F e_X9_half_74 (s_X1_isGreaterShare (x_l X) V b (M + 648 + 9 * i + 9) Z T _ _ r3106 1 r3109 2 h3098.1 k3107 k3110 (by omega)) cb_X1_isGreaterShare ml_X9_301 im_X1_isGreaterShare se_X1_isGreaterShare (fun _ => o6) h3098 k3107 rfl rfl (rest := []) rfl (Nat.le_of_ble_eq_true rfl) ⟨Nat.le_of_ble_eq_true rfl, Nat.le_of_ble_eq_true rfl⟩ ⟨Nat.le_of_ble_eq_true rfl, Nat.le_of_ble_eq_true rfl⟩ (fun r σ3111 hp => ?_)
      obtain ⟨h3113, n3114, hn3114, rfl⟩ := hp
      have h3112 := HK.trans h3098 h3113 (by decide)
      refine m_if_ne F e_X9_half_77 (fun q77 => ?_) (fun q77 => ?_)
      · have c77 : n3114 ≠ 0 := by have hh := mt (nI_eq (a := n3114) (b := 0) (by omega) (by omega)).mpr q77; omega
        refine m_iinc F (v := nI (i + 1)) (lv' := [(5, .int (nI (i + 1))), (4, .int (nI c)), (0, .ref a), (1, .int (nI p)), (2, .ref q1), (3, .ref q2)]) e_X9_half_83 rfl (nI_add i 1) (by decide) rfl ?_
        refine m_goto F e_X9_half_86 ?_
        exact ih (i + 1) c p q1 q2 _ (h3112.mono (M' := M + 648 + 9 * (i + 1)) (Z' := Z) (by omega) (by intro e9; first | exact e9 | rfl)) ⟨kq1, kq2, (by omega)⟩ (by omega)
      · have c77 : n3114 = 0 := (nI_eq (a := n3114) (b := 0) (by omega) (by omega)).mp q77
        refine m_iload F rfl e_X9_half_80 ?_
        exact m_iret F hQ e_X9_half_82 (⟨(h3112.mono (M' := M + 1400) (Z' := Z) (by omega) (by intro e; first | rfl | assumption | omega)), _, rfl⟩)
set_option maxRecDepth 20000 in
theorem s_X9_half (l : Launch) (V : VX) (b M Z T N : Nat) (σ : Mem) (a : Nat) (x901 : Int32) (h0 : HT V (b, M, Z, T) σ) (hk : kA b a = 1) (hM : M + 1400 ≤ 1000000000) : Ct l V yX9_half cX9_half 6 (some .int) 7 0 0 N σ [.ref a, .int x901] (fun r τ => HK V (b, M + 1400, Z, T) [0, 1, 3] σ τ ∧ ∃ x : Int32, r = some (.int x)) := by
  refine Ct.of (by decide) (Nat.le_of_ble_eq_true rfl) [(0, .ref a), (1, .int x901)] rfl (fun X hX F hQ => ?_)
  have h1 : HK V (b, M, Z, T) [0, 1, 3] σ σ := HK.start h0
  refine m_aload_n F rfl e_X9_half_0 ?_
  refine m_iload_n F rfl e_X9_half_1 ?_
  refine t_callV F e_X9_half_2 (s_X9_leaseAt (x_l X) V b M Z T _ _ a x901 h1.1 hk  (by omega)) cb_X9_leaseAt ml_X9_103 im_X9_leaseAt se_X9_leaseAt (fun _ => o1) h1 hk rfl rfl (rest := []) rfl (Nat.le_of_ble_eq_true rfl) ⟨Nat.le_of_ble_eq_true rfl, Nat.le_of_ble_eq_true rfl⟩ ⟨Nat.le_of_ble_eq_true rfl, Nat.le_of_ble_eq_true rfl⟩ (fun r σ3115 hp => ?_)
  obtain ⟨h3117, c3118⟩ := hp
  have h3116 := HK.trans h1 h3117 (by decide)
  rcases c3118 with rfl | ⟨n3119, r3120, hn3119, en3119, k3121, rfl⟩
  · refine m_astore_nN F (lv' := [(2, .null), (0, .ref a), (1, .int x901)]) e_X9_half_5 (by decide) rfl ?_
    refine m_aload_nN F rfl e_X9_half_6 ?_
    refine m_ifnullN F e_X9_half_7 ?_
    refine m_iconst F (v := (-1)) (by decide) e_X9_half_17 ?_
    exact m_iret F hQ e_X9_half_18 (⟨(h3116.mono (M' := M + 1400) (Z' := Z) (by omega) (by intro e; first | rfl | assumption | omega)), _, rfl⟩)
  · subst en3119
    refine m_astore_n F (lv' := [(2, .ref r3120), (0, .ref a), (1, .int (nI n3119))]) e_X9_half_5 (by decide) rfl ?_
    refine m_aload_n F rfl e_X9_half_6 ?_
    refine m_ifnullR F e_X9_half_7 ?_
    refine m_aload_n F rfl e_X9_half_10 ?_
    refine t_get F e_X9_half_11 fl_X9_125 (fun _ => o15) h3116 k3121 rfl (fun v hv f3122 => ?_)
    obtain ⟨x3123, rfl⟩ := hv
    refine m_if_ne F e_X9_half_14 (fun q14 => ?_) (fun q14 => ?_)
    · refine m_aload_n F rfl e_X9_half_19 ?_
      refine t_get F e_X9_half_20 fl_X9_151 (fun _ => o15) h3116 k3121 rfl (fun v hv f3124 => ?_)
      obtain ⟨r3125, k3126, rfl⟩ := hv
      refine t_callV F e_X9_half_23 (s_X1_isZero (x_l X) V b M Z T _ _ r3125  h3116.1 k3126  (by omega)) cb_X1_isZero ml_X9_314 im_X1_isZero se_X1_isZero (fun _ => o6) h3116 k3126 rfl rfl (rest := []) rfl (Nat.le_of_ble_eq_true rfl) ⟨Nat.le_of_ble_eq_true rfl, Nat.le_of_ble_eq_true rfl⟩ ⟨Nat.le_of_ble_eq_true rfl, Nat.le_of_ble_eq_true rfl⟩ (fun r σ3127 hp => ?_)
      obtain ⟨h3129, n3130, hn3130, rfl⟩ := hp
      have h3128 := HK.trans h3116 h3129 (by decide)
      refine m_if_eq F e_X9_half_26 (fun q26 => ?_) (fun q26 => ?_)
      · have c26 : n3130 = 0 := (nI_eq (a := n3130) (b := 0) (by omega) (by omega)).mp q26
        refine m_aload_n F rfl e_X9_half_31 ?_
        refine m_iconst F (v := 0) (by decide) e_X9_half_32 ?_
        refine t_callV F e_X9_half_33 (s_X9_bookIn (x_l X) V b M Z T _ _ a 0 h3128.1 hk (by omega) (by omega)) cb_X9_bookIn ml_X9_271 im_X9_bookIn se_X9_bookIn (fun _ => o1) h3128 hk rfl rfl (rest := []) rfl (Nat.le_of_ble_eq_true rfl) ⟨Nat.le_of_ble_eq_true rfl, Nat.le_of_ble_eq_true rfl⟩ ⟨Nat.le_of_ble_eq_true rfl, Nat.le_of_ble_eq_true rfl⟩ (fun r σ3131 hp => ?_)
        obtain ⟨h3133, r3134, k3135, rfl⟩ := hp
        have h3132 := HK.trans h3128 h3133 (by decide)
        refine m_astore_n F (lv' := [(3, .ref r3134), (2, .ref r3120), (0, .ref a), (1, .int (nI n3119))]) e_X9_half_36 (by decide) rfl ?_
        refine m_aload_n F rfl e_X9_half_37 ?_
        refine m_bipush F (v := 72) (by decide) e_X9_half_38 ?_
        refine t_callV F e_X9_half_40 (s_X9_coming (x_l X) V b (M + 648) Z T _ _ a 72 h3132.1 hk (by omega) (by omega)) cb_X9_coming ml_X9_324 im_X9_coming se_X9_coming (fun _ => o1) h3132 hk rfl rfl (rest := []) rfl (Nat.le_of_ble_eq_true rfl) ⟨Nat.le_of_ble_eq_true rfl, Nat.le_of_ble_eq_true rfl⟩ ⟨Nat.le_of_ble_eq_true rfl, Nat.le_of_ble_eq_true rfl⟩ (fun r σ3136 hp => ?_)
        obtain ⟨h3138, n3139, hn3139, rfl⟩ := hp
        have h3137 := HK.trans h3132 h3138 (by decide)
        refine m_istore F (lv' := [(4, .int (nI n3139)), (3, .ref r3134), (2, .ref r3120), (0, .ref a), (1, .int (nI n3119))]) e_X9_half_43 (by decide) rfl ?_
        refine m_iconst F (v := 1) (by decide) e_X9_half_45 ?_
        refine m_istore F (lv' := [(5, .int 1), (4, .int (nI n3139)), (3, .ref r3134), (2, .ref r3120), (0, .ref a), (1, .int (nI n3119))]) e_X9_half_46 (by decide) rfl ?_
        refine Wm.lvsub (lv' := [(5, .int 1), (4, .int (nI n3139)), (0, .ref a), (1, .int (nI n3119)), (2, .ref r3120), (3, .ref r3134)]) ?_ [0, 1, 4, 5, 3, 2] rfl
        exact lp_X9_half_48 F hQ hk hM (73 - 1 + 1) 1 n3139 n3119 r3120 r3134 _ (h3137.mono (M' := M + 648 + 9 * 1) (Z' := Z) (by omega) (by intro e9; first | exact e9 | rfl)) ⟨k3121, k3135, (by omega)⟩ (Nat.lt_succ_self _)
      · have c26 : n3130 ≠ 0 := by have hh := mt (nI_eq (a := n3130) (b := 0) (by omega) (by omega)).mpr q26; omega
        refine m_iconst F (v := 0) (by decide) e_X9_half_29 ?_
        exact m_iret F hQ e_X9_half_30 (⟨(h3128.mono (M' := M + 1400) (Z' := Z) (by omega) (by intro e; first | rfl | assumption | omega)), _, rfl⟩)
    · refine m_iconst F (v := (-1)) (by decide) e_X9_half_17 ?_
      exact m_iret F hQ e_X9_half_18 (⟨(h3116.mono (M' := M + 1400) (Z' := Z) (by omega) (by intro e; first | rfl | assumption | omega)), _, rfl⟩)
set_option maxRecDepth 20000 in
theorem lp_X9_cash_40 {V : VX} {X : MX} {b M Z T N : Nat} {σ : Mem} {a : Nat}   (F : Fx V X yX9_cash cX9_cash 8 (some .long) (rmd 7 0 0)) (hQ : Rt V X 0 0 N (fun r τ => HK V (b, M + 1400, Z, T) [0, 1, 3] σ τ ∧ ∃ x : Int64, r = some (.long x))) (hk : kA b a = 1) (hM : M + 1400 ≤ 1000000000)  : ∀ (fuel : Nat) (i : Nat) (c : Nat) (u1 : Int64) (u3 : Int32) (u4 : Int32) (q2 : Nat) (τ : Mem), HK V (b, M + 648 + 9 * i, Z, T) [0, 1, 3] σ τ → kA b q2 = 7 ∧ i ≤ 72 ∧ c ≤ 72 → 72 - i < fuel → Wm V X 8 N τ 0 0 40 [(7, .int (nI i)), (4, .int (nI c)), (5, .long u1), (0, .ref a), (1, .int u3), (2, .int u4), (3, .ref q2)] [] := by
  intro fuel
  induction fuel with
  | zero => intro i c u1 u3 u4 q2 τ h1 hi hm; exact absurd hm (Nat.not_lt_zero _)
  | succ fuel ih =>
    intro i c u1 u3 u4 q2 τ h1 hi hm
    obtain ⟨kq2, hi⟩ := hi
    refine m_iload F rfl e_X9_cash_40 ?_
    refine m_iload F rfl e_X9_cash_42 ?_
    refine m_icmp_ge F e_X9_cash_44 (fun q44 => ?_) (fun q44 => ?_)
    · have c44 : i ≥ c := (nI_leI (a := c) (b := i) (by omega) (by omega)).mp q44
      refine m_lload F rfl e_X9_cash_75 ?_
      exact m_lret F hQ e_X9_cash_77 (⟨(h1.mono (M' := M + 1400) (Z' := Z) (by omega) (by intro e; first | rfl | assumption | omega)), _, rfl⟩)
    · have c44 : i < c := by have hh := mt (nI_leI (a := c) (b := i) (by omega) (by omega)).mpr q44; omega
      refine m_aload_n F rfl e_X9_cash_47 ?_
      refine t_callV F e_X9_cash_48 (s_X2_periodGoesBy (x_l X) V b (M + 648 + 9 * i) Z T _ _ q2  h1.1 kq2  (by omega)) cb_X2_periodGoesBy ml_X9_100 im_X2_periodGoesBy se_X2_periodGoesBy (fun _ => o7) h1 kq2 rfl rfl (rest := []) rfl (Nat.le_of_ble_eq_true rfl) ⟨Nat.le_of_ble_eq_true rfl, Nat.le_of_ble_eq_true rfl⟩ ⟨Nat.le_of_ble_eq_true rfl, Nat.le_of_ble_eq_true rfl⟩ (fun r σ3140 hp => ?_)
      obtain ⟨h3142, rfl⟩ := hp
      have h3141 := HK.trans h1 h3142 (by decide)
      refine m_iload F rfl e_X9_cash_51 ?_
      refine m_iload_n F rfl e_X9_cash_53 ?_
      refine m_icmp_lt F e_X9_cash_54 (fun q54 => ?_) (fun q54 => ?_)
      · refine m_iinc F (v := nI (i + 1)) (lv' := [(7, .int (nI (i + 1))), (4, .int (nI c)), (5, .long u1), (0, .ref a), (1, .int u3), (2, .int u4), (3, .ref q2)]) e_X9_cash_69 rfl (nI_add i 1) (by decide) rfl ?_
        refine m_goto F e_X9_cash_72 ?_
        exact ih (i + 1) c u1 u3 u4 q2 _ (h3141.mono (M' := M + 648 + 9 * (i + 1)) (Z' := Z) (by omega) (by intro e9; first | exact e9 | rfl)) ⟨kq2, (by omega)⟩ (by omega)
      · refine m_lload F rfl e_X9_cash_57 ?_
        refine m_aload_n F rfl e_X9_cash_59 ?_
        refine t_get F e_X9_cash_60 fl_X9_327 (fun _ => o7) h3141 kq2 rfl (fun v hv f3143 => ?_)
        obtain ⟨r3144, k3145, rfl⟩ := hv
        refine t_callV F e_X9_cash_63 (s_X1_asLong (x_l X) V b (M + 648 + 9 * i + 9) Z T _ _ r3144  h3141.1 k3145  (by omega)) cb_X1_asLong ml_X9_157 im_X1_asLong se_X1_asLong (fun _ => o6) h3141 k3145 rfl rfl (rest := [.long u1]) rfl (Nat.le_of_ble_eq_true rfl) ⟨Nat.le_of_ble_eq_true rfl, Nat.le_of_ble_eq_true rfl⟩ ⟨Nat.le_of_ble_eq_true rfl, Nat.le_of_ble_eq_true rfl⟩ (fun r σ3146 hp => ?_)
        obtain ⟨h3148, x3149, rfl⟩ := hp
        have h3147 := HK.trans h3141 h3148 (by decide)
        refine m_ladd F e_X9_cash_66 ?_
        refine Wm.topl (fun x3150 _ => ?_)
        refine m_lstore F (lv' := [(5, .long x3150), (7, .int (nI i)), (4, .int (nI c)), (0, .ref a), (1, .int u3), (2, .int u4), (3, .ref q2)]) e_X9_cash_67 (by decide) rfl ?_
        refine m_iinc F (v := nI (i + 1)) (lv' := [(7, .int (nI (i + 1))), (5, .long x3150), (4, .int (nI c)), (0, .ref a), (1, .int u3), (2, .int u4), (3, .ref q2)]) e_X9_cash_69 rfl (nI_add i 1) (by decide) rfl ?_
        refine m_goto F e_X9_cash_72 ?_
        refine Wm.lvsub (lv' := [(7, .int (nI (i + 1))), (4, .int (nI c)), (5, .long x3150), (0, .ref a), (1, .int u3), (2, .int u4), (3, .ref q2)]) ?_ [0, 2, 1, 3, 4, 5, 6] rfl
        exact ih (i + 1) c x3150 u3 u4 q2 _ (h3147.mono (M' := M + 648 + 9 * (i + 1)) (Z' := Z) (by omega) (by intro e9; first | exact e9 | rfl)) ⟨kq2, (by omega)⟩ (by omega)
set_option maxRecDepth 20000 in
theorem s_X9_cash (l : Launch) (V : VX) (b M Z T N : Nat) (σ : Mem) (a : Nat) (x901 : Int32) (x902 : Int32) (h0 : HT V (b, M, Z, T) σ) (hk : kA b a = 1) (hM : M + 1400 ≤ 1000000000) : Ct l V yX9_cash cX9_cash 8 (some .long) 7 0 0 N σ [.ref a, .int x901, .int x902] (fun r τ => HK V (b, M + 1400, Z, T) [0, 1, 3] σ τ ∧ ∃ x : Int64, r = some (.long x)) := by
  refine Ct.of (by decide) (Nat.le_of_ble_eq_true rfl) [(0, .ref a), (1, .int x901), (2, .int x902)] rfl (fun X hX F hQ => ?_)
  have h1 : HK V (b, M, Z, T) [0, 1, 3] σ σ := HK.start h0
  refine m_iload_n F rfl e_X9_cash_0 ?_
  refine m_if_lt F e_X9_cash_1 (fun q1 => ?_) (fun q1 => ?_)
  · refine m_ldc2 F kc_X9_149 e_X9_cash_15 ?_
    exact m_lret F hQ e_X9_cash_18 (⟨(h1.mono (M' := M + 1400) (Z' := Z) (by omega) (by intro e; first | rfl | assumption | omega)), _, rfl⟩)
  · obtain ⟨n3151, hn3151, rfl⟩ := nI_nn (x := x901) (fun e => q1 (Int32.lt_of_lt_of_le e (by decide)))
    have c1 : n3151 ≥ 0 := by have hh := mt (nI_ltI (a := n3151) (b := 0) (by omega) (by omega)).mpr q1; omega
    refine m_iload_n F rfl e_X9_cash_4 ?_
    refine m_bipush F (v := 72) (by decide) e_X9_cash_5 ?_
    refine m_icmp_ge F e_X9_cash_7 (fun q7 => ?_) (fun q7 => ?_)
    · obtain ⟨n3152, hn3152, rfl⟩ := nI_nn (x := x902) (fun e => Int32.lt_irrefl (Int32.lt_of_lt_of_le e (Int32.le_trans (by decide) q7)))
      have c7 : n3152 ≥ 72 := (nI_leI (a := 72) (b := n3152) (by omega) (by omega)).mp q7
      refine m_ldc2 F kc_X9_149 e_X9_cash_15 ?_
      exact m_lret F hQ e_X9_cash_18 (⟨(h1.mono (M' := M + 1400) (Z' := Z) (by omega) (by intro e; first | rfl | assumption | omega)), _, rfl⟩)
    · refine m_iload_n F rfl e_X9_cash_10 ?_
      refine m_iload_n F rfl e_X9_cash_11 ?_
      refine m_icmp_le F e_X9_cash_12 (fun q12 => ?_) (fun q12 => ?_)
      · obtain ⟨n3153, hn3153, rfl⟩ := nI_nn (x := x902) (fun e => Int32.lt_irrefl (Int32.lt_of_le_of_lt (Int32.le_trans (nI_0le (n := n3151) (by omega)) q12) e))
        have gn3153 : n3153 < 72 := by have hh := mt (nI_leI (a := 72) (b := n3153) (by omega) (by omega)).mpr q7; omega
        refine m_aload_n F rfl e_X9_cash_19 ?_
        refine m_iconst F (v := 0) (by decide) e_X9_cash_20 ?_
        refine t_callV F e_X9_cash_21 (s_X9_bookIn (x_l X) V b M Z T _ _ a 0 h1.1 hk (by omega) (by omega)) cb_X9_bookIn ml_X9_271 im_X9_bookIn se_X9_bookIn (fun _ => o1) h1 hk rfl rfl (rest := []) rfl (Nat.le_of_ble_eq_true rfl) ⟨Nat.le_of_ble_eq_true rfl, Nat.le_of_ble_eq_true rfl⟩ ⟨Nat.le_of_ble_eq_true rfl, Nat.le_of_ble_eq_true rfl⟩ (fun r σ3154 hp => ?_)
        obtain ⟨h3156, r3157, k3158, rfl⟩ := hp
        have h3155 := HK.trans h1 h3156 (by decide)
        refine m_astore_n F (lv' := [(3, .ref r3157), (0, .ref a), (1, .int (nI n3151)), (2, .int (nI n3153))]) e_X9_cash_24 (by decide) rfl ?_
        refine m_aload_n F rfl e_X9_cash_25 ?_
        refine m_iload_n F rfl e_X9_cash_26 ?_
        refine m_iconst F (v := 1) (by decide) e_X9_cash_27 ?_
        refine m_iadd F e_X9_cash_28 ?_
        refine Wm.topE (w := nI (n3153 + 1)) (nI_add n3153 1) ?_
        refine t_callV F e_X9_cash_29 (s_X9_coming (x_l X) V b (M + 648) Z T _ _ a (n3153 + 1) h3155.1 hk (by omega) (by omega)) cb_X9_coming ml_X9_324 im_X9_coming se_X9_coming (fun _ => o1) h3155 hk rfl rfl (rest := []) rfl (Nat.le_of_ble_eq_true rfl) ⟨Nat.le_of_ble_eq_true rfl, Nat.le_of_ble_eq_true rfl⟩ ⟨Nat.le_of_ble_eq_true rfl, Nat.le_of_ble_eq_true rfl⟩ (fun r σ3159 hp => ?_)
        obtain ⟨h3161, n3162, hn3162, rfl⟩ := hp
        have h3160 := HK.trans h3155 h3161 (by decide)
        refine m_istore F (lv' := [(4, .int (nI n3162)), (3, .ref r3157), (0, .ref a), (1, .int (nI n3151)), (2, .int (nI n3153))]) e_X9_cash_32 (by decide) rfl ?_
        refine m_lconst F (v := 0) (by decide) e_X9_cash_34 ?_
        refine m_lstore F (lv' := [(5, .long 0), (4, .int (nI n3162)), (3, .ref r3157), (0, .ref a), (1, .int (nI n3151)), (2, .int (nI n3153))]) e_X9_cash_35 (by decide) rfl ?_
        refine m_iconst F (v := 0) (by decide) e_X9_cash_37 ?_
        refine m_istore F (lv' := [(7, .int 0), (5, .long 0), (4, .int (nI n3162)), (3, .ref r3157), (0, .ref a), (1, .int (nI n3151)), (2, .int (nI n3153))]) e_X9_cash_38 (by decide) rfl ?_
        refine Wm.lvsub (lv' := [(7, .int 0), (4, .int (nI n3162)), (5, .long 0), (0, .ref a), (1, .int (nI n3151)), (2, .int (nI n3153)), (3, .ref r3157)]) ?_ [0, 2, 1, 4, 5, 6, 3] rfl
        exact lp_X9_cash_40 F hQ hk hM (72 - 0 + 1) 0 n3162 0 (nI n3151) (nI n3153) r3157 _ (h3160.mono (M' := M + 648 + 9 * 0) (Z' := Z) (by omega) (by intro e9; first | exact e9 | rfl)) ⟨k3158, (by omega)⟩ (Nat.lt_succ_self _)
      · refine m_ldc2 F kc_X9_149 e_X9_cash_15 ?_
        exact m_lret F hQ e_X9_cash_18 (⟨(h1.mono (M' := M + 1400) (Z' := Z) (by omega) (by intro e; first | rfl | assumption | omega)), _, rfl⟩)
set_option maxRecDepth 20000 in
theorem s_X9_ifIndex (l : Launch) (V : VX) (b M Z T N : Nat) (σ : Mem) (a : Nat) (x901 : Int32) (x902 : Int32) (h0 : HT V (b, M, Z, T) σ) (hk : kA b a = 1) (hM : M + 0 ≤ 1000000000) : Ct l V yX9_ifIndex cX9_ifIndex 5 (some .long) 4 0 0 N σ [.ref a, .int x901, .int x902] (fun r τ => HK V (b, M, Z, T) [0, 1, 3, 7, 12, 19] σ τ ∧ ∃ x : Int64, r = some (.long x)) := by
  refine Ct.of (by decide) (Nat.le_of_ble_eq_true rfl) [(0, .ref a), (1, .int x901), (2, .int x902)] rfl (fun X hX F hQ => ?_)
  have h1 : HK V (b, M, Z, T) [0, 1, 3, 7, 12, 19] σ σ := HK.start h0
  refine m_aload_n F rfl e_X9_ifIndex_0 ?_
  refine m_iload_n F rfl e_X9_ifIndex_1 ?_
  refine t_callV F e_X9_ifIndex_2 (s_X9_leaseAt (x_l X) V b M Z T _ _ a x901 h1.1 hk  (by omega)) cb_X9_leaseAt ml_X9_103 im_X9_leaseAt se_X9_leaseAt (fun _ => o1) h1 hk rfl rfl (rest := []) rfl (Nat.le_of_ble_eq_true rfl) ⟨Nat.le_of_ble_eq_true rfl, Nat.le_of_ble_eq_true rfl⟩ ⟨Nat.le_of_ble_eq_true rfl, Nat.le_of_ble_eq_true rfl⟩ (fun r σ3163 hp => ?_)
  obtain ⟨h3165, c3166⟩ := hp
  have h3164 := HK.trans h1 h3165 (by decide)
  rcases c3166 with rfl | ⟨n3167, r3168, hn3167, en3167, k3169, rfl⟩
  · refine m_ifnullN F e_X9_ifIndex_5 ?_
    refine m_ldc2 F kc_X9_149 e_X9_ifIndex_15 ?_
    exact m_lret F hQ e_X9_ifIndex_18 (⟨h3164, _, rfl⟩)
  · subst en3167
    refine m_ifnullR F e_X9_ifIndex_5 ?_
    refine m_iload_n F rfl e_X9_ifIndex_8 ?_
    refine m_callS F e_X9_ifIndex_9 (s_X9_isIndex (x_l X) V b M Z T _ _ x902 h3164.1  (by omega)) cb_X9_isIndex ml_X9_262 sm_X9_isIndex rfl (rest := []) rfl (Nat.le_of_ble_eq_true rfl) ⟨Nat.le_of_ble_eq_true rfl, Nat.le_of_ble_eq_true rfl⟩ ⟨Nat.le_of_ble_eq_true rfl, Nat.le_of_ble_eq_true rfl⟩ (k' := 0) (z' := 0) (N' := N) rfl rfl rfl (fun r σ3170 hp => ?_)
    obtain ⟨h3172, n3173, hn3173, rfl⟩ := hp
    have h3171 := HK.trans h3164 h3172 (by decide)
    refine m_if_ne F e_X9_ifIndex_12 (fun q12 => ?_) (fun q12 => ?_)
    · have c12 : n3173 ≠ 0 := by have hh := mt (nI_eq (a := n3173) (b := 0) (by omega) (by omega)).mpr q12; omega
      refine m_aload_n F rfl e_X9_ifIndex_19 ?_
      refine m_iload_n F rfl e_X9_ifIndex_20 ?_
      refine t_callV F e_X9_ifIndex_21 (s_X9_runningAt (x_l X) V b M Z T _ _ a (nI n3167) h3171.1 hk  (by omega)) cb_X9_runningAt ml_X9_203 im_X9_runningAt se_X9_runningAt (fun _ => o1) h3171 hk rfl rfl (rest := []) rfl (Nat.le_of_ble_eq_true rfl) ⟨Nat.le_of_ble_eq_true rfl, Nat.le_of_ble_eq_true rfl⟩ ⟨Nat.le_of_ble_eq_true rfl, Nat.le_of_ble_eq_true rfl⟩ (fun r σ3174 hp => ?_)
      obtain ⟨h3176, c3177⟩ := hp
      have h3175 := HK.trans h3171 h3176 (by decide)
      rcases c3177 with rfl | ⟨n3178, r3179, hn3178, en3178, k3180, rfl⟩
      · refine m_astore_nN F (lv' := [(3, .null), (0, .ref a), (1, .int (nI n3167)), (2, .int x902)]) e_X9_ifIndex_24 (by decide) rfl ?_
        refine m_aload_nN F rfl e_X9_ifIndex_25 ?_
        refine m_ifnonnullN F e_X9_ifIndex_26 ?_
        refine m_ldc2 F kc_X9_318 e_X9_ifIndex_29 ?_
        exact m_lret F hQ e_X9_ifIndex_32 (⟨h3175, _, rfl⟩)
      · refine m_astore_n F (lv' := [(3, .ref r3179), (0, .ref a), (1, .int (nI n3167)), (2, .int x902)]) e_X9_ifIndex_24 (by decide) rfl ?_
        refine m_aload_n F rfl e_X9_ifIndex_25 ?_
        refine m_ifnonnullR F e_X9_ifIndex_26 ?_
        refine m_aload_n F rfl e_X9_ifIndex_33 ?_
        refine t_get F e_X9_ifIndex_34 fl_X9_341 (fun _ => o15) h3175 k3180 rfl (fun v hv f3181 => ?_)
        obtain ⟨n3182, hn3182, rfl⟩ := hv
        replace hn3182 : n3182 ≤ 1 := hn3182
        refine m_if_ne F e_X9_ifIndex_37 (fun q37 => ?_) (fun q37 => ?_)
        · have c37 : n3182 ≠ 0 := by have hh := mt (nI_eq (a := n3182) (b := 0) (by omega) (by omega)).mpr q37; omega
          refine m_aload_n F rfl e_X9_ifIndex_48 ?_
          refine t_get F e_X9_ifIndex_49 fl_X9_20 (fun _ => o1) h3175 hk rfl (fun v hv f3183 => ?_)
          obtain ⟨r3184, k3185, rfl⟩ := hv
          refine t_get F e_X9_ifIndex_52 fl_X9_226 (fun _ => o7) h3175 k3185 rfl (fun v hv f3186 => ?_)
          obtain ⟨r3187, k3188, rfl⟩ := hv
          refine m_iconst F (v := 0) (by decide) e_X9_ifIndex_55 ?_
          refine t_aald F (len := 4) (j := 0) e_X9_ifIndex_56 (fun _ => o8) rfl h3175 k3188 (by decide) (by unfold vp_in; decide) (fun r3189 k3190 => ?_)
          refine m_astore F (lv' := [(4, .ref r3189), (3, .ref r3179), (0, .ref a), (1, .int (nI n3167)), (2, .int x902)]) e_X9_ifIndex_57 (by decide) rfl ?_
          refine m_aload F rfl e_X9_ifIndex_59 ?_
          refine m_aload_n F rfl e_X9_ifIndex_61 ?_
          refine t_callV F e_X9_ifIndex_62 (s_X5_copyFrom (x_l X) V b M Z T _ _ r3189 r3179 h3175.1 k3190 k3180 (by omega)) cb_X5_copyFrom ml_X9_291 im_X5_copyFrom se_X5_copyFrom (fun _ => o15) h3175 k3190 rfl rfl (rest := []) rfl (Nat.le_of_ble_eq_true rfl) ⟨Nat.le_of_ble_eq_true rfl, Nat.le_of_ble_eq_true rfl⟩ ⟨Nat.le_of_ble_eq_true rfl, Nat.le_of_ble_eq_true rfl⟩ (fun r σ3191 hp => ?_)
          obtain ⟨h3193, rfl⟩ := hp
          have h3192 := HK.trans h3175 h3193 (by decide)
          refine m_aload F rfl e_X9_ifIndex_65 ?_
          refine m_iload_n F rfl e_X9_ifIndex_67 ?_
          refine t_callV F e_X9_ifIndex_68 (s_X5_followIndex (x_l X) V b M Z T _ _ r3189 x902 h3192.1 k3190  (by omega)) cb_X5_followIndex ml_X9_344 im_X5_followIndex se_X5_followIndex (fun _ => o15) h3192 k3190 rfl rfl (rest := []) rfl (Nat.le_of_ble_eq_true rfl) ⟨Nat.le_of_ble_eq_true rfl, Nat.le_of_ble_eq_true rfl⟩ ⟨Nat.le_of_ble_eq_true rfl, Nat.le_of_ble_eq_true rfl⟩ (fun r σ3194 hp => ?_)
          obtain ⟨h3196, rfl⟩ := hp
          have h3195 := HK.trans h3192 h3196 (by decide)
          refine m_aload F rfl e_X9_ifIndex_71 ?_
          refine m_aload_n F rfl e_X9_ifIndex_73 ?_
          refine t_get F e_X9_ifIndex_74 fl_X9_42 (fun _ => o1) h3195 hk rfl (fun v hv f3197 => ?_)
          obtain ⟨r3198, k3199, rfl⟩ := hv
          refine t_callV F e_X9_ifIndex_77 (s_X5_worthLeft (x_l X) V b M Z T _ _ r3189 r3198 h3195.1 k3190 k3199 (by omega)) cb_X5_worthLeft ml_X9_298 im_X5_worthLeft se_X5_worthLeft (fun _ => o15) h3195 k3190 rfl rfl (rest := []) rfl (Nat.le_of_ble_eq_true rfl) ⟨Nat.le_of_ble_eq_true rfl, Nat.le_of_ble_eq_true rfl⟩ ⟨Nat.le_of_ble_eq_true rfl, Nat.le_of_ble_eq_true rfl⟩ (fun r σ3200 hp => ?_)
          obtain ⟨h3202, rfl⟩ := hp
          have h3201 := HK.trans h3195 h3202 (by decide)
          refine m_aload_n F rfl e_X9_ifIndex_80 ?_
          refine t_getC F e_X9_ifIndex_81 fl_X9_42 (fun _ => o1) h3201 hk ((fld_eq (h3202.2 a (by rw [show kA _ a = 1 from hk]; decide))).trans f3197) ?_
          refine t_callV F e_X9_ifIndex_84 (s_X1_asLong (x_l X) V b M Z T _ _ r3198  h3201.1 k3199  (by omega)) cb_X1_asLong ml_X9_157 im_X1_asLong se_X1_asLong (fun _ => o6) h3201 k3199 rfl rfl (rest := []) rfl (Nat.le_of_ble_eq_true rfl) ⟨Nat.le_of_ble_eq_true rfl, Nat.le_of_ble_eq_true rfl⟩ ⟨Nat.le_of_ble_eq_true rfl, Nat.le_of_ble_eq_true rfl⟩ (fun r σ3203 hp => ?_)
          obtain ⟨h3205, x3206, rfl⟩ := hp
          have h3204 := HK.trans h3201 h3205 (by decide)
          exact m_lret F hQ e_X9_ifIndex_87 (⟨h3204, _, rfl⟩)
        · have c37 : n3182 = 0 := (nI_eq (a := n3182) (b := 0) (by omega) (by omega)).mp q37
          refine m_aload_n F rfl e_X9_ifIndex_40 ?_
          refine t_get F e_X9_ifIndex_41 fl_X9_151 (fun _ => o15) h3175 k3180 rfl (fun v hv f3207 => ?_)
          obtain ⟨r3208, k3209, rfl⟩ := hv
          refine t_callV F e_X9_ifIndex_44 (s_X1_asLong (x_l X) V b M Z T _ _ r3208  h3175.1 k3209  (by omega)) cb_X1_asLong ml_X9_157 im_X1_asLong se_X1_asLong (fun _ => o6) h3175 k3209 rfl rfl (rest := []) rfl (Nat.le_of_ble_eq_true rfl) ⟨Nat.le_of_ble_eq_true rfl, Nat.le_of_ble_eq_true rfl⟩ ⟨Nat.le_of_ble_eq_true rfl, Nat.le_of_ble_eq_true rfl⟩ (fun r σ3210 hp => ?_)
          obtain ⟨h3212, x3213, rfl⟩ := hp
          have h3211 := HK.trans h3175 h3212 (by decide)
          exact m_lret F hQ e_X9_ifIndex_47 (⟨h3211, _, rfl⟩)
    · have c12 : n3173 = 0 := (nI_eq (a := n3173) (b := 0) (by omega) (by omega)).mp q12
      refine m_ldc2 F kc_X9_149 e_X9_ifIndex_15 ?_
      exact m_lret F hQ e_X9_ifIndex_18 (⟨h3171, _, rfl⟩)
set_option maxRecDepth 20000 in
theorem s_X9_ifTaken (l : Launch) (V : VX) (b M Z T N : Nat) (σ : Mem) (a : Nat) (x901 : Int32) (h0 : HT V (b, M, Z, T) σ) (hk : kA b a = 1) (hM : M + 0 ≤ 1000000000) : Ct l V yX9_ifTaken cX9_ifTaken 5 (some .long) 5 0 0 N σ [.ref a, .int x901] (fun r τ => HK V (b, M, Z, T) [0, 1, 3, 7, 12, 19] σ τ ∧ ∃ x : Int64, r = some (.long x)) := by
  refine Ct.of (by decide) (Nat.le_of_ble_eq_true rfl) [(0, .ref a), (1, .int x901)] rfl (fun X hX F hQ => ?_)
  have h1 : HK V (b, M, Z, T) [0, 1, 3, 7, 12, 19] σ σ := HK.start h0
  refine m_aload_n F rfl e_X9_ifTaken_0 ?_
  refine t_get F e_X9_ifTaken_1 fl_X9_16 (fun _ => o1) h1 hk rfl (fun v hv f3214 => ?_)
  obtain ⟨r3215, k3216, rfl⟩ := hv
  refine m_iload_n F rfl e_X9_ifTaken_4 ?_
  refine t_callV F e_X9_ifTaken_5 (s_X2_canTake (x_l X) V b M Z T _ _ r3215 x901 h1.1 k3216  (by omega)) cb_X2_canTake ml_X9_214 im_X2_canTake se_X2_canTake (fun _ => o7) h1 k3216 rfl rfl (rest := []) rfl (Nat.le_of_ble_eq_true rfl) ⟨Nat.le_of_ble_eq_true rfl, Nat.le_of_ble_eq_true rfl⟩ ⟨Nat.le_of_ble_eq_true rfl, Nat.le_of_ble_eq_true rfl⟩ (fun r σ3217 hp => ?_)
  obtain ⟨h3219, c3220⟩ := hp
  have h3218 := HK.trans h1 h3219 (by decide)
  rcases c3220 with rfl | ⟨n3221, hn3221, en3221, rfl⟩
  · refine m_if_ne F e_X9_ifTaken_8 (fun q => absurd (by decide) q) (fun _ => ?_)
    refine m_ldc2 F kc_X9_184 e_X9_ifTaken_11 ?_
    exact m_lret F hQ e_X9_ifTaken_14 (⟨h3218, _, rfl⟩)
  · subst en3221
    refine m_if_ne F e_X9_ifTaken_8 (fun _ => ?_) (fun q => absurd q (by decide))
    refine m_aload_n F rfl e_X9_ifTaken_15 ?_
    refine t_getC F e_X9_ifTaken_16 fl_X9_16 (fun _ => o1) h3218 hk ((fld_eq (h3219.2 a (by rw [show kA _ a = 1 from hk]; decide))).trans f3214) ?_
    refine t_get F e_X9_ifTaken_19 fl_X9_217 (fun _ => o7) h3218 k3216 rfl (fun v hv f3222 => ?_)
    obtain ⟨r3223, k3224, rfl⟩ := hv
    refine m_iload_n F rfl e_X9_ifTaken_22 ?_
    refine t_aald F (len := 4) (j := n3221) e_X9_ifTaken_23 (fun _ => o9) rfl h3218 k3224 (nI_clamp (by omega)) (vp_in_nI (by omega) (by decide)) (fun r3225 k3226 => ?_)
    refine m_astore_n F (lv' := [(2, .ref r3225), (0, .ref a), (1, .int (nI n3221))]) e_X9_ifTaken_24 (by decide) rfl ?_
    refine m_aload_n F rfl e_X9_ifTaken_25 ?_
    refine t_getC F e_X9_ifTaken_26 fl_X9_16 (fun _ => o1) h3218 hk ((fld_eq (h3219.2 a (by rw [show kA _ a = 1 from hk]; decide))).trans f3214) ?_
    refine t_get F e_X9_ifTaken_29 fl_X9_226 (fun _ => o7) h3218 k3216 rfl (fun v hv f3227 => ?_)
    obtain ⟨r3228, k3229, rfl⟩ := hv
    refine m_aload_n F rfl e_X9_ifTaken_32 ?_
    refine t_get F e_X9_ifTaken_33 fl_X9_230 (fun _ => o19) h3218 k3226 rfl (fun v hv f3230 => ?_)
    obtain ⟨n3231, hn3231, rfl⟩ := hv
    replace hn3231 : n3231 ≤ 3 := hn3231
    refine t_aald F (len := 4) (j := n3231) e_X9_ifTaken_36 (fun _ => o8) rfl h3218 k3229 (nI_clamp (by omega)) (vp_in_nI (by omega) (by decide)) (fun r3232 k3233 => ?_)
    refine m_astore_n F (lv' := [(3, .ref r3232), (2, .ref r3225), (0, .ref a), (1, .int (nI n3221))]) e_X9_ifTaken_37 (by decide) rfl ?_
    refine m_aload_n F rfl e_X9_ifTaken_38 ?_
    refine t_get F e_X9_ifTaken_39 fl_X9_20 (fun _ => o1) h3218 hk rfl (fun v hv f3234 => ?_)
    obtain ⟨r3235, k3236, rfl⟩ := hv
    refine t_get F e_X9_ifTaken_42 fl_X9_226 (fun _ => o7) h3218 k3236 rfl (fun v hv f3237 => ?_)
    obtain ⟨r3238, k3239, rfl⟩ := hv
    refine m_iconst F (v := 0) (by decide) e_X9_ifTaken_45 ?_
    refine t_aald F (len := 4) (j := 0) e_X9_ifTaken_46 (fun _ => o8) rfl h3218 k3239 (by decide) (by unfold vp_in; decide) (fun r3240 k3241 => ?_)
    refine m_astore F (lv' := [(4, .ref r3240), (3, .ref r3232), (2, .ref r3225), (0, .ref a), (1, .int (nI n3221))]) e_X9_ifTaken_47 (by decide) rfl ?_
    refine m_aload F rfl e_X9_ifTaken_49 ?_
    refine m_aload_n F rfl e_X9_ifTaken_51 ?_
    refine t_callV F e_X9_ifTaken_52 (s_X5_copyFrom (x_l X) V b M Z T _ _ r3240 r3232 h3218.1 k3241 k3233 (by omega)) cb_X5_copyFrom ml_X9_291 im_X5_copyFrom se_X5_copyFrom (fun _ => o15) h3218 k3241 rfl rfl (rest := []) rfl (Nat.le_of_ble_eq_true rfl) ⟨Nat.le_of_ble_eq_true rfl, Nat.le_of_ble_eq_true rfl⟩ ⟨Nat.le_of_ble_eq_true rfl, Nat.le_of_ble_eq_true rfl⟩ (fun r σ3242 hp => ?_)
    obtain ⟨h3244, rfl⟩ := hp
    have h3243 := HK.trans h3218 h3244 (by decide)
    refine m_aload_n F rfl e_X9_ifTaken_55 ?_
    refine t_getC F e_X9_ifTaken_56 fl_X9_16 (fun _ => o1) h3243 hk ((fld_eq (h3244.2 a (by rw [show kA _ a = 1 from hk]; decide))).trans ((fld_eq (h3219.2 a (by rw [show kA _ a = 1 from hk]; decide))).trans f3214)) ?_
    refine m_aload F rfl e_X9_ifTaken_59 ?_
    refine m_aload_n F rfl e_X9_ifTaken_61 ?_
    refine t_callV F e_X9_ifTaken_62 (s_X2_goOnByOption (x_l X) V b M Z T _ _ r3215 r3240 r3225 h3243.1 k3216 k3241 k3226 (by omega)) cb_X2_goOnByOption ml_X9_233 im_X2_goOnByOption se_X2_goOnByOption (fun _ => o7) h3243 k3216 rfl rfl (rest := []) rfl (Nat.le_of_ble_eq_true rfl) ⟨Nat.le_of_ble_eq_true rfl, Nat.le_of_ble_eq_true rfl⟩ ⟨Nat.le_of_ble_eq_true rfl, Nat.le_of_ble_eq_true rfl⟩ (fun r σ3245 hp => ?_)
    obtain ⟨h3247, rfl⟩ := hp
    have h3246 := HK.trans h3243 h3247 (by decide)
    refine m_aload F rfl e_X9_ifTaken_65 ?_
    refine m_aload_n F rfl e_X9_ifTaken_67 ?_
    refine t_get F e_X9_ifTaken_68 fl_X9_42 (fun _ => o1) h3246 hk rfl (fun v hv f3248 => ?_)
    obtain ⟨r3249, k3250, rfl⟩ := hv
    refine t_callV F e_X9_ifTaken_71 (s_X5_worthLeft (x_l X) V b M Z T _ _ r3240 r3249 h3246.1 k3241 k3250 (by omega)) cb_X5_worthLeft ml_X9_298 im_X5_worthLeft se_X5_worthLeft (fun _ => o15) h3246 k3241 rfl rfl (rest := []) rfl (Nat.le_of_ble_eq_true rfl) ⟨Nat.le_of_ble_eq_true rfl, Nat.le_of_ble_eq_true rfl⟩ ⟨Nat.le_of_ble_eq_true rfl, Nat.le_of_ble_eq_true rfl⟩ (fun r σ3251 hp => ?_)
    obtain ⟨h3253, rfl⟩ := hp
    have h3252 := HK.trans h3246 h3253 (by decide)
    refine m_aload_n F rfl e_X9_ifTaken_74 ?_
    refine t_getC F e_X9_ifTaken_75 fl_X9_42 (fun _ => o1) h3252 hk ((fld_eq (h3253.2 a (by rw [show kA _ a = 1 from hk]; decide))).trans f3248) ?_
    refine t_callV F e_X9_ifTaken_78 (s_X1_asLong (x_l X) V b M Z T _ _ r3249  h3252.1 k3250  (by omega)) cb_X1_asLong ml_X9_157 im_X1_asLong se_X1_asLong (fun _ => o6) h3252 k3250 rfl rfl (rest := []) rfl (Nat.le_of_ble_eq_true rfl) ⟨Nat.le_of_ble_eq_true rfl, Nat.le_of_ble_eq_true rfl⟩ ⟨Nat.le_of_ble_eq_true rfl, Nat.le_of_ble_eq_true rfl⟩ (fun r σ3254 hp => ?_)
    obtain ⟨h3256, x3257, rfl⟩ := hp
    have h3255 := HK.trans h3252 h3256 (by decide)
    refine m_aload_n F rfl e_X9_ifTaken_81 ?_
    refine t_get F e_X9_ifTaken_82 fl_X9_151 (fun _ => o15) h3255 k3233 rfl (fun v hv f3258 => ?_)
    obtain ⟨r3259, k3260, rfl⟩ := hv
    refine t_callV F e_X9_ifTaken_85 (s_X1_asLong (x_l X) V b M Z T _ _ r3259  h3255.1 k3260  (by omega)) cb_X1_asLong ml_X9_157 im_X1_asLong se_X1_asLong (fun _ => o6) h3255 k3260 rfl rfl (rest := [.long x3257]) rfl (Nat.le_of_ble_eq_true rfl) ⟨Nat.le_of_ble_eq_true rfl, Nat.le_of_ble_eq_true rfl⟩ ⟨Nat.le_of_ble_eq_true rfl, Nat.le_of_ble_eq_true rfl⟩ (fun r σ3261 hp => ?_)
    obtain ⟨h3263, x3264, rfl⟩ := hp
    have h3262 := HK.trans h3255 h3263 (by decide)
    refine m_lsub F e_X9_ifTaken_88 ?_
    refine Wm.topl (fun x3265 _ => ?_)
    exact m_lret F hQ e_X9_ifTaken_89 (⟨h3262, _, rfl⟩)
set_option maxRecDepth 20000 in
theorem s_X9_yields (l : Launch) (V : VX) (b M Z T N : Nat) (σ : Mem) (a : Nat) (x901 : Int32) (x902 : Int32) (x903 : Int64) (h0 : HT V (b, M, Z, T) σ) (hk : kA b a = 1) (hM : M + 0 ≤ 1000000000) : Ct l V yX9_yields cX9_yields 6 (some .int) 4 0 0 N σ [.ref a, .int x901, .int x902, .long x903] (fun r τ => HK V (b, M, Z, T) [0, 1, 3, 7, 12, 15, 19] σ τ ∧ ∃ x : Int32, r = some (.int x)) := by
  refine Ct.of (by decide) (Nat.le_of_ble_eq_true rfl) [(0, .ref a), (1, .int x901), (2, .int x902), (3, .long x903)] rfl (fun X hX F hQ => ?_)
  have h1 : HK V (b, M, Z, T) [0, 1, 3, 7, 12, 15, 19] σ σ := HK.start h0
  refine m_aload_n F rfl e_X9_yields_0 ?_
  refine m_iload_n F rfl e_X9_yields_1 ?_
  refine t_callV F e_X9_yields_2 (s_X9_leaseAt (x_l X) V b M Z T _ _ a x901 h1.1 hk  (by omega)) cb_X9_leaseAt ml_X9_103 im_X9_leaseAt se_X9_leaseAt (fun _ => o1) h1 hk rfl rfl (rest := []) rfl (Nat.le_of_ble_eq_true rfl) ⟨Nat.le_of_ble_eq_true rfl, Nat.le_of_ble_eq_true rfl⟩ ⟨Nat.le_of_ble_eq_true rfl, Nat.le_of_ble_eq_true rfl⟩ (fun r σ3266 hp => ?_)
  obtain ⟨h3268, c3269⟩ := hp
  have h3267 := HK.trans h1 h3268 (by decide)
  rcases c3269 with rfl | ⟨n3270, r3271, hn3270, en3270, k3272, rfl⟩
  · refine m_astoreN F (lv' := [(5, .null), (0, .ref a), (1, .int x901), (2, .int x902), (3, .long x903)]) e_X9_yields_5 (by decide) rfl ?_
    refine m_aloadN F rfl e_X9_yields_7 ?_
    refine m_ifnullN F e_X9_yields_9 ?_
    refine m_iconst F (v := (-1)) (by decide) e_X9_yields_28 ?_
    exact m_iret F hQ e_X9_yields_29 (⟨h3267, _, rfl⟩)
  · subst en3270
    refine m_astore F (lv' := [(5, .ref r3271), (0, .ref a), (1, .int (nI n3270)), (2, .int x902), (3, .long x903)]) e_X9_yields_5 (by decide) rfl ?_
    refine m_aload F rfl e_X9_yields_7 ?_
    refine m_ifnullR F e_X9_yields_9 ?_
    refine m_aload F rfl e_X9_yields_12 ?_
    refine m_iload_n F rfl e_X9_yields_14 ?_
    refine t_callV F e_X9_yields_15 (s_X5_owns (x_l X) V b M Z T _ _ r3271 x902 h3267.1 k3272  (by omega)) cb_X5_owns ml_X9_161 im_X5_owns se_X5_owns (fun _ => o15) h3267 k3272 rfl rfl (rest := []) rfl (Nat.le_of_ble_eq_true rfl) ⟨Nat.le_of_ble_eq_true rfl, Nat.le_of_ble_eq_true rfl⟩ ⟨Nat.le_of_ble_eq_true rfl, Nat.le_of_ble_eq_true rfl⟩ (fun r σ3273 hp => ?_)
    obtain ⟨h3275, n3276, hn3276, rfl⟩ := hp
    have h3274 := HK.trans h3267 h3275 (by decide)
    refine m_if_eq F e_X9_yields_18 (fun q18 => ?_) (fun q18 => ?_)
    · have c18 : n3276 = 0 := (nI_eq (a := n3276) (b := 0) (by omega) (by omega)).mp q18
      refine m_iconst F (v := (-1)) (by decide) e_X9_yields_28 ?_
      exact m_iret F hQ e_X9_yields_29 (⟨h3274, _, rfl⟩)
    · have c18 : n3276 ≠ 0 := by have hh := mt (nI_eq (a := n3276) (b := 0) (by omega) (by omega)).mpr q18; omega
      refine m_lload_n F rfl e_X9_yields_21 ?_
      refine m_callS F e_X9_yields_22 (s_X9_isWorth (x_l X) V b M Z T _ _ x903 h3274.1  (by omega)) cb_X9_isWorth ml_X9_347 sm_X9_isWorth rfl (rest := []) rfl (Nat.le_of_ble_eq_true rfl) ⟨Nat.le_of_ble_eq_true rfl, Nat.le_of_ble_eq_true rfl⟩ ⟨Nat.le_of_ble_eq_true rfl, Nat.le_of_ble_eq_true rfl⟩ (k' := 0) (z' := 0) (N' := N) rfl rfl rfl (fun r σ3277 hp => ?_)
      obtain ⟨h3279, n3280, hn3280, rfl⟩ := hp
      have h3278 := HK.trans h3274 h3279 (by decide)
      refine m_if_ne F e_X9_yields_25 (fun q25 => ?_) (fun q25 => ?_)
      · have c25 : n3280 ≠ 0 := by have hh := mt (nI_eq (a := n3280) (b := 0) (by omega) (by omega)).mpr q25; omega
        refine m_aload F rfl e_X9_yields_30 ?_
        refine m_iload_n F rfl e_X9_yields_32 ?_
        refine m_iconst F (v := 1) (by decide) e_X9_yields_33 ?_
        refine m_isub F e_X9_yields_34 ?_
        refine Wm.top (fun x3281 _ => ?_)
        refine m_lload_n F rfl e_X9_yields_35 ?_
        refine m_aload_n F rfl e_X9_yields_36 ?_
        refine t_get F e_X9_yields_37 fl_X9_42 (fun _ => o1) h3278 hk rfl (fun v hv f3282 => ?_)
        obtain ⟨r3283, k3284, rfl⟩ := hv
        refine t_callV F e_X9_yields_40 (s_X5_greatestRate (x_l X) V b M Z T _ _ r3271 x3281 x903 r3283 h3278.1 k3272 k3284 (by omega)) cb_X5_greatestRate ml_X9_350 im_X5_greatestRate se_X5_greatestRate (fun _ => o15) h3278 k3272 rfl rfl (rest := []) rfl (Nat.le_of_ble_eq_true rfl) ⟨Nat.le_of_ble_eq_true rfl, Nat.le_of_ble_eq_true rfl⟩ ⟨Nat.le_of_ble_eq_true rfl, Nat.le_of_ble_eq_true rfl⟩ (fun r σ3285 hp => ?_)
        obtain ⟨h3287, x3288, rfl⟩ := hp
        have h3286 := HK.trans h3278 h3287 (by decide)
        exact m_iret F hQ e_X9_yields_43 (⟨h3286, _, rfl⟩)
      · have c25 : n3280 = 0 := (nI_eq (a := n3280) (b := 0) (by omega) (by omega)).mp q25
        refine m_iconst F (v := (-1)) (by decide) e_X9_yields_28 ?_
        exact m_iret F hQ e_X9_yields_29 (⟨h3278, _, rfl⟩)
set_option maxRecDepth 20000 in
theorem s_X9_level (l : Launch) (V : VX) (b M Z T N : Nat) (σ : Mem) (a : Nat) (x901 : Int32) (x902 : Int64) (h0 : HT V (b, M, Z, T) σ) (hk : kA b a = 1) (hM : M + 0 ≤ 1000000000) : Ct l V yX9_level cX9_level 6 (some .int) 6 0 0 N σ [.ref a, .int x901, .long x902] (fun r τ => HK V (b, M, Z, T) [0, 1, 3, 7, 12, 19] σ τ ∧ ∃ x : Int32, r = some (.int x)) := by
  refine Ct.of (by decide) (Nat.le_of_ble_eq_true rfl) [(0, .ref a), (1, .int x901), (2, .long x902)] rfl (fun X hX F hQ => ?_)
  have h1 : HK V (b, M, Z, T) [0, 1, 3, 7, 12, 19] σ σ := HK.start h0
  refine m_aload_n F rfl e_X9_level_0 ?_
  refine m_iload_n F rfl e_X9_level_1 ?_
  refine t_callV F e_X9_level_2 (s_X9_leaseAt (x_l X) V b M Z T _ _ a x901 h1.1 hk  (by omega)) cb_X9_leaseAt ml_X9_103 im_X9_leaseAt se_X9_leaseAt (fun _ => o1) h1 hk rfl rfl (rest := []) rfl (Nat.le_of_ble_eq_true rfl) ⟨Nat.le_of_ble_eq_true rfl, Nat.le_of_ble_eq_true rfl⟩ ⟨Nat.le_of_ble_eq_true rfl, Nat.le_of_ble_eq_true rfl⟩ (fun r σ3289 hp => ?_)
  obtain ⟨h3291, c3292⟩ := hp
  have h3290 := HK.trans h1 h3291 (by decide)
  rcases c3292 with rfl | ⟨n3293, r3294, hn3293, en3293, k3295, rfl⟩
  · refine m_astoreN F (lv' := [(4, .null), (0, .ref a), (1, .int x901), (2, .long x902)]) e_X9_level_5 (by decide) rfl ?_
    refine m_aloadN F rfl e_X9_level_7 ?_
    refine m_ifnullN F e_X9_level_9 ?_
    refine m_iconst F (v := (-1)) (by decide) e_X9_level_19 ?_
    exact m_iret F hQ e_X9_level_20 (⟨h3290, _, rfl⟩)
  · subst en3293
    refine m_astore F (lv' := [(4, .ref r3294), (0, .ref a), (1, .int (nI n3293)), (2, .long x902)]) e_X9_level_5 (by decide) rfl ?_
    refine m_aload F rfl e_X9_level_7 ?_
    refine m_ifnullR F e_X9_level_9 ?_
    refine m_lload_n F rfl e_X9_level_12 ?_
    refine m_callS F e_X9_level_13 (s_X9_isWorth (x_l X) V b M Z T _ _ x902 h3290.1  (by omega)) cb_X9_isWorth ml_X9_347 sm_X9_isWorth rfl (rest := []) rfl (Nat.le_of_ble_eq_true rfl) ⟨Nat.le_of_ble_eq_true rfl, Nat.le_of_ble_eq_true rfl⟩ ⟨Nat.le_of_ble_eq_true rfl, Nat.le_of_ble_eq_true rfl⟩ (k' := 0) (z' := 0) (N' := N) rfl rfl rfl (fun r σ3296 hp => ?_)
    obtain ⟨h3298, n3299, hn3299, rfl⟩ := hp
    have h3297 := HK.trans h3290 h3298 (by decide)
    refine m_if_ne F e_X9_level_16 (fun q16 => ?_) (fun q16 => ?_)
    · have c16 : n3299 ≠ 0 := by have hh := mt (nI_eq (a := n3299) (b := 0) (by omega) (by omega)).mpr q16; omega
      refine m_aload_n F rfl e_X9_level_21 ?_
      refine t_get F e_X9_level_22 fl_X9_20 (fun _ => o1) h3297 hk rfl (fun v hv f3300 => ?_)
      obtain ⟨r3301, k3302, rfl⟩ := hv
      refine t_get F e_X9_level_25 fl_X9_226 (fun _ => o7) h3297 k3302 rfl (fun v hv f3303 => ?_)
      obtain ⟨r3304, k3305, rfl⟩ := hv
      refine m_iconst F (v := 0) (by decide) e_X9_level_28 ?_
      refine t_aald F (len := 4) (j := 0) e_X9_level_29 (fun _ => o8) rfl h3297 k3305 (by decide) (by unfold vp_in; decide) (fun r3306 k3307 => ?_)
      refine m_astore F (lv' := [(5, .ref r3306), (4, .ref r3294), (0, .ref a), (1, .int (nI n3293)), (2, .long x902)]) e_X9_level_30 (by decide) rfl ?_
      refine m_aload F rfl e_X9_level_32 ?_
      refine m_aload F rfl e_X9_level_34 ?_
      refine t_callV F e_X9_level_36 (s_X5_copyFrom (x_l X) V b M Z T _ _ r3306 r3294 h3297.1 k3307 k3295 (by omega)) cb_X5_copyFrom ml_X9_291 im_X5_copyFrom se_X5_copyFrom (fun _ => o15) h3297 k3307 rfl rfl (rest := []) rfl (Nat.le_of_ble_eq_true rfl) ⟨Nat.le_of_ble_eq_true rfl, Nat.le_of_ble_eq_true rfl⟩ ⟨Nat.le_of_ble_eq_true rfl, Nat.le_of_ble_eq_true rfl⟩ (fun r σ3308 hp => ?_)
      obtain ⟨h3310, rfl⟩ := hp
      have h3309 := HK.trans h3297 h3310 (by decide)
      refine m_aload F rfl e_X9_level_39 ?_
      refine m_lload_n F rfl e_X9_level_41 ?_
      refine m_aload_n F rfl e_X9_level_42 ?_
      refine t_get F e_X9_level_43 fl_X9_42 (fun _ => o1) h3309 hk rfl (fun v hv f3311 => ?_)
      obtain ⟨r3312, k3313, rfl⟩ := hv
      refine t_callV F e_X9_level_46 (s_X5_leastLevel (x_l X) V b M Z T _ _ r3306 x902 r3312 h3309.1 k3307 k3313 (by omega)) cb_X5_leastLevel ml_X9_354 im_X5_leastLevel se_X5_leastLevel (fun _ => o15) h3309 k3307 rfl rfl (rest := []) rfl (Nat.le_of_ble_eq_true rfl) ⟨Nat.le_of_ble_eq_true rfl, Nat.le_of_ble_eq_true rfl⟩ ⟨Nat.le_of_ble_eq_true rfl, Nat.le_of_ble_eq_true rfl⟩ (fun r σ3314 hp => ?_)
      obtain ⟨h3316, x3317, rfl⟩ := hp
      have h3315 := HK.trans h3309 h3316 (by decide)
      exact m_iret F hQ e_X9_level_49 (⟨h3315, _, rfl⟩)
    · have c16 : n3299 = 0 := (nI_eq (a := n3299) (b := 0) (by omega) (by omega)).mp q16
      refine m_iconst F (v := (-1)) (by decide) e_X9_level_19 ?_
      exact m_iret F hQ e_X9_level_20 (⟨h3297, _, rfl⟩)
set_option maxRecDepth 20000 in
theorem lp_X9_heaviest_13 {V : VX} {X : MX} {b M Z T N : Nat} {σ : Mem} {a : Nat}   (F : Fx V X yX9_heaviest cX9_heaviest 6 (some .int) (rmd 1 0 0)) (hQ : Rt V X 0 0 N (fun r τ => HK V (b, M, Z, T) [0, 1, 3, 7, 12, 15, 19] σ τ ∧ ∃ x : Int32, r = some (.int x))) (hk : kA b a = 1) (hM : M + 0 ≤ 1000000000)  : ∀ (fuel : Nat) (i : Nat) (u1 : Int32) (u2 : Int32) (q1 : Nat) (τ : Mem), HK V (b, M, Z, T) [0, 1, 3, 7, 12, 15, 19] σ τ → kA b q1 = 6 ∧ i ≤ 4 → 4 - i < fuel → Wm V X 6 N τ 0 0 13 [(4, .int (nI i)), (1, .int u1), (3, .int u2), (0, .ref a), (2, .ref q1)] [] := by
  intro fuel
  induction fuel with
  | zero => intro i u1 u2 q1 τ h1 hi hm; exact absurd hm (Nat.not_lt_zero _)
  | succ fuel ih =>
    intro i u1 u2 q1 τ h1 hi hm
    obtain ⟨kq1, hi⟩ := hi
    refine m_iload F rfl e_X9_heaviest_13 ?_
    refine m_aload_n F rfl e_X9_heaviest_15 ?_
    refine t_get F e_X9_heaviest_16 fl_X9_16 (fun _ => o1) h1 hk rfl (fun v hv f3318 => ?_)
    obtain ⟨r3319, k3320, rfl⟩ := hv
    refine t_get F e_X9_heaviest_19 fl_X9_358 (fun _ => o7) h1 k3320 rfl (fun v hv f3321 => ?_)
    obtain ⟨n3322, hn3322, rfl⟩ := hv
    replace hn3322 : n3322 ≤ 4 := hn3322
    refine m_icmp_ge F e_X9_heaviest_22 (fun q22 => ?_) (fun q22 => ?_)
    · have c22 : i ≥ n3322 := (nI_leI (a := n3322) (b := i) (by omega) (by omega)).mp q22
      refine m_iload_n F rfl e_X9_heaviest_97 ?_
      exact m_iret F hQ e_X9_heaviest_98 (⟨h1, _, rfl⟩)
    · have c22 : i < n3322 := by have hh := mt (nI_leI (a := n3322) (b := i) (by omega) (by omega)).mpr q22; omega
      refine m_aload_n F rfl e_X9_heaviest_25 ?_
      refine t_getC F e_X9_heaviest_26 fl_X9_16 (fun _ => o1) h1 hk (f3318) ?_
      refine t_get F e_X9_heaviest_29 fl_X9_226 (fun _ => o7) h1 k3320 rfl (fun v hv f3323 => ?_)
      obtain ⟨r3324, k3325, rfl⟩ := hv
      refine m_iload F rfl e_X9_heaviest_32 ?_
      refine t_aald F (len := 4) (j := i) e_X9_heaviest_34 (fun _ => o8) rfl h1 k3325 (nI_clamp (by omega)) (vp_in_nI (by omega) (by decide)) (fun r3326 k3327 => ?_)
      refine m_astore F (lv' := [(5, .ref r3326), (4, .int (nI i)), (1, .int u1), (3, .int u2), (0, .ref a), (2, .ref q1)]) e_X9_heaviest_35 (by decide) rfl ?_
      refine m_aload F rfl e_X9_heaviest_37 ?_
      refine t_get F e_X9_heaviest_39 fl_X9_125 (fun _ => o15) h1 k3327 rfl (fun v hv f3328 => ?_)
      obtain ⟨x3329, rfl⟩ := hv
      refine m_iconst F (v := 1) (by decide) e_X9_heaviest_42 ?_
      refine m_icmp_eq F e_X9_heaviest_43 (fun q43 => ?_) (fun q43 => ?_)
      · refine m_iload_n F rfl e_X9_heaviest_49 ?_
        refine m_bipush F (v := (-2)) (by decide) e_X9_heaviest_50 ?_
        refine m_icmp_eq F e_X9_heaviest_52 (fun q52 => ?_) (fun q52 => ?_)
        · refine m_iload F rfl e_X9_heaviest_73 ?_
          refine m_istore_n F (lv' := [(1, .int (nI i)), (5, .ref r3326), (4, .int (nI i)), (3, .int u2), (0, .ref a), (2, .ref q1)]) e_X9_heaviest_75 (by decide) rfl ?_
          refine m_aload_n F rfl e_X9_heaviest_76 ?_
          refine m_aload F rfl e_X9_heaviest_77 ?_
          refine t_get F e_X9_heaviest_79 fl_X9_151 (fun _ => o15) h1 k3327 rfl (fun v hv f3330 => ?_)
          obtain ⟨r3331, k3332, rfl⟩ := hv
          refine t_callV F e_X9_heaviest_82 (s_X1_copyFrom (x_l X) V b M Z T _ _ q1 r3331 h1.1 kq1 k3332 (by omega)) cb_X1_copyFrom ml_X9_284 im_X1_copyFrom se_X1_copyFrom (fun _ => o6) h1 kq1 rfl rfl (rest := []) rfl (Nat.le_of_ble_eq_true rfl) ⟨Nat.le_of_ble_eq_true rfl, Nat.le_of_ble_eq_true rfl⟩ ⟨Nat.le_of_ble_eq_true rfl, Nat.le_of_ble_eq_true rfl⟩ (fun r σ3333 hp => ?_)
          obtain ⟨h3335, rfl⟩ := hp
          have h3334 := HK.trans h1 h3335 (by decide)
          refine m_aload F rfl e_X9_heaviest_85 ?_
          refine t_callV F e_X9_heaviest_87 (s_X5_left (x_l X) V b M Z T _ _ r3326  h3334.1 k3327  (by omega)) cb_X5_left ml_X9_128 im_X5_left se_X5_left (fun _ => o15) h3334 k3327 rfl rfl (rest := []) rfl (Nat.le_of_ble_eq_true rfl) ⟨Nat.le_of_ble_eq_true rfl, Nat.le_of_ble_eq_true rfl⟩ ⟨Nat.le_of_ble_eq_true rfl, Nat.le_of_ble_eq_true rfl⟩ (fun r σ3336 hp => ?_)
          obtain ⟨h3338, x3339, rfl⟩ := hp
          have h3337 := HK.trans h3334 h3338 (by decide)
          refine m_istore_n F (lv' := [(3, .int x3339), (1, .int (nI i)), (5, .ref r3326), (4, .int (nI i)), (0, .ref a), (2, .ref q1)]) e_X9_heaviest_90 (by decide) rfl ?_
          refine m_iinc F (v := nI (i + 1)) (lv' := [(4, .int (nI (i + 1))), (3, .int x3339), (1, .int (nI i)), (5, .ref r3326), (0, .ref a), (2, .ref q1)]) e_X9_heaviest_91 rfl (nI_add i 1) (by decide) rfl ?_
          refine m_goto F e_X9_heaviest_94 ?_
          refine Wm.lvsub (lv' := [(4, .int (nI (i + 1))), (1, .int (nI i)), (3, .int x3339), (0, .ref a), (2, .ref q1)]) ?_ [0, 2, 1, 4, 5] rfl
          exact ih (i + 1) (nI i) x3339 q1 _ h3337 ⟨kq1, (by omega)⟩ (by omega)
        · refine m_aload F rfl e_X9_heaviest_55 ?_
          refine t_get F e_X9_heaviest_57 fl_X9_151 (fun _ => o15) h1 k3327 rfl (fun v hv f3340 => ?_)
          obtain ⟨r3341, k3342, rfl⟩ := hv
          refine m_aload F rfl e_X9_heaviest_60 ?_
          refine t_callV F e_X9_heaviest_62 (s_X5_left (x_l X) V b M Z T _ _ r3326  h1.1 k3327  (by omega)) cb_X5_left ml_X9_128 im_X5_left se_X5_left (fun _ => o15) h1 k3327 rfl rfl (rest := [.ref r3341]) rfl (Nat.le_of_ble_eq_true rfl) ⟨Nat.le_of_ble_eq_true rfl, Nat.le_of_ble_eq_true rfl⟩ ⟨Nat.le_of_ble_eq_true rfl, Nat.le_of_ble_eq_true rfl⟩ (fun r σ3343 hp => ?_)
          obtain ⟨h3345, x3346, rfl⟩ := hp
          have h3344 := HK.trans h1 h3345 (by decide)
          refine m_aload_n F rfl e_X9_heaviest_65 ?_
          refine m_iload_n F rfl e_X9_heaviest_66 ?_
          refine t_callV F e_X9_heaviest_67 (s_X1_isGreaterShare (x_l X) V b M Z T _ _ r3341 x3346 q1 u2 h3344.1 k3342 kq1 (by omega)) cb_X1_isGreaterShare ml_X9_301 im_X1_isGreaterShare se_X1_isGreaterShare (fun _ => o6) h3344 k3342 rfl rfl (rest := []) rfl (Nat.le_of_ble_eq_true rfl) ⟨Nat.le_of_ble_eq_true rfl, Nat.le_of_ble_eq_true rfl⟩ ⟨Nat.le_of_ble_eq_true rfl, Nat.le_of_ble_eq_true rfl⟩ (fun r σ3347 hp => ?_)
          obtain ⟨h3349, n3350, hn3350, rfl⟩ := hp
          have h3348 := HK.trans h3344 h3349 (by decide)
          refine m_if_eq F e_X9_heaviest_70 (fun q70 => ?_) (fun q70 => ?_)
          · have c70 : n3350 = 0 := (nI_eq (a := n3350) (b := 0) (by omega) (by omega)).mp q70
            refine m_iinc F (v := nI (i + 1)) (lv' := [(4, .int (nI (i + 1))), (5, .ref r3326), (1, .int u1), (3, .int u2), (0, .ref a), (2, .ref q1)]) e_X9_heaviest_91 rfl (nI_add i 1) (by decide) rfl ?_
            refine m_goto F e_X9_heaviest_94 ?_
            refine Wm.lvsub (lv' := [(4, .int (nI (i + 1))), (1, .int u1), (3, .int u2), (0, .ref a), (2, .ref q1)]) ?_ [0, 2, 3, 4, 5] rfl
            exact ih (i + 1) u1 u2 q1 _ h3348 ⟨kq1, (by omega)⟩ (by omega)
          · have c70 : n3350 ≠ 0 := by have hh := mt (nI_eq (a := n3350) (b := 0) (by omega) (by omega)).mpr q70; omega
            refine m_iload F rfl e_X9_heaviest_73 ?_
            refine m_istore_n F (lv' := [(1, .int (nI i)), (5, .ref r3326), (4, .int (nI i)), (3, .int u2), (0, .ref a), (2, .ref q1)]) e_X9_heaviest_75 (by decide) rfl ?_
            refine m_aload_n F rfl e_X9_heaviest_76 ?_
            refine m_aload F rfl e_X9_heaviest_77 ?_
            refine t_getC F e_X9_heaviest_79 fl_X9_151 (fun _ => o15) h3348 k3327 ((fld_eq (h3349.2 r3326 (by rw [show kA _ r3326 = 15 from k3327]; decide))).trans ((fld_eq (h3345.2 r3326 (by rw [show kA _ r3326 = 15 from k3327]; decide))).trans f3340)) ?_
            refine t_callV F e_X9_heaviest_82 (s_X1_copyFrom (x_l X) V b M Z T _ _ q1 r3341 h3348.1 kq1 k3342 (by omega)) cb_X1_copyFrom ml_X9_284 im_X1_copyFrom se_X1_copyFrom (fun _ => o6) h3348 kq1 rfl rfl (rest := []) rfl (Nat.le_of_ble_eq_true rfl) ⟨Nat.le_of_ble_eq_true rfl, Nat.le_of_ble_eq_true rfl⟩ ⟨Nat.le_of_ble_eq_true rfl, Nat.le_of_ble_eq_true rfl⟩ (fun r σ3351 hp => ?_)
            obtain ⟨h3353, rfl⟩ := hp
            have h3352 := HK.trans h3348 h3353 (by decide)
            refine m_aload F rfl e_X9_heaviest_85 ?_
            refine t_callV F e_X9_heaviest_87 (s_X5_left (x_l X) V b M Z T _ _ r3326  h3352.1 k3327  (by omega)) cb_X5_left ml_X9_128 im_X5_left se_X5_left (fun _ => o15) h3352 k3327 rfl rfl (rest := []) rfl (Nat.le_of_ble_eq_true rfl) ⟨Nat.le_of_ble_eq_true rfl, Nat.le_of_ble_eq_true rfl⟩ ⟨Nat.le_of_ble_eq_true rfl, Nat.le_of_ble_eq_true rfl⟩ (fun r σ3354 hp => ?_)
            obtain ⟨h3356, x3357, rfl⟩ := hp
            have h3355 := HK.trans h3352 h3356 (by decide)
            refine m_istore_n F (lv' := [(3, .int x3357), (1, .int (nI i)), (5, .ref r3326), (4, .int (nI i)), (0, .ref a), (2, .ref q1)]) e_X9_heaviest_90 (by decide) rfl ?_
            refine m_iinc F (v := nI (i + 1)) (lv' := [(4, .int (nI (i + 1))), (3, .int x3357), (1, .int (nI i)), (5, .ref r3326), (0, .ref a), (2, .ref q1)]) e_X9_heaviest_91 rfl (nI_add i 1) (by decide) rfl ?_
            refine m_goto F e_X9_heaviest_94 ?_
            refine Wm.lvsub (lv' := [(4, .int (nI (i + 1))), (1, .int (nI i)), (3, .int x3357), (0, .ref a), (2, .ref q1)]) ?_ [0, 2, 1, 4, 5] rfl
            exact ih (i + 1) (nI i) x3357 q1 _ h3355 ⟨kq1, (by omega)⟩ (by omega)
      · refine m_goto F e_X9_heaviest_46 ?_
        refine m_iinc F (v := nI (i + 1)) (lv' := [(4, .int (nI (i + 1))), (5, .ref r3326), (1, .int u1), (3, .int u2), (0, .ref a), (2, .ref q1)]) e_X9_heaviest_91 rfl (nI_add i 1) (by decide) rfl ?_
        refine m_goto F e_X9_heaviest_94 ?_
        refine Wm.lvsub (lv' := [(4, .int (nI (i + 1))), (1, .int u1), (3, .int u2), (0, .ref a), (2, .ref q1)]) ?_ [0, 2, 3, 4, 5] rfl
        exact ih (i + 1) u1 u2 q1 _ h1 ⟨kq1, (by omega)⟩ (by omega)
set_option maxRecDepth 20000 in
theorem s_X9_heaviest (l : Launch) (V : VX) (b M Z T N : Nat) (σ : Mem) (a : Nat) (h0 : HT V (b, M, Z, T) σ) (hk : kA b a = 1) (hM : M + 0 ≤ 1000000000) : Ct l V yX9_heaviest cX9_heaviest 6 (some .int) 1 0 0 N σ [.ref a] (fun r τ => HK V (b, M, Z, T) [0, 1, 3, 7, 12, 15, 19] σ τ ∧ ∃ x : Int32, r = some (.int x)) := by
  refine Ct.of (by decide) (Nat.le_of_ble_eq_true rfl) [(0, .ref a)] rfl (fun X hX F hQ => ?_)
  have h1 : HK V (b, M, Z, T) [0, 1, 3, 7, 12, 15, 19] σ σ := HK.start h0
  refine m_bipush F (v := (-2)) (by decide) e_X9_heaviest_0 ?_
  refine m_istore_n F (lv' := [(1, .int (-2)), (0, .ref a)]) e_X9_heaviest_2 (by decide) rfl ?_
  refine m_aload_n F rfl e_X9_heaviest_3 ?_
  refine t_get F e_X9_heaviest_4 fl_X9_42 (fun _ => o1) h1 hk rfl (fun v hv f3358 => ?_)
  obtain ⟨r3359, k3360, rfl⟩ := hv
  refine m_astore_n F (lv' := [(2, .ref r3359), (1, .int (-2)), (0, .ref a)]) e_X9_heaviest_7 (by decide) rfl ?_
  refine m_iconst F (v := 1) (by decide) e_X9_heaviest_8 ?_
  refine m_istore_n F (lv' := [(3, .int 1), (2, .ref r3359), (1, .int (-2)), (0, .ref a)]) e_X9_heaviest_9 (by decide) rfl ?_
  refine m_iconst F (v := 0) (by decide) e_X9_heaviest_10 ?_
  refine m_istore F (lv' := [(4, .int 0), (3, .int 1), (2, .ref r3359), (1, .int (-2)), (0, .ref a)]) e_X9_heaviest_11 (by decide) rfl ?_
  refine Wm.lvsub (lv' := [(4, .int 0), (1, .int (-2)), (3, .int 1), (0, .ref a), (2, .ref r3359)]) ?_ [0, 3, 1, 4, 2] rfl
  exact lp_X9_heaviest_13 F hQ hk hM (4 - 0 + 1) 0 (-2) 1 r3359 _ h1 ⟨k3360, (by omega)⟩ (Nat.lt_succ_self _)
set_option maxRecDepth 20000 in
theorem lp_X9_chance_92 {V : VX} {X : MX} {b M Z T N : Nat} {σ : Mem} {a : Nat}   (F : Fx V X yX9_chance cX9_chance 13 (some .long) (rmd 7 0 0)) (hQ : Rt V X 0 0 N (fun r τ => HK V (b, M + 7560, Z, T) [0, 1, 3] σ τ ∧ ∃ x : Int64, r = some (.long x))) (hk : kA b a = 1) (hM : M + 7560 ≤ 1000000000)  : ∀ (fuel : Nat) (i : Nat) (c : Nat) (u1 : Int64) (u2 : Int64) (u3 : Int32) (u4 : Int32) (q1 : Nat) (q2 : Nat) (q3 : Nat) (τ : Mem), HK V (b, M + 756 * i, Z, T) [0, 1, 3] σ τ → kA b q1 = 6 ∧ kA b q2 = 6 ∧ kA b q3 = 6 ∧ i ≤ 10 ∧ c ≤ 10 → 10 - i < fuel → Wm V X 13 N τ 0 0 92 [(11, .int (nI i)), (2, .int (nI c)), (4, .long u1), (9, .long u2), (0, .ref a), (1, .int u3), (3, .int u4), (6, .ref q1), (7, .ref q2), (8, .ref q3)] [] := by
  intro fuel
  induction fuel with
  | zero => intro i c u1 u2 u3 u4 q1 q2 q3 τ h1 hi hm; exact absurd hm (Nat.not_lt_zero _)
  | succ fuel ih =>
    intro i c u1 u2 u3 u4 q1 q2 q3 τ h1 hi hm
    obtain ⟨kq1, kq2, kq3, hi⟩ := hi
    refine m_iload F rfl e_X9_chance_92 ?_
    refine m_iload_n F rfl e_X9_chance_94 ?_
    refine m_icmp_ge F e_X9_chance_95 (fun q95 => ?_) (fun q95 => ?_)
    · have c95 : i ≥ c := (nI_leI (a := c) (b := i) (by omega) (by omega)).mp q95
      refine m_iload_n F rfl e_X9_chance_181 ?_
      by_cases hx0 : (u4 : Int32) = 0
      · refine m_lookup F e_X9_chance_182 (by decide) (off := 26) (by rw [hx0]; decide) (tgt := 208) (by decide) ?_
        refine m_lload F rfl e_X9_chance_208 ?_
        exact m_lret F hQ e_X9_chance_210 (⟨(h1.mono (M' := M + 7560) (Z' := Z) (by omega) (by intro e; first | rfl | assumption | omega)), _, rfl⟩)
      by_cases hx1 : (u4 : Int32) = 1
      · refine m_lookup F e_X9_chance_182 (by decide) (off := 29) (by rw [hx1]; decide) (tgt := 211) (by decide) ?_
        refine m_aload F rfl e_X9_chance_211 ?_
        refine t_callV F e_X9_chance_213 (s_X1_asLong (x_l X) V b (M + 756 * i) Z T _ _ q2  h1.1 kq2  (by omega)) cb_X1_asLong ml_X9_157 im_X1_asLong se_X1_asLong (fun _ => o6) h1 kq2 rfl rfl (rest := []) rfl (Nat.le_of_ble_eq_true rfl) ⟨Nat.le_of_ble_eq_true rfl, Nat.le_of_ble_eq_true rfl⟩ ⟨Nat.le_of_ble_eq_true rfl, Nat.le_of_ble_eq_true rfl⟩ (fun r σ3361 hp => ?_)
        obtain ⟨h3363, x3364, rfl⟩ := hp
        have h3362 := HK.trans h1 h3363 (by decide)
        exact m_lret F hQ e_X9_chance_216 (⟨(h3362.mono (M' := M + 7560) (Z' := Z) (by omega) (by intro e; first | rfl | assumption | omega)), _, rfl⟩)
      refine m_lookup F e_X9_chance_182 (by decide) (off := 35) ((lv_osw hx0 (by decide)).trans ((lv_osw hx1 (by decide)).trans (rfl))) (tgt := 217) (by decide) ?_
      refine m_aload F rfl e_X9_chance_217 ?_
      refine t_callV F e_X9_chance_219 (s_X1_asLong (x_l X) V b (M + 756 * i) Z T _ _ q3  h1.1 kq3  (by omega)) cb_X1_asLong ml_X9_157 im_X1_asLong se_X1_asLong (fun _ => o6) h1 kq3 rfl rfl (rest := []) rfl (Nat.le_of_ble_eq_true rfl) ⟨Nat.le_of_ble_eq_true rfl, Nat.le_of_ble_eq_true rfl⟩ ⟨Nat.le_of_ble_eq_true rfl, Nat.le_of_ble_eq_true rfl⟩ (fun r σ3365 hp => ?_)
      obtain ⟨h3367, x3368, rfl⟩ := hp
      have h3366 := HK.trans h1 h3367 (by decide)
      exact m_lret F hQ e_X9_chance_222 (⟨(h3366.mono (M' := M + 7560) (Z' := Z) (by omega) (by intro e; first | rfl | assumption | omega)), _, rfl⟩)
    · have c95 : i < c := by have hh := mt (nI_leI (a := c) (b := i) (by omega) (by omega)).mpr q95; omega
      refine m_aload_n F rfl e_X9_chance_98 ?_
      refine m_iconst F (v := 0) (by decide) e_X9_chance_99 ?_
      refine t_callV F e_X9_chance_100 (s_X9_bookIn (x_l X) V b (M + 756 * i) Z T _ _ a 0 h1.1 hk (by omega) (by omega)) cb_X9_bookIn ml_X9_271 im_X9_bookIn se_X9_bookIn (fun _ => o1) h1 hk rfl rfl (rest := []) rfl (Nat.le_of_ble_eq_true rfl) ⟨Nat.le_of_ble_eq_true rfl, Nat.le_of_ble_eq_true rfl⟩ ⟨Nat.le_of_ble_eq_true rfl, Nat.le_of_ble_eq_true rfl⟩ (fun r σ3369 hp => ?_)
      obtain ⟨h3371, r3372, k3373, rfl⟩ := hp
      have h3370 := HK.trans h1 h3371 (by decide)
      refine m_astore F (lv' := [(12, .ref r3372), (11, .int (nI i)), (2, .int (nI c)), (4, .long u1), (9, .long u2), (0, .ref a), (1, .int u3), (3, .int u4), (6, .ref q1), (7, .ref q2), (8, .ref q3)]) e_X9_chance_103 (by decide) rfl ?_
      refine m_aload F rfl e_X9_chance_105 ?_
      refine m_lload F rfl e_X9_chance_107 ?_
      refine t_callV F e_X9_chance_109 (s_X2_yearByChance (x_l X) V b (M + 756 * i + 648) Z T _ _ r3372 u1 h3370.1 k3373  (by omega)) cb_X2_yearByChance ml_X9_364 im_X2_yearByChance se_X2_yearByChance (fun _ => o7) h3370 k3373 rfl rfl (rest := []) rfl (Nat.le_of_ble_eq_true rfl) ⟨Nat.le_of_ble_eq_true rfl, Nat.le_of_ble_eq_true rfl⟩ ⟨Nat.le_of_ble_eq_true rfl, Nat.le_of_ble_eq_true rfl⟩ (fun r σ3374 hp => ?_)
      obtain ⟨h3376, x3377, rfl⟩ := hp
      have h3375 := HK.trans h3370 h3376 (by decide)
      refine m_lstore F (lv' := [(4, .long x3377), (12, .ref r3372), (11, .int (nI i)), (2, .int (nI c)), (9, .long u2), (0, .ref a), (1, .int u3), (3, .int u4), (6, .ref q1), (7, .ref q2), (8, .ref q3)]) e_X9_chance_112 (by decide) rfl ?_
      refine m_aload F rfl e_X9_chance_114 ?_
      refine m_aload F rfl e_X9_chance_116 ?_
      refine t_callV F e_X9_chance_118 (s_X2_countAllOwed (x_l X) V b (M + 756 * i + 756) Z T _ _ r3372 q1 h3375.1 k3373 kq1 (by omega)) cb_X2_countAllOwed ml_X9_278 im_X2_countAllOwed se_X2_countAllOwed (fun _ => o7) h3375 k3373 rfl rfl (rest := []) rfl (Nat.le_of_ble_eq_true rfl) ⟨Nat.le_of_ble_eq_true rfl, Nat.le_of_ble_eq_true rfl⟩ ⟨Nat.le_of_ble_eq_true rfl, Nat.le_of_ble_eq_true rfl⟩ (fun r σ3378 hp => ?_)
      obtain ⟨h3380, rfl⟩ := hp
      have h3379 := HK.trans h3375 h3380 (by decide)
      refine m_lload F rfl e_X9_chance_121 ?_
      refine m_aload F rfl e_X9_chance_123 ?_
      refine t_callV F e_X9_chance_125 (s_X1_asLong (x_l X) V b (M + 756 * i + 756) Z T _ _ q1  h3379.1 kq1  (by omega)) cb_X1_asLong ml_X9_157 im_X1_asLong se_X1_asLong (fun _ => o6) h3379 kq1 rfl rfl (rest := [.long u2]) rfl (Nat.le_of_ble_eq_true rfl) ⟨Nat.le_of_ble_eq_true rfl, Nat.le_of_ble_eq_true rfl⟩ ⟨Nat.le_of_ble_eq_true rfl, Nat.le_of_ble_eq_true rfl⟩ (fun r σ3381 hp => ?_)
      obtain ⟨h3383, x3384, rfl⟩ := hp
      have h3382 := HK.trans h3379 h3383 (by decide)
      refine m_ladd F e_X9_chance_128 ?_
      refine Wm.topl (fun x3385 _ => ?_)
      refine m_lstore F (lv' := [(9, .long x3385), (4, .long x3377), (12, .ref r3372), (11, .int (nI i)), (2, .int (nI c)), (0, .ref a), (1, .int u3), (3, .int u4), (6, .ref q1), (7, .ref q2), (8, .ref q3)]) e_X9_chance_129 (by decide) rfl ?_
      refine m_iload F rfl e_X9_chance_131 ?_
      refine m_if_eq F e_X9_chance_133 (fun q133 => ?_) (fun q133 => ?_)
      · have c133 : i = 0 := (nI_eq (a := i) (b := 0) (by omega) (by omega)).mp q133
        refine m_aload F rfl e_X9_chance_146 ?_
        refine m_aload F rfl e_X9_chance_148 ?_
        refine t_callV F e_X9_chance_150 (s_X1_copyFrom (x_l X) V b (M + 756 * i + 756) Z T _ _ q2 q1 h3382.1 kq2 kq1 (by omega)) cb_X1_copyFrom ml_X9_284 im_X1_copyFrom se_X1_copyFrom (fun _ => o6) h3382 kq2 rfl rfl (rest := []) rfl (Nat.le_of_ble_eq_true rfl) ⟨Nat.le_of_ble_eq_true rfl, Nat.le_of_ble_eq_true rfl⟩ ⟨Nat.le_of_ble_eq_true rfl, Nat.le_of_ble_eq_true rfl⟩ (fun r σ3386 hp => ?_)
        obtain ⟨h3388, rfl⟩ := hp
        have h3387 := HK.trans h3382 h3388 (by decide)
        refine m_iload F rfl e_X9_chance_153 ?_
        refine m_if_eq F e_X9_chance_155 (fun q155 => ?_) (fun q155 => ?_)
        · have c155 : i = 0 := (nI_eq (a := i) (b := 0) (by omega) (by omega)).mp q155
          refine m_aload F rfl e_X9_chance_168 ?_
          refine m_aload F rfl e_X9_chance_170 ?_
          refine t_callV F e_X9_chance_172 (s_X1_copyFrom (x_l X) V b (M + 756 * i + 756) Z T _ _ q3 q1 h3387.1 kq3 kq1 (by omega)) cb_X1_copyFrom ml_X9_284 im_X1_copyFrom se_X1_copyFrom (fun _ => o6) h3387 kq3 rfl rfl (rest := []) rfl (Nat.le_of_ble_eq_true rfl) ⟨Nat.le_of_ble_eq_true rfl, Nat.le_of_ble_eq_true rfl⟩ ⟨Nat.le_of_ble_eq_true rfl, Nat.le_of_ble_eq_true rfl⟩ (fun r σ3389 hp => ?_)
          obtain ⟨h3391, rfl⟩ := hp
          have h3390 := HK.trans h3387 h3391 (by decide)
          refine m_iinc F (v := nI (i + 1)) (lv' := [(11, .int (nI (i + 1))), (9, .long x3385), (4, .long x3377), (12, .ref r3372), (2, .int (nI c)), (0, .ref a), (1, .int u3), (3, .int u4), (6, .ref q1), (7, .ref q2), (8, .ref q3)]) e_X9_chance_175 rfl (nI_add i 1) (by decide) rfl ?_
          refine m_goto F e_X9_chance_178 ?_
          refine Wm.lvsub (lv' := [(11, .int (nI (i + 1))), (2, .int (nI c)), (4, .long x3377), (9, .long x3385), (0, .ref a), (1, .int u3), (3, .int u4), (6, .ref q1), (7, .ref q2), (8, .ref q3)]) ?_ [0, 4, 2, 1, 5, 6, 7, 8, 9, 10] rfl
          exact ih (i + 1) c x3377 x3385 u3 u4 q1 q2 q3 _ (h3390.mono (M' := M + 756 * (i + 1)) (Z' := Z) (by omega) (by intro e9; first | exact e9 | rfl)) ⟨kq1, kq2, kq3, (by omega)⟩ (by omega)
        · have c155 : i ≠ 0 := by have hh := mt (nI_eq (a := i) (b := 0) (by omega) (by omega)).mpr q155; omega
          refine m_aload F rfl e_X9_chance_158 ?_
          refine m_aload F rfl e_X9_chance_160 ?_
          refine t_callV F e_X9_chance_162 (s_X1_isAbove (x_l X) V b (M + 756 * i + 756) Z T _ _ q3 q1 h3387.1 kq3 kq1 (by omega)) cb_X1_isAbove ml_X9_330 im_X1_isAbove se_X1_isAbove (fun _ => o6) h3387 kq3 rfl rfl (rest := []) rfl (Nat.le_of_ble_eq_true rfl) ⟨Nat.le_of_ble_eq_true rfl, Nat.le_of_ble_eq_true rfl⟩ ⟨Nat.le_of_ble_eq_true rfl, Nat.le_of_ble_eq_true rfl⟩ (fun r σ3392 hp => ?_)
          obtain ⟨h3394, n3395, hn3395, rfl⟩ := hp
          have h3393 := HK.trans h3387 h3394 (by decide)
          refine m_if_eq F e_X9_chance_165 (fun q165 => ?_) (fun q165 => ?_)
          · have c165 : n3395 = 0 := (nI_eq (a := n3395) (b := 0) (by omega) (by omega)).mp q165
            refine m_iinc F (v := nI (i + 1)) (lv' := [(11, .int (nI (i + 1))), (9, .long x3385), (4, .long x3377), (12, .ref r3372), (2, .int (nI c)), (0, .ref a), (1, .int u3), (3, .int u4), (6, .ref q1), (7, .ref q2), (8, .ref q3)]) e_X9_chance_175 rfl (nI_add i 1) (by decide) rfl ?_
            refine m_goto F e_X9_chance_178 ?_
            refine Wm.lvsub (lv' := [(11, .int (nI (i + 1))), (2, .int (nI c)), (4, .long x3377), (9, .long x3385), (0, .ref a), (1, .int u3), (3, .int u4), (6, .ref q1), (7, .ref q2), (8, .ref q3)]) ?_ [0, 4, 2, 1, 5, 6, 7, 8, 9, 10] rfl
            exact ih (i + 1) c x3377 x3385 u3 u4 q1 q2 q3 _ (h3393.mono (M' := M + 756 * (i + 1)) (Z' := Z) (by omega) (by intro e9; first | exact e9 | rfl)) ⟨kq1, kq2, kq3, (by omega)⟩ (by omega)
          · have c165 : n3395 ≠ 0 := by have hh := mt (nI_eq (a := n3395) (b := 0) (by omega) (by omega)).mpr q165; omega
            refine m_aload F rfl e_X9_chance_168 ?_
            refine m_aload F rfl e_X9_chance_170 ?_
            refine t_callV F e_X9_chance_172 (s_X1_copyFrom (x_l X) V b (M + 756 * i + 756) Z T _ _ q3 q1 h3393.1 kq3 kq1 (by omega)) cb_X1_copyFrom ml_X9_284 im_X1_copyFrom se_X1_copyFrom (fun _ => o6) h3393 kq3 rfl rfl (rest := []) rfl (Nat.le_of_ble_eq_true rfl) ⟨Nat.le_of_ble_eq_true rfl, Nat.le_of_ble_eq_true rfl⟩ ⟨Nat.le_of_ble_eq_true rfl, Nat.le_of_ble_eq_true rfl⟩ (fun r σ3396 hp => ?_)
            obtain ⟨h3398, rfl⟩ := hp
            have h3397 := HK.trans h3393 h3398 (by decide)
            refine m_iinc F (v := nI (i + 1)) (lv' := [(11, .int (nI (i + 1))), (9, .long x3385), (4, .long x3377), (12, .ref r3372), (2, .int (nI c)), (0, .ref a), (1, .int u3), (3, .int u4), (6, .ref q1), (7, .ref q2), (8, .ref q3)]) e_X9_chance_175 rfl (nI_add i 1) (by decide) rfl ?_
            refine m_goto F e_X9_chance_178 ?_
            refine Wm.lvsub (lv' := [(11, .int (nI (i + 1))), (2, .int (nI c)), (4, .long x3377), (9, .long x3385), (0, .ref a), (1, .int u3), (3, .int u4), (6, .ref q1), (7, .ref q2), (8, .ref q3)]) ?_ [0, 4, 2, 1, 5, 6, 7, 8, 9, 10] rfl
            exact ih (i + 1) c x3377 x3385 u3 u4 q1 q2 q3 _ (h3397.mono (M' := M + 756 * (i + 1)) (Z' := Z) (by omega) (by intro e9; first | exact e9 | rfl)) ⟨kq1, kq2, kq3, (by omega)⟩ (by omega)
      · have c133 : i ≠ 0 := by have hh := mt (nI_eq (a := i) (b := 0) (by omega) (by omega)).mpr q133; omega
        refine m_aload F rfl e_X9_chance_136 ?_
        refine m_aload F rfl e_X9_chance_138 ?_
        refine t_callV F e_X9_chance_140 (s_X1_isAbove (x_l X) V b (M + 756 * i + 756) Z T _ _ q1 q2 h3382.1 kq1 kq2 (by omega)) cb_X1_isAbove ml_X9_330 im_X1_isAbove se_X1_isAbove (fun _ => o6) h3382 kq1 rfl rfl (rest := []) rfl (Nat.le_of_ble_eq_true rfl) ⟨Nat.le_of_ble_eq_true rfl, Nat.le_of_ble_eq_true rfl⟩ ⟨Nat.le_of_ble_eq_true rfl, Nat.le_of_ble_eq_true rfl⟩ (fun r σ3399 hp => ?_)
        obtain ⟨h3401, n3402, hn3402, rfl⟩ := hp
        have h3400 := HK.trans h3382 h3401 (by decide)
        refine m_if_eq F e_X9_chance_143 (fun q143 => ?_) (fun q143 => ?_)
        · have c143 : n3402 = 0 := (nI_eq (a := n3402) (b := 0) (by omega) (by omega)).mp q143
          refine m_iload F rfl e_X9_chance_153 ?_
          refine m_if_eq F e_X9_chance_155 (fun q155 => ?_) (fun q155 => ?_)
          · have c155 : i = 0 := (nI_eq (a := i) (b := 0) (by omega) (by omega)).mp q155
            refine m_aload F rfl e_X9_chance_168 ?_
            refine m_aload F rfl e_X9_chance_170 ?_
            refine t_callV F e_X9_chance_172 (s_X1_copyFrom (x_l X) V b (M + 756 * i + 756) Z T _ _ q3 q1 h3400.1 kq3 kq1 (by omega)) cb_X1_copyFrom ml_X9_284 im_X1_copyFrom se_X1_copyFrom (fun _ => o6) h3400 kq3 rfl rfl (rest := []) rfl (Nat.le_of_ble_eq_true rfl) ⟨Nat.le_of_ble_eq_true rfl, Nat.le_of_ble_eq_true rfl⟩ ⟨Nat.le_of_ble_eq_true rfl, Nat.le_of_ble_eq_true rfl⟩ (fun r σ3403 hp => ?_)
            obtain ⟨h3405, rfl⟩ := hp
            have h3404 := HK.trans h3400 h3405 (by decide)
            refine m_iinc F (v := nI (i + 1)) (lv' := [(11, .int (nI (i + 1))), (9, .long x3385), (4, .long x3377), (12, .ref r3372), (2, .int (nI c)), (0, .ref a), (1, .int u3), (3, .int u4), (6, .ref q1), (7, .ref q2), (8, .ref q3)]) e_X9_chance_175 rfl (nI_add i 1) (by decide) rfl ?_
            refine m_goto F e_X9_chance_178 ?_
            refine Wm.lvsub (lv' := [(11, .int (nI (i + 1))), (2, .int (nI c)), (4, .long x3377), (9, .long x3385), (0, .ref a), (1, .int u3), (3, .int u4), (6, .ref q1), (7, .ref q2), (8, .ref q3)]) ?_ [0, 4, 2, 1, 5, 6, 7, 8, 9, 10] rfl
            exact ih (i + 1) c x3377 x3385 u3 u4 q1 q2 q3 _ (h3404.mono (M' := M + 756 * (i + 1)) (Z' := Z) (by omega) (by intro e9; first | exact e9 | rfl)) ⟨kq1, kq2, kq3, (by omega)⟩ (by omega)
          · have c155 : i ≠ 0 := by have hh := mt (nI_eq (a := i) (b := 0) (by omega) (by omega)).mpr q155; omega
            refine m_aload F rfl e_X9_chance_158 ?_
            refine m_aload F rfl e_X9_chance_160 ?_
            refine t_callV F e_X9_chance_162 (s_X1_isAbove (x_l X) V b (M + 756 * i + 756) Z T _ _ q3 q1 h3400.1 kq3 kq1 (by omega)) cb_X1_isAbove ml_X9_330 im_X1_isAbove se_X1_isAbove (fun _ => o6) h3400 kq3 rfl rfl (rest := []) rfl (Nat.le_of_ble_eq_true rfl) ⟨Nat.le_of_ble_eq_true rfl, Nat.le_of_ble_eq_true rfl⟩ ⟨Nat.le_of_ble_eq_true rfl, Nat.le_of_ble_eq_true rfl⟩ (fun r σ3406 hp => ?_)
            obtain ⟨h3408, n3409, hn3409, rfl⟩ := hp
            have h3407 := HK.trans h3400 h3408 (by decide)
            refine m_if_eq F e_X9_chance_165 (fun q165 => ?_) (fun q165 => ?_)
            · have c165 : n3409 = 0 := (nI_eq (a := n3409) (b := 0) (by omega) (by omega)).mp q165
              refine m_iinc F (v := nI (i + 1)) (lv' := [(11, .int (nI (i + 1))), (9, .long x3385), (4, .long x3377), (12, .ref r3372), (2, .int (nI c)), (0, .ref a), (1, .int u3), (3, .int u4), (6, .ref q1), (7, .ref q2), (8, .ref q3)]) e_X9_chance_175 rfl (nI_add i 1) (by decide) rfl ?_
              refine m_goto F e_X9_chance_178 ?_
              refine Wm.lvsub (lv' := [(11, .int (nI (i + 1))), (2, .int (nI c)), (4, .long x3377), (9, .long x3385), (0, .ref a), (1, .int u3), (3, .int u4), (6, .ref q1), (7, .ref q2), (8, .ref q3)]) ?_ [0, 4, 2, 1, 5, 6, 7, 8, 9, 10] rfl
              exact ih (i + 1) c x3377 x3385 u3 u4 q1 q2 q3 _ (h3407.mono (M' := M + 756 * (i + 1)) (Z' := Z) (by omega) (by intro e9; first | exact e9 | rfl)) ⟨kq1, kq2, kq3, (by omega)⟩ (by omega)
            · have c165 : n3409 ≠ 0 := by have hh := mt (nI_eq (a := n3409) (b := 0) (by omega) (by omega)).mpr q165; omega
              refine m_aload F rfl e_X9_chance_168 ?_
              refine m_aload F rfl e_X9_chance_170 ?_
              refine t_callV F e_X9_chance_172 (s_X1_copyFrom (x_l X) V b (M + 756 * i + 756) Z T _ _ q3 q1 h3407.1 kq3 kq1 (by omega)) cb_X1_copyFrom ml_X9_284 im_X1_copyFrom se_X1_copyFrom (fun _ => o6) h3407 kq3 rfl rfl (rest := []) rfl (Nat.le_of_ble_eq_true rfl) ⟨Nat.le_of_ble_eq_true rfl, Nat.le_of_ble_eq_true rfl⟩ ⟨Nat.le_of_ble_eq_true rfl, Nat.le_of_ble_eq_true rfl⟩ (fun r σ3410 hp => ?_)
              obtain ⟨h3412, rfl⟩ := hp
              have h3411 := HK.trans h3407 h3412 (by decide)
              refine m_iinc F (v := nI (i + 1)) (lv' := [(11, .int (nI (i + 1))), (9, .long x3385), (4, .long x3377), (12, .ref r3372), (2, .int (nI c)), (0, .ref a), (1, .int u3), (3, .int u4), (6, .ref q1), (7, .ref q2), (8, .ref q3)]) e_X9_chance_175 rfl (nI_add i 1) (by decide) rfl ?_
              refine m_goto F e_X9_chance_178 ?_
              refine Wm.lvsub (lv' := [(11, .int (nI (i + 1))), (2, .int (nI c)), (4, .long x3377), (9, .long x3385), (0, .ref a), (1, .int u3), (3, .int u4), (6, .ref q1), (7, .ref q2), (8, .ref q3)]) ?_ [0, 4, 2, 1, 5, 6, 7, 8, 9, 10] rfl
              exact ih (i + 1) c x3377 x3385 u3 u4 q1 q2 q3 _ (h3411.mono (M' := M + 756 * (i + 1)) (Z' := Z) (by omega) (by intro e9; first | exact e9 | rfl)) ⟨kq1, kq2, kq3, (by omega)⟩ (by omega)
        · have c143 : n3402 ≠ 0 := by have hh := mt (nI_eq (a := n3402) (b := 0) (by omega) (by omega)).mpr q143; omega
          refine m_aload F rfl e_X9_chance_146 ?_
          refine m_aload F rfl e_X9_chance_148 ?_
          refine t_callV F e_X9_chance_150 (s_X1_copyFrom (x_l X) V b (M + 756 * i + 756) Z T _ _ q2 q1 h3400.1 kq2 kq1 (by omega)) cb_X1_copyFrom ml_X9_284 im_X1_copyFrom se_X1_copyFrom (fun _ => o6) h3400 kq2 rfl rfl (rest := []) rfl (Nat.le_of_ble_eq_true rfl) ⟨Nat.le_of_ble_eq_true rfl, Nat.le_of_ble_eq_true rfl⟩ ⟨Nat.le_of_ble_eq_true rfl, Nat.le_of_ble_eq_true rfl⟩ (fun r σ3413 hp => ?_)
          obtain ⟨h3415, rfl⟩ := hp
          have h3414 := HK.trans h3400 h3415 (by decide)
          refine m_iload F rfl e_X9_chance_153 ?_
          refine m_if_eq F e_X9_chance_155 (fun q155 => ?_) (fun q155 => ?_)
          · have c155 : i = 0 := (nI_eq (a := i) (b := 0) (by omega) (by omega)).mp q155
            refine m_aload F rfl e_X9_chance_168 ?_
            refine m_aload F rfl e_X9_chance_170 ?_
            refine t_callV F e_X9_chance_172 (s_X1_copyFrom (x_l X) V b (M + 756 * i + 756) Z T _ _ q3 q1 h3414.1 kq3 kq1 (by omega)) cb_X1_copyFrom ml_X9_284 im_X1_copyFrom se_X1_copyFrom (fun _ => o6) h3414 kq3 rfl rfl (rest := []) rfl (Nat.le_of_ble_eq_true rfl) ⟨Nat.le_of_ble_eq_true rfl, Nat.le_of_ble_eq_true rfl⟩ ⟨Nat.le_of_ble_eq_true rfl, Nat.le_of_ble_eq_true rfl⟩ (fun r σ3416 hp => ?_)
            obtain ⟨h3418, rfl⟩ := hp
            have h3417 := HK.trans h3414 h3418 (by decide)
            refine m_iinc F (v := nI (i + 1)) (lv' := [(11, .int (nI (i + 1))), (9, .long x3385), (4, .long x3377), (12, .ref r3372), (2, .int (nI c)), (0, .ref a), (1, .int u3), (3, .int u4), (6, .ref q1), (7, .ref q2), (8, .ref q3)]) e_X9_chance_175 rfl (nI_add i 1) (by decide) rfl ?_
            refine m_goto F e_X9_chance_178 ?_
            refine Wm.lvsub (lv' := [(11, .int (nI (i + 1))), (2, .int (nI c)), (4, .long x3377), (9, .long x3385), (0, .ref a), (1, .int u3), (3, .int u4), (6, .ref q1), (7, .ref q2), (8, .ref q3)]) ?_ [0, 4, 2, 1, 5, 6, 7, 8, 9, 10] rfl
            exact ih (i + 1) c x3377 x3385 u3 u4 q1 q2 q3 _ (h3417.mono (M' := M + 756 * (i + 1)) (Z' := Z) (by omega) (by intro e9; first | exact e9 | rfl)) ⟨kq1, kq2, kq3, (by omega)⟩ (by omega)
          · have c155 : i ≠ 0 := by have hh := mt (nI_eq (a := i) (b := 0) (by omega) (by omega)).mpr q155; omega
            refine m_aload F rfl e_X9_chance_158 ?_
            refine m_aload F rfl e_X9_chance_160 ?_
            refine t_callV F e_X9_chance_162 (s_X1_isAbove (x_l X) V b (M + 756 * i + 756) Z T _ _ q3 q1 h3414.1 kq3 kq1 (by omega)) cb_X1_isAbove ml_X9_330 im_X1_isAbove se_X1_isAbove (fun _ => o6) h3414 kq3 rfl rfl (rest := []) rfl (Nat.le_of_ble_eq_true rfl) ⟨Nat.le_of_ble_eq_true rfl, Nat.le_of_ble_eq_true rfl⟩ ⟨Nat.le_of_ble_eq_true rfl, Nat.le_of_ble_eq_true rfl⟩ (fun r σ3419 hp => ?_)
            obtain ⟨h3421, n3422, hn3422, rfl⟩ := hp
            have h3420 := HK.trans h3414 h3421 (by decide)
            refine m_if_eq F e_X9_chance_165 (fun q165 => ?_) (fun q165 => ?_)
            · have c165 : n3422 = 0 := (nI_eq (a := n3422) (b := 0) (by omega) (by omega)).mp q165
              refine m_iinc F (v := nI (i + 1)) (lv' := [(11, .int (nI (i + 1))), (9, .long x3385), (4, .long x3377), (12, .ref r3372), (2, .int (nI c)), (0, .ref a), (1, .int u3), (3, .int u4), (6, .ref q1), (7, .ref q2), (8, .ref q3)]) e_X9_chance_175 rfl (nI_add i 1) (by decide) rfl ?_
              refine m_goto F e_X9_chance_178 ?_
              refine Wm.lvsub (lv' := [(11, .int (nI (i + 1))), (2, .int (nI c)), (4, .long x3377), (9, .long x3385), (0, .ref a), (1, .int u3), (3, .int u4), (6, .ref q1), (7, .ref q2), (8, .ref q3)]) ?_ [0, 4, 2, 1, 5, 6, 7, 8, 9, 10] rfl
              exact ih (i + 1) c x3377 x3385 u3 u4 q1 q2 q3 _ (h3420.mono (M' := M + 756 * (i + 1)) (Z' := Z) (by omega) (by intro e9; first | exact e9 | rfl)) ⟨kq1, kq2, kq3, (by omega)⟩ (by omega)
            · have c165 : n3422 ≠ 0 := by have hh := mt (nI_eq (a := n3422) (b := 0) (by omega) (by omega)).mpr q165; omega
              refine m_aload F rfl e_X9_chance_168 ?_
              refine m_aload F rfl e_X9_chance_170 ?_
              refine t_callV F e_X9_chance_172 (s_X1_copyFrom (x_l X) V b (M + 756 * i + 756) Z T _ _ q3 q1 h3420.1 kq3 kq1 (by omega)) cb_X1_copyFrom ml_X9_284 im_X1_copyFrom se_X1_copyFrom (fun _ => o6) h3420 kq3 rfl rfl (rest := []) rfl (Nat.le_of_ble_eq_true rfl) ⟨Nat.le_of_ble_eq_true rfl, Nat.le_of_ble_eq_true rfl⟩ ⟨Nat.le_of_ble_eq_true rfl, Nat.le_of_ble_eq_true rfl⟩ (fun r σ3423 hp => ?_)
              obtain ⟨h3425, rfl⟩ := hp
              have h3424 := HK.trans h3420 h3425 (by decide)
              refine m_iinc F (v := nI (i + 1)) (lv' := [(11, .int (nI (i + 1))), (9, .long x3385), (4, .long x3377), (12, .ref r3372), (2, .int (nI c)), (0, .ref a), (1, .int u3), (3, .int u4), (6, .ref q1), (7, .ref q2), (8, .ref q3)]) e_X9_chance_175 rfl (nI_add i 1) (by decide) rfl ?_
              refine m_goto F e_X9_chance_178 ?_
              refine Wm.lvsub (lv' := [(11, .int (nI (i + 1))), (2, .int (nI c)), (4, .long x3377), (9, .long x3385), (0, .ref a), (1, .int u3), (3, .int u4), (6, .ref q1), (7, .ref q2), (8, .ref q3)]) ?_ [0, 4, 2, 1, 5, 6, 7, 8, 9, 10] rfl
              exact ih (i + 1) c x3377 x3385 u3 u4 q1 q2 q3 _ (h3424.mono (M' := M + 756 * (i + 1)) (Z' := Z) (by omega) (by intro e9; first | exact e9 | rfl)) ⟨kq1, kq2, kq3, (by omega)⟩ (by omega)
set_option maxRecDepth 20000 in
theorem s_X9_chance (l : Launch) (V : VX) (b M Z T N : Nat) (σ : Mem) (a : Nat) (x901 : Int32) (x902 : Int32) (x903 : Int32) (h0 : HT V (b, M, Z, T) σ) (hk : kA b a = 1) (hM : M + 7560 ≤ 1000000000) : Ct l V yX9_chance cX9_chance 13 (some .long) 7 0 0 N σ [.ref a, .int x901, .int x902, .int x903] (fun r τ => HK V (b, M + 7560, Z, T) [0, 1, 3] σ τ ∧ ∃ x : Int64, r = some (.long x)) := by
  refine Ct.of (by decide) (Nat.le_of_ble_eq_true rfl) [(0, .ref a), (1, .int x901), (2, .int x902), (3, .int x903)] rfl (fun X hX F hQ => ?_)
  have h1 : HK V (b, M, Z, T) [0, 1, 3] σ σ := HK.start h0
  refine m_iload_n F rfl e_X9_chance_0 ?_
  refine m_iconst F (v := (-1)) (by decide) e_X9_chance_1 ?_
  refine m_icmp_lt F e_X9_chance_2 (fun q2 => ?_) (fun q2 => ?_)
  · refine m_ldc2 F kc_X9_149 e_X9_chance_25 ?_
    exact m_lret F hQ e_X9_chance_28 (⟨(h1.mono (M' := M + 7560) (Z' := Z) (by omega) (by intro e; first | rfl | assumption | omega)), _, rfl⟩)
  · refine m_iload_n F rfl e_X9_chance_5 ?_
    refine m_iconst F (v := 1) (by decide) e_X9_chance_6 ?_
    refine m_icmp_lt F e_X9_chance_7 (fun q7 => ?_) (fun q7 => ?_)
    · refine m_ldc2 F kc_X9_149 e_X9_chance_25 ?_
      exact m_lret F hQ e_X9_chance_28 (⟨(h1.mono (M' := M + 7560) (Z' := Z) (by omega) (by intro e; first | rfl | assumption | omega)), _, rfl⟩)
    · obtain ⟨n3426, hn3426, rfl⟩ := nI_nn (x := x902) (fun e => q7 (Int32.lt_of_lt_of_le e (by decide)))
      have c7 : n3426 ≥ 1 := by have hh := mt (nI_ltI (a := n3426) (b := 1) (by omega) (by omega)).mpr q7; omega
      refine m_iload_n F rfl e_X9_chance_10 ?_
      refine m_bipush F (v := 10) (by decide) e_X9_chance_11 ?_
      refine m_icmp_gt F e_X9_chance_13 (fun q13 => ?_) (fun q13 => ?_)
      · have c13 : n3426 > 10 := (nI_ltI (a := 10) (b := n3426) (by omega) (by omega)).mp q13
        refine m_ldc2 F kc_X9_149 e_X9_chance_25 ?_
        exact m_lret F hQ e_X9_chance_28 (⟨(h1.mono (M' := M + 7560) (Z' := Z) (by omega) (by intro e; first | rfl | assumption | omega)), _, rfl⟩)
      · have c13 : n3426 ≤ 10 := by have hh := mt (nI_ltI (a := 10) (b := n3426) (by omega) (by omega)).mpr q13; omega
        refine m_iload_n F rfl e_X9_chance_16 ?_
        refine m_if_lt F e_X9_chance_17 (fun q17 => ?_) (fun q17 => ?_)
        · refine m_ldc2 F kc_X9_149 e_X9_chance_25 ?_
          exact m_lret F hQ e_X9_chance_28 (⟨(h1.mono (M' := M + 7560) (Z' := Z) (by omega) (by intro e; first | rfl | assumption | omega)), _, rfl⟩)
        · obtain ⟨n3427, hn3427, rfl⟩ := nI_nn (x := x903) (fun e => q17 (Int32.lt_of_lt_of_le e (by decide)))
          have c17 : n3427 ≥ 0 := by have hh := mt (nI_ltI (a := n3427) (b := 0) (by omega) (by omega)).mpr q17; omega
          refine m_iload_n F rfl e_X9_chance_20 ?_
          refine m_iconst F (v := 2) (by decide) e_X9_chance_21 ?_
          refine m_icmp_le F e_X9_chance_22 (fun q22 => ?_) (fun q22 => ?_)
          · have c22 : n3427 ≤ 2 := (nI_leI (a := n3427) (b := 2) (by omega) (by omega)).mp q22
            refine m_aload_n F rfl e_X9_chance_29 ?_
            refine t_get F e_X9_chance_30 fl_X9_16 (fun _ => o1) h1 hk rfl (fun v hv f3428 => ?_)
            obtain ⟨r3429, k3430, rfl⟩ := hv
            refine t_get F e_X9_chance_33 fl_X9_94 (fun _ => o7) h1 k3430 rfl (fun v hv f3431 => ?_)
            obtain ⟨n3432, hn3432, rfl⟩ := hv
            replace hn3432 : n3432 ≤ M := hn3432
            refine m_bipush F (v := 12) (by decide) e_X9_chance_36 ?_
            refine m_iadd F e_X9_chance_38 ?_
            refine Wm.topE (w := nI (n3432 + 12)) (nI_add n3432 12) ?_
            refine m_bipush F (v := 99) (by decide) e_X9_chance_39 ?_
            refine m_icmp_le F e_X9_chance_41 (fun q41 => ?_) (fun q41 => ?_)
            · have c41 : (n3432 + 12) ≤ 99 := (nI_leI (a := (n3432 + 12)) (b := 99) (by omega) (by omega)).mp q41
              refine m_iload_n F rfl e_X9_chance_48 ?_
              refine m_iconst F (v := (-1)) (by decide) e_X9_chance_49 ?_
              refine m_icmp_ne F e_X9_chance_50 (fun q50 => ?_) (fun q50 => ?_)
              · refine m_iload_n F rfl e_X9_chance_64 ?_
                refine m_i2l F e_X9_chance_65 ?_
                refine Wm.topl (fun x3433 _ => ?_)
                refine m_lstore F (lv' := [(4, .long x3433), (0, .ref a), (1, .int x901), (2, .int (nI n3426)), (3, .int (nI n3427))]) e_X9_chance_66 (by decide) rfl ?_
                refine m_aload_n F rfl e_X9_chance_68 ?_
                refine t_get F e_X9_chance_69 fl_X9_42 (fun _ => o1) h1 hk rfl (fun v hv f3434 => ?_)
                obtain ⟨r3435, k3436, rfl⟩ := hv
                refine m_astore F (lv' := [(6, .ref r3435), (4, .long x3433), (0, .ref a), (1, .int x901), (2, .int (nI n3426)), (3, .int (nI n3427))]) e_X9_chance_72 (by decide) rfl ?_
                refine m_aload_n F rfl e_X9_chance_74 ?_
                refine t_get F e_X9_chance_75 fl_X9_46 (fun _ => o1) h1 hk rfl (fun v hv f3437 => ?_)
                obtain ⟨r3438, k3439, rfl⟩ := hv
                refine m_astore F (lv' := [(7, .ref r3438), (6, .ref r3435), (4, .long x3433), (0, .ref a), (1, .int x901), (2, .int (nI n3426)), (3, .int (nI n3427))]) e_X9_chance_78 (by decide) rfl ?_
                refine m_aload_n F rfl e_X9_chance_80 ?_
                refine t_get F e_X9_chance_81 fl_X9_49 (fun _ => o1) h1 hk rfl (fun v hv f3440 => ?_)
                obtain ⟨r3441, k3442, rfl⟩ := hv
                refine m_astore F (lv' := [(8, .ref r3441), (7, .ref r3438), (6, .ref r3435), (4, .long x3433), (0, .ref a), (1, .int x901), (2, .int (nI n3426)), (3, .int (nI n3427))]) e_X9_chance_84 (by decide) rfl ?_
                refine m_lconst F (v := 0) (by decide) e_X9_chance_86 ?_
                refine m_lstore F (lv' := [(9, .long 0), (8, .ref r3441), (7, .ref r3438), (6, .ref r3435), (4, .long x3433), (0, .ref a), (1, .int x901), (2, .int (nI n3426)), (3, .int (nI n3427))]) e_X9_chance_87 (by decide) rfl ?_
                refine m_iconst F (v := 0) (by decide) e_X9_chance_89 ?_
                refine m_istore F (lv' := [(11, .int 0), (9, .long 0), (8, .ref r3441), (7, .ref r3438), (6, .ref r3435), (4, .long x3433), (0, .ref a), (1, .int x901), (2, .int (nI n3426)), (3, .int (nI n3427))]) e_X9_chance_90 (by decide) rfl ?_
                refine Wm.lvsub (lv' := [(11, .int 0), (2, .int (nI n3426)), (4, .long x3433), (9, .long 0), (0, .ref a), (1, .int x901), (3, .int (nI n3427)), (6, .ref r3435), (7, .ref r3438), (8, .ref r3441)]) ?_ [0, 8, 5, 1, 6, 7, 9, 4, 3, 2] rfl
                exact lp_X9_chance_92 F hQ hk hM (10 - 0 + 1) 0 n3426 x3433 0 x901 (nI n3427) r3435 r3438 r3441 _ (h1.mono (M' := M + 756 * 0) (Z' := Z) (by omega) (by intro e9; first | exact e9 | rfl)) ⟨k3436, k3439, k3442, (by omega)⟩ (Nat.lt_succ_self _)
              · refine m_aload_n F rfl e_X9_chance_53 ?_
                refine t_getC F e_X9_chance_54 fl_X9_16 (fun _ => o1) h1 hk (f3428) ?_
                refine t_get F e_X9_chance_57 fl_X9_361 (fun _ => o7) h1 k3430 rfl (fun v hv f3443 => ?_)
                obtain ⟨x3444, rfl⟩ := hv
                refine m_i2l F e_X9_chance_60 ?_
                refine Wm.topl (fun x3445 _ => ?_)
                refine m_goto F e_X9_chance_61 ?_
                refine m_lstore F (lv' := [(4, .long x3445), (0, .ref a), (1, .int x901), (2, .int (nI n3426)), (3, .int (nI n3427))]) e_X9_chance_66 (by decide) rfl ?_
                refine m_aload_n F rfl e_X9_chance_68 ?_
                refine t_get F e_X9_chance_69 fl_X9_42 (fun _ => o1) h1 hk rfl (fun v hv f3446 => ?_)
                obtain ⟨r3447, k3448, rfl⟩ := hv
                refine m_astore F (lv' := [(6, .ref r3447), (4, .long x3445), (0, .ref a), (1, .int x901), (2, .int (nI n3426)), (3, .int (nI n3427))]) e_X9_chance_72 (by decide) rfl ?_
                refine m_aload_n F rfl e_X9_chance_74 ?_
                refine t_get F e_X9_chance_75 fl_X9_46 (fun _ => o1) h1 hk rfl (fun v hv f3449 => ?_)
                obtain ⟨r3450, k3451, rfl⟩ := hv
                refine m_astore F (lv' := [(7, .ref r3450), (6, .ref r3447), (4, .long x3445), (0, .ref a), (1, .int x901), (2, .int (nI n3426)), (3, .int (nI n3427))]) e_X9_chance_78 (by decide) rfl ?_
                refine m_aload_n F rfl e_X9_chance_80 ?_
                refine t_get F e_X9_chance_81 fl_X9_49 (fun _ => o1) h1 hk rfl (fun v hv f3452 => ?_)
                obtain ⟨r3453, k3454, rfl⟩ := hv
                refine m_astore F (lv' := [(8, .ref r3453), (7, .ref r3450), (6, .ref r3447), (4, .long x3445), (0, .ref a), (1, .int x901), (2, .int (nI n3426)), (3, .int (nI n3427))]) e_X9_chance_84 (by decide) rfl ?_
                refine m_lconst F (v := 0) (by decide) e_X9_chance_86 ?_
                refine m_lstore F (lv' := [(9, .long 0), (8, .ref r3453), (7, .ref r3450), (6, .ref r3447), (4, .long x3445), (0, .ref a), (1, .int x901), (2, .int (nI n3426)), (3, .int (nI n3427))]) e_X9_chance_87 (by decide) rfl ?_
                refine m_iconst F (v := 0) (by decide) e_X9_chance_89 ?_
                refine m_istore F (lv' := [(11, .int 0), (9, .long 0), (8, .ref r3453), (7, .ref r3450), (6, .ref r3447), (4, .long x3445), (0, .ref a), (1, .int x901), (2, .int (nI n3426)), (3, .int (nI n3427))]) e_X9_chance_90 (by decide) rfl ?_
                refine Wm.lvsub (lv' := [(11, .int 0), (2, .int (nI n3426)), (4, .long x3445), (9, .long 0), (0, .ref a), (1, .int x901), (3, .int (nI n3427)), (6, .ref r3447), (7, .ref r3450), (8, .ref r3453)]) ?_ [0, 8, 5, 1, 6, 7, 9, 4, 3, 2] rfl
                exact lp_X9_chance_92 F hQ hk hM (10 - 0 + 1) 0 n3426 x3445 0 x901 (nI n3427) r3447 r3450 r3453 _ (h1.mono (M' := M + 756 * 0) (Z' := Z) (by omega) (by intro e9; first | exact e9 | rfl)) ⟨k3448, k3451, k3454, (by omega)⟩ (Nat.lt_succ_self _)
            · have c41 : (n3432 + 12) > 99 := by have hh := mt (nI_leI (a := (n3432 + 12)) (b := 99) (by omega) (by omega)).mpr q41; omega
              refine m_ldc2 F kc_X9_318 e_X9_chance_44 ?_
              exact m_lret F hQ e_X9_chance_47 (⟨(h1.mono (M' := M + 7560) (Z' := Z) (by omega) (by intro e; first | rfl | assumption | omega)), _, rfl⟩)
          · have c22 : n3427 > 2 := by have hh := mt (nI_leI (a := n3427) (b := 2) (by omega) (by omega)).mpr q22; omega
            refine m_ldc2 F kc_X9_149 e_X9_chance_25 ?_
            exact m_lret F hQ e_X9_chance_28 (⟨(h1.mono (M' := M + 7560) (Z' := Z) (by omega) (by intro e; first | rfl | assumption | omega)), _, rfl⟩)
set_option maxRecDepth 20000 in
theorem s_X9_undo (l : Launch) (V : VX) (b M Z T N : Nat) (σ : Mem) (a : Nat) (h0 : HT V (b, M, Z, T) σ) (hk : kA b a = 1) (hM : M + 0 ≤ 1000000000) : Ct l V yX9_undo cX9_undo 1 (some .int) 4 0 0 N σ [.ref a] (fun r τ => HK V (b, M, Z, T) [0, 3] σ τ ∧ ∃ x : Int32, r = some (.int x)) := by
  refine Ct.of (by decide) (Nat.le_of_ble_eq_true rfl) [(0, .ref a)] rfl (fun X hX F hQ => ?_)
  have h1 : HK V (b, M, Z, T) [0, 3] σ σ := HK.start h0
  refine m_aload_n F rfl e_X9_undo_0 ?_
  refine t_get F e_X9_undo_1 fl_X9_368 (fun _ => o1) h1 hk rfl (fun v hv f3455 => ?_)
  obtain ⟨n3456, hn3456, rfl⟩ := hv
  replace hn3456 : n3456 ≤ 20 := hn3456
  refine m_iconst F (v := 1) (by decide) e_X9_undo_4 ?_
  refine m_icmp_ge F e_X9_undo_5 (fun q5 => ?_) (fun q5 => ?_)
  · have c5 : n3456 ≥ 1 := (nI_leI (a := 1) (b := n3456) (by omega) (by omega)).mp q5
    refine m_aload_n F rfl e_X9_undo_10 ?_
    refine t_get F e_X9_undo_11 fl_X9_16 (fun _ => o1) h1 hk rfl (fun v hv f3457 => ?_)
    obtain ⟨r3458, k3459, rfl⟩ := hv
    refine m_aload_n F rfl e_X9_undo_14 ?_
    refine t_get F e_X9_undo_15 fl_X9_35 (fun _ => o1) h1 hk rfl (fun v hv f3460 => ?_)
    obtain ⟨r3461, k3462, rfl⟩ := hv
    refine m_aload_n F rfl e_X9_undo_18 ?_
    refine t_get F e_X9_undo_19 fl_X9_371 (fun _ => o1) h1 hk rfl (fun v hv f3463 => ?_)
    obtain ⟨n3464, hn3464, rfl⟩ := hv
    replace hn3464 : n3464 ≤ 19 := hn3464
    refine m_aload_n F rfl e_X9_undo_22 ?_
    refine t_getC F e_X9_undo_23 fl_X9_368 (fun _ => o1) h1 hk (f3455) ?_
    refine m_iadd F e_X9_undo_26 ?_
    refine Wm.topE (w := nI (n3464 + n3456)) (nI_add n3464 n3456) ?_
    refine m_iconst F (v := 1) (by decide) e_X9_undo_27 ?_
    refine m_isub F e_X9_undo_28 ?_
    refine Wm.topE (w := nI ((n3464 + n3456) - 1)) (pk_sub (a := n3464 + n3456) (b := 1) (by omega)) ?_
    refine m_bipush F (v := 20) (by decide) e_X9_undo_29 ?_
    refine m_irem F (by decide) e_X9_undo_31 ?_
    refine Wm.topE (w := nI (((n3464 + n3456) - 1) % 20)) (pk_rem (a := (n3464 + n3456) - 1) (d := 20) (by omega) (by decide) (by decide)) ?_
    refine t_aald F (len := 20) (j := ((n3464 + n3456) - 1) % 20) e_X9_undo_32 (fun _ => o5) rfl h1 k3462 (nI_clamp (by omega)) (vp_in_nI (by omega) (by decide)) (fun r3465 k3466 => ?_)
    refine t_callV F e_X9_undo_33 (s_X2_copyFrom (x_l X) V b M Z T _ _ r3458 r3465 h1.1 k3459 k3466 (by omega)) cb_X2_copyFrom ml_X9_374 im_X2_copyFrom se_X2_copyFrom (fun _ => o7) h1 k3459 rfl rfl (rest := []) rfl (Nat.le_of_ble_eq_true rfl) ⟨Nat.le_of_ble_eq_true rfl, Nat.le_of_ble_eq_true rfl⟩ ⟨Nat.le_of_ble_eq_true rfl, Nat.le_of_ble_eq_true rfl⟩ (fun r σ3467 hp => ?_)
    obtain ⟨h3469, rfl⟩ := hp
    have h3468 := HK.trans h1 h3469 (by decide)
    refine m_aload_n F rfl e_X9_undo_36 ?_
    refine m_dup F rfl e_X9_undo_37 ?_
    refine t_getC F e_X9_undo_38 fl_X9_368 (fun _ => o1) h3468 hk ((fld_eq (h3469.2 a (by rw [show kA _ a = 1 from hk]; decide))).trans f3455) ?_
    refine m_iconst F (v := 1) (by decide) e_X9_undo_41 ?_
    refine m_isub F e_X9_undo_42 ?_
    refine Wm.topE (w := nI (n3456 - 1)) (pk_sub (a := n3456) (b := 1) (by omega)) ?_
    refine t_put F e_X9_undo_43 fp_X9_368 (fun _ => o1) h3468 hk rfl ⟨n3456 - 1, (show n3456 - 1 ≤ 20 by omega), rfl⟩ rfl rfl (by decide) (fun σ3470 h3471 g3472 g3473 f3474 => ?_)
    refine m_aload_n F rfl e_X9_undo_46 ?_
    refine t_getC F e_X9_undo_47 fl_X9_368 (fun _ => o1) h3471 hk (f3474) ?_
    exact m_iret F hQ e_X9_undo_50 (⟨h3471, _, rfl⟩)
  · have c5 : n3456 < 1 := by have hh := mt (nI_leI (a := 1) (b := n3456) (by omega) (by omega)).mpr q5; omega
    refine m_iconst F (v := (-1)) (by decide) e_X9_undo_8 ?_
    exact m_iret F hQ e_X9_undo_9 (⟨h1, _, rfl⟩)
set_option maxRecDepth 20000 in
theorem s_X9_keep (l : Launch) (V : VX) (b M Z T N : Nat) (σ : Mem) (a : Nat) (h0 : HT V (b, M, Z, T) σ) (hk : kA b a = 1) (hM : M + 0 ≤ 1000000000) : Ct l V yX9_keep cX9_keep 1 (some .int) 4 0 0 N σ [.ref a] (fun r τ => HK V (b, M, Z, T) [0, 3] σ τ ∧ ∃ x : Int32, r = some (.int x)) := by
  refine Ct.of (by decide) (Nat.le_of_ble_eq_true rfl) [(0, .ref a)] rfl (fun X hX F hQ => ?_)
  have h1 : HK V (b, M, Z, T) [0, 3] σ σ := HK.start h0
  refine m_aload_n F rfl e_X9_keep_0 ?_
  refine t_get F e_X9_keep_1 fl_X9_32 (fun _ => o1) h1 hk rfl (fun v hv f3475 => ?_)
  obtain ⟨r3476, k3477, rfl⟩ := hv
  refine m_aload_n F rfl e_X9_keep_4 ?_
  refine t_get F e_X9_keep_5 fl_X9_16 (fun _ => o1) h1 hk rfl (fun v hv f3478 => ?_)
  obtain ⟨r3479, k3480, rfl⟩ := hv
  refine t_callV F e_X9_keep_8 (s_X2_copyFrom (x_l X) V b M Z T _ _ r3476 r3479 h1.1 k3477 k3480 (by omega)) cb_X2_copyFrom ml_X9_374 im_X2_copyFrom se_X2_copyFrom (fun _ => o7) h1 k3477 rfl rfl (rest := []) rfl (Nat.le_of_ble_eq_true rfl) ⟨Nat.le_of_ble_eq_true rfl, Nat.le_of_ble_eq_true rfl⟩ ⟨Nat.le_of_ble_eq_true rfl, Nat.le_of_ble_eq_true rfl⟩ (fun r σ3481 hp => ?_)
  obtain ⟨h3483, rfl⟩ := hp
  have h3482 := HK.trans h1 h3483 (by decide)
  refine m_aload_n F rfl e_X9_keep_11 ?_
  refine m_iconst F (v := 1) (by decide) e_X9_keep_12 ?_
  refine t_put F e_X9_keep_13 fp_X9_77 (fun _ => o1) h3482 hk rfl ⟨1, (show 1 ≤ 1 by omega), rfl⟩ (by decide) rfl (by decide) (fun σ3484 h3485 g3486 g3487 f3488 => ?_)
  refine m_aload_n F rfl e_X9_keep_16 ?_
  refine t_getC F e_X9_keep_17 fl_X9_16 (fun _ => o1) h3485 hk ((g3487 2 (by decide)).trans ((fld_eq (h3483.2 a (by rw [show kA _ a = 1 from hk]; decide))).trans f3478)) ?_
  refine t_get F e_X9_keep_20 fl_X9_94 (fun _ => o7) h3485 k3480 rfl (fun v hv f3489 => ?_)
  obtain ⟨n3490, hn3490, rfl⟩ := hv
  replace hn3490 : n3490 ≤ M := hn3490
  exact m_iret F hQ e_X9_keep_23 (⟨h3485, _, rfl⟩)
set_option maxRecDepth 20000 in
theorem s_X9_back (l : Launch) (V : VX) (b M Z T N : Nat) (σ : Mem) (a : Nat) (h0 : HT V (b, M, Z, T) σ) (hk : kA b a = 1) (hM : M + 0 ≤ 1000000000) : Ct l V yX9_back cX9_back 1 (some .int) 4 0 0 N σ [.ref a] (fun r τ => HK V (b, M, Z, T) [0, 3] σ τ ∧ ∃ x : Int32, r = some (.int x)) := by
  refine Ct.of (by decide) (Nat.le_of_ble_eq_true rfl) [(0, .ref a)] rfl (fun X hX F hQ => ?_)
  have h1 : HK V (b, M, Z, T) [0, 3] σ σ := HK.start h0
  refine m_aload_n F rfl e_X9_back_0 ?_
  refine t_get F e_X9_back_1 fl_X9_77 (fun _ => o1) h1 hk rfl (fun v hv f3491 => ?_)
  obtain ⟨n3492, hn3492, rfl⟩ := hv
  replace hn3492 : n3492 ≤ 1 := hn3492
  refine m_if_ne F e_X9_back_4 (fun q4 => ?_) (fun q4 => ?_)
  · have c4 : n3492 ≠ 0 := by have hh := mt (nI_eq (a := n3492) (b := 0) (by omega) (by omega)).mpr q4; omega
    refine m_aload_n F rfl e_X9_back_9 ?_
    refine t_get F e_X9_back_10 fl_X9_16 (fun _ => o1) h1 hk rfl (fun v hv f3493 => ?_)
    obtain ⟨r3494, k3495, rfl⟩ := hv
    refine m_aload_n F rfl e_X9_back_13 ?_
    refine t_get F e_X9_back_14 fl_X9_32 (fun _ => o1) h1 hk rfl (fun v hv f3496 => ?_)
    obtain ⟨r3497, k3498, rfl⟩ := hv
    refine t_callV F e_X9_back_17 (s_X2_copyFrom (x_l X) V b M Z T _ _ r3494 r3497 h1.1 k3495 k3498 (by omega)) cb_X2_copyFrom ml_X9_374 im_X2_copyFrom se_X2_copyFrom (fun _ => o7) h1 k3495 rfl rfl (rest := []) rfl (Nat.le_of_ble_eq_true rfl) ⟨Nat.le_of_ble_eq_true rfl, Nat.le_of_ble_eq_true rfl⟩ ⟨Nat.le_of_ble_eq_true rfl, Nat.le_of_ble_eq_true rfl⟩ (fun r σ3499 hp => ?_)
    obtain ⟨h3501, rfl⟩ := hp
    have h3500 := HK.trans h1 h3501 (by decide)
    refine m_aload_n F rfl e_X9_back_20 ?_
    refine t_callV F e_X9_back_21 (s_X9_forgetPast (x_l X) V b M Z T _ _ a  h3500.1 hk  (by omega)) cb_X9_forgetPast ml_X9_81 im_X9_forgetPast se_X9_forgetPast (fun _ => o1) h3500 hk rfl rfl (rest := []) rfl (Nat.le_of_ble_eq_true rfl) ⟨Nat.le_of_ble_eq_true rfl, Nat.le_of_ble_eq_true rfl⟩ ⟨Nat.le_of_ble_eq_true rfl, Nat.le_of_ble_eq_true rfl⟩ (fun r σ3502 hp => ?_)
    obtain ⟨h3504, rfl⟩ := hp
    have h3503 := HK.trans h3500 h3504 (by decide)
    refine m_aload_n F rfl e_X9_back_24 ?_
    refine t_get F e_X9_back_25 fl_X9_16 (fun _ => o1) h3503 hk rfl (fun v hv f3505 => ?_)
    obtain ⟨r3506, k3507, rfl⟩ := hv
    refine t_get F e_X9_back_28 fl_X9_94 (fun _ => o7) h3503 k3507 rfl (fun v hv f3508 => ?_)
    obtain ⟨n3509, hn3509, rfl⟩ := hv
    replace hn3509 : n3509 ≤ M := hn3509
    exact m_iret F hQ e_X9_back_31 (⟨h3503, _, rfl⟩)
  · have c4 : n3492 = 0 := (nI_eq (a := n3492) (b := 0) (by omega) (by omega)).mp q4
    refine m_iconst F (v := (-1)) (by decide) e_X9_back_7 ?_
    exact m_iret F hQ e_X9_back_8 (⟨h1, _, rfl⟩)
set_option maxRecDepth 20000 in
theorem s_X9_count (l : Launch) (V : VX) (b M Z T N : Nat) (σ : Mem) (a : Nat) (x901 : Int32) (h0 : HT V (b, M, Z, T) σ) (hk : kA b a = 1) (hM : M + 0 ≤ 1000000000) : Ct l V yX9_count cX9_count 2 (some .int) 2 0 0 N σ [.ref a, .int x901] (fun r τ => HK V (b, M, Z, T) [0, 1, 3, 7, 12, 15, 19] σ τ ∧ ∃ x : Int32, r = some (.int x)) := by
  refine Ct.of (by decide) (Nat.le_of_ble_eq_true rfl) [(0, .ref a), (1, .int x901)] rfl (fun X hX F hQ => ?_)
  have h1 : HK V (b, M, Z, T) [0, 1, 3, 7, 12, 15, 19] σ σ := HK.start h0
  refine m_iload_n F rfl e_X9_count_0 ?_
  by_cases ho1 : (x901 : Int32).toInt < 0 ∨ 7 < (x901 : Int32).toInt
  · refine m_tableOut F e_X9_count_1 ho1 (tgt := 112) (by decide) ?_
    refine m_iconst F (v := (-1)) (by decide) e_X9_count_112 ?_
    exact m_iret F hQ e_X9_count_113 (⟨h1, _, rfl⟩)
  have hs1 : (x901 : Int32).toInt = 0 ∨ (x901 : Int32).toInt = 1 ∨ (x901 : Int32).toInt = 2 ∨ (x901 : Int32).toInt = 3 ∨ (x901 : Int32).toInt = 4 ∨ (x901 : Int32).toInt = 5 ∨ (x901 : Int32).toInt = 6 ∨ (x901 : Int32).toInt = 7 := by omega
  rcases hs1 with hv | hv | hv | hv | hv | hv | hv | hv
  · refine m_tableIn F e_X9_count_1 (by omega) (by omega) (off := 47) (tgt := 48) (by rw [hv]; rfl) (by decide) ?_
    refine m_aload_n F rfl e_X9_count_48 ?_
    refine t_get F e_X9_count_49 fl_X9_16 (fun _ => o1) h1 hk rfl (fun v hv f3510 => ?_)
    obtain ⟨r3511, k3512, rfl⟩ := hv
    refine t_get F e_X9_count_52 fl_X9_358 (fun _ => o7) h1 k3512 rfl (fun v hv f3513 => ?_)
    obtain ⟨n3514, hn3514, rfl⟩ := hv
    replace hn3514 : n3514 ≤ 4 := hn3514
    exact m_iret F hQ e_X9_count_55 (⟨h1, _, rfl⟩)
  · refine m_tableIn F e_X9_count_1 (by omega) (by omega) (off := 55) (tgt := 56) (by rw [hv]; rfl) (by decide) ?_
    refine m_aload_n F rfl e_X9_count_56 ?_
    refine t_get F e_X9_count_57 fl_X9_16 (fun _ => o1) h1 hk rfl (fun v hv f3515 => ?_)
    obtain ⟨r3516, k3517, rfl⟩ := hv
    refine t_get F e_X9_count_60 fl_X9_377 (fun _ => o7) h1 k3517 rfl (fun v hv f3518 => ?_)
    obtain ⟨n3519, hn3519, rfl⟩ := hv
    replace hn3519 : n3519 ≤ 4 := hn3519
    exact m_iret F hQ e_X9_count_63 (⟨h1, _, rfl⟩)
  · refine m_tableIn F e_X9_count_1 (by omega) (by omega) (off := 63) (tgt := 64) (by rw [hv]; rfl) (by decide) ?_
    refine m_aload_n F rfl e_X9_count_64 ?_
    refine t_get F e_X9_count_65 fl_X9_16 (fun _ => o1) h1 hk rfl (fun v hv f3520 => ?_)
    obtain ⟨r3521, k3522, rfl⟩ := hv
    refine t_get F e_X9_count_68 fl_X9_94 (fun _ => o7) h1 k3522 rfl (fun v hv f3523 => ?_)
    obtain ⟨n3524, hn3524, rfl⟩ := hv
    replace hn3524 : n3524 ≤ M := hn3524
    exact m_iret F hQ e_X9_count_71 (⟨h1, _, rfl⟩)
  · refine m_tableIn F e_X9_count_1 (by omega) (by omega) (off := 71) (tgt := 72) (by rw [hv]; rfl) (by decide) ?_
    refine m_aload_n F rfl e_X9_count_72 ?_
    refine t_get F e_X9_count_73 fl_X9_16 (fun _ => o1) h1 hk rfl (fun v hv f3525 => ?_)
    obtain ⟨r3526, k3527, rfl⟩ := hv
    refine t_get F e_X9_count_76 fl_X9_186 (fun _ => o7) h1 k3527 rfl (fun v hv f3528 => ?_)
    obtain ⟨r3529, k3530, rfl⟩ := hv
    obtain ⟨v9, ⟨n3531, hn3531, rfl⟩, f3532⟩ := HK.f (j := 2) h1 (fun _ => o12) k3530 rfl
    replace hn3531 : n3531 ≤ M := hn3531
    refine t_callV F e_X9_count_79 (s_X3_kept (x_l X) V b M Z T _ _ r3529 n3531 h1.1 k3530 (f3532) (by omega) (by omega)) cb_X3_kept ml_X9_196 im_X3_kept se_X3_kept (fun _ => o12) h1 k3530 rfl rfl (rest := []) rfl (Nat.le_of_ble_eq_true rfl) ⟨Nat.le_of_ble_eq_true rfl, Nat.le_of_ble_eq_true rfl⟩ ⟨Nat.le_of_ble_eq_true rfl, Nat.le_of_ble_eq_true rfl⟩ (fun r σ3533 hp => ?_)
    obtain ⟨h3535, n3536, hn3536, gn3536, rfl⟩ := hp
    have h3534 := HK.trans h1 h3535 (by decide)
    exact m_iret F hQ e_X9_count_82 (⟨h3534, _, rfl⟩)
  · refine m_tableIn F e_X9_count_1 (by omega) (by omega) (off := 82) (tgt := 83) (by rw [hv]; rfl) (by decide) ?_
    refine m_aload_n F rfl e_X9_count_83 ?_
    refine t_get F e_X9_count_84 fl_X9_16 (fun _ => o1) h1 hk rfl (fun v hv f3537 => ?_)
    obtain ⟨r3538, k3539, rfl⟩ := hv
    refine t_get F e_X9_count_87 fl_X9_186 (fun _ => o7) h1 k3539 rfl (fun v hv f3540 => ?_)
    obtain ⟨r3541, k3542, rfl⟩ := hv
    refine t_get F e_X9_count_90 fl_X9_380 (fun _ => o12) h1 k3542 rfl (fun v hv f3543 => ?_)
    obtain ⟨n3544, hn3544, rfl⟩ := hv
    replace hn3544 : n3544 ≤ M := hn3544
    exact m_iret F hQ e_X9_count_93 (⟨h1, _, rfl⟩)
  · refine m_tableIn F e_X9_count_1 (by omega) (by omega) (off := 93) (tgt := 94) (by rw [hv]; rfl) (by decide) ?_
    refine m_aload_n F rfl e_X9_count_94 ?_
    refine t_get F e_X9_count_95 fl_X9_16 (fun _ => o1) h1 hk rfl (fun v hv f3545 => ?_)
    obtain ⟨r3546, k3547, rfl⟩ := hv
    refine t_callV F e_X9_count_98 (s_X2_runningLeases (x_l X) V b M Z T _ _ r3546  h1.1 k3547  (by omega)) cb_X2_runningLeases ml_X9_383 im_X2_runningLeases se_X2_runningLeases (fun _ => o7) h1 k3547 rfl rfl (rest := []) rfl (Nat.le_of_ble_eq_true rfl) ⟨Nat.le_of_ble_eq_true rfl, Nat.le_of_ble_eq_true rfl⟩ ⟨Nat.le_of_ble_eq_true rfl, Nat.le_of_ble_eq_true rfl⟩ (fun r σ3548 hp => ?_)
    obtain ⟨h3550, x3551, rfl⟩ := hp
    have h3549 := HK.trans h1 h3550 (by decide)
    exact m_iret F hQ e_X9_count_101 (⟨h3549, _, rfl⟩)
  · refine m_tableIn F e_X9_count_1 (by omega) (by omega) (off := 101) (tgt := 102) (by rw [hv]; rfl) (by decide) ?_
    refine m_aload_n F rfl e_X9_count_102 ?_
    refine t_get F e_X9_count_103 fl_X9_368 (fun _ => o1) h1 hk rfl (fun v hv f3552 => ?_)
    obtain ⟨n3553, hn3553, rfl⟩ := hv
    replace hn3553 : n3553 ≤ 20 := hn3553
    exact m_iret F hQ e_X9_count_106 (⟨h1, _, rfl⟩)
  · refine m_tableIn F e_X9_count_1 (by omega) (by omega) (off := 106) (tgt := 107) (by rw [hv]; rfl) (by decide) ?_
    refine m_aload_n F rfl e_X9_count_107 ?_
    refine t_get F e_X9_count_108 fl_X9_52 (fun _ => o1) h1 hk rfl (fun v hv f3554 => ?_)
    obtain rfl : v = .int (nI (T)) := hv
    exact m_iret F hQ e_X9_count_111 (⟨h1, _, rfl⟩)
set_option maxRecDepth 20000 in
theorem s_X9_fault (l : Launch) (V : VX) (b M Z T N : Nat) (σ : Mem) (a : Nat) (x901 : Int32) (h0 : HT V (b, M, Z, T) σ) (hk : kA b a = 1) (hM : M + 0 ≤ 1000000000) : Ct l V yX9_fault cX9_fault 2 (some .int) 0 0 0 N σ [.ref a, .int x901] (fun r τ => HK V (b, M, Z, T) [0, 1, 3, 7, 12, 15, 19] σ τ ∧ ∃ x : Int32, r = some (.int x)) := by
  refine Ct.of (by decide) (Nat.le_of_ble_eq_true rfl) [(0, .ref a), (1, .int x901)] rfl (fun X hX F hQ => ?_)
  have h1 : HK V (b, M, Z, T) [0, 1, 3, 7, 12, 15, 19] σ σ := HK.start h0
  refine m_iload_n F rfl e_X9_fault_0 ?_
  by_cases hx0 : (x901 : Int32) = 0
  · refine m_lookup F e_X9_fault_1 (by decide) (off := 27) (by rw [hx0]; decide) (tgt := 28) (by decide) ?_
    refine m_aload_n F rfl e_X9_fault_28 ?_
    refine t_get F e_X9_fault_29 fl_X9_28 (fun _ => o1) h1 hk rfl (fun v hv f3555 => ?_)
    obtain ⟨r3556, k3557, rfl⟩ := hv
    refine t_get F e_X9_fault_32 fl_X9_70 (fun _ => o3) h1 k3557 rfl (fun v hv f3558 => ?_)
    obtain ⟨x3559, hx3559, rfl⟩ := hv
    replace hx3559 : Z = 0 → x3559 ≠ 0 := hx3559
    exact m_iret F hQ e_X9_fault_35 (⟨h1, _, rfl⟩)
  by_cases hx1 : (x901 : Int32) = 1
  · refine m_lookup F e_X9_fault_1 (by decide) (off := 35) (by rw [hx1]; decide) (tgt := 36) (by decide) ?_
    refine m_aload_n F rfl e_X9_fault_36 ?_
    refine t_get F e_X9_fault_37 fl_X9_28 (fun _ => o1) h1 hk rfl (fun v hv f3560 => ?_)
    obtain ⟨r3561, k3562, rfl⟩ := hv
    refine t_get F e_X9_fault_40 fl_X9_87 (fun _ => o3) h1 k3562 rfl (fun v hv f3563 => ?_)
    obtain ⟨x3564, rfl⟩ := hv
    exact m_iret F hQ e_X9_fault_43 (⟨h1, _, rfl⟩)
  refine m_lookup F e_X9_fault_1 (by decide) (off := 43) ((lv_osw hx0 (by decide)).trans ((lv_osw hx1 (by decide)).trans (rfl))) (tgt := 44) (by decide) ?_
  refine m_iconst F (v := (-1)) (by decide) e_X9_fault_44 ?_
  exact m_iret F hQ e_X9_fault_45 (⟨h1, _, rfl⟩)
set_option maxRecDepth 20000 in
theorem s_X9_putOnTape (l : Launch) (V : VX) (b M Z T N : Nat) (σ : Mem) (a : Nat) (x901 : Int32) (h0 : HT V (b, M, Z, T) σ) (hk : kA b a = 1) (hp0 : T ≤ 696) (hM : M + 0 ≤ 1000000000) : Ct l V yX9_putOnTape cX9_putOnTape 3 none 0 0 0 N σ [.ref a, .int x901] (fun r τ => HK V (b, M, Z, T + 4) [0, 3, 7, 12, 15, 19] σ τ ∧ r = none) := by
  refine Ct.of (by decide) (Nat.le_of_ble_eq_true rfl) [(0, .ref a), (1, .int x901)] rfl (fun X hX F hQ => ?_)
  have h1 : HK V (b, M, Z, T) [0, 3, 7, 12, 15, 19] σ σ := HK.start h0
  refine m_bipush F (v := 24) (by decide) e_X9_putOnTape_0 ?_
  refine m_istore_n F (lv' := [(2, .int 24), (0, .ref a), (1, .int x901)]) e_X9_putOnTape_2 (by decide) rfl ?_
  refine m_iload_n F rfl e_X9_putOnTape_3 ?_
  refine m_if_lt F e_X9_putOnTape_4 (fun q => absurd q (by decide)) (fun _ => ?_)
  refine m_aload_n F rfl e_X9_putOnTape_7 ?_
  refine t_get F e_X9_putOnTape_8 fl_X9_52 (fun _ => o1) h1 hk rfl (fun v hv f3565 => ?_)
  obtain rfl : v = .int (nI (T)) := hv
  refine m_sipush F (v := 700) (by decide) e_X9_putOnTape_11 ?_
  refine m_icmp_ge F e_X9_putOnTape_14 (fun q14 => ?_) (fun q14 => ?_)
  · have c14 : T ≥ 700 := (nI_leI (a := 700) (b := T) (by omega) (by omega)).mp q14
    exfalso; omega
  · have c14 : T < 700 := by have hh := mt (nI_leI (a := 700) (b := T) (by omega) (by omega)).mpr q14; omega
    refine m_aload_n F rfl e_X9_putOnTape_17 ?_
    refine t_get F e_X9_putOnTape_18 fl_X9_9 (fun _ => o1) h1 hk rfl (fun v hv f3566 => ?_)
    obtain ⟨r3567, k3568, rfl⟩ := hv
    refine m_aload_n F rfl e_X9_putOnTape_21 ?_
    refine t_getC F e_X9_putOnTape_22 fl_X9_52 (fun _ => o1) h1 hk (f3565) ?_
    refine m_iload_n F rfl e_X9_putOnTape_25 ?_
    refine m_iload_n F rfl e_X9_putOnTape_26 ?_
    refine m_ishr F e_X9_putOnTape_27 ?_
    refine Wm.top (fun x3569 _ => ?_)
    refine m_i2b F e_X9_putOnTape_28 ?_
    refine t_bast F (len := 700) (j := T) e_X9_putOnTape_29 (fun _ => o2) h1 k3568 (nI_clamp (by omega)) (vp_in_nI (by omega) (by decide)) (pk_nb x3569) (by decide) (fun σ3570 h3571 g3572 => ?_)
    refine m_aload_n F rfl e_X9_putOnTape_30 ?_
    refine m_dup F rfl e_X9_putOnTape_31 ?_
    refine t_getC F e_X9_putOnTape_32 fl_X9_52 (fun _ => o1) h3571 hk ((g3572 a 1 (fun e => absurd ((hk).symm.trans e) (by decide))).trans f3565) ?_
    refine m_iconst F (v := 1) (by decide) e_X9_putOnTape_35 ?_
    refine m_iadd F e_X9_putOnTape_36 ?_
    refine Wm.topE (w := nI (T + 1)) (nI_add T 1) ?_
    refine t_putT F (T' := T + 1) e_X9_putOnTape_37 fp_X9_52 h3571 hk (by decide) (fun σ3573 h3574 g3575 g3576 f3577 => ?_)
    refine m_iinc F (v := 16) (lv' := [(2, .int 16), (0, .ref a), (1, .int x901)]) e_X9_putOnTape_40 rfl (by decide) (by decide) rfl ?_
    refine m_goto F e_X9_putOnTape_43 ?_
    refine m_iload_n F rfl e_X9_putOnTape_3 ?_
    refine m_if_lt F e_X9_putOnTape_4 (fun q => absurd q (by decide)) (fun _ => ?_)
    refine m_aload_n F rfl e_X9_putOnTape_7 ?_
    refine t_getC F e_X9_putOnTape_8 fl_X9_52 (fun _ => o1) h3574 hk (f3577) ?_
    refine m_sipush F (v := 700) (by decide) e_X9_putOnTape_11 ?_
    refine m_icmp_ge F e_X9_putOnTape_14 (fun q14 => ?_) (fun q14 => ?_)
    · have c14 : (T + 1) ≥ 700 := (nI_leI (a := 700) (b := (T + 1)) (by omega) (by omega)).mp q14
      exfalso; omega
    · have c14 : (T + 1) < 700 := by have hh := mt (nI_leI (a := 700) (b := (T + 1)) (by omega) (by omega)).mpr q14; omega
      refine m_aload_n F rfl e_X9_putOnTape_17 ?_
      refine t_getC F e_X9_putOnTape_18 fl_X9_9 (fun _ => o1) h3574 hk ((g3576 0 (by decide)).trans ((g3572 a 0 (fun e => absurd ((hk).symm.trans e) (by decide))).trans f3566)) ?_
      refine m_aload_n F rfl e_X9_putOnTape_21 ?_
      refine t_getC F e_X9_putOnTape_22 fl_X9_52 (fun _ => o1) h3574 hk (f3577) ?_
      refine m_iload_n F rfl e_X9_putOnTape_25 ?_
      refine m_iload_n F rfl e_X9_putOnTape_26 ?_
      refine m_ishr F e_X9_putOnTape_27 ?_
      refine Wm.top (fun x3578 _ => ?_)
      refine m_i2b F e_X9_putOnTape_28 ?_
      refine t_bast F (len := 700) (j := T + 1) e_X9_putOnTape_29 (fun _ => o2) h3574 k3568 (nI_clamp (by omega)) (vp_in_nI (by omega) (by decide)) (pk_nb x3578) (by decide) (fun σ3579 h3580 g3581 => ?_)
      refine m_aload_n F rfl e_X9_putOnTape_30 ?_
      refine m_dup F rfl e_X9_putOnTape_31 ?_
      refine t_getC F e_X9_putOnTape_32 fl_X9_52 (fun _ => o1) h3580 hk ((g3581 a 1 (fun e => absurd ((hk).symm.trans e) (by decide))).trans f3577) ?_
      refine m_iconst F (v := 1) (by decide) e_X9_putOnTape_35 ?_
      refine m_iadd F e_X9_putOnTape_36 ?_
      refine Wm.topE (w := nI (T + 2)) (nI_add (T + 1) 1) ?_
      refine t_putT F (T' := T + 2) e_X9_putOnTape_37 fp_X9_52 h3580 hk (by decide) (fun σ3582 h3583 g3584 g3585 f3586 => ?_)
      refine m_iinc F (v := 8) (lv' := [(2, .int 8), (0, .ref a), (1, .int x901)]) e_X9_putOnTape_40 rfl (by decide) (by decide) rfl ?_
      refine m_goto F e_X9_putOnTape_43 ?_
      refine m_iload_n F rfl e_X9_putOnTape_3 ?_
      refine m_if_lt F e_X9_putOnTape_4 (fun q => absurd q (by decide)) (fun _ => ?_)
      refine m_aload_n F rfl e_X9_putOnTape_7 ?_
      refine t_getC F e_X9_putOnTape_8 fl_X9_52 (fun _ => o1) h3583 hk (f3586) ?_
      refine m_sipush F (v := 700) (by decide) e_X9_putOnTape_11 ?_
      refine m_icmp_ge F e_X9_putOnTape_14 (fun q14 => ?_) (fun q14 => ?_)
      · have c14 : (T + 2) ≥ 700 := (nI_leI (a := 700) (b := (T + 2)) (by omega) (by omega)).mp q14
        exfalso; omega
      · have c14 : (T + 2) < 700 := by have hh := mt (nI_leI (a := 700) (b := (T + 2)) (by omega) (by omega)).mpr q14; omega
        refine m_aload_n F rfl e_X9_putOnTape_17 ?_
        refine t_getC F e_X9_putOnTape_18 fl_X9_9 (fun _ => o1) h3583 hk ((g3585 0 (by decide)).trans ((g3581 a 0 (fun e => absurd ((hk).symm.trans e) (by decide))).trans ((g3576 0 (by decide)).trans ((g3572 a 0 (fun e => absurd ((hk).symm.trans e) (by decide))).trans f3566)))) ?_
        refine m_aload_n F rfl e_X9_putOnTape_21 ?_
        refine t_getC F e_X9_putOnTape_22 fl_X9_52 (fun _ => o1) h3583 hk (f3586) ?_
        refine m_iload_n F rfl e_X9_putOnTape_25 ?_
        refine m_iload_n F rfl e_X9_putOnTape_26 ?_
        refine m_ishr F e_X9_putOnTape_27 ?_
        refine Wm.top (fun x3587 _ => ?_)
        refine m_i2b F e_X9_putOnTape_28 ?_
        refine t_bast F (len := 700) (j := T + 2) e_X9_putOnTape_29 (fun _ => o2) h3583 k3568 (nI_clamp (by omega)) (vp_in_nI (by omega) (by decide)) (pk_nb x3587) (by decide) (fun σ3588 h3589 g3590 => ?_)
        refine m_aload_n F rfl e_X9_putOnTape_30 ?_
        refine m_dup F rfl e_X9_putOnTape_31 ?_
        refine t_getC F e_X9_putOnTape_32 fl_X9_52 (fun _ => o1) h3589 hk ((g3590 a 1 (fun e => absurd ((hk).symm.trans e) (by decide))).trans f3586) ?_
        refine m_iconst F (v := 1) (by decide) e_X9_putOnTape_35 ?_
        refine m_iadd F e_X9_putOnTape_36 ?_
        refine Wm.topE (w := nI (T + 3)) (nI_add (T + 2) 1) ?_
        refine t_putT F (T' := T + 3) e_X9_putOnTape_37 fp_X9_52 h3589 hk (by decide) (fun σ3591 h3592 g3593 g3594 f3595 => ?_)
        refine m_iinc F (v := 0) (lv' := [(2, .int 0), (0, .ref a), (1, .int x901)]) e_X9_putOnTape_40 rfl (by decide) (by decide) rfl ?_
        refine m_goto F e_X9_putOnTape_43 ?_
        refine m_iload_n F rfl e_X9_putOnTape_3 ?_
        refine m_if_lt F e_X9_putOnTape_4 (fun q => absurd q (by decide)) (fun _ => ?_)
        refine m_aload_n F rfl e_X9_putOnTape_7 ?_
        refine t_getC F e_X9_putOnTape_8 fl_X9_52 (fun _ => o1) h3592 hk (f3595) ?_
        refine m_sipush F (v := 700) (by decide) e_X9_putOnTape_11 ?_
        refine m_icmp_ge F e_X9_putOnTape_14 (fun q14 => ?_) (fun q14 => ?_)
        · have c14 : (T + 3) ≥ 700 := (nI_leI (a := 700) (b := (T + 3)) (by omega) (by omega)).mp q14
          exfalso; omega
        · have c14 : (T + 3) < 700 := by have hh := mt (nI_leI (a := 700) (b := (T + 3)) (by omega) (by omega)).mpr q14; omega
          refine m_aload_n F rfl e_X9_putOnTape_17 ?_
          refine t_getC F e_X9_putOnTape_18 fl_X9_9 (fun _ => o1) h3592 hk ((g3594 0 (by decide)).trans ((g3590 a 0 (fun e => absurd ((hk).symm.trans e) (by decide))).trans ((g3585 0 (by decide)).trans ((g3581 a 0 (fun e => absurd ((hk).symm.trans e) (by decide))).trans ((g3576 0 (by decide)).trans ((g3572 a 0 (fun e => absurd ((hk).symm.trans e) (by decide))).trans f3566)))))) ?_
          refine m_aload_n F rfl e_X9_putOnTape_21 ?_
          refine t_getC F e_X9_putOnTape_22 fl_X9_52 (fun _ => o1) h3592 hk (f3595) ?_
          refine m_iload_n F rfl e_X9_putOnTape_25 ?_
          refine m_iload_n F rfl e_X9_putOnTape_26 ?_
          refine m_ishr F e_X9_putOnTape_27 ?_
          refine Wm.top (fun x3596 _ => ?_)
          refine m_i2b F e_X9_putOnTape_28 ?_
          refine t_bast F (len := 700) (j := T + 3) e_X9_putOnTape_29 (fun _ => o2) h3592 k3568 (nI_clamp (by omega)) (vp_in_nI (by omega) (by decide)) (pk_nb x3596) (by decide) (fun σ3597 h3598 g3599 => ?_)
          refine m_aload_n F rfl e_X9_putOnTape_30 ?_
          refine m_dup F rfl e_X9_putOnTape_31 ?_
          refine t_getC F e_X9_putOnTape_32 fl_X9_52 (fun _ => o1) h3598 hk ((g3599 a 1 (fun e => absurd ((hk).symm.trans e) (by decide))).trans f3595) ?_
          refine m_iconst F (v := 1) (by decide) e_X9_putOnTape_35 ?_
          refine m_iadd F e_X9_putOnTape_36 ?_
          refine Wm.topE (w := nI (T + 4)) (nI_add (T + 3) 1) ?_
          refine t_putT F (T' := T + 4) e_X9_putOnTape_37 fp_X9_52 h3598 hk (by decide) (fun σ3600 h3601 g3602 g3603 f3604 => ?_)
          refine m_iinc F (v := (-8)) (lv' := [(2, .int (-8)), (0, .ref a), (1, .int x901)]) e_X9_putOnTape_40 rfl (by decide) (by decide) rfl ?_
          refine m_goto F e_X9_putOnTape_43 ?_
          refine m_iload_n F rfl e_X9_putOnTape_3 ?_
          refine m_if_lt F e_X9_putOnTape_4 (fun _ => ?_) (fun q => absurd (by decide) q)
          exact m_vret F hQ e_X9_putOnTape_46 (⟨h3601, rfl⟩)
set_option maxRecDepth 20000 in
theorem s_X9_feed (l : Launch) (V : VX) (b M Z T N : Nat) (σ : Mem) (a : Nat) (x901 : Int32) (x902 : Int32) (x903 : Int32) (x904 : Int32) (x905 : Int32) (h0 : HT V (b, M, Z, T) σ) (hk : kA b a = 1) (hp0 : T ≤ 700) (hM : M + 0 ≤ 1000000000) : Ct l V yX9_feed cX9_feed 6 (some .int) 1 0 0 N σ [.ref a, .int x901, .int x902, .int x903, .int x904, .int x905] (fun r τ => (700 < T + 20 ∧ HK V (b, M, Z, T) [0, 3, 7, 12, 15, 19] σ τ ∧ r = some (.int (-1))) ∨ (T + 20 ≤ 700 ∧ HK V (b, M, Z, T + 20) [0, 3, 7, 12, 15, 19] σ τ ∧ r = some (.int (nI (T + 20))))) := by
  refine Ct.of (by decide) (Nat.le_of_ble_eq_true rfl) [(0, .ref a), (1, .int x901), (2, .int x902), (3, .int x903), (4, .int x904), (5, .int x905)] rfl (fun X hX F hQ => ?_)
  have h1 : HK V (b, M, Z, T) [0, 3, 7, 12, 15, 19] σ σ := HK.start h0
  refine m_aload_n F rfl e_X9_feed_0 ?_
  refine t_get F e_X9_feed_1 fl_X9_52 (fun _ => o1) h1 hk rfl (fun v hv f3605 => ?_)
  obtain rfl : v = .int (nI (T)) := hv
  refine m_bipush F (v := 20) (by decide) e_X9_feed_4 ?_
  refine m_iadd F e_X9_feed_6 ?_
  refine Wm.topE (w := nI (T + 20)) (nI_add T 20) ?_
  refine m_sipush F (v := 700) (by decide) e_X9_feed_7 ?_
  refine m_icmp_le F e_X9_feed_10 (fun q10 => ?_) (fun q10 => ?_)
  · have c10 : (T + 20) ≤ 700 := (nI_leI (a := (T + 20)) (b := 700) (by omega) (by omega)).mp q10
    refine m_aload_n F rfl e_X9_feed_15 ?_
    refine m_iload_n F rfl e_X9_feed_16 ?_
    refine t_callV F e_X9_feed_17 (s_X9_putOnTape (x_l X) V b M Z T _ _ a x901 h1.1 hk (by first | omega | assumption | decide) (by omega)) cb_X9_putOnTape ml_X9_56 im_X9_putOnTape se_X9_putOnTape (fun _ => o1) h1 hk rfl rfl (rest := []) rfl (Nat.le_of_ble_eq_true rfl) ⟨Nat.le_of_ble_eq_true rfl, Nat.le_of_ble_eq_true rfl⟩ ⟨Nat.le_of_ble_eq_true rfl, Nat.le_of_ble_eq_true rfl⟩ (fun r σ3606 hp => ?_)
    obtain ⟨h3608, rfl⟩ := hp
    have h3607 := HK.trans h1 h3608 (by decide)
    refine m_aload_n F rfl e_X9_feed_20 ?_
    refine m_iload_n F rfl e_X9_feed_21 ?_
    refine t_callV F e_X9_feed_22 (s_X9_putOnTape (x_l X) V b M Z (T + 4) _ _ a x902 h3607.1 hk (by first | omega | assumption | decide) (by omega)) cb_X9_putOnTape ml_X9_56 im_X9_putOnTape se_X9_putOnTape (fun _ => o1) h3607 hk rfl rfl (rest := []) rfl (Nat.le_of_ble_eq_true rfl) ⟨Nat.le_of_ble_eq_true rfl, Nat.le_of_ble_eq_true rfl⟩ ⟨Nat.le_of_ble_eq_true rfl, Nat.le_of_ble_eq_true rfl⟩ (fun r σ3609 hp => ?_)
    obtain ⟨h3611, rfl⟩ := hp
    have h3610 := HK.trans h3607 h3611 (by decide)
    refine m_aload_n F rfl e_X9_feed_25 ?_
    refine m_iload_n F rfl e_X9_feed_26 ?_
    refine t_callV F e_X9_feed_27 (s_X9_putOnTape (x_l X) V b M Z (T + 8) _ _ a x903 h3610.1 hk (by first | omega | assumption | decide) (by omega)) cb_X9_putOnTape ml_X9_56 im_X9_putOnTape se_X9_putOnTape (fun _ => o1) h3610 hk rfl rfl (rest := []) rfl (Nat.le_of_ble_eq_true rfl) ⟨Nat.le_of_ble_eq_true rfl, Nat.le_of_ble_eq_true rfl⟩ ⟨Nat.le_of_ble_eq_true rfl, Nat.le_of_ble_eq_true rfl⟩ (fun r σ3612 hp => ?_)
    obtain ⟨h3614, rfl⟩ := hp
    have h3613 := HK.trans h3610 h3614 (by decide)
    refine m_aload_n F rfl e_X9_feed_30 ?_
    refine m_iload F rfl e_X9_feed_31 ?_
    refine t_callV F e_X9_feed_33 (s_X9_putOnTape (x_l X) V b M Z (T + 12) _ _ a x904 h3613.1 hk (by first | omega | assumption | decide) (by omega)) cb_X9_putOnTape ml_X9_56 im_X9_putOnTape se_X9_putOnTape (fun _ => o1) h3613 hk rfl rfl (rest := []) rfl (Nat.le_of_ble_eq_true rfl) ⟨Nat.le_of_ble_eq_true rfl, Nat.le_of_ble_eq_true rfl⟩ ⟨Nat.le_of_ble_eq_true rfl, Nat.le_of_ble_eq_true rfl⟩ (fun r σ3615 hp => ?_)
    obtain ⟨h3617, rfl⟩ := hp
    have h3616 := HK.trans h3613 h3617 (by decide)
    refine m_aload_n F rfl e_X9_feed_36 ?_
    refine m_iload F rfl e_X9_feed_37 ?_
    refine t_callV F e_X9_feed_39 (s_X9_putOnTape (x_l X) V b M Z (T + 16) _ _ a x905 h3616.1 hk (by first | omega | assumption | decide) (by omega)) cb_X9_putOnTape ml_X9_56 im_X9_putOnTape se_X9_putOnTape (fun _ => o1) h3616 hk rfl rfl (rest := []) rfl (Nat.le_of_ble_eq_true rfl) ⟨Nat.le_of_ble_eq_true rfl, Nat.le_of_ble_eq_true rfl⟩ ⟨Nat.le_of_ble_eq_true rfl, Nat.le_of_ble_eq_true rfl⟩ (fun r σ3618 hp => ?_)
    obtain ⟨h3620, rfl⟩ := hp
    have h3619 := HK.trans h3616 h3620 (by decide)
    refine m_aload_n F rfl e_X9_feed_42 ?_
    refine t_get F e_X9_feed_43 fl_X9_52 (fun _ => o1) h3619 hk rfl (fun v hv f3621 => ?_)
    obtain rfl : v = .int (nI (T + 20)) := hv
    exact m_iret F hQ e_X9_feed_46 (Or.inr ⟨by omega, h3619, rfl⟩)
  · have c10 : (T + 20) > 700 := by have hh := mt (nI_leI (a := (T + 20)) (b := 700) (by omega) (by omega)).mpr q10; omega
    refine m_iconst F (v := (-1)) (by decide) e_X9_feed_13 ?_
    exact m_iret F hQ e_X9_feed_14 (Or.inl ⟨by omega, h1, rfl⟩)
