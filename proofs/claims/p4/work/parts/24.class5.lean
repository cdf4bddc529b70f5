set_option maxRecDepth 20000 in
theorem lp_X9_sum_38 {V : VX} {X : MX} {b M Z T N : Nat} {σ : Mem} {a : Nat}   (F : Fx V X yX9_sum cX9_sum 7 (some .long) (rmd 3 0 0)) (hQ : Rt V X 0 0 N (fun r τ => HK V (b, M, Z, T) [0, 1, 2, 3, 4, 5, 6, 7, 8, 9, 10, 11, 12, 13, 14, 15, 16, 17, 18, 19] σ τ ∧ ∃ x : Int64, r = some (.long x))) (hk : kA b a = 1) (hM : M + 0 ≤ 1000000000)  : ∀ (fuel : Nat) (i : Nat) (c : Nat) (u1 : Int64) (p : Nat) (u2 : Int32) (τ : Mem), HK V (b, M, Z, T) [0, 1, 2, 3, 4, 5, 6, 7, 8, 9, 10, 11, 12, 13, 14, 15, 16, 17, 18, 19] σ τ → i ≤ 40 ∧ c ≤ 40 ∧ p ≤ 5 → 40 - i < fuel → Wm V X 7 N τ 0 0 38 [(6, .int (nI i)), (5, .int (nI c)), (3, .long u1), (0, .ref a), (1, .int (nI p)), (2, .int u2)] [] := by
  intro fuel
  induction fuel with
  | zero => intro i c u1 p u2 τ h1 hi hm; exact absurd hm (Nat.not_lt_zero _)
  | succ fuel ih =>
    intro i c u1 p u2 τ h1 hi hm
    refine m_iload F rfl e_X9_sum_38 ?_
    refine m_iload F rfl e_X9_sum_40 ?_
    refine m_icmp_ge F e_X9_sum_42 (fun q42 => ?_) (fun q42 => ?_)
    · have c42 : i ≥ c := (nI_leI (a := c) (b := i) (by omega) (by omega)).mp q42
      refine m_lload_n F rfl e_X9_sum_88 ?_
      exact m_lret F hQ e_X9_sum_89 (⟨h1, _, rfl⟩)
    · have c42 : i < c := by have hh := mt (nI_leI (a := c) (b := i) (by omega) (by omega)).mpr q42; omega
      refine m_aload_n F rfl e_X9_sum_45 ?_
      refine t_get F e_X9_sum_46 fl_X9_16 (fun _ => o1) h1 hk rfl (fun v hv f2593 => ?_)
      obtain ⟨r2594, k2595, rfl⟩ := hv
      refine t_get F e_X9_sum_49 fl_X9_186 (fun _ => o7) h1 k2595 rfl (fun v hv f2596 => ?_)
      obtain rfl : v = .ref (r2594 + 5) := hv
      refine m_iload F rfl e_X9_sum_52 ?_
      refine m_iconst F (v := 0) (by decide) e_X9_sum_54 ?_
      refine t_callV F e_X9_sum_55 (s_X3_told (x_l X) V b M Z T _ _ (r2594 + 5) (nI i) 0 h1.1 (kA_7 k2595 (r := 5) (by decide))  (by omega)) cb_X3_told ml_X9_199 im_X3_told se_X3_told (fun _ => o12) h1 (kA_7 k2595 (r := 5) (by decide)) rfl rfl (rest := []) rfl (Nat.le_of_ble_eq_true rfl) ⟨Nat.le_of_ble_eq_true rfl, Nat.le_of_ble_eq_true rfl⟩ ⟨Nat.le_of_ble_eq_true rfl, Nat.le_of_ble_eq_true rfl⟩ (fun r σ2597 hp => ?_)
      obtain ⟨h2599, x2600, rfl⟩ := hp
      have h2598 := HK.trans h1 h2599 (by decide)
      refine m_iload_n F rfl e_X9_sum_58 ?_
      refine m_i2l F e_X9_sum_59 ?_
      refine Wm.topl (fun x2601 _ => ?_)
      refine m_lcmp F e_X9_sum_60 ?_
      refine Wm.top (fun x2602 _ => ?_)
      refine m_if_ne F e_X9_sum_61 (fun q61 => ?_) (fun q61 => ?_)
      · refine m_iinc F (v := nI (i + 1)) (lv' := [(6, .int (nI (i + 1))), (5, .int (nI c)), (3, .long u1), (0, .ref a), (1, .int (nI p)), (2, .int u2)]) e_X9_sum_82 rfl (nI_add i 1) (by decide) rfl ?_
        refine m_goto F e_X9_sum_85 ?_
        exact ih (i + 1) c u1 p u2 _ h2598 (by omega) (by omega)
      · refine m_lload_n F rfl e_X9_sum_64 ?_
        refine m_aload_n F rfl e_X9_sum_65 ?_
        refine t_getC F e_X9_sum_66 fl_X9_16 (fun _ => o1) h2598 hk ((fld_eq (h2599.2 a (by rw [show kA _ a = 1 from hk]; decide))).trans f2593) ?_
        refine t_getC F e_X9_sum_69 fl_X9_186 (fun _ => o7) h2598 k2595 ((fld_eq (h2599.2 r2594 (by rw [show kA _ r2594 = 7 from k2595]; decide))).trans f2596) ?_
        refine m_iload F rfl e_X9_sum_72 ?_
        refine m_iconst F (v := 3) (by decide) e_X9_sum_74 ?_
        refine m_iload_n F rfl e_X9_sum_75 ?_
        refine m_iadd F e_X9_sum_76 ?_
        refine Wm.topE (w := nI (3 + p)) (nI_add 3 p) ?_
        refine t_callV F e_X9_sum_77 (s_X3_told (x_l X) V b M Z T _ _ (r2594 + 5) (nI i) (nI (3 + p)) h2598.1 (kA_7 k2595 (r := 5) (by decide))  (by omega)) cb_X3_told ml_X9_199 im_X3_told se_X3_told (fun _ => o12) h2598 (kA_7 k2595 (r := 5) (by decide)) rfl rfl (rest := [.long u1]) rfl (Nat.le_of_ble_eq_true rfl) ⟨Nat.le_of_ble_eq_true rfl, Nat.le_of_ble_eq_true rfl⟩ ⟨Nat.le_of_ble_eq_true rfl, Nat.le_of_ble_eq_true rfl⟩ (fun r σ2603 hp => ?_)
        obtain ⟨h2605, x2606, rfl⟩ := hp
        have h2604 := HK.trans h2598 h2605 (by decide)
        refine m_ladd F e_X9_sum_80 ?_
        refine Wm.topl (fun x2607 _ => ?_)
        refine m_lstore_n F (lv' := [(3, .long x2607), (6, .int (nI i)), (5, .int (nI c)), (0, .ref a), (1, .int (nI p)), (2, .int u2)]) e_X9_sum_81 (by decide) rfl ?_
        refine m_iinc F (v := nI (i + 1)) (lv' := [(6, .int (nI (i + 1))), (3, .long x2607), (5, .int (nI c)), (0, .ref a), (1, .int (nI p)), (2, .int u2)]) e_X9_sum_82 rfl (nI_add i 1) (by decide) rfl ?_
        refine m_goto F e_X9_sum_85 ?_
        refine Wm.lvsub (lv' := [(6, .int (nI (i + 1))), (5, .int (nI c)), (3, .long x2607), (0, .ref a), (1, .int (nI p)), (2, .int u2)]) ?_ [0, 2, 1, 3, 4, 5] rfl
        exact ih (i + 1) c x2607 p u2 _ h2604 (by omega) (by omega)
set_option maxRecDepth 20000 in
theorem s_X9_sum (l : Launch) (V : VX) (b M Z T N : Nat) (σ : Mem) (a : Nat) (x901 : Int32) (x902 : Int32) (h0 : HT V (b, M, Z, T) σ) (hk : kA b a = 1) (hM : M + 0 ≤ 1000000000) : Ct l V yX9_sum cX9_sum 7 (some .long) 3 0 0 N σ [.ref a, .int x901, .int x902] (fun r τ => HK V (b, M, Z, T) [0, 1, 2, 3, 4, 5, 6, 7, 8, 9, 10, 11, 12, 13, 14, 15, 16, 17, 18, 19] σ τ ∧ ∃ x : Int64, r = some (.long x)) := by
  refine Ct.of (by decide) (Nat.le_of_ble_eq_true rfl) [(0, .ref a), (1, .int x901), (2, .int x902)] rfl (fun X hX F hQ => ?_)
  have h1 : HK V (b, M, Z, T) [0, 1, 2, 3, 4, 5, 6, 7, 8, 9, 10, 11, 12, 13, 14, 15, 16, 17, 18, 19] σ σ := HK.start h0
  refine m_iload_n F rfl e_X9_sum_0 ?_
  refine m_if_lt F e_X9_sum_1 (fun q1 => ?_) (fun q1 => ?_)
  · refine m_ldc2 F kc_X9_184 e_X9_sum_17 ?_
    exact m_lret F hQ e_X9_sum_20 (⟨h1, _, rfl⟩)
  · obtain ⟨n2608, hn2608, rfl⟩ := nI_nn (x := x901) (fun e => q1 (Int32.lt_of_lt_of_le e (by decide)))
    have c1 : n2608 ≥ 0 := by have hh := mt (nI_ltI (a := n2608) (b := 0) (by omega) (by omega)).mpr q1; omega
    refine m_iload_n F rfl e_X9_sum_4 ?_
    refine m_bipush F (v := 6) (by decide) e_X9_sum_5 ?_
    refine m_icmp_ge F e_X9_sum_7 (fun q7 => ?_) (fun q7 => ?_)
    · have c7 : n2608 ≥ 6 := (nI_leI (a := 6) (b := n2608) (by omega) (by omega)).mp q7
      refine m_ldc2 F kc_X9_184 e_X9_sum_17 ?_
      exact m_lret F hQ e_X9_sum_20 (⟨h1, _, rfl⟩)
    · have c7 : n2608 < 6 := by have hh := mt (nI_leI (a := 6) (b := n2608) (by omega) (by omega)).mpr q7; omega
      refine m_iload_n F rfl e_X9_sum_10 ?_
      refine m_callS F e_X9_sum_11 (s_X9_isSort (x_l X) V b M Z T _ _ x902 h1.1  (by omega)) cb_X9_isSort ml_X9_281 sm_X9_isSort rfl (rest := []) rfl (Nat.le_of_ble_eq_true rfl) ⟨Nat.le_of_ble_eq_true rfl, Nat.le_of_ble_eq_true rfl⟩ ⟨Nat.le_of_ble_eq_true rfl, Nat.le_of_ble_eq_true rfl⟩ (k' := 0) (z' := 0) (N' := N) rfl rfl rfl (fun r σ2609 hp => ?_)
      obtain ⟨h2611, n2612, hn2612, rfl⟩ := hp
      have h2610 := HK.trans h1 h2611 (by decide)
      refine m_if_ne F e_X9_sum_14 (fun q14 => ?_) (fun q14 => ?_)
      · have c14 : n2612 ≠ 0 := by have hh := mt (nI_eq (a := n2612) (b := 0) (by omega) (by omega)).mpr q14; omega
        refine m_lconst F (v := 0) (by decide) e_X9_sum_21 ?_
        refine m_lstore_n F (lv' := [(3, .long 0), (0, .ref a), (1, .int (nI n2608)), (2, .int x902)]) e_X9_sum_22 (by decide) rfl ?_
        refine m_aload_n F rfl e_X9_sum_23 ?_
        refine t_get F e_X9_sum_24 fl_X9_16 (fun _ => o1) h2610 hk rfl (fun v hv f2613 => ?_)
        obtain ⟨r2614, k2615, rfl⟩ := hv
        refine t_get F e_X9_sum_27 fl_X9_186 (fun _ => o7) h2610 k2615 rfl (fun v hv f2616 => ?_)
        obtain rfl : v = .ref (r2614 + 5) := hv
        obtain ⟨v9, ⟨n2617, hn2617, rfl⟩, f2618⟩ := HK.f (j := 2) h2610 (fun _ => o12) (kA_7 k2615 (r := 5) (by decide)) rfl
        replace hn2617 : n2617 ≤ M := hn2617
        refine t_callV F e_X9_sum_30 (s_X3_kept (x_l X) V b M Z T _ _ (r2614 + 5) n2617 h2610.1 (kA_7 k2615 (r := 5) (by decide)) (f2618) (by omega) (by omega)) cb_X3_kept ml_X9_196 im_X3_kept se_X3_kept (fun _ => o12) h2610 (kA_7 k2615 (r := 5) (by decide)) rfl rfl (rest := []) rfl (Nat.le_of_ble_eq_true rfl) ⟨Nat.le_of_ble_eq_true rfl, Nat.le_of_ble_eq_true rfl⟩ ⟨Nat.le_of_ble_eq_true rfl, Nat.le_of_ble_eq_true rfl⟩ (fun r σ2619 hp => ?_)
        obtain ⟨h2621, n2622, hn2622, gn2622, rfl⟩ := hp
        have h2620 := HK.trans h2610 h2621 (by decide)
        refine m_istore F (lv' := [(5, .int (nI n2622)), (3, .long 0), (0, .ref a), (1, .int (nI n2608)), (2, .int x902)]) e_X9_sum_33 (by decide) rfl ?_
        refine m_iconst F (v := 0) (by decide) e_X9_sum_35 ?_
        refine m_istore F (lv' := [(6, .int 0), (5, .int (nI n2622)), (3, .long 0), (0, .ref a), (1, .int (nI n2608)), (2, .int x902)]) e_X9_sum_36 (by decide) rfl ?_
        exact lp_X9_sum_38 F hQ hk hM (40 - 0 + 1) 0 n2622 0 n2608 x902 _ h2620 (by omega) (Nat.lt_succ_self _)
      · have c14 : n2612 = 0 := (nI_eq (a := n2612) (b := 0) (by omega) (by omega)).mp q14
        refine m_ldc2 F kc_X9_184 e_X9_sum_17 ?_
        exact m_lret F hQ e_X9_sum_20 (⟨h2610, _, rfl⟩)
set_option maxRecDepth 20000 in
theorem s_X9_moved (l : Launch) (V : VX) (b M Z T N : Nat) (σ : Mem) (a : Nat) (x901 : Int32) (x902 : Int32) (h0 : HT V (b, M, Z, T) σ) (hk : kA b a = 1) (hM : M + 0 ≤ 1000000000) : Ct l V yX9_moved cX9_moved 4 (some .long) 1 0 0 N σ [.ref a, .int x901, .int x902] (fun r τ => HK V (b, M, Z, T) [0, 1, 2, 3, 4, 5, 6, 7, 8, 9, 10, 11, 12, 13, 14, 15, 16, 17, 18, 19] σ τ ∧ ∃ x : Int64, r = some (.long x)) := by
  refine Ct.of (by decide) (Nat.le_of_ble_eq_true rfl) [(0, .ref a), (1, .int x901), (2, .int x902)] rfl (fun X hX F hQ => ?_)
  have h1 : HK V (b, M, Z, T) [0, 1, 2, 3, 4, 5, 6, 7, 8, 9, 10, 11, 12, 13, 14, 15, 16, 17, 18, 19] σ σ := HK.start h0
  refine m_aload_n F rfl e_X9_moved_0 ?_
  refine m_iload_n F rfl e_X9_moved_1 ?_
  refine t_callV F e_X9_moved_2 (s_X9_leaseAt (x_l X) V b M Z T _ _ a x901 h1.1 hk  (by omega)) cb_X9_leaseAt ml_X9_103 im_X9_leaseAt se_X9_leaseAt (fun _ => o1) h1 hk rfl rfl (rest := []) rfl (Nat.le_of_ble_eq_true rfl) ⟨Nat.le_of_ble_eq_true rfl, Nat.le_of_ble_eq_true rfl⟩ ⟨Nat.le_of_ble_eq_true rfl, Nat.le_of_ble_eq_true rfl⟩ (fun r σ2623 hp => ?_)
  obtain ⟨h2625, c2626⟩ := hp
  have h2624 := HK.trans h1 h2625 (by decide)
  rcases c2626 with rfl | ⟨n2627, r2628, hn2627, en2627, k2629, rfl⟩
  · refine m_astore_nN F (lv' := [(3, .null), (0, .ref a), (1, .int x901), (2, .int x902)]) e_X9_moved_5 (by decide) rfl ?_
    refine m_aload_nN F rfl e_X9_moved_6 ?_
    refine m_ifnullN F e_X9_moved_7 ?_
    refine m_ldc2 F kc_X9_184 e_X9_moved_19 ?_
    exact m_lret F hQ e_X9_moved_22 (⟨h2624, _, rfl⟩)
  · subst en2627
    refine m_astore_n F (lv' := [(3, .ref r2628), (0, .ref a), (1, .int (nI n2627)), (2, .int x902)]) e_X9_moved_5 (by decide) rfl ?_
    refine m_aload_n F rfl e_X9_moved_6 ?_
    refine m_ifnullR F e_X9_moved_7 ?_
    refine m_iload_n F rfl e_X9_moved_10 ?_
    refine m_if_lt F e_X9_moved_11 (fun q11 => ?_) (fun q11 => ?_)
    · refine m_ldc2 F kc_X9_184 e_X9_moved_19 ?_
      exact m_lret F hQ e_X9_moved_22 (⟨h2624, _, rfl⟩)
    · obtain ⟨n2630, hn2630, rfl⟩ := nI_nn (x := x902) (fun e => q11 (Int32.lt_of_lt_of_le e (by decide)))
      have c11 : n2630 ≥ 0 := by have hh := mt (nI_ltI (a := n2630) (b := 0) (by omega) (by omega)).mpr q11; omega
      refine m_iload_n F rfl e_X9_moved_14 ?_
      refine m_iconst F (v := 5) (by decide) e_X9_moved_15 ?_
      refine m_icmp_lt F e_X9_moved_16 (fun q16 => ?_) (fun q16 => ?_)
      · have c16 : n2630 < 5 := (nI_ltI (a := n2630) (b := 5) (by omega) (by omega)).mp q16
        refine m_aload_n F rfl e_X9_moved_23 ?_
        refine t_get F e_X9_moved_24 fl_X9_275 (fun _ => o15) h2624 k2629 rfl (fun v hv f2631 => ?_)
        obtain ⟨r2632, k2633, rfl⟩ := hv
        refine m_iload_n F rfl e_X9_moved_27 ?_
        refine t_lald F (len := 5) (j := n2630) e_X9_moved_28 (fun _ => o18) h2624 k2633 (nI_clamp (by omega)) (vp_in_nI (by omega) (by decide)) (fun x2634 => ?_)
        exact m_lret F hQ e_X9_moved_29 (⟨h2624, _, rfl⟩)
      · have c16 : n2630 ≥ 5 := by have hh := mt (nI_ltI (a := n2630) (b := 5) (by omega) (by omega)).mpr q16; omega
        refine m_ldc2 F kc_X9_184 e_X9_moved_19 ?_
        exact m_lret F hQ e_X9_moved_22 (⟨h2624, _, rfl⟩)
set_option maxRecDepth 20000 in
theorem lp_X9_choose_66 {V : VX} {X : MX} {b M Z T N : Nat} {σ : Mem} {a : Nat}   (F : Fx V X yX9_choose cX9_choose 9 (some .int) (rmd 6 0 0)) (hQ : Rt V X 0 0 N (fun r τ => HK V (b, M, Z, T) [0, 1, 2, 3, 4, 5, 7, 8, 9, 10, 11, 12, 13, 14, 16, 19] σ τ ∧ ∃ x : Int32, r = some (.int x))) (hk : kA b a = 1) (hM : M + 0 ≤ 1000000000)  : ∀ (fuel : Nat) (i : Nat) (u1 : Int32) (u2 : Int32) (u3 : Int32) (q1 : Nat) (q2 : Nat) (q3 : Nat) (q4 : Nat) (τ : Mem), HK V (b, M, Z, T) [0, 1, 2, 3, 4, 5, 7, 8, 9, 10, 11, 12, 13, 14, 16, 19] σ τ → kA b q1 = 15 ∧ kA b q2 = 15 ∧ kA b q3 = 6 ∧ kA b q4 = 6 ∧ i ≤ 16 → 16 - i < fuel → Wm V X 9 N τ 0 0 66 [(8, .int (nI i)), (6, .int u1), (7, .int u2), (0, .ref a), (1, .int u3), (2, .ref q1), (3, .ref q2), (4, .ref q3), (5, .ref q4)] [] := by
  intro fuel
  induction fuel with
  | zero => intro i u1 u2 u3 q1 q2 q3 q4 τ h1 hi hm; exact absurd hm (Nat.not_lt_zero _)
  | succ fuel ih =>
    intro i u1 u2 u3 q1 q2 q3 q4 τ h1 hi hm
    obtain ⟨kq1, kq2, kq3, kq4, hi⟩ := hi
    refine m_iload F rfl e_X9_choose_66 ?_
    refine m_bipush F (v := 16) (by decide) e_X9_choose_68 ?_
    refine m_icmp_ge F e_X9_choose_70 (fun q70 => ?_) (fun q70 => ?_)
    · have c70 : i ≥ 16 := (nI_leI (a := 16) (b := i) (by omega) (by omega)).mp q70
      refine m_iload F rfl e_X9_choose_149 ?_
      exact m_iret F hQ e_X9_choose_151 (⟨h1, _, rfl⟩)
    · have c70 : i < 16 := by have hh := mt (nI_leI (a := 16) (b := i) (by omega) (by omega)).mpr q70; omega
      refine m_aload_n F rfl e_X9_choose_73 ?_
      refine t_get F e_X9_choose_74 fl_X9_16 (fun _ => o1) h1 hk rfl (fun v hv f2635 => ?_)
      obtain ⟨r2636, k2637, rfl⟩ := hv
      refine m_iload_n F rfl e_X9_choose_77 ?_
      refine m_iload F rfl e_X9_choose_78 ?_
      refine t_callV F e_X9_choose_80 (s_X2_canTakeSet (x_l X) V b M Z T _ _ r2636 u3 (nI i) h1.1 k2637  (by omega)) cb_X2_canTakeSet ml_X9_287 im_X2_canTakeSet se_X2_canTakeSet (fun _ => o7) h1 k2637 rfl rfl (rest := []) rfl (Nat.le_of_ble_eq_true rfl) ⟨Nat.le_of_ble_eq_true rfl, Nat.le_of_ble_eq_true rfl⟩ ⟨Nat.le_of_ble_eq_true rfl, Nat.le_of_ble_eq_true rfl⟩ (fun r σ2638 hp => ?_)
      obtain ⟨h2640, n2641, hn2641, rfl⟩ := hp
      have h2639 := HK.trans h1 h2640 (by decide)
      refine m_if_ne F e_X9_choose_83 (fun q83 => ?_) (fun q83 => ?_)
      · have c83 : n2641 ≠ 0 := by have hh := mt (nI_eq (a := n2641) (b := 0) (by omega) (by omega)).mpr q83; omega
        refine m_aload_n F rfl e_X9_choose_89 ?_
        refine m_aload_n F rfl e_X9_choose_90 ?_
        refine t_callV F e_X9_choose_91 (s_X5_copyFrom (x_l X) V b M Z T _ _ q2 q1 h2639.1 kq2 kq1 (by omega)) cb_X5_copyFrom ml_X9_291 im_X5_copyFrom se_X5_copyFrom (fun _ => o15) h2639 kq2 rfl rfl (rest := []) rfl (Nat.le_of_ble_eq_true rfl) ⟨Nat.le_of_ble_eq_true rfl, Nat.le_of_ble_eq_true rfl⟩ ⟨Nat.le_of_ble_eq_true rfl, Nat.le_of_ble_eq_true rfl⟩ (fun r σ2642 hp => ?_)
        obtain ⟨h2644, rfl⟩ := hp
        have h2643 := HK.trans h2639 h2644 (by decide)
        refine m_aload_n F rfl e_X9_choose_94 ?_
        refine t_getC F e_X9_choose_95 fl_X9_16 (fun _ => o1) h2643 hk ((fld_eq (h2644.2 a (by rw [show kA _ a = 1 from hk]; decide))).trans ((fld_eq (h2640.2 a (by rw [show kA _ a = 1 from hk]; decide))).trans f2635)) ?_
        refine m_aload_n F rfl e_X9_choose_98 ?_
        refine m_iload F rfl e_X9_choose_99 ?_
        refine t_callV F e_X9_choose_101 (s_X2_goOnBySet (x_l X) V b M Z T _ _ r2636 q2 (nI i) h2643.1 k2637 kq2 (by omega)) cb_X2_goOnBySet ml_X9_294 im_X2_goOnBySet se_X2_goOnBySet (fun _ => o7) h2643 k2637 rfl rfl (rest := []) rfl (Nat.le_of_ble_eq_true rfl) ⟨Nat.le_of_ble_eq_true rfl, Nat.le_of_ble_eq_true rfl⟩ ⟨Nat.le_of_ble_eq_true rfl, Nat.le_of_ble_eq_true rfl⟩ (fun r σ2645 hp => ?_)
        obtain ⟨h2647, rfl⟩ := hp
        have h2646 := HK.trans h2643 h2647 (by decide)
        refine m_aload_n F rfl e_X9_choose_104 ?_
        refine m_aload F rfl e_X9_choose_105 ?_
        refine t_callV F e_X9_choose_107 (s_X5_worthLeft (x_l X) V b M Z T _ _ q2 q3 h2646.1 kq2 kq3 (by omega)) cb_X5_worthLeft ml_X9_298 im_X5_worthLeft se_X5_worthLeft (fun _ => o15) h2646 kq2 rfl rfl (rest := []) rfl (Nat.le_of_ble_eq_true rfl) ⟨Nat.le_of_ble_eq_true rfl, Nat.le_of_ble_eq_true rfl⟩ ⟨Nat.le_of_ble_eq_true rfl, Nat.le_of_ble_eq_true rfl⟩ (fun r σ2648 hp => ?_)
        obtain ⟨h2650, rfl⟩ := hp
        have h2649 := HK.trans h2646 h2650 (by decide)
        refine m_aload F rfl e_X9_choose_110 ?_
        refine m_iload F rfl e_X9_choose_112 ?_
        refine m_aload F rfl e_X9_choose_114 ?_
        refine m_aload_n F rfl e_X9_choose_116 ?_
        refine t_callV F e_X9_choose_117 (s_X5_left (x_l X) V b M Z T _ _ q2  h2649.1 kq2  (by omega)) cb_X5_left ml_X9_128 im_X5_left se_X5_left (fun _ => o15) h2649 kq2 rfl rfl (rest := [.ref q3, .int u2, .ref q4]) rfl (Nat.le_of_ble_eq_true rfl) ⟨Nat.le_of_ble_eq_true rfl, Nat.le_of_ble_eq_true rfl⟩ ⟨Nat.le_of_ble_eq_true rfl, Nat.le_of_ble_eq_true rfl⟩ (fun r σ2651 hp => ?_)
        obtain ⟨h2653, x2654, rfl⟩ := hp
        have h2652 := HK.trans h2649 h2653 (by decide)
        refine t_callV F e_X9_choose_120 (s_X1_isGreaterShare (x_l X) V b M Z T _ _ q4 u2 q3 x2654 h2652.1 kq4 kq3 (by omega)) cb_X1_isGreaterShare ml_X9_301 im_X1_isGreaterShare se_X1_isGreaterShare (fun _ => o6) h2652 kq4 rfl rfl (rest := []) rfl (Nat.le_of_ble_eq_true rfl) ⟨Nat.le_of_ble_eq_true rfl, Nat.le_of_ble_eq_true rfl⟩ ⟨Nat.le_of_ble_eq_true rfl, Nat.le_of_ble_eq_true rfl⟩ (fun r σ2655 hp => ?_)
        obtain ⟨h2657, n2658, hn2658, rfl⟩ := hp
        have h2656 := HK.trans h2652 h2657 (by decide)
        refine m_if_eq F e_X9_choose_123 (fun q123 => ?_) (fun q123 => ?_)
        · have c123 : n2658 = 0 := (nI_eq (a := n2658) (b := 0) (by omega) (by omega)).mp q123
          refine m_iinc F (v := nI (i + 1)) (lv' := [(8, .int (nI (i + 1))), (6, .int u1), (7, .int u2), (0, .ref a), (1, .int u3), (2, .ref q1), (3, .ref q2), (4, .ref q3), (5, .ref q4)]) e_X9_choose_143 rfl (nI_add i 1) (by decide) rfl ?_
          refine m_goto F e_X9_choose_146 ?_
          exact ih (i + 1) u1 u2 u3 q1 q2 q3 q4 _ h2656 ⟨kq1, kq2, kq3, kq4, (by omega)⟩ (by omega)
        · have c123 : n2658 ≠ 0 := by have hh := mt (nI_eq (a := n2658) (b := 0) (by omega) (by omega)).mpr q123; omega
          refine m_iload F rfl e_X9_choose_126 ?_
          refine m_istore F (lv' := [(6, .int (nI i)), (8, .int (nI i)), (7, .int u2), (0, .ref a), (1, .int u3), (2, .ref q1), (3, .ref q2), (4, .ref q3), (5, .ref q4)]) e_X9_choose_128 (by decide) rfl ?_
          refine m_aload F rfl e_X9_choose_130 ?_
          refine m_aload F rfl e_X9_choose_132 ?_
          refine t_callV F e_X9_choose_134 (s_X1_copyFrom (x_l X) V b M Z T _ _ q4 q3 h2656.1 kq4 kq3 (by omega)) cb_X1_copyFrom ml_X9_284 im_X1_copyFrom se_X1_copyFrom (fun _ => o6) h2656 kq4 rfl rfl (rest := []) rfl (Nat.le_of_ble_eq_true rfl) ⟨Nat.le_of_ble_eq_true rfl, Nat.le_of_ble_eq_true rfl⟩ ⟨Nat.le_of_ble_eq_true rfl, Nat.le_of_ble_eq_true rfl⟩ (fun r σ2659 hp => ?_)
          obtain ⟨h2661, rfl⟩ := hp
          have h2660 := HK.trans h2656 h2661 (by decide)
          refine m_aload_n F rfl e_X9_choose_137 ?_
          refine t_callV F e_X9_choose_138 (s_X5_left (x_l X) V b M Z T _ _ q2  h2660.1 kq2  (by omega)) cb_X5_left ml_X9_128 im_X5_left se_X5_left (fun _ => o15) h2660 kq2 rfl rfl (rest := []) rfl (Nat.le_of_ble_eq_true rfl) ⟨Nat.le_of_ble_eq_true rfl, Nat.le_of_ble_eq_true rfl⟩ ⟨Nat.le_of_ble_eq_true rfl, Nat.le_of_ble_eq_true rfl⟩ (fun r σ2662 hp => ?_)
          obtain ⟨h2664, x2665, rfl⟩ := hp
          have h2663 := HK.trans h2660 h2664 (by decide)
          refine m_istore F (lv' := [(7, .int x2665), (6, .int (nI i)), (8, .int (nI i)), (0, .ref a), (1, .int u3), (2, .ref q1), (3, .ref q2), (4, .ref q3), (5, .ref q4)]) e_X9_choose_141 (by decide) rfl ?_
          refine m_iinc F (v := nI (i + 1)) (lv' := [(8, .int (nI (i + 1))), (7, .int x2665), (6, .int (nI i)), (0, .ref a), (1, .int u3), (2, .ref q1), (3, .ref q2), (4, .ref q3), (5, .ref q4)]) e_X9_choose_143 rfl (nI_add i 1) (by decide) rfl ?_
          refine m_goto F e_X9_choose_146 ?_
          refine Wm.lvsub (lv' := [(8, .int (nI (i + 1))), (6, .int (nI i)), (7, .int x2665), (0, .ref a), (1, .int u3), (2, .ref q1), (3, .ref q2), (4, .ref q3), (5, .ref q4)]) ?_ [0, 2, 1, 3, 4, 5, 6, 7, 8] rfl
          exact ih (i + 1) (nI i) x2665 u3 q1 q2 q3 q4 _ h2663 ⟨kq1, kq2, kq3, kq4, (by omega)⟩ (by omega)
      · have c83 : n2641 = 0 := (nI_eq (a := n2641) (b := 0) (by omega) (by omega)).mp q83
        refine m_goto F e_X9_choose_86 ?_
        refine m_iinc F (v := nI (i + 1)) (lv' := [(8, .int (nI (i + 1))), (6, .int u1), (7, .int u2), (0, .ref a), (1, .int u3), (2, .ref q1), (3, .ref q2), (4, .ref q3), (5, .ref q4)]) e_X9_choose_143 rfl (nI_add i 1) (by decide) rfl ?_
        refine m_goto F e_X9_choose_146 ?_
        exact ih (i + 1) u1 u2 u3 q1 q2 q3 q4 _ h2639 ⟨kq1, kq2, kq3, kq4, (by omega)⟩ (by omega)
set_option maxRecDepth 20000 in
theorem s_X9_choose (l : Launch) (V : VX) (b M Z T N : Nat) (σ : Mem) (a : Nat) (x901 : Int32) (h0 : HT V (b, M, Z, T) σ) (hk : kA b a = 1) (hM : M + 0 ≤ 1000000000) : Ct l V yX9_choose cX9_choose 9 (some .int) 6 0 0 N σ [.ref a, .int x901] (fun r τ => HK V (b, M, Z, T) [0, 1, 2, 3, 4, 5, 7, 8, 9, 10, 11, 12, 13, 14, 16, 19] σ τ ∧ ∃ x : Int32, r = some (.int x)) := by
  refine Ct.of (by decide) (Nat.le_of_ble_eq_true rfl) [(0, .ref a), (1, .int x901)] rfl (fun X hX F hQ => ?_)
  have h1 : HK V (b, M, Z, T) [0, 1, 2, 3, 4, 5, 7, 8, 9, 10, 11, 12, 13, 14, 16, 19] σ σ := HK.start h0
  refine m_aload_n F rfl e_X9_choose_0 ?_
  refine m_iload_n F rfl e_X9_choose_1 ?_
  refine t_callV F e_X9_choose_2 (s_X9_leaseAt (x_l X) V b M Z T _ _ a x901 h1.1 hk  (by omega)) cb_X9_leaseAt ml_X9_103 im_X9_leaseAt se_X9_leaseAt (fun _ => o1) h1 hk rfl rfl (rest := []) rfl (Nat.le_of_ble_eq_true rfl) ⟨Nat.le_of_ble_eq_true rfl, Nat.le_of_ble_eq_true rfl⟩ ⟨Nat.le_of_ble_eq_true rfl, Nat.le_of_ble_eq_true rfl⟩ (fun r σ2666 hp => ?_)
  obtain ⟨h2668, c2669⟩ := hp
  have h2667 := HK.trans h1 h2668 (by decide)
  rcases c2669 with rfl | ⟨n2670, r2671, hn2670, en2670, k2672, rfl⟩
  · refine m_ifnonnullN F e_X9_choose_5 ?_
    refine m_iconst F (v := (-1)) (by decide) e_X9_choose_8 ?_
    exact m_iret F hQ e_X9_choose_9 (⟨h2667, _, rfl⟩)
  · subst en2670
    refine m_ifnonnullR F e_X9_choose_5 ?_
    refine m_aload_n F rfl e_X9_choose_10 ?_
    refine m_iload_n F rfl e_X9_choose_11 ?_
    refine t_callV F e_X9_choose_12 (s_X9_runningAt (x_l X) V b M Z T _ _ a (nI n2670) h2667.1 hk  (by omega)) cb_X9_runningAt ml_X9_203 im_X9_runningAt se_X9_runningAt (fun _ => o1) h2667 hk rfl rfl (rest := []) rfl (Nat.le_of_ble_eq_true rfl) ⟨Nat.le_of_ble_eq_true rfl, Nat.le_of_ble_eq_true rfl⟩ ⟨Nat.le_of_ble_eq_true rfl, Nat.le_of_ble_eq_true rfl⟩ (fun r σ2673 hp => ?_)
    obtain ⟨h2675, c2676⟩ := hp
    have h2674 := HK.trans h2667 h2675 (by decide)
    rcases c2676 with rfl | ⟨n2677, r2678, hn2677, en2677, k2679, rfl⟩
    · refine m_astore_nN F (lv' := [(2, .null), (0, .ref a), (1, .int (nI n2670))]) e_X9_choose_15 (by decide) rfl ?_
      refine m_aload_nN F rfl e_X9_choose_16 ?_
      refine m_ifnonnullN F e_X9_choose_17 ?_
      refine m_bipush F (v := (-2)) (by decide) e_X9_choose_20 ?_
      exact m_iret F hQ e_X9_choose_22 (⟨h2674, _, rfl⟩)
    · refine m_astore_n F (lv' := [(2, .ref r2678), (0, .ref a), (1, .int (nI n2670))]) e_X9_choose_15 (by decide) rfl ?_
      refine m_aload_n F rfl e_X9_choose_16 ?_
      refine m_ifnonnullR F e_X9_choose_17 ?_
      refine m_aload_n F rfl e_X9_choose_23 ?_
      refine t_get F e_X9_choose_24 fl_X9_20 (fun _ => o1) h2674 hk rfl (fun v hv f2680 => ?_)
      obtain ⟨r2681, k2682, rfl⟩ := hv
      refine t_get F e_X9_choose_27 fl_X9_226 (fun _ => o7) h2674 k2682 rfl (fun v hv f2683 => ?_)
      obtain rfl : v = .ref (r2681 + 1) := hv
      refine m_iconst F (v := 0) (by decide) e_X9_choose_30 ?_
      refine t_aald8 F (j := 0) e_X9_choose_31 rfl h2674 (kA_7 k2682 (r := 1) (by decide)) (by decide) (by unfold vp_in; decide) ?_
      refine m_astore_n F (lv' := [(3, .ref ((r2681 + 1) + 10 + 12 * 0)), (2, .ref r2678), (0, .ref a), (1, .int (nI n2670))]) e_X9_choose_32 (by decide) rfl ?_
      refine m_aload_n F rfl e_X9_choose_33 ?_
      refine t_get F e_X9_choose_34 fl_X9_42 (fun _ => o1) h2674 hk rfl (fun v hv f2684 => ?_)
      obtain ⟨r2685, k2686, rfl⟩ := hv
      refine m_astore F (lv' := [(4, .ref r2685), (3, .ref ((r2681 + 1) + 10 + 12 * 0)), (2, .ref r2678), (0, .ref a), (1, .int (nI n2670))]) e_X9_choose_37 (by decide) rfl ?_
      refine m_aload_n F rfl e_X9_choose_39 ?_
      refine t_get F e_X9_choose_40 fl_X9_46 (fun _ => o1) h2674 hk rfl (fun v hv f2687 => ?_)
      obtain ⟨r2688, k2689, rfl⟩ := hv
      refine m_astore F (lv' := [(5, .ref r2688), (4, .ref r2685), (3, .ref ((r2681 + 1) + 10 + 12 * 0)), (2, .ref r2678), (0, .ref a), (1, .int (nI n2670))]) e_X9_choose_43 (by decide) rfl ?_
      refine m_aload F rfl e_X9_choose_45 ?_
      refine m_aload_n F rfl e_X9_choose_47 ?_
      refine t_get F e_X9_choose_48 fl_X9_151 (fun _ => o15) h2674 k2679 rfl (fun v hv f2690 => ?_)
      obtain ⟨r2691, k2692, rfl⟩ := hv
      refine t_callV F e_X9_choose_51 (s_X1_copyFrom (x_l X) V b M Z T _ _ r2688 r2691 h2674.1 k2689 k2692 (by omega)) cb_X1_copyFrom ml_X9_284 im_X1_copyFrom se_X1_copyFrom (fun _ => o6) h2674 k2689 rfl rfl (rest := []) rfl (Nat.le_of_ble_eq_true rfl) ⟨Nat.le_of_ble_eq_true rfl, Nat.le_of_ble_eq_true rfl⟩ ⟨Nat.le_of_ble_eq_true rfl, Nat.le_of_ble_eq_true rfl⟩ (fun r σ2693 hp => ?_)
      obtain ⟨h2695, rfl⟩ := hp
      have h2694 := HK.trans h2674 h2695 (by decide)
      refine m_iconst F (v := 0) (by decide) e_X9_choose_54 ?_
      refine m_istore F (lv' := [(6, .int 0), (5, .ref r2688), (4, .ref r2685), (3, .ref ((r2681 + 1) + 10 + 12 * 0)), (2, .ref r2678), (0, .ref a), (1, .int (nI n2670))]) e_X9_choose_55 (by decide) rfl ?_
      refine m_aload_n F rfl e_X9_choose_57 ?_
      refine t_callV F e_X9_choose_58 (s_X5_left (x_l X) V b M Z T _ _ r2678  h2694.1 k2679  (by omega)) cb_X5_left ml_X9_128 im_X5_left se_X5_left (fun _ => o15) h2694 k2679 rfl rfl (rest := []) rfl (Nat.le_of_ble_eq_true rfl) ⟨Nat.le_of_ble_eq_true rfl, Nat.le_of_ble_eq_true rfl⟩ ⟨Nat.le_of_ble_eq_true rfl, Nat.le_of_ble_eq_true rfl⟩ (fun r σ2696 hp => ?_)
      obtain ⟨h2698, x2699, rfl⟩ := hp
      have h2697 := HK.trans h2694 h2698 (by decide)
      refine m_istore F (lv' := [(7, .int x2699), (6, .int 0), (5, .ref r2688), (4, .ref r2685), (3, .ref ((r2681 + 1) + 10 + 12 * 0)), (2, .ref r2678), (0, .ref a), (1, .int (nI n2670))]) e_X9_choose_61 (by decide) rfl ?_
      refine m_iconst F (v := 1) (by decide) e_X9_choose_63 ?_
      refine m_istore F (lv' := [(8, .int 1), (7, .int x2699), (6, .int 0), (5, .ref r2688), (4, .ref r2685), (3, .ref ((r2681 + 1) + 10 + 12 * 0)), (2, .ref r2678), (0, .ref a), (1, .int (nI n2670))]) e_X9_choose_64 (by decide) rfl ?_
      refine Wm.lvsub (lv' := [(8, .int 1), (6, .int 0), (7, .int x2699), (0, .ref a), (1, .int (nI n2670)), (2, .ref r2678), (3, .ref ((r2681 + 1) + 10 + 12 * 0)), (4, .ref r2685), (5, .ref r2688)]) ?_ [0, 2, 1, 7, 8, 6, 5, 4, 3] rfl
      exact lp_X9_choose_66 F hQ hk hM (16 - 1 + 1) 1 0 x2699 (nI n2670) r2678 ((r2681 + 1) + 10 + 12 * 0) r2685 r2688 _ h2697 ⟨k2679, (kA_8 (kA_7 k2682 (r := 1) (by decide)) (j := 0) (by omega)), k2686, k2689, (by omega)⟩ (Nat.lt_succ_self _)
set_option maxRecDepth 20000 in
theorem lp_X9_life_74 {V : VX} {X : MX} {b M Z T N : Nat} {σ : Mem} {a : Nat} {n902 : Nat}  (F : Fx V X yX9_life cX9_life 8 (some .long) (rmd 2 0 0)) (hQ : Rt V X 0 0 N (fun r τ => HK V (b, M, Z, T) [0, 1, 2, 3, 4, 5, 7, 8, 9, 10, 11, 12, 13, 14, 15, 16, 17, 18, 19] σ τ ∧ ∃ x : Int64, r = some (.long x))) (hk : kA b a = 1) (hn902 : n902 ≤ 1) (hM : M + 0 ≤ 1000000000)  : ∀ (fuel : Nat) (i1 : Int32) (u1 : Int32) (u3 : Int32) (q1 : Nat) (q3 : Nat) (q4 : Nat) (w1 : Int32) (τ : Mem), HK V (b, M, Z, T) [0, 1, 2, 3, 4, 5, 7, 8, 9, 10, 11, 12, 13, 14, 15, 16, 17, 18, 19] σ τ → kA b q1 = 15 ∧ kA b q3 = 6 ∧ kA b q4 = 6 ∧ fld τ q1 2 = some (.int w1) ∧ True → (w1.toInt - i1.toInt).toNat < fuel → Wm V X 8 N τ 0 0 74 [(7, .int i1), (6, .int u1), (0, .ref a), (1, .int u3), (2, .int (nI n902)), (3, .ref q1), (4, .ref q3), (5, .ref q4)] [] := by
  intro fuel
  induction fuel with
  | zero => intro i1 u1 u3 q1 q3 q4 w1 τ h1 hi hm; exact absurd hm (Nat.not_lt_zero _)
  | succ fuel ih =>
    intro i1 u1 u3 q1 q3 q4 w1 τ h1 hi hm
    obtain ⟨kq1, kq3, kq4, hfw1, hi⟩ := hi
    refine m_iload F rfl e_X9_life_74 ?_
    refine m_aload_n F rfl e_X9_life_76 ?_
    refine t_getC F e_X9_life_77 fl_X9_119 (fun _ => o15) h1 kq1 (hfw1) ?_
    refine m_icmp_ge F e_X9_life_80 (fun q80 => ?_) (fun q80 => ?_)
    · refine m_aload F rfl e_X9_life_133 ?_
      refine t_callV F e_X9_life_135 (s_X1_isZero (x_l X) V b M Z T _ _ q4  h1.1 kq4  (by omega)) cb_X1_isZero ml_X9_314 im_X1_isZero se_X1_isZero (fun _ => o6) h1 kq4 rfl rfl (rest := []) rfl (Nat.le_of_ble_eq_true rfl) ⟨Nat.le_of_ble_eq_true rfl, Nat.le_of_ble_eq_true rfl⟩ ⟨Nat.le_of_ble_eq_true rfl, Nat.le_of_ble_eq_true rfl⟩ (fun r σ2700 hp => ?_)
      obtain ⟨h2702, n2703, hn2703, rfl⟩ := hp
      have h2701 := HK.trans h1 h2702 (by decide)
      refine m_if_eq F e_X9_life_138 (fun q138 => ?_) (fun q138 => ?_)
      · have c138 : n2703 = 0 := (nI_eq (a := n2703) (b := 0) (by omega) (by omega)).mp q138
        refine m_aload F rfl e_X9_life_145 ?_
        refine m_aload F rfl e_X9_life_147 ?_
        refine m_iload_n F rfl e_X9_life_149 ?_
        refine m_callS F e_X9_life_150 (s_X9_leastTerm (x_l X) V b M Z T _ _ q3 q4 n902 h2701.1 kq3 kq4 (by omega) (by omega)) cb_X9_leastTerm ml_X9_320 sm_X9_leastTerm rfl (rest := []) rfl (Nat.le_of_ble_eq_true rfl) ⟨Nat.le_of_ble_eq_true rfl, Nat.le_of_ble_eq_true rfl⟩ ⟨Nat.le_of_ble_eq_true rfl, Nat.le_of_ble_eq_true rfl⟩ (k' := 0) (z' := 0) (N' := N) rfl rfl rfl (fun r σ2704 hp => ?_)
        obtain ⟨h2706, x2707, rfl⟩ := hp
        have h2705 := HK.trans h2701 h2706 (by decide)
        exact m_lret F hQ e_X9_life_153 (⟨h2705, _, rfl⟩)
      · have c138 : n2703 ≠ 0 := by have hh := mt (nI_eq (a := n2703) (b := 0) (by omega) (by omega)).mpr q138; omega
        refine m_ldc2 F kc_X9_318 e_X9_life_141 ?_
        exact m_lret F hQ e_X9_life_144 (⟨h2701, _, rfl⟩)
    · refine m_aload_n F rfl e_X9_life_83 ?_
      refine t_get F e_X9_life_84 fl_X9_165 (fun _ => o15) h1 kq1 rfl (fun v hv f2708 => ?_)
      obtain ⟨r2709, k2710, rfl⟩ := hv
      refine m_iload F rfl e_X9_life_87 ?_
      refine m_aload_n F rfl e_X9_life_89 ?_
      refine t_get F e_X9_life_90 fl_X9_49 (fun _ => o1) h1 hk rfl (fun v hv f2711 => ?_)
      obtain ⟨r2712, k2713, rfl⟩ := hv
      refine t_callV F e_X9_life_93 (s_X8_copyTo (x_l X) V b M Z T _ _ r2709 i1 r2712 h1.1 k2710 k2713 (by omega)) cb_X8_copyTo ml_X9_169 im_X8_copyTo se_X8_copyTo (fun _ => o16) h1 k2710 rfl rfl (rest := []) rfl (Nat.le_of_ble_eq_true rfl) ⟨Nat.le_of_ble_eq_true rfl, Nat.le_of_ble_eq_true rfl⟩ ⟨Nat.le_of_ble_eq_true rfl, Nat.le_of_ble_eq_true rfl⟩ (fun r σ2714 hp => ?_)
      obtain ⟨h2716, rfl⟩ := hp
      have h2715 := HK.trans h1 h2716 (by decide)
      refine m_aload F rfl e_X9_life_96 ?_
      refine m_aload_n F rfl e_X9_life_98 ?_
      refine t_getC F e_X9_life_99 fl_X9_49 (fun _ => o1) h2715 hk ((fld_eq (h2716.2 a (by rw [show kA _ a = 1 from hk]; decide))).trans f2711) ?_
      refine t_callV F e_X9_life_102 (s_X1_add (x_l X) V b M Z T _ _ q4 r2712 h2715.1 kq4 k2713 (by omega)) cb_X1_add ml_X9_308 im_X1_add se_X1_add (fun _ => o6) h2715 kq4 rfl rfl (rest := []) rfl (Nat.le_of_ble_eq_true rfl) ⟨Nat.le_of_ble_eq_true rfl, Nat.le_of_ble_eq_true rfl⟩ ⟨Nat.le_of_ble_eq_true rfl, Nat.le_of_ble_eq_true rfl⟩ (fun r σ2717 hp => ?_)
      obtain ⟨h2719, rfl⟩ := hp
      have h2718 := HK.trans h2715 h2719 (by decide)
      refine m_aload_n F rfl e_X9_life_105 ?_
      refine t_getC F e_X9_life_106 fl_X9_49 (fun _ => o1) h2718 hk ((fld_eq (h2719.2 a (by rw [show kA _ a = 1 from hk]; decide))).trans ((fld_eq (h2716.2 a (by rw [show kA _ a = 1 from hk]; decide))).trans f2711)) ?_
      refine m_iload F rfl e_X9_life_109 ?_
      refine m_i2l F e_X9_life_111 ?_
      refine Wm.topl (fun x2720 _ => ?_)
      refine t_callV F e_X9_life_112 (s_X1_times (x_l X) V b M Z T _ _ r2712 x2720 h2718.1 k2713  (by omega)) cb_X1_times ml_X9_311 im_X1_times se_X1_times (fun _ => o6) h2718 k2713 rfl rfl (rest := []) rfl (Nat.le_of_ble_eq_true rfl) ⟨Nat.le_of_ble_eq_true rfl, Nat.le_of_ble_eq_true rfl⟩ ⟨Nat.le_of_ble_eq_true rfl, Nat.le_of_ble_eq_true rfl⟩ (fun r σ2721 hp => ?_)
      obtain ⟨h2723, rfl⟩ := hp
      have h2722 := HK.trans h2718 h2723 (by decide)
      refine m_aload F rfl e_X9_life_115 ?_
      refine m_aload_n F rfl e_X9_life_117 ?_
      refine t_getC F e_X9_life_118 fl_X9_49 (fun _ => o1) h2722 hk ((fld_eq (h2723.2 a (by rw [show kA _ a = 1 from hk]; decide))).trans ((fld_eq (h2719.2 a (by rw [show kA _ a = 1 from hk]; decide))).trans ((fld_eq (h2716.2 a (by rw [show kA _ a = 1 from hk]; decide))).trans f2711))) ?_
      refine t_callV F e_X9_life_121 (s_X1_add (x_l X) V b M Z T _ _ q3 r2712 h2722.1 kq3 k2713 (by omega)) cb_X1_add ml_X9_308 im_X1_add se_X1_add (fun _ => o6) h2722 kq3 rfl rfl (rest := []) rfl (Nat.le_of_ble_eq_true rfl) ⟨Nat.le_of_ble_eq_true rfl, Nat.le_of_ble_eq_true rfl⟩ ⟨Nat.le_of_ble_eq_true rfl, Nat.le_of_ble_eq_true rfl⟩ (fun r σ2724 hp => ?_)
      obtain ⟨h2726, rfl⟩ := hp
      have h2725 := HK.trans h2722 h2726 (by decide)
      refine m_iinc F (v := (u1 + 1)) (lv' := [(6, .int (u1 + 1)), (7, .int i1), (0, .ref a), (1, .int u3), (2, .int (nI n902)), (3, .ref q1), (4, .ref q3), (5, .ref q4)]) e_X9_life_124 rfl rfl (by decide) rfl ?_
      refine m_iinc F (v := (i1 + 1)) (lv' := [(7, .int (i1 + 1)), (6, .int (u1 + 1)), (0, .ref a), (1, .int u3), (2, .int (nI n902)), (3, .ref q1), (4, .ref q3), (5, .ref q4)]) e_X9_life_127 rfl rfl (by decide) rfl ?_
      refine m_goto F e_X9_life_130 ?_
      exact ih (i1 + 1) (u1 + 1) u3 q1 q3 q4 w1 _ h2725 ⟨kq1, kq3, kq4, ((fld_eq (h2726.2 q1 (by rw [show kA _ q1 = 15 from kq1]; decide))).trans ((fld_eq (h2723.2 q1 (by rw [show kA _ q1 = 15 from kq1]; decide))).trans ((fld_eq (h2719.2 q1 (by rw [show kA _ q1 = 15 from kq1]; decide))).trans ((fld_eq (h2716.2 q1 (by rw [show kA _ q1 = 15 from kq1]; decide))).trans hfw1)))), trivial⟩ (by have h9 := inc_lt (Int32.not_le.mp q80); have h8 := Int32.lt_iff_toInt_lt.mp (Int32.not_le.mp q80); omega)
set_option maxRecDepth 20000 in
theorem s_X9_life (l : Launch) (V : VX) (b M Z T N : Nat) (σ : Mem) (a : Nat) (x901 : Int32) (n902 : Nat) (h0 : HT V (b, M, Z, T) σ) (hk : kA b a = 1) (hn902 : n902 ≤ 1) (hM : M + 0 ≤ 1000000000) : Ct l V yX9_life cX9_life 8 (some .long) 2 0 0 N σ [.ref a, .int x901, .int (nI n902)] (fun r τ => HK V (b, M, Z, T) [0, 1, 2, 3, 4, 5, 7, 8, 9, 10, 11, 12, 13, 14, 15, 16, 17, 18, 19] σ τ ∧ ∃ x : Int64, r = some (.long x)) := by
  refine Ct.of (by decide) (Nat.le_of_ble_eq_true rfl) [(0, .ref a), (1, .int x901), (2, .int (nI n902))] rfl (fun X hX F hQ => ?_)
  have h1 : HK V (b, M, Z, T) [0, 1, 2, 3, 4, 5, 7, 8, 9, 10, 11, 12, 13, 14, 15, 16, 17, 18, 19] σ σ := HK.start h0
  refine m_aload_n F rfl e_X9_life_0 ?_
  refine m_iload_n F rfl e_X9_life_1 ?_
  refine t_callV F e_X9_life_2 (s_X9_leaseAt (x_l X) V b M Z T _ _ a x901 h1.1 hk  (by omega)) cb_X9_leaseAt ml_X9_103 im_X9_leaseAt se_X9_leaseAt (fun _ => o1) h1 hk rfl rfl (rest := []) rfl (Nat.le_of_ble_eq_true rfl) ⟨Nat.le_of_ble_eq_true rfl, Nat.le_of_ble_eq_true rfl⟩ ⟨Nat.le_of_ble_eq_true rfl, Nat.le_of_ble_eq_true rfl⟩ (fun r σ2727 hp => ?_)
  obtain ⟨h2729, c2730⟩ := hp
  have h2728 := HK.trans h1 h2729 (by decide)
  rcases c2730 with rfl | ⟨n2731, r2732, hn2731, en2731, k2733, rfl⟩
  · refine m_astore_nN F (lv' := [(3, .null), (0, .ref a), (1, .int x901), (2, .int (nI n902))]) e_X9_life_5 (by decide) rfl ?_
    refine m_aload_nN F rfl e_X9_life_6 ?_
    refine m_ifnonnullN F e_X9_life_7 ?_
    refine m_ldc2 F kc_X9_149 e_X9_life_10 ?_
    exact m_lret F hQ e_X9_life_13 (⟨h2728, _, rfl⟩)
  · subst en2731
    refine m_astore_n F (lv' := [(3, .ref r2732), (0, .ref a), (1, .int (nI n2731)), (2, .int (nI n902))]) e_X9_life_5 (by decide) rfl ?_
    refine m_aload_n F rfl e_X9_life_6 ?_
    refine m_ifnonnullR F e_X9_life_7 ?_
    refine m_aload_n F rfl e_X9_life_14 ?_
    refine t_get F e_X9_life_15 fl_X9_42 (fun _ => o1) h2728 hk rfl (fun v hv f2734 => ?_)
    obtain ⟨r2735, k2736, rfl⟩ := hv
    refine m_astore F (lv' := [(4, .ref r2735), (3, .ref r2732), (0, .ref a), (1, .int (nI n2731)), (2, .int (nI n902))]) e_X9_life_18 (by decide) rfl ?_
    refine m_aload_n F rfl e_X9_life_20 ?_
    refine t_get F e_X9_life_21 fl_X9_46 (fun _ => o1) h2728 hk rfl (fun v hv f2737 => ?_)
    obtain ⟨r2738, k2739, rfl⟩ := hv
    refine m_astore F (lv' := [(5, .ref r2738), (4, .ref r2735), (3, .ref r2732), (0, .ref a), (1, .int (nI n2731)), (2, .int (nI n902))]) e_X9_life_24 (by decide) rfl ?_
    refine m_aload F rfl e_X9_life_26 ?_
    refine m_lconst F (v := 0) (by decide) e_X9_life_28 ?_
    refine t_callV F e_X9_life_29 (s_X1_set (x_l X) V b M Z T _ _ r2735 0 h2728.1 k2736  (by omega)) cb_X1_set ml_X9_305 im_X1_set se_X1_set (fun _ => o6) h2728 k2736 rfl rfl (rest := []) rfl (Nat.le_of_ble_eq_true rfl) ⟨Nat.le_of_ble_eq_true rfl, Nat.le_of_ble_eq_true rfl⟩ ⟨Nat.le_of_ble_eq_true rfl, Nat.le_of_ble_eq_true rfl⟩ (fun r σ2740 hp => ?_)
    obtain ⟨h2742, rfl⟩ := hp
    have h2741 := HK.trans h2728 h2742 (by decide)
    refine m_aload F rfl e_X9_life_32 ?_
    refine m_lconst F (v := 0) (by decide) e_X9_life_34 ?_
    refine t_callV F e_X9_life_35 (s_X1_set (x_l X) V b M Z T _ _ r2738 0 h2741.1 k2739  (by omega)) cb_X1_set ml_X9_305 im_X1_set se_X1_set (fun _ => o6) h2741 k2739 rfl rfl (rest := []) rfl (Nat.le_of_ble_eq_true rfl) ⟨Nat.le_of_ble_eq_true rfl, Nat.le_of_ble_eq_true rfl⟩ ⟨Nat.le_of_ble_eq_true rfl, Nat.le_of_ble_eq_true rfl⟩ (fun r σ2743 hp => ?_)
    obtain ⟨h2745, rfl⟩ := hp
    have h2744 := HK.trans h2741 h2745 (by decide)
    refine m_aload_n F rfl e_X9_life_38 ?_
    refine t_get F e_X9_life_39 fl_X9_125 (fun _ => o15) h2744 k2733 rfl (fun v hv f2746 => ?_)
    obtain ⟨x2747, rfl⟩ := hv
    refine m_if_ne F e_X9_life_42 (fun q42 => ?_) (fun q42 => ?_)
    · refine m_iconst F (v := 0) (by decide) e_X9_life_60 ?_
      refine m_istore F (lv' := [(6, .int 0), (5, .ref r2738), (4, .ref r2735), (3, .ref r2732), (0, .ref a), (1, .int (nI n2731)), (2, .int (nI n902))]) e_X9_life_61 (by decide) rfl ?_
      refine m_aload_n F rfl e_X9_life_63 ?_
      refine t_get F e_X9_life_64 fl_X9_119 (fun _ => o15) h2744 k2733 rfl (fun v hv f2748 => ?_)
      obtain ⟨x2749, rfl⟩ := hv
      refine m_aload_n F rfl e_X9_life_67 ?_
      refine t_callV F e_X9_life_68 (s_X5_left (x_l X) V b M Z T _ _ r2732  h2744.1 k2733  (by omega)) cb_X5_left ml_X9_128 im_X5_left se_X5_left (fun _ => o15) h2744 k2733 rfl rfl (rest := [.int x2749]) rfl (Nat.le_of_ble_eq_true rfl) ⟨Nat.le_of_ble_eq_true rfl, Nat.le_of_ble_eq_true rfl⟩ ⟨Nat.le_of_ble_eq_true rfl, Nat.le_of_ble_eq_true rfl⟩ (fun r σ2750 hp => ?_)
      obtain ⟨h2752, x2753, rfl⟩ := hp
      have h2751 := HK.trans h2744 h2752 (by decide)
      refine m_isub F e_X9_life_71 ?_
      refine Wm.top (fun x2754 _ => ?_)
      refine m_istore F (lv' := [(7, .int x2754), (6, .int 0), (5, .ref r2738), (4, .ref r2735), (3, .ref r2732), (0, .ref a), (1, .int (nI n2731)), (2, .int (nI n902))]) e_X9_life_72 (by decide) rfl ?_
      refine Wm.lvsub (lv' := [(7, .int x2754), (6, .int 0), (0, .ref a), (1, .int (nI n2731)), (2, .int (nI n902)), (3, .ref r2732), (4, .ref r2735), (5, .ref r2738)]) ?_ [0, 1, 5, 6, 7, 4, 3, 2] rfl
      exact lp_X9_life_74 F hQ hk hn902 hM ((x2749.toInt - x2754.toInt).toNat + 1) x2754 0 (nI n2731) r2732 r2735 r2738 x2749 _ h2751 ⟨k2733, k2736, k2739, ((fld_eq (h2752.2 r2732 (by rw [show kA _ r2732 = 15 from k2733]; decide))).trans f2748), trivial⟩ (Nat.lt_succ_self _)
    · refine m_aload_n F rfl e_X9_life_45 ?_
      refine t_get F e_X9_life_46 fl_X9_114 (fun _ => o15) h2744 k2733 rfl (fun v hv f2755 => ?_)
      obtain ⟨x2756, rfl⟩ := hv
      refine m_aload_n F rfl e_X9_life_49 ?_
      refine t_get F e_X9_life_50 fl_X9_16 (fun _ => o1) h2744 hk rfl (fun v hv f2757 => ?_)
      obtain ⟨r2758, k2759, rfl⟩ := hv
      refine t_get F e_X9_life_53 fl_X9_94 (fun _ => o7) h2744 k2759 rfl (fun v hv f2760 => ?_)
      obtain ⟨n2761, hn2761, rfl⟩ := hv
      replace hn2761 : n2761 ≤ M := hn2761
      refine m_isub F e_X9_life_56 ?_
      refine Wm.top (fun x2762 _ => ?_)
      refine m_goto F e_X9_life_57 ?_
      refine m_istore F (lv' := [(6, .int x2762), (5, .ref r2738), (4, .ref r2735), (3, .ref r2732), (0, .ref a), (1, .int (nI n2731)), (2, .int (nI n902))]) e_X9_life_61 (by decide) rfl ?_
      refine m_aload_n F rfl e_X9_life_63 ?_
      refine t_get F e_X9_life_64 fl_X9_119 (fun _ => o15) h2744 k2733 rfl (fun v hv f2763 => ?_)
      obtain ⟨x2764, rfl⟩ := hv
      refine m_aload_n F rfl e_X9_life_67 ?_
      refine t_callV F e_X9_life_68 (s_X5_left (x_l X) V b M Z T _ _ r2732  h2744.1 k2733  (by omega)) cb_X5_left ml_X9_128 im_X5_left se_X5_left (fun _ => o15) h2744 k2733 rfl rfl (rest := [.int x2764]) rfl (Nat.le_of_ble_eq_true rfl) ⟨Nat.le_of_ble_eq_true rfl, Nat.le_of_ble_eq_true rfl⟩ ⟨Nat.le_of_ble_eq_true rfl, Nat.le_of_ble_eq_true rfl⟩ (fun r σ2765 hp => ?_)
      obtain ⟨h2767, x2768, rfl⟩ := hp
      have h2766 := HK.trans h2744 h2767 (by decide)
      refine m_isub F e_X9_life_71 ?_
      refine Wm.top (fun x2769 _ => ?_)
      refine m_istore F (lv' := [(7, .int x2769), (6, .int x2762), (5, .ref r2738), (4, .ref r2735), (3, .ref r2732), (0, .ref a), (1, .int (nI n2731)), (2, .int (nI n902))]) e_X9_life_72 (by decide) rfl ?_
      refine Wm.lvsub (lv' := [(7, .int x2769), (6, .int x2762), (0, .ref a), (1, .int (nI n2731)), (2, .int (nI n902)), (3, .ref r2732), (4, .ref r2735), (5, .ref r2738)]) ?_ [0, 1, 5, 6, 7, 4, 3, 2] rfl
      exact lp_X9_life_74 F hQ hk hn902 hM ((x2764.toInt - x2769.toInt).toNat + 1) x2769 x2762 (nI n2731) r2732 r2735 r2738 x2764 _ h2766 ⟨k2733, k2736, k2739, ((fld_eq (h2767.2 r2732 (by rw [show kA _ r2732 = 15 from k2733]; decide))).trans f2763), trivial⟩ (Nat.lt_succ_self _)
set_option maxRecDepth 20000 in
theorem lp_X9_peak_44 {V : VX} {X : MX} {b M Z T N : Nat} {σ : Mem} {a : Nat}   (F : Fx V X yX9_peak cX9_peak 7 (some .long) (rmd 7 0 0)) (hQ : Rt V X 0 0 N (fun r τ => HK V (b, M + 1296, Z, T) [0, 1, 2, 3, 4, 5, 8, 9, 16] σ τ ∧ ∃ x : Int64, r = some (.long x))) (hk : kA b a = 1) (hM : M + 1296 ≤ 1000000000)  : ∀ (fuel : Nat) (i : Nat) (u1 : Int32) (c : Nat) (u3 : Int32) (q1 : Nat) (q3 : Nat) (τ : Mem), HK V (b, M + 648 + 9 * i, Z, T) [0, 1, 2, 3, 4, 5, 8, 9, 16] σ τ → kA b q1 = 7 ∧ kA b q3 = 6 ∧ i ≤ 72 ∧ c ≤ 72 → 72 - i < fuel → Wm V X 7 N τ 0 0 44 [(6, .int (nI i)), (5, .int u1), (3, .int (nI c)), (0, .ref a), (1, .int u3), (2, .ref q1), (4, .ref q3)] [] := by
  intro fuel
  induction fuel with
  | zero => intro i u1 c u3 q1 q3 τ h1 hi hm; exact absurd hm (Nat.not_lt_zero _)
  | succ fuel ih =>
    intro i u1 c u3 q1 q3 τ h1 hi hm
    obtain ⟨kq1, kq3, hi⟩ := hi
    refine m_iload F rfl e_X9_peak_44 ?_
    refine m_iload_n F rfl e_X9_peak_46 ?_
    refine m_icmp_ge F e_X9_peak_47 (fun q47 => ?_) (fun q47 => ?_)
    · have c47 : i ≥ c := (nI_leI (a := c) (b := i) (by omega) (by omega)).mp q47
      refine m_aload F rfl e_X9_peak_85 ?_
      refine t_callV F e_X9_peak_87 (s_X1_isZero (x_l X) V b (M + 648 + 9 * i) Z T _ _ q3  h1.1 kq3  (by omega)) cb_X1_isZero ml_X9_314 im_X1_isZero se_X1_isZero (fun _ => o6) h1 kq3 rfl rfl (rest := []) rfl (Nat.le_of_ble_eq_true rfl) ⟨Nat.le_of_ble_eq_true rfl, Nat.le_of_ble_eq_true rfl⟩ ⟨Nat.le_of_ble_eq_true rfl, Nat.le_of_ble_eq_true rfl⟩ (fun r σ2770 hp => ?_)
      obtain ⟨h2772, n2773, hn2773, rfl⟩ := hp
      have h2771 := HK.trans h1 h2772 (by decide)
      refine m_if_eq F e_X9_peak_90 (fun q90 => ?_) (fun q90 => ?_)
      · have c90 : n2773 = 0 := (nI_eq (a := n2773) (b := 0) (by omega) (by omega)).mp q90
        refine m_iload_n F rfl e_X9_peak_97 ?_
        refine m_if_ne F e_X9_peak_98 (fun q98 => ?_) (fun q98 => ?_)
        · refine m_aload F rfl e_X9_peak_107 ?_
          refine t_callV F e_X9_peak_109 (s_X1_asLong (x_l X) V b (M + 648 + 9 * i) Z T _ _ q3  h2771.1 kq3  (by omega)) cb_X1_asLong ml_X9_157 im_X1_asLong se_X1_asLong (fun _ => o6) h2771 kq3 rfl rfl (rest := []) rfl (Nat.le_of_ble_eq_true rfl) ⟨Nat.le_of_ble_eq_true rfl, Nat.le_of_ble_eq_true rfl⟩ ⟨Nat.le_of_ble_eq_true rfl, Nat.le_of_ble_eq_true rfl⟩ (fun r σ2774 hp => ?_)
          obtain ⟨h2776, x2777, rfl⟩ := hp
          have h2775 := HK.trans h2771 h2776 (by decide)
          exact m_lret F hQ e_X9_peak_112 (⟨(h2775.mono (M' := M + 1296) (Z' := Z) (by omega) (by intro e; first | rfl | assumption | omega)), _, rfl⟩)
        · refine m_iload F rfl e_X9_peak_101 ?_
          refine m_i2l F e_X9_peak_103 ?_
          refine Wm.topl (fun x2778 _ => ?_)
          refine m_goto F e_X9_peak_104 ?_
          exact m_lret F hQ e_X9_peak_112 (⟨(h2771.mono (M' := M + 1296) (Z' := Z) (by omega) (by intro e; first | rfl | assumption | omega)), _, rfl⟩)
      · have c90 : n2773 ≠ 0 := by have hh := mt (nI_eq (a := n2773) (b := 0) (by omega) (by omega)).mpr q90; omega
        refine m_ldc2 F kc_X9_318 e_X9_peak_93 ?_
        exact m_lret F hQ e_X9_peak_96 (⟨(h2771.mono (M' := M + 1296) (Z' := Z) (by omega) (by intro e; first | rfl | assumption | omega)), _, rfl⟩)
    · have c47 : i < c := by have hh := mt (nI_leI (a := c) (b := i) (by omega) (by omega)).mpr q47; omega
      refine m_aload_n F rfl e_X9_peak_50 ?_
      refine t_callV F e_X9_peak_51 (s_X2_periodGoesBy (x_l X) V b (M + 648 + 9 * i) Z T _ _ q1  h1.1 kq1  (by omega)) cb_X2_periodGoesBy ml_X9_100 im_X2_periodGoesBy se_X2_periodGoesBy (fun _ => o7) h1 kq1 rfl rfl (rest := []) rfl (Nat.le_of_ble_eq_true rfl) ⟨Nat.le_of_ble_eq_true rfl, Nat.le_of_ble_eq_true rfl⟩ ⟨Nat.le_of_ble_eq_true rfl, Nat.le_of_ble_eq_true rfl⟩ (fun r σ2779 hp => ?_)
      obtain ⟨h2781, rfl⟩ := hp
      have h2780 := HK.trans h1 h2781 (by decide)
      refine m_aload_n F rfl e_X9_peak_54 ?_
      refine t_get F e_X9_peak_55 fl_X9_327 (fun _ => o7) h2780 kq1 rfl (fun v hv f2782 => ?_)
      obtain rfl : v = .ref (q1 + 8) := hv
      refine m_aload F rfl e_X9_peak_58 ?_
      refine t_callV F e_X9_peak_60 (s_X1_isAbove (x_l X) V b (M + 648 + 9 * i + 9) Z T _ _ (q1 + 8) q3 h2780.1 (kA_7 kq1 (r := 8) (by decide)) kq3 (by omega)) cb_X1_isAbove ml_X9_330 im_X1_isAbove se_X1_isAbove (fun _ => o6) h2780 (kA_7 kq1 (r := 8) (by decide)) rfl rfl (rest := []) rfl (Nat.le_of_ble_eq_true rfl) ⟨Nat.le_of_ble_eq_true rfl, Nat.le_of_ble_eq_true rfl⟩ ⟨Nat.le_of_ble_eq_true rfl, Nat.le_of_ble_eq_true rfl⟩ (fun r σ2783 hp => ?_)
      obtain ⟨h2785, n2786, hn2786, rfl⟩ := hp
      have h2784 := HK.trans h2780 h2785 (by decide)
      refine m_if_eq F e_X9_peak_63 (fun q63 => ?_) (fun q63 => ?_)
      · have c63 : n2786 = 0 := (nI_eq (a := n2786) (b := 0) (by omega) (by omega)).mp q63
        refine m_iinc F (v := nI (i + 1)) (lv' := [(6, .int (nI (i + 1))), (5, .int u1), (3, .int (nI c)), (0, .ref a), (1, .int u3), (2, .ref q1), (4, .ref q3)]) e_X9_peak_79 rfl (nI_add i 1) (by decide) rfl ?_
        refine m_goto F e_X9_peak_82 ?_
        exact ih (i + 1) u1 c u3 q1 q3 _ (h2784.mono (M' := M + 648 + 9 * (i + 1)) (Z' := Z) (by omega) (by intro e9; first | exact e9 | rfl)) ⟨kq1, kq3, (by omega)⟩ (by omega)
      · have c63 : n2786 ≠ 0 := by have hh := mt (nI_eq (a := n2786) (b := 0) (by omega) (by omega)).mpr q63; omega
        refine m_aload F rfl e_X9_peak_66 ?_
        refine m_aload_n F rfl e_X9_peak_68 ?_
        refine t_getC F e_X9_peak_69 fl_X9_327 (fun _ => o7) h2784 kq1 ((fld_eq (h2785.2 q1 (by rw [show kA _ q1 = 7 from kq1]; decide))).trans f2782) ?_
        refine t_callV F e_X9_peak_72 (s_X1_copyFrom (x_l X) V b (M + 648 + 9 * i + 9) Z T _ _ q3 (q1 + 8) h2784.1 kq3 (kA_7 kq1 (r := 8) (by decide)) (by omega)) cb_X1_copyFrom ml_X9_284 im_X1_copyFrom se_X1_copyFrom (fun _ => o6) h2784 kq3 rfl rfl (rest := []) rfl (Nat.le_of_ble_eq_true rfl) ⟨Nat.le_of_ble_eq_true rfl, Nat.le_of_ble_eq_true rfl⟩ ⟨Nat.le_of_ble_eq_true rfl, Nat.le_of_ble_eq_true rfl⟩ (fun r σ2787 hp => ?_)
        obtain ⟨h2789, rfl⟩ := hp
        have h2788 := HK.trans h2784 h2789 (by decide)
        refine m_iload F rfl e_X9_peak_75 ?_
        refine m_istore F (lv' := [(5, .int (nI i)), (6, .int (nI i)), (3, .int (nI c)), (0, .ref a), (1, .int u3), (2, .ref q1), (4, .ref q3)]) e_X9_peak_77 (by decide) rfl ?_
        refine m_iinc F (v := nI (i + 1)) (lv' := [(6, .int (nI (i + 1))), (5, .int (nI i)), (3, .int (nI c)), (0, .ref a), (1, .int u3), (2, .ref q1), (4, .ref q3)]) e_X9_peak_79 rfl (nI_add i 1) (by decide) rfl ?_
        refine m_goto F e_X9_peak_82 ?_
        exact ih (i + 1) (nI i) c u3 q1 q3 _ (h2788.mono (M' := M + 648 + 9 * (i + 1)) (Z' := Z) (by omega) (by intro e9; first | exact e9 | rfl)) ⟨kq1, kq3, (by omega)⟩ (by omega)
set_option maxRecDepth 20000 in
theorem s_X9_peak (l : Launch) (V : VX) (b M Z T N : Nat) (σ : Mem) (a : Nat) (x901 : Int32) (h0 : HT V (b, M, Z, T) σ) (hk : kA b a = 1) (hM : M + 1296 ≤ 1000000000) : Ct l V yX9_peak cX9_peak 7 (some .long) 7 0 0 N σ [.ref a, .int x901] (fun r τ => HK V (b, M + 1296, Z, T) [0, 1, 2, 3, 4, 5, 8, 9, 16] σ τ ∧ ∃ x : Int64, r = some (.long x)) := by
  refine Ct.of (by decide) (Nat.le_of_ble_eq_true rfl) [(0, .ref a), (1, .int x901)] rfl (fun X hX F hQ => ?_)
  have h1 : HK V (b, M, Z, T) [0, 1, 2, 3, 4, 5, 8, 9, 16] σ σ := HK.start h0
  refine m_iload_n F rfl e_X9_peak_0 ?_
  refine m_if_lt F e_X9_peak_1 (fun q1 => ?_) (fun q1 => ?_)
  · refine m_ldc2 F kc_X9_149 e_X9_peak_9 ?_
    exact m_lret F hQ e_X9_peak_12 (⟨(h1.mono (M' := M + 1296) (Z' := Z) (by omega) (by intro e; first | rfl | assumption | omega)), _, rfl⟩)
  · obtain ⟨n2790, hn2790, rfl⟩ := nI_nn (x := x901) (fun e => q1 (Int32.lt_of_lt_of_le e (by decide)))
    have c1 : n2790 ≥ 0 := by have hh := mt (nI_ltI (a := n2790) (b := 0) (by omega) (by omega)).mpr q1; omega
    refine m_iload_n F rfl e_X9_peak_4 ?_
    refine m_iconst F (v := 1) (by decide) e_X9_peak_5 ?_
    refine m_icmp_le F e_X9_peak_6 (fun q6 => ?_) (fun q6 => ?_)
    · have c6 : n2790 ≤ 1 := (nI_leI (a := n2790) (b := 1) (by omega) (by omega)).mp q6
      refine m_aload_n F rfl e_X9_peak_13 ?_
      refine m_iconst F (v := 0) (by decide) e_X9_peak_14 ?_
      refine t_callV F e_X9_peak_15 (s_X9_bookIn (x_l X) V b M Z T _ _ a 0 h1.1 hk (by omega) (by omega)) cb_X9_bookIn ml_X9_271 im_X9_bookIn se_X9_bookIn (fun _ => o1) h1 hk rfl rfl (rest := []) rfl (Nat.le_of_ble_eq_true rfl) ⟨Nat.le_of_ble_eq_true rfl, Nat.le_of_ble_eq_true rfl⟩ ⟨Nat.le_of_ble_eq_true rfl, Nat.le_of_ble_eq_true rfl⟩ (fun r σ2791 hp => ?_)
      obtain ⟨h2793, r2794, k2795, rfl⟩ := hp
      have h2792 := HK.trans h1 h2793 (by decide)
      refine m_astore_n F (lv' := [(2, .ref r2794), (0, .ref a), (1, .int (nI n2790))]) e_X9_peak_18 (by decide) rfl ?_
      refine m_aload_n F rfl e_X9_peak_19 ?_
      refine m_bipush F (v := 72) (by decide) e_X9_peak_20 ?_
      refine t_callV F e_X9_peak_22 (s_X9_coming (x_l X) V b (M + 648) Z T _ _ a 72 h2792.1 hk (by omega) (by omega)) cb_X9_coming ml_X9_324 im_X9_coming se_X9_coming (fun _ => o1) h2792 hk rfl rfl (rest := []) rfl (Nat.le_of_ble_eq_true rfl) ⟨Nat.le_of_ble_eq_true rfl, Nat.le_of_ble_eq_true rfl⟩ ⟨Nat.le_of_ble_eq_true rfl, Nat.le_of_ble_eq_true rfl⟩ (fun r σ2796 hp => ?_)
      obtain ⟨h2798, n2799, hn2799, rfl⟩ := hp
      have h2797 := HK.trans h2792 h2798 (by decide)
      refine m_istore_n F (lv' := [(3, .int (nI n2799)), (2, .ref r2794), (0, .ref a), (1, .int (nI n2790))]) e_X9_peak_25 (by decide) rfl ?_
      refine m_aload_n F rfl e_X9_peak_26 ?_
      refine t_get F e_X9_peak_27 fl_X9_42 (fun _ => o1) h2797 hk rfl (fun v hv f2800 => ?_)
      obtain ⟨r2801, k2802, rfl⟩ := hv
      refine m_astore F (lv' := [(4, .ref r2801), (3, .int (nI n2799)), (2, .ref r2794), (0, .ref a), (1, .int (nI n2790))]) e_X9_peak_30 (by decide) rfl ?_
      refine m_aload F rfl e_X9_peak_32 ?_
      refine m_lconst F (v := 0) (by decide) e_X9_peak_34 ?_
      refine t_callV F e_X9_peak_35 (s_X1_set (x_l X) V b (M + 648) Z T _ _ r2801 0 h2797.1 k2802  (by omega)) cb_X1_set ml_X9_305 im_X1_set se_X1_set (fun _ => o6) h2797 k2802 rfl rfl (rest := []) rfl (Nat.le_of_ble_eq_true rfl) ⟨Nat.le_of_ble_eq_true rfl, Nat.le_of_ble_eq_true rfl⟩ ⟨Nat.le_of_ble_eq_true rfl, Nat.le_of_ble_eq_true rfl⟩ (fun r σ2803 hp => ?_)
      obtain ⟨h2805, rfl⟩ := hp
      have h2804 := HK.trans h2797 h2805 (by decide)
      refine m_iconst F (v := 0) (by decide) e_X9_peak_38 ?_
      refine m_istore F (lv' := [(5, .int 0), (4, .ref r2801), (3, .int (nI n2799)), (2, .ref r2794), (0, .ref a), (1, .int (nI n2790))]) e_X9_peak_39 (by decide) rfl ?_
      refine m_iconst F (v := 0) (by decide) e_X9_peak_41 ?_
      refine m_istore F (lv' := [(6, .int 0), (5, .int 0), (4, .ref r2801), (3, .int (nI n2799)), (2, .ref r2794), (0, .ref a), (1, .int (nI n2790))]) e_X9_peak_42 (by decide) rfl ?_
      refine Wm.lvsub (lv' := [(6, .int 0), (5, .int 0), (3, .int (nI n2799)), (0, .ref a), (1, .int (nI n2790)), (2, .ref r2794), (4, .ref r2801)]) ?_ [0, 1, 3, 5, 6, 4, 2] rfl
      exact lp_X9_peak_44 F hQ hk hM (72 - 0 + 1) 0 0 n2799 (nI n2790) r2794 r2801 _ (h2804.mono (M' := M + 648 + 9 * 0) (Z' := Z) (by omega) (by intro e9; first | exact e9 | rfl)) ⟨k2795, k2802, (by omega)⟩ (Nat.lt_succ_self _)
    · have c6 : n2790 > 1 := by have hh := mt (nI_leI (a := n2790) (b := 1) (by omega) (by omega)).mpr q6; omega
      refine m_ldc2 F kc_X9_149 e_X9_peak_9 ?_
      exact m_lret F hQ e_X9_peak_12 (⟨(h1.mono (M' := M + 1296) (Z' := Z) (by omega) (by intro e; first | rfl | assumption | omega)), _, rfl⟩)
set_option maxRecDepth 20000 in
theorem lp_X9_partFor_28 {V : VX} {X : MX} {b M Z T N : Nat} {σ : Mem} {a : Nat} {x902 : Int64}  (F : Fx V X yX9_partFor cX9_partFor 6 (some .int) (rmd 2 0 0)) (hQ : Rt V X 0 0 N (fun r τ => HK V (b, M, Z, T) [0, 1, 2, 3, 4, 5, 7, 8, 9, 10, 11, 12, 13, 14, 15, 16, 17, 18, 19] σ τ ∧ ∃ x : Int32, r = some (.int x))) (hk : kA b a = 1) (hM : M + 0 ≤ 1000000000)  : ∀ (fuel : Nat) (i : Nat) (u3 : Int32) (q1 : Nat) (τ : Mem), HK V (b, M, Z, T) [0, 1, 2, 3, 4, 5, 7, 8, 9, 10, 11, 12, 13, 14, 15, 16, 17, 18, 19] σ τ → kA b q1 = 15 ∧ i ≤ 1000 → 1000 - i < fuel → Wm V X 6 N τ 0 0 28 [(5, .int (nI i)), (0, .ref a), (1, .int u3), (2, .long x902), (4, .ref q1)] [] := by
  intro fuel
  induction fuel with
  | zero => intro i u3 q1 τ h1 hi hm; exact absurd hm (Nat.not_lt_zero _)
  | succ fuel ih =>
    intro i u3 q1 τ h1 hi hm
    obtain ⟨kq1, hi⟩ := hi
    refine m_iload F rfl e_X9_partFor_28 ?_
    refine m_sipush F (v := 999) (by decide) e_X9_partFor_30 ?_
    refine m_icmp_gt F e_X9_partFor_33 (fun q33 => ?_) (fun q33 => ?_)
    · have c33 : i > 999 := (nI_ltI (a := 999) (b := i) (by omega) (by omega)).mp q33
      refine m_bipush F (v := (-2)) (by decide) e_X9_partFor_117 ?_
      exact m_iret F hQ e_X9_partFor_119 (⟨h1, _, rfl⟩)
    · have c33 : i ≤ 999 := by have hh := mt (nI_ltI (a := 999) (b := i) (by omega) (by omega)).mpr q33; omega
      refine m_aload_n F rfl e_X9_partFor_36 ?_
      refine t_get F e_X9_partFor_37 fl_X9_42 (fun _ => o1) h1 hk rfl (fun v hv f2806 => ?_)
      obtain ⟨r2807, k2808, rfl⟩ := hv
      refine m_aload F rfl e_X9_partFor_40 ?_
      refine t_get F e_X9_partFor_42 fl_X9_151 (fun _ => o15) h1 kq1 rfl (fun v hv f2809 => ?_)
      obtain ⟨r2810, k2811, rfl⟩ := hv
      refine t_callV F e_X9_partFor_45 (s_X1_copyFrom (x_l X) V b M Z T _ _ r2807 r2810 h1.1 k2808 k2811 (by omega)) cb_X1_copyFrom ml_X9_284 im_X1_copyFrom se_X1_copyFrom (fun _ => o6) h1 k2808 rfl rfl (rest := []) rfl (Nat.le_of_ble_eq_true rfl) ⟨Nat.le_of_ble_eq_true rfl, Nat.le_of_ble_eq_true rfl⟩ ⟨Nat.le_of_ble_eq_true rfl, Nat.le_of_ble_eq_true rfl⟩ (fun r σ2812 hp => ?_)
      obtain ⟨h2814, rfl⟩ := hp
      have h2813 := HK.trans h1 h2814 (by decide)
      refine m_aload_n F rfl e_X9_partFor_48 ?_
      refine t_getC F e_X9_partFor_49 fl_X9_42 (fun _ => o1) h2813 hk ((fld_eq (h2814.2 a (by rw [show kA _ a = 1 from hk]; decide))).trans f2806) ?_
      refine m_iload F rfl e_X9_partFor_52 ?_
      refine m_i2l F e_X9_partFor_54 ?_
      refine Wm.topl (fun x2815 _ => ?_)
      refine m_ldc2 F kc_X9_241 e_X9_partFor_55 ?_
      refine t_callV F e_X9_partFor_58 (s_X1_shareDown (x_l X) V b M Z T _ _ r2807 x2815 1000 h2813.1 k2808  (by omega)) cb_X1_shareDown ml_X9_334 im_X1_shareDown se_X1_shareDown (fun _ => o6) h2813 k2808 rfl rfl (rest := []) rfl (Nat.le_of_ble_eq_true rfl) ⟨Nat.le_of_ble_eq_true rfl, Nat.le_of_ble_eq_true rfl⟩ ⟨Nat.le_of_ble_eq_true rfl, Nat.le_of_ble_eq_true rfl⟩ (fun r σ2816 hp => ?_)
      obtain ⟨h2818, rfl⟩ := hp
      have h2817 := HK.trans h2813 h2818 (by decide)
      refine m_aload_n F rfl e_X9_partFor_61 ?_
      refine t_get F e_X9_partFor_62 fl_X9_46 (fun _ => o1) h2817 hk rfl (fun v hv f2819 => ?_)
      obtain ⟨r2820, k2821, rfl⟩ := hv
      refine m_aload F rfl e_X9_partFor_65 ?_
      refine t_get F e_X9_partFor_67 fl_X9_154 (fun _ => o15) h2817 kq1 rfl (fun v hv f2822 => ?_)
      obtain ⟨r2823, k2824, rfl⟩ := hv
      refine t_callV F e_X9_partFor_70 (s_X1_copyFrom (x_l X) V b M Z T _ _ r2820 r2823 h2817.1 k2821 k2824 (by omega)) cb_X1_copyFrom ml_X9_284 im_X1_copyFrom se_X1_copyFrom (fun _ => o6) h2817 k2821 rfl rfl (rest := []) rfl (Nat.le_of_ble_eq_true rfl) ⟨Nat.le_of_ble_eq_true rfl, Nat.le_of_ble_eq_true rfl⟩ ⟨Nat.le_of_ble_eq_true rfl, Nat.le_of_ble_eq_true rfl⟩ (fun r σ2825 hp => ?_)
      obtain ⟨h2827, rfl⟩ := hp
      have h2826 := HK.trans h2817 h2827 (by decide)
      refine m_aload_n F rfl e_X9_partFor_73 ?_
      refine t_getC F e_X9_partFor_74 fl_X9_46 (fun _ => o1) h2826 hk ((fld_eq (h2827.2 a (by rw [show kA _ a = 1 from hk]; decide))).trans f2819) ?_
      refine m_iload F rfl e_X9_partFor_77 ?_
      refine m_i2l F e_X9_partFor_79 ?_
      refine Wm.topl (fun x2828 _ => ?_)
      refine m_ldc2 F kc_X9_241 e_X9_partFor_80 ?_
      refine t_callV F e_X9_partFor_83 (s_X1_shareDown (x_l X) V b M Z T _ _ r2820 x2828 1000 h2826.1 k2821  (by omega)) cb_X1_shareDown ml_X9_334 im_X1_shareDown se_X1_shareDown (fun _ => o6) h2826 k2821 rfl rfl (rest := []) rfl (Nat.le_of_ble_eq_true rfl) ⟨Nat.le_of_ble_eq_true rfl, Nat.le_of_ble_eq_true rfl⟩ ⟨Nat.le_of_ble_eq_true rfl, Nat.le_of_ble_eq_true rfl⟩ (fun r σ2829 hp => ?_)
      obtain ⟨h2831, rfl⟩ := hp
      have h2830 := HK.trans h2826 h2831 (by decide)
      refine m_aload_n F rfl e_X9_partFor_86 ?_
      refine t_getC F e_X9_partFor_87 fl_X9_42 (fun _ => o1) h2830 hk ((fld_eq (h2831.2 a (by rw [show kA _ a = 1 from hk]; decide))).trans ((fld_eq (h2827.2 a (by rw [show kA _ a = 1 from hk]; decide))).trans ((fld_eq (h2818.2 a (by rw [show kA _ a = 1 from hk]; decide))).trans ((fld_eq (h2814.2 a (by rw [show kA _ a = 1 from hk]; decide))).trans f2806)))) ?_
      refine m_aload_n F rfl e_X9_partFor_90 ?_
      refine t_getC F e_X9_partFor_91 fl_X9_46 (fun _ => o1) h2830 hk ((fld_eq (h2831.2 a (by rw [show kA _ a = 1 from hk]; decide))).trans ((fld_eq (h2827.2 a (by rw [show kA _ a = 1 from hk]; decide))).trans f2819)) ?_
      refine t_callV F e_X9_partFor_94 (s_X1_subtract (x_l X) V b M Z T _ _ r2807 r2820 h2830.1 k2808 k2821 (by omega)) cb_X1_subtract ml_X9_338 im_X1_subtract se_X1_subtract (fun _ => o6) h2830 k2808 rfl rfl (rest := []) rfl (Nat.le_of_ble_eq_true rfl) ⟨Nat.le_of_ble_eq_true rfl, Nat.le_of_ble_eq_true rfl⟩ ⟨Nat.le_of_ble_eq_true rfl, Nat.le_of_ble_eq_true rfl⟩ (fun r σ2832 hp => ?_)
      obtain ⟨h2834, rfl⟩ := hp
      have h2833 := HK.trans h2830 h2834 (by decide)
      refine m_aload_n F rfl e_X9_partFor_97 ?_
      refine t_getC F e_X9_partFor_98 fl_X9_42 (fun _ => o1) h2833 hk ((fld_eq (h2834.2 a (by rw [show kA _ a = 1 from hk]; decide))).trans ((fld_eq (h2831.2 a (by rw [show kA _ a = 1 from hk]; decide))).trans ((fld_eq (h2827.2 a (by rw [show kA _ a = 1 from hk]; decide))).trans ((fld_eq (h2818.2 a (by rw [show kA _ a = 1 from hk]; decide))).trans ((fld_eq (h2814.2 a (by rw [show kA _ a = 1 from hk]; decide))).trans f2806))))) ?_
      refine m_lload_n F rfl e_X9_partFor_101 ?_
      refine t_callV F e_X9_partFor_102 (s_X1_isAtLeast (x_l X) V b M Z T _ _ r2807 x902 h2833.1 k2808  (by omega)) cb_X1_isAtLeast ml_X9_247 im_X1_isAtLeast se_X1_isAtLeast (fun _ => o6) h2833 k2808 rfl rfl (rest := []) rfl (Nat.le_of_ble_eq_true rfl) ⟨Nat.le_of_ble_eq_true rfl, Nat.le_of_ble_eq_true rfl⟩ ⟨Nat.le_of_ble_eq_true rfl, Nat.le_of_ble_eq_true rfl⟩ (fun r σ2835 hp => ?_)
      obtain ⟨h2837, n2838, hn2838, rfl⟩ := hp
      have h2836 := HK.trans h2833 h2837 (by decide)
      refine m_if_eq F e_X9_partFor_105 (fun q105 => ?_) (fun q105 => ?_)
      · have c105 : n2838 = 0 := (nI_eq (a := n2838) (b := 0) (by omega) (by omega)).mp q105
        refine m_iinc F (v := nI (i + 1)) (lv' := [(5, .int (nI (i + 1))), (0, .ref a), (1, .int u3), (2, .long x902), (4, .ref q1)]) e_X9_partFor_111 rfl (nI_add i 1) (by decide) rfl ?_
        refine m_goto F e_X9_partFor_114 ?_
        exact ih (i + 1) u3 q1 _ h2836 ⟨kq1, (by omega)⟩ (by omega)
      · have c105 : n2838 ≠ 0 := by have hh := mt (nI_eq (a := n2838) (b := 0) (by omega) (by omega)).mpr q105; omega
        refine m_iload F rfl e_X9_partFor_108 ?_
        exact m_iret F hQ e_X9_partFor_110 (⟨h2836, _, rfl⟩)
set_option maxRecDepth 20000 in
theorem s_X9_partFor (l : Launch) (V : VX) (b M Z T N : Nat) (σ : Mem) (a : Nat) (x901 : Int32) (x902 : Int64) (h0 : HT V (b, M, Z, T) σ) (hk : kA b a = 1) (hM : M + 0 ≤ 1000000000) : Ct l V yX9_partFor cX9_partFor 6 (some .int) 2 0 0 N σ [.ref a, .int x901, .long x902] (fun r τ => HK V (b, M, Z, T) [0, 1, 2, 3, 4, 5, 7, 8, 9, 10, 11, 12, 13, 14, 15, 16, 17, 18, 19] σ τ ∧ ∃ x : Int32, r = some (.int x)) := by
  refine Ct.of (by decide) (Nat.le_of_ble_eq_true rfl) [(0, .ref a), (1, .int x901), (2, .long x902)] rfl (fun X hX F hQ => ?_)
  have h1 : HK V (b, M, Z, T) [0, 1, 2, 3, 4, 5, 7, 8, 9, 10, 11, 12, 13, 14, 15, 16, 17, 18, 19] σ σ := HK.start h0
  refine m_aload_n F rfl e_X9_partFor_0 ?_
  refine m_iload_n F rfl e_X9_partFor_1 ?_
  refine t_callV F e_X9_partFor_2 (s_X9_leaseAt (x_l X) V b M Z T _ _ a x901 h1.1 hk  (by omega)) cb_X9_leaseAt ml_X9_103 im_X9_leaseAt se_X9_leaseAt (fun _ => o1) h1 hk rfl rfl (rest := []) rfl (Nat.le_of_ble_eq_true rfl) ⟨Nat.le_of_ble_eq_true rfl, Nat.le_of_ble_eq_true rfl⟩ ⟨Nat.le_of_ble_eq_true rfl, Nat.le_of_ble_eq_true rfl⟩ (fun r σ2839 hp => ?_)
  obtain ⟨h2841, c2842⟩ := hp
  have h2840 := HK.trans h1 h2841 (by decide)
  rcases c2842 with rfl | ⟨n2843, r2844, hn2843, en2843, k2845, rfl⟩
  · refine m_ifnonnullN F e_X9_partFor_5 ?_
    refine m_iconst F (v := (-1)) (by decide) e_X9_partFor_8 ?_
    exact m_iret F hQ e_X9_partFor_9 (⟨h2840, _, rfl⟩)
  · subst en2843
    refine m_ifnonnullR F e_X9_partFor_5 ?_
    refine m_aload_n F rfl e_X9_partFor_10 ?_
    refine m_iload_n F rfl e_X9_partFor_11 ?_
    refine t_callV F e_X9_partFor_12 (s_X9_runningAt (x_l X) V b M Z T _ _ a (nI n2843) h2840.1 hk  (by omega)) cb_X9_runningAt ml_X9_203 im_X9_runningAt se_X9_runningAt (fun _ => o1) h2840 hk rfl rfl (rest := []) rfl (Nat.le_of_ble_eq_true rfl) ⟨Nat.le_of_ble_eq_true rfl, Nat.le_of_ble_eq_true rfl⟩ ⟨Nat.le_of_ble_eq_true rfl, Nat.le_of_ble_eq_true rfl⟩ (fun r σ2846 hp => ?_)
    obtain ⟨h2848, c2849⟩ := hp
    have h2847 := HK.trans h2840 h2848 (by decide)
    rcases c2849 with rfl | ⟨n2850, r2851, hn2850, en2850, k2852, rfl⟩
    · refine m_astoreN F (lv' := [(4, .null), (0, .ref a), (1, .int (nI n2843)), (2, .long x902)]) e_X9_partFor_15 (by decide) rfl ?_
      refine m_aloadN F rfl e_X9_partFor_17 ?_
      refine m_ifnonnullN F e_X9_partFor_19 ?_
      refine m_bipush F (v := (-2)) (by decide) e_X9_partFor_22 ?_
      exact m_iret F hQ e_X9_partFor_24 (⟨h2847, _, rfl⟩)
    · refine m_astore F (lv' := [(4, .ref r2851), (0, .ref a), (1, .int (nI n2843)), (2, .long x902)]) e_X9_partFor_15 (by decide) rfl ?_
      refine m_aload F rfl e_X9_partFor_17 ?_
      refine m_ifnonnullR F e_X9_partFor_19 ?_
      refine m_iconst F (v := 1) (by decide) e_X9_partFor_25 ?_
      refine m_istore F (lv' := [(5, .int 1), (4, .ref r2851), (0, .ref a), (1, .int (nI n2843)), (2, .long x902)]) e_X9_partFor_26 (by decide) rfl ?_
      refine Wm.lvsub (lv' := [(5, .int 1), (0, .ref a), (1, .int (nI n2843)), (2, .long x902), (4, .ref r2851)]) ?_ [0, 2, 3, 4, 1] rfl
      exact lp_X9_partFor_28 F hQ hk hM (1000 - 1 + 1) 1 (nI n2843) r2851 _ h2847 ⟨k2852, (by omega)⟩ (Nat.lt_succ_self _)
set_option maxRecDepth 20000 in
theorem lp_X9_latest_31 {V : VX} {X : MX} {b M Z T N : Nat} {σ : Mem} {a : Nat}   (F : Fx V X yX9_latest cX9_latest 5 (some .int) (rmd 3 0 0)) (hQ : Rt V X 0 0 N (fun r τ => HK V (b, M, Z, T) [0, 1, 2, 3, 4, 5, 6, 7, 8, 9, 10, 11, 12, 13, 14, 15, 16, 17, 18, 19] σ τ ∧ ∃ x : Int32, r = some (.int x))) (hk : kA b a = 1) (hM : M + 0 ≤ 1000000000)  : ∀ (fuel : Nat) (i : Nat) (c : Nat) (u3 : Int32) (u4 : Int32) (τ : Mem), HK V (b, M, Z, T) [0, 1, 2, 3, 4, 5, 6, 7, 8, 9, 10, 11, 12, 13, 14, 15, 16, 17, 18, 19] σ τ → i ≤ 40 ∧ c ≤ 40 → 40 - i < fuel → Wm V X 5 N τ 0 0 31 [(4, .int (nI i)), (3, .int (nI c)), (0, .ref a), (1, .int u3), (2, .int u4)] [] := by
  intro fuel
  induction fuel with
  | zero => intro i c u3 u4 τ h1 hi hm; exact absurd hm (Nat.not_lt_zero _)
  | succ fuel ih =>
    intro i c u3 u4 τ h1 hi hm
    refine m_iload F rfl e_X9_latest_31 ?_
    refine m_iload_n F rfl e_X9_latest_33 ?_
    refine m_icmp_ge F e_X9_latest_34 (fun q34 => ?_) (fun q34 => ?_)
    · have c34 : i ≥ c := (nI_leI (a := c) (b := i) (by omega) (by omega)).mp q34
      refine m_bipush F (v := (-2)) (by decide) e_X9_latest_96 ?_
      exact m_iret F hQ e_X9_latest_98 (⟨h1, _, rfl⟩)
    · have c34 : i < c := by have hh := mt (nI_leI (a := c) (b := i) (by omega) (by omega)).mpr q34; omega
      refine m_aload_n F rfl e_X9_latest_37 ?_
      refine t_get F e_X9_latest_38 fl_X9_16 (fun _ => o1) h1 hk rfl (fun v hv f2853 => ?_)
      obtain ⟨r2854, k2855, rfl⟩ := hv
      refine t_get F e_X9_latest_41 fl_X9_186 (fun _ => o7) h1 k2855 rfl (fun v hv f2856 => ?_)
      obtain rfl : v = .ref (r2854 + 5) := hv
      refine m_iload F rfl e_X9_latest_44 ?_
      refine m_iconst F (v := 0) (by decide) e_X9_latest_46 ?_
      refine t_callV F e_X9_latest_47 (s_X3_told (x_l X) V b M Z T _ _ (r2854 + 5) (nI i) 0 h1.1 (kA_7 k2855 (r := 5) (by decide))  (by omega)) cb_X3_told ml_X9_199 im_X3_told se_X3_told (fun _ => o12) h1 (kA_7 k2855 (r := 5) (by decide)) rfl rfl (rest := []) rfl (Nat.le_of_ble_eq_true rfl) ⟨Nat.le_of_ble_eq_true rfl, Nat.le_of_ble_eq_true rfl⟩ ⟨Nat.le_of_ble_eq_true rfl, Nat.le_of_ble_eq_true rfl⟩ (fun r σ2857 hp => ?_)
      obtain ⟨h2859, x2860, rfl⟩ := hp
      have h2858 := HK.trans h1 h2859 (by decide)
      refine m_iload_n F rfl e_X9_latest_50 ?_
      refine m_i2l F e_X9_latest_51 ?_
      refine Wm.topl (fun x2861 _ => ?_)
      refine m_lcmp F e_X9_latest_52 ?_
      refine Wm.top (fun x2862 _ => ?_)
      refine m_if_ne F e_X9_latest_53 (fun q53 => ?_) (fun q53 => ?_)
      · refine m_iinc F (v := nI (i + 1)) (lv' := [(4, .int (nI (i + 1))), (3, .int (nI c)), (0, .ref a), (1, .int u3), (2, .int u4)]) e_X9_latest_90 rfl (nI_add i 1) (by decide) rfl ?_
        refine m_goto F e_X9_latest_93 ?_
        exact ih (i + 1) c u3 u4 _ h2858 (by omega) (by omega)
      · refine m_aload_n F rfl e_X9_latest_56 ?_
        refine t_getC F e_X9_latest_57 fl_X9_16 (fun _ => o1) h2858 hk ((fld_eq (h2859.2 a (by rw [show kA _ a = 1 from hk]; decide))).trans f2853) ?_
        refine t_getC F e_X9_latest_60 fl_X9_186 (fun _ => o7) h2858 k2855 ((fld_eq (h2859.2 r2854 (by rw [show kA _ r2854 = 7 from k2855]; decide))).trans f2856) ?_
        refine m_iload F rfl e_X9_latest_63 ?_
        refine m_iconst F (v := 2) (by decide) e_X9_latest_65 ?_
        refine t_callV F e_X9_latest_66 (s_X3_told (x_l X) V b M Z T _ _ (r2854 + 5) (nI i) 2 h2858.1 (kA_7 k2855 (r := 5) (by decide))  (by omega)) cb_X3_told ml_X9_199 im_X3_told se_X3_told (fun _ => o12) h2858 (kA_7 k2855 (r := 5) (by decide)) rfl rfl (rest := []) rfl (Nat.le_of_ble_eq_true rfl) ⟨Nat.le_of_ble_eq_true rfl, Nat.le_of_ble_eq_true rfl⟩ ⟨Nat.le_of_ble_eq_true rfl, Nat.le_of_ble_eq_true rfl⟩ (fun r σ2863 hp => ?_)
        obtain ⟨h2865, x2866, rfl⟩ := hp
        have h2864 := HK.trans h2858 h2865 (by decide)
        refine m_iload_n F rfl e_X9_latest_69 ?_
        refine m_i2l F e_X9_latest_70 ?_
        refine Wm.topl (fun x2867 _ => ?_)
        refine m_lcmp F e_X9_latest_71 ?_
        refine Wm.top (fun x2868 _ => ?_)
        refine m_if_ne F e_X9_latest_72 (fun q72 => ?_) (fun q72 => ?_)
        · refine m_iinc F (v := nI (i + 1)) (lv' := [(4, .int (nI (i + 1))), (3, .int (nI c)), (0, .ref a), (1, .int u3), (2, .int u4)]) e_X9_latest_90 rfl (nI_add i 1) (by decide) rfl ?_
          refine m_goto F e_X9_latest_93 ?_
          exact ih (i + 1) c u3 u4 _ h2864 (by omega) (by omega)
        · refine m_aload_n F rfl e_X9_latest_75 ?_
          refine t_getC F e_X9_latest_76 fl_X9_16 (fun _ => o1) h2864 hk ((fld_eq (h2865.2 a (by rw [show kA _ a = 1 from hk]; decide))).trans ((fld_eq (h2859.2 a (by rw [show kA _ a = 1 from hk]; decide))).trans f2853)) ?_
          refine t_getC F e_X9_latest_79 fl_X9_186 (fun _ => o7) h2864 k2855 ((fld_eq (h2865.2 r2854 (by rw [show kA _ r2854 = 7 from k2855]; decide))).trans ((fld_eq (h2859.2 r2854 (by rw [show kA _ r2854 = 7 from k2855]; decide))).trans f2856)) ?_
          refine m_iload F rfl e_X9_latest_82 ?_
          refine m_iconst F (v := 1) (by decide) e_X9_latest_84 ?_
          refine t_callV F e_X9_latest_85 (s_X3_told (x_l X) V b M Z T _ _ (r2854 + 5) (nI i) 1 h2864.1 (kA_7 k2855 (r := 5) (by decide))  (by omega)) cb_X3_told ml_X9_199 im_X3_told se_X3_told (fun _ => o12) h2864 (kA_7 k2855 (r := 5) (by decide)) rfl rfl (rest := []) rfl (Nat.le_of_ble_eq_true rfl) ⟨Nat.le_of_ble_eq_true rfl, Nat.le_of_ble_eq_true rfl⟩ ⟨Nat.le_of_ble_eq_true rfl, Nat.le_of_ble_eq_true rfl⟩ (fun r σ2869 hp => ?_)
          obtain ⟨h2871, x2872, rfl⟩ := hp
          have h2870 := HK.trans h2864 h2871 (by decide)
          refine m_l2i F e_X9_latest_88 ?_
          refine Wm.top (fun x2873 _ => ?_)
          exact m_iret F hQ e_X9_latest_89 (⟨h2870, _, rfl⟩)
set_option maxRecDepth 20000 in
theorem s_X9_latest (l : Launch) (V : VX) (b M Z T N : Nat) (σ : Mem) (a : Nat) (x901 : Int32) (x902 : Int32) (h0 : HT V (b, M, Z, T) σ) (hk : kA b a = 1) (hM : M + 0 ≤ 1000000000) : Ct l V yX9_latest cX9_latest 5 (some .int) 3 0 0 N σ [.ref a, .int x901, .int x902] (fun r τ => HK V (b, M, Z, T) [0, 1, 2, 3, 4, 5, 6, 7, 8, 9, 10, 11, 12, 13, 14, 15, 16, 17, 18, 19] σ τ ∧ ∃ x : Int32, r = some (.int x)) := by
  refine Ct.of (by decide) (Nat.le_of_ble_eq_true rfl) [(0, .ref a), (1, .int x901), (2, .int x902)] rfl (fun X hX F hQ => ?_)
  have h1 : HK V (b, M, Z, T) [0, 1, 2, 3, 4, 5, 6, 7, 8, 9, 10, 11, 12, 13, 14, 15, 16, 17, 18, 19] σ σ := HK.start h0
  refine m_aload_n F rfl e_X9_latest_0 ?_
  refine m_iload_n F rfl e_X9_latest_1 ?_
  refine t_callV F e_X9_latest_2 (s_X9_leaseAt (x_l X) V b M Z T _ _ a x901 h1.1 hk  (by omega)) cb_X9_leaseAt ml_X9_103 im_X9_leaseAt se_X9_leaseAt (fun _ => o1) h1 hk rfl rfl (rest := []) rfl (Nat.le_of_ble_eq_true rfl) ⟨Nat.le_of_ble_eq_true rfl, Nat.le_of_ble_eq_true rfl⟩ ⟨Nat.le_of_ble_eq_true rfl, Nat.le_of_ble_eq_true rfl⟩ (fun r σ2874 hp => ?_)
  obtain ⟨h2876, c2877⟩ := hp
  have h2875 := HK.trans h1 h2876 (by decide)
  rcases c2877 with rfl | ⟨n2878, r2879, hn2878, en2878, k2880, rfl⟩
  · refine m_ifnullN F e_X9_latest_5 ?_
    refine m_iconst F (v := (-1)) (by decide) e_X9_latest_15 ?_
    exact m_iret F hQ e_X9_latest_16 (⟨h2875, _, rfl⟩)
  · subst en2878
    refine m_ifnullR F e_X9_latest_5 ?_
    refine m_iload_n F rfl e_X9_latest_8 ?_
    refine m_callS F e_X9_latest_9 (s_X9_isSort (x_l X) V b M Z T _ _ x902 h2875.1  (by omega)) cb_X9_isSort ml_X9_281 sm_X9_isSort rfl (rest := []) rfl (Nat.le_of_ble_eq_true rfl) ⟨Nat.le_of_ble_eq_true rfl, Nat.le_of_ble_eq_true rfl⟩ ⟨Nat.le_of_ble_eq_true rfl, Nat.le_of_ble_eq_true rfl⟩ (k' := 0) (z' := 0) (N' := N) rfl rfl rfl (fun r σ2881 hp => ?_)
    obtain ⟨h2883, n2884, hn2884, rfl⟩ := hp
    have h2882 := HK.trans h2875 h2883 (by decide)
    refine m_if_ne F e_X9_latest_12 (fun q12 => ?_) (fun q12 => ?_)
    · have c12 : n2884 ≠ 0 := by have hh := mt (nI_eq (a := n2884) (b := 0) (by omega) (by omega)).mpr q12; omega
      refine m_aload_n F rfl e_X9_latest_17 ?_
      refine t_get F e_X9_latest_18 fl_X9_16 (fun _ => o1) h2882 hk rfl (fun v hv f2885 => ?_)
      obtain ⟨r2886, k2887, rfl⟩ := hv
      refine t_get F e_X9_latest_21 fl_X9_186 (fun _ => o7) h2882 k2887 rfl (fun v hv f2888 => ?_)
      obtain rfl : v = .ref (r2886 + 5) := hv
      obtain ⟨v9, ⟨n2889, hn2889, rfl⟩, f2890⟩ := HK.f (j := 2) h2882 (fun _ => o12) (kA_7 k2887 (r := 5) (by decide)) rfl
      replace hn2889 : n2889 ≤ M := hn2889
      refine t_callV F e_X9_latest_24 (s_X3_kept (x_l X) V b M Z T _ _ (r2886 + 5) n2889 h2882.1 (kA_7 k2887 (r := 5) (by decide)) (f2890) (by omega) (by omega)) cb_X3_kept ml_X9_196 im_X3_kept se_X3_kept (fun _ => o12) h2882 (kA_7 k2887 (r := 5) (by decide)) rfl rfl (rest := []) rfl (Nat.le_of_ble_eq_true rfl) ⟨Nat.le_of_ble_eq_true rfl, Nat.le_of_ble_eq_true rfl⟩ ⟨Nat.le_of_ble_eq_true rfl, Nat.le_of_ble_eq_true rfl⟩ (fun r σ2891 hp => ?_)
      obtain ⟨h2893, n2894, hn2894, gn2894, rfl⟩ := hp
      have h2892 := HK.trans h2882 h2893 (by decide)
      refine m_istore_n F (lv' := [(3, .int (nI n2894)), (0, .ref a), (1, .int (nI n2878)), (2, .int x902)]) e_X9_latest_27 (by decide) rfl ?_
      refine m_iconst F (v := 0) (by decide) e_X9_latest_28 ?_
      refine m_istore F (lv' := [(4, .int 0), (3, .int (nI n2894)), (0, .ref a), (1, .int (nI n2878)), (2, .int x902)]) e_X9_latest_29 (by decide) rfl ?_
      exact lp_X9_latest_31 F hQ hk hM (40 - 0 + 1) 0 n2894 (nI n2878) x902 _ h2892 (by omega) (Nat.lt_succ_self _)
    · have c12 : n2884 = 0 := (nI_eq (a := n2884) (b := 0) (by omega) (by omega)).mp q12
      refine m_iconst F (v := (-1)) (by decide) e_X9_latest_15 ?_
      exact m_iret F hQ e_X9_latest_16 (⟨h2882, _, rfl⟩)
set_option maxRecDepth 20000 in
theorem lp_X9_half_48 {V : VX} {X : MX} {b M Z T N : Nat} {σ : Mem} {a : Nat}   (F : Fx V X yX9_half cX9_half 6 (some .int) (rmd 7 0 0)) (hQ : Rt V X 0 0 N (fun r τ => HK V (b, M + 1400, Z, T) [0, 1, 2, 3, 4, 5, 8, 9, 16] σ τ ∧ ∃ x : Int32, r = some (.int x))) (hk : kA b a = 1) (hM : M + 1400 ≤ 1000000000)  : ∀ (fuel : Nat) (i : Nat) (c : Nat) (p : Nat) (q1 : Nat) (q2 : Nat) (τ : Mem), HK V (b, M + 648 + 9 * i, Z, T) [0, 1, 2, 3, 4, 5, 8, 9, 16] σ τ → kA b q1 = 15 ∧ kA b q2 = 7 ∧ i ≤ 73 ∧ c ≤ 72 ∧ p ≤ 3 → 73 - i < fuel → Wm V X 6 N τ 0 0 48 [(5, .int (nI i)), (4, .int (nI c)), (0, .ref a), (1, .int (nI p)), (2, .ref q1), (3, .ref q2)] [] := by
  intro fuel
  induction fuel with
  | zero => intro i c p q1 q2 τ h1 hi hm; exact absurd hm (Nat.not_lt_zero _)
  | succ fuel ih =>
    intro i c p q1 q2 τ h1 hi hm
    obtain ⟨kq1, kq2, hi⟩ := hi
    refine m_iload F rfl e_X9_half_48 ?_
    refine m_iload F rfl e_X9_half_50 ?_
    refine m_icmp_gt F e_X9_half_52 (fun q52 => ?_) (fun q52 => ?_)
    · have c52 : i > c := (nI_ltI (a := c) (b := i) (by omega) (by omega)).mp q52
      refine m_bipush F (v := (-2)) (by decide) e_X9_half_89 ?_
      exact m_iret F hQ e_X9_half_91 (⟨(h1.mono (M' := M + 1400) (Z' := Z) (by omega) (by intro e; first | rfl | assumption | omega)), _, rfl⟩)
    · have c52 : i ≤ c := by have hh := mt (nI_ltI (a := c) (b := i) (by omega) (by omega)).mpr q52; omega
      refine m_aload_n F rfl e_X9_half_55 ?_
      refine t_callV F e_X9_half_56 (s_X2_periodGoesBy (x_l X) V b (M + 648 + 9 * i) Z T _ _ q2  h1.1 kq2  (by omega)) cb_X2_periodGoesBy ml_X9_100 im_X2_periodGoesBy se_X2_periodGoesBy (fun _ => o7) h1 kq2 rfl rfl (rest := []) rfl (Nat.le_of_ble_eq_true rfl) ⟨Nat.le_of_ble_eq_true rfl, Nat.le_of_ble_eq_true rfl⟩ ⟨Nat.le_of_ble_eq_true rfl, Nat.le_of_ble_eq_true rfl⟩ (fun r σ2895 hp => ?_)
      obtain ⟨h2897, rfl⟩ := hp
      have h2896 := HK.trans h1 h2897 (by decide)
      refine m_aload_n F rfl e_X9_half_59 ?_
      refine t_get F e_X9_half_60 fl_X9_226 (fun _ => o7) h2896 kq2 rfl (fun v hv f2898 => ?_)
      obtain rfl : v = .ref (q2 + 1) := hv
      refine m_iload_n F rfl e_X9_half_63 ?_
      refine t_aald8 F (j := p) e_X9_half_64 rfl h2896 (kA_7 kq2 (r := 1) (by decide)) (nI_clamp (by omega)) (vp_in_nI (by omega) (by decide)) ?_
      refine t_get F e_X9_half_65 fl_X9_151 (fun _ => o15) h2896 (kA_8 (kA_7 kq2 (r := 1) (by decide)) (j := p) (by omega)) rfl (fun v hv f2899 => ?_)
      obtain ⟨r2900, k2901, rfl⟩ := hv
      refine m_iconst F (v := 1) (by decide) e_X9_half_68 ?_
      refine m_aload_n F rfl e_X9_half_69 ?_
      refine t_get F e_X9_half_70 fl_X9_151 (fun _ => o15) h2896 kq1 rfl (fun v hv f2902 => ?_)
      obtain ⟨r2903, k2904, rfl⟩ := hv
      refine m_iconst F (v := 2) (by decide) e_X9_half_73 ?_
      refine t_callV F e_X9_half_74 (s_X1_isGreaterShare (x_l X) V b (M + 648 + 9 * i + 9) Z T _ _ r2900 1 r2903 2 h2896.1 k2901 k2904 (by omega)) cb_X1_isGreaterShare ml_X9_301 im_X1_isGreaterShare se_X1_isGreaterShare (fun _ => o6) h2896 k2901 rfl rfl (rest := []) rfl (Nat.le_of_ble_eq_true rfl) ⟨Nat.le_of_ble_eq_true rfl, Nat.le_of_ble_eq_true rfl⟩ ⟨Nat.le_of_ble_eq_true rfl, Nat.le_of_ble_eq_true rfl⟩ (fun r σ2905 hp => ?_)
      obtain ⟨h2907, n2908, hn2908, rfl⟩ := hp
      have h2906 := HK.trans h2896 h2907 (by decide)
      refine m_if_ne F e_X9_half_77 (fun q77 => ?_) (fun q77 => ?_)
      · have c77 : n2908 ≠ 0 := by have hh := mt (nI_eq (a := n2908) (b := 0) (by omega) (by omega)).mpr q77; omega
        refine m_iinc F (v := nI (i + 1)) (lv' := [(5, .int (nI (i + 1))), (4, .int (nI c)), (0, .ref a), (1, .int (nI p)), (2, .ref q1), (3, .ref q2)]) e_X9_half_83 rfl (nI_add i 1) (by decide) rfl ?_
        refine m_goto F e_X9_half_86 ?_
        exact ih (i + 1) c p q1 q2 _ (h2906.mono (M' := M + 648 + 9 * (i + 1)) (Z' := Z) (by omega) (by intro e9; first | exact e9 | rfl)) ⟨kq1, kq2, (by omega)⟩ (by omega)
      · have c77 : n2908 = 0 := (nI_eq (a := n2908) (b := 0) (by omega) (by omega)).mp q77
        refine m_iload F rfl e_X9_half_80 ?_
        exact m_iret F hQ e_X9_half_82 (⟨(h2906.mono (M' := M + 1400) (Z' := Z) (by omega) (by intro e; first | rfl | assumption | omega)), _, rfl⟩)
set_option maxRecDepth 20000 in
theorem s_X9_half (l : Launch) (V : VX) (b M Z T N : Nat) (σ : Mem) (a : Nat) (x901 : Int32) (h0 : HT V (b, M, Z, T) σ) (hk : kA b a = 1) (hM : M + 1400 ≤ 1000000000) : Ct l V yX9_half cX9_half 6 (some .int) 7 0 0 N σ [.ref a, .int x901] (fun r τ => HK V (b, M + 1400, Z, T) [0, 1, 2, 3, 4, 5, 8, 9, 16] σ τ ∧ ∃ x : Int32, r = some (.int x)) := by
  refine Ct.of (by decide) (Nat.le_of_ble_eq_true rfl) [(0, .ref a), (1, .int x901)] rfl (fun X hX F hQ => ?_)
  have h1 : HK V (b, M, Z, T) [0, 1, 2, 3, 4, 5, 8, 9, 16] σ σ := HK.start h0
  refine m_aload_n F rfl e_X9_half_0 ?_
  refine m_iload_n F rfl e_X9_half_1 ?_
  refine t_callV F e_X9_half_2 (s_X9_leaseAt (x_l X) V b M Z T _ _ a x901 h1.1 hk  (by omega)) cb_X9_leaseAt ml_X9_103 im_X9_leaseAt se_X9_leaseAt (fun _ => o1) h1 hk rfl rfl (rest := []) rfl (Nat.le_of_ble_eq_true rfl) ⟨Nat.le_of_ble_eq_true rfl, Nat.le_of_ble_eq_true rfl⟩ ⟨Nat.le_of_ble_eq_true rfl, Nat.le_of_ble_eq_true rfl⟩ (fun r σ2909 hp => ?_)
  obtain ⟨h2911, c2912⟩ := hp
  have h2910 := HK.trans h1 h2911 (by decide)
  rcases c2912 with rfl | ⟨n2913, r2914, hn2913, en2913, k2915, rfl⟩
  · refine m_astore_nN F (lv' := [(2, .null), (0, .ref a), (1, .int x901)]) e_X9_half_5 (by decide) rfl ?_
    refine m_aload_nN F rfl e_X9_half_6 ?_
    refine m_ifnullN F e_X9_half_7 ?_
    refine m_iconst F (v := (-1)) (by decide) e_X9_half_17 ?_
    exact m_iret F hQ e_X9_half_18 (⟨(h2910.mono (M' := M + 1400) (Z' := Z) (by omega) (by intro e; first | rfl | assumption | omega)), _, rfl⟩)
  · subst en2913
    refine m_astore_n F (lv' := [(2, .ref r2914), (0, .ref a), (1, .int (nI n2913))]) e_X9_half_5 (by decide) rfl ?_
    refine m_aload_n F rfl e_X9_half_6 ?_
    refine m_ifnullR F e_X9_half_7 ?_
    refine m_aload_n F rfl e_X9_half_10 ?_
    refine t_get F e_X9_half_11 fl_X9_125 (fun _ => o15) h2910 k2915 rfl (fun v hv f2916 => ?_)
    obtain ⟨x2917, rfl⟩ := hv
    refine m_if_ne F e_X9_half_14 (fun q14 => ?_) (fun q14 => ?_)
    · refine m_aload_n F rfl e_X9_half_19 ?_
      refine t_get F e_X9_half_20 fl_X9_151 (fun _ => o15) h2910 k2915 rfl (fun v hv f2918 => ?_)
      obtain ⟨r2919, k2920, rfl⟩ := hv
      refine t_callV F e_X9_half_23 (s_X1_isZero (x_l X) V b M Z T _ _ r2919  h2910.1 k2920  (by omega)) cb_X1_isZero ml_X9_314 im_X1_isZero se_X1_isZero (fun _ => o6) h2910 k2920 rfl rfl (rest := []) rfl (Nat.le_of_ble_eq_true rfl) ⟨Nat.le_of_ble_eq_true rfl, Nat.le_of_ble_eq_true rfl⟩ ⟨Nat.le_of_ble_eq_true rfl, Nat.le_of_ble_eq_true rfl⟩ (fun r σ2921 hp => ?_)
      obtain ⟨h2923, n2924, hn2924, rfl⟩ := hp
      have h2922 := HK.trans h2910 h2923 (by decide)
      refine m_if_eq F e_X9_half_26 (fun q26 => ?_) (fun q26 => ?_)
      · have c26 : n2924 = 0 := (nI_eq (a := n2924) (b := 0) (by omega) (by omega)).mp q26
        refine m_aload_n F rfl e_X9_half_31 ?_
        refine m_iconst F (v := 0) (by decide) e_X9_half_32 ?_
        refine t_callV F e_X9_half_33 (s_X9_bookIn (x_l X) V b M Z T _ _ a 0 h2922.1 hk (by omega) (by omega)) cb_X9_bookIn ml_X9_271 im_X9_bookIn se_X9_bookIn (fun _ => o1) h2922 hk rfl rfl (rest := []) rfl (Nat.le_of_ble_eq_true rfl) ⟨Nat.le_of_ble_eq_true rfl, Nat.le_of_ble_eq_true rfl⟩ ⟨Nat.le_of_ble_eq_true rfl, Nat.le_of_ble_eq_true rfl⟩ (fun r σ2925 hp => ?_)
        obtain ⟨h2927, r2928, k2929, rfl⟩ := hp
        have h2926 := HK.trans h2922 h2927 (by decide)
        refine m_astore_n F (lv' := [(3, .ref r2928), (2, .ref r2914), (0, .ref a), (1, .int (nI n2913))]) e_X9_half_36 (by decide) rfl ?_
        refine m_aload_n F rfl e_X9_half_37 ?_
        refine m_bipush F (v := 72) (by decide) e_X9_half_38 ?_
        refine t_callV F e_X9_half_40 (s_X9_coming (x_l X) V b (M + 648) Z T _ _ a 72 h2926.1 hk (by omega) (by omega)) cb_X9_coming ml_X9_324 im_X9_coming se_X9_coming (fun _ => o1) h2926 hk rfl rfl (rest := []) rfl (Nat.le_of_ble_eq_true rfl) ⟨Nat.le_of_ble_eq_true rfl, Nat.le_of_ble_eq_true rfl⟩ ⟨Nat.le_of_ble_eq_true rfl, Nat.le_of_ble_eq_true rfl⟩ (fun r σ2930 hp => ?_)
        obtain ⟨h2932, n2933, hn2933, rfl⟩ := hp
        have h2931 := HK.trans h2926 h2932 (by decide)
        refine m_istore F (lv' := [(4, .int (nI n2933)), (3, .ref r2928), (2, .ref r2914), (0, .ref a), (1, .int (nI n2913))]) e_X9_half_43 (by decide) rfl ?_
        refine m_iconst F (v := 1) (by decide) e_X9_half_45 ?_
        refine m_istore F (lv' := [(5, .int 1), (4, .int (nI n2933)), (3, .ref r2928), (2, .ref r2914), (0, .ref a), (1, .int (nI n2913))]) e_X9_half_46 (by decide) rfl ?_
        refine Wm.lvsub (lv' := [(5, .int 1), (4, .int (nI n2933)), (0, .ref a), (1, .int (nI n2913)), (2, .ref r2914), (3, .ref r2928)]) ?_ [0, 1, 4, 5, 3, 2] rfl
        exact lp_X9_half_48 F hQ hk hM (73 - 1 + 1) 1 n2933 n2913 r2914 r2928 _ (h2931.mono (M' := M + 648 + 9 * 1) (Z' := Z) (by omega) (by intro e9; first | exact e9 | rfl)) ⟨k2915, k2929, (by omega)⟩ (Nat.lt_succ_self _)
      · have c26 : n2924 ≠ 0 := by have hh := mt (nI_eq (a := n2924) (b := 0) (by omega) (by omega)).mpr q26; omega
        refine m_iconst F (v := 0) (by decide) e_X9_half_29 ?_
        exact m_iret F hQ e_X9_half_30 (⟨(h2922.mono (M' := M + 1400) (Z' := Z) (by omega) (by intro e; first | rfl | assumption | omega)), _, rfl⟩)
    · refine m_iconst F (v := (-1)) (by decide) e_X9_half_17 ?_
      exact m_iret F hQ e_X9_half_18 (⟨(h2910.mono (M' := M + 1400) (Z' := Z) (by omega) (by intro e; first | rfl | assumption | omega)), _, rfl⟩)
set_option maxRecDepth 20000 in
theorem lp_X9_cash_40 {V : VX} {X : MX} {b M Z T N : Nat} {σ : Mem} {a : Nat}   (F : Fx V X yX9_cash cX9_cash 8 (some .long) (rmd 7 0 0)) (hQ : Rt V X 0 0 N (fun r τ => HK V (b, M + 1400, Z, T) [0, 1, 2, 3, 4, 5, 8, 9, 16] σ τ ∧ ∃ x : Int64, r = some (.long x))) (hk : kA b a = 1) (hM : M + 1400 ≤ 1000000000)  : ∀ (fuel : Nat) (i : Nat) (c : Nat) (u1 : Int64) (u3 : Int32) (u4 : Int32) (q2 : Nat) (τ : Mem), HK V (b, M + 648 + 9 * i, Z, T) [0, 1, 2, 3, 4, 5, 8, 9, 16] σ τ → kA b q2 = 7 ∧ i ≤ 72 ∧ c ≤ 72 → 72 - i < fuel → Wm V X 8 N τ 0 0 40 [(7, .int (nI i)), (4, .int (nI c)), (5, .long u1), (0, .ref a), (1, .int u3), (2, .int u4), (3, .ref q2)] [] := by
  intro fuel
  induction fuel with
  | zero => intro i c u1 u3 u4 q2 τ h1 hi hm; exact absurd hm (Nat.not_lt_zero _)
  | succ fuel ih =>
    intro i c u1 u3 u4 q2 τ h1 hi hm
    obtain ⟨kq2, hi⟩ := hi
    refine m_iload F rfl e_X9_cash_40 ?_
    refine m_iload F rfl e_X9_cash_42 ?_
    refine m_icmp_ge F e_X9_cash_44 (fun q44 => ?_) (fun q44 => ?_)
    · have c44 : i ≥ c := (nI_leI (a := c) (b := i) (by omega) (by omega)).mp q44
      refine m_lload F rfl e_X9_cash_75 ?_
      exact m_lret F hQ e_X9_cash_77 (⟨(h1.mono (M' := M + 1400) (Z' := Z) (by omega) (by intro e; first | rfl | assumption | omega)), _, rfl⟩)
    · have c44 : i < c := by have hh := mt (nI_leI (a := c) (b := i) (by omega) (by omega)).mpr q44; omega
      refine m_aload_n F rfl e_X9_cash_47 ?_
      refine t_callV F e_X9_cash_48 (s_X2_periodGoesBy (x_l X) V b (M + 648 + 9 * i) Z T _ _ q2  h1.1 kq2  (by omega)) cb_X2_periodGoesBy ml_X9_100 im_X2_periodGoesBy se_X2_periodGoesBy (fun _ => o7) h1 kq2 rfl rfl (rest := []) rfl (Nat.le_of_ble_eq_true rfl) ⟨Nat.le_of_ble_eq_true rfl, Nat.le_of_ble_eq_true rfl⟩ ⟨Nat.le_of_ble_eq_true rfl, Nat.le_of_ble_eq_true rfl⟩ (fun r σ2934 hp => ?_)
      obtain ⟨h2936, rfl⟩ := hp
      have h2935 := HK.trans h1 h2936 (by decide)
      refine m_iload F rfl e_X9_cash_51 ?_
      refine m_iload_n F rfl e_X9_cash_53 ?_
      refine m_icmp_lt F e_X9_cash_54 (fun q54 => ?_) (fun q54 => ?_)
      · refine m_iinc F (v := nI (i + 1)) (lv' := [(7, .int (nI (i + 1))), (4, .int (nI c)), (5, .long u1), (0, .ref a), (1, .int u3), (2, .int u4), (3, .ref q2)]) e_X9_cash_69 rfl (nI_add i 1) (by decide) rfl ?_
        refine m_goto F e_X9_cash_72 ?_
        exact ih (i + 1) c u1 u3 u4 q2 _ (h2935.mono (M' := M + 648 + 9 * (i + 1)) (Z' := Z) (by omega) (by intro e9; first | exact e9 | rfl)) ⟨kq2, (by omega)⟩ (by omega)
      · refine m_lload F rfl e_X9_cash_57 ?_
        refine m_aload_n F rfl e_X9_cash_59 ?_
        refine t_get F e_X9_cash_60 fl_X9_327 (fun _ => o7) h2935 kq2 rfl (fun v hv f2937 => ?_)
        obtain rfl : v = .ref (q2 + 8) := hv
        refine t_callV F e_X9_cash_63 (s_X1_asLong (x_l X) V b (M + 648 + 9 * i + 9) Z T _ _ (q2 + 8)  h2935.1 (kA_7 kq2 (r := 8) (by decide))  (by omega)) cb_X1_asLong ml_X9_157 im_X1_asLong se_X1_asLong (fun _ => o6) h2935 (kA_7 kq2 (r := 8) (by decide)) rfl rfl (rest := [.long u1]) rfl (Nat.le_of_ble_eq_true rfl) ⟨Nat.le_of_ble_eq_true rfl, Nat.le_of_ble_eq_true rfl⟩ ⟨Nat.le_of_ble_eq_true rfl, Nat.le_of_ble_eq_true rfl⟩ (fun r σ2938 hp => ?_)
        obtain ⟨h2940, x2941, rfl⟩ := hp
        have h2939 := HK.trans h2935 h2940 (by decide)
        refine m_ladd F e_X9_cash_66 ?_
        refine Wm.topl (fun x2942 _ => ?_)
        refine m_lstore F (lv' := [(5, .long x2942), (7, .int (nI i)), (4, .int (nI c)), (0, .ref a), (1, .int u3), (2, .int u4), (3, .ref q2)]) e_X9_cash_67 (by decide) rfl ?_
        refine m_iinc F (v := nI (i + 1)) (lv' := [(7, .int (nI (i + 1))), (5, .long x2942), (4, .int (nI c)), (0, .ref a), (1, .int u3), (2, .int u4), (3, .ref q2)]) e_X9_cash_69 rfl (nI_add i 1) (by decide) rfl ?_
        refine m_goto F e_X9_cash_72 ?_
        refine Wm.lvsub (lv' := [(7, .int (nI (i + 1))), (4, .int (nI c)), (5, .long x2942), (0, .ref a), (1, .int u3), (2, .int u4), (3, .ref q2)]) ?_ [0, 2, 1, 3, 4, 5, 6] rfl
        exact ih (i + 1) c x2942 u3 u4 q2 _ (h2939.mono (M' := M + 648 + 9 * (i + 1)) (Z' := Z) (by omega) (by intro e9; first | exact e9 | rfl)) ⟨kq2, (by omega)⟩ (by omega)
set_option maxRecDepth 20000 in
theorem s_X9_cash (l : Launch) (V : VX) (b M Z T N : Nat) (σ : Mem) (a : Nat) (x901 : Int32) (x902 : Int32) (h0 : HT V (b, M, Z, T) σ) (hk : kA b a = 1) (hM : M + 1400 ≤ 1000000000) : Ct l V yX9_cash cX9_cash 8 (some .long) 7 0 0 N σ [.ref a, .int x901, .int x902] (fun r τ => HK V (b, M + 1400, Z, T) [0, 1, 2, 3, 4, 5, 8, 9, 16] σ τ ∧ ∃ x : Int64, r = some (.long x)) := by
  refine Ct.of (by decide) (Nat.le_of_ble_eq_true rfl) [(0, .ref a), (1, .int x901), (2, .int x902)] rfl (fun X hX F hQ => ?_)
  have h1 : HK V (b, M, Z, T) [0, 1, 2, 3, 4, 5, 8, 9, 16] σ σ := HK.start h0
  refine m_iload_n F rfl e_X9_cash_0 ?_
  refine m_if_lt F e_X9_cash_1 (fun q1 => ?_) (fun q1 => ?_)
  · refine m_ldc2 F kc_X9_149 e_X9_cash_15 ?_
    exact m_lret F hQ e_X9_cash_18 (⟨(h1.mono (M' := M + 1400) (Z' := Z) (by omega) (by intro e; first | rfl | assumption | omega)), _, rfl⟩)
  · obtain ⟨n2943, hn2943, rfl⟩ := nI_nn (x := x901) (fun e => q1 (Int32.lt_of_lt_of_le e (by decide)))
    have c1 : n2943 ≥ 0 := by have hh := mt (nI_ltI (a := n2943) (b := 0) (by omega) (by omega)).mpr q1; omega
    refine m_iload_n F rfl e_X9_cash_4 ?_
    refine m_bipush F (v := 72) (by decide) e_X9_cash_5 ?_
    refine m_icmp_ge F e_X9_cash_7 (fun q7 => ?_) (fun q7 => ?_)
    · obtain ⟨n2944, hn2944, rfl⟩ := nI_nn (x := x902) (fun e => Int32.lt_irrefl (Int32.lt_of_lt_of_le e (Int32.le_trans (by decide) q7)))
      have c7 : n2944 ≥ 72 := (nI_leI (a := 72) (b := n2944) (by omega) (by omega)).mp q7
      refine m_ldc2 F kc_X9_149 e_X9_cash_15 ?_
      exact m_lret F hQ e_X9_cash_18 (⟨(h1.mono (M' := M + 1400) (Z' := Z) (by omega) (by intro e; first | rfl | assumption | omega)), _, rfl⟩)
    · refine m_iload_n F rfl e_X9_cash_10 ?_
      refine m_iload_n F rfl e_X9_cash_11 ?_
      refine m_icmp_le F e_X9_cash_12 (fun q12 => ?_) (fun q12 => ?_)
      · obtain ⟨n2945, hn2945, rfl⟩ := nI_nn (x := x902) (fun e => Int32.lt_irrefl (Int32.lt_of_le_of_lt (Int32.le_trans (nI_0le (n := n2943) (by omega)) q12) e))
        have gn2945 : n2945 < 72 := by have hh := mt (nI_leI (a := 72) (b := n2945) (by omega) (by omega)).mpr q7; omega
        refine m_aload_n F rfl e_X9_cash_19 ?_
        refine m_iconst F (v := 0) (by decide) e_X9_cash_20 ?_
        refine t_callV F e_X9_cash_21 (s_X9_bookIn (x_l X) V b M Z T _ _ a 0 h1.1 hk (by omega) (by omega)) cb_X9_bookIn ml_X9_271 im_X9_bookIn se_X9_bookIn (fun _ => o1) h1 hk rfl rfl (rest := []) rfl (Nat.le_of_ble_eq_true rfl) ⟨Nat.le_of_ble_eq_true rfl, Nat.le_of_ble_eq_true rfl⟩ ⟨Nat.le_of_ble_eq_true rfl, Nat.le_of_ble_eq_true rfl⟩ (fun r σ2946 hp => ?_)
        obtain ⟨h2948, r2949, k2950, rfl⟩ := hp
        have h2947 := HK.trans h1 h2948 (by decide)
        refine m_astore_n F (lv' := [(3, .ref r2949), (0, .ref a), (1, .int (nI n2943)), (2, .int (nI n2945))]) e_X9_cash_24 (by decide) rfl ?_
        refine m_aload_n F rfl e_X9_cash_25 ?_
        refine m_iload_n F rfl e_X9_cash_26 ?_
        refine m_iconst F (v := 1) (by decide) e_X9_cash_27 ?_
        refine m_iadd F e_X9_cash_28 ?_
        refine Wm.topE (w := nI (n2945 + 1)) (nI_add n2945 1) ?_
        refine t_callV F e_X9_cash_29 (s_X9_coming (x_l X) V b (M + 648) Z T _ _ a (n2945 + 1) h2947.1 hk (by omega) (by omega)) cb_X9_coming ml_X9_324 im_X9_coming se_X9_coming (fun _ => o1) h2947 hk rfl rfl (rest := []) rfl (Nat.le_of_ble_eq_true rfl) ⟨Nat.le_of_ble_eq_true rfl, Nat.le_of_ble_eq_true rfl⟩ ⟨Nat.le_of_ble_eq_true rfl, Nat.le_of_ble_eq_true rfl⟩ (fun r σ2951 hp => ?_)
        obtain ⟨h2953, n2954, hn2954, rfl⟩ := hp
        have h2952 := HK.trans h2947 h2953 (by decide)
        refine m_istore F (lv' := [(4, .int (nI n2954)), (3, .ref r2949), (0, .ref a), (1, .int (nI n2943)), (2, .int (nI n2945))]) e_X9_cash_32 (by decide) rfl ?_
        refine m_lconst F (v := 0) (by decide) e_X9_cash_34 ?_
        refine m_lstore F (lv' := [(5, .long 0), (4, .int (nI n2954)), (3, .ref r2949), (0, .ref a), (1, .int (nI n2943)), (2, .int (nI n2945))]) e_X9_cash_35 (by decide) rfl ?_
        refine m_iconst F (v := 0) (by decide) e_X9_cash_37 ?_
        refine m_istore F (lv' := [(7, .int 0), (5, .long 0), (4, .int (nI n2954)), (3, .ref r2949), (0, .ref a), (1, .int (nI n2943)), (2, .int (nI n2945))]) e_X9_cash_38 (by decide) rfl ?_
        refine Wm.lvsub (lv' := [(7, .int 0), (4, .int (nI n2954)), (5, .long 0), (0, .ref a), (1, .int (nI n2943)), (2, .int (nI n2945)), (3, .ref r2949)]) ?_ [0, 2, 1, 4, 5, 6, 3] rfl
        exact lp_X9_cash_40 F hQ hk hM (72 - 0 + 1) 0 n2954 0 (nI n2943) (nI n2945) r2949 _ (h2952.mono (M' := M + 648 + 9 * 0) (Z' := Z) (by omega) (by intro e9; first | exact e9 | rfl)) ⟨k2950, (by omega)⟩ (Nat.lt_succ_self _)
      · refine m_ldc2 F kc_X9_149 e_X9_cash_15 ?_
        exact m_lret F hQ e_X9_cash_18 (⟨(h1.mono (M' := M + 1400) (Z' := Z) (by omega) (by intro e; first | rfl | assumption | omega)), _, rfl⟩)
set_option maxRecDepth 20000 in
theorem s_X9_ifIndex (l : Launch) (V : VX) (b M Z T N : Nat) (σ : Mem) (a : Nat) (x901 : Int32) (x902 : Int32) (h0 : HT V (b, M, Z, T) σ) (hk : kA b a = 1) (hM : M + 0 ≤ 1000000000) : Ct l V yX9_ifIndex cX9_ifIndex 5 (some .long) 4 0 0 N σ [.ref a, .int x901, .int x902] (fun r τ => HK V (b, M, Z, T) [0, 1, 2, 3, 4, 5, 7, 8, 9, 10, 11, 12, 13, 14, 16, 19] σ τ ∧ ∃ x : Int64, r = some (.long x)) := by
  refine Ct.of (by decide) (Nat.le_of_ble_eq_true rfl) [(0, .ref a), (1, .int x901), (2, .int x902)] rfl (fun X hX F hQ => ?_)
  have h1 : HK V (b, M, Z, T) [0, 1, 2, 3, 4, 5, 7, 8, 9, 10, 11, 12, 13, 14, 16, 19] σ σ := HK.start h0
  refine m_aload_n F rfl e_X9_ifIndex_0 ?_
  refine m_iload_n F rfl e_X9_ifIndex_1 ?_
  refine t_callV F e_X9_ifIndex_2 (s_X9_leaseAt (x_l X) V b M Z T _ _ a x901 h1.1 hk  (by omega)) cb_X9_leaseAt ml_X9_103 im_X9_leaseAt se_X9_leaseAt (fun _ => o1) h1 hk rfl rfl (rest := []) rfl (Nat.le_of_ble_eq_true rfl) ⟨Nat.le_of_ble_eq_true rfl, Nat.le_of_ble_eq_true rfl⟩ ⟨Nat.le_of_ble_eq_true rfl, Nat.le_of_ble_eq_true rfl⟩ (fun r σ2955 hp => ?_)
  obtain ⟨h2957, c2958⟩ := hp
  have h2956 := HK.trans h1 h2957 (by decide)
  rcases c2958 with rfl | ⟨n2959, r2960, hn2959, en2959, k2961, rfl⟩
  · refine m_ifnullN F e_X9_ifIndex_5 ?_
    refine m_ldc2 F kc_X9_149 e_X9_ifIndex_15 ?_
    exact m_lret F hQ e_X9_ifIndex_18 (⟨h2956, _, rfl⟩)
  · subst en2959
    refine m_ifnullR F e_X9_ifIndex_5 ?_
    refine m_iload_n F rfl e_X9_ifIndex_8 ?_
    refine m_callS F e_X9_ifIndex_9 (s_X9_isIndex (x_l X) V b M Z T _ _ x902 h2956.1  (by omega)) cb_X9_isIndex ml_X9_262 sm_X9_isIndex rfl (rest := []) rfl (Nat.le_of_ble_eq_true rfl) ⟨Nat.le_of_ble_eq_true rfl, Nat.le_of_ble_eq_true rfl⟩ ⟨Nat.le_of_ble_eq_true rfl, Nat.le_of_ble_eq_true rfl⟩ (k' := 0) (z' := 0) (N' := N) rfl rfl rfl (fun r σ2962 hp => ?_)
    obtain ⟨h2964, n2965, hn2965, rfl⟩ := hp
    have h2963 := HK.trans h2956 h2964 (by decide)
    refine m_if_ne F e_X9_ifIndex_12 (fun q12 => ?_) (fun q12 => ?_)
    · have c12 : n2965 ≠ 0 := by have hh := mt (nI_eq (a := n2965) (b := 0) (by omega) (by omega)).mpr q12; omega
      refine m_aload_n F rfl e_X9_ifIndex_19 ?_
      refine m_iload_n F rfl e_X9_ifIndex_20 ?_
      refine t_callV F e_X9_ifIndex_21 (s_X9_runningAt (x_l X) V b M Z T _ _ a (nI n2959) h2963.1 hk  (by omega)) cb_X9_runningAt ml_X9_203 im_X9_runningAt se_X9_runningAt (fun _ => o1) h2963 hk rfl rfl (rest := []) rfl (Nat.le_of_ble_eq_true rfl) ⟨Nat.le_of_ble_eq_true rfl, Nat.le_of_ble_eq_true rfl⟩ ⟨Nat.le_of_ble_eq_true rfl, Nat.le_of_ble_eq_true rfl⟩ (fun r σ2966 hp => ?_)
      obtain ⟨h2968, c2969⟩ := hp
      have h2967 := HK.trans h2963 h2968 (by decide)
      rcases c2969 with rfl | ⟨n2970, r2971, hn2970, en2970, k2972, rfl⟩
      · refine m_astore_nN F (lv' := [(3, .null), (0, .ref a), (1, .int (nI n2959)), (2, .int x902)]) e_X9_ifIndex_24 (by decide) rfl ?_
        refine m_aload_nN F rfl e_X9_ifIndex_25 ?_
        refine m_ifnonnullN F e_X9_ifIndex_26 ?_
        refine m_ldc2 F kc_X9_318 e_X9_ifIndex_29 ?_
        exact m_lret F hQ e_X9_ifIndex_32 (⟨h2967, _, rfl⟩)
      · refine m_astore_n F (lv' := [(3, .ref r2971), (0, .ref a), (1, .int (nI n2959)), (2, .int x902)]) e_X9_ifIndex_24 (by decide) rfl ?_
        refine m_aload_n F rfl e_X9_ifIndex_25 ?_
        refine m_ifnonnullR F e_X9_ifIndex_26 ?_
        refine m_aload_n F rfl e_X9_ifIndex_33 ?_
        refine t_get F e_X9_ifIndex_34 fl_X9_341 (fun _ => o15) h2967 k2972 rfl (fun v hv f2973 => ?_)
        obtain ⟨n2974, hn2974, rfl⟩ := hv
        replace hn2974 : n2974 ≤ 1 := hn2974
        refine m_if_ne F e_X9_ifIndex_37 (fun q37 => ?_) (fun q37 => ?_)
        · have c37 : n2974 ≠ 0 := by have hh := mt (nI_eq (a := n2974) (b := 0) (by omega) (by omega)).mpr q37; omega
          refine m_aload_n F rfl e_X9_ifIndex_48 ?_
          refine t_get F e_X9_ifIndex_49 fl_X9_20 (fun _ => o1) h2967 hk rfl (fun v hv f2975 => ?_)
          obtain ⟨r2976, k2977, rfl⟩ := hv
          refine t_get F e_X9_ifIndex_52 fl_X9_226 (fun _ => o7) h2967 k2977 rfl (fun v hv f2978 => ?_)
          obtain rfl : v = .ref (r2976 + 1) := hv
          refine m_iconst F (v := 0) (by decide) e_X9_ifIndex_55 ?_
          refine t_aald8 F (j := 0) e_X9_ifIndex_56 rfl h2967 (kA_7 k2977 (r := 1) (by decide)) (by decide) (by unfold vp_in; decide) ?_
          refine m_astore F (lv' := [(4, .ref ((r2976 + 1) + 10 + 12 * 0)), (3, .ref r2971), (0, .ref a), (1, .int (nI n2959)), (2, .int x902)]) e_X9_ifIndex_57 (by decide) rfl ?_
          refine m_aload F rfl e_X9_ifIndex_59 ?_
          refine m_aload_n F rfl e_X9_ifIndex_61 ?_
          refine t_callV F e_X9_ifIndex_62 (s_X5_copyFrom (x_l X) V b M Z T _ _ ((r2976 + 1) + 10 + 12 * 0) r2971 h2967.1 (kA_8 (kA_7 k2977 (r := 1) (by decide)) (j := 0) (by omega)) k2972 (by omega)) cb_X5_copyFrom ml_X9_291 im_X5_copyFrom se_X5_copyFrom (fun _ => o15) h2967 (kA_8 (kA_7 k2977 (r := 1) (by decide)) (j := 0) (by omega)) rfl rfl (rest := []) rfl (Nat.le_of_ble_eq_true rfl) ⟨Nat.le_of_ble_eq_true rfl, Nat.le_of_ble_eq_true rfl⟩ ⟨Nat.le_of_ble_eq_true rfl, Nat.le_of_ble_eq_true rfl⟩ (fun r σ2979 hp => ?_)
          obtain ⟨h2981, rfl⟩ := hp
          have h2980 := HK.trans h2967 h2981 (by decide)
          refine m_aload F rfl e_X9_ifIndex_65 ?_
          refine m_iload_n F rfl e_X9_ifIndex_67 ?_
          refine t_callV F e_X9_ifIndex_68 (s_X5_followIndex (x_l X) V b M Z T _ _ ((r2976 + 1) + 10 + 12 * 0) x902 h2980.1 (kA_8 (kA_7 k2977 (r := 1) (by decide)) (j := 0) (by omega))  (by omega)) cb_X5_followIndex ml_X9_344 im_X5_followIndex se_X5_followIndex (fun _ => o15) h2980 (kA_8 (kA_7 k2977 (r := 1) (by decide)) (j := 0) (by omega)) rfl rfl (rest := []) rfl (Nat.le_of_ble_eq_true rfl) ⟨Nat.le_of_ble_eq_true rfl, Nat.le_of_ble_eq_true rfl⟩ ⟨Nat.le_of_ble_eq_true rfl, Nat.le_of_ble_eq_true rfl⟩ (fun r σ2982 hp => ?_)
          obtain ⟨h2984, rfl⟩ := hp
          have h2983 := HK.trans h2980 h2984 (by decide)
          refine m_aload F rfl e_X9_ifIndex_71 ?_
          refine m_aload_n F rfl e_X9_ifIndex_73 ?_
          refine t_get F e_X9_ifIndex_74 fl_X9_42 (fun _ => o1) h2983 hk rfl (fun v hv f2985 => ?_)
          obtain ⟨r2986, k2987, rfl⟩ := hv
          refine t_callV F e_X9_ifIndex_77 (s_X5_worthLeft (x_l X) V b M Z T _ _ ((r2976 + 1) + 10 + 12 * 0) r2986 h2983.1 (kA_8 (kA_7 k2977 (r := 1) (by decide)) (j := 0) (by omega)) k2987 (by omega)) cb_X5_worthLeft ml_X9_298 im_X5_worthLeft se_X5_worthLeft (fun _ => o15) h2983 (kA_8 (kA_7 k2977 (r := 1) (by decide)) (j := 0) (by omega)) rfl rfl (rest := []) rfl (Nat.le_of_ble_eq_true rfl) ⟨Nat.le_of_ble_eq_true rfl, Nat.le_of_ble_eq_true rfl⟩ ⟨Nat.le_of_ble_eq_true rfl, Nat.le_of_ble_eq_true rfl⟩ (fun r σ2988 hp => ?_)
          obtain ⟨h2990, rfl⟩ := hp
          have h2989 := HK.trans h2983 h2990 (by decide)
          refine m_aload_n F rfl e_X9_ifIndex_80 ?_
          refine t_getC F e_X9_ifIndex_81 fl_X9_42 (fun _ => o1) h2989 hk ((fld_eq (h2990.2 a (by rw [show kA _ a = 1 from hk]; decide))).trans f2985) ?_
          refine t_callV F e_X9_ifIndex_84 (s_X1_asLong (x_l X) V b M Z T _ _ r2986  h2989.1 k2987  (by omega)) cb_X1_asLong ml_X9_157 im_X1_asLong se_X1_asLong (fun _ => o6) h2989 k2987 rfl rfl (rest := []) rfl (Nat.le_of_ble_eq_true rfl) ⟨Nat.le_of_ble_eq_true rfl, Nat.le_of_ble_eq_true rfl⟩ ⟨Nat.le_of_ble_eq_true rfl, Nat.le_of_ble_eq_true rfl⟩ (fun r σ2991 hp => ?_)
          obtain ⟨h2993, x2994, rfl⟩ := hp
          have h2992 := HK.trans h2989 h2993 (by decide)
          exact m_lret F hQ e_X9_ifIndex_87 (⟨h2992, _, rfl⟩)
        · have c37 : n2974 = 0 := (nI_eq (a := n2974) (b := 0) (by omega) (by omega)).mp q37
          refine m_aload_n F rfl e_X9_ifIndex_40 ?_
          refine t_get F e_X9_ifIndex_41 fl_X9_151 (fun _ => o15) h2967 k2972 rfl (fun v hv f2995 => ?_)
          obtain ⟨r2996, k2997, rfl⟩ := hv
          refine t_callV F e_X9_ifIndex_44 (s_X1_asLong (x_l X) V b M Z T _ _ r2996  h2967.1 k2997  (by omega)) cb_X1_asLong ml_X9_157 im_X1_asLong se_X1_asLong (fun _ => o6) h2967 k2997 rfl rfl (rest := []) rfl (Nat.le_of_ble_eq_true rfl) ⟨Nat.le_of_ble_eq_true rfl, Nat.le_of_ble_eq_true rfl⟩ ⟨Nat.le_of_ble_eq_true rfl, Nat.le_of_ble_eq_true rfl⟩ (fun r σ2998 hp => ?_)
          obtain ⟨h3000, x3001, rfl⟩ := hp
          have h2999 := HK.trans h2967 h3000 (by decide)
          exact m_lret F hQ e_X9_ifIndex_47 (⟨h2999, _, rfl⟩)
    · have c12 : n2965 = 0 := (nI_eq (a := n2965) (b := 0) (by omega) (by omega)).mp q12
      refine m_ldc2 F kc_X9_149 e_X9_ifIndex_15 ?_
      exact m_lret F hQ e_X9_ifIndex_18 (⟨h2963, _, rfl⟩)
set_option maxRecDepth 20000 in
theorem s_X9_ifTaken (l : Launch) (V : VX) (b M Z T N : Nat) (σ : Mem) (a : Nat) (x901 : Int32) (h0 : HT V (b, M, Z, T) σ) (hk : kA b a = 1) (hM : M + 0 ≤ 1000000000) : Ct l V yX9_ifTaken cX9_ifTaken 5 (some .long) 5 0 0 N σ [.ref a, .int x901] (fun r τ => HK V (b, M, Z, T) [0, 1, 2, 3, 4, 5, 7, 8, 9, 10, 11, 12, 13, 14, 16, 19] σ τ ∧ ∃ x : Int64, r = some (.long x)) := by
  refine Ct.of (by decide) (Nat.le_of_ble_eq_true rfl) [(0, .ref a), (1, .int x901)] rfl (fun X hX F hQ => ?_)
  have h1 : HK V (b, M, Z, T) [0, 1, 2, 3, 4, 5, 7, 8, 9, 10, 11, 12, 13, 14, 16, 19] σ σ := HK.start h0
  refine m_aload_n F rfl e_X9_ifTaken_0 ?_
  refine t_get F e_X9_ifTaken_1 fl_X9_16 (fun _ => o1) h1 hk rfl (fun v hv f3002 => ?_)
  obtain ⟨r3003, k3004, rfl⟩ := hv
  refine m_iload_n F rfl e_X9_ifTaken_4 ?_
  refine t_callV F e_X9_ifTaken_5 (s_X2_canTake (x_l X) V b M Z T _ _ r3003 x901 h1.1 k3004  (by omega)) cb_X2_canTake ml_X9_214 im_X2_canTake se_X2_canTake (fun _ => o7) h1 k3004 rfl rfl (rest := []) rfl (Nat.le_of_ble_eq_true rfl) ⟨Nat.le_of_ble_eq_true rfl, Nat.le_of_ble_eq_true rfl⟩ ⟨Nat.le_of_ble_eq_true rfl, Nat.le_of_ble_eq_true rfl⟩ (fun r σ3005 hp => ?_)
  obtain ⟨h3007, c3008⟩ := hp
  have h3006 := HK.trans h1 h3007 (by decide)
  rcases c3008 with rfl | ⟨n3009, hn3009, en3009, rfl⟩
  · refine m_if_ne F e_X9_ifTaken_8 (fun q => absurd (by decide) q) (fun _ => ?_)
    refine m_ldc2 F kc_X9_184 e_X9_ifTaken_11 ?_
    exact m_lret F hQ e_X9_ifTaken_14 (⟨h3006, _, rfl⟩)
  · subst en3009
    refine m_if_ne F e_X9_ifTaken_8 (fun _ => ?_) (fun q => absurd q (by decide))
    refine m_aload_n F rfl e_X9_ifTaken_15 ?_
    refine t_getC F e_X9_ifTaken_16 fl_X9_16 (fun _ => o1) h3006 hk ((fld_eq (h3007.2 a (by rw [show kA _ a = 1 from hk]; decide))).trans f3002) ?_
    refine t_get F e_X9_ifTaken_19 fl_X9_217 (fun _ => o7) h3006 k3004 rfl (fun v hv f3010 => ?_)
    obtain rfl : v = .ref (r3003 + 2) := hv
    refine m_iload_n F rfl e_X9_ifTaken_22 ?_
    refine t_aald9 F (j := n3009) e_X9_ifTaken_23 rfl h3006 (kA_7 k3004 (r := 2) (by decide)) (nI_clamp (by omega)) (vp_in_nI (by omega) (by decide)) ?_
    refine m_astore_n F (lv' := [(2, .ref ((r3003 + 2) + 57 + n3009)), (0, .ref a), (1, .int (nI n3009))]) e_X9_ifTaken_24 (by decide) rfl ?_
    refine m_aload_n F rfl e_X9_ifTaken_25 ?_
    refine t_getC F e_X9_ifTaken_26 fl_X9_16 (fun _ => o1) h3006 hk ((fld_eq (h3007.2 a (by rw [show kA _ a = 1 from hk]; decide))).trans f3002) ?_
    refine t_get F e_X9_ifTaken_29 fl_X9_226 (fun _ => o7) h3006 k3004 rfl (fun v hv f3011 => ?_)
    obtain rfl : v = .ref (r3003 + 1) := hv
    refine m_aload_n F rfl e_X9_ifTaken_32 ?_
    refine t_get F e_X9_ifTaken_33 fl_X9_230 (fun _ => o19) h3006 (kA_9 (kA_7 k3004 (r := 2) (by decide)) (j := n3009) (by omega)) rfl (fun v hv f3012 => ?_)
    obtain ⟨n3013, hn3013, rfl⟩ := hv
    replace hn3013 : n3013 ≤ 3 := hn3013
    refine t_aald8 F (j := n3013) e_X9_ifTaken_36 rfl h3006 (kA_7 k3004 (r := 1) (by decide)) (nI_clamp (by omega)) (vp_in_nI (by omega) (by decide)) ?_
    refine m_astore_n F (lv' := [(3, .ref ((r3003 + 1) + 10 + 12 * n3013)), (2, .ref ((r3003 + 2) + 57 + n3009)), (0, .ref a), (1, .int (nI n3009))]) e_X9_ifTaken_37 (by decide) rfl ?_
    refine m_aload_n F rfl e_X9_ifTaken_38 ?_
    refine t_get F e_X9_ifTaken_39 fl_X9_20 (fun _ => o1) h3006 hk rfl (fun v hv f3014 => ?_)
    obtain ⟨r3015, k3016, rfl⟩ := hv
    refine t_get F e_X9_ifTaken_42 fl_X9_226 (fun _ => o7) h3006 k3016 rfl (fun v hv f3017 => ?_)
    obtain rfl : v = .ref (r3015 + 1) := hv
    refine m_iconst F (v := 0) (by decide) e_X9_ifTaken_45 ?_
    refine t_aald8 F (j := 0) e_X9_ifTaken_46 rfl h3006 (kA_7 k3016 (r := 1) (by decide)) (by decide) (by unfold vp_in; decide) ?_
    refine m_astore F (lv' := [(4, .ref ((r3015 + 1) + 10 + 12 * 0)), (3, .ref ((r3003 + 1) + 10 + 12 * n3013)), (2, .ref ((r3003 + 2) + 57 + n3009)), (0, .ref a), (1, .int (nI n3009))]) e_X9_ifTaken_47 (by decide) rfl ?_
    refine m_aload F rfl e_X9_ifTaken_49 ?_
    refine m_aload_n F rfl e_X9_ifTaken_51 ?_
    refine t_callV F e_X9_ifTaken_52 (s_X5_copyFrom (x_l X) V b M Z T _ _ ((r3015 + 1) + 10 + 12 * 0) ((r3003 + 1) + 10 + 12 * n3013) h3006.1 (kA_8 (kA_7 k3016 (r := 1) (by decide)) (j := 0) (by omega)) (kA_8 (kA_7 k3004 (r := 1) (by decide)) (j := n3013) (by omega)) (by omega)) cb_X5_copyFrom ml_X9_291 im_X5_copyFrom se_X5_copyFrom (fun _ => o15) h3006 (kA_8 (kA_7 k3016 (r := 1) (by decide)) (j := 0) (by omega)) rfl rfl (rest := []) rfl (Nat.le_of_ble_eq_true rfl) ⟨Nat.le_of_ble_eq_true rfl, Nat.le_of_ble_eq_true rfl⟩ ⟨Nat.le_of_ble_eq_true rfl, Nat.le_of_ble_eq_true rfl⟩ (fun r σ3018 hp => ?_)
    obtain ⟨h3020, rfl⟩ := hp
    have h3019 := HK.trans h3006 h3020 (by decide)
    refine m_aload_n F rfl e_X9_ifTaken_55 ?_
    refine t_getC F e_X9_ifTaken_56 fl_X9_16 (fun _ => o1) h3019 hk ((fld_eq (h3020.2 a (by rw [show kA _ a = 1 from hk]; decide))).trans ((fld_eq (h3007.2 a (by rw [show kA _ a = 1 from hk]; decide))).trans f3002)) ?_
    refine m_aload F rfl e_X9_ifTaken_59 ?_
    refine m_aload_n F rfl e_X9_ifTaken_61 ?_
    refine t_callV F e_X9_ifTaken_62 (s_X2_goOnByOption (x_l X) V b M Z T _ _ r3003 ((r3015 + 1) + 10 + 12 * 0) ((r3003 + 2) + 57 + n3009) h3019.1 k3004 (kA_8 (kA_7 k3016 (r := 1) (by decide)) (j := 0) (by omega)) (kA_9 (kA_7 k3004 (r := 2) (by decide)) (j := n3009) (by omega)) (by omega)) cb_X2_goOnByOption ml_X9_233 im_X2_goOnByOption se_X2_goOnByOption (fun _ => o7) h3019 k3004 rfl rfl (rest := []) rfl (Nat.le_of_ble_eq_true rfl) ⟨Nat.le_of_ble_eq_true rfl, Nat.le_of_ble_eq_true rfl⟩ ⟨Nat.le_of_ble_eq_true rfl, Nat.le_of_ble_eq_true rfl⟩ (fun r σ3021 hp => ?_)
    obtain ⟨h3023, rfl⟩ := hp
    have h3022 := HK.trans h3019 h3023 (by decide)
    refine m_aload F rfl e_X9_ifTaken_65 ?_
    refine m_aload_n F rfl e_X9_ifTaken_67 ?_
    refine t_get F e_X9_ifTaken_68 fl_X9_42 (fun _ => o1) h3022 hk rfl (fun v hv f3024 => ?_)
    obtain ⟨r3025, k3026, rfl⟩ := hv
    refine t_callV F e_X9_ifTaken_71 (s_X5_worthLeft (x_l X) V b M Z T _ _ ((r3015 + 1) + 10 + 12 * 0) r3025 h3022.1 (kA_8 (kA_7 k3016 (r := 1) (by decide)) (j := 0) (by omega)) k3026 (by omega)) cb_X5_worthLeft ml_X9_298 im_X5_worthLeft se_X5_worthLeft (fun _ => o15) h3022 (kA_8 (kA_7 k3016 (r := 1) (by decide)) (j := 0) (by omega)) rfl rfl (rest := []) rfl (Nat.le_of_ble_eq_true rfl) ⟨Nat.le_of_ble_eq_true rfl, Nat.le_of_ble_eq_true rfl⟩ ⟨Nat.le_of_ble_eq_true rfl, Nat.le_of_ble_eq_true rfl⟩ (fun r σ3027 hp => ?_)
    obtain ⟨h3029, rfl⟩ := hp
    have h3028 := HK.trans h3022 h3029 (by decide)
    refine m_aload_n F rfl e_X9_ifTaken_74 ?_
    refine t_getC F e_X9_ifTaken_75 fl_X9_42 (fun _ => o1) h3028 hk ((fld_eq (h3029.2 a (by rw [show kA _ a = 1 from hk]; decide))).trans f3024) ?_
    refine t_callV F e_X9_ifTaken_78 (s_X1_asLong (x_l X) V b M Z T _ _ r3025  h3028.1 k3026  (by omega)) cb_X1_asLong ml_X9_157 im_X1_asLong se_X1_asLong (fun _ => o6) h3028 k3026 rfl rfl (rest := []) rfl (Nat.le_of_ble_eq_true rfl) ⟨Nat.le_of_ble_eq_true rfl, Nat.le_of_ble_eq_true rfl⟩ ⟨Nat.le_of_ble_eq_true rfl, Nat.le_of_ble_eq_true rfl⟩ (fun r σ3030 hp => ?_)
    obtain ⟨h3032, x3033, rfl⟩ := hp
    have h3031 := HK.trans h3028 h3032 (by decide)
    refine m_aload_n F rfl e_X9_ifTaken_81 ?_
    refine t_get F e_X9_ifTaken_82 fl_X9_151 (fun _ => o15) h3031 (kA_8 (kA_7 k3004 (r := 1) (by decide)) (j := n3013) (by omega)) rfl (fun v hv f3034 => ?_)
    obtain ⟨r3035, k3036, rfl⟩ := hv
    refine t_callV F e_X9_ifTaken_85 (s_X1_asLong (x_l X) V b M Z T _ _ r3035  h3031.1 k3036  (by omega)) cb_X1_asLong ml_X9_157 im_X1_asLong se_X1_asLong (fun _ => o6) h3031 k3036 rfl rfl (rest := [.long x3033]) rfl (Nat.le_of_ble_eq_true rfl) ⟨Nat.le_of_ble_eq_true rfl, Nat.le_of_ble_eq_true rfl⟩ ⟨Nat.le_of_ble_eq_true rfl, Nat.le_of_ble_eq_true rfl⟩ (fun r σ3037 hp => ?_)
    obtain ⟨h3039, x3040, rfl⟩ := hp
    have h3038 := HK.trans h3031 h3039 (by decide)
    refine m_lsub F e_X9_ifTaken_88 ?_
    refine Wm.topl (fun x3041 _ => ?_)
    exact m_lret F hQ e_X9_ifTaken_89 (⟨h3038, _, rfl⟩)
set_option maxRecDepth 20000 in
theorem s_X9_yields (l : Launch) (V : VX) (b M Z T N : Nat) (σ : Mem) (a : Nat) (x901 : Int32) (x902 : Int32) (x903 : Int64) (h0 : HT V (b, M, Z, T) σ) (hk : kA b a = 1) (hM : M + 0 ≤ 1000000000) : Ct l V yX9_yields cX9_yields 6 (some .int) 4 0 0 N σ [.ref a, .int x901, .int x902, .long x903] (fun r τ => HK V (b, M, Z, T) [0, 1, 2, 3, 4, 5, 7, 8, 9, 10, 11, 12, 13, 14, 15, 16, 17, 18, 19] σ τ ∧ ∃ x : Int32, r = some (.int x)) := by
  refine Ct.of (by decide) (Nat.le_of_ble_eq_true rfl) [(0, .ref a), (1, .int x901), (2, .int x902), (3, .long x903)] rfl (fun X hX F hQ => ?_)
  have h1 : HK V (b, M, Z, T) [0, 1, 2, 3, 4, 5, 7, 8, 9, 10, 11, 12, 13, 14, 15, 16, 17, 18, 19] σ σ := HK.start h0
  refine m_aload_n F rfl e_X9_yields_0 ?_
  refine m_iload_n F rfl e_X9_yields_1 ?_
  refine t_callV F e_X9_yields_2 (s_X9_leaseAt (x_l X) V b M Z T _ _ a x901 h1.1 hk  (by omega)) cb_X9_leaseAt ml_X9_103 im_X9_leaseAt se_X9_leaseAt (fun _ => o1) h1 hk rfl rfl (rest := []) rfl (Nat.le_of_ble_eq_true rfl) ⟨Nat.le_of_ble_eq_true rfl, Nat.le_of_ble_eq_true rfl⟩ ⟨Nat.le_of_ble_eq_true rfl, Nat.le_of_ble_eq_true rfl⟩ (fun r σ3042 hp => ?_)
  obtain ⟨h3044, c3045⟩ := hp
  have h3043 := HK.trans h1 h3044 (by decide)
  rcases c3045 with rfl | ⟨n3046, r3047, hn3046, en3046, k3048, rfl⟩
  · refine m_astoreN F (lv' := [(5, .null), (0, .ref a), (1, .int x901), (2, .int x902), (3, .long x903)]) e_X9_yields_5 (by decide) rfl ?_
    refine m_aloadN F rfl e_X9_yields_7 ?_
    refine m_ifnullN F e_X9_yields_9 ?_
    refine m_iconst F (v := (-1)) (by decide) e_X9_yields_28 ?_
    exact m_iret F hQ e_X9_yields_29 (⟨h3043, _, rfl⟩)
  · subst en3046
    refine m_astore F (lv' := [(5, .ref r3047), (0, .ref a), (1, .int (nI n3046)), (2, .int x902), (3, .long x903)]) e_X9_yields_5 (by decide) rfl ?_
    refine m_aload F rfl e_X9_yields_7 ?_
    refine m_ifnullR F e_X9_yields_9 ?_
    refine m_aload F rfl e_X9_yields_12 ?_
    refine m_iload_n F rfl e_X9_yields_14 ?_
    refine t_callV F e_X9_yields_15 (s_X5_owns (x_l X) V b M Z T _ _ r3047 x902 h3043.1 k3048  (by omega)) cb_X5_owns ml_X9_161 im_X5_owns se_X5_owns (fun _ => o15) h3043 k3048 rfl rfl (rest := []) rfl (Nat.le_of_ble_eq_true rfl) ⟨Nat.le_of_ble_eq_true rfl, Nat.le_of_ble_eq_true rfl⟩ ⟨Nat.le_of_ble_eq_true rfl, Nat.le_of_ble_eq_true rfl⟩ (fun r σ3049 hp => ?_)
    obtain ⟨h3051, n3052, hn3052, rfl⟩ := hp
    have h3050 := HK.trans h3043 h3051 (by decide)
    refine m_if_eq F e_X9_yields_18 (fun q18 => ?_) (fun q18 => ?_)
    · have c18 : n3052 = 0 := (nI_eq (a := n3052) (b := 0) (by omega) (by omega)).mp q18
      refine m_iconst F (v := (-1)) (by decide) e_X9_yields_28 ?_
      exact m_iret F hQ e_X9_yields_29 (⟨h3050, _, rfl⟩)
    · have c18 : n3052 ≠ 0 := by have hh := mt (nI_eq (a := n3052) (b := 0) (by omega) (by omega)).mpr q18; omega
      refine m_lload_n F rfl e_X9_yields_21 ?_
      refine m_callS F e_X9_yields_22 (s_X9_isWorth (x_l X) V b M Z T _ _ x903 h3050.1  (by omega)) cb_X9_isWorth ml_X9_347 sm_X9_isWorth rfl (rest := []) rfl (Nat.le_of_ble_eq_true rfl) ⟨Nat.le_of_ble_eq_true rfl, Nat.le_of_ble_eq_true rfl⟩ ⟨Nat.le_of_ble_eq_true rfl, Nat.le_of_ble_eq_true rfl⟩ (k' := 0) (z' := 0) (N' := N) rfl rfl rfl (fun r σ3053 hp => ?_)
      obtain ⟨h3055, n3056, hn3056, rfl⟩ := hp
      have h3054 := HK.trans h3050 h3055 (by decide)
      refine m_if_ne F e_X9_yields_25 (fun q25 => ?_) (fun q25 => ?_)
      · have c25 : n3056 ≠ 0 := by have hh := mt (nI_eq (a := n3056) (b := 0) (by omega) (by omega)).mpr q25; omega
        refine m_aload F rfl e_X9_yields_30 ?_
        refine m_iload_n F rfl e_X9_yields_32 ?_
        refine m_iconst F (v := 1) (by decide) e_X9_yields_33 ?_
        refine m_isub F e_X9_yields_34 ?_
        refine Wm.top (fun x3057 _ => ?_)
        refine m_lload_n F rfl e_X9_yields_35 ?_
        refine m_aload_n F rfl e_X9_yields_36 ?_
        refine t_get F e_X9_yields_37 fl_X9_42 (fun _ => o1) h3054 hk rfl (fun v hv f3058 => ?_)
        obtain ⟨r3059, k3060, rfl⟩ := hv
        refine t_callV F e_X9_yields_40 (s_X5_greatestRate (x_l X) V b M Z T _ _ r3047 x3057 x903 r3059 h3054.1 k3048 k3060 (by omega)) cb_X5_greatestRate ml_X9_350 im_X5_greatestRate se_X5_greatestRate (fun _ => o15) h3054 k3048 rfl rfl (rest := []) rfl (Nat.le_of_ble_eq_true rfl) ⟨Nat.le_of_ble_eq_true rfl, Nat.le_of_ble_eq_true rfl⟩ ⟨Nat.le_of_ble_eq_true rfl, Nat.le_of_ble_eq_true rfl⟩ (fun r σ3061 hp => ?_)
        obtain ⟨h3063, x3064, rfl⟩ := hp
        have h3062 := HK.trans h3054 h3063 (by decide)
        exact m_iret F hQ e_X9_yields_43 (⟨h3062, _, rfl⟩)
      · have c25 : n3056 = 0 := (nI_eq (a := n3056) (b := 0) (by omega) (by omega)).mp q25
        refine m_iconst F (v := (-1)) (by decide) e_X9_yields_28 ?_
        exact m_iret F hQ e_X9_yields_29 (⟨h3054, _, rfl⟩)
set_option maxRecDepth 20000 in
theorem s_X9_level (l : Launch) (V : VX) (b M Z T N : Nat) (σ : Mem) (a : Nat) (x901 : Int32) (x902 : Int64) (h0 : HT V (b, M, Z, T) σ) (hk : kA b a = 1) (hM : M + 0 ≤ 1000000000) : Ct l V yX9_level cX9_level 6 (some .int) 6 0 0 N σ [.ref a, .int x901, .long x902] (fun r τ => HK V (b, M, Z, T) [0, 1, 2, 3, 4, 5, 7, 8, 9, 10, 11, 12, 13, 14, 16, 19] σ τ ∧ ∃ x : Int32, r = some (.int x)) := by
  refine Ct.of (by decide) (Nat.le_of_ble_eq_true rfl) [(0, .ref a), (1, .int x901), (2, .long x902)] rfl (fun X hX F hQ => ?_)
  have h1 : HK V (b, M, Z, T) [0, 1, 2, 3, 4, 5, 7, 8, 9, 10, 11, 12, 13, 14, 16, 19] σ σ := HK.start h0
  refine m_aload_n F rfl e_X9_level_0 ?_
  refine m_iload_n F rfl e_X9_level_1 ?_
  refine t_callV F e_X9_level_2 (s_X9_leaseAt (x_l X) V b M Z T _ _ a x901 h1.1 hk  (by omega)) cb_X9_leaseAt ml_X9_103 im_X9_leaseAt se_X9_leaseAt (fun _ => o1) h1 hk rfl rfl (rest := []) rfl (Nat.le_of_ble_eq_true rfl) ⟨Nat.le_of_ble_eq_true rfl, Nat.le_of_ble_eq_true rfl⟩ ⟨Nat.le_of_ble_eq_true rfl, Nat.le_of_ble_eq_true rfl⟩ (fun r σ3065 hp => ?_)
  obtain ⟨h3067, c3068⟩ := hp
  have h3066 := HK.trans h1 h3067 (by decide)
  rcases c3068 with rfl | ⟨n3069, r3070, hn3069, en3069, k3071, rfl⟩
  · refine m_astoreN F (lv' := [(4, .null), (0, .ref a), (1, .int x901), (2, .long x902)]) e_X9_level_5 (by decide) rfl ?_
    refine m_aloadN F rfl e_X9_level_7 ?_
    refine m_ifnullN F e_X9_level_9 ?_
    refine m_iconst F (v := (-1)) (by decide) e_X9_level_19 ?_
    exact m_iret F hQ e_X9_level_20 (⟨h3066, _, rfl⟩)
  · subst en3069
    refine m_astore F (lv' := [(4, .ref r3070), (0, .ref a), (1, .int (nI n3069)), (2, .long x902)]) e_X9_level_5 (by decide) rfl ?_
    refine m_aload F rfl e_X9_level_7 ?_
    refine m_ifnullR F e_X9_level_9 ?_
    refine m_lload_n F rfl e_X9_level_12 ?_
    refine m_callS F e_X9_level_13 (s_X9_isWorth (x_l X) V b M Z T _ _ x902 h3066.1  (by omega)) cb_X9_isWorth ml_X9_347 sm_X9_isWorth rfl (rest := []) rfl (Nat.le_of_ble_eq_true rfl) ⟨Nat.le_of_ble_eq_true rfl, Nat.le_of_ble_eq_true rfl⟩ ⟨Nat.le_of_ble_eq_true rfl, Nat.le_of_ble_eq_true rfl⟩ (k' := 0) (z' := 0) (N' := N) rfl rfl rfl (fun r σ3072 hp => ?_)
    obtain ⟨h3074, n3075, hn3075, rfl⟩ := hp
    have h3073 := HK.trans h3066 h3074 (by decide)
    refine m_if_ne F e_X9_level_16 (fun q16 => ?_) (fun q16 => ?_)
    · have c16 : n3075 ≠ 0 := by have hh := mt (nI_eq (a := n3075) (b := 0) (by omega) (by omega)).mpr q16; omega
      refine m_aload_n F rfl e_X9_level_21 ?_
      refine t_get F e_X9_level_22 fl_X9_20 (fun _ => o1) h3073 hk rfl (fun v hv f3076 => ?_)
      obtain ⟨r3077, k3078, rfl⟩ := hv
      refine t_get F e_X9_level_25 fl_X9_226 (fun _ => o7) h3073 k3078 rfl (fun v hv f3079 => ?_)
      obtain rfl : v = .ref (r3077 + 1) := hv
      refine m_iconst F (v := 0) (by decide) e_X9_level_28 ?_
      refine t_aald8 F (j := 0) e_X9_level_29 rfl h3073 (kA_7 k3078 (r := 1) (by decide)) (by decide) (by unfold vp_in; decide) ?_
      refine m_astore F (lv' := [(5, .ref ((r3077 + 1) + 10 + 12 * 0)), (4, .ref r3070), (0, .ref a), (1, .int (nI n3069)), (2, .long x902)]) e_X9_level_30 (by decide) rfl ?_
      refine m_aload F rfl e_X9_level_32 ?_
      refine m_aload F rfl e_X9_level_34 ?_
      refine t_callV F e_X9_level_36 (s_X5_copyFrom (x_l X) V b M Z T _ _ ((r3077 + 1) + 10 + 12 * 0) r3070 h3073.1 (kA_8 (kA_7 k3078 (r := 1) (by decide)) (j := 0) (by omega)) k3071 (by omega)) cb_X5_copyFrom ml_X9_291 im_X5_copyFrom se_X5_copyFrom (fun _ => o15) h3073 (kA_8 (kA_7 k3078 (r := 1) (by decide)) (j := 0) (by omega)) rfl rfl (rest := []) rfl (Nat.le_of_ble_eq_true rfl) ⟨Nat.le_of_ble_eq_true rfl, Nat.le_of_ble_eq_true rfl⟩ ⟨Nat.le_of_ble_eq_true rfl, Nat.le_of_ble_eq_true rfl⟩ (fun r σ3080 hp => ?_)
      obtain ⟨h3082, rfl⟩ := hp
      have h3081 := HK.trans h3073 h3082 (by decide)
      refine m_aload F rfl e_X9_level_39 ?_
      refine m_lload_n F rfl e_X9_level_41 ?_
      refine m_aload_n F rfl e_X9_level_42 ?_
      refine t_get F e_X9_level_43 fl_X9_42 (fun _ => o1) h3081 hk rfl (fun v hv f3083 => ?_)
      obtain ⟨r3084, k3085, rfl⟩ := hv
      refine t_callV F e_X9_level_46 (s_X5_leastLevel (x_l X) V b M Z T _ _ ((r3077 + 1) + 10 + 12 * 0) x902 r3084 h3081.1 (kA_8 (kA_7 k3078 (r := 1) (by decide)) (j := 0) (by omega)) k3085 (by omega)) cb_X5_leastLevel ml_X9_354 im_X5_leastLevel se_X5_leastLevel (fun _ => o15) h3081 (kA_8 (kA_7 k3078 (r := 1) (by decide)) (j := 0) (by omega)) rfl rfl (rest := []) rfl (Nat.le_of_ble_eq_true rfl) ⟨Nat.le_of_ble_eq_true rfl, Nat.le_of_ble_eq_true rfl⟩ ⟨Nat.le_of_ble_eq_true rfl, Nat.le_of_ble_eq_true rfl⟩ (fun r σ3086 hp => ?_)
      obtain ⟨h3088, x3089, rfl⟩ := hp
      have h3087 := HK.trans h3081 h3088 (by decide)
      exact m_iret F hQ e_X9_level_49 (⟨h3087, _, rfl⟩)
    · have c16 : n3075 = 0 := (nI_eq (a := n3075) (b := 0) (by omega) (by omega)).mp q16
      refine m_iconst F (v := (-1)) (by decide) e_X9_level_19 ?_
      exact m_iret F hQ e_X9_level_20 (⟨h3073, _, rfl⟩)
set_option maxRecDepth 20000 in
theorem lp_X9_heaviest_13 {V : VX} {X : MX} {b M Z T N : Nat} {σ : Mem} {a : Nat}   (F : Fx V X yX9_heaviest cX9_heaviest 6 (some .int) (rmd 1 0 0)) (hQ : Rt V X 0 0 N (fun r τ => HK V (b, M, Z, T) [0, 1, 2, 3, 4, 5, 7, 8, 9, 10, 11, 12, 13, 14, 15, 16, 17, 18, 19] σ τ ∧ ∃ x : Int32, r = some (.int x))) (hk : kA b a = 1) (hM : M + 0 ≤ 1000000000)  : ∀ (fuel : Nat) (i : Nat) (u1 : Int32) (u2 : Int32) (q1 : Nat) (τ : Mem), HK V (b, M, Z, T) [0, 1, 2, 3, 4, 5, 7, 8, 9, 10, 11, 12, 13, 14, 15, 16, 17, 18, 19] σ τ → kA b q1 = 6 ∧ i ≤ 4 → 4 - i < fuel → Wm V X 6 N τ 0 0 13 [(4, .int (nI i)), (1, .int u1), (3, .int u2), (0, .ref a), (2, .ref q1)] [] := by
  intro fuel
  induction fuel with
  | zero => intro i u1 u2 q1 τ h1 hi hm; exact absurd hm (Nat.not_lt_zero _)
  | succ fuel ih =>
    intro i u1 u2 q1 τ h1 hi hm
    obtain ⟨kq1, hi⟩ := hi
    refine m_iload F rfl e_X9_heaviest_13 ?_
    refine m_aload_n F rfl e_X9_heaviest_15 ?_
    refine t_get F e_X9_heaviest_16 fl_X9_16 (fun _ => o1) h1 hk rfl (fun v hv f3090 => ?_)
    obtain ⟨r3091, k3092, rfl⟩ := hv
    refine t_get F e_X9_heaviest_19 fl_X9_358 (fun _ => o7) h1 k3092 rfl (fun v hv f3093 => ?_)
    obtain ⟨n3094, hn3094, rfl⟩ := hv
    replace hn3094 : n3094 ≤ 4 := hn3094
    refine m_icmp_ge F e_X9_heaviest_22 (fun q22 => ?_) (fun q22 => ?_)
    · have c22 : i ≥ n3094 := (nI_leI (a := n3094) (b := i) (by omega) (by omega)).mp q22
      refine m_iload_n F rfl e_X9_heaviest_97 ?_
      exact m_iret F hQ e_X9_heaviest_98 (⟨h1, _, rfl⟩)
    · have c22 : i < n3094 := by have hh := mt (nI_leI (a := n3094) (b := i) (by omega) (by omega)).mpr q22; omega
      refine m_aload_n F rfl e_X9_heaviest_25 ?_
      refine t_getC F e_X9_heaviest_26 fl_X9_16 (fun _ => o1) h1 hk (f3090) ?_
      refine t_get F e_X9_heaviest_29 fl_X9_226 (fun _ => o7) h1 k3092 rfl (fun v hv f3095 => ?_)
      obtain rfl : v = .ref (r3091 + 1) := hv
      refine m_iload F rfl e_X9_heaviest_32 ?_
      refine t_aald8 F (j := i) e_X9_heaviest_34 rfl h1 (kA_7 k3092 (r := 1) (by decide)) (nI_clamp (by omega)) (vp_in_nI (by omega) (by decide)) ?_
      refine m_astore F (lv' := [(5, .ref ((r3091 + 1) + 10 + 12 * i)), (4, .int (nI i)), (1, .int u1), (3, .int u2), (0, .ref a), (2, .ref q1)]) e_X9_heaviest_35 (by decide) rfl ?_
      refine m_aload F rfl e_X9_heaviest_37 ?_
      refine t_get F e_X9_heaviest_39 fl_X9_125 (fun _ => o15) h1 (kA_8 (kA_7 k3092 (r := 1) (by decide)) (j := i) (by omega)) rfl (fun v hv f3096 => ?_)
      obtain ⟨x3097, rfl⟩ := hv
      refine m_iconst F (v := 1) (by decide) e_X9_heaviest_42 ?_
      refine m_icmp_eq F e_X9_heaviest_43 (fun q43 => ?_) (fun q43 => ?_)
      · refine m_iload_n F rfl e_X9_heaviest_49 ?_
        refine m_bipush F (v := (-2)) (by decide) e_X9_heaviest_50 ?_
        refine m_icmp_eq F e_X9_heaviest_52 (fun q52 => ?_) (fun q52 => ?_)
        · refine m_iload F rfl e_X9_heaviest_73 ?_
          refine m_istore_n F (lv' := [(1, .int (nI i)), (5, .ref ((r3091 + 1) + 10 + 12 * i)), (4, .int (nI i)), (3, .int u2), (0, .ref a), (2, .ref q1)]) e_X9_heaviest_75 (by decide) rfl ?_
          refine m_aload_n F rfl e_X9_heaviest_76 ?_
          refine m_aload F rfl e_X9_heaviest_77 ?_
          refine t_get F e_X9_heaviest_79 fl_X9_151 (fun _ => o15) h1 (kA_8 (kA_7 k3092 (r := 1) (by decide)) (j := i) (by omega)) rfl (fun v hv f3098 => ?_)
          obtain ⟨r3099, k3100, rfl⟩ := hv
          refine t_callV F e_X9_heaviest_82 (s_X1_copyFrom (x_l X) V b M Z T _ _ q1 r3099 h1.1 kq1 k3100 (by omega)) cb_X1_copyFrom ml_X9_284 im_X1_copyFrom se_X1_copyFrom (fun _ => o6) h1 kq1 rfl rfl (rest := []) rfl (Nat.le_of_ble_eq_true rfl) ⟨Nat.le_of_ble_eq_true rfl, Nat.le_of_ble_eq_true rfl⟩ ⟨Nat.le_of_ble_eq_true rfl, Nat.le_of_ble_eq_true rfl⟩ (fun r σ3101 hp => ?_)
          obtain ⟨h3103, rfl⟩ := hp
          have h3102 := HK.trans h1 h3103 (by decide)
          refine m_aload F rfl e_X9_heaviest_85 ?_
          refine t_callV F e_X9_heaviest_87 (s_X5_left (x_l X) V b M Z T _ _ ((r3091 + 1) + 10 + 12 * i)  h3102.1 (kA_8 (kA_7 k3092 (r := 1) (by decide)) (j := i) (by omega))  (by omega)) cb_X5_left ml_X9_128 im_X5_left se_X5_left (fun _ => o15) h3102 (kA_8 (kA_7 k3092 (r := 1) (by decide)) (j := i) (by omega)) rfl rfl (rest := []) rfl (Nat.le_of_ble_eq_true rfl) ⟨Nat.le_of_ble_eq_true rfl, Nat.le_of_ble_eq_true rfl⟩ ⟨Nat.le_of_ble_eq_true rfl, Nat.le_of_ble_eq_true rfl⟩ (fun r σ3104 hp => ?_)
          obtain ⟨h3106, x3107, rfl⟩ := hp
          have h3105 := HK.trans h3102 h3106 (by decide)
          refine m_istore_n F (lv' := [(3, .int x3107), (1, .int (nI i)), (5, .ref ((r3091 + 1) + 10 + 12 * i)), (4, .int (nI i)), (0, .ref a), (2, .ref q1)]) e_X9_heaviest_90 (by decide) rfl ?_
          refine m_iinc F (v := nI (i + 1)) (lv' := [(4, .int (nI (i + 1))), (3, .int x3107), (1, .int (nI i)), (5, .ref ((r3091 + 1) + 10 + 12 * i)), (0, .ref a), (2, .ref q1)]) e_X9_heaviest_91 rfl (nI_add i 1) (by decide) rfl ?_
          refine m_goto F e_X9_heaviest_94 ?_
          refine Wm.lvsub (lv' := [(4, .int (nI (i + 1))), (1, .int (nI i)), (3, .int x3107), (0, .ref a), (2, .ref q1)]) ?_ [0, 2, 1, 4, 5] rfl
          exact ih (i + 1) (nI i) x3107 q1 _ h3105 ⟨kq1, (by omega)⟩ (by omega)
        · refine m_aload F rfl e_X9_heaviest_55 ?_
          refine t_get F e_X9_heaviest_57 fl_X9_151 (fun _ => o15) h1 (kA_8 (kA_7 k3092 (r := 1) (by decide)) (j := i) (by omega)) rfl (fun v hv f3108 => ?_)
          obtain ⟨r3109, k3110, rfl⟩ := hv
          refine m_aload F rfl e_X9_heaviest_60 ?_
          refine t_callV F e_X9_heaviest_62 (s_X5_left (x_l X) V b M Z T _ _ ((r3091 + 1) + 10 + 12 * i)  h1.1 (kA_8 (kA_7 k3092 (r := 1) (by decide)) (j := i) (by omega))  (by omega)) cb_X5_left ml_X9_128 im_X5_left se_X5_left (fun _ => o15) h1 (kA_8 (kA_7 k3092 (r := 1) (by decide)) (j := i) (by omega)) rfl rfl (rest := [.ref r3109]) rfl (Nat.le_of_ble_eq_true rfl) ⟨Nat.le_of_ble_eq_true rfl, Nat.le_of_ble_eq_true rfl⟩ ⟨Nat.le_of_ble_eq_true rfl, Nat.le_of_ble_eq_true rfl⟩ (fun r σ3111 hp => ?_)
          obtain ⟨h3113, x3114, rfl⟩ := hp
          have h3112 := HK.trans h1 h3113 (by decide)
          refine m_aload_n F rfl e_X9_heaviest_65 ?_
          refine m_iload_n F rfl e_X9_heaviest_66 ?_
          refine t_callV F e_X9_heaviest_67 (s_X1_isGreaterShare (x_l X) V b M Z T _ _ r3109 x3114 q1 u2 h3112.1 k3110 kq1 (by omega)) cb_X1_isGreaterShare ml_X9_301 im_X1_isGreaterShare se_X1_isGreaterShare (fun _ => o6) h3112 k3110 rfl rfl (rest := []) rfl (Nat.le_of_ble_eq_true rfl) ⟨Nat.le_of_ble_eq_true rfl, Nat.le_of_ble_eq_true rfl⟩ ⟨Nat.le_of_ble_eq_true rfl, Nat.le_of_ble_eq_true rfl⟩ (fun r σ3115 hp => ?_)
          obtain ⟨h3117, n3118, hn3118, rfl⟩ := hp
          have h3116 := HK.trans h3112 h3117 (by decide)
          refine m_if_eq F e_X9_heaviest_70 (fun q70 => ?_) (fun q70 => ?_)
          · have c70 : n3118 = 0 := (nI_eq (a := n3118) (b := 0) (by omega) (by omega)).mp q70
            refine m_iinc F (v := nI (i + 1)) (lv' := [(4, .int (nI (i + 1))), (5, .ref ((r3091 + 1) + 10 + 12 * i)), (1, .int u1), (3, .int u2), (0, .ref a), (2, .ref q1)]) e_X9_heaviest_91 rfl (nI_add i 1) (by decide) rfl ?_
            refine m_goto F e_X9_heaviest_94 ?_
            refine Wm.lvsub (lv' := [(4, .int (nI (i + 1))), (1, .int u1), (3, .int u2), (0, .ref a), (2, .ref q1)]) ?_ [0, 2, 3, 4, 5] rfl
            exact ih (i + 1) u1 u2 q1 _ h3116 ⟨kq1, (by omega)⟩ (by omega)
          · have c70 : n3118 ≠ 0 := by have hh := mt (nI_eq (a := n3118) (b := 0) (by omega) (by omega)).mpr q70; omega
            refine m_iload F rfl e_X9_heaviest_73 ?_
            refine m_istore_n F (lv' := [(1, .int (nI i)), (5, .ref ((r3091 + 1) + 10 + 12 * i)), (4, .int (nI i)), (3, .int u2), (0, .ref a), (2, .ref q1)]) e_X9_heaviest_75 (by decide) rfl ?_
            refine m_aload_n F rfl e_X9_heaviest_76 ?_
            refine m_aload F rfl e_X9_heaviest_77 ?_
            refine t_getC F e_X9_heaviest_79 fl_X9_151 (fun _ => o15) h3116 (kA_8 (kA_7 k3092 (r := 1) (by decide)) (j := i) (by omega)) ((fld_eq (h3117.2 ((r3091 + 1) + 10 + 12 * i) (by rw [show kA _ ((r3091 + 1) + 10 + 12 * i) = 15 from (kA_8 (kA_7 k3092 (r := 1) (by decide)) (j := i) (by omega))]; decide))).trans ((fld_eq (h3113.2 ((r3091 + 1) + 10 + 12 * i) (by rw [show kA _ ((r3091 + 1) + 10 + 12 * i) = 15 from (kA_8 (kA_7 k3092 (r := 1) (by decide)) (j := i) (by omega))]; decide))).trans f3108)) ?_
            refine t_callV F e_X9_heaviest_82 (s_X1_copyFrom (x_l X) V b M Z T _ _ q1 r3109 h3116.1 kq1 k3110 (by omega)) cb_X1_copyFrom ml_X9_284 im_X1_copyFrom se_X1_copyFrom (fun _ => o6) h3116 kq1 rfl rfl (rest := []) rfl (Nat.le_of_ble_eq_true rfl) ⟨Nat.le_of_ble_eq_true rfl, Nat.le_of_ble_eq_true rfl⟩ ⟨Nat.le_of_ble_eq_true rfl, Nat.le_of_ble_eq_true rfl⟩ (fun r σ3119 hp => ?_)
            obtain ⟨h3121, rfl⟩ := hp
            have h3120 := HK.trans h3116 h3121 (by decide)
            refine m_aload F rfl e_X9_heaviest_85 ?_
            refine t_callV F e_X9_heaviest_87 (s_X5_left (x_l X) V b M Z T _ _ ((r3091 + 1) + 10 + 12 * i)  h3120.1 (kA_8 (kA_7 k3092 (r := 1) (by decide)) (j := i) (by omega))  (by omega)) cb_X5_left ml_X9_128 im_X5_left se_X5_left (fun _ => o15) h3120 (kA_8 (kA_7 k3092 (r := 1) (by decide)) (j := i) (by omega)) rfl rfl (rest := []) rfl (Nat.le_of_ble_eq_true rfl) ⟨Nat.le_of_ble_eq_true rfl, Nat.le_of_ble_eq_true rfl⟩ ⟨Nat.le_of_ble_eq_true rfl, Nat.le_of_ble_eq_true rfl⟩ (fun r σ3122 hp => ?_)
            obtain ⟨h3124, x3125, rfl⟩ := hp
            have h3123 := HK.trans h3120 h3124 (by decide)
            refine m_istore_n F (lv' := [(3, .int x3125), (1, .int (nI i)), (5, .ref ((r3091 + 1) + 10 + 12 * i)), (4, .int (nI i)), (0, .ref a), (2, .ref q1)]) e_X9_heaviest_90 (by decide) rfl ?_
            refine m_iinc F (v := nI (i + 1)) (lv' := [(4, .int (nI (i + 1))), (3, .int x3125), (1, .int (nI i)), (5, .ref ((r3091 + 1) + 10 + 12 * i)), (0, .ref a), (2, .ref q1)]) e_X9_heaviest_91 rfl (nI_add i 1) (by decide) rfl ?_
            refine m_goto F e_X9_heaviest_94 ?_
            refine Wm.lvsub (lv' := [(4, .int (nI (i + 1))), (1, .int (nI i)), (3, .int x3125), (0, .ref a), (2, .ref q1)]) ?_ [0, 2, 1, 4, 5] rfl
            exact ih (i + 1) (nI i) x3125 q1 _ h3123 ⟨kq1, (by omega)⟩ (by omega)
      · refine m_goto F e_X9_heaviest_46 ?_
        refine m_iinc F (v := nI (i + 1)) (lv' := [(4, .int (nI (i + 1))), (5, .ref ((r3091 + 1) + 10 + 12 * i)), (1, .int u1), (3, .int u2), (0, .ref a), (2, .ref q1)]) e_X9_heaviest_91 rfl (nI_add i 1) (by decide) rfl ?_
        refine m_goto F e_X9_heaviest_94 ?_
        refine Wm.lvsub (lv' := [(4, .int (nI (i + 1))), (1, .int u1), (3, .int u2), (0, .ref a), (2, .ref q1)]) ?_ [0, 2, 3, 4, 5] rfl
        exact ih (i + 1) u1 u2 q1 _ h1 ⟨kq1, (by omega)⟩ (by omega)
set_option maxRecDepth 20000 in
theorem s_X9_heaviest (l : Launch) (V : VX) (b M Z T N : Nat) (σ : Mem) (a : Nat) (h0 : HT V (b, M, Z, T) σ) (hk : kA b a = 1) (hM : M + 0 ≤ 1000000000) : Ct l V yX9_heaviest cX9_heaviest 6 (some .int) 1 0 0 N σ [.ref a] (fun r τ => HK V (b, M, Z, T) [0, 1, 2, 3, 4, 5, 7, 8, 9, 10, 11, 12, 13, 14, 15, 16, 17, 18, 19] σ τ ∧ ∃ x : Int32, r = some (.int x)) := by
  refine Ct.of (by decide) (Nat.le_of_ble_eq_true rfl) [(0, .ref a)] rfl (fun X hX F hQ => ?_)
  have h1 : HK V (b, M, Z, T) [0, 1, 2, 3, 4, 5, 7, 8, 9, 10, 11, 12, 13, 14, 15, 16, 17, 18, 19] σ σ := HK.start h0
  refine m_bipush F (v := (-2)) (by decide) e_X9_heaviest_0 ?_
  refine m_istore_n F (lv' := [(1, .int (-2)), (0, .ref a)]) e_X9_heaviest_2 (by decide) rfl ?_
  refine m_aload_n F rfl e_X9_heaviest_3 ?_
  refine t_get F e_X9_heaviest_4 fl_X9_42 (fun _ => o1) h1 hk rfl (fun v hv f3126 => ?_)
  obtain ⟨r3127, k3128, rfl⟩ := hv
  refine m_astore_n F (lv' := [(2, .ref r3127), (1, .int (-2)), (0, .ref a)]) e_X9_heaviest_7 (by decide) rfl ?_
  refine m_iconst F (v := 1) (by decide) e_X9_heaviest_8 ?_
  refine m_istore_n F (lv' := [(3, .int 1), (2, .ref r3127), (1, .int (-2)), (0, .ref a)]) e_X9_heaviest_9 (by decide) rfl ?_
  refine m_iconst F (v := 0) (by decide) e_X9_heaviest_10 ?_
  refine m_istore F (lv' := [(4, .int 0), (3, .int 1), (2, .ref r3127), (1, .int (-2)), (0, .ref a)]) e_X9_heaviest_11 (by decide) rfl ?_
  refine Wm.lvsub (lv' := [(4, .int 0), (1, .int (-2)), (3, .int 1), (0, .ref a), (2, .ref r3127)]) ?_ [0, 3, 1, 4, 2] rfl
  exact lp_X9_heaviest_13 F hQ hk hM (4 - 0 + 1) 0 (-2) 1 r3127 _ h1 ⟨k3128, (by omega)⟩ (Nat.lt_succ_self _)
set_option maxRecDepth 20000 in
theorem lp_X9_chance_92 {V : VX} {X : MX} {b M Z T N : Nat} {σ : Mem} {a : Nat}   (F : Fx V X yX9_chance cX9_chance 13 (some .long) (rmd 7 0 0)) (hQ : Rt V X 0 0 N (fun r τ => HK V (b, M + 7560, Z, T) [0, 1, 2, 3, 4, 5, 8, 9, 16] σ τ ∧ ∃ x : Int64, r = some (.long x))) (hk : kA b a = 1) (hM : M + 7560 ≤ 1000000000)  : ∀ (fuel : Nat) (i : Nat) (c : Nat) (u1 : Int64) (u2 : Int64) (u3 : Int32) (u4 : Int32) (q1 : Nat) (q2 : Nat) (q3 : Nat) (τ : Mem), HK V (b, M + 756 * i, Z, T) [0, 1, 2, 3, 4, 5, 8, 9, 16] σ τ → kA b q1 = 6 ∧ kA b q2 = 6 ∧ kA b q3 = 6 ∧ i ≤ 10 ∧ c ≤ 10 → 10 - i < fuel → Wm V X 13 N τ 0 0 92 [(11, .int (nI i)), (2, .int (nI c)), (4, .long u1), (9, .long u2), (0, .ref a), (1, .int u3), (3, .int u4), (6, .ref q1), (7, .ref q2), (8, .ref q3)] [] := by
  intro fuel
  induction fuel with
  | zero => intro i c u1 u2 u3 u4 q1 q2 q3 τ h1 hi hm; exact absurd hm (Nat.not_lt_zero _)
  | succ fuel ih =>
    intro i c u1 u2 u3 u4 q1 q2 q3 τ h1 hi hm
    obtain ⟨kq1, kq2, kq3, hi⟩ := hi
    refine m_iload F rfl e_X9_chance_92 ?_
    refine m_iload_n F rfl e_X9_chance_94 ?_
    refine m_icmp_ge F e_X9_chance_95 (fun q95 => ?_) (fun q95 => ?_)
    · have c95 : i ≥ c := (nI_leI (a := c) (b := i) (by omega) (by omega)).mp q95
      refine m_iload_n F rfl e_X9_chance_181 ?_
      by_cases hx0 : (u4 : Int32) = 0
      · refine m_lookup F e_X9_chance_182 (by decide) (off := 26) (by rw [hx0]; decide) (tgt := 208) (by decide) ?_
        refine m_lload F rfl e_X9_chance_208 ?_
        exact m_lret F hQ e_X9_chance_210 (⟨(h1.mono (M' := M + 7560) (Z' := Z) (by omega) (by intro e; first | rfl | assumption | omega)), _, rfl⟩)
      by_cases hx1 : (u4 : Int32) = 1
      · refine m_lookup F e_X9_chance_182 (by decide) (off := 29) (by rw [hx1]; decide) (tgt := 211) (by decide) ?_
        refine m_aload F rfl e_X9_chance_211 ?_
        refine t_callV F e_X9_chance_213 (s_X1_asLong (x_l X) V b (M + 756 * i) Z T _ _ q2  h1.1 kq2  (by omega)) cb_X1_asLong ml_X9_157 im_X1_asLong se_X1_asLong (fun _ => o6) h1 kq2 rfl rfl (rest := []) rfl (Nat.le_of_ble_eq_true rfl) ⟨Nat.le_of_ble_eq_true rfl, Nat.le_of_ble_eq_true rfl⟩ ⟨Nat.le_of_ble_eq_true rfl, Nat.le_of_ble_eq_true rfl⟩ (fun r σ3129 hp => ?_)
        obtain ⟨h3131, x3132, rfl⟩ := hp
        have h3130 := HK.trans h1 h3131 (by decide)
        exact m_lret F hQ e_X9_chance_216 (⟨(h3130.mono (M' := M + 7560) (Z' := Z) (by omega) (by intro e; first | rfl | assumption | omega)), _, rfl⟩)
      refine m_lookup F e_X9_chance_182 (by decide) (off := 35) ((lv_osw hx0 (by decide)).trans ((lv_osw hx1 (by decide)).trans (rfl))) (tgt := 217) (by decide) ?_
      refine m_aload F rfl e_X9_chance_217 ?_
      refine t_callV F e_X9_chance_219 (s_X1_asLong (x_l X) V b (M + 756 * i) Z T _ _ q3  h1.1 kq3  (by omega)) cb_X1_asLong ml_X9_157 im_X1_asLong se_X1_asLong (fun _ => o6) h1 kq3 rfl rfl (rest := []) rfl (Nat.le_of_ble_eq_true rfl) ⟨Nat.le_of_ble_eq_true rfl, Nat.le_of_ble_eq_true rfl⟩ ⟨Nat.le_of_ble_eq_true rfl, Nat.le_of_ble_eq_true rfl⟩ (fun r σ3133 hp => ?_)
      obtain ⟨h3135, x3136, rfl⟩ := hp
      have h3134 := HK.trans h1 h3135 (by decide)
      exact m_lret F hQ e_X9_chance_222 (⟨(h3134.mono (M' := M + 7560) (Z' := Z) (by omega) (by intro e; first | rfl | assumption | omega)), _, rfl⟩)
    · have c95 : i < c := by have hh := mt (nI_leI (a := c) (b := i) (by omega) (by omega)).mpr q95; omega
      refine m_aload_n F rfl e_X9_chance_98 ?_
      refine m_iconst F (v := 0) (by decide) e_X9_chance_99 ?_
      refine t_callV F e_X9_chance_100 (s_X9_bookIn (x_l X) V b (M + 756 * i) Z T _ _ a 0 h1.1 hk (by omega) (by omega)) cb_X9_bookIn ml_X9_271 im_X9_bookIn se_X9_bookIn (fun _ => o1) h1 hk rfl rfl (rest := []) rfl (Nat.le_of_ble_eq_true rfl) ⟨Nat.le_of_ble_eq_true rfl, Nat.le_of_ble_eq_true rfl⟩ ⟨Nat.le_of_ble_eq_true rfl, Nat.le_of_ble_eq_true rfl⟩ (fun r σ3137 hp => ?_)
      obtain ⟨h3139, r3140, k3141, rfl⟩ := hp
      have h3138 := HK.trans h1 h3139 (by decide)
      refine m_astore F (lv' := [(12, .ref r3140), (11, .int (nI i)), (2, .int (nI c)), (4, .long u1), (9, .long u2), (0, .ref a), (1, .int u3), (3, .int u4), (6, .ref q1), (7, .ref q2), (8, .ref q3)]) e_X9_chance_103 (by decide) rfl ?_
      refine m_aload F rfl e_X9_chance_105 ?_
      refine m_lload F rfl e_X9_chance_107 ?_
      refine t_callV F e_X9_chance_109 (s_X2_yearByChance (x_l X) V b (M + 756 * i + 648) Z T _ _ r3140 u1 h3138.1 k3141  (by omega)) cb_X2_yearByChance ml_X9_364 im_X2_yearByChance se_X2_yearByChance (fun _ => o7) h3138 k3141 rfl rfl (rest := []) rfl (Nat.le_of_ble_eq_true rfl) ⟨Nat.le_of_ble_eq_true rfl, Nat.le_of_ble_eq_true rfl⟩ ⟨Nat.le_of_ble_eq_true rfl, Nat.le_of_ble_eq_true rfl⟩ (fun r σ3142 hp => ?_)
      obtain ⟨h3144, x3145, rfl⟩ := hp
      have h3143 := HK.trans h3138 h3144 (by decide)
      refine m_lstore F (lv' := [(4, .long x3145), (12, .ref r3140), (11, .int (nI i)), (2, .int (nI c)), (9, .long u2), (0, .ref a), (1, .int u3), (3, .int u4), (6, .ref q1), (7, .ref q2), (8, .ref q3)]) e_X9_chance_112 (by decide) rfl ?_
      refine m_aload F rfl e_X9_chance_114 ?_
      refine m_aload F rfl e_X9_chance_116 ?_
      refine t_callV F e_X9_chance_118 (s_X2_countAllOwed (x_l X) V b (M + 756 * i + 756) Z T _ _ r3140 q1 h3143.1 k3141 kq1 (by omega)) cb_X2_countAllOwed ml_X9_278 im_X2_countAllOwed se_X2_countAllOwed (fun _ => o7) h3143 k3141 rfl rfl (rest := []) rfl (Nat.le_of_ble_eq_true rfl) ⟨Nat.le_of_ble_eq_true rfl, Nat.le_of_ble_eq_true rfl⟩ ⟨Nat.le_of_ble_eq_true rfl, Nat.le_of_ble_eq_true rfl⟩ (fun r σ3146 hp => ?_)
      obtain ⟨h3148, rfl⟩ := hp
      have h3147 := HK.trans h3143 h3148 (by decide)
      refine m_lload F rfl e_X9_chance_121 ?_
      refine m_aload F rfl e_X9_chance_123 ?_
      refine t_callV F e_X9_chance_125 (s_X1_asLong (x_l X) V b (M + 756 * i + 756) Z T _ _ q1  h3147.1 kq1  (by omega)) cb_X1_asLong ml_X9_157 im_X1_asLong se_X1_asLong (fun _ => o6) h3147 kq1 rfl rfl (rest := [.long u2]) rfl (Nat.le_of_ble_eq_true rfl) ⟨Nat.le_of_ble_eq_true rfl, Nat.le_of_ble_eq_true rfl⟩ ⟨Nat.le_of_ble_eq_true rfl, Nat.le_of_ble_eq_true rfl⟩ (fun r σ3149 hp => ?_)
      obtain ⟨h3151, x3152, rfl⟩ := hp
      have h3150 := HK.trans h3147 h3151 (by decide)
      refine m_ladd F e_X9_chance_128 ?_
      refine Wm.topl (fun x3153 _ => ?_)
      refine m_lstore F (lv' := [(9, .long x3153), (4, .long x3145), (12, .ref r3140), (11, .int (nI i)), (2, .int (nI c)), (0, .ref a), (1, .int u3), (3, .int u4), (6, .ref q1), (7, .ref q2), (8, .ref q3)]) e_X9_chance_129 (by decide) rfl ?_
      refine m_iload F rfl e_X9_chance_131 ?_
      refine m_if_eq F e_X9_chance_133 (fun q133 => ?_) (fun q133 => ?_)
      · have c133 : i = 0 := (nI_eq (a := i) (b := 0) (by omega) (by omega)).mp q133
        refine m_aload F rfl e_X9_chance_146 ?_
        refine m_aload F rfl e_X9_chance_148 ?_
        refine t_callV F e_X9_chance_150 (s_X1_copyFrom (x_l X) V b (M + 756 * i + 756) Z T _ _ q2 q1 h3150.1 kq2 kq1 (by omega)) cb_X1_copyFrom ml_X9_284 im_X1_copyFrom se_X1_copyFrom (fun _ => o6) h3150 kq2 rfl rfl (rest := []) rfl (Nat.le_of_ble_eq_true rfl) ⟨Nat.le_of_ble_eq_true rfl, Nat.le_of_ble_eq_true rfl⟩ ⟨Nat.le_of_ble_eq_true rfl, Nat.le_of_ble_eq_true rfl⟩ (fun r σ3154 hp => ?_)
        obtain ⟨h3156, rfl⟩ := hp
        have h3155 := HK.trans h3150 h3156 (by decide)
        refine m_iload F rfl e_X9_chance_153 ?_
        refine m_if_eq F e_X9_chance_155 (fun q155 => ?_) (fun q155 => ?_)
        · have c155 : i = 0 := (nI_eq (a := i) (b := 0) (by omega) (by omega)).mp q155
          refine m_aload F rfl e_X9_chance_168 ?_
          refine m_aload F rfl e_X9_chance_170 ?_
          refine t_callV F e_X9_chance_172 (s_X1_copyFrom (x_l X) V b (M + 756 * i + 756) Z T _ _ q3 q1 h3155.1 kq3 kq1 (by omega)) cb_X1_copyFrom ml_X9_284 im_X1_copyFrom se_X1_copyFrom (fun _ => o6) h3155 kq3 rfl rfl (rest := []) rfl (Nat.le_of_ble_eq_true rfl) ⟨Nat.le_of_ble_eq_true rfl, Nat.le_of_ble_eq_true rfl⟩ ⟨Nat.le_of_ble_eq_true rfl, Nat.le_of_ble_eq_true rfl⟩ (fun r σ3157 hp => ?_)
          obtain ⟨h3159, rfl⟩ := hp
          have h3158 := HK.trans h3155 h3159 (by decide)
          refine m_iinc F (v := nI (i + 1)) (lv' := [(11, .int (nI (i + 1))), (9, .long x3153), (4, .long x3145), (12, .ref r3140), (2, .int (nI c)), (0, .ref a), (1, .int u3), (3, .int u4), (6, .ref q1), (7, .ref q2), (8, .ref q3)]) e_X9_chance_175 rfl (nI_add i 1) (by decide) rfl ?_
          refine m_goto F e_X9_chance_178 ?_
          refine Wm.lvsub (lv' := [(11, .int (nI (i + 1))), (2, .int (nI c)), (4, .long x3145), (9, .long x3153), (0, .ref a), (1, .int u3), (3, .int u4), (6, .ref q1), (7, .ref q2), (8, .ref q3)]) ?_ [0, 4, 2, 1, 5, 6, 7, 8, 9, 10] rfl
          exact ih (i + 1) c x3145 x3153 u3 u4 q1 q2 q3 _ (h3158.mono (M' := M + 756 * (i + 1)) (Z' := Z) (by omega) (by intro e9; first | exact e9 | rfl)) ⟨kq1, kq2, kq3, (by omega)⟩ (by omega)
        · have c155 : i ≠ 0 := by have hh := mt (nI_eq (a := i) (b := 0) (by omega) (by omega)).mpr q155; omega
          refine m_aload F rfl e_X9_chance_158 ?_
          refine m_aload F rfl e_X9_chance_160 ?_
          refine t_callV F e_X9_chance_162 (s_X1_isAbove (x_l X) V b (M + 756 * i + 756) Z T _ _ q3 q1 h3155.1 kq3 kq1 (by omega)) cb_X1_isAbove ml_X9_330 im_X1_isAbove se_X1_isAbove (fun _ => o6) h3155 kq3 rfl rfl (rest := []) rfl (Nat.le_of_ble_eq_true rfl) ⟨Nat.le_of_ble_eq_true rfl, Nat.le_of_ble_eq_true rfl⟩ ⟨Nat.le_of_ble_eq_true rfl, Nat.le_of_ble_eq_true rfl⟩ (fun r σ3160 hp => ?_)
          obtain ⟨h3162, n3163, hn3163, rfl⟩ := hp
          have h3161 := HK.trans h3155 h3162 (by decide)
          refine m_if_eq F e_X9_chance_165 (fun q165 => ?_) (fun q165 => ?_)
          · have c165 : n3163 = 0 := (nI_eq (a := n3163) (b := 0) (by omega) (by omega)).mp q165
            refine m_iinc F (v := nI (i + 1)) (lv' := [(11, .int (nI (i + 1))), (9, .long x3153), (4, .long x3145), (12, .ref r3140), (2, .int (nI c)), (0, .ref a), (1, .int u3), (3, .int u4), (6, .ref q1), (7, .ref q2), (8, .ref q3)]) e_X9_chance_175 rfl (nI_add i 1) (by decide) rfl ?_
            refine m_goto F e_X9_chance_178 ?_
            refine Wm.lvsub (lv' := [(11, .int (nI (i + 1))), (2, .int (nI c)), (4, .long x3145), (9, .long x3153), (0, .ref a), (1, .int u3), (3, .int u4), (6, .ref q1), (7, .ref q2), (8, .ref q3)]) ?_ [0, 4, 2, 1, 5, 6, 7, 8, 9, 10] rfl
            exact ih (i + 1) c x3145 x3153 u3 u4 q1 q2 q3 _ (h3161.mono (M' := M + 756 * (i + 1)) (Z' := Z) (by omega) (by intro e9; first | exact e9 | rfl)) ⟨kq1, kq2, kq3, (by omega)⟩ (by omega)
          · have c165 : n3163 ≠ 0 := by have hh := mt (nI_eq (a := n3163) (b := 0) (by omega) (by omega)).mpr q165; omega
            refine m_aload F rfl e_X9_chance_168 ?_
            refine m_aload F rfl e_X9_chance_170 ?_
            refine t_callV F e_X9_chance_172 (s_X1_copyFrom (x_l X) V b (M + 756 * i + 756) Z T _ _ q3 q1 h3161.1 kq3 kq1 (by omega)) cb_X1_copyFrom ml_X9_284 im_X1_copyFrom se_X1_copyFrom (fun _ => o6) h3161 kq3 rfl rfl (rest := []) rfl (Nat.le_of_ble_eq_true rfl) ⟨Nat.le_of_ble_eq_true rfl, Nat.le_of_ble_eq_true rfl⟩ ⟨Nat.le_of_ble_eq_true rfl, Nat.le_of_ble_eq_true rfl⟩ (fun r σ3164 hp => ?_)
            obtain ⟨h3166, rfl⟩ := hp
            have h3165 := HK.trans h3161 h3166 (by decide)
            refine m_iinc F (v := nI (i + 1)) (lv' := [(11, .int (nI (i + 1))), (9, .long x3153), (4, .long x3145), (12, .ref r3140), (2, .int (nI c)), (0, .ref a), (1, .int u3), (3, .int u4), (6, .ref q1), (7, .ref q2), (8, .ref q3)]) e_X9_chance_175 rfl (nI_add i 1) (by decide) rfl ?_
            refine m_goto F e_X9_chance_178 ?_
            refine Wm.lvsub (lv' := [(11, .int (nI (i + 1))), (2, .int (nI c)), (4, .long x3145), (9, .long x3153), (0, .ref a), (1, .int u3), (3, .int u4), (6, .ref q1), (7, .ref q2), (8, .ref q3)]) ?_ [0, 4, 2, 1, 5, 6, 7, 8, 9, 10] rfl
            exact ih (i + 1) c x3145 x3153 u3 u4 q1 q2 q3 _ (h3165.mono (M' := M + 756 * (i + 1)) (Z' := Z) (by omega) (by intro e9; first | exact e9 | rfl)) ⟨kq1, kq2, kq3, (by omega)⟩ (by omega)
      · have c133 : i ≠ 0 := by have hh := mt (nI_eq (a := i) (b := 0) (by omega) (by omega)).mpr q133; omega
        refine m_aload F rfl e_X9_chance_136 ?_
        refine m_aload F rfl e_X9_chance_138 ?_
        refine t_callV F e_X9_chance_140 (s_X1_isAbove (x_l X) V b (M + 756 * i + 756) Z T _ _ q1 q2 h3150.1 kq1 kq2 (by omega)) cb_X1_isAbove ml_X9_330 im_X1_isAbove se_X1_isAbove (fun _ => o6) h3150 kq1 rfl rfl (rest := []) rfl (Nat.le_of_ble_eq_true rfl) ⟨Nat.le_of_ble_eq_true rfl, Nat.le_of_ble_eq_true rfl⟩ ⟨Nat.le_of_ble_eq_true rfl, Nat.le_of_ble_eq_true rfl⟩ (fun r σ3167 hp => ?_)
        obtain ⟨h3169, n3170, hn3170, rfl⟩ := hp
        have h3168 := HK.trans h3150 h3169 (by decide)
        refine m_if_eq F e_X9_chance_143 (fun q143 => ?_) (fun q143 => ?_)
        · have c143 : n3170 = 0 := (nI_eq (a := n3170) (b := 0) (by omega) (by omega)).mp q143
          refine m_iload F rfl e_X9_chance_153 ?_
          refine m_if_eq F e_X9_chance_155 (fun q155 => ?_) (fun q155 => ?_)
          · have c155 : i = 0 := (nI_eq (a := i) (b := 0) (by omega) (by omega)).mp q155
            refine m_aload F rfl e_X9_chance_168 ?_
            refine m_aload F rfl e_X9_chance_170 ?_
            refine t_callV F e_X9_chance_172 (s_X1_copyFrom (x_l X) V b (M + 756 * i + 756) Z T _ _ q3 q1 h3168.1 kq3 kq1 (by omega)) cb_X1_copyFrom ml_X9_284 im_X1_copyFrom se_X1_copyFrom (fun _ => o6) h3168 kq3 rfl rfl (rest := []) rfl (Nat.le_of_ble_eq_true rfl) ⟨Nat.le_of_ble_eq_true rfl, Nat.le_of_ble_eq_true rfl⟩ ⟨Nat.le_of_ble_eq_true rfl, Nat.le_of_ble_eq_true rfl⟩ (fun r σ3171 hp => ?_)
            obtain ⟨h3173, rfl⟩ := hp
            have h3172 := HK.trans h3168 h3173 (by decide)
            refine m_iinc F (v := nI (i + 1)) (lv' := [(11, .int (nI (i + 1))), (9, .long x3153), (4, .long x3145), (12, .ref r3140), (2, .int (nI c)), (0, .ref a), (1, .int u3), (3, .int u4), (6, .ref q1), (7, .ref q2), (8, .ref q3)]) e_X9_chance_175 rfl (nI_add i 1) (by decide) rfl ?_
            refine m_goto F e_X9_chance_178 ?_
            refine Wm.lvsub (lv' := [(11, .int (nI (i + 1))), (2, .int (nI c)), (4, .long x3145), (9, .long x3153), (0, .ref a), (1, .int u3), (3, .int u4), (6, .ref q1), (7, .ref q2), (8, .ref q3)]) ?_ [0, 4, 2, 1, 5, 6, 7, 8, 9, 10] rfl
            exact ih (i + 1) c x3145 x3153 u3 u4 q1 q2 q3 _ (h3172.mono (M' := M + 756 * (i + 1)) (Z' := Z) (by omega) (by intro e9; first | exact e9 | rfl)) ⟨kq1, kq2, kq3, (by omega)⟩ (by omega)
          · have c155 : i ≠ 0 := by have hh := mt (nI_eq (a := i) (b := 0) (by omega) (by omega)).mpr q155; omega
            refine m_aload F rfl e_X9_chance_158 ?_
            refine m_aload F rfl e_X9_chance_160 ?_
            refine t_callV F e_X9_chance_162 (s_X1_isAbove (x_l X) V b (M + 756 * i + 756) Z T _ _ q3 q1 h3168.1 kq3 kq1 (by omega)) cb_X1_isAbove ml_X9_330 im_X1_isAbove se_X1_isAbove (fun _ => o6) h3168 kq3 rfl rfl (rest := []) rfl (Nat.le_of_ble_eq_true rfl) ⟨Nat.le_of_ble_eq_true rfl, Nat.le_of_ble_eq_true rfl⟩ ⟨Nat.le_of_ble_eq_true rfl, Nat.le_of_ble_eq_true rfl⟩ (fun r σ3174 hp => ?_)
            obtain ⟨h3176, n3177, hn3177, rfl⟩ := hp
            have h3175 := HK.trans h3168 h3176 (by decide)
            refine m_if_eq F e_X9_chance_165 (fun q165 => ?_) (fun q165 => ?_)
            · have c165 : n3177 = 0 := (nI_eq (a := n3177) (b := 0) (by omega) (by omega)).mp q165
              refine m_iinc F (v := nI (i + 1)) (lv' := [(11, .int (nI (i + 1))), (9, .long x3153), (4, .long x3145), (12, .ref r3140), (2, .int (nI c)), (0, .ref a), (1, .int u3), (3, .int u4), (6, .ref q1), (7, .ref q2), (8, .ref q3)]) e_X9_chance_175 rfl (nI_add i 1) (by decide) rfl ?_
              refine m_goto F e_X9_chance_178 ?_
              refine Wm.lvsub (lv' := [(11, .int (nI (i + 1))), (2, .int (nI c)), (4, .long x3145), (9, .long x3153), (0, .ref a), (1, .int u3), (3, .int u4), (6, .ref q1), (7, .ref q2), (8, .ref q3)]) ?_ [0, 4, 2, 1, 5, 6, 7, 8, 9, 10] rfl
              exact ih (i + 1) c x3145 x3153 u3 u4 q1 q2 q3 _ (h3175.mono (M' := M + 756 * (i + 1)) (Z' := Z) (by omega) (by intro e9; first | exact e9 | rfl)) ⟨kq1, kq2, kq3, (by omega)⟩ (by omega)
            · have c165 : n3177 ≠ 0 := by have hh := mt (nI_eq (a := n3177) (b := 0) (by omega) (by omega)).mpr q165; omega
              refine m_aload F rfl e_X9_chance_168 ?_
              refine m_aload F rfl e_X9_chance_170 ?_
              refine t_callV F e_X9_chance_172 (s_X1_copyFrom (x_l X) V b (M + 756 * i + 756) Z T _ _ q3 q1 h3175.1 kq3 kq1 (by omega)) cb_X1_copyFrom ml_X9_284 im_X1_copyFrom se_X1_copyFrom (fun _ => o6) h3175 kq3 rfl rfl (rest := []) rfl (Nat.le_of_ble_eq_true rfl) ⟨Nat.le_of_ble_eq_true rfl, Nat.le_of_ble_eq_true rfl⟩ ⟨Nat.le_of_ble_eq_true rfl, Nat.le_of_ble_eq_true rfl⟩ (fun r σ3178 hp => ?_)
              obtain ⟨h3180, rfl⟩ := hp
              have h3179 := HK.trans h3175 h3180 (by decide)
              refine m_iinc F (v := nI (i + 1)) (lv' := [(11, .int (nI (i + 1))), (9, .long x3153), (4, .long x3145), (12, .ref r3140), (2, .int (nI c)), (0, .ref a), (1, .int u3), (3, .int u4), (6, .ref q1), (7, .ref q2), (8, .ref q3)]) e_X9_chance_175 rfl (nI_add i 1) (by decide) rfl ?_
              refine m_goto F e_X9_chance_178 ?_
              refine Wm.lvsub (lv' := [(11, .int (nI (i + 1))), (2, .int (nI c)), (4, .long x3145), (9, .long x3153), (0, .ref a), (1, .int u3), (3, .int u4), (6, .ref q1), (7, .ref q2), (8, .ref q3)]) ?_ [0, 4, 2, 1, 5, 6, 7, 8, 9, 10] rfl
              exact ih (i + 1) c x3145 x3153 u3 u4 q1 q2 q3 _ (h3179.mono (M' := M + 756 * (i + 1)) (Z' := Z) (by omega) (by intro e9; first | exact e9 | rfl)) ⟨kq1, kq2, kq3, (by omega)⟩ (by omega)
        · have c143 : n3170 ≠ 0 := by have hh := mt (nI_eq (a := n3170) (b := 0) (by omega) (by omega)).mpr q143; omega
          refine m_aload F rfl e_X9_chance_146 ?_
          refine m_aload F rfl e_X9_chance_148 ?_
          refine t_callV F e_X9_chance_150 (s_X1_copyFrom (x_l X) V b (M + 756 * i + 756) Z T _ _ q2 q1 h3168.1 kq2 kq1 (by omega)) cb_X1_copyFrom ml_X9_284 im_X1_copyFrom se_X1_copyFrom (fun _ => o6) h3168 kq2 rfl rfl (rest := []) rfl (Nat.le_of_ble_eq_true rfl) ⟨Nat.le_of_ble_eq_true rfl, Nat.le_of_ble_eq_true rfl⟩ ⟨Nat.le_of_ble_eq_true rfl, Nat.le_of_ble_eq_true rfl⟩ (fun r σ3181 hp => ?_)
          obtain ⟨h3183, rfl⟩ := hp
          have h3182 := HK.trans h3168 h3183 (by decide)
          refine m_iload F rfl e_X9_chance_153 ?_
          refine m_if_eq F e_X9_chance_155 (fun q155 => ?_) (fun q155 => ?_)
          · have c155 : i = 0 := (nI_eq (a := i) (b := 0) (by omega) (by omega)).mp q155
            refine m_aload F rfl e_X9_chance_168 ?_
            refine m_aload F rfl e_X9_chance_170 ?_
            refine t_callV F e_X9_chance_172 (s_X1_copyFrom (x_l X) V b (M + 756 * i + 756) Z T _ _ q3 q1 h3182.1 kq3 kq1 (by omega)) cb_X1_copyFrom ml_X9_284 im_X1_copyFrom se_X1_copyFrom (fun _ => o6) h3182 kq3 rfl rfl (rest := []) rfl (Nat.le_of_ble_eq_true rfl) ⟨Nat.le_of_ble_eq_true rfl, Nat.le_of_ble_eq_true rfl⟩ ⟨Nat.le_of_ble_eq_true rfl, Nat.le_of_ble_eq_true rfl⟩ (fun r σ3184 hp => ?_)
            obtain ⟨h3186, rfl⟩ := hp
            have h3185 := HK.trans h3182 h3186 (by decide)
            refine m_iinc F (v := nI (i + 1)) (lv' := [(11, .int (nI (i + 1))), (9, .long x3153), (4, .long x3145), (12, .ref r3140), (2, .int (nI c)), (0, .ref a), (1, .int u3), (3, .int u4), (6, .ref q1), (7, .ref q2), (8, .ref q3)]) e_X9_chance_175 rfl (nI_add i 1) (by decide) rfl ?_
            refine m_goto F e_X9_chance_178 ?_
            refine Wm.lvsub (lv' := [(11, .int (nI (i + 1))), (2, .int (nI c)), (4, .long x3145), (9, .long x3153), (0, .ref a), (1, .int u3), (3, .int u4), (6, .ref q1), (7, .ref q2), (8, .ref q3)]) ?_ [0, 4, 2, 1, 5, 6, 7, 8, 9, 10] rfl
            exact ih (i + 1) c x3145 x3153 u3 u4 q1 q2 q3 _ (h3185.mono (M' := M + 756 * (i + 1)) (Z' := Z) (by omega) (by intro e9; first | exact e9 | rfl)) ⟨kq1, kq2, kq3, (by omega)⟩ (by omega)
          · have c155 : i ≠ 0 := by have hh := mt (nI_eq (a := i) (b := 0) (by omega) (by omega)).mpr q155; omega
            refine m_aload F rfl e_X9_chance_158 ?_
            refine m_aload F rfl e_X9_chance_160 ?_
            refine t_callV F e_X9_chance_162 (s_X1_isAbove (x_l X) V b (M + 756 * i + 756) Z T _ _ q3 q1 h3182.1 kq3 kq1 (by omega)) cb_X1_isAbove ml_X9_330 im_X1_isAbove se_X1_isAbove (fun _ => o6) h3182 kq3 rfl rfl (rest := []) rfl (Nat.le_of_ble_eq_true rfl) ⟨Nat.le_of_ble_eq_true rfl, Nat.le_of_ble_eq_true rfl⟩ ⟨Nat.le_of_ble_eq_true rfl, Nat.le_of_ble_eq_true rfl⟩ (fun r σ3187 hp => ?_)
            obtain ⟨h3189, n3190, hn3190, rfl⟩ := hp
            have h3188 := HK.trans h3182 h3189 (by decide)
            refine m_if_eq F e_X9_chance_165 (fun q165 => ?_) (fun q165 => ?_)
            · have c165 : n3190 = 0 := (nI_eq (a := n3190) (b := 0) (by omega) (by omega)).mp q165
              refine m_iinc F (v := nI (i + 1)) (lv' := [(11, .int (nI (i + 1))), (9, .long x3153), (4, .long x3145), (12, .ref r3140), (2, .int (nI c)), (0, .ref a), (1, .int u3), (3, .int u4), (6, .ref q1), (7, .ref q2), (8, .ref q3)]) e_X9_chance_175 rfl (nI_add i 1) (by decide) rfl ?_
              refine m_goto F e_X9_chance_178 ?_
              refine Wm.lvsub (lv' := [(11, .int (nI (i + 1))), (2, .int (nI c)), (4, .long x3145), (9, .long x3153), (0, .ref a), (1, .int u3), (3, .int u4), (6, .ref q1), (7, .ref q2), (8, .ref q3)]) ?_ [0, 4, 2, 1, 5, 6, 7, 8, 9, 10] rfl
              exact ih (i + 1) c x3145 x3153 u3 u4 q1 q2 q3 _ (h3188.mono (M' := M + 756 * (i + 1)) (Z' := Z) (by omega) (by intro e9; first | exact e9 | rfl)) ⟨kq1, kq2, kq3, (by omega)⟩ (by omega)
            · have c165 : n3190 ≠ 0 := by have hh := mt (nI_eq (a := n3190) (b := 0) (by omega) (by omega)).mpr q165; omega
              refine m_aload F rfl e_X9_chance_168 ?_
              refine m_aload F rfl e_X9_chance_170 ?_
              refine t_callV F e_X9_chance_172 (s_X1_copyFrom (x_l X) V b (M + 756 * i + 756) Z T _ _ q3 q1 h3188.1 kq3 kq1 (by omega)) cb_X1_copyFrom ml_X9_284 im_X1_copyFrom se_X1_copyFrom (fun _ => o6) h3188 kq3 rfl rfl (rest := []) rfl (Nat.le_of_ble_eq_true rfl) ⟨Nat.le_of_ble_eq_true rfl, Nat.le_of_ble_eq_true rfl⟩ ⟨Nat.le_of_ble_eq_true rfl, Nat.le_of_ble_eq_true rfl⟩ (fun r σ3191 hp => ?_)
              obtain ⟨h3193, rfl⟩ := hp
              have h3192 := HK.trans h3188 h3193 (by decide)
              refine m_iinc F (v := nI (i + 1)) (lv' := [(11, .int (nI (i + 1))), (9, .long x3153), (4, .long x3145), (12, .ref r3140), (2, .int (nI c)), (0, .ref a), (1, .int u3), (3, .int u4), (6, .ref q1), (7, .ref q2), (8, .ref q3)]) e_X9_chance_175 rfl (nI_add i 1) (by decide) rfl ?_
              refine m_goto F e_X9_chance_178 ?_
              refine Wm.lvsub (lv' := [(11, .int (nI (i + 1))), (2, .int (nI c)), (4, .long x3145), (9, .long x3153), (0, .ref a), (1, .int u3), (3, .int u4), (6, .ref q1), (7, .ref q2), (8, .ref q3)]) ?_ [0, 4, 2, 1, 5, 6, 7, 8, 9, 10] rfl
              exact ih (i + 1) c x3145 x3153 u3 u4 q1 q2 q3 _ (h3192.mono (M' := M + 756 * (i + 1)) (Z' := Z) (by omega) (by intro e9; first | exact e9 | rfl)) ⟨kq1, kq2, kq3, (by omega)⟩ (by omega)
set_option maxRecDepth 20000 in
theorem s_X9_chance (l : Launch) (V : VX) (b M Z T N : Nat) (σ : Mem) (a : Nat) (x901 : Int32) (x902 : Int32) (x903 : Int32) (h0 : HT V (b, M, Z, T) σ) (hk : kA b a = 1) (hM : M + 7560 ≤ 1000000000) : Ct l V yX9_chance cX9_chance 13 (some .long) 7 0 0 N σ [.ref a, .int x901, .int x902, .int x903] (fun r τ => HK V (b, M + 7560, Z, T) [0, 1, 2, 3, 4, 5, 8, 9, 16] σ τ ∧ ∃ x : Int64, r = some (.long x)) := by
  refine Ct.of (by decide) (Nat.le_of_ble_eq_true rfl) [(0, .ref a), (1, .int x901), (2, .int x902), (3, .int x903)] rfl (fun X hX F hQ => ?_)
  have h1 : HK V (b, M, Z, T) [0, 1, 2, 3, 4, 5, 8, 9, 16] σ σ := HK.start h0
  refine m_iload_n F rfl e_X9_chance_0 ?_
  refine m_iconst F (v := (-1)) (by decide) e_X9_chance_1 ?_
  refine m_icmp_lt F e_X9_chance_2 (fun q2 => ?_) (fun q2 => ?_)
  · refine m_ldc2 F kc_X9_149 e_X9_chance_25 ?_
    exact m_lret F hQ e_X9_chance_28 (⟨(h1.mono (M' := M + 7560) (Z' := Z) (by omega) (by intro e; first | rfl | assumption | omega)), _, rfl⟩)
  · refine m_iload_n F rfl e_X9_chance_5 ?_
    refine m_iconst F (v := 1) (by decide) e_X9_chance_6 ?_
    refine m_icmp_lt F e_X9_chance_7 (fun q7 => ?_) (fun q7 => ?_)
    · refine m_ldc2 F kc_X9_149 e_X9_chance_25 ?_
      exact m_lret F hQ e_X9_chance_28 (⟨(h1.mono (M' := M + 7560) (Z' := Z) (by omega) (by intro e; first | rfl | assumption | omega)), _, rfl⟩)
    · obtain ⟨n3194, hn3194, rfl⟩ := nI_nn (x := x902) (fun e => q7 (Int32.lt_of_lt_of_le e (by decide)))
      have c7 : n3194 ≥ 1 := by have hh := mt (nI_ltI (a := n3194) (b := 1) (by omega) (by omega)).mpr q7; omega
      refine m_iload_n F rfl e_X9_chance_10 ?_
      refine m_bipush F (v := 10) (by decide) e_X9_chance_11 ?_
      refine m_icmp_gt F e_X9_chance_13 (fun q13 => ?_) (fun q13 => ?_)
      · have c13 : n3194 > 10 := (nI_ltI (a := 10) (b := n3194) (by omega) (by omega)).mp q13
        refine m_ldc2 F kc_X9_149 e_X9_chance_25 ?_
        exact m_lret F hQ e_X9_chance_28 (⟨(h1.mono (M' := M + 7560) (Z' := Z) (by omega) (by intro e; first | rfl | assumption | omega)), _, rfl⟩)
      · have c13 : n3194 ≤ 10 := by have hh := mt (nI_ltI (a := 10) (b := n3194) (by omega) (by omega)).mpr q13; omega
        refine m_iload_n F rfl e_X9_chance_16 ?_
        refine m_if_lt F e_X9_chance_17 (fun q17 => ?_) (fun q17 => ?_)
        · refine m_ldc2 F kc_X9_149 e_X9_chance_25 ?_
          exact m_lret F hQ e_X9_chance_28 (⟨(h1.mono (M' := M + 7560) (Z' := Z) (by omega) (by intro e; first | rfl | assumption | omega)), _, rfl⟩)
        · obtain ⟨n3195, hn3195, rfl⟩ := nI_nn (x := x903) (fun e => q17 (Int32.lt_of_lt_of_le e (by decide)))
          have c17 : n3195 ≥ 0 := by have hh := mt (nI_ltI (a := n3195) (b := 0) (by omega) (by omega)).mpr q17; omega
          refine m_iload_n F rfl e_X9_chance_20 ?_
          refine m_iconst F (v := 2) (by decide) e_X9_chance_21 ?_
          refine m_icmp_le F e_X9_chance_22 (fun q22 => ?_) (fun q22 => ?_)
          · have c22 : n3195 ≤ 2 := (nI_leI (a := n3195) (b := 2) (by omega) (by omega)).mp q22
            refine m_aload_n F rfl e_X9_chance_29 ?_
            refine t_get F e_X9_chance_30 fl_X9_16 (fun _ => o1) h1 hk rfl (fun v hv f3196 => ?_)
            obtain ⟨r3197, k3198, rfl⟩ := hv
            refine t_get F e_X9_chance_33 fl_X9_94 (fun _ => o7) h1 k3198 rfl (fun v hv f3199 => ?_)
            obtain ⟨n3200, hn3200, rfl⟩ := hv
            replace hn3200 : n3200 ≤ M := hn3200
            refine m_bipush F (v := 12) (by decide) e_X9_chance_36 ?_
            refine m_iadd F e_X9_chance_38 ?_
            refine Wm.topE (w := nI (n3200 + 12)) (nI_add n3200 12) ?_
            refine m_bipush F (v := 99) (by decide) e_X9_chance_39 ?_
            refine m_icmp_le F e_X9_chance_41 (fun q41 => ?_) (fun q41 => ?_)
            · have c41 : (n3200 + 12) ≤ 99 := (nI_leI (a := (n3200 + 12)) (b := 99) (by omega) (by omega)).mp q41
              refine m_iload_n F rfl e_X9_chance_48 ?_
              refine m_iconst F (v := (-1)) (by decide) e_X9_chance_49 ?_
              refine m_icmp_ne F e_X9_chance_50 (fun q50 => ?_) (fun q50 => ?_)
              · refine m_iload_n F rfl e_X9_chance_64 ?_
                refine m_i2l F e_X9_chance_65 ?_
                refine Wm.topl (fun x3201 _ => ?_)
                refine m_lstore F (lv' := [(4, .long x3201), (0, .ref a), (1, .int x901), (2, .int (nI n3194)), (3, .int (nI n3195))]) e_X9_chance_66 (by decide) rfl ?_
                refine m_aload_n F rfl e_X9_chance_68 ?_
                refine t_get F e_X9_chance_69 fl_X9_42 (fun _ => o1) h1 hk rfl (fun v hv f3202 => ?_)
                obtain ⟨r3203, k3204, rfl⟩ := hv
                refine m_astore F (lv' := [(6, .ref r3203), (4, .long x3201), (0, .ref a), (1, .int x901), (2, .int (nI n3194)), (3, .int (nI n3195))]) e_X9_chance_72 (by decide) rfl ?_
                refine m_aload_n F rfl e_X9_chance_74 ?_
                refine t_get F e_X9_chance_75 fl_X9_46 (fun _ => o1) h1 hk rfl (fun v hv f3205 => ?_)
                obtain ⟨r3206, k3207, rfl⟩ := hv
                refine m_astore F (lv' := [(7, .ref r3206), (6, .ref r3203), (4, .long x3201), (0, .ref a), (1, .int x901), (2, .int (nI n3194)), (3, .int (nI n3195))]) e_X9_chance_78 (by decide) rfl ?_
                refine m_aload_n F rfl e_X9_chance_80 ?_
                refine t_get F e_X9_chance_81 fl_X9_49 (fun _ => o1) h1 hk rfl (fun v hv f3208 => ?_)
                obtain ⟨r3209, k3210, rfl⟩ := hv
                refine m_astore F (lv' := [(8, .ref r3209), (7, .ref r3206), (6, .ref r3203), (4, .long x3201), (0, .ref a), (1, .int x901), (2, .int (nI n3194)), (3, .int (nI n3195))]) e_X9_chance_84 (by decide) rfl ?_
                refine m_lconst F (v := 0) (by decide) e_X9_chance_86 ?_
                refine m_lstore F (lv' := [(9, .long 0), (8, .ref r3209), (7, .ref r3206), (6, .ref r3203), (4, .long x3201), (0, .ref a), (1, .int x901), (2, .int (nI n3194)), (3, .int (nI n3195))]) e_X9_chance_87 (by decide) rfl ?_
                refine m_iconst F (v := 0) (by decide) e_X9_chance_89 ?_
                refine m_istore F (lv' := [(11, .int 0), (9, .long 0), (8, .ref r3209), (7, .ref r3206), (6, .ref r3203), (4, .long x3201), (0, .ref a), (1, .int x901), (2, .int (nI n3194)), (3, .int (nI n3195))]) e_X9_chance_90 (by decide) rfl ?_
                refine Wm.lvsub (lv' := [(11, .int 0), (2, .int (nI n3194)), (4, .long x3201), (9, .long 0), (0, .ref a), (1, .int x901), (3, .int (nI n3195)), (6, .ref r3203), (7, .ref r3206), (8, .ref r3209)]) ?_ [0, 8, 5, 1, 6, 7, 9, 4, 3, 2] rfl
                exact lp_X9_chance_92 F hQ hk hM (10 - 0 + 1) 0 n3194 x3201 0 x901 (nI n3195) r3203 r3206 r3209 _ (h1.mono (M' := M + 756 * 0) (Z' := Z) (by omega) (by intro e9; first | exact e9 | rfl)) ⟨k3204, k3207, k3210, (by omega)⟩ (Nat.lt_succ_self _)
              · refine m_aload_n F rfl e_X9_chance_53 ?_
                refine t_getC F e_X9_chance_54 fl_X9_16 (fun _ => o1) h1 hk (f3196) ?_
                refine t_get F e_X9_chance_57 fl_X9_361 (fun _ => o7) h1 k3198 rfl (fun v hv f3211 => ?_)
                obtain ⟨x3212, rfl⟩ := hv
                refine m_i2l F e_X9_chance_60 ?_
                refine Wm.topl (fun x3213 _ => ?_)
                refine m_goto F e_X9_chance_61 ?_
                refine m_lstore F (lv' := [(4, .long x3213), (0, .ref a), (1, .int x901), (2, .int (nI n3194)), (3, .int (nI n3195))]) e_X9_chance_66 (by decide) rfl ?_
                refine m_aload_n F rfl e_X9_chance_68 ?_
                refine t_get F e_X9_chance_69 fl_X9_42 (fun _ => o1) h1 hk rfl (fun v hv f3214 => ?_)
                obtain ⟨r3215, k3216, rfl⟩ := hv
                refine m_astore F (lv' := [(6, .ref r3215), (4, .long x3213), (0, .ref a), (1, .int x901), (2, .int (nI n3194)), (3, .int (nI n3195))]) e_X9_chance_72 (by decide) rfl ?_
                refine m_aload_n F rfl e_X9_chance_74 ?_
                refine t_get F e_X9_chance_75 fl_X9_46 (fun _ => o1) h1 hk rfl (fun v hv f3217 => ?_)
                obtain ⟨r3218, k3219, rfl⟩ := hv
                refine m_astore F (lv' := [(7, .ref r3218), (6, .ref r3215), (4, .long x3213), (0, .ref a), (1, .int x901), (2, .int (nI n3194)), (3, .int (nI n3195))]) e_X9_chance_78 (by decide) rfl ?_
                refine m_aload_n F rfl e_X9_chance_80 ?_
                refine t_get F e_X9_chance_81 fl_X9_49 (fun _ => o1) h1 hk rfl (fun v hv f3220 => ?_)
                obtain ⟨r3221, k3222, rfl⟩ := hv
                refine m_astore F (lv' := [(8, .ref r3221), (7, .ref r3218), (6, .ref r3215), (4, .long x3213), (0, .ref a), (1, .int x901), (2, .int (nI n3194)), (3, .int (nI n3195))]) e_X9_chance_84 (by decide) rfl ?_
                refine m_lconst F (v := 0) (by decide) e_X9_chance_86 ?_
                refine m_lstore F (lv' := [(9, .long 0), (8, .ref r3221), (7, .ref r3218), (6, .ref r3215), (4, .long x3213), (0, .ref a), (1, .int x901), (2, .int (nI n3194)), (3, .int (nI n3195))]) e_X9_chance_87 (by decide) rfl ?_
                refine m_iconst F (v := 0) (by decide) e_X9_chance_89 ?_
                refine m_istore F (lv' := [(11, .int 0), (9, .long 0), (8, .ref r3221), (7, .ref r3218), (6, .ref r3215), (4, .long x3213), (0, .ref a), (1, .int x901), (2, .int (nI n3194)), (3, .int (nI n3195))]) e_X9_chance_90 (by decide) rfl ?_
                refine Wm.lvsub (lv' := [(11, .int 0), (2, .int (nI n3194)), (4, .long x3213), (9, .long 0), (0, .ref a), (1, .int x901), (3, .int (nI n3195)), (6, .ref r3215), (7, .ref r3218), (8, .ref r3221)]) ?_ [0, 8, 5, 1, 6, 7, 9, 4, 3, 2] rfl
                exact lp_X9_chance_92 F hQ hk hM (10 - 0 + 1) 0 n3194 x3213 0 x901 (nI n3195) r3215 r3218 r3221 _ (h1.mono (M' := M + 756 * 0) (Z' := Z) (by omega) (by intro e9; first | exact e9 | rfl)) ⟨k3216, k3219, k3222, (by omega)⟩ (Nat.lt_succ_self _)
            · have c41 : (n3200 + 12) > 99 := by have hh := mt (nI_leI (a := (n3200 + 12)) (b := 99) (by omega) (by omega)).mpr q41; omega
              refine m_ldc2 F kc_X9_318 e_X9_chance_44 ?_
              exact m_lret F hQ e_X9_chance_47 (⟨(h1.mono (M' := M + 7560) (Z' := Z) (by omega) (by intro e; first | rfl | assumption | omega)), _, rfl⟩)
          · have c22 : n3195 > 2 := by have hh := mt (nI_leI (a := n3195) (b := 2) (by omega) (by omega)).mpr q22; omega
            refine m_ldc2 F kc_X9_149 e_X9_chance_25 ?_
            exact m_lret F hQ e_X9_chance_28 (⟨(h1.mono (M' := M + 7560) (Z' := Z) (by omega) (by intro e; first | rfl | assumption | omega)), _, rfl⟩)
set_option maxRecDepth 20000 in
theorem s_X9_undo (l : Launch) (V : VX) (b M Z T N : Nat) (σ : Mem) (a : Nat) (h0 : HT V (b, M, Z, T) σ) (hk : kA b a = 1) (hM : M + 0 ≤ 1000000000) : Ct l V yX9_undo cX9_undo 1 (some .int) 4 0 0 N σ [.ref a] (fun r τ => HK V (b, M, Z, T) [0, 2, 3, 4, 5, 8, 9, 16] σ τ ∧ ∃ x : Int32, r = some (.int x)) := by
  refine Ct.of (by decide) (Nat.le_of_ble_eq_true rfl) [(0, .ref a)] rfl (fun X hX F hQ => ?_)
  have h1 : HK V (b, M, Z, T) [0, 2, 3, 4, 5, 8, 9, 16] σ σ := HK.start h0
  refine m_aload_n F rfl e_X9_undo_0 ?_
  refine t_get F e_X9_undo_1 fl_X9_368 (fun _ => o1) h1 hk rfl (fun v hv f3223 => ?_)
  obtain ⟨n3224, hn3224, rfl⟩ := hv
  replace hn3224 : n3224 ≤ 20 := hn3224
  refine m_iconst F (v := 1) (by decide) e_X9_undo_4 ?_
  refine m_icmp_ge F e_X9_undo_5 (fun q5 => ?_) (fun q5 => ?_)
  · have c5 : n3224 ≥ 1 := (nI_leI (a := 1) (b := n3224) (by omega) (by omega)).mp q5
    refine m_aload_n F rfl e_X9_undo_10 ?_
    refine t_get F e_X9_undo_11 fl_X9_16 (fun _ => o1) h1 hk rfl (fun v hv f3225 => ?_)
    obtain ⟨r3226, k3227, rfl⟩ := hv
    refine m_aload_n F rfl e_X9_undo_14 ?_
    refine t_get F e_X9_undo_15 fl_X9_35 (fun _ => o1) h1 hk rfl (fun v hv f3228 => ?_)
    obtain ⟨r3229, k3230, rfl⟩ := hv
    refine m_aload_n F rfl e_X9_undo_18 ?_
    refine t_get F e_X9_undo_19 fl_X9_371 (fun _ => o1) h1 hk rfl (fun v hv f3231 => ?_)
    obtain ⟨n3232, hn3232, rfl⟩ := hv
    replace hn3232 : n3232 ≤ 19 := hn3232
    refine m_aload_n F rfl e_X9_undo_22 ?_
    refine t_getC F e_X9_undo_23 fl_X9_368 (fun _ => o1) h1 hk (f3223) ?_
    refine m_iadd F e_X9_undo_26 ?_
    refine Wm.topE (w := nI (n3232 + n3224)) (nI_add n3232 n3224) ?_
    refine m_iconst F (v := 1) (by decide) e_X9_undo_27 ?_
    refine m_isub F e_X9_undo_28 ?_
    refine Wm.topE (w := nI ((n3232 + n3224) - 1)) (pk_sub (a := n3232 + n3224) (b := 1) (by omega)) ?_
    refine m_bipush F (v := 20) (by decide) e_X9_undo_29 ?_
    refine m_irem F (by decide) e_X9_undo_31 ?_
    refine Wm.topE (w := nI (((n3232 + n3224) - 1) % 20)) (pk_rem (a := (n3232 + n3224) - 1) (d := 20) (by omega) (by decide) (by decide)) ?_
    refine t_aald F (len := 20) (j := ((n3232 + n3224) - 1) % 20) e_X9_undo_32 (fun _ => o5) rfl h1 k3230 (nI_clamp (by omega)) (vp_in_nI (by omega) (by decide)) (fun r3233 k3234 => ?_)
    refine t_callV F e_X9_undo_33 (s_X2_copyFrom (x_l X) V b M Z T _ _ r3226 r3233 h1.1 k3227 k3234 (by omega)) cb_X2_copyFrom ml_X9_374 im_X2_copyFrom se_X2_copyFrom (fun _ => o7) h1 k3227 rfl rfl (rest := []) rfl (Nat.le_of_ble_eq_true rfl) ⟨Nat.le_of_ble_eq_true rfl, Nat.le_of_ble_eq_true rfl⟩ ⟨Nat.le_of_ble_eq_true rfl, Nat.le_of_ble_eq_true rfl⟩ (fun r σ3235 hp => ?_)
    obtain ⟨h3237, rfl⟩ := hp
    have h3236 := HK.trans h1 h3237 (by decide)
    refine m_aload_n F rfl e_X9_undo_36 ?_
    refine m_dup F rfl e_X9_undo_37 ?_
    refine t_getC F e_X9_undo_38 fl_X9_368 (fun _ => o1) h3236 hk ((fld_eq (h3237.2 a (by rw [show kA _ a = 1 from hk]; decide))).trans f3223) ?_
    refine m_iconst F (v := 1) (by decide) e_X9_undo_41 ?_
    refine m_isub F e_X9_undo_42 ?_
    refine Wm.topE (w := nI (n3224 - 1)) (pk_sub (a := n3224) (b := 1) (by omega)) ?_
    refine t_put F e_X9_undo_43 fp_X9_368 (fun _ => o1) h3236 hk rfl ⟨n3224 - 1, (show n3224 - 1 ≤ 20 by omega), rfl⟩ rfl rfl (by decide) (fun σ3238 h3239 g3240 g3241 f3242 => ?_)
    refine m_aload_n F rfl e_X9_undo_46 ?_
    refine t_getC F e_X9_undo_47 fl_X9_368 (fun _ => o1) h3239 hk (f3242) ?_
    exact m_iret F hQ e_X9_undo_50 (⟨h3239, _, rfl⟩)
  · have c5 : n3224 < 1 := by have hh := mt (nI_leI (a := 1) (b := n3224) (by omega) (by omega)).mpr q5; omega
    refine m_iconst F (v := (-1)) (by decide) e_X9_undo_8 ?_
    exact m_iret F hQ e_X9_undo_9 (⟨h1, _, rfl⟩)
set_option maxRecDepth 20000 in
theorem s_X9_keep (l : Launch) (V : VX) (b M Z T N : Nat) (σ : Mem) (a : Nat) (h0 : HT V (b, M, Z, T) σ) (hk : kA b a = 1) (hM : M + 0 ≤ 1000000000) : Ct l V yX9_keep cX9_keep 1 (some .int) 4 0 0 N σ [.ref a] (fun r τ => HK V (b, M, Z, T) [0, 2, 3, 4, 5, 8, 9, 16] σ τ ∧ ∃ x : Int32, r = some (.int x)) := by
  refine Ct.of (by decide) (Nat.le_of_ble_eq_true rfl) [(0, .ref a)] rfl (fun X hX F hQ => ?_)
  have h1 : HK V (b, M, Z, T) [0, 2, 3, 4, 5, 8, 9, 16] σ σ := HK.start h0
  refine m_aload_n F rfl e_X9_keep_0 ?_
  refine t_get F e_X9_keep_1 fl_X9_32 (fun _ => o1) h1 hk rfl (fun v hv f3243 => ?_)
  obtain ⟨r3244, k3245, rfl⟩ := hv
  refine m_aload_n F rfl e_X9_keep_4 ?_
  refine t_get F e_X9_keep_5 fl_X9_16 (fun _ => o1) h1 hk rfl (fun v hv f3246 => ?_)
  obtain ⟨r3247, k3248, rfl⟩ := hv
  refine t_callV F e_X9_keep_8 (s_X2_copyFrom (x_l X) V b M Z T _ _ r3244 r3247 h1.1 k3245 k3248 (by omega)) cb_X2_copyFrom ml_X9_374 im_X2_copyFrom se_X2_copyFrom (fun _ => o7) h1 k3245 rfl rfl (rest := []) rfl (Nat.le_of_ble_eq_true rfl) ⟨Nat.le_of_ble_eq_true rfl, Nat.le_of_ble_eq_true rfl⟩ ⟨Nat.le_of_ble_eq_true rfl, Nat.le_of_ble_eq_true rfl⟩ (fun r σ3249 hp => ?_)
  obtain ⟨h3251, rfl⟩ := hp
  have h3250 := HK.trans h1 h3251 (by decide)
  refine m_aload_n F rfl e_X9_keep_11 ?_
  refine m_iconst F (v := 1) (by decide) e_X9_keep_12 ?_
  refine t_put F e_X9_keep_13 fp_X9_77 (fun _ => o1) h3250 hk rfl ⟨1, (show 1 ≤ 1 by omega), rfl⟩ (by decide) rfl (by decide) (fun σ3252 h3253 g3254 g3255 f3256 => ?_)
  refine m_aload_n F rfl e_X9_keep_16 ?_
  refine t_getC F e_X9_keep_17 fl_X9_16 (fun _ => o1) h3253 hk ((g3255 2 (by decide)).trans ((fld_eq (h3251.2 a (by rw [show kA _ a = 1 from hk]; decide))).trans f3246)) ?_
  refine t_get F e_X9_keep_20 fl_X9_94 (fun _ => o7) h3253 k3248 rfl (fun v hv f3257 => ?_)
  obtain ⟨n3258, hn3258, rfl⟩ := hv
  replace hn3258 : n3258 ≤ M := hn3258
  exact m_iret F hQ e_X9_keep_23 (⟨h3253, _, rfl⟩)
set_option maxRecDepth 20000 in
theorem s_X9_back (l : Launch) (V : VX) (b M Z T N : Nat) (σ : Mem) (a : Nat) (h0 : HT V (b, M, Z, T) σ) (hk : kA b a = 1) (hM : M + 0 ≤ 1000000000) : Ct l V yX9_back cX9_back 1 (some .int) 4 0 0 N σ [.ref a] (fun r τ => HK V (b, M, Z, T) [0, 2, 3, 4, 5, 8, 9, 16] σ τ ∧ ∃ x : Int32, r = some (.int x)) := by
  refine Ct.of (by decide) (Nat.le_of_ble_eq_true rfl) [(0, .ref a)] rfl (fun X hX F hQ => ?_)
  have h1 : HK V (b, M, Z, T) [0, 2, 3, 4, 5, 8, 9, 16] σ σ := HK.start h0
  refine m_aload_n F rfl e_X9_back_0 ?_
  refine t_get F e_X9_back_1 fl_X9_77 (fun _ => o1) h1 hk rfl (fun v hv f3259 => ?_)
  obtain ⟨n3260, hn3260, rfl⟩ := hv
  replace hn3260 : n3260 ≤ 1 := hn3260
  refine m_if_ne F e_X9_back_4 (fun q4 => ?_) (fun q4 => ?_)
  · have c4 : n3260 ≠ 0 := by have hh := mt (nI_eq (a := n3260) (b := 0) (by omega) (by omega)).mpr q4; omega
    refine m_aload_n F rfl e_X9_back_9 ?_
    refine t_get F e_X9_back_10 fl_X9_16 (fun _ => o1) h1 hk rfl (fun v hv f3261 => ?_)
    obtain ⟨r3262, k3263, rfl⟩ := hv
    refine m_aload_n F rfl e_X9_back_13 ?_
    refine t_get F e_X9_back_14 fl_X9_32 (fun _ => o1) h1 hk rfl (fun v hv f3264 => ?_)
    obtain ⟨r3265, k3266, rfl⟩ := hv
    refine t_callV F e_X9_back_17 (s_X2_copyFrom (x_l X) V b M Z T _ _ r3262 r3265 h1.1 k3263 k3266 (by omega)) cb_X2_copyFrom ml_X9_374 im_X2_copyFrom se_X2_copyFrom (fun _ => o7) h1 k3263 rfl rfl (rest := []) rfl (Nat.le_of_ble_eq_true rfl) ⟨Nat.le_of_ble_eq_true rfl, Nat.le_of_ble_eq_true rfl⟩ ⟨Nat.le_of_ble_eq_true rfl, Nat.le_of_ble_eq_true rfl⟩ (fun r σ3267 hp => ?_)
    obtain ⟨h3269, rfl⟩ := hp
    have h3268 := HK.trans h1 h3269 (by decide)
    refine m_aload_n F rfl e_X9_back_20 ?_
    refine t_callV F e_X9_back_21 (s_X9_forgetPast (x_l X) V b M Z T _ _ a  h3268.1 hk  (by omega)) cb_X9_forgetPast ml_X9_81 im_X9_forgetPast se_X9_forgetPast (fun _ => o1) h3268 hk rfl rfl (rest := []) rfl (Nat.le_of_ble_eq_true rfl) ⟨Nat.le_of_ble_eq_true rfl, Nat.le_of_ble_eq_true rfl⟩ ⟨Nat.le_of_ble_eq_true rfl, Nat.le_of_ble_eq_true rfl⟩ (fun r σ3270 hp => ?_)
    obtain ⟨h3272, rfl⟩ := hp
    have h3271 := HK.trans h3268 h3272 (by decide)
    refine m_aload_n F rfl e_X9_back_24 ?_
    refine t_get F e_X9_back_25 fl_X9_16 (fun _ => o1) h3271 hk rfl (fun v hv f3273 => ?_)
    obtain ⟨r3274, k3275, rfl⟩ := hv
    refine t_get F e_X9_back_28 fl_X9_94 (fun _ => o7) h3271 k3275 rfl (fun v hv f3276 => ?_)
    obtain ⟨n3277, hn3277, rfl⟩ := hv
    replace hn3277 : n3277 ≤ M := hn3277
    exact m_iret F hQ e_X9_back_31 (⟨h3271, _, rfl⟩)
  · have c4 : n3260 = 0 := (nI_eq (a := n3260) (b := 0) (by omega) (by omega)).mp q4
    refine m_iconst F (v := (-1)) (by decide) e_X9_back_7 ?_
    exact m_iret F hQ e_X9_back_8 (⟨h1, _, rfl⟩)
set_option maxRecDepth 20000 in
theorem s_X9_count (l : Launch) (V : VX) (b M Z T N : Nat) (σ : Mem) (a : Nat) (x901 : Int32) (h0 : HT V (b, M, Z, T) σ) (hk : kA b a = 1) (hM : M + 0 ≤ 1000000000) : Ct l V yX9_count cX9_count 2 (some .int) 2 0 0 N σ [.ref a, .int x901] (fun r τ => HK V (b, M, Z, T) [0, 1, 2, 3, 4, 5, 6, 7, 8, 9, 10, 11, 12, 13, 14, 15, 16, 17, 18, 19] σ τ ∧ ∃ x : Int32, r = some (.int x)) := by
  refine Ct.of (by decide) (Nat.le_of_ble_eq_true rfl) [(0, .ref a), (1, .int x901)] rfl (fun X hX F hQ => ?_)
  have h1 : HK V (b, M, Z, T) [0, 1, 2, 3, 4, 5, 6, 7, 8, 9, 10, 11, 12, 13, 14, 15, 16, 17, 18, 19] σ σ := HK.start h0
  refine m_iload_n F rfl e_X9_count_0 ?_
  by_cases ho1 : (x901 : Int32).toInt < 0 ∨ 7 < (x901 : Int32).toInt
  · refine m_tableOut F e_X9_count_1 ho1 (tgt := 112) (by decide) ?_
    refine m_iconst F (v := (-1)) (by decide) e_X9_count_112 ?_
    exact m_iret F hQ e_X9_count_113 (⟨h1, _, rfl⟩)
  have hs1 : (x901 : Int32).toInt = 0 ∨ (x901 : Int32).toInt = 1 ∨ (x901 : Int32).toInt = 2 ∨ (x901 : Int32).toInt = 3 ∨ (x901 : Int32).toInt = 4 ∨ (x901 : Int32).toInt = 5 ∨ (x901 : Int32).toInt = 6 ∨ (x901 : Int32).toInt = 7 := by omega
  rcases hs1 with hv | hv | hv | hv | hv | hv | hv | hv
  · refine m_tableIn F e_X9_count_1 (by omega) (by omega) (off := 47) (tgt := 48) (by rw [hv]; rfl) (by decide) ?_
    refine m_aload_n F rfl e_X9_count_48 ?_
    refine t_get F e_X9_count_49 fl_X9_16 (fun _ => o1) h1 hk rfl (fun v hv f3278 => ?_)
    obtain ⟨r3279, k3280, rfl⟩ := hv
    refine t_get F e_X9_count_52 fl_X9_358 (fun _ => o7) h1 k3280 rfl (fun v hv f3281 => ?_)
    obtain ⟨n3282, hn3282, rfl⟩ := hv
    replace hn3282 : n3282 ≤ 4 := hn3282
    exact m_iret F hQ e_X9_count_55 (⟨h1, _, rfl⟩)
  · refine m_tableIn F e_X9_count_1 (by omega) (by omega) (off := 55) (tgt := 56) (by rw [hv]; rfl) (by decide) ?_
    refine m_aload_n F rfl e_X9_count_56 ?_
    refine t_get F e_X9_count_57 fl_X9_16 (fun _ => o1) h1 hk rfl (fun v hv f3283 => ?_)
    obtain ⟨r3284, k3285, rfl⟩ := hv
    refine t_get F e_X9_count_60 fl_X9_377 (fun _ => o7) h1 k3285 rfl (fun v hv f3286 => ?_)
    obtain ⟨n3287, hn3287, rfl⟩ := hv
    replace hn3287 : n3287 ≤ 4 := hn3287
    exact m_iret F hQ e_X9_count_63 (⟨h1, _, rfl⟩)
  · refine m_tableIn F e_X9_count_1 (by omega) (by omega) (off := 63) (tgt := 64) (by rw [hv]; rfl) (by decide) ?_
    refine m_aload_n F rfl e_X9_count_64 ?_
    refine t_get F e_X9_count_65 fl_X9_16 (fun _ => o1) h1 hk rfl (fun v hv f3288 => ?_)
    obtain ⟨r3289, k3290, rfl⟩ := hv
    refine t_get F e_X9_count_68 fl_X9_94 (fun _ => o7) h1 k3290 rfl (fun v hv f3291 => ?_)
    obtain ⟨n3292, hn3292, rfl⟩ := hv
    replace hn3292 : n3292 ≤ M := hn3292
    exact m_iret F hQ e_X9_count_71 (⟨h1, _, rfl⟩)
  · refine m_tableIn F e_X9_count_1 (by omega) (by omega) (off := 71) (tgt := 72) (by rw [hv]; rfl) (by decide) ?_
    refine m_aload_n F rfl e_X9_count_72 ?_
    refine t_get F e_X9_count_73 fl_X9_16 (fun _ => o1) h1 hk rfl (fun v hv f3293 => ?_)
    obtain ⟨r3294, k3295, rfl⟩ := hv
    refine t_get F e_X9_count_76 fl_X9_186 (fun _ => o7) h1 k3295 rfl (fun v hv f3296 => ?_)
    obtain rfl : v = .ref (r3294 + 5) := hv
    obtain ⟨v9, ⟨n3297, hn3297, rfl⟩, f3298⟩ := HK.f (j := 2) h1 (fun _ => o12) (kA_7 k3295 (r := 5) (by decide)) rfl
    replace hn3297 : n3297 ≤ M := hn3297
    refine t_callV F e_X9_count_79 (s_X3_kept (x_l X) V b M Z T _ _ (r3294 + 5) n3297 h1.1 (kA_7 k3295 (r := 5) (by decide)) (f3298) (by omega) (by omega)) cb_X3_kept ml_X9_196 im_X3_kept se_X3_kept (fun _ => o12) h1 (kA_7 k3295 (r := 5) (by decide)) rfl rfl (rest := []) rfl (Nat.le_of_ble_eq_true rfl) ⟨Nat.le_of_ble_eq_true rfl, Nat.le_of_ble_eq_true rfl⟩ ⟨Nat.le_of_ble_eq_true rfl, Nat.le_of_ble_eq_true rfl⟩ (fun r σ3299 hp => ?_)
    obtain ⟨h3301, n3302, hn3302, gn3302, rfl⟩ := hp
    have h3300 := HK.trans h1 h3301 (by decide)
    exact m_iret F hQ e_X9_count_82 (⟨h3300, _, rfl⟩)
  · refine m_tableIn F e_X9_count_1 (by omega) (by omega) (off := 82) (tgt := 83) (by rw [hv]; rfl) (by decide) ?_
    refine m_aload_n F rfl e_X9_count_83 ?_
    refine t_get F e_X9_count_84 fl_X9_16 (fun _ => o1) h1 hk rfl (fun v hv f3303 => ?_)
    obtain ⟨r3304, k3305, rfl⟩ := hv
    refine t_get F e_X9_count_87 fl_X9_186 (fun _ => o7) h1 k3305 rfl (fun v hv f3306 => ?_)
    obtain rfl : v = .ref (r3304 + 5) := hv
    refine t_get F e_X9_count_90 fl_X9_380 (fun _ => o12) h1 (kA_7 k3305 (r := 5) (by decide)) rfl (fun v hv f3307 => ?_)
    obtain ⟨n3308, hn3308, rfl⟩ := hv
    replace hn3308 : n3308 ≤ M := hn3308
    exact m_iret F hQ e_X9_count_93 (⟨h1, _, rfl⟩)
  · refine m_tableIn F e_X9_count_1 (by omega) (by omega) (off := 93) (tgt := 94) (by rw [hv]; rfl) (by decide) ?_
    refine m_aload_n F rfl e_X9_count_94 ?_
    refine t_get F e_X9_count_95 fl_X9_16 (fun _ => o1) h1 hk rfl (fun v hv f3309 => ?_)
    obtain ⟨r3310, k3311, rfl⟩ := hv
    refine t_callV F e_X9_count_98 (s_X2_runningLeases (x_l X) V b M Z T _ _ r3310  h1.1 k3311  (by omega)) cb_X2_runningLeases ml_X9_383 im_X2_runningLeases se_X2_runningLeases (fun _ => o7) h1 k3311 rfl rfl (rest := []) rfl (Nat.le_of_ble_eq_true rfl) ⟨Nat.le_of_ble_eq_true rfl, Nat.le_of_ble_eq_true rfl⟩ ⟨Nat.le_of_ble_eq_true rfl, Nat.le_of_ble_eq_true rfl⟩ (fun r σ3312 hp => ?_)
    obtain ⟨h3314, x3315, rfl⟩ := hp
    have h3313 := HK.trans h1 h3314 (by decide)
    exact m_iret F hQ e_X9_count_101 (⟨h3313, _, rfl⟩)
  · refine m_tableIn F e_X9_count_1 (by omega) (by omega) (off := 101) (tgt := 102) (by rw [hv]; rfl) (by decide) ?_
    refine m_aload_n F rfl e_X9_count_102 ?_
    refine t_get F e_X9_count_103 fl_X9_368 (fun _ => o1) h1 hk rfl (fun v hv f3316 => ?_)
    obtain ⟨n3317, hn3317, rfl⟩ := hv
    replace hn3317 : n3317 ≤ 20 := hn3317
    exact m_iret F hQ e_X9_count_106 (⟨h1, _, rfl⟩)
  · refine m_tableIn F e_X9_count_1 (by omega) (by omega) (off := 106) (tgt := 107) (by rw [hv]; rfl) (by decide) ?_
    refine m_aload_n F rfl e_X9_count_107 ?_
    refine t_get F e_X9_count_108 fl_X9_52 (fun _ => o1) h1 hk rfl (fun v hv f3318 => ?_)
    obtain rfl : v = .int (nI (T)) := hv
    exact m_iret F hQ e_X9_count_111 (⟨h1, _, rfl⟩)
set_option maxRecDepth 20000 in
theorem s_X9_fault (l : Launch) (V : VX) (b M Z T N : Nat) (σ : Mem) (a : Nat) (x901 : Int32) (h0 : HT V (b, M, Z, T) σ) (hk : kA b a = 1) (hM : M + 0 ≤ 1000000000) : Ct l V yX9_fault cX9_fault 2 (some .int) 0 0 0 N σ [.ref a, .int x901] (fun r τ => HK V (b, M, Z, T) [0, 1, 2, 3, 4, 5, 6, 7, 8, 9, 10, 11, 12, 13, 14, 15, 16, 17, 18, 19] σ τ ∧ ∃ x : Int32, r = some (.int x)) := by
  refine Ct.of (by decide) (Nat.le_of_ble_eq_true rfl) [(0, .ref a), (1, .int x901)] rfl (fun X hX F hQ => ?_)
  have h1 : HK V (b, M, Z, T) [0, 1, 2, 3, 4, 5, 6, 7, 8, 9, 10, 11, 12, 13, 14, 15, 16, 17, 18, 19] σ σ := HK.start h0
  refine m_iload_n F rfl e_X9_fault_0 ?_
  by_cases hx0 : (x901 : Int32) = 0
  · refine m_lookup F e_X9_fault_1 (by decide) (off := 27) (by rw [hx0]; decide) (tgt := 28) (by decide) ?_
    refine m_aload_n F rfl e_X9_fault_28 ?_
    refine t_get F e_X9_fault_29 fl_X9_28 (fun _ => o1) h1 hk rfl (fun v hv f3319 => ?_)
    obtain ⟨r3320, k3321, rfl⟩ := hv
    refine t_get F e_X9_fault_32 fl_X9_70 (fun _ => o3) h1 k3321 rfl (fun v hv f3322 => ?_)
    obtain ⟨x3323, hx3323, rfl⟩ := hv
    replace hx3323 : Z = 0 → x3323 ≠ 0 := hx3323
    exact m_iret F hQ e_X9_fault_35 (⟨h1, _, rfl⟩)
  by_cases hx1 : (x901 : Int32) = 1
  · refine m_lookup F e_X9_fault_1 (by decide) (off := 35) (by rw [hx1]; decide) (tgt := 36) (by decide) ?_
    refine m_aload_n F rfl e_X9_fault_36 ?_
    refine t_get F e_X9_fault_37 fl_X9_28 (fun _ => o1) h1 hk rfl (fun v hv f3324 => ?_)
    obtain ⟨r3325, k3326, rfl⟩ := hv
    refine t_get F e_X9_fault_40 fl_X9_87 (fun _ => o3) h1 k3326 rfl (fun v hv f3327 => ?_)
    obtain ⟨x3328, rfl⟩ := hv
    exact m_iret F hQ e_X9_fault_43 (⟨h1, _, rfl⟩)
  refine m_lookup F e_X9_fault_1 (by decide) (off := 43) ((lv_osw hx0 (by decide)).trans ((lv_osw hx1 (by decide)).trans (rfl))) (tgt := 44) (by decide) ?_
  refine m_iconst F (v := (-1)) (by decide) e_X9_fault_44 ?_
  exact m_iret F hQ e_X9_fault_45 (⟨h1, _, rfl⟩)
set_option maxRecDepth 20000 in
theorem s_X9_putOnTape (l : Launch) (V : VX) (b M Z T N : Nat) (σ : Mem) (a : Nat) (x901 : Int32) (h0 : HT V (b, M, Z, T) σ) (hk : kA b a = 1) (hp0 : T ≤ 696) (hM : M + 0 ≤ 1000000000) : Ct l V yX9_putOnTape cX9_putOnTape 3 none 0 0 0 N σ [.ref a, .int x901] (fun r τ => HK V (b, M, Z, T + 4) [0, 3, 4, 5, 6, 7, 8, 9, 10, 11, 12, 13, 14, 15, 16, 17, 18, 19] σ τ ∧ r = none) := by
  refine Ct.of (by decide) (Nat.le_of_ble_eq_true rfl) [(0, .ref a), (1, .int x901)] rfl (fun X hX F hQ => ?_)
  have h1 : HK V (b, M, Z, T) [0, 3, 4, 5, 6, 7, 8, 9, 10, 11, 12, 13, 14, 15, 16, 17, 18, 19] σ σ := HK.start h0
  refine m_bipush F (v := 24) (by decide) e_X9_putOnTape_0 ?_
  refine m_istore_n F (lv' := [(2, .int 24), (0, .ref a), (1, .int x901)]) e_X9_putOnTape_2 (by decide) rfl ?_
  refine m_iload_n F rfl e_X9_putOnTape_3 ?_
  refine m_if_lt F e_X9_putOnTape_4 (fun q => absurd q (by decide)) (fun _ => ?_)
  refine m_aload_n F rfl e_X9_putOnTape_7 ?_
  refine t_get F e_X9_putOnTape_8 fl_X9_52 (fun _ => o1) h1 hk rfl (fun v hv f3329 => ?_)
  obtain rfl : v = .int (nI (T)) := hv
  refine m_sipush F (v := 700) (by decide) e_X9_putOnTape_11 ?_
  refine m_icmp_ge F e_X9_putOnTape_14 (fun q14 => ?_) (fun q14 => ?_)
  · have c14 : T ≥ 700 := (nI_leI (a := 700) (b := T) (by omega) (by omega)).mp q14
    exfalso; omega
  · have c14 : T < 700 := by have hh := mt (nI_leI (a := 700) (b := T) (by omega) (by omega)).mpr q14; omega
    refine m_aload_n F rfl e_X9_putOnTape_17 ?_
    refine t_get F e_X9_putOnTape_18 fl_X9_9 (fun _ => o1) h1 hk rfl (fun v hv f3330 => ?_)
    obtain ⟨r3331, k3332, rfl⟩ := hv
    refine m_aload_n F rfl e_X9_putOnTape_21 ?_
    refine t_getC F e_X9_putOnTape_22 fl_X9_52 (fun _ => o1) h1 hk (f3329) ?_
    refine m_iload_n F rfl e_X9_putOnTape_25 ?_
    refine m_iload_n F rfl e_X9_putOnTape_26 ?_
    refine m_ishr F e_X9_putOnTape_27 ?_
    refine Wm.top (fun x3333 _ => ?_)
    refine m_i2b F e_X9_putOnTape_28 ?_
    refine t_bast F (len := 700) (j := T) e_X9_putOnTape_29 (fun _ => o2) h1 k3332 (nI_clamp (by omega)) (vp_in_nI (by omega) (by decide)) (pk_nb x3333) (by decide) (fun σ3334 h3335 g3336 => ?_)
    refine m_aload_n F rfl e_X9_putOnTape_30 ?_
    refine m_dup F rfl e_X9_putOnTape_31 ?_
    refine t_getC F e_X9_putOnTape_32 fl_X9_52 (fun _ => o1) h3335 hk ((g3336 a 1 (fun e => absurd ((hk).symm.trans e) (by decide))).trans f3329) ?_
    refine m_iconst F (v := 1) (by decide) e_X9_putOnTape_35 ?_
    refine m_iadd F e_X9_putOnTape_36 ?_
    refine Wm.topE (w := nI (T + 1)) (nI_add T 1) ?_
    refine t_putT F (T' := T + 1) e_X9_putOnTape_37 fp_X9_52 h3335 hk (by decide) (fun σ3337 h3338 g3339 g3340 f3341 => ?_)
    refine m_iinc F (v := 16) (lv' := [(2, .int 16), (0, .ref a), (1, .int x901)]) e_X9_putOnTape_40 rfl (by decide) (by decide) rfl ?_
    refine m_goto F e_X9_putOnTape_43 ?_
    refine m_iload_n F rfl e_X9_putOnTape_3 ?_
    refine m_if_lt F e_X9_putOnTape_4 (fun q => absurd q (by decide)) (fun _ => ?_)
    refine m_aload_n F rfl e_X9_putOnTape_7 ?_
    refine t_getC F e_X9_putOnTape_8 fl_X9_52 (fun _ => o1) h3338 hk (f3341) ?_
    refine m_sipush F (v := 700) (by decide) e_X9_putOnTape_11 ?_
    refine m_icmp_ge F e_X9_putOnTape_14 (fun q14 => ?_) (fun q14 => ?_)
    · have c14 : (T + 1) ≥ 700 := (nI_leI (a := 700) (b := (T + 1)) (by omega) (by omega)).mp q14
      exfalso; omega
    · have c14 : (T + 1) < 700 := by have hh := mt (nI_leI (a := 700) (b := (T + 1)) (by omega) (by omega)).mpr q14; omega
      refine m_aload_n F rfl e_X9_putOnTape_17 ?_
      refine t_getC F e_X9_putOnTape_18 fl_X9_9 (fun _ => o1) h3338 hk ((g3340 0 (by decide)).trans ((g3336 a 0 (fun e => absurd ((hk).symm.trans e) (by decide))).trans f3330)) ?_
      refine m_aload_n F rfl e_X9_putOnTape_21 ?_
      refine t_getC F e_X9_putOnTape_22 fl_X9_52 (fun _ => o1) h3338 hk (f3341) ?_
      refine m_iload_n F rfl e_X9_putOnTape_25 ?_
      refine m_iload_n F rfl e_X9_putOnTape_26 ?_
      refine m_ishr F e_X9_putOnTape_27 ?_
      refine Wm.top (fun x3342 _ => ?_)
      refine m_i2b F e_X9_putOnTape_28 ?_
      refine t_bast F (len := 700) (j := T + 1) e_X9_putOnTape_29 (fun _ => o2) h3338 k3332 (nI_clamp (by omega)) (vp_in_nI (by omega) (by decide)) (pk_nb x3342) (by decide) (fun σ3343 h3344 g3345 => ?_)
      refine m_aload_n F rfl e_X9_putOnTape_30 ?_
      refine m_dup F rfl e_X9_putOnTape_31 ?_
      refine t_getC F e_X9_putOnTape_32 fl_X9_52 (fun _ => o1) h3344 hk ((g3345 a 1 (fun e => absurd ((hk).symm.trans e) (by decide))).trans f3341) ?_
      refine m_iconst F (v := 1) (by decide) e_X9_putOnTape_35 ?_
      refine m_iadd F e_X9_putOnTape_36 ?_
      refine Wm.topE (w := nI (T + 2)) (nI_add (T + 1) 1) ?_
      refine t_putT F (T' := T + 2) e_X9_putOnTape_37 fp_X9_52 h3344 hk (by decide) (fun σ3346 h3347 g3348 g3349 f3350 => ?_)
      refine m_iinc F (v := 8) (lv' := [(2, .int 8), (0, .ref a), (1, .int x901)]) e_X9_putOnTape_40 rfl (by decide) (by decide) rfl ?_
      refine m_goto F e_X9_putOnTape_43 ?_
      refine m_iload_n F rfl e_X9_putOnTape_3 ?_
      refine m_if_lt F e_X9_putOnTape_4 (fun q => absurd q (by decide)) (fun _ => ?_)
      refine m_aload_n F rfl e_X9_putOnTape_7 ?_
      refine t_getC F e_X9_putOnTape_8 fl_X9_52 (fun _ => o1) h3347 hk (f3350) ?_
      refine m_sipush F (v := 700) (by decide) e_X9_putOnTape_11 ?_
      refine m_icmp_ge F e_X9_putOnTape_14 (fun q14 => ?_) (fun q14 => ?_)
      · have c14 : (T + 2) ≥ 700 := (nI_leI (a := 700) (b := (T + 2)) (by omega) (by omega)).mp q14
        exfalso; omega
      · have c14 : (T + 2) < 700 := by have hh := mt (nI_leI (a := 700) (b := (T + 2)) (by omega) (by omega)).mpr q14; omega
        refine m_aload_n F rfl e_X9_putOnTape_17 ?_
        refine t_getC F e_X9_putOnTape_18 fl_X9_9 (fun _ => o1) h3347 hk ((g3349 0 (by decide)).trans ((g3345 a 0 (fun e => absurd ((hk).symm.trans e) (by decide))).trans ((g3340 0 (by decide)).trans ((g3336 a 0 (fun e => absurd ((hk).symm.trans e) (by decide))).trans f3330)))) ?_
        refine m_aload_n F rfl e_X9_putOnTape_21 ?_
        refine t_getC F e_X9_putOnTape_22 fl_X9_52 (fun _ => o1) h3347 hk (f3350) ?_
        refine m_iload_n F rfl e_X9_putOnTape_25 ?_
        refine m_iload_n F rfl e_X9_putOnTape_26 ?_
        refine m_ishr F e_X9_putOnTape_27 ?_
        refine Wm.top (fun x3351 _ => ?_)
        refine m_i2b F e_X9_putOnTape_28 ?_
        refine t_bast F (len := 700) (j := T + 2) e_X9_putOnTape_29 (fun _ => o2) h3347 k3332 (nI_clamp (by omega)) (vp_in_nI (by omega) (by decide)) (pk_nb x3351) (by decide) (fun σ3352 h3353 g3354 => ?_)
        refine m_aload_n F rfl e_X9_putOnTape_30 ?_
        refine m_dup F rfl e_X9_putOnTape_31 ?_
        refine t_getC F e_X9_putOnTape_32 fl_X9_52 (fun _ => o1) h3353 hk ((g3354 a 1 (fun e => absurd ((hk).symm.trans e) (by decide))).trans f3350) ?_
        refine m_iconst F (v := 1) (by decide) e_X9_putOnTape_35 ?_
        refine m_iadd F e_X9_putOnTape_36 ?_
        refine Wm.topE (w := nI (T + 3)) (nI_add (T + 2) 1) ?_
        refine t_putT F (T' := T + 3) e_X9_putOnTape_37 fp_X9_52 h3353 hk (by decide) (fun σ3355 h3356 g3357 g3358 f3359 => ?_)
        refine m_iinc F (v := 0) (lv' := [(2, .int 0), (0, .ref a), (1, .int x901)]) e_X9_putOnTape_40 rfl (by decide) (by decide) rfl ?_
        refine m_goto F e_X9_putOnTape_43 ?_
        refine m_iload_n F rfl e_X9_putOnTape_3 ?_
        refine m_if_lt F e_X9_putOnTape_4 (fun q => absurd q (by decide)) (fun _ => ?_)
        refine m_aload_n F rfl e_X9_putOnTape_7 ?_
        refine t_getC F e_X9_putOnTape_8 fl_X9_52 (fun _ => o1) h3356 hk (f3359) ?_
        refine m_sipush F (v := 700) (by decide) e_X9_putOnTape_11 ?_
        refine m_icmp_ge F e_X9_putOnTape_14 (fun q14 => ?_) (fun q14 => ?_)
        · have c14 : (T + 3) ≥ 700 := (nI_leI (a := 700) (b := (T + 3)) (by omega) (by omega)).mp q14
          exfalso; omega
        · have c14 : (T + 3) < 700 := by have hh := mt (nI_leI (a := 700) (b := (T + 3)) (by omega) (by omega)).mpr q14; omega
          refine m_aload_n F rfl e_X9_putOnTape_17 ?_
          refine t_getC F e_X9_putOnTape_18 fl_X9_9 (fun _ => o1) h3356 hk ((g3358 0 (by decide)).trans ((g3354 a 0 (fun e => absurd ((hk).symm.trans e) (by decide))).trans ((g3349 0 (by decide)).trans ((g3345 a 0 (fun e => absurd ((hk).symm.trans e) (by decide))).trans ((g3340 0 (by decide)).trans ((g3336 a 0 (fun e => absurd ((hk).symm.trans e) (by decide))).trans f3330)))))) ?_
          refine m_aload_n F rfl e_X9_putOnTape_21 ?_
          refine t_getC F e_X9_putOnTape_22 fl_X9_52 (fun _ => o1) h3356 hk (f3359) ?_
          refine m_iload_n F rfl e_X9_putOnTape_25 ?_
          refine m_iload_n F rfl e_X9_putOnTape_26 ?_
          refine m_ishr F e_X9_putOnTape_27 ?_
          refine Wm.top (fun x3360 _ => ?_)
          refine m_i2b F e_X9_putOnTape_28 ?_
          refine t_bast F (len := 700) (j := T + 3) e_X9_putOnTape_29 (fun _ => o2) h3356 k3332 (nI_clamp (by omega)) (vp_in_nI (by omega) (by decide)) (pk_nb x3360) (by decide) (fun σ3361 h3362 g3363 => ?_)
          refine m_aload_n F rfl e_X9_putOnTape_30 ?_
          refine m_dup F rfl e_X9_putOnTape_31 ?_
          refine t_getC F e_X9_putOnTape_32 fl_X9_52 (fun _ => o1) h3362 hk ((g3363 a 1 (fun e => absurd ((hk).symm.trans e) (by decide))).trans f3359) ?_
          refine m_iconst F (v := 1) (by decide) e_X9_putOnTape_35 ?_
          refine m_iadd F e_X9_putOnTape_36 ?_
          refine Wm.topE (w := nI (T + 4)) (nI_add (T + 3) 1) ?_
          refine t_putT F (T' := T + 4) e_X9_putOnTape_37 fp_X9_52 h3362 hk (by decide) (fun σ3364 h3365 g3366 g3367 f3368 => ?_)
          refine m_iinc F (v := (-8)) (lv' := [(2, .int (-8)), (0, .ref a), (1, .int x901)]) e_X9_putOnTape_40 rfl (by decide) (by decide) rfl ?_
          refine m_goto F e_X9_putOnTape_43 ?_
          refine m_iload_n F rfl e_X9_putOnTape_3 ?_
          refine m_if_lt F e_X9_putOnTape_4 (fun _ => ?_) (fun q => absurd (by decide) q)
          exact m_vret F hQ e_X9_putOnTape_46 (⟨h3365, rfl⟩)
set_option maxRecDepth 20000 in
theorem s_X9_feed (l : Launch) (V : VX) (b M Z T N : Nat) (σ : Mem) (a : Nat) (x901 : Int32) (x902 : Int32) (x903 : Int32) (x904 : Int32) (x905 : Int32) (h0 : HT V (b, M, Z, T) σ) (hk : kA b a = 1) (hp0 : T ≤ 700) (hM : M + 0 ≤ 1000000000) : Ct l V yX9_feed cX9_feed 6 (some .int) 1 0 0 N σ [.ref a, .int x901, .int x902, .int x903, .int x904, .int x905] (fun r τ => (700 < T + 20 ∧ HK V (b, M, Z, T) [0, 3, 4, 5, 6, 7, 8, 9, 10, 11, 12, 13, 14, 15, 16, 17, 18, 19] σ τ ∧ r = some (.int (-1))) ∨ (T + 20 ≤ 700 ∧ HK V (b, M, Z, T + 20) [0, 3, 4, 5, 6, 7, 8, 9, 10, 11, 12, 13, 14, 15, 16, 17, 18, 19] σ τ ∧ r = some (.int (nI (T + 20))))) := by
  refine Ct.of (by decide) (Nat.le_of_ble_eq_true rfl) [(0, .ref a), (1, .int x901), (2, .int x902), (3, .int x903), (4, .int x904), (5, .int x905)] rfl (fun X hX F hQ => ?_)
  have h1 : HK V (b, M, Z, T) [0, 3, 4, 5, 6, 7, 8, 9, 10, 11, 12, 13, 14, 15, 16, 17, 18, 19] σ σ := HK.start h0
  refine m_aload_n F rfl e_X9_feed_0 ?_
  refine t_get F e_X9_feed_1 fl_X9_52 (fun _ => o1) h1 hk rfl (fun v hv f3369 => ?_)
  obtain rfl : v = .int (nI (T)) := hv
  refine m_bipush F (v := 20) (by decide) e_X9_feed_4 ?_
  refine m_iadd F e_X9_feed_6 ?_
  refine Wm.topE (w := nI (T + 20)) (nI_add T 20) ?_
  refine m_sipush F (v := 700) (by decide) e_X9_feed_7 ?_
  refine m_icmp_le F e_X9_feed_10 (fun q10 => ?_) (fun q10 => ?_)
  · have c10 : (T + 20) ≤ 700 := (nI_leI (a := (T + 20)) (b := 700) (by omega) (by omega)).mp q10
    refine m_aload_n F rfl e_X9_feed_15 ?_
    refine m_iload_n F rfl e_X9_feed_16 ?_
    refine t_callV F e_X9_feed_17 (s_X9_putOnTape (x_l X) V b M Z T _ _ a x901 h1.1 hk (by first | omega | assumption | decide) (by omega)) cb_X9_putOnTape ml_X9_56 im_X9_putOnTape se_X9_putOnTape (fun _ => o1) h1 hk rfl rfl (rest := []) rfl (Nat.le_of_ble_eq_true rfl) ⟨Nat.le_of_ble_eq_true rfl, Nat.le_of_ble_eq_true rfl⟩ ⟨Nat.le_of_ble_eq_true rfl, Nat.le_of_ble_eq_true rfl⟩ (fun r σ3370 hp => ?_)
    obtain ⟨h3372, rfl⟩ := hp
    have h3371 := HK.trans h1 h3372 (by decide)
    refine m_aload_n F rfl e_X9_feed_20 ?_
    refine m_iload_n F rfl e_X9_feed_21 ?_
    refine t_callV F e_X9_feed_22 (s_X9_putOnTape (x_l X) V b M Z (T + 4) _ _ a x902 h3371.1 hk (by first | omega | assumption | decide) (by omega)) cb_X9_putOnTape ml_X9_56 im_X9_putOnTape se_X9_putOnTape (fun _ => o1) h3371 hk rfl rfl (rest := []) rfl (Nat.le_of_ble_eq_true rfl) ⟨Nat.le_of_ble_eq_true rfl, Nat.le_of_ble_eq_true rfl⟩ ⟨Nat.le_of_ble_eq_true rfl, Nat.le_of_ble_eq_true rfl⟩ (fun r σ3373 hp => ?_)
    obtain ⟨h3375, rfl⟩ := hp
    have h3374 := HK.trans h3371 h3375 (by decide)
    refine m_aload_n F rfl e_X9_feed_25 ?_
    refine m_iload_n F rfl e_X9_feed_26 ?_
    refine t_callV F e_X9_feed_27 (s_X9_putOnTape (x_l X) V b M Z (T + 8) _ _ a x903 h3374.1 hk (by first | omega | assumption | decide) (by omega)) cb_X9_putOnTape ml_X9_56 im_X9_putOnTape se_X9_putOnTape (fun _ => o1) h3374 hk rfl rfl (rest := []) rfl (Nat.le_of_ble_eq_true rfl) ⟨Nat.le_of_ble_eq_true rfl, Nat.le_of_ble_eq_true rfl⟩ ⟨Nat.le_of_ble_eq_true rfl, Nat.le_of_ble_eq_true rfl⟩ (fun r σ3376 hp => ?_)
    obtain ⟨h3378, rfl⟩ := hp
    have h3377 := HK.trans h3374 h3378 (by decide)
    refine m_aload_n F rfl e_X9_feed_30 ?_
    refine m_iload F rfl e_X9_feed_31 ?_
    refine t_callV F e_X9_feed_33 (s_X9_putOnTape (x_l X) V b M Z (T + 12) _ _ a x904 h3377.1 hk (by first | omega | assumption | decide) (by omega)) cb_X9_putOnTape ml_X9_56 im_X9_putOnTape se_X9_putOnTape (fun _ => o1) h3377 hk rfl rfl (rest := []) rfl (Nat.le_of_ble_eq_true rfl) ⟨Nat.le_of_ble_eq_true rfl, Nat.le_of_ble_eq_true rfl⟩ ⟨Nat.le_of_ble_eq_true rfl, Nat.le_of_ble_eq_true rfl⟩ (fun r σ3379 hp => ?_)
    obtain ⟨h3381, rfl⟩ := hp
    have h3380 := HK.trans h3377 h3381 (by decide)
    refine m_aload_n F rfl e_X9_feed_36 ?_
    refine m_iload F rfl e_X9_feed_37 ?_
    refine t_callV F e_X9_feed_39 (s_X9_putOnTape (x_l X) V b M Z (T + 16) _ _ a x905 h3380.1 hk (by first | omega | assumption | decide) (by omega)) cb_X9_putOnTape ml_X9_56 im_X9_putOnTape se_X9_putOnTape (fun _ => o1) h3380 hk rfl rfl (rest := []) rfl (Nat.le_of_ble_eq_true rfl) ⟨Nat.le_of_ble_eq_true rfl, Nat.le_of_ble_eq_true rfl⟩ ⟨Nat.le_of_ble_eq_true rfl, Nat.le_of_ble_eq_true rfl⟩ (fun r σ3382 hp => ?_)
    obtain ⟨h3384, rfl⟩ := hp
    have h3383 := HK.trans h3380 h3384 (by decide)
    refine m_aload_n F rfl e_X9_feed_42 ?_
    refine t_get F e_X9_feed_43 fl_X9_52 (fun _ => o1) h3383 hk rfl (fun v hv f3385 => ?_)
    obtain rfl : v = .int (nI (T + 20)) := hv
    exact m_iret F hQ e_X9_feed_46 (Or.inr ⟨by omega, h3383, rfl⟩)
  · have c10 : (T + 20) > 700 := by have hh := mt (nI_leI (a := (T + 20)) (b := 700) (by omega) (by omega)).mpr q10; omega
    refine m_iconst F (v := (-1)) (by decide) e_X9_feed_13 ?_
    exact m_iret F hQ e_X9_feed_14 (Or.inl ⟨by omega, h1, rfl⟩)
