set_option maxRecDepth 20000 in
theorem lp_X9_sum_38 {V : VX} {G : GH} {X : MX} {b M Z T N : Nat} {σ : Mem} {a : Nat}   (F : Fx V X yX9_sum cX9_sum 7 (some .long) (rmd 3 0 0)) (hQ : Rt V X 0 0 N (fun r τ => HK V G (b, M, Z, T) [0, 1, 2, 3, 4, 5, 6, 7, 8, 9, 10, 11, 12, 13, 14, 15, 16, 17, 18, 19] σ τ ∧ ∃ x : Int64, r = some (.long x))) (hk : kA b a = 1) (hG : okG G) (hM : M + 0 ≤ 1000000000)  : ∀ (fuel : Nat) (i : Nat) (c : Nat) (u1 : Int64) (p : Nat) (u2 : Int32) (τ : Mem), HK V G (b, M, Z, T) [0, 1, 2, 3, 4, 5, 6, 7, 8, 9, 10, 11, 12, 13, 14, 15, 16, 17, 18, 19] σ τ → i ≤ 40 ∧ c ≤ 40 ∧ p ≤ 5 → 40 - i < fuel → Wm V X 7 N τ 0 0 38 [(6, .int (nI i)), (5, .int (nI c)), (3, .long u1), (0, .ref a), (1, .int (nI p)), (2, .int u2)] [] := by
  intro fuel
  induction fuel with
  | zero => intro i c u1 p u2 τ h1 hi hm; exact absurd hm (Nat.not_lt_zero _)
  | succ fuel ih =>
    intro i c u1 p u2 τ h1 hi hm
    refine m_iload F rfl e_X9_sum_38 ?_
    refine m_iload F rfl e_X9_sum_40 ?_
    refine m_icmp_ge F e_X9_sum_42 (fun q42 => ?_) (fun q42 => ?_)
    · have c42 : i ≥ c := (nI_leI (a := c) (b := i) (by omega) (by omega)).mp q42
      refine m_lload_n F rfl e_X9_sum_88 ?_
      exact m_lret F hQ e_X9_sum_89 (⟨h1, _, rfl⟩)
    · have c42 : i < c := by have hh := mt (nI_leI (a := c) (b := i) (by omega) (by omega)).mpr q42; omega
      refine m_aload_n F rfl e_X9_sum_45 ?_
      refine t_get F e_X9_sum_46 fl_X9_16 (fun _ => o1) h1 hk rfl (fun v hv f2644 => ?_)
      obtain ⟨r2645, ⟨k2646, er2645⟩, rfl⟩ := hv
      replace er2645 : r2645 = b + 2 + 63 * G.bk := er2645
      refine t_get F e_X9_sum_49 fl_X9_186 (fun _ => o7) h1 k2646 rfl (fun v hv f2647 => ?_)
      obtain rfl : v = .ref (r2645 + 5) := hv
      refine m_iload F rfl e_X9_sum_52 ?_
      refine m_iconst F (v := 0) (by decide) e_X9_sum_54 ?_
      refine t_callV F e_X9_sum_55 (s_X3_told (x_l X) V G b M Z T _ _ (r2645 + 5) (nI i) 0 h1.1 (kA_7 k2646 (r := 5) (by decide))  (by omega)) cb_X3_told ml_X9_199 im_X3_told se_X3_told (fun _ => o12) h1 (kA_7 k2646 (r := 5) (by decide)) rfl rfl (rest := []) rfl (Nat.le_of_ble_eq_true rfl) ⟨Nat.le_of_ble_eq_true rfl, Nat.le_of_ble_eq_true rfl⟩ ⟨Nat.le_of_ble_eq_true rfl, Nat.le_of_ble_eq_true rfl⟩ (fun r σ2648 hp => ?_)
      obtain ⟨h2650, x2651, rfl⟩ := hp
      have h2649 := HK.trans h1 h2650 (by decide)
      refine m_iload_n F rfl e_X9_sum_58 ?_
      refine m_i2l F e_X9_sum_59 ?_
      refine Wm.topl (fun x2652 _ => ?_)
      refine m_lcmp F e_X9_sum_60 ?_
      refine Wm.top (fun x2653 _ => ?_)
      refine m_if_ne F e_X9_sum_61 (fun q61 => ?_) (fun q61 => ?_)
      · refine m_iinc F (v := nI (i + 1)) (lv' := [(6, .int (nI (i + 1))), (5, .int (nI c)), (3, .long u1), (0, .ref a), (1, .int (nI p)), (2, .int u2)]) e_X9_sum_82 rfl (nI_add i 1) (by decide) rfl ?_
        refine m_goto F e_X9_sum_85 ?_
        exact ih (i + 1) c u1 p u2 _ h2649 (by omega) (by omega)
      · refine m_lload_n F rfl e_X9_sum_64 ?_
        refine m_aload_n F rfl e_X9_sum_65 ?_
        refine t_getC F e_X9_sum_66 fl_X9_16 (fun _ => o1) h2649 hk ((fld_eq (h2650.2 a (by rw [show kA _ a = 1 from hk]; decide))).trans f2644) ?_
        refine t_getC F e_X9_sum_69 fl_X9_186 (fun _ => o7) h2649 k2646 ((fld_eq (h2650.2 r2645 (by rw [show kA _ r2645 = 7 from k2646]; decide))).trans f2647) ?_
        refine m_iload F rfl e_X9_sum_72 ?_
        refine m_iconst F (v := 3) (by decide) e_X9_sum_74 ?_
        refine m_iload_n F rfl e_X9_sum_75 ?_
        refine m_iadd F e_X9_sum_76 ?_
        refine Wm.topE (w := nI (3 + p)) (nI_add 3 p) ?_
        refine t_callV F e_X9_sum_77 (s_X3_told (x_l X) V G b M Z T _ _ (r2645 + 5) (nI i) (nI (3 + p)) h2649.1 (kA_7 k2646 (r := 5) (by decide))  (by omega)) cb_X3_told ml_X9_199 im_X3_told se_X3_told (fun _ => o12) h2649 (kA_7 k2646 (r := 5) (by decide)) rfl rfl (rest := [.long u1]) rfl (Nat.le_of_ble_eq_true rfl) ⟨Nat.le_of_ble_eq_true rfl, Nat.le_of_ble_eq_true rfl⟩ ⟨Nat.le_of_ble_eq_true rfl, Nat.le_of_ble_eq_true rfl⟩ (fun r σ2654 hp => ?_)
        obtain ⟨h2656, x2657, rfl⟩ := hp
        have h2655 := HK.trans h2649 h2656 (by decide)
        refine m_ladd F e_X9_sum_80 ?_
        refine Wm.topl (fun x2658 _ => ?_)
        refine m_lstore_n F (lv' := [(3, .long x2658), (6, .int (nI i)), (5, .int (nI c)), (0, .ref a), (1, .int (nI p)), (2, .int u2)]) e_X9_sum_81 (by decide) rfl ?_
        refine m_iinc F (v := nI (i + 1)) (lv' := [(6, .int (nI (i + 1))), (3, .long x2658), (5, .int (nI c)), (0, .ref a), (1, .int (nI p)), (2, .int u2)]) e_X9_sum_82 rfl (nI_add i 1) (by decide) rfl ?_
        refine m_goto F e_X9_sum_85 ?_
        refine Wm.lvsub (lv' := [(6, .int (nI (i + 1))), (5, .int (nI c)), (3, .long x2658), (0, .ref a), (1, .int (nI p)), (2, .int u2)]) ?_ [0, 2, 1, 3, 4, 5] rfl
        exact ih (i + 1) c x2658 p u2 _ h2655 (by omega) (by omega)
set_option maxRecDepth 20000 in
theorem s_X9_sum (l : Launch) (V : VX) (G : GH) (b M Z T N : Nat) (σ : Mem) (a : Nat) (x901 : Int32) (x902 : Int32) (h0 : HT V G (b, M, Z, T) σ) (hk : kA b a = 1) (hG : okG G) (hM : M + 0 ≤ 1000000000) : Ct l V yX9_sum cX9_sum 7 (some .long) 3 0 0 N σ [.ref a, .int x901, .int x902] (fun r τ => HK V G (b, M, Z, T) [0, 1, 2, 3, 4, 5, 6, 7, 8, 9, 10, 11, 12, 13, 14, 15, 16, 17, 18, 19] σ τ ∧ ∃ x : Int64, r = some (.long x)) := by
  refine Ct.of (by decide) (Nat.le_of_ble_eq_true rfl) [(0, .ref a), (1, .int x901), (2, .int x902)] rfl (fun X hX F hQ => ?_)
  have h1 : HK V G (b, M, Z, T) [0, 1, 2, 3, 4, 5, 6, 7, 8, 9, 10, 11, 12, 13, 14, 15, 16, 17, 18, 19] σ σ := HK.start h0
  refine m_iload_n F rfl e_X9_sum_0 ?_
  refine m_if_lt F e_X9_sum_1 (fun q1 => ?_) (fun q1 => ?_)
  · refine m_ldc2 F kc_X9_184 e_X9_sum_17 ?_
    exact m_lret F hQ e_X9_sum_20 (⟨h1, _, rfl⟩)
  · obtain ⟨n2659, hn2659, rfl⟩ := nI_nn (x := x901) (fun e => q1 (Int32.lt_of_lt_of_le e (by decide)))
    have c1 : n2659 ≥ 0 := by have hh := mt (nI_ltI (a := n2659) (b := 0) (by omega) (by omega)).mpr q1; omega
    refine m_iload_n F rfl e_X9_sum_4 ?_
    refine m_bipush F (v := 6) (by decide) e_X9_sum_5 ?_
    refine m_icmp_ge F e_X9_sum_7 (fun q7 => ?_) (fun q7 => ?_)
    · have c7 : n2659 ≥ 6 := (nI_leI (a := 6) (b := n2659) (by omega) (by omega)).mp q7
      refine m_ldc2 F kc_X9_184 e_X9_sum_17 ?_
      exact m_lret F hQ e_X9_sum_20 (⟨h1, _, rfl⟩)
    · have c7 : n2659 < 6 := by have hh := mt (nI_leI (a := 6) (b := n2659) (by omega) (by omega)).mpr q7; omega
      refine m_iload_n F rfl e_X9_sum_10 ?_
      refine m_callS F e_X9_sum_11 (s_X9_isSort (x_l X) V G b M Z T _ _ x902 h1.1  (by omega)) cb_X9_isSort ml_X9_281 sm_X9_isSort rfl (rest := []) rfl (Nat.le_of_ble_eq_true rfl) ⟨Nat.le_of_ble_eq_true rfl, Nat.le_of_ble_eq_true rfl⟩ ⟨Nat.le_of_ble_eq_true rfl, Nat.le_of_ble_eq_true rfl⟩ (k' := 0) (z' := 0) (N' := N) rfl rfl rfl (fun r σ2660 hp => ?_)
      obtain ⟨h2662, n2663, hn2663, rfl⟩ := hp
      have h2661 := HK.trans h1 h2662 (by decide)
      refine m_if_ne F e_X9_sum_14 (fun q14 => ?_) (fun q14 => ?_)
      · have c14 : n2663 ≠ 0 := by have hh := mt (nI_eq (a := n2663) (b := 0) (by omega) (by omega)).mpr q14; omega
        refine m_lconst F (v := 0) (by decide) e_X9_sum_21 ?_
        refine m_lstore_n F (lv' := [(3, .long 0), (0, .ref a), (1, .int (nI n2659)), (2, .int x902)]) e_X9_sum_22 (by decide) rfl ?_
        refine m_aload_n F rfl e_X9_sum_23 ?_
        refine t_get F e_X9_sum_24 fl_X9_16 (fun _ => o1) h2661 hk rfl (fun v hv f2664 => ?_)
        obtain ⟨r2665, ⟨k2666, er2665⟩, rfl⟩ := hv
        replace er2665 : r2665 = b + 2 + 63 * G.bk := er2665
        refine t_get F e_X9_sum_27 fl_X9_186 (fun _ => o7) h2661 k2666 rfl (fun v hv f2667 => ?_)
        obtain rfl : v = .ref (r2665 + 5) := hv
        obtain ⟨v9, ⟨n2668, hn2668, rfl⟩, f2669⟩ := HK.f (j := 2) h2661 (fun _ => o12) (kA_7 k2666 (r := 5) (by decide)) rfl
        replace hn2668 : n2668 ≤ M := hn2668
        refine t_callV F e_X9_sum_30 (s_X3_kept (x_l X) V G b M Z T _ _ (r2665 + 5) n2668 h2661.1 (kA_7 k2666 (r := 5) (by decide)) (f2669) (by omega) (by omega)) cb_X3_kept ml_X9_196 im_X3_kept se_X3_kept (fun _ => o12) h2661 (kA_7 k2666 (r := 5) (by decide)) rfl rfl (rest := []) rfl (Nat.le_of_ble_eq_true rfl) ⟨Nat.le_of_ble_eq_true rfl, Nat.le_of_ble_eq_true rfl⟩ ⟨Nat.le_of_ble_eq_true rfl, Nat.le_of_ble_eq_true rfl⟩ (fun r σ2670 hp => ?_)
        obtain ⟨h2672, n2673, hn2673, gn2673, rfl⟩ := hp
        have h2671 := HK.trans h2661 h2672 (by decide)
        refine m_istore F (lv' := [(5, .int (nI n2673)), (3, .long 0), (0, .ref a), (1, .int (nI n2659)), (2, .int x902)]) e_X9_sum_33 (by decide) rfl ?_
        refine m_iconst F (v := 0) (by decide) e_X9_sum_35 ?_
        refine m_istore F (lv' := [(6, .int 0), (5, .int (nI n2673)), (3, .long 0), (0, .ref a), (1, .int (nI n2659)), (2, .int x902)]) e_X9_sum_36 (by decide) rfl ?_
        exact lp_X9_sum_38 F hQ hk hG hM (40 - 0 + 1) 0 n2673 0 n2659 x902 _ h2671 (by omega) (Nat.lt_succ_self _)
      · have c14 : n2663 = 0 := (nI_eq (a := n2663) (b := 0) (by omega) (by omega)).mp q14
        refine m_ldc2 F kc_X9_184 e_X9_sum_17 ?_
        exact m_lret F hQ e_X9_sum_20 (⟨h2661, _, rfl⟩)
set_option maxRecDepth 20000 in
theorem s_X9_moved (l : Launch) (V : VX) (G : GH) (b M Z T N : Nat) (σ : Mem) (a : Nat) (x901 : Int32) (x902 : Int32) (h0 : HT V G (b, M, Z, T) σ) (hk : kA b a = 1) (hG : okG G) (hM : M + 0 ≤ 1000000000) : Ct l V yX9_moved cX9_moved 4 (some .long) 1 0 0 N σ [.ref a, .int x901, .int x902] (fun r τ => HK V G (b, M, Z, T) [0, 1, 2, 3, 4, 5, 6, 7, 8, 9, 10, 11, 12, 13, 14, 15, 16, 17, 18, 19] σ τ ∧ ∃ x : Int64, r = some (.long x)) := by
  refine Ct.of (by decide) (Nat.le_of_ble_eq_true rfl) [(0, .ref a), (1, .int x901), (2, .int x902)] rfl (fun X hX F hQ => ?_)
  have h1 : HK V G (b, M, Z, T) [0, 1, 2, 3, 4, 5, 6, 7, 8, 9, 10, 11, 12, 13, 14, 15, 16, 17, 18, 19] σ σ := HK.start h0
  refine m_aload_n F rfl e_X9_moved_0 ?_
  refine m_iload_n F rfl e_X9_moved_1 ?_
  refine t_callV F e_X9_moved_2 (s_X9_leaseAt (x_l X) V G b M Z T _ _ a x901 h1.1 hk hG (by omega)) cb_X9_leaseAt ml_X9_103 im_X9_leaseAt se_X9_leaseAt (fun _ => o1) h1 hk rfl rfl (rest := []) rfl (Nat.le_of_ble_eq_true rfl) ⟨Nat.le_of_ble_eq_true rfl, Nat.le_of_ble_eq_true rfl⟩ ⟨Nat.le_of_ble_eq_true rfl, Nat.le_of_ble_eq_true rfl⟩ (fun r σ2674 hp => ?_)
  obtain ⟨h2676, c2677⟩ := hp
  have h2675 := HK.trans h1 h2676 (by decide)
  rcases c2677 with rfl | ⟨n2678, r2679, hn2678, en2678, k2680, rfl⟩
  · refine m_astore_nN F (lv' := [(3, .null), (0, .ref a), (1, .int x901), (2, .int x902)]) e_X9_moved_5 (by decide) rfl ?_
    refine m_aload_nN F rfl e_X9_moved_6 ?_
    refine m_ifnullN F e_X9_moved_7 ?_
    refine m_ldc2 F kc_X9_184 e_X9_moved_19 ?_
    exact m_lret F hQ e_X9_moved_22 (⟨h2675, _, rfl⟩)
  · subst en2678
    refine m_astore_n F (lv' := [(3, .ref r2679), (0, .ref a), (1, .int (nI n2678)), (2, .int x902)]) e_X9_moved_5 (by decide) rfl ?_
    refine m_aload_n F rfl e_X9_moved_6 ?_
    refine m_ifnullR F e_X9_moved_7 ?_
    refine m_iload_n F rfl e_X9_moved_10 ?_
    refine m_if_lt F e_X9_moved_11 (fun q11 => ?_) (fun q11 => ?_)
    · refine m_ldc2 F kc_X9_184 e_X9_moved_19 ?_
      exact m_lret F hQ e_X9_moved_22 (⟨h2675, _, rfl⟩)
    · obtain ⟨n2681, hn2681, rfl⟩ := nI_nn (x := x902) (fun e => q11 (Int32.lt_of_lt_of_le e (by decide)))
      have c11 : n2681 ≥ 0 := by have hh := mt (nI_ltI (a := n2681) (b := 0) (by omega) (by omega)).mpr q11; omega
      refine m_iload_n F rfl e_X9_moved_14 ?_
      refine m_iconst F (v := 5) (by decide) e_X9_moved_15 ?_
      refine m_icmp_lt F e_X9_moved_16 (fun q16 => ?_) (fun q16 => ?_)
      · have c16 : n2681 < 5 := (nI_ltI (a := n2681) (b := 5) (by omega) (by omega)).mp q16
        refine m_aload_n F rfl e_X9_moved_23 ?_
        refine t_get F e_X9_moved_24 fl_X9_275 (fun _ => o15) h2675 k2680 rfl (fun v hv f2682 => ?_)
        obtain ⟨r2683, k2684, rfl⟩ := hv
        refine m_iload_n F rfl e_X9_moved_27 ?_
        refine t_lald F (len := 5) (j := n2681) e_X9_moved_28 (fun _ => o18) h2675 k2684 (nI_clamp (by omega)) (vp_in_nI (by omega) (by decide)) (fun x2685 => ?_)
        exact m_lret F hQ e_X9_moved_29 (⟨h2675, _, rfl⟩)
      · have c16 : n2681 ≥ 5 := by have hh := mt (nI_ltI (a := n2681) (b := 5) (by omega) (by omega)).mpr q16; omega
        refine m_ldc2 F kc_X9_184 e_X9_moved_19 ?_
        exact m_lret F hQ e_X9_moved_22 (⟨h2675, _, rfl⟩)
set_option maxRecDepth 20000 in
theorem lp_X9_choose_66 {V : VX} {G : GH} {X : MX} {b M Z T N : Nat} {σ : Mem} {a : Nat}   (F : Fx V X yX9_choose cX9_choose 9 (some .int) (rmd 6 0 0)) (hQ : Rt V X 0 0 N (fun r τ => HK V G (b, M, Z, T) [0, 1, 2, 3, 4, 5, 7, 8, 9, 10, 11, 12, 13, 14, 16, 19] σ τ ∧ ∃ x : Int32, r = some (.int x))) (hk : kA b a = 1) (hG : okG G) (hM : M + 0 ≤ 1000000000)  : ∀ (fuel : Nat) (i : Nat) (u1 : Int32) (u2 : Int32) (u3 : Int32) (q1 : Nat) (q2 : Nat) (q3 : Nat) (q4 : Nat) (τ : Mem), HK V G (b, M, Z, T) [0, 1, 2, 3, 4, 5, 7, 8, 9, 10, 11, 12, 13, 14, 16, 19] σ τ → kA b q1 = 15 ∧ kA b q2 = 15 ∧ kA b q3 = 6 ∧ kA b q4 = 6 ∧ i ≤ 16 ∧ ¬ G.gd (blk (q2 - b)) = 1 → 16 - i < fuel → Wm V X 9 N τ 0 0 66 [(8, .int (nI i)), (6, .int u1), (7, .int u2), (0, .ref a), (1, .int u3), (2, .ref q1), (3, .ref q2), (4, .ref q3), (5, .ref q4)] [] := by
  intro fuel
  induction fuel with
  | zero => intro i u1 u2 u3 q1 q2 q3 q4 τ h1 hi hm; exact absurd hm (Nat.not_lt_zero _)
  | succ fuel ih =>
    intro i u1 u2 u3 q1 q2 q3 q4 τ h1 hi hm
    obtain ⟨kq1, kq2, kq3, kq4, hi⟩ := hi
    refine m_iload F rfl e_X9_choose_66 ?_
    refine m_bipush F (v := 16) (by decide) e_X9_choose_68 ?_
    refine m_icmp_ge F e_X9_choose_70 (fun q70 => ?_) (fun q70 => ?_)
    · have c70 : i ≥ 16 := (nI_leI (a := 16) (b := i) (by omega) (by omega)).mp q70
      refine m_iload F rfl e_X9_choose_149 ?_
      exact m_iret F hQ e_X9_choose_151 (⟨h1, _, rfl⟩)
    · have c70 : i < 16 := by have hh := mt (nI_leI (a := 16) (b := i) (by omega) (by omega)).mpr q70; omega
      refine m_aload_n F rfl e_X9_choose_73 ?_
      refine t_get F e_X9_choose_74 fl_X9_16 (fun _ => o1) h1 hk rfl (fun v hv f2686 => ?_)
      obtain ⟨r2687, ⟨k2688, er2687⟩, rfl⟩ := hv
      replace er2687 : r2687 = b + 2 + 63 * G.bk := er2687
      refine m_iload_n F rfl e_X9_choose_77 ?_
      refine m_iload F rfl e_X9_choose_78 ?_
      refine t_callV F e_X9_choose_80 (s_X2_canTakeSet (x_l X) V G b M Z T _ _ r2687 u3 (nI i) h1.1 k2688  (by omega)) cb_X2_canTakeSet ml_X9_287 im_X2_canTakeSet se_X2_canTakeSet (fun _ => o7) h1 k2688 rfl rfl (rest := []) rfl (Nat.le_of_ble_eq_true rfl) ⟨Nat.le_of_ble_eq_true rfl, Nat.le_of_ble_eq_true rfl⟩ ⟨Nat.le_of_ble_eq_true rfl, Nat.le_of_ble_eq_true rfl⟩ (fun r σ2689 hp => ?_)
      obtain ⟨h2691, n2692, hn2692, rfl⟩ := hp
      have h2690 := HK.trans h1 h2691 (by decide)
      refine m_if_ne F e_X9_choose_83 (fun q83 => ?_) (fun q83 => ?_)
      · have c83 : n2692 ≠ 0 := by have hh := mt (nI_eq (a := n2692) (b := 0) (by omega) (by omega)).mpr q83; omega
        refine m_aload_n F rfl e_X9_choose_89 ?_
        refine m_aload_n F rfl e_X9_choose_90 ?_
        refine t_callV F e_X9_choose_91 (s_X5_copyFrom (x_l X) V G b M Z T _ _ q2 q1 h2690.1 kq2 kq1 hi.2 (by omega)) cb_X5_copyFrom ml_X9_291 im_X5_copyFrom se_X5_copyFrom (fun _ => o15) h2690 kq2 rfl rfl (rest := []) rfl (Nat.le_of_ble_eq_true rfl) ⟨Nat.le_of_ble_eq_true rfl, Nat.le_of_ble_eq_true rfl⟩ ⟨Nat.le_of_ble_eq_true rfl, Nat.le_of_ble_eq_true rfl⟩ (fun r σ2693 hp => ?_)
        obtain ⟨h2695, ⟨e2696, eo2697⟩, rfl⟩ := hp
        have h2694 := HK.trans h2690 h2695 (by decide)
        refine m_aload_n F rfl e_X9_choose_94 ?_
        refine t_getC F e_X9_choose_95 fl_X9_16 (fun _ => o1) h2694 hk ((fld_eq (h2695.2 a (by rw [show kA _ a = 1 from hk]; decide))).trans ((fld_eq (h2691.2 a (by rw [show kA _ a = 1 from hk]; decide))).trans f2686)) ?_
        refine m_aload_n F rfl e_X9_choose_98 ?_
        refine m_iload F rfl e_X9_choose_99 ?_
        refine t_callV F e_X9_choose_101 (s_X2_goOnBySet (x_l X) V G b M Z T _ _ r2687 q2 (nI i) h2694.1 k2688 kq2 (by omega)) cb_X2_goOnBySet ml_X9_294 im_X2_goOnBySet se_X2_goOnBySet (fun _ => o7) h2694 k2688 rfl rfl (rest := []) rfl (Nat.le_of_ble_eq_true rfl) ⟨Nat.le_of_ble_eq_true rfl, Nat.le_of_ble_eq_true rfl⟩ ⟨Nat.le_of_ble_eq_true rfl, Nat.le_of_ble_eq_true rfl⟩ (fun r σ2698 hp => ?_)
        obtain ⟨h2700, rfl⟩ := hp
        have h2699 := HK.trans h2694 h2700 (by decide)
        refine m_aload_n F rfl e_X9_choose_104 ?_
        refine m_aload F rfl e_X9_choose_105 ?_
        refine t_callV F e_X9_choose_107 (s_X5_worthLeft (x_l X) V G b M Z T _ _ q2 q3 h2699.1 kq2 kq3 (by omega)) cb_X5_worthLeft ml_X9_298 im_X5_worthLeft se_X5_worthLeft (fun _ => o15) h2699 kq2 rfl rfl (rest := []) rfl (Nat.le_of_ble_eq_true rfl) ⟨Nat.le_of_ble_eq_true rfl, Nat.le_of_ble_eq_true rfl⟩ ⟨Nat.le_of_ble_eq_true rfl, Nat.le_of_ble_eq_true rfl⟩ (fun r σ2701 hp => ?_)
        obtain ⟨h2703, rfl⟩ := hp
        have h2702 := HK.trans h2699 h2703 (by decide)
        refine m_aload F rfl e_X9_choose_110 ?_
        refine m_iload F rfl e_X9_choose_112 ?_
        refine m_aload F rfl e_X9_choose_114 ?_
        refine m_aload_n F rfl e_X9_choose_116 ?_
        refine t_callV F e_X9_choose_117 (s_X5_left (x_l X) V G b M Z T _ _ q2  h2702.1 kq2  (by omega)) cb_X5_left ml_X9_128 im_X5_left se_X5_left (fun _ => o15) h2702 kq2 rfl rfl (rest := [.ref q3, .int u2, .ref q4]) rfl (Nat.le_of_ble_eq_true rfl) ⟨Nat.le_of_ble_eq_true rfl, Nat.le_of_ble_eq_true rfl⟩ ⟨Nat.le_of_ble_eq_true rfl, Nat.le_of_ble_eq_true rfl⟩ (fun r σ2704 hp => ?_)
        obtain ⟨h2706, x2707, rfl⟩ := hp
        have h2705 := HK.trans h2702 h2706 (by decide)
        refine t_callV F e_X9_choose_120 (s_X1_isGreaterShare (x_l X) V G b M Z T _ _ q4 u2 q3 x2707 h2705.1 kq4 kq3 (by omega)) cb_X1_isGreaterShare ml_X9_301 im_X1_isGreaterShare se_X1_isGreaterShare (fun _ => o6) h2705 kq4 rfl rfl (rest := []) rfl (Nat.le_of_ble_eq_true rfl) ⟨Nat.le_of_ble_eq_true rfl, Nat.le_of_ble_eq_true rfl⟩ ⟨Nat.le_of_ble_eq_true rfl, Nat.le_of_ble_eq_true rfl⟩ (fun r σ2708 hp => ?_)
        obtain ⟨h2710, n2711, hn2711, rfl⟩ := hp
        have h2709 := HK.trans h2705 h2710 (by decide)
        refine m_if_eq F e_X9_choose_123 (fun q123 => ?_) (fun q123 => ?_)
        · have c123 : n2711 = 0 := (nI_eq (a := n2711) (b := 0) (by omega) (by omega)).mp q123
          refine m_iinc F (v := nI (i + 1)) (lv' := [(8, .int (nI (i + 1))), (6, .int u1), (7, .int u2), (0, .ref a), (1, .int u3), (2, .ref q1), (3, .ref q2), (4, .ref q3), (5, .ref q4)]) e_X9_choose_143 rfl (nI_add i 1) (by decide) rfl ?_
          refine m_goto F e_X9_choose_146 ?_
          exact ih (i + 1) u1 u2 u3 q1 q2 q3 q4 _ h2709 ⟨kq1, kq2, kq3, kq4, ⟨by omega, hi.2⟩⟩ (by omega)
        · have c123 : n2711 ≠ 0 := by have hh := mt (nI_eq (a := n2711) (b := 0) (by omega) (by omega)).mpr q123; omega
          refine m_iload F rfl e_X9_choose_126 ?_
          refine m_istore F (lv' := [(6, .int (nI i)), (8, .int (nI i)), (7, .int u2), (0, .ref a), (1, .int u3), (2, .ref q1), (3, .ref q2), (4, .ref q3), (5, .ref q4)]) e_X9_choose_128 (by decide) rfl ?_
          refine m_aload F rfl e_X9_choose_130 ?_
          refine m_aload F rfl e_X9_choose_132 ?_
          refine t_callV F e_X9_choose_134 (s_X1_copyFrom (x_l X) V G b M Z T _ _ q4 q3 h2709.1 kq4 kq3 (by omega)) cb_X1_copyFrom ml_X9_284 im_X1_copyFrom se_X1_copyFrom (fun _ => o6) h2709 kq4 rfl rfl (rest := []) rfl (Nat.le_of_ble_eq_true rfl) ⟨Nat.le_of_ble_eq_true rfl, Nat.le_of_ble_eq_true rfl⟩ ⟨Nat.le_of_ble_eq_true rfl, Nat.le_of_ble_eq_true rfl⟩ (fun r σ2712 hp => ?_)
          obtain ⟨h2714, rfl⟩ := hp
          have h2713 := HK.trans h2709 h2714 (by decide)
          refine m_aload_n F rfl e_X9_choose_137 ?_
          refine t_callV F e_X9_choose_138 (s_X5_left (x_l X) V G b M Z T _ _ q2  h2713.1 kq2  (by omega)) cb_X5_left ml_X9_128 im_X5_left se_X5_left (fun _ => o15) h2713 kq2 rfl rfl (rest := []) rfl (Nat.le_of_ble_eq_true rfl) ⟨Nat.le_of_ble_eq_true rfl, Nat.le_of_ble_eq_true rfl⟩ ⟨Nat.le_of_ble_eq_true rfl, Nat.le_of_ble_eq_true rfl⟩ (fun r σ2715 hp => ?_)
          obtain ⟨h2717, x2718, rfl⟩ := hp
          have h2716 := HK.trans h2713 h2717 (by decide)
          refine m_istore F (lv' := [(7, .int x2718), (6, .int (nI i)), (8, .int (nI i)), (0, .ref a), (1, .int u3), (2, .ref q1), (3, .ref q2), (4, .ref q3), (5, .ref q4)]) e_X9_choose_141 (by decide) rfl ?_
          refine m_iinc F (v := nI (i + 1)) (lv' := [(8, .int (nI (i + 1))), (7, .int x2718), (6, .int (nI i)), (0, .ref a), (1, .int u3), (2, .ref q1), (3, .ref q2), (4, .ref q3), (5, .ref q4)]) e_X9_choose_143 rfl (nI_add i 1) (by decide) rfl ?_
          refine m_goto F e_X9_choose_146 ?_
          refine Wm.lvsub (lv' := [(8, .int (nI (i + 1))), (6, .int (nI i)), (7, .int x2718), (0, .ref a), (1, .int u3), (2, .ref q1), (3, .ref q2), (4, .ref q3), (5, .ref q4)]) ?_ [0, 2, 1, 3, 4, 5, 6, 7, 8] rfl
          exact ih (i + 1) (nI i) x2718 u3 q1 q2 q3 q4 _ h2716 ⟨kq1, kq2, kq3, kq4, ⟨by omega, hi.2⟩⟩ (by omega)
      · have c83 : n2692 = 0 := (nI_eq (a := n2692) (b := 0) (by omega) (by omega)).mp q83
        refine m_goto F e_X9_choose_86 ?_
        refine m_iinc F (v := nI (i + 1)) (lv' := [(8, .int (nI (i + 1))), (6, .int u1), (7, .int u2), (0, .ref a), (1, .int u3), (2, .ref q1), (3, .ref q2), (4, .ref q3), (5, .ref q4)]) e_X9_choose_143 rfl (nI_add i 1) (by decide) rfl ?_
        refine m_goto F e_X9_choose_146 ?_
        exact ih (i + 1) u1 u2 u3 q1 q2 q3 q4 _ h2690 ⟨kq1, kq2, kq3, kq4, ⟨by omega, hi.2⟩⟩ (by omega)
set_option maxRecDepth 20000 in
theorem s_X9_choose (l : Launch) (V : VX) (G : GH) (b M Z T N : Nat) (σ : Mem) (a : Nat) (x901 : Int32) (h0 : HT V G (b, M, Z, T) σ) (hk : kA b a = 1) (hG : okG G) (hM : M + 0 ≤ 1000000000) : Ct l V yX9_choose cX9_choose 9 (some .int) 6 0 0 N σ [.ref a, .int x901] (fun r τ => HK V G (b, M, Z, T) [0, 1, 2, 3, 4, 5, 7, 8, 9, 10, 11, 12, 13, 14, 16, 19] σ τ ∧ ∃ x : Int32, r = some (.int x)) := by
  refine Ct.of (by decide) (Nat.le_of_ble_eq_true rfl) [(0, .ref a), (1, .int x901)] rfl (fun X hX F hQ => ?_)
  have h1 : HK V G (b, M, Z, T) [0, 1, 2, 3, 4, 5, 7, 8, 9, 10, 11, 12, 13, 14, 16, 19] σ σ := HK.start h0
  refine m_aload_n F rfl e_X9_choose_0 ?_
  refine m_iload_n F rfl e_X9_choose_1 ?_
  refine t_callV F e_X9_choose_2 (s_X9_leaseAt (x_l X) V G b M Z T _ _ a x901 h1.1 hk hG (by omega)) cb_X9_leaseAt ml_X9_103 im_X9_leaseAt se_X9_leaseAt (fun _ => o1) h1 hk rfl rfl (rest := []) rfl (Nat.le_of_ble_eq_true rfl) ⟨Nat.le_of_ble_eq_true rfl, Nat.le_of_ble_eq_true rfl⟩ ⟨Nat.le_of_ble_eq_true rfl, Nat.le_of_ble_eq_true rfl⟩ (fun r σ2719 hp => ?_)
  obtain ⟨h2721, c2722⟩ := hp
  have h2720 := HK.trans h1 h2721 (by decide)
  rcases c2722 with rfl | ⟨n2723, r2724, hn2723, en2723, k2725, rfl⟩
  · refine m_ifnonnullN F e_X9_choose_5 ?_
    refine m_iconst F (v := (-1)) (by decide) e_X9_choose_8 ?_
    exact m_iret F hQ e_X9_choose_9 (⟨h2720, _, rfl⟩)
  · subst en2723
    refine m_ifnonnullR F e_X9_choose_5 ?_
    refine m_aload_n F rfl e_X9_choose_10 ?_
    refine m_iload_n F rfl e_X9_choose_11 ?_
    refine t_callV F e_X9_choose_12 (s_X9_runningAt (x_l X) V G b M Z T _ _ a (nI n2723) h2720.1 hk hG (by omega)) cb_X9_runningAt ml_X9_203 im_X9_runningAt se_X9_runningAt (fun _ => o1) h2720 hk rfl rfl (rest := []) rfl (Nat.le_of_ble_eq_true rfl) ⟨Nat.le_of_ble_eq_true rfl, Nat.le_of_ble_eq_true rfl⟩ ⟨Nat.le_of_ble_eq_true rfl, Nat.le_of_ble_eq_true rfl⟩ (fun r σ2726 hp => ?_)
    obtain ⟨h2728, c2729⟩ := hp
    have h2727 := HK.trans h2720 h2728 (by decide)
    rcases c2729 with rfl | ⟨n2730, r2731, hn2730, en2730, k2732, rfl⟩
    · refine m_astore_nN F (lv' := [(2, .null), (0, .ref a), (1, .int (nI n2723))]) e_X9_choose_15 (by decide) rfl ?_
      refine m_aload_nN F rfl e_X9_choose_16 ?_
      refine m_ifnonnullN F e_X9_choose_17 ?_
      refine m_bipush F (v := (-2)) (by decide) e_X9_choose_20 ?_
      exact m_iret F hQ e_X9_choose_22 (⟨h2727, _, rfl⟩)
    · refine m_astore_n F (lv' := [(2, .ref r2731), (0, .ref a), (1, .int (nI n2723))]) e_X9_choose_15 (by decide) rfl ?_
      refine m_aload_n F rfl e_X9_choose_16 ?_
      refine m_ifnonnullR F e_X9_choose_17 ?_
      refine m_aload_n F rfl e_X9_choose_23 ?_
      refine t_get F e_X9_choose_24 fl_X9_20 (fun _ => o1) h2727 hk rfl (fun v hv f2733 => ?_)
      obtain ⟨r2734, ⟨k2735, er2734⟩, rfl⟩ := hv
      replace er2734 : r2734 = b + 2 + 63 * G.sp := er2734
      refine t_get F e_X9_choose_27 fl_X9_226 (fun _ => o7) h2727 k2735 rfl (fun v hv f2736 => ?_)
      obtain rfl : v = .ref (r2734 + 1) := hv
      refine m_iconst F (v := 0) (by decide) e_X9_choose_30 ?_
      refine t_aald8 F (j := 0) e_X9_choose_31 rfl h2727 (kA_7 k2735 (r := 1) (by decide)) (by decide) (by unfold vp_in; decide) ?_
      refine m_astore_n F (lv' := [(3, .ref ((r2734 + 1) + 10 + 12 * 0)), (2, .ref r2731), (0, .ref a), (1, .int (nI n2723))]) e_X9_choose_32 (by decide) rfl ?_
      refine m_aload_n F rfl e_X9_choose_33 ?_
      refine t_get F e_X9_choose_34 fl_X9_42 (fun _ => o1) h2727 hk rfl (fun v hv f2737 => ?_)
      obtain ⟨r2738, k2739, rfl⟩ := hv
      refine m_astore F (lv' := [(4, .ref r2738), (3, .ref ((r2734 + 1) + 10 + 12 * 0)), (2, .ref r2731), (0, .ref a), (1, .int (nI n2723))]) e_X9_choose_37 (by decide) rfl ?_
      refine m_aload_n F rfl e_X9_choose_39 ?_
      refine t_get F e_X9_choose_40 fl_X9_46 (fun _ => o1) h2727 hk rfl (fun v hv f2740 => ?_)
      obtain ⟨r2741, k2742, rfl⟩ := hv
      refine m_astore F (lv' := [(5, .ref r2741), (4, .ref r2738), (3, .ref ((r2734 + 1) + 10 + 12 * 0)), (2, .ref r2731), (0, .ref a), (1, .int (nI n2723))]) e_X9_choose_43 (by decide) rfl ?_
      refine m_aload F rfl e_X9_choose_45 ?_
      refine m_aload_n F rfl e_X9_choose_47 ?_
      refine t_get F e_X9_choose_48 fl_X9_151 (fun _ => o15) h2727 k2732 rfl (fun v hv f2743 => ?_)
      obtain ⟨r2744, k2745, rfl⟩ := hv
      refine t_callV F e_X9_choose_51 (s_X1_copyFrom (x_l X) V G b M Z T _ _ r2741 r2744 h2727.1 k2742 k2745 (by omega)) cb_X1_copyFrom ml_X9_284 im_X1_copyFrom se_X1_copyFrom (fun _ => o6) h2727 k2742 rfl rfl (rest := []) rfl (Nat.le_of_ble_eq_true rfl) ⟨Nat.le_of_ble_eq_true rfl, Nat.le_of_ble_eq_true rfl⟩ ⟨Nat.le_of_ble_eq_true rfl, Nat.le_of_ble_eq_true rfl⟩ (fun r σ2746 hp => ?_)
      obtain ⟨h2748, rfl⟩ := hp
      have h2747 := HK.trans h2727 h2748 (by decide)
      refine m_iconst F (v := 0) (by decide) e_X9_choose_54 ?_
      refine m_istore F (lv' := [(6, .int 0), (5, .ref r2741), (4, .ref r2738), (3, .ref ((r2734 + 1) + 10 + 12 * 0)), (2, .ref r2731), (0, .ref a), (1, .int (nI n2723))]) e_X9_choose_55 (by decide) rfl ?_
      refine m_aload_n F rfl e_X9_choose_57 ?_
      refine t_callV F e_X9_choose_58 (s_X5_left (x_l X) V G b M Z T _ _ r2731  h2747.1 k2732  (by omega)) cb_X5_left ml_X9_128 im_X5_left se_X5_left (fun _ => o15) h2747 k2732 rfl rfl (rest := []) rfl (Nat.le_of_ble_eq_true rfl) ⟨Nat.le_of_ble_eq_true rfl, Nat.le_of_ble_eq_true rfl⟩ ⟨Nat.le_of_ble_eq_true rfl, Nat.le_of_ble_eq_true rfl⟩ (fun r σ2749 hp => ?_)
      obtain ⟨h2751, x2752, rfl⟩ := hp
      have h2750 := HK.trans h2747 h2751 (by decide)
      refine m_istore F (lv' := [(7, .int x2752), (6, .int 0), (5, .ref r2741), (4, .ref r2738), (3, .ref ((r2734 + 1) + 10 + 12 * 0)), (2, .ref r2731), (0, .ref a), (1, .int (nI n2723))]) e_X9_choose_61 (by decide) rfl ?_
      refine m_iconst F (v := 1) (by decide) e_X9_choose_63 ?_
      refine m_istore F (lv' := [(8, .int 1), (7, .int x2752), (6, .int 0), (5, .ref r2741), (4, .ref r2738), (3, .ref ((r2734 + 1) + 10 + 12 * 0)), (2, .ref r2731), (0, .ref a), (1, .int (nI n2723))]) e_X9_choose_64 (by decide) rfl ?_
      refine Wm.lvsub (lv' := [(8, .int 1), (6, .int 0), (7, .int x2752), (0, .ref a), (1, .int (nI n2723)), (2, .ref r2731), (3, .ref ((r2734 + 1) + 10 + 12 * 0)), (4, .ref r2738), (5, .ref r2741)]) ?_ [0, 2, 1, 7, 8, 6, 5, 4, 3] rfl
      exact lp_X9_choose_66 F hQ hk hG hM (16 - 1 + 1) 1 0 x2752 (nI n2723) r2731 ((r2734 + 1) + 10 + 12 * 0) r2738 r2741 _ h2750 ⟨k2732, (kA_8 (kA_7 k2735 (r := 1) (by decide)) (j := 0) (by omega)), k2739, k2742, ⟨by omega, (gd_le k2735 (j := 0) (by omega) (gd_sp hG er2734))⟩⟩ (Nat.lt_succ_self _)
set_option maxRecDepth 20000 in
theorem lp_X9_life_74 {V : VX} {G : GH} {X : MX} {b M Z T N : Nat} {σ : Mem} {a : Nat} {n902 : Nat}  (F : Fx V X yX9_life cX9_life 8 (some .long) (rmd 2 0 0)) (hQ : Rt V X 0 0 N (fun r τ => HK V G (b, M, Z, T) [0, 1, 2, 3, 4, 5, 7, 8, 9, 10, 11, 12, 13, 14, 15, 16, 17, 18, 19] σ τ ∧ ∃ x : Int64, r = some (.long x))) (hk : kA b a = 1) (hn902 : n902 ≤ 1) (hG : okG G) (hM : M + 0 ≤ 1000000000)  : ∀ (fuel : Nat) (i1 : Int32) (u1 : Int32) (u3 : Int32) (q1 : Nat) (q3 : Nat) (q4 : Nat) (w1 : Int32) (τ : Mem), HK V G (b, M, Z, T) [0, 1, 2, 3, 4, 5, 7, 8, 9, 10, 11, 12, 13, 14, 15, 16, 17, 18, 19] σ τ → kA b q1 = 15 ∧ kA b q3 = 6 ∧ kA b q4 = 6 ∧ fld τ q1 2 = some (.int w1) ∧ True → (w1.toInt - i1.toInt).toNat < fuel → Wm V X 8 N τ 0 0 74 [(7, .int i1), (6, .int u1), (0, .ref a), (1, .int u3), (2, .int (nI n902)), (3, .ref q1), (4, .ref q3), (5, .ref q4)] [] := by
  intro fuel
  induction fuel with
  | zero => intro i1 u1 u3 q1 q3 q4 w1 τ h1 hi hm; exact absurd hm (Nat.not_lt_zero _)
  | succ fuel ih =>
    intro i1 u1 u3 q1 q3 q4 w1 τ h1 hi hm
    obtain ⟨kq1, kq3, kq4, hfw1, hi⟩ := hi
    refine m_iload F rfl e_X9_life_74 ?_
    refine m_aload_n F rfl e_X9_life_76 ?_
    refine t_getC F e_X9_life_77 fl_X9_119 (fun _ => o15) h1 kq1 (hfw1) ?_
    refine m_icmp_ge F e_X9_life_80 (fun q80 => ?_) (fun q80 => ?_)
    · refine m_aload F rfl e_X9_life_133 ?_
      refine t_callV F e_X9_life_135 (s_X1_isZero (x_l X) V G b M Z T _ _ q4  h1.1 kq4  (by omega)) cb_X1_isZero ml_X9_314 im_X1_isZero se_X1_isZero (fun _ => o6) h1 kq4 rfl rfl (rest := []) rfl (Nat.le_of_ble_eq_true rfl) ⟨Nat.le_of_ble_eq_true rfl, Nat.le_of_ble_eq_true rfl⟩ ⟨Nat.le_of_ble_eq_true rfl, Nat.le_of_ble_eq_true rfl⟩ (fun r σ2753 hp => ?_)
      obtain ⟨h2755, n2756, hn2756, rfl⟩ := hp
      have h2754 := HK.trans h1 h2755 (by decide)
      refine m_if_eq F e_X9_life_138 (fun q138 => ?_) (fun q138 => ?_)
      · have c138 : n2756 = 0 := (nI_eq (a := n2756) (b := 0) (by omega) (by omega)).mp q138
        refine m_aload F rfl e_X9_life_145 ?_
        refine m_aload F rfl e_X9_life_147 ?_
        refine m_iload_n F rfl e_X9_life_149 ?_
        refine m_callS F e_X9_life_150 (s_X9_leastTerm (x_l X) V G b M Z T _ _ q3 q4 n902 h2754.1 kq3 kq4 (by omega) (by omega)) cb_X9_leastTerm ml_X9_320 sm_X9_leastTerm rfl (rest := []) rfl (Nat.le_of_ble_eq_true rfl) ⟨Nat.le_of_ble_eq_true rfl, Nat.le_of_ble_eq_true rfl⟩ ⟨Nat.le_of_ble_eq_true rfl, Nat.le_of_ble_eq_true rfl⟩ (k' := 0) (z' := 0) (N' := N) rfl rfl rfl (fun r σ2757 hp => ?_)
        obtain ⟨h2759, x2760, rfl⟩ := hp
        have h2758 := HK.trans h2754 h2759 (by decide)
        exact m_lret F hQ e_X9_life_153 (⟨h2758, _, rfl⟩)
      · have c138 : n2756 ≠ 0 := by have hh := mt (nI_eq (a := n2756) (b := 0) (by omega) (by omega)).mpr q138; omega
        refine m_ldc2 F kc_X9_318 e_X9_life_141 ?_
        exact m_lret F hQ e_X9_life_144 (⟨h2754, _, rfl⟩)
    · refine m_aload_n F rfl e_X9_life_83 ?_
      refine t_get F e_X9_life_84 fl_X9_165 (fun _ => o15) h1 kq1 rfl (fun v hv f2761 => ?_)
      obtain ⟨r2762, k2763, rfl⟩ := hv
      refine m_iload F rfl e_X9_life_87 ?_
      refine m_aload_n F rfl e_X9_life_89 ?_
      refine t_get F e_X9_life_90 fl_X9_49 (fun _ => o1) h1 hk rfl (fun v hv f2764 => ?_)
      obtain ⟨r2765, k2766, rfl⟩ := hv
      refine t_callV F e_X9_life_93 (s_X8_copyTo (x_l X) V G b M Z T _ _ r2762 i1 r2765 h1.1 k2763 k2766 (by omega)) cb_X8_copyTo ml_X9_169 im_X8_copyTo se_X8_copyTo (fun _ => o16) h1 k2763 rfl rfl (rest := []) rfl (Nat.le_of_ble_eq_true rfl) ⟨Nat.le_of_ble_eq_true rfl, Nat.le_of_ble_eq_true rfl⟩ ⟨Nat.le_of_ble_eq_true rfl, Nat.le_of_ble_eq_true rfl⟩ (fun r σ2767 hp => ?_)
      obtain ⟨h2769, rfl⟩ := hp
      have h2768 := HK.trans h1 h2769 (by decide)
      refine m_aload F rfl e_X9_life_96 ?_
      refine m_aload_n F rfl e_X9_life_98 ?_
      refine t_getC F e_X9_life_99 fl_X9_49 (fun _ => o1) h2768 hk ((fld_eq (h2769.2 a (by rw [show kA _ a = 1 from hk]; decide))).trans f2764) ?_
      refine t_callV F e_X9_life_102 (s_X1_add (x_l X) V G b M Z T _ _ q4 r2765 h2768.1 kq4 k2766 (by omega)) cb_X1_add ml_X9_308 im_X1_add se_X1_add (fun _ => o6) h2768 kq4 rfl rfl (rest := []) rfl (Nat.le_of_ble_eq_true rfl) ⟨Nat.le_of_ble_eq_true rfl, Nat.le_of_ble_eq_true rfl⟩ ⟨Nat.le_of_ble_eq_true rfl, Nat.le_of_ble_eq_true rfl⟩ (fun r σ2770 hp => ?_)
      obtain ⟨h2772, rfl⟩ := hp
      have h2771 := HK.trans h2768 h2772 (by decide)
      refine m_aload_n F rfl e_X9_life_105 ?_
      refine t_getC F e_X9_life_106 fl_X9_49 (fun _ => o1) h2771 hk ((fld_eq (h2772.2 a (by rw [show kA _ a = 1 from hk]; decide))).trans ((fld_eq (h2769.2 a (by rw [show kA _ a = 1 from hk]; decide))).trans f2764)) ?_
      refine m_iload F rfl e_X9_life_109 ?_
      refine m_i2l F e_X9_life_111 ?_
      refine Wm.topl (fun x2773 _ => ?_)
      refine t_callV F e_X9_life_112 (s_X1_times (x_l X) V G b M Z T _ _ r2765 x2773 h2771.1 k2766  (by omega)) cb_X1_times ml_X9_311 im_X1_times se_X1_times (fun _ => o6) h2771 k2766 rfl rfl (rest := []) rfl (Nat.le_of_ble_eq_true rfl) ⟨Nat.le_of_ble_eq_true rfl, Nat.le_of_ble_eq_true rfl⟩ ⟨Nat.le_of_ble_eq_true rfl, Nat.le_of_ble_eq_true rfl⟩ (fun r σ2774 hp => ?_)
      obtain ⟨h2776, rfl⟩ := hp
      have h2775 := HK.trans h2771 h2776 (by decide)
      refine m_aload F rfl e_X9_life_115 ?_
      refine m_aload_n F rfl e_X9_life_117 ?_
      refine t_getC F e_X9_life_118 fl_X9_49 (fun _ => o1) h2775 hk ((fld_eq (h2776.2 a (by rw [show kA _ a = 1 from hk]; decide))).trans ((fld_eq (h2772.2 a (by rw [show kA _ a = 1 from hk]; decide))).trans ((fld_eq (h2769.2 a (by rw [show kA _ a = 1 from hk]; decide))).trans f2764))) ?_
      refine t_callV F e_X9_life_121 (s_X1_add (x_l X) V G b M Z T _ _ q3 r2765 h2775.1 kq3 k2766 (by omega)) cb_X1_add ml_X9_308 im_X1_add se_X1_add (fun _ => o6) h2775 kq3 rfl rfl (rest := []) rfl (Nat.le_of_ble_eq_true rfl) ⟨Nat.le_of_ble_eq_true rfl, Nat.le_of_ble_eq_true rfl⟩ ⟨Nat.le_of_ble_eq_true rfl, Nat.le_of_ble_eq_true rfl⟩ (fun r σ2777 hp => ?_)
      obtain ⟨h2779, rfl⟩ := hp
      have h2778 := HK.trans h2775 h2779 (by decide)
      refine m_iinc F (v := (u1 + 1)) (lv' := [(6, .int (u1 + 1)), (7, .int i1), (0, .ref a), (1, .int u3), (2, .int (nI n902)), (3, .ref q1), (4, .ref q3), (5, .ref q4)]) e_X9_life_124 rfl rfl (by decide) rfl ?_
      refine m_iinc F (v := (i1 + 1)) (lv' := [(7, .int (i1 + 1)), (6, .int (u1 + 1)), (0, .ref a), (1, .int u3), (2, .int (nI n902)), (3, .ref q1), (4, .ref q3), (5, .ref q4)]) e_X9_life_127 rfl rfl (by decide) rfl ?_
      refine m_goto F e_X9_life_130 ?_
      exact ih (i1 + 1) (u1 + 1) u3 q1 q3 q4 w1 _ h2778 ⟨kq1, kq3, kq4, ((fld_eq (h2779.2 q1 (by rw [show kA _ q1 = 15 from kq1]; decide))).trans ((fld_eq (h2776.2 q1 (by rw [show kA _ q1 = 15 from kq1]; decide))).trans ((fld_eq (h2772.2 q1 (by rw [show kA _ q1 = 15 from kq1]; decide))).trans ((fld_eq (h2769.2 q1 (by rw [show kA _ q1 = 15 from kq1]; decide))).trans hfw1)))), trivial⟩ (by have h9 := inc_lt (Int32.not_le.mp q80); have h8 := Int32.lt_iff_toInt_lt.mp (Int32.not_le.mp q80); omega)
set_option maxRecDepth 20000 in
theorem s_X9_life (l : Launch) (V : VX) (G : GH) (b M Z T N : Nat) (σ : Mem) (a : Nat) (x901 : Int32) (n902 : Nat) (h0 : HT V G (b, M, Z, T) σ) (hk : kA b a = 1) (hn902 : n902 ≤ 1) (hG : okG G) (hM : M + 0 ≤ 1000000000) : Ct l V yX9_life cX9_life 8 (some .long) 2 0 0 N σ [.ref a, .int x901, .int (nI n902)] (fun r τ => HK V G (b, M, Z, T) [0, 1, 2, 3, 4, 5, 7, 8, 9, 10, 11, 12, 13, 14, 15, 16, 17, 18, 19] σ τ ∧ ∃ x : Int64, r = some (.long x)) := by
  refine Ct.of (by decide) (Nat.le_of_ble_eq_true rfl) [(0, .ref a), (1, .int x901), (2, .int (nI n902))] rfl (fun X hX F hQ => ?_)
  have h1 : HK V G (b, M, Z, T) [0, 1, 2, 3, 4, 5, 7, 8, 9, 10, 11, 12, 13, 14, 15, 16, 17, 18, 19] σ σ := HK.start h0
  refine m_aload_n F rfl e_X9_life_0 ?_
  refine m_iload_n F rfl e_X9_life_1 ?_
  refine t_callV F e_X9_life_2 (s_X9_leaseAt (x_l X) V G b M Z T _ _ a x901 h1.1 hk hG (by omega)) cb_X9_leaseAt ml_X9_103 im_X9_leaseAt se_X9_leaseAt (fun _ => o1) h1 hk rfl rfl (rest := []) rfl (Nat.le_of_ble_eq_true rfl) ⟨Nat.le_of_ble_eq_true rfl, Nat.le_of_ble_eq_true rfl⟩ ⟨Nat.le_of_ble_eq_true rfl, Nat.le_of_ble_eq_true rfl⟩ (fun r σ2780 hp => ?_)
  obtain ⟨h2782, c2783⟩ := hp
  have h2781 := HK.trans h1 h2782 (by decide)
  rcases c2783 with rfl | ⟨n2784, r2785, hn2784, en2784, k2786, rfl⟩
  · refine m_astore_nN F (lv' := [(3, .null), (0, .ref a), (1, .int x901), (2, .int (nI n902))]) e_X9_life_5 (by decide) rfl ?_
    refine m_aload_nN F rfl e_X9_life_6 ?_
    refine m_ifnonnullN F e_X9_life_7 ?_
    refine m_ldc2 F kc_X9_149 e_X9_life_10 ?_
    exact m_lret F hQ e_X9_life_13 (⟨h2781, _, rfl⟩)
  · subst en2784
    refine m_astore_n F (lv' := [(3, .ref r2785), (0, .ref a), (1, .int (nI n2784)), (2, .int (nI n902))]) e_X9_life_5 (by decide) rfl ?_
    refine m_aload_n F rfl e_X9_life_6 ?_
    refine m_ifnonnullR F e_X9_life_7 ?_
    refine m_aload_n F rfl e_X9_life_14 ?_
    refine t_get F e_X9_life_15 fl_X9_42 (fun _ => o1) h2781 hk rfl (fun v hv f2787 => ?_)
    obtain ⟨r2788, k2789, rfl⟩ := hv
    refine m_astore F (lv' := [(4, .ref r2788), (3, .ref r2785), (0, .ref a), (1, .int (nI n2784)), (2, .int (nI n902))]) e_X9_life_18 (by decide) rfl ?_
    refine m_aload_n F rfl e_X9_life_20 ?_
    refine t_get F e_X9_life_21 fl_X9_46 (fun _ => o1) h2781 hk rfl (fun v hv f2790 => ?_)
    obtain ⟨r2791, k2792, rfl⟩ := hv
    refine m_astore F (lv' := [(5, .ref r2791), (4, .ref r2788), (3, .ref r2785), (0, .ref a), (1, .int (nI n2784)), (2, .int (nI n902))]) e_X9_life_24 (by decide) rfl ?_
    refine m_aload F rfl e_X9_life_26 ?_
    refine m_lconst F (v := 0) (by decide) e_X9_life_28 ?_
    refine t_callV F e_X9_life_29 (s_X1_set (x_l X) V G b M Z T _ _ r2788 0 h2781.1 k2789  (by omega)) cb_X1_set ml_X9_305 im_X1_set se_X1_set (fun _ => o6) h2781 k2789 rfl rfl (rest := []) rfl (Nat.le_of_ble_eq_true rfl) ⟨Nat.le_of_ble_eq_true rfl, Nat.le_of_ble_eq_true rfl⟩ ⟨Nat.le_of_ble_eq_true rfl, Nat.le_of_ble_eq_true rfl⟩ (fun r σ2793 hp => ?_)
    obtain ⟨h2795, rfl⟩ := hp
    have h2794 := HK.trans h2781 h2795 (by decide)
    refine m_aload F rfl e_X9_life_32 ?_
    refine m_lconst F (v := 0) (by decide) e_X9_life_34 ?_
    refine t_callV F e_X9_life_35 (s_X1_set (x_l X) V G b M Z T _ _ r2791 0 h2794.1 k2792  (by omega)) cb_X1_set ml_X9_305 im_X1_set se_X1_set (fun _ => o6) h2794 k2792 rfl rfl (rest := []) rfl (Nat.le_of_ble_eq_true rfl) ⟨Nat.le_of_ble_eq_true rfl, Nat.le_of_ble_eq_true rfl⟩ ⟨Nat.le_of_ble_eq_true rfl, Nat.le_of_ble_eq_true rfl⟩ (fun r σ2796 hp => ?_)
    obtain ⟨h2798, rfl⟩ := hp
    have h2797 := HK.trans h2794 h2798 (by decide)
    refine m_aload_n F rfl e_X9_life_38 ?_
    refine t_get F e_X9_life_39 fl_X9_125 (fun _ => o15) h2797 k2786 rfl (fun v hv f2799 => ?_)
    obtain ⟨x2800, rfl⟩ := hv
    refine m_if_ne F e_X9_life_42 (fun q42 => ?_) (fun q42 => ?_)
    · refine m_iconst F (v := 0) (by decide) e_X9_life_60 ?_
      refine m_istore F (lv' := [(6, .int 0), (5, .ref r2791), (4, .ref r2788), (3, .ref r2785), (0, .ref a), (1, .int (nI n2784)), (2, .int (nI n902))]) e_X9_life_61 (by decide) rfl ?_
      refine m_aload_n F rfl e_X9_life_63 ?_
      refine t_get F e_X9_life_64 fl_X9_119 (fun _ => o15) h2797 k2786 rfl (fun v hv f2801 => ?_)
      obtain ⟨x2802, rfl⟩ := hv
      refine m_aload_n F rfl e_X9_life_67 ?_
      refine t_callV F e_X9_life_68 (s_X5_left (x_l X) V G b M Z T _ _ r2785  h2797.1 k2786  (by omega)) cb_X5_left ml_X9_128 im_X5_left se_X5_left (fun _ => o15) h2797 k2786 rfl rfl (rest := [.int x2802]) rfl (Nat.le_of_ble_eq_true rfl) ⟨Nat.le_of_ble_eq_true rfl, Nat.le_of_ble_eq_true rfl⟩ ⟨Nat.le_of_ble_eq_true rfl, Nat.le_of_ble_eq_true rfl⟩ (fun r σ2803 hp => ?_)
      obtain ⟨h2805, x2806, rfl⟩ := hp
      have h2804 := HK.trans h2797 h2805 (by decide)
      refine m_isub F e_X9_life_71 ?_
      refine Wm.top (fun x2807 _ => ?_)
      refine m_istore F (lv' := [(7, .int x2807), (6, .int 0), (5, .ref r2791), (4, .ref r2788), (3, .ref r2785), (0, .ref a), (1, .int (nI n2784)), (2, .int (nI n902))]) e_X9_life_72 (by decide) rfl ?_
      refine Wm.lvsub (lv' := [(7, .int x2807), (6, .int 0), (0, .ref a), (1, .int (nI n2784)), (2, .int (nI n902)), (3, .ref r2785), (4, .ref r2788), (5, .ref r2791)]) ?_ [0, 1, 5, 6, 7, 4, 3, 2] rfl
      exact lp_X9_life_74 F hQ hk hn902 hG hM ((x2802.toInt - x2807.toInt).toNat + 1) x2807 0 (nI n2784) r2785 r2788 r2791 x2802 _ h2804 ⟨k2786, k2789, k2792, ((fld_eq (h2805.2 r2785 (by rw [show kA _ r2785 = 15 from k2786]; decide))).trans f2801), trivial⟩ (Nat.lt_succ_self _)
    · refine m_aload_n F rfl e_X9_life_45 ?_
      refine t_get F e_X9_life_46 fl_X9_114 (fun _ => o15) h2797 k2786 rfl (fun v hv f2808 => ?_)
      obtain ⟨x2809, rfl⟩ := hv
      refine m_aload_n F rfl e_X9_life_49 ?_
      refine t_get F e_X9_life_50 fl_X9_16 (fun _ => o1) h2797 hk rfl (fun v hv f2810 => ?_)
      obtain ⟨r2811, ⟨k2812, er2811⟩, rfl⟩ := hv
      replace er2811 : r2811 = b + 2 + 63 * G.bk := er2811
      refine t_get F e_X9_life_53 fl_X9_94 (fun _ => o7) h2797 k2812 rfl (fun v hv f2813 => ?_)
      obtain ⟨n2814, hn2814, rfl⟩ := hv
      replace hn2814 : n2814 ≤ M := hn2814
      refine m_isub F e_X9_life_56 ?_
      refine Wm.top (fun x2815 _ => ?_)
      refine m_goto F e_X9_life_57 ?_
      refine m_istore F (lv' := [(6, .int x2815), (5, .ref r2791), (4, .ref r2788), (3, .ref r2785), (0, .ref a), (1, .int (nI n2784)), (2, .int (nI n902))]) e_X9_life_61 (by decide) rfl ?_
      refine m_aload_n F rfl e_X9_life_63 ?_
      refine t_get F e_X9_life_64 fl_X9_119 (fun _ => o15) h2797 k2786 rfl (fun v hv f2816 => ?_)
      obtain ⟨x2817, rfl⟩ := hv
      refine m_aload_n F rfl e_X9_life_67 ?_
      refine t_callV F e_X9_life_68 (s_X5_left (x_l X) V G b M Z T _ _ r2785  h2797.1 k2786  (by omega)) cb_X5_left ml_X9_128 im_X5_left se_X5_left (fun _ => o15) h2797 k2786 rfl rfl (rest := [.int x2817]) rfl (Nat.le_of_ble_eq_true rfl) ⟨Nat.le_of_ble_eq_true rfl, Nat.le_of_ble_eq_true rfl⟩ ⟨Nat.le_of_ble_eq_true rfl, Nat.le_of_ble_eq_true rfl⟩ (fun r σ2818 hp => ?_)
      obtain ⟨h2820, x2821, rfl⟩ := hp
      have h2819 := HK.trans h2797 h2820 (by decide)
      refine m_isub F e_X9_life_71 ?_
      refine Wm.top (fun x2822 _ => ?_)
      refine m_istore F (lv' := [(7, .int x2822), (6, .int x2815), (5, .ref r2791), (4, .ref r2788), (3, .ref r2785), (0, .ref a), (1, .int (nI n2784)), (2, .int (nI n902))]) e_X9_life_72 (by decide) rfl ?_
      refine Wm.lvsub (lv' := [(7, .int x2822), (6, .int x2815), (0, .ref a), (1, .int (nI n2784)), (2, .int (nI n902)), (3, .ref r2785), (4, .ref r2788), (5, .ref r2791)]) ?_ [0, 1, 5, 6, 7, 4, 3, 2] rfl
      exact lp_X9_life_74 F hQ hk hn902 hG hM ((x2817.toInt - x2822.toInt).toNat + 1) x2822 x2815 (nI n2784) r2785 r2788 r2791 x2817 _ h2819 ⟨k2786, k2789, k2792, ((fld_eq (h2820.2 r2785 (by rw [show kA _ r2785 = 15 from k2786]; decide))).trans f2816), trivial⟩ (Nat.lt_succ_self _)
set_option maxRecDepth 20000 in
theorem lp_X9_peak_44 {V : VX} {G : GH} {X : MX} {b M Z T N : Nat} {σ : Mem} {a : Nat}   (F : Fx V X yX9_peak cX9_peak 7 (some .long) (rmd 7 0 0)) (hQ : Rt V X 0 0 N (fun r τ => HK V G (b, M + 1296, Z, T) [0, 1, 2, 3, 4, 5, 8, 9, 16] σ τ ∧ ∃ x : Int64, r = some (.long x))) (hk : kA b a = 1) (hG : okG G) (hM : M + 1296 ≤ 1000000000)  : ∀ (fuel : Nat) (i : Nat) (u1 : Int32) (c : Nat) (u3 : Int32) (q1 : Nat) (q3 : Nat) (τ : Mem), HK V G (b, M + 648 + 9 * i, Z, T) [0, 1, 2, 3, 4, 5, 8, 9, 16] σ τ → kA b q1 = 7 ∧ kA b q3 = 6 ∧ i ≤ 72 ∧ c ≤ 72 → 72 - i < fuel → Wm V X 7 N τ 0 0 44 [(6, .int (nI i)), (5, .int u1), (3, .int (nI c)), (0, .ref a), (1, .int u3), (2, .ref q1), (4, .ref q3)] [] := by
  intro fuel
  induction fuel with
  | zero => intro i u1 c u3 q1 q3 τ h1 hi hm; exact absurd hm (Nat.not_lt_zero _)
  | succ fuel ih =>
    intro i u1 c u3 q1 q3 τ h1 hi hm
    obtain ⟨kq1, kq3, hi⟩ := hi
    refine m_iload F rfl e_X9_peak_44 ?_
    refine m_iload_n F rfl e_X9_peak_46 ?_
    refine m_icmp_ge F e_X9_peak_47 (fun q47 => ?_) (fun q47 => ?_)
    · have c47 : i ≥ c := (nI_leI (a := c) (b := i) (by omega) (by omega)).mp q47
      refine m_aload F rfl e_X9_peak_85 ?_
      refine t_callV F e_X9_peak_87 (s_X1_isZero (x_l X) V G b (M + 648 + 9 * i) Z T _ _ q3  h1.1 kq3  (by omega)) cb_X1_isZero ml_X9_314 im_X1_isZero se_X1_isZero (fun _ => o6) h1 kq3 rfl rfl (rest := []) rfl (Nat.le_of_ble_eq_true rfl) ⟨Nat.le_of_ble_eq_true rfl, Nat.le_of_ble_eq_true rfl⟩ ⟨Nat.le_of_ble_eq_true rfl, Nat.le_of_ble_eq_true rfl⟩ (fun r σ2823 hp => ?_)
      obtain ⟨h2825, n2826, hn2826, rfl⟩ := hp
      have h2824 := HK.trans h1 h2825 (by decide)
      refine m_if_eq F e_X9_peak_90 (fun q90 => ?_) (fun q90 => ?_)
      · have c90 : n2826 = 0 := (nI_eq (a := n2826) (b := 0) (by omega) (by omega)).mp q90
        refine m_iload_n F rfl e_X9_peak_97 ?_
        refine m_if_ne F e_X9_peak_98 (fun q98 => ?_) (fun q98 => ?_)
        · refine m_aload F rfl e_X9_peak_107 ?_
          refine t_callV F e_X9_peak_109 (s_X1_asLong (x_l X) V G b (M + 648 + 9 * i) Z T _ _ q3  h2824.1 kq3  (by omega)) cb_X1_asLong ml_X9_157 im_X1_asLong se_X1_asLong (fun _ => o6) h2824 kq3 rfl rfl (rest := []) rfl (Nat.le_of_ble_eq_true rfl) ⟨Nat.le_of_ble_eq_true rfl, Nat.le_of_ble_eq_true rfl⟩ ⟨Nat.le_of_ble_eq_true rfl, Nat.le_of_ble_eq_true rfl⟩ (fun r σ2827 hp => ?_)
          obtain ⟨h2829, x2830, rfl⟩ := hp
          have h2828 := HK.trans h2824 h2829 (by decide)
          exact m_lret F hQ e_X9_peak_112 (⟨(h2828.mono (M' := M + 1296) (Z' := Z) (by omega) (by intro e; first | rfl | assumption | omega)), _, rfl⟩)
        · refine m_iload F rfl e_X9_peak_101 ?_
          refine m_i2l F e_X9_peak_103 ?_
          refine Wm.topl (fun x2831 _ => ?_)
          refine m_goto F e_X9_peak_104 ?_
          exact m_lret F hQ e_X9_peak_112 (⟨(h2824.mono (M' := M + 1296) (Z' := Z) (by omega) (by intro e; first | rfl | assumption | omega)), _, rfl⟩)
      · have c90 : n2826 ≠ 0 := by have hh := mt (nI_eq (a := n2826) (b := 0) (by omega) (by omega)).mpr q90; omega
        refine m_ldc2 F kc_X9_318 e_X9_peak_93 ?_
        exact m_lret F hQ e_X9_peak_96 (⟨(h2824.mono (M' := M + 1296) (Z' := Z) (by omega) (by intro e; first | rfl | assumption | omega)), _, rfl⟩)
    · have c47 : i < c := by have hh := mt (nI_leI (a := c) (b := i) (by omega) (by omega)).mpr q47; omega
      refine m_aload_n F rfl e_X9_peak_50 ?_
      refine t_callV F e_X9_peak_51 (s_X2_periodGoesBy (x_l X) V G b (M + 648 + 9 * i) Z T _ _ q1  h1.1 kq1  (by omega)) cb_X2_periodGoesBy ml_X9_100 im_X2_periodGoesBy se_X2_periodGoesBy (fun _ => o7) h1 kq1 rfl rfl (rest := []) rfl (Nat.le_of_ble_eq_true rfl) ⟨Nat.le_of_ble_eq_true rfl, Nat.le_of_ble_eq_true rfl⟩ ⟨Nat.le_of_ble_eq_true rfl, Nat.le_of_ble_eq_true rfl⟩ (fun r σ2832 hp => ?_)
      obtain ⟨h2834, rfl⟩ := hp
      have h2833 := HK.trans h1 h2834 (by decide)
      refine m_aload_n F rfl e_X9_peak_54 ?_
      refine t_get F e_X9_peak_55 fl_X9_327 (fun _ => o7) h2833 kq1 rfl (fun v hv f2835 => ?_)
      obtain rfl : v = .ref (q1 + 8) := hv
      refine m_aload F rfl e_X9_peak_58 ?_
      refine t_callV F e_X9_peak_60 (s_X1_isAbove (x_l X) V G b (M + 648 + 9 * i + 9) Z T _ _ (q1 + 8) q3 h2833.1 (kA_7 kq1 (r := 8) (by decide)) kq3 (by omega)) cb_X1_isAbove ml_X9_330 im_X1_isAbove se_X1_isAbove (fun _ => o6) h2833 (kA_7 kq1 (r := 8) (by decide)) rfl rfl (rest := []) rfl (Nat.le_of_ble_eq_true rfl) ⟨Nat.le_of_ble_eq_true rfl, Nat.le_of_ble_eq_true rfl⟩ ⟨Nat.le_of_ble_eq_true rfl, Nat.le_of_ble_eq_true rfl⟩ (fun r σ2836 hp => ?_)
      obtain ⟨h2838, n2839, hn2839, rfl⟩ := hp
      have h2837 := HK.trans h2833 h2838 (by decide)
      refine m_if_eq F e_X9_peak_63 (fun q63 => ?_) (fun q63 => ?_)
      · have c63 : n2839 = 0 := (nI_eq (a := n2839) (b := 0) (by omega) (by omega)).mp q63
        refine m_iinc F (v := nI (i + 1)) (lv' := [(6, .int (nI (i + 1))), (5, .int u1), (3, .int (nI c)), (0, .ref a), (1, .int u3), (2, .ref q1), (4, .ref q3)]) e_X9_peak_79 rfl (nI_add i 1) (by decide) rfl ?_
        refine m_goto F e_X9_peak_82 ?_
        exact ih (i + 1) u1 c u3 q1 q3 _ (h2837.mono (M' := M + 648 + 9 * (i + 1)) (Z' := Z) (by omega) (by intro e9; first | exact e9 | rfl)) ⟨kq1, kq3, (by omega)⟩ (by omega)
      · have c63 : n2839 ≠ 0 := by have hh := mt (nI_eq (a := n2839) (b := 0) (by omega) (by omega)).mpr q63; omega
        refine m_aload F rfl e_X9_peak_66 ?_
        refine m_aload_n F rfl e_X9_peak_68 ?_
        refine t_getC F e_X9_peak_69 fl_X9_327 (fun _ => o7) h2837 kq1 ((fld_eq (h2838.2 q1 (by rw [show kA _ q1 = 7 from kq1]; decide))).trans f2835) ?_
        refine t_callV F e_X9_peak_72 (s_X1_copyFrom (x_l X) V G b (M + 648 + 9 * i + 9) Z T _ _ q3 (q1 + 8) h2837.1 kq3 (kA_7 kq1 (r := 8) (by decide)) (by omega)) cb_X1_copyFrom ml_X9_284 im_X1_copyFrom se_X1_copyFrom (fun _ => o6) h2837 kq3 rfl rfl (rest := []) rfl (Nat.le_of_ble_eq_true rfl) ⟨Nat.le_of_ble_eq_true rfl, Nat.le_of_ble_eq_true rfl⟩ ⟨Nat.le_of_ble_eq_true rfl, Nat.le_of_ble_eq_true rfl⟩ (fun r σ2840 hp => ?_)
        obtain ⟨h2842, rfl⟩ := hp
        have h2841 := HK.trans h2837 h2842 (by decide)
        refine m_iload F rfl e_X9_peak_75 ?_
        refine m_istore F (lv' := [(5, .int (nI i)), (6, .int (nI i)), (3, .int (nI c)), (0, .ref a), (1, .int u3), (2, .ref q1), (4, .ref q3)]) e_X9_peak_77 (by decide) rfl ?_
        refine m_iinc F (v := nI (i + 1)) (lv' := [(6, .int (nI (i + 1))), (5, .int (nI i)), (3, .int (nI c)), (0, .ref a), (1, .int u3), (2, .ref q1), (4, .ref q3)]) e_X9_peak_79 rfl (nI_add i 1) (by decide) rfl ?_
        refine m_goto F e_X9_peak_82 ?_
        exact ih (i + 1) (nI i) c u3 q1 q3 _ (h2841.mono (M' := M + 648 + 9 * (i + 1)) (Z' := Z) (by omega) (by intro e9; first | exact e9 | rfl)) ⟨kq1, kq3, (by omega)⟩ (by omega)
set_option maxRecDepth 20000 in
theorem s_X9_peak (l : Launch) (V : VX) (G : GH) (b M Z T N : Nat) (σ : Mem) (a : Nat) (x901 : Int32) (h0 : HT V G (b, M, Z, T) σ) (hk : kA b a = 1) (hG : okG G) (hM : M + 1296 ≤ 1000000000) : Ct l V yX9_peak cX9_peak 7 (some .long) 7 0 0 N σ [.ref a, .int x901] (fun r τ => HK V G (b, M + 1296, Z, T) [0, 1, 2, 3, 4, 5, 8, 9, 16] σ τ ∧ ∃ x : Int64, r = some (.long x)) := by
  refine Ct.of (by decide) (Nat.le_of_ble_eq_true rfl) [(0, .ref a), (1, .int x901)] rfl (fun X hX F hQ => ?_)
  have h1 : HK V G (b, M, Z, T) [0, 1, 2, 3, 4, 5, 8, 9, 16] σ σ := HK.start h0
  refine m_iload_n F rfl e_X9_peak_0 ?_
  refine m_if_lt F e_X9_peak_1 (fun q1 => ?_) (fun q1 => ?_)
  · refine m_ldc2 F kc_X9_149 e_X9_peak_9 ?_
    exact m_lret F hQ e_X9_peak_12 (⟨(h1.mono (M' := M + 1296) (Z' := Z) (by omega) (by intro e; first | rfl | assumption | omega)), _, rfl⟩)
  · obtain ⟨n2843, hn2843, rfl⟩ := nI_nn (x := x901) (fun e => q1 (Int32.lt_of_lt_of_le e (by decide)))
    have c1 : n2843 ≥ 0 := by have hh := mt (nI_ltI (a := n2843) (b := 0) (by omega) (by omega)).mpr q1; omega
    refine m_iload_n F rfl e_X9_peak_4 ?_
    refine m_iconst F (v := 1) (by decide) e_X9_peak_5 ?_
    refine m_icmp_le F e_X9_peak_6 (fun q6 => ?_) (fun q6 => ?_)
    · have c6 : n2843 ≤ 1 := (nI_leI (a := n2843) (b := 1) (by omega) (by omega)).mp q6
      refine m_aload_n F rfl e_X9_peak_13 ?_
      refine m_iconst F (v := 0) (by decide) e_X9_peak_14 ?_
      refine t_callV F e_X9_peak_15 (s_X9_bookIn (x_l X) V G b M Z T _ _ a 0 h1.1 hk (by omega) hG (by omega)) cb_X9_bookIn ml_X9_271 im_X9_bookIn se_X9_bookIn (fun _ => o1) h1 hk rfl rfl (rest := []) rfl (Nat.le_of_ble_eq_true rfl) ⟨Nat.le_of_ble_eq_true rfl, Nat.le_of_ble_eq_true rfl⟩ ⟨Nat.le_of_ble_eq_true rfl, Nat.le_of_ble_eq_true rfl⟩ (fun r σ2844 hp => ?_)
      obtain ⟨h2846, r2847, k2848, rfl⟩ := hp
      have h2845 := HK.trans h1 h2846 (by decide)
      refine m_astore_n F (lv' := [(2, .ref r2847), (0, .ref a), (1, .int (nI n2843))]) e_X9_peak_18 (by decide) rfl ?_
      refine m_aload_n F rfl e_X9_peak_19 ?_
      refine m_bipush F (v := 72) (by decide) e_X9_peak_20 ?_
      refine t_callV F e_X9_peak_22 (s_X9_coming (x_l X) V G b (M + 648) Z T _ _ a 72 h2845.1 hk (by omega) hG (by omega)) cb_X9_coming ml_X9_324 im_X9_coming se_X9_coming (fun _ => o1) h2845 hk rfl rfl (rest := []) rfl (Nat.le_of_ble_eq_true rfl) ⟨Nat.le_of_ble_eq_true rfl, Nat.le_of_ble_eq_true rfl⟩ ⟨Nat.le_of_ble_eq_true rfl, Nat.le_of_ble_eq_true rfl⟩ (fun r σ2849 hp => ?_)
      obtain ⟨h2851, n2852, hn2852, rfl⟩ := hp
      have h2850 := HK.trans h2845 h2851 (by decide)
      refine m_istore_n F (lv' := [(3, .int (nI n2852)), (2, .ref r2847), (0, .ref a), (1, .int (nI n2843))]) e_X9_peak_25 (by decide) rfl ?_
      refine m_aload_n F rfl e_X9_peak_26 ?_
      refine t_get F e_X9_peak_27 fl_X9_42 (fun _ => o1) h2850 hk rfl (fun v hv f2853 => ?_)
      obtain ⟨r2854, k2855, rfl⟩ := hv
      refine m_astore F (lv' := [(4, .ref r2854), (3, .int (nI n2852)), (2, .ref r2847), (0, .ref a), (1, .int (nI n2843))]) e_X9_peak_30 (by decide) rfl ?_
      refine m_aload F rfl e_X9_peak_32 ?_
      refine m_lconst F (v := 0) (by decide) e_X9_peak_34 ?_
      refine t_callV F e_X9_peak_35 (s_X1_set (x_l X) V G b (M + 648) Z T _ _ r2854 0 h2850.1 k2855  (by omega)) cb_X1_set ml_X9_305 im_X1_set se_X1_set (fun _ => o6) h2850 k2855 rfl rfl (rest := []) rfl (Nat.le_of_ble_eq_true rfl) ⟨Nat.le_of_ble_eq_true rfl, Nat.le_of_ble_eq_true rfl⟩ ⟨Nat.le_of_ble_eq_true rfl, Nat.le_of_ble_eq_true rfl⟩ (fun r σ2856 hp => ?_)
      obtain ⟨h2858, rfl⟩ := hp
      have h2857 := HK.trans h2850 h2858 (by decide)
      refine m_iconst F (v := 0) (by decide) e_X9_peak_38 ?_
      refine m_istore F (lv' := [(5, .int 0), (4, .ref r2854), (3, .int (nI n2852)), (2, .ref r2847), (0, .ref a), (1, .int (nI n2843))]) e_X9_peak_39 (by decide) rfl ?_
      refine m_iconst F (v := 0) (by decide) e_X9_peak_41 ?_
      refine m_istore F (lv' := [(6, .int 0), (5, .int 0), (4, .ref r2854), (3, .int (nI n2852)), (2, .ref r2847), (0, .ref a), (1, .int (nI n2843))]) e_X9_peak_42 (by decide) rfl ?_
      refine Wm.lvsub (lv' := [(6, .int 0), (5, .int 0), (3, .int (nI n2852)), (0, .ref a), (1, .int (nI n2843)), (2, .ref r2847), (4, .ref r2854)]) ?_ [0, 1, 3, 5, 6, 4, 2] rfl
      exact lp_X9_peak_44 F hQ hk hG hM (72 - 0 + 1) 0 0 n2852 (nI n2843) r2847 r2854 _ (h2857.mono (M' := M + 648 + 9 * 0) (Z' := Z) (by omega) (by intro e9; first | exact e9 | rfl)) ⟨k2848, k2855, (by omega)⟩ (Nat.lt_succ_self _)
    · have c6 : n2843 > 1 := by have hh := mt (nI_leI (a := n2843) (b := 1) (by omega) (by omega)).mpr q6; omega
      refine m_ldc2 F kc_X9_149 e_X9_peak_9 ?_
      exact m_lret F hQ e_X9_peak_12 (⟨(h1.mono (M' := M + 1296) (Z' := Z) (by omega) (by intro e; first | rfl | assumption | omega)), _, rfl⟩)
set_option maxRecDepth 20000 in
theorem lp_X9_partFor_28 {V : VX} {G : GH} {X : MX} {b M Z T N : Nat} {σ : Mem} {a : Nat} {x902 : Int64}  (F : Fx V X yX9_partFor cX9_partFor 6 (some .int) (rmd 2 0 0)) (hQ : Rt V X 0 0 N (fun r τ => HK V G (b, M, Z, T) [0, 1, 2, 3, 4, 5, 7, 8, 9, 10, 11, 12, 13, 14, 15, 16, 17, 18, 19] σ τ ∧ ∃ x : Int32, r = some (.int x))) (hk : kA b a = 1) (hG : okG G) (hM : M + 0 ≤ 1000000000)  : ∀ (fuel : Nat) (i : Nat) (u3 : Int32) (q1 : Nat) (τ : Mem), HK V G (b, M, Z, T) [0, 1, 2, 3, 4, 5, 7, 8, 9, 10, 11, 12, 13, 14, 15, 16, 17, 18, 19] σ τ → kA b q1 = 15 ∧ i ≤ 1000 → 1000 - i < fuel → Wm V X 6 N τ 0 0 28 [(5, .int (nI i)), (0, .ref a), (1, .int u3), (2, .long x902), (4, .ref q1)] [] := by
  intro fuel
  induction fuel with
  | zero => intro i u3 q1 τ h1 hi hm; exact absurd hm (Nat.not_lt_zero _)
  | succ fuel ih =>
    intro i u3 q1 τ h1 hi hm
    obtain ⟨kq1, hi⟩ := hi
    refine m_iload F rfl e_X9_partFor_28 ?_
    refine m_sipush F (v := 999) (by decide) e_X9_partFor_30 ?_
    refine m_icmp_gt F e_X9_partFor_33 (fun q33 => ?_) (fun q33 => ?_)
    · have c33 : i > 999 := (nI_ltI (a := 999) (b := i) (by omega) (by omega)).mp q33
      refine m_bipush F (v := (-2)) (by decide) e_X9_partFor_117 ?_
      exact m_iret F hQ e_X9_partFor_119 (⟨h1, _, rfl⟩)
    · have c33 : i ≤ 999 := by have hh := mt (nI_ltI (a := 999) (b := i) (by omega) (by omega)).mpr q33; omega
      refine m_aload_n F rfl e_X9_partFor_36 ?_
      refine t_get F e_X9_partFor_37 fl_X9_42 (fun _ => o1) h1 hk rfl (fun v hv f2859 => ?_)
      obtain ⟨r2860, k2861, rfl⟩ := hv
      refine m_aload F rfl e_X9_partFor_40 ?_
      refine t_get F e_X9_partFor_42 fl_X9_151 (fun _ => o15) h1 kq1 rfl (fun v hv f2862 => ?_)
      obtain ⟨r2863, k2864, rfl⟩ := hv
      refine t_callV F e_X9_partFor_45 (s_X1_copyFrom (x_l X) V G b M Z T _ _ r2860 r2863 h1.1 k2861 k2864 (by omega)) cb_X1_copyFrom ml_X9_284 im_X1_copyFrom se_X1_copyFrom (fun _ => o6) h1 k2861 rfl rfl (rest := []) rfl (Nat.le_of_ble_eq_true rfl) ⟨Nat.le_of_ble_eq_true rfl, Nat.le_of_ble_eq_true rfl⟩ ⟨Nat.le_of_ble_eq_true rfl, Nat.le_of_ble_eq_true rfl⟩ (fun r σ2865 hp => ?_)
      obtain ⟨h2867, rfl⟩ := hp
      have h2866 := HK.trans h1 h2867 (by decide)
      refine m_aload_n F rfl e_X9_partFor_48 ?_
      refine t_getC F e_X9_partFor_49 fl_X9_42 (fun _ => o1) h2866 hk ((fld_eq (h2867.2 a (by rw [show kA _ a = 1 from hk]; decide))).trans f2859) ?_
      refine m_iload F rfl e_X9_partFor_52 ?_
      refine m_i2l F e_X9_partFor_54 ?_
      refine Wm.topl (fun x2868 _ => ?_)
      refine m_ldc2 F kc_X9_241 e_X9_partFor_55 ?_
      refine t_callV F e_X9_partFor_58 (s_X1_shareDown (x_l X) V G b M Z T _ _ r2860 x2868 1000 h2866.1 k2861  (by omega)) cb_X1_shareDown ml_X9_334 im_X1_shareDown se_X1_shareDown (fun _ => o6) h2866 k2861 rfl rfl (rest := []) rfl (Nat.le_of_ble_eq_true rfl) ⟨Nat.le_of_ble_eq_true rfl, Nat.le_of_ble_eq_true rfl⟩ ⟨Nat.le_of_ble_eq_true rfl, Nat.le_of_ble_eq_true rfl⟩ (fun r σ2869 hp => ?_)
      obtain ⟨h2871, rfl⟩ := hp
      have h2870 := HK.trans h2866 h2871 (by decide)
      refine m_aload_n F rfl e_X9_partFor_61 ?_
      refine t_get F e_X9_partFor_62 fl_X9_46 (fun _ => o1) h2870 hk rfl (fun v hv f2872 => ?_)
      obtain ⟨r2873, k2874, rfl⟩ := hv
      refine m_aload F rfl e_X9_partFor_65 ?_
      refine t_get F e_X9_partFor_67 fl_X9_154 (fun _ => o15) h2870 kq1 rfl (fun v hv f2875 => ?_)
      obtain ⟨r2876, k2877, rfl⟩ := hv
      refine t_callV F e_X9_partFor_70 (s_X1_copyFrom (x_l X) V G b M Z T _ _ r2873 r2876 h2870.1 k2874 k2877 (by omega)) cb_X1_copyFrom ml_X9_284 im_X1_copyFrom se_X1_copyFrom (fun _ => o6) h2870 k2874 rfl rfl (rest := []) rfl (Nat.le_of_ble_eq_true rfl) ⟨Nat.le_of_ble_eq_true rfl, Nat.le_of_ble_eq_true rfl⟩ ⟨Nat.le_of_ble_eq_true rfl, Nat.le_of_ble_eq_true rfl⟩ (fun r σ2878 hp => ?_)
      obtain ⟨h2880, rfl⟩ := hp
      have h2879 := HK.trans h2870 h2880 (by decide)
      refine m_aload_n F rfl e_X9_partFor_73 ?_
      refine t_getC F e_X9_partFor_74 fl_X9_46 (fun _ => o1) h2879 hk ((fld_eq (h2880.2 a (by rw [show kA _ a = 1 from hk]; decide))).trans f2872) ?_
      refine m_iload F rfl e_X9_partFor_77 ?_
      refine m_i2l F e_X9_partFor_79 ?_
      refine Wm.topl (fun x2881 _ => ?_)
      refine m_ldc2 F kc_X9_241 e_X9_partFor_80 ?_
      refine t_callV F e_X9_partFor_83 (s_X1_shareDown (x_l X) V G b M Z T _ _ r2873 x2881 1000 h2879.1 k2874  (by omega)) cb_X1_shareDown ml_X9_334 im_X1_shareDown se_X1_shareDown (fun _ => o6) h2879 k2874 rfl rfl (rest := []) rfl (Nat.le_of_ble_eq_true rfl) ⟨Nat.le_of_ble_eq_true rfl, Nat.le_of_ble_eq_true rfl⟩ ⟨Nat.le_of_ble_eq_true rfl, Nat.le_of_ble_eq_true rfl⟩ (fun r σ2882 hp => ?_)
      obtain ⟨h2884, rfl⟩ := hp
      have h2883 := HK.trans h2879 h2884 (by decide)
      refine m_aload_n F rfl e_X9_partFor_86 ?_
      refine t_getC F e_X9_partFor_87 fl_X9_42 (fun _ => o1) h2883 hk ((fld_eq (h2884.2 a (by rw [show kA _ a = 1 from hk]; decide))).trans ((fld_eq (h2880.2 a (by rw [show kA _ a = 1 from hk]; decide))).trans ((fld_eq (h2871.2 a (by rw [show kA _ a = 1 from hk]; decide))).trans ((fld_eq (h2867.2 a (by rw [show kA _ a = 1 from hk]; decide))).trans f2859)))) ?_
      refine m_aload_n F rfl e_X9_partFor_90 ?_
      refine t_getC F e_X9_partFor_91 fl_X9_46 (fun _ => o1) h2883 hk ((fld_eq (h2884.2 a (by rw [show kA _ a = 1 from hk]; decide))).trans ((fld_eq (h2880.2 a (by rw [show kA _ a = 1 from hk]; decide))).trans f2872)) ?_
      refine t_callV F e_X9_partFor_94 (s_X1_subtract (x_l X) V G b M Z T _ _ r2860 r2873 h2883.1 k2861 k2874 (by omega)) cb_X1_subtract ml_X9_338 im_X1_subtract se_X1_subtract (fun _ => o6) h2883 k2861 rfl rfl (rest := []) rfl (Nat.le_of_ble_eq_true rfl) ⟨Nat.le_of_ble_eq_true rfl, Nat.le_of_ble_eq_true rfl⟩ ⟨Nat.le_of_ble_eq_true rfl, Nat.le_of_ble_eq_true rfl⟩ (fun r σ2885 hp => ?_)
      obtain ⟨h2887, rfl⟩ := hp
      have h2886 := HK.trans h2883 h2887 (by decide)
      refine m_aload_n F rfl e_X9_partFor_97 ?_
      refine t_getC F e_X9_partFor_98 fl_X9_42 (fun _ => o1) h2886 hk ((fld_eq (h2887.2 a (by rw [show kA _ a = 1 from hk]; decide))).trans ((fld_eq (h2884.2 a (by rw [show kA _ a = 1 from hk]; decide))).trans ((fld_eq (h2880.2 a (by rw [show kA _ a = 1 from hk]; decide))).trans ((fld_eq (h2871.2 a (by rw [show kA _ a = 1 from hk]; decide))).trans ((fld_eq (h2867.2 a (by rw [show kA _ a = 1 from hk]; decide))).trans f2859))))) ?_
      refine m_lload_n F rfl e_X9_partFor_101 ?_
      refine t_callV F e_X9_partFor_102 (s_X1_isAtLeast (x_l X) V G b M Z T _ _ r2860 x902 h2886.1 k2861  (by omega)) cb_X1_isAtLeast ml_X9_247 im_X1_isAtLeast se_X1_isAtLeast (fun _ => o6) h2886 k2861 rfl rfl (rest := []) rfl (Nat.le_of_ble_eq_true rfl) ⟨Nat.le_of_ble_eq_true rfl, Nat.le_of_ble_eq_true rfl⟩ ⟨Nat.le_of_ble_eq_true rfl, Nat.le_of_ble_eq_true rfl⟩ (fun r σ2888 hp => ?_)
      obtain ⟨h2890, n2891, hn2891, rfl⟩ := hp
      have h2889 := HK.trans h2886 h2890 (by decide)
      refine m_if_eq F e_X9_partFor_105 (fun q105 => ?_) (fun q105 => ?_)
      · have c105 : n2891 = 0 := (nI_eq (a := n2891) (b := 0) (by omega) (by omega)).mp q105
        refine m_iinc F (v := nI (i + 1)) (lv' := [(5, .int (nI (i + 1))), (0, .ref a), (1, .int u3), (2, .long x902), (4, .ref q1)]) e_X9_partFor_111 rfl (nI_add i 1) (by decide) rfl ?_
        refine m_goto F e_X9_partFor_114 ?_
        exact ih (i + 1) u3 q1 _ h2889 ⟨kq1, (by omega)⟩ (by omega)
      · have c105 : n2891 ≠ 0 := by have hh := mt (nI_eq (a := n2891) (b := 0) (by omega) (by omega)).mpr q105; omega
        refine m_iload F rfl e_X9_partFor_108 ?_
        exact m_iret F hQ e_X9_partFor_110 (⟨h2889, _, rfl⟩)
set_option maxRecDepth 20000 in
theorem s_X9_partFor (l : Launch) (V : VX) (G : GH) (b M Z T N : Nat) (σ : Mem) (a : Nat) (x901 : Int32) (x902 : Int64) (h0 : HT V G (b, M, Z, T) σ) (hk : kA b a = 1) (hG : okG G) (hM : M + 0 ≤ 1000000000) : Ct l V yX9_partFor cX9_partFor 6 (some .int) 2 0 0 N σ [.ref a, .int x901, .long x902] (fun r τ => HK V G (b, M, Z, T) [0, 1, 2, 3, 4, 5, 7, 8, 9, 10, 11, 12, 13, 14, 15, 16, 17, 18, 19] σ τ ∧ ∃ x : Int32, r = some (.int x)) := by
  refine Ct.of (by decide) (Nat.le_of_ble_eq_true rfl) [(0, .ref a), (1, .int x901), (2, .long x902)] rfl (fun X hX F hQ => ?_)
  have h1 : HK V G (b, M, Z, T) [0, 1, 2, 3, 4, 5, 7, 8, 9, 10, 11, 12, 13, 14, 15, 16, 17, 18, 19] σ σ := HK.start h0
  refine m_aload_n F rfl e_X9_partFor_0 ?_
  refine m_iload_n F rfl e_X9_partFor_1 ?_
  refine t_callV F e_X9_partFor_2 (s_X9_leaseAt (x_l X) V G b M Z T _ _ a x901 h1.1 hk hG (by omega)) cb_X9_leaseAt ml_X9_103 im_X9_leaseAt se_X9_leaseAt (fun _ => o1) h1 hk rfl rfl (rest := []) rfl (Nat.le_of_ble_eq_true rfl) ⟨Nat.le_of_ble_eq_true rfl, Nat.le_of_ble_eq_true rfl⟩ ⟨Nat.le_of_ble_eq_true rfl, Nat.le_of_ble_eq_true rfl⟩ (fun r σ2892 hp => ?_)
  obtain ⟨h2894, c2895⟩ := hp
  have h2893 := HK.trans h1 h2894 (by decide)
  rcases c2895 with rfl | ⟨n2896, r2897, hn2896, en2896, k2898, rfl⟩
  · refine m_ifnonnullN F e_X9_partFor_5 ?_
    refine m_iconst F (v := (-1)) (by decide) e_X9_partFor_8 ?_
    exact m_iret F hQ e_X9_partFor_9 (⟨h2893, _, rfl⟩)
  · subst en2896
    refine m_ifnonnullR F e_X9_partFor_5 ?_
    refine m_aload_n F rfl e_X9_partFor_10 ?_
    refine m_iload_n F rfl e_X9_partFor_11 ?_
    refine t_callV F e_X9_partFor_12 (s_X9_runningAt (x_l X) V G b M Z T _ _ a (nI n2896) h2893.1 hk hG (by omega)) cb_X9_runningAt ml_X9_203 im_X9_runningAt se_X9_runningAt (fun _ => o1) h2893 hk rfl rfl (rest := []) rfl (Nat.le_of_ble_eq_true rfl) ⟨Nat.le_of_ble_eq_true rfl, Nat.le_of_ble_eq_true rfl⟩ ⟨Nat.le_of_ble_eq_true rfl, Nat.le_of_ble_eq_true rfl⟩ (fun r σ2899 hp => ?_)
    obtain ⟨h2901, c2902⟩ := hp
    have h2900 := HK.trans h2893 h2901 (by decide)
    rcases c2902 with rfl | ⟨n2903, r2904, hn2903, en2903, k2905, rfl⟩
    · refine m_astoreN F (lv' := [(4, .null), (0, .ref a), (1, .int (nI n2896)), (2, .long x902)]) e_X9_partFor_15 (by decide) rfl ?_
      refine m_aloadN F rfl e_X9_partFor_17 ?_
      refine m_ifnonnullN F e_X9_partFor_19 ?_
      refine m_bipush F (v := (-2)) (by decide) e_X9_partFor_22 ?_
      exact m_iret F hQ e_X9_partFor_24 (⟨h2900, _, rfl⟩)
    · refine m_astore F (lv' := [(4, .ref r2904), (0, .ref a), (1, .int (nI n2896)), (2, .long x902)]) e_X9_partFor_15 (by decide) rfl ?_
      refine m_aload F rfl e_X9_partFor_17 ?_
      refine m_ifnonnullR F e_X9_partFor_19 ?_
      refine m_iconst F (v := 1) (by decide) e_X9_partFor_25 ?_
      refine m_istore F (lv' := [(5, .int 1), (4, .ref r2904), (0, .ref a), (1, .int (nI n2896)), (2, .long x902)]) e_X9_partFor_26 (by decide) rfl ?_
      refine Wm.lvsub (lv' := [(5, .int 1), (0, .ref a), (1, .int (nI n2896)), (2, .long x902), (4, .ref r2904)]) ?_ [0, 2, 3, 4, 1] rfl
      exact lp_X9_partFor_28 F hQ hk hG hM (1000 - 1 + 1) 1 (nI n2896) r2904 _ h2900 ⟨k2905, (by omega)⟩ (Nat.lt_succ_self _)
set_option maxRecDepth 20000 in
theorem lp_X9_latest_31 {V : VX} {G : GH} {X : MX} {b M Z T N : Nat} {σ : Mem} {a : Nat}   (F : Fx V X yX9_latest cX9_latest 5 (some .int) (rmd 3 0 0)) (hQ : Rt V X 0 0 N (fun r τ => HK V G (b, M, Z, T) [0, 1, 2, 3, 4, 5, 6, 7, 8, 9, 10, 11, 12, 13, 14, 15, 16, 17, 18, 19] σ τ ∧ ∃ x : Int32, r = some (.int x))) (hk : kA b a = 1) (hG : okG G) (hM : M + 0 ≤ 1000000000)  : ∀ (fuel : Nat) (i : Nat) (c : Nat) (u3 : Int32) (u4 : Int32) (τ : Mem), HK V G (b, M, Z, T) [0, 1, 2, 3, 4, 5, 6, 7, 8, 9, 10, 11, 12, 13, 14, 15, 16, 17, 18, 19] σ τ → i ≤ 40 ∧ c ≤ 40 → 40 - i < fuel → Wm V X 5 N τ 0 0 31 [(4, .int (nI i)), (3, .int (nI c)), (0, .ref a), (1, .int u3), (2, .int u4)] [] := by
  intro fuel
  induction fuel with
  | zero => intro i c u3 u4 τ h1 hi hm; exact absurd hm (Nat.not_lt_zero _)
  | succ fuel ih =>
    intro i c u3 u4 τ h1 hi hm
    refine m_iload F rfl e_X9_latest_31 ?_
    refine m_iload_n F rfl e_X9_latest_33 ?_
    refine m_icmp_ge F e_X9_latest_34 (fun q34 => ?_) (fun q34 => ?_)
    · have c34 : i ≥ c := (nI_leI (a := c) (b := i) (by omega) (by omega)).mp q34
      refine m_bipush F (v := (-2)) (by decide) e_X9_latest_96 ?_
      exact m_iret F hQ e_X9_latest_98 (⟨h1, _, rfl⟩)
    · have c34 : i < c := by have hh := mt (nI_leI (a := c) (b := i) (by omega) (by omega)).mpr q34; omega
      refine m_aload_n F rfl e_X9_latest_37 ?_
      refine t_get F e_X9_latest_38 fl_X9_16 (fun _ => o1) h1 hk rfl (fun v hv f2906 => ?_)
      obtain ⟨r2907, ⟨k2908, er2907⟩, rfl⟩ := hv
      replace er2907 : r2907 = b + 2 + 63 * G.bk := er2907
      refine t_get F e_X9_latest_41 fl_X9_186 (fun _ => o7) h1 k2908 rfl (fun v hv f2909 => ?_)
      obtain rfl : v = .ref (r2907 + 5) := hv
      refine m_iload F rfl e_X9_latest_44 ?_
      refine m_iconst F (v := 0) (by decide) e_X9_latest_46 ?_
      refine t_callV F e_X9_latest_47 (s_X3_told (x_l X) V G b M Z T _ _ (r2907 + 5) (nI i) 0 h1.1 (kA_7 k2908 (r := 5) (by decide))  (by omega)) cb_X3_told ml_X9_199 im_X3_told se_X3_told (fun _ => o12) h1 (kA_7 k2908 (r := 5) (by decide)) rfl rfl (rest := []) rfl (Nat.le_of_ble_eq_true rfl) ⟨Nat.le_of_ble_eq_true rfl, Nat.le_of_ble_eq_true rfl⟩ ⟨Nat.le_of_ble_eq_true rfl, Nat.le_of_ble_eq_true rfl⟩ (fun r σ2910 hp => ?_)
      obtain ⟨h2912, x2913, rfl⟩ := hp
      have h2911 := HK.trans h1 h2912 (by decide)
      refine m_iload_n F rfl e_X9_latest_50 ?_
      refine m_i2l F e_X9_latest_51 ?_
      refine Wm.topl (fun x2914 _ => ?_)
      refine m_lcmp F e_X9_latest_52 ?_
      refine Wm.top (fun x2915 _ => ?_)
      refine m_if_ne F e_X9_latest_53 (fun q53 => ?_) (fun q53 => ?_)
      · refine m_iinc F (v := nI (i + 1)) (lv' := [(4, .int (nI (i + 1))), (3, .int (nI c)), (0, .ref a), (1, .int u3), (2, .int u4)]) e_X9_latest_90 rfl (nI_add i 1) (by decide) rfl ?_
        refine m_goto F e_X9_latest_93 ?_
        exact ih (i + 1) c u3 u4 _ h2911 (by omega) (by omega)
      · refine m_aload_n F rfl e_X9_latest_56 ?_
        refine t_getC F e_X9_latest_57 fl_X9_16 (fun _ => o1) h2911 hk ((fld_eq (h2912.2 a (by rw [show kA _ a = 1 from hk]; decide))).trans f2906) ?_
        refine t_getC F e_X9_latest_60 fl_X9_186 (fun _ => o7) h2911 k2908 ((fld_eq (h2912.2 r2907 (by rw [show kA _ r2907 = 7 from k2908]; decide))).trans f2909) ?_
        refine m_iload F rfl e_X9_latest_63 ?_
        refine m_iconst F (v := 2) (by decide) e_X9_latest_65 ?_
        refine t_callV F e_X9_latest_66 (s_X3_told (x_l X) V G b M Z T _ _ (r2907 + 5) (nI i) 2 h2911.1 (kA_7 k2908 (r := 5) (by decide))  (by omega)) cb_X3_told ml_X9_199 im_X3_told se_X3_told (fun _ => o12) h2911 (kA_7 k2908 (r := 5) (by decide)) rfl rfl (rest := []) rfl (Nat.le_of_ble_eq_true rfl) ⟨Nat.le_of_ble_eq_true rfl, Nat.le_of_ble_eq_true rfl⟩ ⟨Nat.le_of_ble_eq_true rfl, Nat.le_of_ble_eq_true rfl⟩ (fun r σ2916 hp => ?_)
        obtain ⟨h2918, x2919, rfl⟩ := hp
        have h2917 := HK.trans h2911 h2918 (by decide)
        refine m_iload_n F rfl e_X9_latest_69 ?_
        refine m_i2l F e_X9_latest_70 ?_
        refine Wm.topl (fun x2920 _ => ?_)
        refine m_lcmp F e_X9_latest_71 ?_
        refine Wm.top (fun x2921 _ => ?_)
        refine m_if_ne F e_X9_latest_72 (fun q72 => ?_) (fun q72 => ?_)
        · refine m_iinc F (v := nI (i + 1)) (lv' := [(4, .int (nI (i + 1))), (3, .int (nI c)), (0, .ref a), (1, .int u3), (2, .int u4)]) e_X9_latest_90 rfl (nI_add i 1) (by decide) rfl ?_
          refine m_goto F e_X9_latest_93 ?_
          exact ih (i + 1) c u3 u4 _ h2917 (by omega) (by omega)
        · refine m_aload_n F rfl e_X9_latest_75 ?_
          refine t_getC F e_X9_latest_76 fl_X9_16 (fun _ => o1) h2917 hk ((fld_eq (h2918.2 a (by rw [show kA _ a = 1 from hk]; decide))).trans ((fld_eq (h2912.2 a (by rw [show kA _ a = 1 from hk]; decide))).trans f2906)) ?_
          refine t_getC F e_X9_latest_79 fl_X9_186 (fun _ => o7) h2917 k2908 ((fld_eq (h2918.2 r2907 (by rw [show kA _ r2907 = 7 from k2908]; decide))).trans ((fld_eq (h2912.2 r2907 (by rw [show kA _ r2907 = 7 from k2908]; decide))).trans f2909)) ?_
          refine m_iload F rfl e_X9_latest_82 ?_
          refine m_iconst F (v := 1) (by decide) e_X9_latest_84 ?_
          refine t_callV F e_X9_latest_85 (s_X3_told (x_l X) V G b M Z T _ _ (r2907 + 5) (nI i) 1 h2917.1 (kA_7 k2908 (r := 5) (by decide))  (by omega)) cb_X3_told ml_X9_199 im_X3_told se_X3_told (fun _ => o12) h2917 (kA_7 k2908 (r := 5) (by decide)) rfl rfl (rest := []) rfl (Nat.le_of_ble_eq_true rfl) ⟨Nat.le_of_ble_eq_true rfl, Nat.le_of_ble_eq_true rfl⟩ ⟨Nat.le_of_ble_eq_true rfl, Nat.le_of_ble_eq_true rfl⟩ (fun r σ2922 hp => ?_)
          obtain ⟨h2924, x2925, rfl⟩ := hp
          have h2923 := HK.trans h2917 h2924 (by decide)
          refine m_l2i F e_X9_latest_88 ?_
          refine Wm.top (fun x2926 _ => ?_)
          exact m_iret F hQ e_X9_latest_89 (⟨h2923, _, rfl⟩)
set_option maxRecDepth 20000 in
theorem s_X9_latest (l : Launch) (V : VX) (G : GH) (b M Z T N : Nat) (σ : Mem) (a : Nat) (x901 : Int32) (x902 : Int32) (h0 : HT V G (b, M, Z, T) σ) (hk : kA b a = 1) (hG : okG G) (hM : M + 0 ≤ 1000000000) : Ct l V yX9_latest cX9_latest 5 (some .int) 3 0 0 N σ [.ref a, .int x901, .int x902] (fun r τ => HK V G (b, M, Z, T) [0, 1, 2, 3, 4, 5, 6, 7, 8, 9, 10, 11, 12, 13, 14, 15, 16, 17, 18, 19] σ τ ∧ ∃ x : Int32, r = some (.int x)) := by
  refine Ct.of (by decide) (Nat.le_of_ble_eq_true rfl) [(0, .ref a), (1, .int x901), (2, .int x902)] rfl (fun X hX F hQ => ?_)
  have h1 : HK V G (b, M, Z, T) [0, 1, 2, 3, 4, 5, 6, 7, 8, 9, 10, 11, 12, 13, 14, 15, 16, 17, 18, 19] σ σ := HK.start h0
  refine m_aload_n F rfl e_X9_latest_0 ?_
  refine m_iload_n F rfl e_X9_latest_1 ?_
  refine t_callV F e_X9_latest_2 (s_X9_leaseAt (x_l X) V G b M Z T _ _ a x901 h1.1 hk hG (by omega)) cb_X9_leaseAt ml_X9_103 im_X9_leaseAt se_X9_leaseAt (fun _ => o1) h1 hk rfl rfl (rest := []) rfl (Nat.le_of_ble_eq_true rfl) ⟨Nat.le_of_ble_eq_true rfl, Nat.le_of_ble_eq_true rfl⟩ ⟨Nat.le_of_ble_eq_true rfl, Nat.le_of_ble_eq_true rfl⟩ (fun r σ2927 hp => ?_)
  obtain ⟨h2929, c2930⟩ := hp
  have h2928 := HK.trans h1 h2929 (by decide)
  rcases c2930 with rfl | ⟨n2931, r2932, hn2931, en2931, k2933, rfl⟩
  · refine m_ifnullN F e_X9_latest_5 ?_
    refine m_iconst F (v := (-1)) (by decide) e_X9_latest_15 ?_
    exact m_iret F hQ e_X9_latest_16 (⟨h2928, _, rfl⟩)
  · subst en2931
    refine m_ifnullR F e_X9_latest_5 ?_
    refine m_iload_n F rfl e_X9_latest_8 ?_
    refine m_callS F e_X9_latest_9 (s_X9_isSort (x_l X) V G b M Z T _ _ x902 h2928.1  (by omega)) cb_X9_isSort ml_X9_281 sm_X9_isSort rfl (rest := []) rfl (Nat.le_of_ble_eq_true rfl) ⟨Nat.le_of_ble_eq_true rfl, Nat.le_of_ble_eq_true rfl⟩ ⟨Nat.le_of_ble_eq_true rfl, Nat.le_of_ble_eq_true rfl⟩ (k' := 0) (z' := 0) (N' := N) rfl rfl rfl (fun r σ2934 hp => ?_)
    obtain ⟨h2936, n2937, hn2937, rfl⟩ := hp
    have h2935 := HK.trans h2928 h2936 (by decide)
    refine m_if_ne F e_X9_latest_12 (fun q12 => ?_) (fun q12 => ?_)
    · have c12 : n2937 ≠ 0 := by have hh := mt (nI_eq (a := n2937) (b := 0) (by omega) (by omega)).mpr q12; omega
      refine m_aload_n F rfl e_X9_latest_17 ?_
      refine t_get F e_X9_latest_18 fl_X9_16 (fun _ => o1) h2935 hk rfl (fun v hv f2938 => ?_)
      obtain ⟨r2939, ⟨k2940, er2939⟩, rfl⟩ := hv
      replace er2939 : r2939 = b + 2 + 63 * G.bk := er2939
      refine t_get F e_X9_latest_21 fl_X9_186 (fun _ => o7) h2935 k2940 rfl (fun v hv f2941 => ?_)
      obtain rfl : v = .ref (r2939 + 5) := hv
      obtain ⟨v9, ⟨n2942, hn2942, rfl⟩, f2943⟩ := HK.f (j := 2) h2935 (fun _ => o12) (kA_7 k2940 (r := 5) (by decide)) rfl
      replace hn2942 : n2942 ≤ M := hn2942
      refine t_callV F e_X9_latest_24 (s_X3_kept (x_l X) V G b M Z T _ _ (r2939 + 5) n2942 h2935.1 (kA_7 k2940 (r := 5) (by decide)) (f2943) (by omega) (by omega)) cb_X3_kept ml_X9_196 im_X3_kept se_X3_kept (fun _ => o12) h2935 (kA_7 k2940 (r := 5) (by decide)) rfl rfl (rest := []) rfl (Nat.le_of_ble_eq_true rfl) ⟨Nat.le_of_ble_eq_true rfl, Nat.le_of_ble_eq_true rfl⟩ ⟨Nat.le_of_ble_eq_true rfl, Nat.le_of_ble_eq_true rfl⟩ (fun r σ2944 hp => ?_)
      obtain ⟨h2946, n2947, hn2947, gn2947, rfl⟩ := hp
      have h2945 := HK.trans h2935 h2946 (by decide)
      refine m_istore_n F (lv' := [(3, .int (nI n2947)), (0, .ref a), (1, .int (nI n2931)), (2, .int x902)]) e_X9_latest_27 (by decide) rfl ?_
      refine m_iconst F (v := 0) (by decide) e_X9_latest_28 ?_
      refine m_istore F (lv' := [(4, .int 0), (3, .int (nI n2947)), (0, .ref a), (1, .int (nI n2931)), (2, .int x902)]) e_X9_latest_29 (by decide) rfl ?_
      exact lp_X9_latest_31 F hQ hk hG hM (40 - 0 + 1) 0 n2947 (nI n2931) x902 _ h2945 (by omega) (Nat.lt_succ_self _)
    · have c12 : n2937 = 0 := (nI_eq (a := n2937) (b := 0) (by omega) (by omega)).mp q12
      refine m_iconst F (v := (-1)) (by decide) e_X9_latest_15 ?_
      exact m_iret F hQ e_X9_latest_16 (⟨h2935, _, rfl⟩)
set_option maxRecDepth 20000 in
theorem lp_X9_half_48 {V : VX} {G : GH} {X : MX} {b M Z T N : Nat} {σ : Mem} {a : Nat}   (F : Fx V X yX9_half cX9_half 6 (some .int) (rmd 7 0 0)) (hQ : Rt V X 0 0 N (fun r τ => HK V G (b, M + 1400, Z, T) [0, 1, 2, 3, 4, 5, 8, 9, 16] σ τ ∧ ∃ x : Int32, r = some (.int x))) (hk : kA b a = 1) (hG : okG G) (hM : M + 1400 ≤ 1000000000)  : ∀ (fuel : Nat) (i : Nat) (c : Nat) (p : Nat) (q1 : Nat) (q2 : Nat) (τ : Mem), HK V G (b, M + 648 + 9 * i, Z, T) [0, 1, 2, 3, 4, 5, 8, 9, 16] σ τ → kA b q1 = 15 ∧ kA b q2 = 7 ∧ i ≤ 73 ∧ c ≤ 72 ∧ p ≤ 3 → 73 - i < fuel → Wm V X 6 N τ 0 0 48 [(5, .int (nI i)), (4, .int (nI c)), (0, .ref a), (1, .int (nI p)), (2, .ref q1), (3, .ref q2)] [] := by
  intro fuel
  induction fuel with
  | zero => intro i c p q1 q2 τ h1 hi hm; exact absurd hm (Nat.not_lt_zero _)
  | succ fuel ih =>
    intro i c p q1 q2 τ h1 hi hm
    obtain ⟨kq1, kq2, hi⟩ := hi
    refine m_iload F rfl e_X9_half_48 ?_
    refine m_iload F rfl e_X9_half_50 ?_
    refine m_icmp_gt F e_X9_half_52 (fun q52 => ?_) (fun q52 => ?_)
    · have c52 : i > c := (nI_ltI (a := c) (b := i) (by omega) (by omega)).mp q52
      refine m_bipush F (v := (-2)) (by decide) e_X9_half_89 ?_
      exact m_iret F hQ e_X9_half_91 (⟨(h1.mono (M' := M + 1400) (Z' := Z) (by omega) (by intro e; first | rfl | assumption | omega)), _, rfl⟩)
    · have c52 : i ≤ c := by have hh := mt (nI_ltI (a := c) (b := i) (by omega) (by omega)).mpr q52; omega
      refine m_aload_n F rfl e_X9_half_55 ?_
      refine t_callV F e_X9_half_56 (s_X2_periodGoesBy (x_l X) V G b (M + 648 + 9 * i) Z T _ _ q2  h1.1 kq2  (by omega)) cb_X2_periodGoesBy ml_X9_100 im_X2_periodGoesBy se_X2_periodGoesBy (fun _ => o7) h1 kq2 rfl rfl (rest := []) rfl (Nat.le_of_ble_eq_true rfl) ⟨Nat.le_of_ble_eq_true rfl, Nat.le_of_ble_eq_true rfl⟩ ⟨Nat.le_of_ble_eq_true rfl, Nat.le_of_ble_eq_true rfl⟩ (fun r σ2948 hp => ?_)
      obtain ⟨h2950, rfl⟩ := hp
      have h2949 := HK.trans h1 h2950 (by decide)
      refine m_aload_n F rfl e_X9_half_59 ?_
      refine t_get F e_X9_half_60 fl_X9_226 (fun _ => o7) h2949 kq2 rfl (fun v hv f2951 => ?_)
      obtain rfl : v = .ref (q2 + 1) := hv
      refine m_iload_n F rfl e_X9_half_63 ?_
      refine t_aald8 F (j := p) e_X9_half_64 rfl h2949 (kA_7 kq2 (r := 1) (by decide)) (nI_clamp (by omega)) (vp_in_nI (by omega) (by decide)) ?_
      refine t_get F e_X9_half_65 fl_X9_151 (fun _ => o15) h2949 (kA_8 (kA_7 kq2 (r := 1) (by decide)) (j := p) (by omega)) rfl (fun v hv f2952 => ?_)
      obtain ⟨r2953, k2954, rfl⟩ := hv
      refine m_iconst F (v := 1) (by decide) e_X9_half_68 ?_
      refine m_aload_n F rfl e_X9_half_69 ?_
      refine t_get F e_X9_half_70 fl_X9_151 (fun _ => o15) h2949 kq1 rfl (fun v hv f2955 => ?_)
      obtain ⟨r2956, k2957, rfl⟩ := hv
      refine m_iconst F (v := 2) (by decide) e_X9_half_73 ?_
      refine t_callV F e_X9_half_74 (s_X1_isGreaterShare (x_l X) V G b (M + 648 + 9 * i + 9) Z T _ _ r2953 1 r2956 2 h2949.1 k2954 k2957 (by omega)) cb_X1_isGreaterShare ml_X9_301 im_X1_isGreaterShare se_X1_isGreaterShare (fun _ => o6) h2949 k2954 rfl rfl (rest := []) rfl (Nat.le_of_ble_eq_true rfl) ⟨Nat.le_of_ble_eq_true rfl, Nat.le_of_ble_eq_true rfl⟩ ⟨Nat.le_of_ble_eq_true rfl, Nat.le_of_ble_eq_true rfl⟩ (fun r σ2958 hp => ?_)
      obtain ⟨h2960, n2961, hn2961, rfl⟩ := hp
      have h2959 := HK.trans h2949 h2960 (by decide)
      refine m_if_ne F e_X9_half_77 (fun q77 => ?_) (fun q77 => ?_)
      · have c77 : n2961 ≠ 0 := by have hh := mt (nI_eq (a := n2961) (b := 0) (by omega) (by omega)).mpr q77; omega
        refine m_iinc F (v := nI (i + 1)) (lv' := [(5, .int (nI (i + 1))), (4, .int (nI c)), (0, .ref a), (1, .int (nI p)), (2, .ref q1), (3, .ref q2)]) e_X9_half_83 rfl (nI_add i 1) (by decide) rfl ?_
        refine m_goto F e_X9_half_86 ?_
        exact ih (i + 1) c p q1 q2 _ (h2959.mono (M' := M + 648 + 9 * (i + 1)) (Z' := Z) (by omega) (by intro e9; first | exact e9 | rfl)) ⟨kq1, kq2, (by omega)⟩ (by omega)
      · have c77 : n2961 = 0 := (nI_eq (a := n2961) (b := 0) (by omega) (by omega)).mp q77
        refine m_iload F rfl e_X9_half_80 ?_
        exact m_iret F hQ e_X9_half_82 (⟨(h2959.mono (M' := M + 1400) (Z' := Z) (by omega) (by intro e; first | rfl | assumption | omega)), _, rfl⟩)
set_option maxRecDepth 20000 in
theorem s_X9_half (l : Launch) (V : VX) (G : GH) (b M Z T N : Nat) (σ : Mem) (a : Nat) (x901 : Int32) (h0 : HT V G (b, M, Z, T) σ) (hk : kA b a = 1) (hG : okG G) (hM : M + 1400 ≤ 1000000000) : Ct l V yX9_half cX9_half 6 (some .int) 7 0 0 N σ [.ref a, .int x901] (fun r τ => HK V G (b, M + 1400, Z, T) [0, 1, 2, 3, 4, 5, 8, 9, 16] σ τ ∧ ∃ x : Int32, r = some (.int x)) := by
  refine Ct.of (by decide) (Nat.le_of_ble_eq_true rfl) [(0, .ref a), (1, .int x901)] rfl (fun X hX F hQ => ?_)
  have h1 : HK V G (b, M, Z, T) [0, 1, 2, 3, 4, 5, 8, 9, 16] σ σ := HK.start h0
  refine m_aload_n F rfl e_X9_half_0 ?_
  refine m_iload_n F rfl e_X9_half_1 ?_
  refine t_callV F e_X9_half_2 (s_X9_leaseAt (x_l X) V G b M Z T _ _ a x901 h1.1 hk hG (by omega)) cb_X9_leaseAt ml_X9_103 im_X9_leaseAt se_X9_leaseAt (fun _ => o1) h1 hk rfl rfl (rest := []) rfl (Nat.le_of_ble_eq_true rfl) ⟨Nat.le_of_ble_eq_true rfl, Nat.le_of_ble_eq_true rfl⟩ ⟨Nat.le_of_ble_eq_true rfl, Nat.le_of_ble_eq_true rfl⟩ (fun r σ2962 hp => ?_)
  obtain ⟨h2964, c2965⟩ := hp
  have h2963 := HK.trans h1 h2964 (by decide)
  rcases c2965 with rfl | ⟨n2966, r2967, hn2966, en2966, k2968, rfl⟩
  · refine m_astore_nN F (lv' := [(2, .null), (0, .ref a), (1, .int x901)]) e_X9_half_5 (by decide) rfl ?_
    refine m_aload_nN F rfl e_X9_half_6 ?_
    refine m_ifnullN F e_X9_half_7 ?_
    refine m_iconst F (v := (-1)) (by decide) e_X9_half_17 ?_
    exact m_iret F hQ e_X9_half_18 (⟨(h2963.mono (M' := M + 1400) (Z' := Z) (by omega) (by intro e; first | rfl | assumption | omega)), _, rfl⟩)
  · subst en2966
    refine m_astore_n F (lv' := [(2, .ref r2967), (0, .ref a), (1, .int (nI n2966))]) e_X9_half_5 (by decide) rfl ?_
    refine m_aload_n F rfl e_X9_half_6 ?_
    refine m_ifnullR F e_X9_half_7 ?_
    refine m_aload_n F rfl e_X9_half_10 ?_
    refine t_get F e_X9_half_11 fl_X9_125 (fun _ => o15) h2963 k2968 rfl (fun v hv f2969 => ?_)
    obtain ⟨x2970, rfl⟩ := hv
    refine m_if_ne F e_X9_half_14 (fun q14 => ?_) (fun q14 => ?_)
    · refine m_aload_n F rfl e_X9_half_19 ?_
      refine t_get F e_X9_half_20 fl_X9_151 (fun _ => o15) h2963 k2968 rfl (fun v hv f2971 => ?_)
      obtain ⟨r2972, k2973, rfl⟩ := hv
      refine t_callV F e_X9_half_23 (s_X1_isZero (x_l X) V G b M Z T _ _ r2972  h2963.1 k2973  (by omega)) cb_X1_isZero ml_X9_314 im_X1_isZero se_X1_isZero (fun _ => o6) h2963 k2973 rfl rfl (rest := []) rfl (Nat.le_of_ble_eq_true rfl) ⟨Nat.le_of_ble_eq_true rfl, Nat.le_of_ble_eq_true rfl⟩ ⟨Nat.le_of_ble_eq_true rfl, Nat.le_of_ble_eq_true rfl⟩ (fun r σ2974 hp => ?_)
      obtain ⟨h2976, n2977, hn2977, rfl⟩ := hp
      have h2975 := HK.trans h2963 h2976 (by decide)
      refine m_if_eq F e_X9_half_26 (fun q26 => ?_) (fun q26 => ?_)
      · have c26 : n2977 = 0 := (nI_eq (a := n2977) (b := 0) (by omega) (by omega)).mp q26
        refine m_aload_n F rfl e_X9_half_31 ?_
        refine m_iconst F (v := 0) (by decide) e_X9_half_32 ?_
        refine t_callV F e_X9_half_33 (s_X9_bookIn (x_l X) V G b M Z T _ _ a 0 h2975.1 hk (by omega) hG (by omega)) cb_X9_bookIn ml_X9_271 im_X9_bookIn se_X9_bookIn (fun _ => o1) h2975 hk rfl rfl (rest := []) rfl (Nat.le_of_ble_eq_true rfl) ⟨Nat.le_of_ble_eq_true rfl, Nat.le_of_ble_eq_true rfl⟩ ⟨Nat.le_of_ble_eq_true rfl, Nat.le_of_ble_eq_true rfl⟩ (fun r σ2978 hp => ?_)
        obtain ⟨h2980, r2981, k2982, rfl⟩ := hp
        have h2979 := HK.trans h2975 h2980 (by decide)
        refine m_astore_n F (lv' := [(3, .ref r2981), (2, .ref r2967), (0, .ref a), (1, .int (nI n2966))]) e_X9_half_36 (by decide) rfl ?_
        refine m_aload_n F rfl e_X9_half_37 ?_
        refine m_bipush F (v := 72) (by decide) e_X9_half_38 ?_
        refine t_callV F e_X9_half_40 (s_X9_coming (x_l X) V G b (M + 648) Z T _ _ a 72 h2979.1 hk (by omega) hG (by omega)) cb_X9_coming ml_X9_324 im_X9_coming se_X9_coming (fun _ => o1) h2979 hk rfl rfl (rest := []) rfl (Nat.le_of_ble_eq_true rfl) ⟨Nat.le_of_ble_eq_true rfl, Nat.le_of_ble_eq_true rfl⟩ ⟨Nat.le_of_ble_eq_true rfl, Nat.le_of_ble_eq_true rfl⟩ (fun r σ2983 hp => ?_)
        obtain ⟨h2985, n2986, hn2986, rfl⟩ := hp
        have h2984 := HK.trans h2979 h2985 (by decide)
        refine m_istore F (lv' := [(4, .int (nI n2986)), (3, .ref r2981), (2, .ref r2967), (0, .ref a), (1, .int (nI n2966))]) e_X9_half_43 (by decide) rfl ?_
        refine m_iconst F (v := 1) (by decide) e_X9_half_45 ?_
        refine m_istore F (lv' := [(5, .int 1), (4, .int (nI n2986)), (3, .ref r2981), (2, .ref r2967), (0, .ref a), (1, .int (nI n2966))]) e_X9_half_46 (by decide) rfl ?_
        refine Wm.lvsub (lv' := [(5, .int 1), (4, .int (nI n2986)), (0, .ref a), (1, .int (nI n2966)), (2, .ref r2967), (3, .ref r2981)]) ?_ [0, 1, 4, 5, 3, 2] rfl
        exact lp_X9_half_48 F hQ hk hG hM (73 - 1 + 1) 1 n2986 n2966 r2967 r2981 _ (h2984.mono (M' := M + 648 + 9 * 1) (Z' := Z) (by omega) (by intro e9; first | exact e9 | rfl)) ⟨k2968, k2982, (by omega)⟩ (Nat.lt_succ_self _)
      · have c26 : n2977 ≠ 0 := by have hh := mt (nI_eq (a := n2977) (b := 0) (by omega) (by omega)).mpr q26; omega
        refine m_iconst F (v := 0) (by decide) e_X9_half_29 ?_
        exact m_iret F hQ e_X9_half_30 (⟨(h2975.mono (M' := M + 1400) (Z' := Z) (by omega) (by intro e; first | rfl | assumption | omega)), _, rfl⟩)
    · refine m_iconst F (v := (-1)) (by decide) e_X9_half_17 ?_
      exact m_iret F hQ e_X9_half_18 (⟨(h2963.mono (M' := M + 1400) (Z' := Z) (by omega) (by intro e; first | rfl | assumption | omega)), _, rfl⟩)
set_option maxRecDepth 20000 in
theorem lp_X9_cash_40 {V : VX} {G : GH} {X : MX} {b M Z T N : Nat} {σ : Mem} {a : Nat}   (F : Fx V X yX9_cash cX9_cash 8 (some .long) (rmd 7 0 0)) (hQ : Rt V X 0 0 N (fun r τ => HK V G (b, M + 1400, Z, T) [0, 1, 2, 3, 4, 5, 8, 9, 16] σ τ ∧ ∃ x : Int64, r = some (.long x))) (hk : kA b a = 1) (hG : okG G) (hM : M + 1400 ≤ 1000000000)  : ∀ (fuel : Nat) (i : Nat) (c : Nat) (u1 : Int64) (u3 : Int32) (u4 : Int32) (q2 : Nat) (τ : Mem), HK V G (b, M + 648 + 9 * i, Z, T) [0, 1, 2, 3, 4, 5, 8, 9, 16] σ τ → kA b q2 = 7 ∧ i ≤ 72 ∧ c ≤ 72 → 72 - i < fuel → Wm V X 8 N τ 0 0 40 [(7, .int (nI i)), (4, .int (nI c)), (5, .long u1), (0, .ref a), (1, .int u3), (2, .int u4), (3, .ref q2)] [] := by
  intro fuel
  induction fuel with
  | zero => intro i c u1 u3 u4 q2 τ h1 hi hm; exact absurd hm (Nat.not_lt_zero _)
  | succ fuel ih =>
    intro i c u1 u3 u4 q2 τ h1 hi hm
    obtain ⟨kq2, hi⟩ := hi
    refine m_iload F rfl e_X9_cash_40 ?_
    refine m_iload F rfl e_X9_cash_42 ?_
    refine m_icmp_ge F e_X9_cash_44 (fun q44 => ?_) (fun q44 => ?_)
    · have c44 : i ≥ c := (nI_leI (a := c) (b := i) (by omega) (by omega)).mp q44
      refine m_lload F rfl e_X9_cash_75 ?_
      exact m_lret F hQ e_X9_cash_77 (⟨(h1.mono (M' := M + 1400) (Z' := Z) (by omega) (by intro e; first | rfl | assumption | omega)), _, rfl⟩)
    · have c44 : i < c := by have hh := mt (nI_leI (a := c) (b := i) (by omega) (by omega)).mpr q44; omega
      refine m_aload_n F rfl e_X9_cash_47 ?_
      refine t_callV F e_X9_cash_48 (s_X2_periodGoesBy (x_l X) V G b (M + 648 + 9 * i) Z T _ _ q2  h1.1 kq2  (by omega)) cb_X2_periodGoesBy ml_X9_100 im_X2_periodGoesBy se_X2_periodGoesBy (fun _ => o7) h1 kq2 rfl rfl (rest := []) rfl (Nat.le_of_ble_eq_true rfl) ⟨Nat.le_of_ble_eq_true rfl, Nat.le_of_ble_eq_true rfl⟩ ⟨Nat.le_of_ble_eq_true rfl, Nat.le_of_ble_eq_true rfl⟩ (fun r σ2987 hp => ?_)
      obtain ⟨h2989, rfl⟩ := hp
      have h2988 := HK.trans h1 h2989 (by decide)
      refine m_iload F rfl e_X9_cash_51 ?_
      refine m_iload_n F rfl e_X9_cash_53 ?_
      refine m_icmp_lt F e_X9_cash_54 (fun q54 => ?_) (fun q54 => ?_)
      · refine m_iinc F (v := nI (i + 1)) (lv' := [(7, .int (nI (i + 1))), (4, .int (nI c)), (5, .long u1), (0, .ref a), (1, .int u3), (2, .int u4), (3, .ref q2)]) e_X9_cash_69 rfl (nI_add i 1) (by decide) rfl ?_
        refine m_goto F e_X9_cash_72 ?_
        exact ih (i + 1) c u1 u3 u4 q2 _ (h2988.mono (M' := M + 648 + 9 * (i + 1)) (Z' := Z) (by omega) (by intro e9; first | exact e9 | rfl)) ⟨kq2, (by omega)⟩ (by omega)
      · refine m_lload F rfl e_X9_cash_57 ?_
        refine m_aload_n F rfl e_X9_cash_59 ?_
        refine t_get F e_X9_cash_60 fl_X9_327 (fun _ => o7) h2988 kq2 rfl (fun v hv f2990 => ?_)
        obtain rfl : v = .ref (q2 + 8) := hv
        refine t_callV F e_X9_cash_63 (s_X1_asLong (x_l X) V G b (M + 648 + 9 * i + 9) Z T _ _ (q2 + 8)  h2988.1 (kA_7 kq2 (r := 8) (by decide))  (by omega)) cb_X1_asLong ml_X9_157 im_X1_asLong se_X1_asLong (fun _ => o6) h2988 (kA_7 kq2 (r := 8) (by decide)) rfl rfl (rest := [.long u1]) rfl (Nat.le_of_ble_eq_true rfl) ⟨Nat.le_of_ble_eq_true rfl, Nat.le_of_ble_eq_true rfl⟩ ⟨Nat.le_of_ble_eq_true rfl, Nat.le_of_ble_eq_true rfl⟩ (fun r σ2991 hp => ?_)
        obtain ⟨h2993, x2994, rfl⟩ := hp
        have h2992 := HK.trans h2988 h2993 (by decide)
        refine m_ladd F e_X9_cash_66 ?_
        refine Wm.topl (fun x2995 _ => ?_)
        refine m_lstore F (lv' := [(5, .long x2995), (7, .int (nI i)), (4, .int (nI c)), (0, .ref a), (1, .int u3), (2, .int u4), (3, .ref q2)]) e_X9_cash_67 (by decide) rfl ?_
        refine m_iinc F (v := nI (i + 1)) (lv' := [(7, .int (nI (i + 1))), (5, .long x2995), (4, .int (nI c)), (0, .ref a), (1, .int u3), (2, .int u4), (3, .ref q2)]) e_X9_cash_69 rfl (nI_add i 1) (by decide) rfl ?_
        refine m_goto F e_X9_cash_72 ?_
        refine Wm.lvsub (lv' := [(7, .int (nI (i + 1))), (4, .int (nI c)), (5, .long x2995), (0, .ref a), (1, .int u3), (2, .int u4), (3, .ref q2)]) ?_ [0, 2, 1, 3, 4, 5, 6] rfl
        exact ih (i + 1) c x2995 u3 u4 q2 _ (h2992.mono (M' := M + 648 + 9 * (i + 1)) (Z' := Z) (by omega) (by intro e9; first | exact e9 | rfl)) ⟨kq2, (by omega)⟩ (by omega)
set_option maxRecDepth 20000 in
theorem s_X9_cash (l : Launch) (V : VX) (G : GH) (b M Z T N : Nat) (σ : Mem) (a : Nat) (x901 : Int32) (x902 : Int32) (h0 : HT V G (b, M, Z, T) σ) (hk : kA b a = 1) (hG : okG G) (hM : M + 1400 ≤ 1000000000) : Ct l V yX9_cash cX9_cash 8 (some .long) 7 0 0 N σ [.ref a, .int x901, .int x902] (fun r τ => HK V G (b, M + 1400, Z, T) [0, 1, 2, 3, 4, 5, 8, 9, 16] σ τ ∧ ∃ x : Int64, r = some (.long x)) := by
  refine Ct.of (by decide) (Nat.le_of_ble_eq_true rfl) [(0, .ref a), (1, .int x901), (2, .int x902)] rfl (fun X hX F hQ => ?_)
  have h1 : HK V G (b, M, Z, T) [0, 1, 2, 3, 4, 5, 8, 9, 16] σ σ := HK.start h0
  refine m_iload_n F rfl e_X9_cash_0 ?_
  refine m_if_lt F e_X9_cash_1 (fun q1 => ?_) (fun q1 => ?_)
  · refine m_ldc2 F kc_X9_149 e_X9_cash_15 ?_
    exact m_lret F hQ e_X9_cash_18 (⟨(h1.mono (M' := M + 1400) (Z' := Z) (by omega) (by intro e; first | rfl | assumption | omega)), _, rfl⟩)
  · obtain ⟨n2996, hn2996, rfl⟩ := nI_nn (x := x901) (fun e => q1 (Int32.lt_of_lt_of_le e (by decide)))
    have c1 : n2996 ≥ 0 := by have hh := mt (nI_ltI (a := n2996) (b := 0) (by omega) (by omega)).mpr q1; omega
    refine m_iload_n F rfl e_X9_cash_4 ?_
    refine m_bipush F (v := 72) (by decide) e_X9_cash_5 ?_
    refine m_icmp_ge F e_X9_cash_7 (fun q7 => ?_) (fun q7 => ?_)
    · obtain ⟨n2997, hn2997, rfl⟩ := nI_nn (x := x902) (fun e => Int32.lt_irrefl (Int32.lt_of_lt_of_le e (Int32.le_trans (by decide) q7)))
      have c7 : n2997 ≥ 72 := (nI_leI (a := 72) (b := n2997) (by omega) (by omega)).mp q7
      refine m_ldc2 F kc_X9_149 e_X9_cash_15 ?_
      exact m_lret F hQ e_X9_cash_18 (⟨(h1.mono (M' := M + 1400) (Z' := Z) (by omega) (by intro e; first | rfl | assumption | omega)), _, rfl⟩)
    · refine m_iload_n F rfl e_X9_cash_10 ?_
      refine m_iload_n F rfl e_X9_cash_11 ?_
      refine m_icmp_le F e_X9_cash_12 (fun q12 => ?_) (fun q12 => ?_)
      · obtain ⟨n2998, hn2998, rfl⟩ := nI_nn (x := x902) (fun e => Int32.lt_irrefl (Int32.lt_of_le_of_lt (Int32.le_trans (nI_0le (n := n2996) (by omega)) q12) e))
        have gn2998 : n2998 < 72 := by have hh := mt (nI_leI (a := 72) (b := n2998) (by omega) (by omega)).mpr q7; omega
        refine m_aload_n F rfl e_X9_cash_19 ?_
        refine m_iconst F (v := 0) (by decide) e_X9_cash_20 ?_
        refine t_callV F e_X9_cash_21 (s_X9_bookIn (x_l X) V G b M Z T _ _ a 0 h1.1 hk (by omega) hG (by omega)) cb_X9_bookIn ml_X9_271 im_X9_bookIn se_X9_bookIn (fun _ => o1) h1 hk rfl rfl (rest := []) rfl (Nat.le_of_ble_eq_true rfl) ⟨Nat.le_of_ble_eq_true rfl, Nat.le_of_ble_eq_true rfl⟩ ⟨Nat.le_of_ble_eq_true rfl, Nat.le_of_ble_eq_true rfl⟩ (fun r σ2999 hp => ?_)
        obtain ⟨h3001, r3002, k3003, rfl⟩ := hp
        have h3000 := HK.trans h1 h3001 (by decide)
        refine m_astore_n F (lv' := [(3, .ref r3002), (0, .ref a), (1, .int (nI n2996)), (2, .int (nI n2998))]) e_X9_cash_24 (by decide) rfl ?_
        refine m_aload_n F rfl e_X9_cash_25 ?_
        refine m_iload_n F rfl e_X9_cash_26 ?_
        refine m_iconst F (v := 1) (by decide) e_X9_cash_27 ?_
        refine m_iadd F e_X9_cash_28 ?_
        refine Wm.topE (w := nI (n2998 + 1)) (nI_add n2998 1) ?_
        refine t_callV F e_X9_cash_29 (s_X9_coming (x_l X) V G b (M + 648) Z T _ _ a (n2998 + 1) h3000.1 hk (by omega) hG (by omega)) cb_X9_coming ml_X9_324 im_X9_coming se_X9_coming (fun _ => o1) h3000 hk rfl rfl (rest := []) rfl (Nat.le_of_ble_eq_true rfl) ⟨Nat.le_of_ble_eq_true rfl, Nat.le_of_ble_eq_true rfl⟩ ⟨Nat.le_of_ble_eq_true rfl, Nat.le_of_ble_eq_true rfl⟩ (fun r σ3004 hp => ?_)
        obtain ⟨h3006, n3007, hn3007, rfl⟩ := hp
        have h3005 := HK.trans h3000 h3006 (by decide)
        refine m_istore F (lv' := [(4, .int (nI n3007)), (3, .ref r3002), (0, .ref a), (1, .int (nI n2996)), (2, .int (nI n2998))]) e_X9_cash_32 (by decide) rfl ?_
        refine m_lconst F (v := 0) (by decide) e_X9_cash_34 ?_
        refine m_lstore F (lv' := [(5, .long 0), (4, .int (nI n3007)), (3, .ref r3002), (0, .ref a), (1, .int (nI n2996)), (2, .int (nI n2998))]) e_X9_cash_35 (by decide) rfl ?_
        refine m_iconst F (v := 0) (by decide) e_X9_cash_37 ?_
        refine m_istore F (lv' := [(7, .int 0), (5, .long 0), (4, .int (nI n3007)), (3, .ref r3002), (0, .ref a), (1, .int (nI n2996)), (2, .int (nI n2998))]) e_X9_cash_38 (by decide) rfl ?_
        refine Wm.lvsub (lv' := [(7, .int 0), (4, .int (nI n3007)), (5, .long 0), (0, .ref a), (1, .int (nI n2996)), (2, .int (nI n2998)), (3, .ref r3002)]) ?_ [0, 2, 1, 4, 5, 6, 3] rfl
        exact lp_X9_cash_40 F hQ hk hG hM (72 - 0 + 1) 0 n3007 0 (nI n2996) (nI n2998) r3002 _ (h3005.mono (M' := M + 648 + 9 * 0) (Z' := Z) (by omega) (by intro e9; first | exact e9 | rfl)) ⟨k3003, (by omega)⟩ (Nat.lt_succ_self _)
      · refine m_ldc2 F kc_X9_149 e_X9_cash_15 ?_
        exact m_lret F hQ e_X9_cash_18 (⟨(h1.mono (M' := M + 1400) (Z' := Z) (by omega) (by intro e; first | rfl | assumption | omega)), _, rfl⟩)
set_option maxRecDepth 20000 in
theorem s_X9_ifIndex (l : Launch) (V : VX) (G : GH) (b M Z T N : Nat) (σ : Mem) (a : Nat) (x901 : Int32) (x902 : Int32) (h0 : HT V G (b, M, Z, T) σ) (hk : kA b a = 1) (hG : okG G) (hM : M + 0 ≤ 1000000000) : Ct l V yX9_ifIndex cX9_ifIndex 5 (some .long) 4 0 0 N σ [.ref a, .int x901, .int x902] (fun r τ => HK V G (b, M, Z, T) [0, 1, 2, 3, 4, 5, 7, 8, 9, 10, 11, 12, 13, 14, 16, 19] σ τ ∧ ∃ x : Int64, r = some (.long x)) := by
  refine Ct.of (by decide) (Nat.le_of_ble_eq_true rfl) [(0, .ref a), (1, .int x901), (2, .int x902)] rfl (fun X hX F hQ => ?_)
  have h1 : HK V G (b, M, Z, T) [0, 1, 2, 3, 4, 5, 7, 8, 9, 10, 11, 12, 13, 14, 16, 19] σ σ := HK.start h0
  refine m_aload_n F rfl e_X9_ifIndex_0 ?_
  refine m_iload_n F rfl e_X9_ifIndex_1 ?_
  refine t_callV F e_X9_ifIndex_2 (s_X9_leaseAt (x_l X) V G b M Z T _ _ a x901 h1.1 hk hG (by omega)) cb_X9_leaseAt ml_X9_103 im_X9_leaseAt se_X9_leaseAt (fun _ => o1) h1 hk rfl rfl (rest := []) rfl (Nat.le_of_ble_eq_true rfl) ⟨Nat.le_of_ble_eq_true rfl, Nat.le_of_ble_eq_true rfl⟩ ⟨Nat.le_of_ble_eq_true rfl, Nat.le_of_ble_eq_true rfl⟩ (fun r σ3008 hp => ?_)
  obtain ⟨h3010, c3011⟩ := hp
  have h3009 := HK.trans h1 h3010 (by decide)
  rcases c3011 with rfl | ⟨n3012, r3013, hn3012, en3012, k3014, rfl⟩
  · refine m_ifnullN F e_X9_ifIndex_5 ?_
    refine m_ldc2 F kc_X9_149 e_X9_ifIndex_15 ?_
    exact m_lret F hQ e_X9_ifIndex_18 (⟨h3009, _, rfl⟩)
  · subst en3012
    refine m_ifnullR F e_X9_ifIndex_5 ?_
    refine m_iload_n F rfl e_X9_ifIndex_8 ?_
    refine m_callS F e_X9_ifIndex_9 (s_X9_isIndex (x_l X) V G b M Z T _ _ x902 h3009.1  (by omega)) cb_X9_isIndex ml_X9_262 sm_X9_isIndex rfl (rest := []) rfl (Nat.le_of_ble_eq_true rfl) ⟨Nat.le_of_ble_eq_true rfl, Nat.le_of_ble_eq_true rfl⟩ ⟨Nat.le_of_ble_eq_true rfl, Nat.le_of_ble_eq_true rfl⟩ (k' := 0) (z' := 0) (N' := N) rfl rfl rfl (fun r σ3015 hp => ?_)
    obtain ⟨h3017, n3018, hn3018, rfl⟩ := hp
    have h3016 := HK.trans h3009 h3017 (by decide)
    refine m_if_ne F e_X9_ifIndex_12 (fun q12 => ?_) (fun q12 => ?_)
    · have c12 : n3018 ≠ 0 := by have hh := mt (nI_eq (a := n3018) (b := 0) (by omega) (by omega)).mpr q12; omega
      refine m_aload_n F rfl e_X9_ifIndex_19 ?_
      refine m_iload_n F rfl e_X9_ifIndex_20 ?_
      refine t_callV F e_X9_ifIndex_21 (s_X9_runningAt (x_l X) V G b M Z T _ _ a (nI n3012) h3016.1 hk hG (by omega)) cb_X9_runningAt ml_X9_203 im_X9_runningAt se_X9_runningAt (fun _ => o1) h3016 hk rfl rfl (rest := []) rfl (Nat.le_of_ble_eq_true rfl) ⟨Nat.le_of_ble_eq_true rfl, Nat.le_of_ble_eq_true rfl⟩ ⟨Nat.le_of_ble_eq_true rfl, Nat.le_of_ble_eq_true rfl⟩ (fun r σ3019 hp => ?_)
      obtain ⟨h3021, c3022⟩ := hp
      have h3020 := HK.trans h3016 h3021 (by decide)
      rcases c3022 with rfl | ⟨n3023, r3024, hn3023, en3023, k3025, rfl⟩
      · refine m_astore_nN F (lv' := [(3, .null), (0, .ref a), (1, .int (nI n3012)), (2, .int x902)]) e_X9_ifIndex_24 (by decide) rfl ?_
        refine m_aload_nN F rfl e_X9_ifIndex_25 ?_
        refine m_ifnonnullN F e_X9_ifIndex_26 ?_
        refine m_ldc2 F kc_X9_318 e_X9_ifIndex_29 ?_
        exact m_lret F hQ e_X9_ifIndex_32 (⟨h3020, _, rfl⟩)
      · refine m_astore_n F (lv' := [(3, .ref r3024), (0, .ref a), (1, .int (nI n3012)), (2, .int x902)]) e_X9_ifIndex_24 (by decide) rfl ?_
        refine m_aload_n F rfl e_X9_ifIndex_25 ?_
        refine m_ifnonnullR F e_X9_ifIndex_26 ?_
        refine m_aload_n F rfl e_X9_ifIndex_33 ?_
        refine t_get F e_X9_ifIndex_34 fl_X9_341 (fun _ => o15) h3020 k3025 rfl (fun v hv f3026 => ?_)
        obtain ⟨n3027, hn3027, rfl⟩ := hv
        replace hn3027 : n3027 ≤ 1 := hn3027
        refine m_if_ne F e_X9_ifIndex_37 (fun q37 => ?_) (fun q37 => ?_)
        · have c37 : n3027 ≠ 0 := by have hh := mt (nI_eq (a := n3027) (b := 0) (by omega) (by omega)).mpr q37; omega
          refine m_aload_n F rfl e_X9_ifIndex_48 ?_
          refine t_get F e_X9_ifIndex_49 fl_X9_20 (fun _ => o1) h3020 hk rfl (fun v hv f3028 => ?_)
          obtain ⟨r3029, ⟨k3030, er3029⟩, rfl⟩ := hv
          replace er3029 : r3029 = b + 2 + 63 * G.sp := er3029
          refine t_get F e_X9_ifIndex_52 fl_X9_226 (fun _ => o7) h3020 k3030 rfl (fun v hv f3031 => ?_)
          obtain rfl : v = .ref (r3029 + 1) := hv
          refine m_iconst F (v := 0) (by decide) e_X9_ifIndex_55 ?_
          refine t_aald8 F (j := 0) e_X9_ifIndex_56 rfl h3020 (kA_7 k3030 (r := 1) (by decide)) (by decide) (by unfold vp_in; decide) ?_
          refine m_astore F (lv' := [(4, .ref ((r3029 + 1) + 10 + 12 * 0)), (3, .ref r3024), (0, .ref a), (1, .int (nI n3012)), (2, .int x902)]) e_X9_ifIndex_57 (by decide) rfl ?_
          refine m_aload F rfl e_X9_ifIndex_59 ?_
          refine m_aload_n F rfl e_X9_ifIndex_61 ?_
          refine t_callV F e_X9_ifIndex_62 (s_X5_copyFrom (x_l X) V G b M Z T _ _ ((r3029 + 1) + 10 + 12 * 0) r3024 h3020.1 (kA_8 (kA_7 k3030 (r := 1) (by decide)) (j := 0) (by omega)) k3025 (gd_le k3030 (j := 0) (by omega) (gd_sp hG er3029)) (by omega)) cb_X5_copyFrom ml_X9_291 im_X5_copyFrom se_X5_copyFrom (fun _ => o15) h3020 (kA_8 (kA_7 k3030 (r := 1) (by decide)) (j := 0) (by omega)) rfl rfl (rest := []) rfl (Nat.le_of_ble_eq_true rfl) ⟨Nat.le_of_ble_eq_true rfl, Nat.le_of_ble_eq_true rfl⟩ ⟨Nat.le_of_ble_eq_true rfl, Nat.le_of_ble_eq_true rfl⟩ (fun r σ3032 hp => ?_)
          obtain ⟨h3034, ⟨e3035, eo3036⟩, rfl⟩ := hp
          have h3033 := HK.trans h3020 h3034 (by decide)
          refine m_aload F rfl e_X9_ifIndex_65 ?_
          refine m_iload_n F rfl e_X9_ifIndex_67 ?_
          refine t_callV F e_X9_ifIndex_68 (s_X5_followIndex (x_l X) V G b M Z T _ _ ((r3029 + 1) + 10 + 12 * 0) x902 h3033.1 (kA_8 (kA_7 k3030 (r := 1) (by decide)) (j := 0) (by omega))  (by omega)) cb_X5_followIndex ml_X9_344 im_X5_followIndex se_X5_followIndex (fun _ => o15) h3033 (kA_8 (kA_7 k3030 (r := 1) (by decide)) (j := 0) (by omega)) rfl rfl (rest := []) rfl (Nat.le_of_ble_eq_true rfl) ⟨Nat.le_of_ble_eq_true rfl, Nat.le_of_ble_eq_true rfl⟩ ⟨Nat.le_of_ble_eq_true rfl, Nat.le_of_ble_eq_true rfl⟩ (fun r σ3037 hp => ?_)
          obtain ⟨h3039, rfl⟩ := hp
          have h3038 := HK.trans h3033 h3039 (by decide)
          refine m_aload F rfl e_X9_ifIndex_71 ?_
          refine m_aload_n F rfl e_X9_ifIndex_73 ?_
          refine t_get F e_X9_ifIndex_74 fl_X9_42 (fun _ => o1) h3038 hk rfl (fun v hv f3040 => ?_)
          obtain ⟨r3041, k3042, rfl⟩ := hv
          refine t_callV F e_X9_ifIndex_77 (s_X5_worthLeft (x_l X) V G b M Z T _ _ ((r3029 + 1) + 10 + 12 * 0) r3041 h3038.1 (kA_8 (kA_7 k3030 (r := 1) (by decide)) (j := 0) (by omega)) k3042 (by omega)) cb_X5_worthLeft ml_X9_298 im_X5_worthLeft se_X5_worthLeft (fun _ => o15) h3038 (kA_8 (kA_7 k3030 (r := 1) (by decide)) (j := 0) (by omega)) rfl rfl (rest := []) rfl (Nat.le_of_ble_eq_true rfl) ⟨Nat.le_of_ble_eq_true rfl, Nat.le_of_ble_eq_true rfl⟩ ⟨Nat.le_of_ble_eq_true rfl, Nat.le_of_ble_eq_true rfl⟩ (fun r σ3043 hp => ?_)
          obtain ⟨h3045, rfl⟩ := hp
          have h3044 := HK.trans h3038 h3045 (by decide)
          refine m_aload_n F rfl e_X9_ifIndex_80 ?_
          refine t_getC F e_X9_ifIndex_81 fl_X9_42 (fun _ => o1) h3044 hk ((fld_eq (h3045.2 a (by rw [show kA _ a = 1 from hk]; decide))).trans f3040) ?_
          refine t_callV F e_X9_ifIndex_84 (s_X1_asLong (x_l X) V G b M Z T _ _ r3041  h3044.1 k3042  (by omega)) cb_X1_asLong ml_X9_157 im_X1_asLong se_X1_asLong (fun _ => o6) h3044 k3042 rfl rfl (rest := []) rfl (Nat.le_of_ble_eq_true rfl) ⟨Nat.le_of_ble_eq_true rfl, Nat.le_of_ble_eq_true rfl⟩ ⟨Nat.le_of_ble_eq_true rfl, Nat.le_of_ble_eq_true rfl⟩ (fun r σ3046 hp => ?_)
          obtain ⟨h3048, x3049, rfl⟩ := hp
          have h3047 := HK.trans h3044 h3048 (by decide)
          exact m_lret F hQ e_X9_ifIndex_87 (⟨h3047, _, rfl⟩)
        · have c37 : n3027 = 0 := (nI_eq (a := n3027) (b := 0) (by omega) (by omega)).mp q37
          refine m_aload_n F rfl e_X9_ifIndex_40 ?_
          refine t_get F e_X9_ifIndex_41 fl_X9_151 (fun _ => o15) h3020 k3025 rfl (fun v hv f3050 => ?_)
          obtain ⟨r3051, k3052, rfl⟩ := hv
          refine t_callV F e_X9_ifIndex_44 (s_X1_asLong (x_l X) V G b M Z T _ _ r3051  h3020.1 k3052  (by omega)) cb_X1_asLong ml_X9_157 im_X1_asLong se_X1_asLong (fun _ => o6) h3020 k3052 rfl rfl (rest := []) rfl (Nat.le_of_ble_eq_true rfl) ⟨Nat.le_of_ble_eq_true rfl, Nat.le_of_ble_eq_true rfl⟩ ⟨Nat.le_of_ble_eq_true rfl, Nat.le_of_ble_eq_true rfl⟩ (fun r σ3053 hp => ?_)
          obtain ⟨h3055, x3056, rfl⟩ := hp
          have h3054 := HK.trans h3020 h3055 (by decide)
          exact m_lret F hQ e_X9_ifIndex_47 (⟨h3054, _, rfl⟩)
    · have c12 : n3018 = 0 := (nI_eq (a := n3018) (b := 0) (by omega) (by omega)).mp q12
      refine m_ldc2 F kc_X9_149 e_X9_ifIndex_15 ?_
      exact m_lret F hQ e_X9_ifIndex_18 (⟨h3016, _, rfl⟩)
set_option maxRecDepth 20000 in
theorem s_X9_ifTaken (l : Launch) (V : VX) (G : GH) (b M Z T N : Nat) (σ : Mem) (a : Nat) (x901 : Int32) (h0 : HT V G (b, M, Z, T) σ) (hk : kA b a = 1) (hG : okG G) (hM : M + 0 ≤ 1000000000) : Ct l V yX9_ifTaken cX9_ifTaken 5 (some .long) 5 0 0 N σ [.ref a, .int x901] (fun r τ => HK V G (b, M, Z, T) [0, 1, 2, 3, 4, 5, 7, 8, 9, 10, 11, 12, 13, 14, 16, 19] σ τ ∧ ∃ x : Int64, r = some (.long x)) := by
  refine Ct.of (by decide) (Nat.le_of_ble_eq_true rfl) [(0, .ref a), (1, .int x901)] rfl (fun X hX F hQ => ?_)
  have h1 : HK V G (b, M, Z, T) [0, 1, 2, 3, 4, 5, 7, 8, 9, 10, 11, 12, 13, 14, 16, 19] σ σ := HK.start h0
  refine m_aload_n F rfl e_X9_ifTaken_0 ?_
  refine t_get F e_X9_ifTaken_1 fl_X9_16 (fun _ => o1) h1 hk rfl (fun v hv f3057 => ?_)
  obtain ⟨r3058, ⟨k3059, er3058⟩, rfl⟩ := hv
  replace er3058 : r3058 = b + 2 + 63 * G.bk := er3058
  refine m_iload_n F rfl e_X9_ifTaken_4 ?_
  refine t_callV F e_X9_ifTaken_5 (s_X2_canTake (x_l X) V G b M Z T _ _ r3058 x901 h1.1 k3059  (by omega)) cb_X2_canTake ml_X9_214 im_X2_canTake se_X2_canTake (fun _ => o7) h1 k3059 rfl rfl (rest := []) rfl (Nat.le_of_ble_eq_true rfl) ⟨Nat.le_of_ble_eq_true rfl, Nat.le_of_ble_eq_true rfl⟩ ⟨Nat.le_of_ble_eq_true rfl, Nat.le_of_ble_eq_true rfl⟩ (fun r σ3060 hp => ?_)
  obtain ⟨h3062, c3063⟩ := hp
  have h3061 := HK.trans h1 h3062 (by decide)
  rcases c3063 with rfl | ⟨n3064, hn3064, en3064, rfl⟩
  · refine m_if_ne F e_X9_ifTaken_8 (fun q => absurd (by decide) q) (fun _ => ?_)
    refine m_ldc2 F kc_X9_184 e_X9_ifTaken_11 ?_
    exact m_lret F hQ e_X9_ifTaken_14 (⟨h3061, _, rfl⟩)
  · subst en3064
    refine m_if_ne F e_X9_ifTaken_8 (fun _ => ?_) (fun q => absurd q (by decide))
    refine m_aload_n F rfl e_X9_ifTaken_15 ?_
    refine t_getC F e_X9_ifTaken_16 fl_X9_16 (fun _ => o1) h3061 hk ((fld_eq (h3062.2 a (by rw [show kA _ a = 1 from hk]; decide))).trans f3057) ?_
    refine t_get F e_X9_ifTaken_19 fl_X9_217 (fun _ => o7) h3061 k3059 rfl (fun v hv f3065 => ?_)
    obtain rfl : v = .ref (r3058 + 2) := hv
    refine m_iload_n F rfl e_X9_ifTaken_22 ?_
    refine t_aald9 F (j := n3064) e_X9_ifTaken_23 rfl h3061 (kA_7 k3059 (r := 2) (by decide)) (nI_clamp (by omega)) (vp_in_nI (by omega) (by decide)) ?_
    refine m_astore_n F (lv' := [(2, .ref ((r3058 + 2) + 57 + n3064)), (0, .ref a), (1, .int (nI n3064))]) e_X9_ifTaken_24 (by decide) rfl ?_
    refine m_aload_n F rfl e_X9_ifTaken_25 ?_
    refine t_getC F e_X9_ifTaken_26 fl_X9_16 (fun _ => o1) h3061 hk ((fld_eq (h3062.2 a (by rw [show kA _ a = 1 from hk]; decide))).trans f3057) ?_
    refine t_get F e_X9_ifTaken_29 fl_X9_226 (fun _ => o7) h3061 k3059 rfl (fun v hv f3066 => ?_)
    obtain rfl : v = .ref (r3058 + 1) := hv
    refine m_aload_n F rfl e_X9_ifTaken_32 ?_
    refine t_get F e_X9_ifTaken_33 fl_X9_230 (fun _ => o19) h3061 (kA_9 (kA_7 k3059 (r := 2) (by decide)) (j := n3064) (by omega)) rfl (fun v hv f3067 => ?_)
    obtain ⟨n3068, hn3068, rfl⟩ := hv
    replace hn3068 : n3068 ≤ 3 := hn3068
    refine t_aald8 F (j := n3068) e_X9_ifTaken_36 rfl h3061 (kA_7 k3059 (r := 1) (by decide)) (nI_clamp (by omega)) (vp_in_nI (by omega) (by decide)) ?_
    refine m_astore_n F (lv' := [(3, .ref ((r3058 + 1) + 10 + 12 * n3068)), (2, .ref ((r3058 + 2) + 57 + n3064)), (0, .ref a), (1, .int (nI n3064))]) e_X9_ifTaken_37 (by decide) rfl ?_
    refine m_aload_n F rfl e_X9_ifTaken_38 ?_
    refine t_get F e_X9_ifTaken_39 fl_X9_20 (fun _ => o1) h3061 hk rfl (fun v hv f3069 => ?_)
    obtain ⟨r3070, ⟨k3071, er3070⟩, rfl⟩ := hv
    replace er3070 : r3070 = b + 2 + 63 * G.sp := er3070
    refine t_get F e_X9_ifTaken_42 fl_X9_226 (fun _ => o7) h3061 k3071 rfl (fun v hv f3072 => ?_)
    obtain rfl : v = .ref (r3070 + 1) := hv
    refine m_iconst F (v := 0) (by decide) e_X9_ifTaken_45 ?_
    refine t_aald8 F (j := 0) e_X9_ifTaken_46 rfl h3061 (kA_7 k3071 (r := 1) (by decide)) (by decide) (by unfold vp_in; decide) ?_
    refine m_astore F (lv' := [(4, .ref ((r3070 + 1) + 10 + 12 * 0)), (3, .ref ((r3058 + 1) + 10 + 12 * n3068)), (2, .ref ((r3058 + 2) + 57 + n3064)), (0, .ref a), (1, .int (nI n3064))]) e_X9_ifTaken_47 (by decide) rfl ?_
    refine m_aload F rfl e_X9_ifTaken_49 ?_
    refine m_aload_n F rfl e_X9_ifTaken_51 ?_
    refine t_callV F e_X9_ifTaken_52 (s_X5_copyFrom (x_l X) V G b M Z T _ _ ((r3070 + 1) + 10 + 12 * 0) ((r3058 + 1) + 10 + 12 * n3068) h3061.1 (kA_8 (kA_7 k3071 (r := 1) (by decide)) (j := 0) (by omega)) (kA_8 (kA_7 k3059 (r := 1) (by decide)) (j := n3068) (by omega)) (gd_le k3071 (j := 0) (by omega) (gd_sp hG er3070)) (by omega)) cb_X5_copyFrom ml_X9_291 im_X5_copyFrom se_X5_copyFrom (fun _ => o15) h3061 (kA_8 (kA_7 k3071 (r := 1) (by decide)) (j := 0) (by omega)) rfl rfl (rest := []) rfl (Nat.le_of_ble_eq_true rfl) ⟨Nat.le_of_ble_eq_true rfl, Nat.le_of_ble_eq_true rfl⟩ ⟨Nat.le_of_ble_eq_true rfl, Nat.le_of_ble_eq_true rfl⟩ (fun r σ3073 hp => ?_)
    obtain ⟨h3075, ⟨e3076, eo3077⟩, rfl⟩ := hp
    have h3074 := HK.trans h3061 h3075 (by decide)
    refine m_aload_n F rfl e_X9_ifTaken_55 ?_
    refine t_getC F e_X9_ifTaken_56 fl_X9_16 (fun _ => o1) h3074 hk ((fld_eq (h3075.2 a (by rw [show kA _ a = 1 from hk]; decide))).trans ((fld_eq (h3062.2 a (by rw [show kA _ a = 1 from hk]; decide))).trans f3057)) ?_
    refine m_aload F rfl e_X9_ifTaken_59 ?_
    refine m_aload_n F rfl e_X9_ifTaken_61 ?_
    refine t_callV F e_X9_ifTaken_62 (s_X2_goOnByOption (x_l X) V G b M Z T _ _ r3058 ((r3070 + 1) + 10 + 12 * 0) ((r3058 + 2) + 57 + n3064) h3074.1 k3059 (kA_8 (kA_7 k3071 (r := 1) (by decide)) (j := 0) (by omega)) (kA_9 (kA_7 k3059 (r := 2) (by decide)) (j := n3064) (by omega)) (by omega)) cb_X2_goOnByOption ml_X9_233 im_X2_goOnByOption se_X2_goOnByOption (fun _ => o7) h3074 k3059 rfl rfl (rest := []) rfl (Nat.le_of_ble_eq_true rfl) ⟨Nat.le_of_ble_eq_true rfl, Nat.le_of_ble_eq_true rfl⟩ ⟨Nat.le_of_ble_eq_true rfl, Nat.le_of_ble_eq_true rfl⟩ (fun r σ3078 hp => ?_)
    obtain ⟨h3080, rfl⟩ := hp
    have h3079 := HK.trans h3074 h3080 (by decide)
    refine m_aload F rfl e_X9_ifTaken_65 ?_
    refine m_aload_n F rfl e_X9_ifTaken_67 ?_
    refine t_get F e_X9_ifTaken_68 fl_X9_42 (fun _ => o1) h3079 hk rfl (fun v hv f3081 => ?_)
    obtain ⟨r3082, k3083, rfl⟩ := hv
    refine t_callV F e_X9_ifTaken_71 (s_X5_worthLeft (x_l X) V G b M Z T _ _ ((r3070 + 1) + 10 + 12 * 0) r3082 h3079.1 (kA_8 (kA_7 k3071 (r := 1) (by decide)) (j := 0) (by omega)) k3083 (by omega)) cb_X5_worthLeft ml_X9_298 im_X5_worthLeft se_X5_worthLeft (fun _ => o15) h3079 (kA_8 (kA_7 k3071 (r := 1) (by decide)) (j := 0) (by omega)) rfl rfl (rest := []) rfl (Nat.le_of_ble_eq_true rfl) ⟨Nat.le_of_ble_eq_true rfl, Nat.le_of_ble_eq_true rfl⟩ ⟨Nat.le_of_ble_eq_true rfl, Nat.le_of_ble_eq_true rfl⟩ (fun r σ3084 hp => ?_)
    obtain ⟨h3086, rfl⟩ := hp
    have h3085 := HK.trans h3079 h3086 (by decide)
    refine m_aload_n F rfl e_X9_ifTaken_74 ?_
    refine t_getC F e_X9_ifTaken_75 fl_X9_42 (fun _ => o1) h3085 hk ((fld_eq (h3086.2 a (by rw [show kA _ a = 1 from hk]; decide))).trans f3081) ?_
    refine t_callV F e_X9_ifTaken_78 (s_X1_asLong (x_l X) V G b M Z T _ _ r3082  h3085.1 k3083  (by omega)) cb_X1_asLong ml_X9_157 im_X1_asLong se_X1_asLong (fun _ => o6) h3085 k3083 rfl rfl (rest := []) rfl (Nat.le_of_ble_eq_true rfl) ⟨Nat.le_of_ble_eq_true rfl, Nat.le_of_ble_eq_true rfl⟩ ⟨Nat.le_of_ble_eq_true rfl, Nat.le_of_ble_eq_true rfl⟩ (fun r σ3087 hp => ?_)
    obtain ⟨h3089, x3090, rfl⟩ := hp
    have h3088 := HK.trans h3085 h3089 (by decide)
    refine m_aload_n F rfl e_X9_ifTaken_81 ?_
    refine t_get F e_X9_ifTaken_82 fl_X9_151 (fun _ => o15) h3088 (kA_8 (kA_7 k3059 (r := 1) (by decide)) (j := n3068) (by omega)) rfl (fun v hv f3091 => ?_)
    obtain ⟨r3092, k3093, rfl⟩ := hv
    refine t_callV F e_X9_ifTaken_85 (s_X1_asLong (x_l X) V G b M Z T _ _ r3092  h3088.1 k3093  (by omega)) cb_X1_asLong ml_X9_157 im_X1_asLong se_X1_asLong (fun _ => o6) h3088 k3093 rfl rfl (rest := [.long x3090]) rfl (Nat.le_of_ble_eq_true rfl) ⟨Nat.le_of_ble_eq_true rfl, Nat.le_of_ble_eq_true rfl⟩ ⟨Nat.le_of_ble_eq_true rfl, Nat.le_of_ble_eq_true rfl⟩ (fun r σ3094 hp => ?_)
    obtain ⟨h3096, x3097, rfl⟩ := hp
    have h3095 := HK.trans h3088 h3096 (by decide)
    refine m_lsub F e_X9_ifTaken_88 ?_
    refine Wm.topl (fun x3098 _ => ?_)
    exact m_lret F hQ e_X9_ifTaken_89 (⟨h3095, _, rfl⟩)
set_option maxRecDepth 20000 in
theorem s_X9_yields (l : Launch) (V : VX) (G : GH) (b M Z T N : Nat) (σ : Mem) (a : Nat) (x901 : Int32) (x902 : Int32) (x903 : Int64) (h0 : HT V G (b, M, Z, T) σ) (hk : kA b a = 1) (hG : okG G) (hM : M + 0 ≤ 1000000000) : Ct l V yX9_yields cX9_yields 6 (some .int) 4 0 0 N σ [.ref a, .int x901, .int x902, .long x903] (fun r τ => HK V G (b, M, Z, T) [0, 1, 2, 3, 4, 5, 7, 8, 9, 10, 11, 12, 13, 14, 15, 16, 17, 18, 19] σ τ ∧ ∃ x : Int32, r = some (.int x)) := by
  refine Ct.of (by decide) (Nat.le_of_ble_eq_true rfl) [(0, .ref a), (1, .int x901), (2, .int x902), (3, .long x903)] rfl (fun X hX F hQ => ?_)
  have h1 : HK V G (b, M, Z, T) [0, 1, 2, 3, 4, 5, 7, 8, 9, 10, 11, 12, 13, 14, 15, 16, 17, 18, 19] σ σ := HK.start h0
  refine m_aload_n F rfl e_X9_yields_0 ?_
  refine m_iload_n F rfl e_X9_yields_1 ?_
  refine t_callV F e_X9_yields_2 (s_X9_leaseAt (x_l X) V G b M Z T _ _ a x901 h1.1 hk hG (by omega)) cb_X9_leaseAt ml_X9_103 im_X9_leaseAt se_X9_leaseAt (fun _ => o1) h1 hk rfl rfl (rest := []) rfl (Nat.le_of_ble_eq_true rfl) ⟨Nat.le_of_ble_eq_true rfl, Nat.le_of_ble_eq_true rfl⟩ ⟨Nat.le_of_ble_eq_true rfl, Nat.le_of_ble_eq_true rfl⟩ (fun r σ3099 hp => ?_)
  obtain ⟨h3101, c3102⟩ := hp
  have h3100 := HK.trans h1 h3101 (by decide)
  rcases c3102 with rfl | ⟨n3103, r3104, hn3103, en3103, k3105, rfl⟩
  · refine m_astoreN F (lv' := [(5, .null), (0, .ref a), (1, .int x901), (2, .int x902), (3, .long x903)]) e_X9_yields_5 (by decide) rfl ?_
    refine m_aloadN F rfl e_X9_yields_7 ?_
    refine m_ifnullN F e_X9_yields_9 ?_
    refine m_iconst F (v := (-1)) (by decide) e_X9_yields_28 ?_
    exact m_iret F hQ e_X9_yields_29 (⟨h3100, _, rfl⟩)
  · subst en3103
    refine m_astore F (lv' := [(5, .ref r3104), (0, .ref a), (1, .int (nI n3103)), (2, .int x902), (3, .long x903)]) e_X9_yields_5 (by decide) rfl ?_
    refine m_aload F rfl e_X9_yields_7 ?_
    refine m_ifnullR F e_X9_yields_9 ?_
    refine m_aload F rfl e_X9_yields_12 ?_
    refine m_iload_n F rfl e_X9_yields_14 ?_
    refine t_callV F e_X9_yields_15 (s_X5_owns (x_l X) V G b M Z T _ _ r3104 x902 h3100.1 k3105  (by omega)) cb_X5_owns ml_X9_161 im_X5_owns se_X5_owns (fun _ => o15) h3100 k3105 rfl rfl (rest := []) rfl (Nat.le_of_ble_eq_true rfl) ⟨Nat.le_of_ble_eq_true rfl, Nat.le_of_ble_eq_true rfl⟩ ⟨Nat.le_of_ble_eq_true rfl, Nat.le_of_ble_eq_true rfl⟩ (fun r σ3106 hp => ?_)
    obtain ⟨h3108, n3109, hn3109, rfl⟩ := hp
    have h3107 := HK.trans h3100 h3108 (by decide)
    refine m_if_eq F e_X9_yields_18 (fun q18 => ?_) (fun q18 => ?_)
    · have c18 : n3109 = 0 := (nI_eq (a := n3109) (b := 0) (by omega) (by omega)).mp q18
      refine m_iconst F (v := (-1)) (by decide) e_X9_yields_28 ?_
      exact m_iret F hQ e_X9_yields_29 (⟨h3107, _, rfl⟩)
    · have c18 : n3109 ≠ 0 := by have hh := mt (nI_eq (a := n3109) (b := 0) (by omega) (by omega)).mpr q18; omega
      refine m_lload_n F rfl e_X9_yields_21 ?_
      refine m_callS F e_X9_yields_22 (s_X9_isWorth (x_l X) V G b M Z T _ _ x903 h3107.1  (by omega)) cb_X9_isWorth ml_X9_347 sm_X9_isWorth rfl (rest := []) rfl (Nat.le_of_ble_eq_true rfl) ⟨Nat.le_of_ble_eq_true rfl, Nat.le_of_ble_eq_true rfl⟩ ⟨Nat.le_of_ble_eq_true rfl, Nat.le_of_ble_eq_true rfl⟩ (k' := 0) (z' := 0) (N' := N) rfl rfl rfl (fun r σ3110 hp => ?_)
      obtain ⟨h3112, n3113, hn3113, rfl⟩ := hp
      have h3111 := HK.trans h3107 h3112 (by decide)
      refine m_if_ne F e_X9_yields_25 (fun q25 => ?_) (fun q25 => ?_)
      · have c25 : n3113 ≠ 0 := by have hh := mt (nI_eq (a := n3113) (b := 0) (by omega) (by omega)).mpr q25; omega
        refine m_aload F rfl e_X9_yields_30 ?_
        refine m_iload_n F rfl e_X9_yields_32 ?_
        refine m_iconst F (v := 1) (by decide) e_X9_yields_33 ?_
        refine m_isub F e_X9_yields_34 ?_
        refine Wm.top (fun x3114 _ => ?_)
        refine m_lload_n F rfl e_X9_yields_35 ?_
        refine m_aload_n F rfl e_X9_yields_36 ?_
        refine t_get F e_X9_yields_37 fl_X9_42 (fun _ => o1) h3111 hk rfl (fun v hv f3115 => ?_)
        obtain ⟨r3116, k3117, rfl⟩ := hv
        refine t_callV F e_X9_yields_40 (s_X5_greatestRate (x_l X) V G b M Z T _ _ r3104 x3114 x903 r3116 h3111.1 k3105 k3117 (by omega)) cb_X5_greatestRate ml_X9_350 im_X5_greatestRate se_X5_greatestRate (fun _ => o15) h3111 k3105 rfl rfl (rest := []) rfl (Nat.le_of_ble_eq_true rfl) ⟨Nat.le_of_ble_eq_true rfl, Nat.le_of_ble_eq_true rfl⟩ ⟨Nat.le_of_ble_eq_true rfl, Nat.le_of_ble_eq_true rfl⟩ (fun r σ3118 hp => ?_)
        obtain ⟨h3120, x3121, rfl⟩ := hp
        have h3119 := HK.trans h3111 h3120 (by decide)
        exact m_iret F hQ e_X9_yields_43 (⟨h3119, _, rfl⟩)
      · have c25 : n3113 = 0 := (nI_eq (a := n3113) (b := 0) (by omega) (by omega)).mp q25
        refine m_iconst F (v := (-1)) (by decide) e_X9_yields_28 ?_
        exact m_iret F hQ e_X9_yields_29 (⟨h3111, _, rfl⟩)
set_option maxRecDepth 20000 in
theorem s_X9_level (l : Launch) (V : VX) (G : GH) (b M Z T N : Nat) (σ : Mem) (a : Nat) (x901 : Int32) (x902 : Int64) (h0 : HT V G (b, M, Z, T) σ) (hk : kA b a = 1) (hG : okG G) (hM : M + 0 ≤ 1000000000) : Ct l V yX9_level cX9_level 6 (some .int) 6 0 0 N σ [.ref a, .int x901, .long x902] (fun r τ => HK V G (b, M, Z, T) [0, 1, 2, 3, 4, 5, 7, 8, 9, 10, 11, 12, 13, 14, 16, 19] σ τ ∧ ∃ x : Int32, r = some (.int x)) := by
  refine Ct.of (by decide) (Nat.le_of_ble_eq_true rfl) [(0, .ref a), (1, .int x901), (2, .long x902)] rfl (fun X hX F hQ => ?_)
  have h1 : HK V G (b, M, Z, T) [0, 1, 2, 3, 4, 5, 7, 8, 9, 10, 11, 12, 13, 14, 16, 19] σ σ := HK.start h0
  refine m_aload_n F rfl e_X9_level_0 ?_
  refine m_iload_n F rfl e_X9_level_1 ?_
  refine t_callV F e_X9_level_2 (s_X9_leaseAt (x_l X) V G b M Z T _ _ a x901 h1.1 hk hG (by omega)) cb_X9_leaseAt ml_X9_103 im_X9_leaseAt se_X9_leaseAt (fun _ => o1) h1 hk rfl rfl (rest := []) rfl (Nat.le_of_ble_eq_true rfl) ⟨Nat.le_of_ble_eq_true rfl, Nat.le_of_ble_eq_true rfl⟩ ⟨Nat.le_of_ble_eq_true rfl, Nat.le_of_ble_eq_true rfl⟩ (fun r σ3122 hp => ?_)
  obtain ⟨h3124, c3125⟩ := hp
  have h3123 := HK.trans h1 h3124 (by decide)
  rcases c3125 with rfl | ⟨n3126, r3127, hn3126, en3126, k3128, rfl⟩
  · refine m_astoreN F (lv' := [(4, .null), (0, .ref a), (1, .int x901), (2, .long x902)]) e_X9_level_5 (by decide) rfl ?_
    refine m_aloadN F rfl e_X9_level_7 ?_
    refine m_ifnullN F e_X9_level_9 ?_
    refine m_iconst F (v := (-1)) (by decide) e_X9_level_19 ?_
    exact m_iret F hQ e_X9_level_20 (⟨h3123, _, rfl⟩)
  · subst en3126
    refine m_astore F (lv' := [(4, .ref r3127), (0, .ref a), (1, .int (nI n3126)), (2, .long x902)]) e_X9_level_5 (by decide) rfl ?_
    refine m_aload F rfl e_X9_level_7 ?_
    refine m_ifnullR F e_X9_level_9 ?_
    refine m_lload_n F rfl e_X9_level_12 ?_
    refine m_callS F e_X9_level_13 (s_X9_isWorth (x_l X) V G b M Z T _ _ x902 h3123.1  (by omega)) cb_X9_isWorth ml_X9_347 sm_X9_isWorth rfl (rest := []) rfl (Nat.le_of_ble_eq_true rfl) ⟨Nat.le_of_ble_eq_true rfl, Nat.le_of_ble_eq_true rfl⟩ ⟨Nat.le_of_ble_eq_true rfl, Nat.le_of_ble_eq_true rfl⟩ (k' := 0) (z' := 0) (N' := N) rfl rfl rfl (fun r σ3129 hp => ?_)
    obtain ⟨h3131, n3132, hn3132, rfl⟩ := hp
    have h3130 := HK.trans h3123 h3131 (by decide)
    refine m_if_ne F e_X9_level_16 (fun q16 => ?_) (fun q16 => ?_)
    · have c16 : n3132 ≠ 0 := by have hh := mt (nI_eq (a := n3132) (b := 0) (by omega) (by omega)).mpr q16; omega
      refine m_aload_n F rfl e_X9_level_21 ?_
      refine t_get F e_X9_level_22 fl_X9_20 (fun _ => o1) h3130 hk rfl (fun v hv f3133 => ?_)
      obtain ⟨r3134, ⟨k3135, er3134⟩, rfl⟩ := hv
      replace er3134 : r3134 = b + 2 + 63 * G.sp := er3134
      refine t_get F e_X9_level_25 fl_X9_226 (fun _ => o7) h3130 k3135 rfl (fun v hv f3136 => ?_)
      obtain rfl : v = .ref (r3134 + 1) := hv
      refine m_iconst F (v := 0) (by decide) e_X9_level_28 ?_
      refine t_aald8 F (j := 0) e_X9_level_29 rfl h3130 (kA_7 k3135 (r := 1) (by decide)) (by decide) (by unfold vp_in; decide) ?_
      refine m_astore F (lv' := [(5, .ref ((r3134 + 1) + 10 + 12 * 0)), (4, .ref r3127), (0, .ref a), (1, .int (nI n3126)), (2, .long x902)]) e_X9_level_30 (by decide) rfl ?_
      refine m_aload F rfl e_X9_level_32 ?_
      refine m_aload F rfl e_X9_level_34 ?_
      refine t_callV F e_X9_level_36 (s_X5_copyFrom (x_l X) V G b M Z T _ _ ((r3134 + 1) + 10 + 12 * 0) r3127 h3130.1 (kA_8 (kA_7 k3135 (r := 1) (by decide)) (j := 0) (by omega)) k3128 (gd_le k3135 (j := 0) (by omega) (gd_sp hG er3134)) (by omega)) cb_X5_copyFrom ml_X9_291 im_X5_copyFrom se_X5_copyFrom (fun _ => o15) h3130 (kA_8 (kA_7 k3135 (r := 1) (by decide)) (j := 0) (by omega)) rfl rfl (rest := []) rfl (Nat.le_of_ble_eq_true rfl) ⟨Nat.le_of_ble_eq_true rfl, Nat.le_of_ble_eq_true rfl⟩ ⟨Nat.le_of_ble_eq_true rfl, Nat.le_of_ble_eq_true rfl⟩ (fun r σ3137 hp => ?_)
      obtain ⟨h3139, ⟨e3140, eo3141⟩, rfl⟩ := hp
      have h3138 := HK.trans h3130 h3139 (by decide)
      refine m_aload F rfl e_X9_level_39 ?_
      refine m_lload_n F rfl e_X9_level_41 ?_
      refine m_aload_n F rfl e_X9_level_42 ?_
      refine t_get F e_X9_level_43 fl_X9_42 (fun _ => o1) h3138 hk rfl (fun v hv f3142 => ?_)
      obtain ⟨r3143, k3144, rfl⟩ := hv
      refine t_callV F e_X9_level_46 (s_X5_leastLevel (x_l X) V G b M Z T _ _ ((r3134 + 1) + 10 + 12 * 0) x902 r3143 h3138.1 (kA_8 (kA_7 k3135 (r := 1) (by decide)) (j := 0) (by omega)) k3144 (by omega)) cb_X5_leastLevel ml_X9_354 im_X5_leastLevel se_X5_leastLevel (fun _ => o15) h3138 (kA_8 (kA_7 k3135 (r := 1) (by decide)) (j := 0) (by omega)) rfl rfl (rest := []) rfl (Nat.le_of_ble_eq_true rfl) ⟨Nat.le_of_ble_eq_true rfl, Nat.le_of_ble_eq_true rfl⟩ ⟨Nat.le_of_ble_eq_true rfl, Nat.le_of_ble_eq_true rfl⟩ (fun r σ3145 hp => ?_)
      obtain ⟨h3147, x3148, rfl⟩ := hp
      have h3146 := HK.trans h3138 h3147 (by decide)
      exact m_iret F hQ e_X9_level_49 (⟨h3146, _, rfl⟩)
    · have c16 : n3132 = 0 := (nI_eq (a := n3132) (b := 0) (by omega) (by omega)).mp q16
      refine m_iconst F (v := (-1)) (by decide) e_X9_level_19 ?_
      exact m_iret F hQ e_X9_level_20 (⟨h3130, _, rfl⟩)
set_option maxRecDepth 20000 in
theorem lp_X9_heaviest_13 {V : VX} {G : GH} {X : MX} {b M Z T N : Nat} {σ : Mem} {a : Nat}   (F : Fx V X yX9_heaviest cX9_heaviest 6 (some .int) (rmd 1 0 0)) (hQ : Rt V X 0 0 N (fun r τ => HK V G (b, M, Z, T) [0, 1, 2, 3, 4, 5, 7, 8, 9, 10, 11, 12, 13, 14, 15, 16, 17, 18, 19] σ τ ∧ ∃ x : Int32, r = some (.int x))) (hk : kA b a = 1) (hG : okG G) (hM : M + 0 ≤ 1000000000)  : ∀ (fuel : Nat) (i : Nat) (u1 : Int32) (u2 : Int32) (q1 : Nat) (τ : Mem), HK V G (b, M, Z, T) [0, 1, 2, 3, 4, 5, 7, 8, 9, 10, 11, 12, 13, 14, 15, 16, 17, 18, 19] σ τ → kA b q1 = 6 ∧ i ≤ 4 → 4 - i < fuel → Wm V X 6 N τ 0 0 13 [(4, .int (nI i)), (1, .int u1), (3, .int u2), (0, .ref a), (2, .ref q1)] [] := by
  intro fuel
  induction fuel with
  | zero => intro i u1 u2 q1 τ h1 hi hm; exact absurd hm (Nat.not_lt_zero _)
  | succ fuel ih =>
    intro i u1 u2 q1 τ h1 hi hm
    obtain ⟨kq1, hi⟩ := hi
    refine m_iload F rfl e_X9_heaviest_13 ?_
    refine m_aload_n F rfl e_X9_heaviest_15 ?_
    refine t_get F e_X9_heaviest_16 fl_X9_16 (fun _ => o1) h1 hk rfl (fun v hv f3149 => ?_)
    obtain ⟨r3150, ⟨k3151, er3150⟩, rfl⟩ := hv
    replace er3150 : r3150 = b + 2 + 63 * G.bk := er3150
    refine t_get F e_X9_heaviest_19 fl_X9_358 (fun _ => o7) h1 k3151 rfl (fun v hv f3152 => ?_)
    obtain ⟨n3153, ⟨hn3153, gn3153⟩, rfl⟩ := hv
    replace hn3153 : n3153 ≤ 4 := hn3153
    refine m_icmp_ge F e_X9_heaviest_22 (fun q22 => ?_) (fun q22 => ?_)
    · have c22 : i ≥ n3153 := (nI_leI (a := n3153) (b := i) (by omega) (by omega)).mp q22
      refine m_iload_n F rfl e_X9_heaviest_97 ?_
      exact m_iret F hQ e_X9_heaviest_98 (⟨h1, _, rfl⟩)
    · have c22 : i < n3153 := by have hh := mt (nI_leI (a := n3153) (b := i) (by omega) (by omega)).mpr q22; omega
      refine m_aload_n F rfl e_X9_heaviest_25 ?_
      refine t_getC F e_X9_heaviest_26 fl_X9_16 (fun _ => o1) h1 hk (f3149) ?_
      refine t_get F e_X9_heaviest_29 fl_X9_226 (fun _ => o7) h1 k3151 rfl (fun v hv f3154 => ?_)
      obtain rfl : v = .ref (r3150 + 1) := hv
      refine m_iload F rfl e_X9_heaviest_32 ?_
      refine t_aald8 F (j := i) e_X9_heaviest_34 rfl h1 (kA_7 k3151 (r := 1) (by decide)) (nI_clamp (by omega)) (vp_in_nI (by omega) (by decide)) ?_
      refine m_astore F (lv' := [(5, .ref ((r3150 + 1) + 10 + 12 * i)), (4, .int (nI i)), (1, .int u1), (3, .int u2), (0, .ref a), (2, .ref q1)]) e_X9_heaviest_35 (by decide) rfl ?_
      refine m_aload F rfl e_X9_heaviest_37 ?_
      refine t_get F e_X9_heaviest_39 fl_X9_125 (fun _ => o15) h1 (kA_8 (kA_7 k3151 (r := 1) (by decide)) (j := i) (by omega)) rfl (fun v hv f3155 => ?_)
      obtain ⟨x3156, rfl⟩ := hv
      refine m_iconst F (v := 1) (by decide) e_X9_heaviest_42 ?_
      refine m_icmp_eq F e_X9_heaviest_43 (fun q43 => ?_) (fun q43 => ?_)
      · refine m_iload_n F rfl e_X9_heaviest_49 ?_
        refine m_bipush F (v := (-2)) (by decide) e_X9_heaviest_50 ?_
        refine m_icmp_eq F e_X9_heaviest_52 (fun q52 => ?_) (fun q52 => ?_)
        · refine m_iload F rfl e_X9_heaviest_73 ?_
          refine m_istore_n F (lv' := [(1, .int (nI i)), (5, .ref ((r3150 + 1) + 10 + 12 * i)), (4, .int (nI i)), (3, .int u2), (0, .ref a), (2, .ref q1)]) e_X9_heaviest_75 (by decide) rfl ?_
          refine m_aload_n F rfl e_X9_heaviest_76 ?_
          refine m_aload F rfl e_X9_heaviest_77 ?_
          refine t_get F e_X9_heaviest_79 fl_X9_151 (fun _ => o15) h1 (kA_8 (kA_7 k3151 (r := 1) (by decide)) (j := i) (by omega)) rfl (fun v hv f3157 => ?_)
          obtain ⟨r3158, k3159, rfl⟩ := hv
          refine t_callV F e_X9_heaviest_82 (s_X1_copyFrom (x_l X) V G b M Z T _ _ q1 r3158 h1.1 kq1 k3159 (by omega)) cb_X1_copyFrom ml_X9_284 im_X1_copyFrom se_X1_copyFrom (fun _ => o6) h1 kq1 rfl rfl (rest := []) rfl (Nat.le_of_ble_eq_true rfl) ⟨Nat.le_of_ble_eq_true rfl, Nat.le_of_ble_eq_true rfl⟩ ⟨Nat.le_of_ble_eq_true rfl, Nat.le_of_ble_eq_true rfl⟩ (fun r σ3160 hp => ?_)
          obtain ⟨h3162, rfl⟩ := hp
          have h3161 := HK.trans h1 h3162 (by decide)
          refine m_aload F rfl e_X9_heaviest_85 ?_
          refine t_callV F e_X9_heaviest_87 (s_X5_left (x_l X) V G b M Z T _ _ ((r3150 + 1) + 10 + 12 * i)  h3161.1 (kA_8 (kA_7 k3151 (r := 1) (by decide)) (j := i) (by omega))  (by omega)) cb_X5_left ml_X9_128 im_X5_left se_X5_left (fun _ => o15) h3161 (kA_8 (kA_7 k3151 (r := 1) (by decide)) (j := i) (by omega)) rfl rfl (rest := []) rfl (Nat.le_of_ble_eq_true rfl) ⟨Nat.le_of_ble_eq_true rfl, Nat.le_of_ble_eq_true rfl⟩ ⟨Nat.le_of_ble_eq_true rfl, Nat.le_of_ble_eq_true rfl⟩ (fun r σ3163 hp => ?_)
          obtain ⟨h3165, x3166, rfl⟩ := hp
          have h3164 := HK.trans h3161 h3165 (by decide)
          refine m_istore_n F (lv' := [(3, .int x3166), (1, .int (nI i)), (5, .ref ((r3150 + 1) + 10 + 12 * i)), (4, .int (nI i)), (0, .ref a), (2, .ref q1)]) e_X9_heaviest_90 (by decide) rfl ?_
          refine m_iinc F (v := nI (i + 1)) (lv' := [(4, .int (nI (i + 1))), (3, .int x3166), (1, .int (nI i)), (5, .ref ((r3150 + 1) + 10 + 12 * i)), (0, .ref a), (2, .ref q1)]) e_X9_heaviest_91 rfl (nI_add i 1) (by decide) rfl ?_
          refine m_goto F e_X9_heaviest_94 ?_
          refine Wm.lvsub (lv' := [(4, .int (nI (i + 1))), (1, .int (nI i)), (3, .int x3166), (0, .ref a), (2, .ref q1)]) ?_ [0, 2, 1, 4, 5] rfl
          exact ih (i + 1) (nI i) x3166 q1 _ h3164 ⟨kq1, (by omega)⟩ (by omega)
        · refine m_aload F rfl e_X9_heaviest_55 ?_
          refine t_get F e_X9_heaviest_57 fl_X9_151 (fun _ => o15) h1 (kA_8 (kA_7 k3151 (r := 1) (by decide)) (j := i) (by omega)) rfl (fun v hv f3167 => ?_)
          obtain ⟨r3168, k3169, rfl⟩ := hv
          refine m_aload F rfl e_X9_heaviest_60 ?_
          refine t_callV F e_X9_heaviest_62 (s_X5_left (x_l X) V G b M Z T _ _ ((r3150 + 1) + 10 + 12 * i)  h1.1 (kA_8 (kA_7 k3151 (r := 1) (by decide)) (j := i) (by omega))  (by omega)) cb_X5_left ml_X9_128 im_X5_left se_X5_left (fun _ => o15) h1 (kA_8 (kA_7 k3151 (r := 1) (by decide)) (j := i) (by omega)) rfl rfl (rest := [.ref r3168]) rfl (Nat.le_of_ble_eq_true rfl) ⟨Nat.le_of_ble_eq_true rfl, Nat.le_of_ble_eq_true rfl⟩ ⟨Nat.le_of_ble_eq_true rfl, Nat.le_of_ble_eq_true rfl⟩ (fun r σ3170 hp => ?_)
          obtain ⟨h3172, x3173, rfl⟩ := hp
          have h3171 := HK.trans h1 h3172 (by decide)
          refine m_aload_n F rfl e_X9_heaviest_65 ?_
          refine m_iload_n F rfl e_X9_heaviest_66 ?_
          refine t_callV F e_X9_heaviest_67 (s_X1_isGreaterShare (x_l X) V G b M Z T _ _ r3168 x3173 q1 u2 h3171.1 k3169 kq1 (by omega)) cb_X1_isGreaterShare ml_X9_301 im_X1_isGreaterShare se_X1_isGreaterShare (fun _ => o6) h3171 k3169 rfl rfl (rest := []) rfl (Nat.le_of_ble_eq_true rfl) ⟨Nat.le_of_ble_eq_true rfl, Nat.le_of_ble_eq_true rfl⟩ ⟨Nat.le_of_ble_eq_true rfl, Nat.le_of_ble_eq_true rfl⟩ (fun r σ3174 hp => ?_)
          obtain ⟨h3176, n3177, hn3177, rfl⟩ := hp
          have h3175 := HK.trans h3171 h3176 (by decide)
          refine m_if_eq F e_X9_heaviest_70 (fun q70 => ?_) (fun q70 => ?_)
          · have c70 : n3177 = 0 := (nI_eq (a := n3177) (b := 0) (by omega) (by omega)).mp q70
            refine m_iinc F (v := nI (i + 1)) (lv' := [(4, .int (nI (i + 1))), (5, .ref ((r3150 + 1) + 10 + 12 * i)), (1, .int u1), (3, .int u2), (0, .ref a), (2, .ref q1)]) e_X9_heaviest_91 rfl (nI_add i 1) (by decide) rfl ?_
            refine m_goto F e_X9_heaviest_94 ?_
            refine Wm.lvsub (lv' := [(4, .int (nI (i + 1))), (1, .int u1), (3, .int u2), (0, .ref a), (2, .ref q1)]) ?_ [0, 2, 3, 4, 5] rfl
            exact ih (i + 1) u1 u2 q1 _ h3175 ⟨kq1, (by omega)⟩ (by omega)
          · have c70 : n3177 ≠ 0 := by have hh := mt (nI_eq (a := n3177) (b := 0) (by omega) (by omega)).mpr q70; omega
            refine m_iload F rfl e_X9_heaviest_73 ?_
            refine m_istore_n F (lv' := [(1, .int (nI i)), (5, .ref ((r3150 + 1) + 10 + 12 * i)), (4, .int (nI i)), (3, .int u2), (0, .ref a), (2, .ref q1)]) e_X9_heaviest_75 (by decide) rfl ?_
            refine m_aload_n F rfl e_X9_heaviest_76 ?_
            refine m_aload F rfl e_X9_heaviest_77 ?_
            refine t_getC F e_X9_heaviest_79 fl_X9_151 (fun _ => o15) h3175 (kA_8 (kA_7 k3151 (r := 1) (by decide)) (j := i) (by omega)) ((fld_eq (h3176.2 ((r3150 + 1) + 10 + 12 * i) (by rw [show kA _ ((r3150 + 1) + 10 + 12 * i) = 15 from (kA_8 (kA_7 k3151 (r := 1) (by decide)) (j := i) (by omega))]; decide))).trans ((fld_eq (h3172.2 ((r3150 + 1) + 10 + 12 * i) (by rw [show kA _ ((r3150 + 1) + 10 + 12 * i) = 15 from (kA_8 (kA_7 k3151 (r := 1) (by decide)) (j := i) (by omega))]; decide))).trans f3167)) ?_
            refine t_callV F e_X9_heaviest_82 (s_X1_copyFrom (x_l X) V G b M Z T _ _ q1 r3168 h3175.1 kq1 k3169 (by omega)) cb_X1_copyFrom ml_X9_284 im_X1_copyFrom se_X1_copyFrom (fun _ => o6) h3175 kq1 rfl rfl (rest := []) rfl (Nat.le_of_ble_eq_true rfl) ⟨Nat.le_of_ble_eq_true rfl, Nat.le_of_ble_eq_true rfl⟩ ⟨Nat.le_of_ble_eq_true rfl, Nat.le_of_ble_eq_true rfl⟩ (fun r σ3178 hp => ?_)
            obtain ⟨h3180, rfl⟩ := hp
            have h3179 := HK.trans h3175 h3180 (by decide)
            refine m_aload F rfl e_X9_heaviest_85 ?_
            refine t_callV F e_X9_heaviest_87 (s_X5_left (x_l X) V G b M Z T _ _ ((r3150 + 1) + 10 + 12 * i)  h3179.1 (kA_8 (kA_7 k3151 (r := 1) (by decide)) (j := i) (by omega))  (by omega)) cb_X5_left ml_X9_128 im_X5_left se_X5_left (fun _ => o15) h3179 (kA_8 (kA_7 k3151 (r := 1) (by decide)) (j := i) (by omega)) rfl rfl (rest := []) rfl (Nat.le_of_ble_eq_true rfl) ⟨Nat.le_of_ble_eq_true rfl, Nat.le_of_ble_eq_true rfl⟩ ⟨Nat.le_of_ble_eq_true rfl, Nat.le_of_ble_eq_true rfl⟩ (fun r σ3181 hp => ?_)
            obtain ⟨h3183, x3184, rfl⟩ := hp
            have h3182 := HK.trans h3179 h3183 (by decide)
            refine m_istore_n F (lv' := [(3, .int x3184), (1, .int (nI i)), (5, .ref ((r3150 + 1) + 10 + 12 * i)), (4, .int (nI i)), (0, .ref a), (2, .ref q1)]) e_X9_heaviest_90 (by decide) rfl ?_
            refine m_iinc F (v := nI (i + 1)) (lv' := [(4, .int (nI (i + 1))), (3, .int x3184), (1, .int (nI i)), (5, .ref ((r3150 + 1) + 10 + 12 * i)), (0, .ref a), (2, .ref q1)]) e_X9_heaviest_91 rfl (nI_add i 1) (by decide) rfl ?_
            refine m_goto F e_X9_heaviest_94 ?_
            refine Wm.lvsub (lv' := [(4, .int (nI (i + 1))), (1, .int (nI i)), (3, .int x3184), (0, .ref a), (2, .ref q1)]) ?_ [0, 2, 1, 4, 5] rfl
            exact ih (i + 1) (nI i) x3184 q1 _ h3182 ⟨kq1, (by omega)⟩ (by omega)
      · refine m_goto F e_X9_heaviest_46 ?_
        refine m_iinc F (v := nI (i + 1)) (lv' := [(4, .int (nI (i + 1))), (5, .ref ((r3150 + 1) + 10 + 12 * i)), (1, .int u1), (3, .int u2), (0, .ref a), (2, .ref q1)]) e_X9_heaviest_91 rfl (nI_add i 1) (by decide) rfl ?_
        refine m_goto F e_X9_heaviest_94 ?_
        refine Wm.lvsub (lv' := [(4, .int (nI (i + 1))), (1, .int u1), (3, .int u2), (0, .ref a), (2, .ref q1)]) ?_ [0, 2, 3, 4, 5] rfl
        exact ih (i + 1) u1 u2 q1 _ h1 ⟨kq1, (by omega)⟩ (by omega)
set_option maxRecDepth 20000 in
theorem s_X9_heaviest (l : Launch) (V : VX) (G : GH) (b M Z T N : Nat) (σ : Mem) (a : Nat) (h0 : HT V G (b, M, Z, T) σ) (hk : kA b a = 1) (hG : okG G) (hM : M + 0 ≤ 1000000000) : Ct l V yX9_heaviest cX9_heaviest 6 (some .int) 1 0 0 N σ [.ref a] (fun r τ => HK V G (b, M, Z, T) [0, 1, 2, 3, 4, 5, 7, 8, 9, 10, 11, 12, 13, 14, 15, 16, 17, 18, 19] σ τ ∧ ∃ x : Int32, r = some (.int x)) := by
  refine Ct.of (by decide) (Nat.le_of_ble_eq_true rfl) [(0, .ref a)] rfl (fun X hX F hQ => ?_)
  have h1 : HK V G (b, M, Z, T) [0, 1, 2, 3, 4, 5, 7, 8, 9, 10, 11, 12, 13, 14, 15, 16, 17, 18, 19] σ σ := HK.start h0
  refine m_bipush F (v := (-2)) (by decide) e_X9_heaviest_0 ?_
  refine m_istore_n F (lv' := [(1, .int (-2)), (0, .ref a)]) e_X9_heaviest_2 (by decide) rfl ?_
  refine m_aload_n F rfl e_X9_heaviest_3 ?_
  refine t_get F e_X9_heaviest_4 fl_X9_42 (fun _ => o1) h1 hk rfl (fun v hv f3185 => ?_)
  obtain ⟨r3186, k3187, rfl⟩ := hv
  refine m_astore_n F (lv' := [(2, .ref r3186), (1, .int (-2)), (0, .ref a)]) e_X9_heaviest_7 (by decide) rfl ?_
  refine m_iconst F (v := 1) (by decide) e_X9_heaviest_8 ?_
  refine m_istore_n F (lv' := [(3, .int 1), (2, .ref r3186), (1, .int (-2)), (0, .ref a)]) e_X9_heaviest_9 (by decide) rfl ?_
  refine m_iconst F (v := 0) (by decide) e_X9_heaviest_10 ?_
  refine m_istore F (lv' := [(4, .int 0), (3, .int 1), (2, .ref r3186), (1, .int (-2)), (0, .ref a)]) e_X9_heaviest_11 (by decide) rfl ?_
  refine Wm.lvsub (lv' := [(4, .int 0), (1, .int (-2)), (3, .int 1), (0, .ref a), (2, .ref r3186)]) ?_ [0, 3, 1, 4, 2] rfl
  exact lp_X9_heaviest_13 F hQ hk hG hM (4 - 0 + 1) 0 (-2) 1 r3186 _ h1 ⟨k3187, (by omega)⟩ (Nat.lt_succ_self _)
set_option maxRecDepth 20000 in
theorem lp_X9_chance_92 {V : VX} {G : GH} {X : MX} {b M Z T N : Nat} {σ : Mem} {a : Nat}   (F : Fx V X yX9_chance cX9_chance 13 (some .long) (rmd 7 0 0)) (hQ : Rt V X 0 0 N (fun r τ => HK V G (b, M + 7560, Z, T) [0, 1, 2, 3, 4, 5, 8, 9, 16] σ τ ∧ ∃ x : Int64, r = some (.long x))) (hk : kA b a = 1) (hG : okG G) (hM : M + 7560 ≤ 1000000000)  : ∀ (fuel : Nat) (i : Nat) (c : Nat) (u1 : Int64) (u2 : Int64) (u3 : Int32) (u4 : Int32) (q1 : Nat) (q2 : Nat) (q3 : Nat) (τ : Mem), HK V G (b, M + 756 * i, Z, T) [0, 1, 2, 3, 4, 5, 8, 9, 16] σ τ → kA b q1 = 6 ∧ kA b q2 = 6 ∧ kA b q3 = 6 ∧ i ≤ 10 ∧ c ≤ 10 → 10 - i < fuel → Wm V X 13 N τ 0 0 92 [(11, .int (nI i)), (2, .int (nI c)), (4, .long u1), (9, .long u2), (0, .ref a), (1, .int u3), (3, .int u4), (6, .ref q1), (7, .ref q2), (8, .ref q3)] [] := by
  intro fuel
  induction fuel with
  | zero => intro i c u1 u2 u3 u4 q1 q2 q3 τ h1 hi hm; exact absurd hm (Nat.not_lt_zero _)
  | succ fuel ih =>
    intro i c u1 u2 u3 u4 q1 q2 q3 τ h1 hi hm
    obtain ⟨kq1, kq2, kq3, hi⟩ := hi
    refine m_iload F rfl e_X9_chance_92 ?_
    refine m_iload_n F rfl e_X9_chance_94 ?_
    refine m_icmp_ge F e_X9_chance_95 (fun q95 => ?_) (fun q95 => ?_)
    · have c95 : i ≥ c := (nI_leI (a := c) (b := i) (by omega) (by omega)).mp q95
      refine m_iload_n F rfl e_X9_chance_181 ?_
      by_cases hx0 : (u4 : Int32) = 0
      · refine m_lookup F e_X9_chance_182 (by decide) (off := 26) (by rw [hx0]; decide) (tgt := 208) (by decide) ?_
        refine m_lload F rfl e_X9_chance_208 ?_
        exact m_lret F hQ e_X9_chance_210 (⟨(h1.mono (M' := M + 7560) (Z' := Z) (by omega) (by intro e; first | rfl | assumption | omega)), _, rfl⟩)
      by_cases hx1 : (u4 : Int32) = 1
      · refine m_lookup F e_X9_chance_182 (by decide) (off := 29) (by rw [hx1]; decide) (tgt := 211) (by decide) ?_
        refine m_aload F rfl e_X9_chance_211 ?_
        refine t_callV F e_X9_chance_213 (s_X1_asLong (x_l X) V G b (M + 756 * i) Z T _ _ q2  h1.1 kq2  (by omega)) cb_X1_asLong ml_X9_157 im_X1_asLong se_X1_asLong (fun _ => o6) h1 kq2 rfl rfl (rest := []) rfl (Nat.le_of_ble_eq_true rfl) ⟨Nat.le_of_ble_eq_true rfl, Nat.le_of_ble_eq_true rfl⟩ ⟨Nat.le_of_ble_eq_true rfl, Nat.le_of_ble_eq_true rfl⟩ (fun r σ3188 hp => ?_)
        obtain ⟨h3190, x3191, rfl⟩ := hp
        have h3189 := HK.trans h1 h3190 (by decide)
        exact m_lret F hQ e_X9_chance_216 (⟨(h3189.mono (M' := M + 7560) (Z' := Z) (by omega) (by intro e; first | rfl | assumption | omega)), _, rfl⟩)
      refine m_lookup F e_X9_chance_182 (by decide) (off := 35) ((lv_osw hx0 (by decide)).trans ((lv_osw hx1 (by decide)).trans (rfl))) (tgt := 217) (by decide) ?_
      refine m_aload F rfl e_X9_chance_217 ?_
      refine t_callV F e_X9_chance_219 (s_X1_asLong (x_l X) V G b (M + 756 * i) Z T _ _ q3  h1.1 kq3  (by omega)) cb_X1_asLong ml_X9_157 im_X1_asLong se_X1_asLong (fun _ => o6) h1 kq3 rfl rfl (rest := []) rfl (Nat.le_of_ble_eq_true rfl) ⟨Nat.le_of_ble_eq_true rfl, Nat.le_of_ble_eq_true rfl⟩ ⟨Nat.le_of_ble_eq_true rfl, Nat.le_of_ble_eq_true rfl⟩ (fun r σ3192 hp => ?_)
      obtain ⟨h3194, x3195, rfl⟩ := hp
      have h3193 := HK.trans h1 h3194 (by decide)
      exact m_lret F hQ e_X9_chance_222 (⟨(h3193.mono (M' := M + 7560) (Z' := Z) (by omega) (by intro e; first | rfl | assumption | omega)), _, rfl⟩)
    · have c95 : i < c := by have hh := mt (nI_leI (a := c) (b := i) (by omega) (by omega)).mpr q95; omega
      refine m_aload_n F rfl e_X9_chance_98 ?_
      refine m_iconst F (v := 0) (by decide) e_X9_chance_99 ?_
      refine t_callV F e_X9_chance_100 (s_X9_bookIn (x_l X) V G b (M + 756 * i) Z T _ _ a 0 h1.1 hk (by omega) hG (by omega)) cb_X9_bookIn ml_X9_271 im_X9_bookIn se_X9_bookIn (fun _ => o1) h1 hk rfl rfl (rest := []) rfl (Nat.le_of_ble_eq_true rfl) ⟨Nat.le_of_ble_eq_true rfl, Nat.le_of_ble_eq_true rfl⟩ ⟨Nat.le_of_ble_eq_true rfl, Nat.le_of_ble_eq_true rfl⟩ (fun r σ3196 hp => ?_)
      obtain ⟨h3198, r3199, k3200, rfl⟩ := hp
      have h3197 := HK.trans h1 h3198 (by decide)
      refine m_astore F (lv' := [(12, .ref r3199), (11, .int (nI i)), (2, .int (nI c)), (4, .long u1), (9, .long u2), (0, .ref a), (1, .int u3), (3, .int u4), (6, .ref q1), (7, .ref q2), (8, .ref q3)]) e_X9_chance_103 (by decide) rfl ?_
      refine m_aload F rfl e_X9_chance_105 ?_
      refine m_lload F rfl e_X9_chance_107 ?_
      refine t_callV F e_X9_chance_109 (s_X2_yearByChance (x_l X) V G b (M + 756 * i + 648) Z T _ _ r3199 u1 h3197.1 k3200  (by omega)) cb_X2_yearByChance ml_X9_364 im_X2_yearByChance se_X2_yearByChance (fun _ => o7) h3197 k3200 rfl rfl (rest := []) rfl (Nat.le_of_ble_eq_true rfl) ⟨Nat.le_of_ble_eq_true rfl, Nat.le_of_ble_eq_true rfl⟩ ⟨Nat.le_of_ble_eq_true rfl, Nat.le_of_ble_eq_true rfl⟩ (fun r σ3201 hp => ?_)
      obtain ⟨h3203, x3204, rfl⟩ := hp
      have h3202 := HK.trans h3197 h3203 (by decide)
      refine m_lstore F (lv' := [(4, .long x3204), (12, .ref r3199), (11, .int (nI i)), (2, .int (nI c)), (9, .long u2), (0, .ref a), (1, .int u3), (3, .int u4), (6, .ref q1), (7, .ref q2), (8, .ref q3)]) e_X9_chance_112 (by decide) rfl ?_
      refine m_aload F rfl e_X9_chance_114 ?_
      refine m_aload F rfl e_X9_chance_116 ?_
      refine t_callV F e_X9_chance_118 (s_X2_countAllOwed (x_l X) V G b (M + 756 * i + 756) Z T _ _ r3199 q1 h3202.1 k3200 kq1 (by omega)) cb_X2_countAllOwed ml_X9_278 im_X2_countAllOwed se_X2_countAllOwed (fun _ => o7) h3202 k3200 rfl rfl (rest := []) rfl (Nat.le_of_ble_eq_true rfl) ⟨Nat.le_of_ble_eq_true rfl, Nat.le_of_ble_eq_true rfl⟩ ⟨Nat.le_of_ble_eq_true rfl, Nat.le_of_ble_eq_true rfl⟩ (fun r σ3205 hp => ?_)
      obtain ⟨h3207, rfl⟩ := hp
      have h3206 := HK.trans h3202 h3207 (by decide)
      refine m_lload F rfl e_X9_chance_121 ?_
      refine m_aload F rfl e_X9_chance_123 ?_
      refine t_callV F e_X9_chance_125 (s_X1_asLong (x_l X) V G b (M + 756 * i + 756) Z T _ _ q1  h3206.1 kq1  (by omega)) cb_X1_asLong ml_X9_157 im_X1_asLong se_X1_asLong (fun _ => o6) h3206 kq1 rfl rfl (rest := [.long u2]) rfl (Nat.le_of_ble_eq_true rfl) ⟨Nat.le_of_ble_eq_true rfl, Nat.le_of_ble_eq_true rfl⟩ ⟨Nat.le_of_ble_eq_true rfl, Nat.le_of_ble_eq_true rfl⟩ (fun r σ3208 hp => ?_)
      obtain ⟨h3210, x3211, rfl⟩ := hp
      have h3209 := HK.trans h3206 h3210 (by decide)
      refine m_ladd F e_X9_chance_128 ?_
      refine Wm.topl (fun x3212 _ => ?_)
      refine m_lstore F (lv' := [(9, .long x3212), (4, .long x3204), (12, .ref r3199), (11, .int (nI i)), (2, .int (nI c)), (0, .ref a), (1, .int u3), (3, .int u4), (6, .ref q1), (7, .ref q2), (8, .ref q3)]) e_X9_chance_129 (by decide) rfl ?_
      refine m_iload F rfl e_X9_chance_131 ?_
      refine m_if_eq F e_X9_chance_133 (fun q133 => ?_) (fun q133 => ?_)
      · have c133 : i = 0 := (nI_eq (a := i) (b := 0) (by omega) (by omega)).mp q133
        refine m_aload F rfl e_X9_chance_146 ?_
        refine m_aload F rfl e_X9_chance_148 ?_
        refine t_callV F e_X9_chance_150 (s_X1_copyFrom (x_l X) V G b (M + 756 * i + 756) Z T _ _ q2 q1 h3209.1 kq2 kq1 (by omega)) cb_X1_copyFrom ml_X9_284 im_X1_copyFrom se_X1_copyFrom (fun _ => o6) h3209 kq2 rfl rfl (rest := []) rfl (Nat.le_of_ble_eq_true rfl) ⟨Nat.le_of_ble_eq_true rfl, Nat.le_of_ble_eq_true rfl⟩ ⟨Nat.le_of_ble_eq_true rfl, Nat.le_of_ble_eq_true rfl⟩ (fun r σ3213 hp => ?_)
        obtain ⟨h3215, rfl⟩ := hp
        have h3214 := HK.trans h3209 h3215 (by decide)
        refine m_iload F rfl e_X9_chance_153 ?_
        refine m_if_eq F e_X9_chance_155 (fun q155 => ?_) (fun q155 => ?_)
        · have c155 : i = 0 := (nI_eq (a := i) (b := 0) (by omega) (by omega)).mp q155
          refine m_aload F rfl e_X9_chance_168 ?_
          refine m_aload F rfl e_X9_chance_170 ?_
          refine t_callV F e_X9_chance_172 (s_X1_copyFrom (x_l X) V G b (M + 756 * i + 756) Z T _ _ q3 q1 h3214.1 kq3 kq1 (by omega)) cb_X1_copyFrom ml_X9_284 im_X1_copyFrom se_X1_copyFrom (fun _ => o6) h3214 kq3 rfl rfl (rest := []) rfl (Nat.le_of_ble_eq_true rfl) ⟨Nat.le_of_ble_eq_true rfl, Nat.le_of_ble_eq_true rfl⟩ ⟨Nat.le_of_ble_eq_true rfl, Nat.le_of_ble_eq_true rfl⟩ (fun r σ3216 hp => ?_)
          obtain ⟨h3218, rfl⟩ := hp
          have h3217 := HK.trans h3214 h3218 (by decide)
          refine m_iinc F (v := nI (i + 1)) (lv' := [(11, .int (nI (i + 1))), (9, .long x3212), (4, .long x3204), (12, .ref r3199), (2, .int (nI c)), (0, .ref a), (1, .int u3), (3, .int u4), (6, .ref q1), (7, .ref q2), (8, .ref q3)]) e_X9_chance_175 rfl (nI_add i 1) (by decide) rfl ?_
          refine m_goto F e_X9_chance_178 ?_
          refine Wm.lvsub (lv' := [(11, .int (nI (i + 1))), (2, .int (nI c)), (4, .long x3204), (9, .long x3212), (0, .ref a), (1, .int u3), (3, .int u4), (6, .ref q1), (7, .ref q2), (8, .ref q3)]) ?_ [0, 4, 2, 1, 5, 6, 7, 8, 9, 10] rfl
          exact ih (i + 1) c x3204 x3212 u3 u4 q1 q2 q3 _ (h3217.mono (M' := M + 756 * (i + 1)) (Z' := Z) (by omega) (by intro e9; first | exact e9 | rfl)) ⟨kq1, kq2, kq3, (by omega)⟩ (by omega)
        · have c155 : i ≠ 0 := by have hh := mt (nI_eq (a := i) (b := 0) (by omega) (by omega)).mpr q155; omega
          refine m_aload F rfl e_X9_chance_158 ?_
          refine m_aload F rfl e_X9_chance_160 ?_
          refine t_callV F e_X9_chance_162 (s_X1_isAbove (x_l X) V G b (M + 756 * i + 756) Z T _ _ q3 q1 h3214.1 kq3 kq1 (by omega)) cb_X1_isAbove ml_X9_330 im_X1_isAbove se_X1_isAbove (fun _ => o6) h3214 kq3 rfl rfl (rest := []) rfl (Nat.le_of_ble_eq_true rfl) ⟨Nat.le_of_ble_eq_true rfl, Nat.le_of_ble_eq_true rfl⟩ ⟨Nat.le_of_ble_eq_true rfl, Nat.le_of_ble_eq_true rfl⟩ (fun r σ3219 hp => ?_)
          obtain ⟨h3221, n3222, hn3222, rfl⟩ := hp
          have h3220 := HK.trans h3214 h3221 (by decide)
          refine m_if_eq F e_X9_chance_165 (fun q165 => ?_) (fun q165 => ?_)
          · have c165 : n3222 = 0 := (nI_eq (a := n3222) (b := 0) (by omega) (by omega)).mp q165
            refine m_iinc F (v := nI (i + 1)) (lv' := [(11, .int (nI (i + 1))), (9, .long x3212), (4, .long x3204), (12, .ref r3199), (2, .int (nI c)), (0, .ref a), (1, .int u3), (3, .int u4), (6, .ref q1), (7, .ref q2), (8, .ref q3)]) e_X9_chance_175 rfl (nI_add i 1) (by decide) rfl ?_
            refine m_goto F e_X9_chance_178 ?_
            refine Wm.lvsub (lv' := [(11, .int (nI (i + 1))), (2, .int (nI c)), (4, .long x3204), (9, .long x3212), (0, .ref a), (1, .int u3), (3, .int u4), (6, .ref q1), (7, .ref q2), (8, .ref q3)]) ?_ [0, 4, 2, 1, 5, 6, 7, 8, 9, 10] rfl
            exact ih (i + 1) c x3204 x3212 u3 u4 q1 q2 q3 _ (h3220.mono (M' := M + 756 * (i + 1)) (Z' := Z) (by omega) (by intro e9; first | exact e9 | rfl)) ⟨kq1, kq2, kq3, (by omega)⟩ (by omega)
          · have c165 : n3222 ≠ 0 := by have hh := mt (nI_eq (a := n3222) (b := 0) (by omega) (by omega)).mpr q165; omega
            refine m_aload F rfl e_X9_chance_168 ?_
            refine m_aload F rfl e_X9_chance_170 ?_
            refine t_callV F e_X9_chance_172 (s_X1_copyFrom (x_l X) V G b (M + 756 * i + 756) Z T _ _ q3 q1 h3220.1 kq3 kq1 (by omega)) cb_X1_copyFrom ml_X9_284 im_X1_copyFrom se_X1_copyFrom (fun _ => o6) h3220 kq3 rfl rfl (rest := []) rfl (Nat.le_of_ble_eq_true rfl) ⟨Nat.le_of_ble_eq_true rfl, Nat.le_of_ble_eq_true rfl⟩ ⟨Nat.le_of_ble_eq_true rfl, Nat.le_of_ble_eq_true rfl⟩ (fun r σ3223 hp => ?_)
            obtain ⟨h3225, rfl⟩ := hp
            have h3224 := HK.trans h3220 h3225 (by decide)
            refine m_iinc F (v := nI (i + 1)) (lv' := [(11, .int (nI (i + 1))), (9, .long x3212), (4, .long x3204), (12, .ref r3199), (2, .int (nI c)), (0, .ref a), (1, .int u3), (3, .int u4), (6, .ref q1), (7, .ref q2), (8, .ref q3)]) e_X9_chance_175 rfl (nI_add i 1) (by decide) rfl ?_
            refine m_goto F e_X9_chance_178 ?_
            refine Wm.lvsub (lv' := [(11, .int (nI (i + 1))), (2, .int (nI c)), (4, .long x3204), (9, .long x3212), (0, .ref a), (1, .int u3), (3, .int u4), (6, .ref q1), (7, .ref q2), (8, .ref q3)]) ?_ [0, 4, 2, 1, 5, 6, 7, 8, 9, 10] rfl
            exact ih (i + 1) c x3204 x3212 u3 u4 q1 q2 q3 _ (h3224.mono (M' := M + 756 * (i + 1)) (Z' := Z) (by omega) (by intro e9; first | exact e9 | rfl)) ⟨kq1, kq2, kq3, (by omega)⟩ (by omega)
      · have c133 : i ≠ 0 := by have hh := mt (nI_eq (a := i) (b := 0) (by omega) (by omega)).mpr q133; omega
        refine m_aload F rfl e_X9_chance_136 ?_
        refine m_aload F rfl e_X9_chance_138 ?_
        refine t_callV F e_X9_chance_140 (s_X1_isAbove (x_l X) V G b (M + 756 * i + 756) Z T _ _ q1 q2 h3209.1 kq1 kq2 (by omega)) cb_X1_isAbove ml_X9_330 im_X1_isAbove se_X1_isAbove (fun _ => o6) h3209 kq1 rfl rfl (rest := []) rfl (Nat.le_of_ble_eq_true rfl) ⟨Nat.le_of_ble_eq_true rfl, Nat.le_of_ble_eq_true rfl⟩ ⟨Nat.le_of_ble_eq_true rfl, Nat.le_of_ble_eq_true rfl⟩ (fun r σ3226 hp => ?_)
        obtain ⟨h3228, n3229, hn3229, rfl⟩ := hp
        have h3227 := HK.trans h3209 h3228 (by decide)
        refine m_if_eq F e_X9_chance_143 (fun q143 => ?_) (fun q143 => ?_)
        · have c143 : n3229 = 0 := (nI_eq (a := n3229) (b := 0) (by omega) (by omega)).mp q143
          refine m_iload F rfl e_X9_chance_153 ?_
          refine m_if_eq F e_X9_chance_155 (fun q155 => ?_) (fun q155 => ?_)
          · have c155 : i = 0 := (nI_eq (a := i) (b := 0) (by omega) (by omega)).mp q155
            refine m_aload F rfl e_X9_chance_168 ?_
            refine m_aload F rfl e_X9_chance_170 ?_
            refine t_callV F e_X9_chance_172 (s_X1_copyFrom (x_l X) V G b (M + 756 * i + 756) Z T _ _ q3 q1 h3227.1 kq3 kq1 (by omega)) cb_X1_copyFrom ml_X9_284 im_X1_copyFrom se_X1_copyFrom (fun _ => o6) h3227 kq3 rfl rfl (rest := []) rfl (Nat.le_of_ble_eq_true rfl) ⟨Nat.le_of_ble_eq_true rfl, Nat.le_of_ble_eq_true rfl⟩ ⟨Nat.le_of_ble_eq_true rfl, Nat.le_of_ble_eq_true rfl⟩ (fun r σ3230 hp => ?_)
            obtain ⟨h3232, rfl⟩ := hp
            have h3231 := HK.trans h3227 h3232 (by decide)
            refine m_iinc F (v := nI (i + 1)) (lv' := [(11, .int (nI (i + 1))), (9, .long x3212), (4, .long x3204), (12, .ref r3199), (2, .int (nI c)), (0, .ref a), (1, .int u3), (3, .int u4), (6, .ref q1), (7, .ref q2), (8, .ref q3)]) e_X9_chance_175 rfl (nI_add i 1) (by decide) rfl ?_
            refine m_goto F e_X9_chance_178 ?_
            refine Wm.lvsub (lv' := [(11, .int (nI (i + 1))), (2, .int (nI c)), (4, .long x3204), (9, .long x3212), (0, .ref a), (1, .int u3), (3, .int u4), (6, .ref q1), (7, .ref q2), (8, .ref q3)]) ?_ [0, 4, 2, 1, 5, 6, 7, 8, 9, 10] rfl
            exact ih (i + 1) c x3204 x3212 u3 u4 q1 q2 q3 _ (h3231.mono (M' := M + 756 * (i + 1)) (Z' := Z) (by omega) (by intro e9; first | exact e9 | rfl)) ⟨kq1, kq2, kq3, (by omega)⟩ (by omega)
          · have c155 : i ≠ 0 := by have hh := mt (nI_eq (a := i) (b := 0) (by omega) (by omega)).mpr q155; omega
            refine m_aload F rfl e_X9_chance_158 ?_
            refine m_aload F rfl e_X9_chance_160 ?_
            refine t_callV F e_X9_chance_162 (s_X1_isAbove (x_l X) V G b (M + 756 * i + 756) Z T _ _ q3 q1 h3227.1 kq3 kq1 (by omega)) cb_X1_isAbove ml_X9_330 im_X1_isAbove se_X1_isAbove (fun _ => o6) h3227 kq3 rfl rfl (rest := []) rfl (Nat.le_of_ble_eq_true rfl) ⟨Nat.le_of_ble_eq_true rfl, Nat.le_of_ble_eq_true rfl⟩ ⟨Nat.le_of_ble_eq_true rfl, Nat.le_of_ble_eq_true rfl⟩ (fun r σ3233 hp => ?_)
            obtain ⟨h3235, n3236, hn3236, rfl⟩ := hp
            have h3234 := HK.trans h3227 h3235 (by decide)
            refine m_if_eq F e_X9_chance_165 (fun q165 => ?_) (fun q165 => ?_)
            · have c165 : n3236 = 0 := (nI_eq (a := n3236) (b := 0) (by omega) (by omega)).mp q165
              refine m_iinc F (v := nI (i + 1)) (lv' := [(11, .int (nI (i + 1))), (9, .long x3212), (4, .long x3204), (12, .ref r3199), (2, .int (nI c)), (0, .ref a), (1, .int u3), (3, .int u4), (6, .ref q1), (7, .ref q2), (8, .ref q3)]) e_X9_chance_175 rfl (nI_add i 1) (by decide) rfl ?_
              refine m_goto F e_X9_chance_178 ?_
              refine Wm.lvsub (lv' := [(11, .int (nI (i + 1))), (2, .int (nI c)), (4, .long x3204), (9, .long x3212), (0, .ref a), (1, .int u3), (3, .int u4), (6, .ref q1), (7, .ref q2), (8, .ref q3)]) ?_ [0, 4, 2, 1, 5, 6, 7, 8, 9, 10] rfl
              exact ih (i + 1) c x3204 x3212 u3 u4 q1 q2 q3 _ (h3234.mono (M' := M + 756 * (i + 1)) (Z' := Z) (by omega) (by intro e9; first | exact e9 | rfl)) ⟨kq1, kq2, kq3, (by omega)⟩ (by omega)
            · have c165 : n3236 ≠ 0 := by have hh := mt (nI_eq (a := n3236) (b := 0) (by omega) (by omega)).mpr q165; omega
              refine m_aload F rfl e_X9_chance_168 ?_
              refine m_aload F rfl e_X9_chance_170 ?_
              refine t_callV F e_X9_chance_172 (s_X1_copyFrom (x_l X) V G b (M + 756 * i + 756) Z T _ _ q3 q1 h3234.1 kq3 kq1 (by omega)) cb_X1_copyFrom ml_X9_284 im_X1_copyFrom se_X1_copyFrom (fun _ => o6) h3234 kq3 rfl rfl (rest := []) rfl (Nat.le_of_ble_eq_true rfl) ⟨Nat.le_of_ble_eq_true rfl, Nat.le_of_ble_eq_true rfl⟩ ⟨Nat.le_of_ble_eq_true rfl, Nat.le_of_ble_eq_true rfl⟩ (fun r σ3237 hp => ?_)
              obtain ⟨h3239, rfl⟩ := hp
              have h3238 := HK.trans h3234 h3239 (by decide)
              refine m_iinc F (v := nI (i + 1)) (lv' := [(11, .int (nI (i + 1))), (9, .long x3212), (4, .long x3204), (12, .ref r3199), (2, .int (nI c)), (0, .ref a), (1, .int u3), (3, .int u4), (6, .ref q1), (7, .ref q2), (8, .ref q3)]) e_X9_chance_175 rfl (nI_add i 1) (by decide) rfl ?_
              refine m_goto F e_X9_chance_178 ?_
              refine Wm.lvsub (lv' := [(11, .int (nI (i + 1))), (2, .int (nI c)), (4, .long x3204), (9, .long x3212), (0, .ref a), (1, .int u3), (3, .int u4), (6, .ref q1), (7, .ref q2), (8, .ref q3)]) ?_ [0, 4, 2, 1, 5, 6, 7, 8, 9, 10] rfl
              exact ih (i + 1) c x3204 x3212 u3 u4 q1 q2 q3 _ (h3238.mono (M' := M + 756 * (i + 1)) (Z' := Z) (by omega) (by intro e9; first | exact e9 | rfl)) ⟨kq1, kq2, kq3, (by omega)⟩ (by omega)
        · have c143 : n3229 ≠ 0 := by have hh := mt (nI_eq (a := n3229) (b := 0) (by omega) (by omega)).mpr q143; omega
          refine m_aload F rfl e_X9_chance_146 ?_
          refine m_aload F rfl e_X9_chance_148 ?_
          refine t_callV F e_X9_chance_150 (s_X1_copyFrom (x_l X) V G b (M + 756 * i + 756) Z T _ _ q2 q1 h3227.1 kq2 kq1 (by omega)) cb_X1_copyFrom ml_X9_284 im_X1_copyFrom se_X1_copyFrom (fun _ => o6) h3227 kq2 rfl rfl (rest := []) rfl (Nat.le_of_ble_eq_true rfl) ⟨Nat.le_of_ble_eq_true rfl, Nat.le_of_ble_eq_true rfl⟩ ⟨Nat.le_of_ble_eq_true rfl, Nat.le_of_ble_eq_true rfl⟩ (fun r σ3240 hp => ?_)
          obtain ⟨h3242, rfl⟩ := hp
          have h3241 := HK.trans h3227 h3242 (by decide)
          refine m_iload F rfl e_X9_chance_153 ?_
          refine m_if_eq F e_X9_chance_155 (fun q155 => ?_) (fun q155 => ?_)
          · have c155 : i = 0 := (nI_eq (a := i) (b := 0) (by omega) (by omega)).mp q155
            refine m_aload F rfl e_X9_chance_168 ?_
            refine m_aload F rfl e_X9_chance_170 ?_
            refine t_callV F e_X9_chance_172 (s_X1_copyFrom (x_l X) V G b (M + 756 * i + 756) Z T _ _ q3 q1 h3241.1 kq3 kq1 (by omega)) cb_X1_copyFrom ml_X9_284 im_X1_copyFrom se_X1_copyFrom (fun _ => o6) h3241 kq3 rfl rfl (rest := []) rfl (Nat.le_of_ble_eq_true rfl) ⟨Nat.le_of_ble_eq_true rfl, Nat.le_of_ble_eq_true rfl⟩ ⟨Nat.le_of_ble_eq_true rfl, Nat.le_of_ble_eq_true rfl⟩ (fun r σ3243 hp => ?_)
            obtain ⟨h3245, rfl⟩ := hp
            have h3244 := HK.trans h3241 h3245 (by decide)
            refine m_iinc F (v := nI (i + 1)) (lv' := [(11, .int (nI (i + 1))), (9, .long x3212), (4, .long x3204), (12, .ref r3199), (2, .int (nI c)), (0, .ref a), (1, .int u3), (3, .int u4), (6, .ref q1), (7, .ref q2), (8, .ref q3)]) e_X9_chance_175 rfl (nI_add i 1) (by decide) rfl ?_
            refine m_goto F e_X9_chance_178 ?_
            refine Wm.lvsub (lv' := [(11, .int (nI (i + 1))), (2, .int (nI c)), (4, .long x3204), (9, .long x3212), (0, .ref a), (1, .int u3), (3, .int u4), (6, .ref q1), (7, .ref q2), (8, .ref q3)]) ?_ [0, 4, 2, 1, 5, 6, 7, 8, 9, 10] rfl
            exact ih (i + 1) c x3204 x3212 u3 u4 q1 q2 q3 _ (h3244.mono (M' := M + 756 * (i + 1)) (Z' := Z) (by omega) (by intro e9; first | exact e9 | rfl)) ⟨kq1, kq2, kq3, (by omega)⟩ (by omega)
          · have c155 : i ≠ 0 := by have hh := mt (nI_eq (a := i) (b := 0) (by omega) (by omega)).mpr q155; omega
            refine m_aload F rfl e_X9_chance_158 ?_
            refine m_aload F rfl e_X9_chance_160 ?_
            refine t_callV F e_X9_chance_162 (s_X1_isAbove (x_l X) V G b (M + 756 * i + 756) Z T _ _ q3 q1 h3241.1 kq3 kq1 (by omega)) cb_X1_isAbove ml_X9_330 im_X1_isAbove se_X1_isAbove (fun _ => o6) h3241 kq3 rfl rfl (rest := []) rfl (Nat.le_of_ble_eq_true rfl) ⟨Nat.le_of_ble_eq_true rfl, Nat.le_of_ble_eq_true rfl⟩ ⟨Nat.le_of_ble_eq_true rfl, Nat.le_of_ble_eq_true rfl⟩ (fun r σ3246 hp => ?_)
            obtain ⟨h3248, n3249, hn3249, rfl⟩ := hp
            have h3247 := HK.trans h3241 h3248 (by decide)
            refine m_if_eq F e_X9_chance_165 (fun q165 => ?_) (fun q165 => ?_)
            · have c165 : n3249 = 0 := (nI_eq (a := n3249) (b := 0) (by omega) (by omega)).mp q165
              refine m_iinc F (v := nI (i + 1)) (lv' := [(11, .int (nI (i + 1))), (9, .long x3212), (4, .long x3204), (12, .ref r3199), (2, .int (nI c)), (0, .ref a), (1, .int u3), (3, .int u4), (6, .ref q1), (7, .ref q2), (8, .ref q3)]) e_X9_chance_175 rfl (nI_add i 1) (by decide) rfl ?_
              refine m_goto F e_X9_chance_178 ?_
              refine Wm.lvsub (lv' := [(11, .int (nI (i + 1))), (2, .int (nI c)), (4, .long x3204), (9, .long x3212), (0, .ref a), (1, .int u3), (3, .int u4), (6, .ref q1), (7, .ref q2), (8, .ref q3)]) ?_ [0, 4, 2, 1, 5, 6, 7, 8, 9, 10] rfl
              exact ih (i + 1) c x3204 x3212 u3 u4 q1 q2 q3 _ (h3247.mono (M' := M + 756 * (i + 1)) (Z' := Z) (by omega) (by intro e9; first | exact e9 | rfl)) ⟨kq1, kq2, kq3, (by omega)⟩ (by omega)
            · have c165 : n3249 ≠ 0 := by have hh := mt (nI_eq (a := n3249) (b := 0) (by omega) (by omega)).mpr q165; omega
              refine m_aload F rfl e_X9_chance_168 ?_
              refine m_aload F rfl e_X9_chance_170 ?_
              refine t_callV F e_X9_chance_172 (s_X1_copyFrom (x_l X) V G b (M + 756 * i + 756) Z T _ _ q3 q1 h3247.1 kq3 kq1 (by omega)) cb_X1_copyFrom ml_X9_284 im_X1_copyFrom se_X1_copyFrom (fun _ => o6) h3247 kq3 rfl rfl (rest := []) rfl (Nat.le_of_ble_eq_true rfl) ⟨Nat.le_of_ble_eq_true rfl, Nat.le_of_ble_eq_true rfl⟩ ⟨Nat.le_of_ble_eq_true rfl, Nat.le_of_ble_eq_true rfl⟩ (fun r σ3250 hp => ?_)
              obtain ⟨h3252, rfl⟩ := hp
              have h3251 := HK.trans h3247 h3252 (by decide)
              refine m_iinc F (v := nI (i + 1)) (lv' := [(11, .int (nI (i + 1))), (9, .long x3212), (4, .long x3204), (12, .ref r3199), (2, .int (nI c)), (0, .ref a), (1, .int u3), (3, .int u4), (6, .ref q1), (7, .ref q2), (8, .ref q3)]) e_X9_chance_175 rfl (nI_add i 1) (by decide) rfl ?_
              refine m_goto F e_X9_chance_178 ?_
              refine Wm.lvsub (lv' := [(11, .int (nI (i + 1))), (2, .int (nI c)), (4, .long x3204), (9, .long x3212), (0, .ref a), (1, .int u3), (3, .int u4), (6, .ref q1), (7, .ref q2), (8, .ref q3)]) ?_ [0, 4, 2, 1, 5, 6, 7, 8, 9, 10] rfl
              exact ih (i + 1) c x3204 x3212 u3 u4 q1 q2 q3 _ (h3251.mono (M' := M + 756 * (i + 1)) (Z' := Z) (by omega) (by intro e9; first | exact e9 | rfl)) ⟨kq1, kq2, kq3, (by omega)⟩ (by omega)
set_option maxRecDepth 20000 in
theorem s_X9_chance (l : Launch) (V : VX) (G : GH) (b M Z T N : Nat) (σ : Mem) (a : Nat) (x901 : Int32) (x902 : Int32) (x903 : Int32) (h0 : HT V G (b, M, Z, T) σ) (hk : kA b a = 1) (hG : okG G) (hM : M + 7560 ≤ 1000000000) : Ct l V yX9_chance cX9_chance 13 (some .long) 7 0 0 N σ [.ref a, .int x901, .int x902, .int x903] (fun r τ => HK V G (b, M + 7560, Z, T) [0, 1, 2, 3, 4, 5, 8, 9, 16] σ τ ∧ ∃ x : Int64, r = some (.long x)) := by
  refine Ct.of (by decide) (Nat.le_of_ble_eq_true rfl) [(0, .ref a), (1, .int x901), (2, .int x902), (3, .int x903)] rfl (fun X hX F hQ => ?_)
  have h1 : HK V G (b, M, Z, T) [0, 1, 2, 3, 4, 5, 8, 9, 16] σ σ := HK.start h0
  refine m_iload_n F rfl e_X9_chance_0 ?_
  refine m_iconst F (v := (-1)) (by decide) e_X9_chance_1 ?_
  refine m_icmp_lt F e_X9_chance_2 (fun q2 => ?_) (fun q2 => ?_)
  · refine m_ldc2 F kc_X9_149 e_X9_chance_25 ?_
    exact m_lret F hQ e_X9_chance_28 (⟨(h1.mono (M' := M + 7560) (Z' := Z) (by omega) (by intro e; first | rfl | assumption | omega)), _, rfl⟩)
  · refine m_iload_n F rfl e_X9_chance_5 ?_
    refine m_iconst F (v := 1) (by decide) e_X9_chance_6 ?_
    refine m_icmp_lt F e_X9_chance_7 (fun q7 => ?_) (fun q7 => ?_)
    · refine m_ldc2 F kc_X9_149 e_X9_chance_25 ?_
      exact m_lret F hQ e_X9_chance_28 (⟨(h1.mono (M' := M + 7560) (Z' := Z) (by omega) (by intro e; first | rfl | assumption | omega)), _, rfl⟩)
    · obtain ⟨n3253, hn3253, rfl⟩ := nI_nn (x := x902) (fun e => q7 (Int32.lt_of_lt_of_le e (by decide)))
      have c7 : n3253 ≥ 1 := by have hh := mt (nI_ltI (a := n3253) (b := 1) (by omega) (by omega)).mpr q7; omega
      refine m_iload_n F rfl e_X9_chance_10 ?_
      refine m_bipush F (v := 10) (by decide) e_X9_chance_11 ?_
      refine m_icmp_gt F e_X9_chance_13 (fun q13 => ?_) (fun q13 => ?_)
      · have c13 : n3253 > 10 := (nI_ltI (a := 10) (b := n3253) (by omega) (by omega)).mp q13
        refine m_ldc2 F kc_X9_149 e_X9_chance_25 ?_
        exact m_lret F hQ e_X9_chance_28 (⟨(h1.mono (M' := M + 7560) (Z' := Z) (by omega) (by intro e; first | rfl | assumption | omega)), _, rfl⟩)
      · have c13 : n3253 ≤ 10 := by have hh := mt (nI_ltI (a := 10) (b := n3253) (by omega) (by omega)).mpr q13; omega
        refine m_iload_n F rfl e_X9_chance_16 ?_
        refine m_if_lt F e_X9_chance_17 (fun q17 => ?_) (fun q17 => ?_)
        · refine m_ldc2 F kc_X9_149 e_X9_chance_25 ?_
          exact m_lret F hQ e_X9_chance_28 (⟨(h1.mono (M' := M + 7560) (Z' := Z) (by omega) (by intro e; first | rfl | assumption | omega)), _, rfl⟩)
        · obtain ⟨n3254, hn3254, rfl⟩ := nI_nn (x := x903) (fun e => q17 (Int32.lt_of_lt_of_le e (by decide)))
          have c17 : n3254 ≥ 0 := by have hh := mt (nI_ltI (a := n3254) (b := 0) (by omega) (by omega)).mpr q17; omega
          refine m_iload_n F rfl e_X9_chance_20 ?_
          refine m_iconst F (v := 2) (by decide) e_X9_chance_21 ?_
          refine m_icmp_le F e_X9_chance_22 (fun q22 => ?_) (fun q22 => ?_)
          · have c22 : n3254 ≤ 2 := (nI_leI (a := n3254) (b := 2) (by omega) (by omega)).mp q22
            refine m_aload_n F rfl e_X9_chance_29 ?_
            refine t_get F e_X9_chance_30 fl_X9_16 (fun _ => o1) h1 hk rfl (fun v hv f3255 => ?_)
            obtain ⟨r3256, ⟨k3257, er3256⟩, rfl⟩ := hv
            replace er3256 : r3256 = b + 2 + 63 * G.bk := er3256
            refine t_get F e_X9_chance_33 fl_X9_94 (fun _ => o7) h1 k3257 rfl (fun v hv f3258 => ?_)
            obtain ⟨n3259, hn3259, rfl⟩ := hv
            replace hn3259 : n3259 ≤ M := hn3259
            refine m_bipush F (v := 12) (by decide) e_X9_chance_36 ?_
            refine m_iadd F e_X9_chance_38 ?_
            refine Wm.topE (w := nI (n3259 + 12)) (nI_add n3259 12) ?_
            refine m_bipush F (v := 99) (by decide) e_X9_chance_39 ?_
            refine m_icmp_le F e_X9_chance_41 (fun q41 => ?_) (fun q41 => ?_)
            · have c41 : (n3259 + 12) ≤ 99 := (nI_leI (a := (n3259 + 12)) (b := 99) (by omega) (by omega)).mp q41
              refine m_iload_n F rfl e_X9_chance_48 ?_
              refine m_iconst F (v := (-1)) (by decide) e_X9_chance_49 ?_
              refine m_icmp_ne F e_X9_chance_50 (fun q50 => ?_) (fun q50 => ?_)
              · refine m_iload_n F rfl e_X9_chance_64 ?_
                refine m_i2l F e_X9_chance_65 ?_
                refine Wm.topl (fun x3260 _ => ?_)
                refine m_lstore F (lv' := [(4, .long x3260), (0, .ref a), (1, .int x901), (2, .int (nI n3253)), (3, .int (nI n3254))]) e_X9_chance_66 (by decide) rfl ?_
                refine m_aload_n F rfl e_X9_chance_68 ?_
                refine t_get F e_X9_chance_69 fl_X9_42 (fun _ => o1) h1 hk rfl (fun v hv f3261 => ?_)
                obtain ⟨r3262, k3263, rfl⟩ := hv
                refine m_astore F (lv' := [(6, .ref r3262), (4, .long x3260), (0, .ref a), (1, .int x901), (2, .int (nI n3253)), (3, .int (nI n3254))]) e_X9_chance_72 (by decide) rfl ?_
                refine m_aload_n F rfl e_X9_chance_74 ?_
                refine t_get F e_X9_chance_75 fl_X9_46 (fun _ => o1) h1 hk rfl (fun v hv f3264 => ?_)
                obtain ⟨r3265, k3266, rfl⟩ := hv
                refine m_astore F (lv' := [(7, .ref r3265), (6, .ref r3262), (4, .long x3260), (0, .ref a), (1, .int x901), (2, .int (nI n3253)), (3, .int (nI n3254))]) e_X9_chance_78 (by decide) rfl ?_
                refine m_aload_n F rfl e_X9_chance_80 ?_
                refine t_get F e_X9_chance_81 fl_X9_49 (fun _ => o1) h1 hk rfl (fun v hv f3267 => ?_)
                obtain ⟨r3268, k3269, rfl⟩ := hv
                refine m_astore F (lv' := [(8, .ref r3268), (7, .ref r3265), (6, .ref r3262), (4, .long x3260), (0, .ref a), (1, .int x901), (2, .int (nI n3253)), (3, .int (nI n3254))]) e_X9_chance_84 (by decide) rfl ?_
                refine m_lconst F (v := 0) (by decide) e_X9_chance_86 ?_
                refine m_lstore F (lv' := [(9, .long 0), (8, .ref r3268), (7, .ref r3265), (6, .ref r3262), (4, .long x3260), (0, .ref a), (1, .int x901), (2, .int (nI n3253)), (3, .int (nI n3254))]) e_X9_chance_87 (by decide) rfl ?_
                refine m_iconst F (v := 0) (by decide) e_X9_chance_89 ?_
                refine m_istore F (lv' := [(11, .int 0), (9, .long 0), (8, .ref r3268), (7, .ref r3265), (6, .ref r3262), (4, .long x3260), (0, .ref a), (1, .int x901), (2, .int (nI n3253)), (3, .int (nI n3254))]) e_X9_chance_90 (by decide) rfl ?_
                refine Wm.lvsub (lv' := [(11, .int 0), (2, .int (nI n3253)), (4, .long x3260), (9, .long 0), (0, .ref a), (1, .int x901), (3, .int (nI n3254)), (6, .ref r3262), (7, .ref r3265), (8, .ref r3268)]) ?_ [0, 8, 5, 1, 6, 7, 9, 4, 3, 2] rfl
                exact lp_X9_chance_92 F hQ hk hG hM (10 - 0 + 1) 0 n3253 x3260 0 x901 (nI n3254) r3262 r3265 r3268 _ (h1.mono (M' := M + 756 * 0) (Z' := Z) (by omega) (by intro e9; first | exact e9 | rfl)) ⟨k3263, k3266, k3269, (by omega)⟩ (Nat.lt_succ_self _)
              · refine m_aload_n F rfl e_X9_chance_53 ?_
                refine t_getC F e_X9_chance_54 fl_X9_16 (fun _ => o1) h1 hk (f3255) ?_
                refine t_get F e_X9_chance_57 fl_X9_361 (fun _ => o7) h1 k3257 rfl (fun v hv f3270 => ?_)
                obtain ⟨x3271, rfl⟩ := hv
                refine m_i2l F e_X9_chance_60 ?_
                refine Wm.topl (fun x3272 _ => ?_)
                refine m_goto F e_X9_chance_61 ?_
                refine m_lstore F (lv' := [(4, .long x3272), (0, .ref a), (1, .int x901), (2, .int (nI n3253)), (3, .int (nI n3254))]) e_X9_chance_66 (by decide) rfl ?_
                refine m_aload_n F rfl e_X9_chance_68 ?_
                refine t_get F e_X9_chance_69 fl_X9_42 (fun _ => o1) h1 hk rfl (fun v hv f3273 => ?_)
                obtain ⟨r3274, k3275, rfl⟩ := hv
                refine m_astore F (lv' := [(6, .ref r3274), (4, .long x3272), (0, .ref a), (1, .int x901), (2, .int (nI n3253)), (3, .int (nI n3254))]) e_X9_chance_72 (by decide) rfl ?_
                refine m_aload_n F rfl e_X9_chance_74 ?_
                refine t_get F e_X9_chance_75 fl_X9_46 (fun _ => o1) h1 hk rfl (fun v hv f3276 => ?_)
                obtain ⟨r3277, k3278, rfl⟩ := hv
                refine m_astore F (lv' := [(7, .ref r3277), (6, .ref r3274), (4, .long x3272), (0, .ref a), (1, .int x901), (2, .int (nI n3253)), (3, .int (nI n3254))]) e_X9_chance_78 (by decide) rfl ?_
                refine m_aload_n F rfl e_X9_chance_80 ?_
                refine t_get F e_X9_chance_81 fl_X9_49 (fun _ => o1) h1 hk rfl (fun v hv f3279 => ?_)
                obtain ⟨r3280, k3281, rfl⟩ := hv
                refine m_astore F (lv' := [(8, .ref r3280), (7, .ref r3277), (6, .ref r3274), (4, .long x3272), (0, .ref a), (1, .int x901), (2, .int (nI n3253)), (3, .int (nI n3254))]) e_X9_chance_84 (by decide) rfl ?_
                refine m_lconst F (v := 0) (by decide) e_X9_chance_86 ?_
                refine m_lstore F (lv' := [(9, .long 0), (8, .ref r3280), (7, .ref r3277), (6, .ref r3274), (4, .long x3272), (0, .ref a), (1, .int x901), (2, .int (nI n3253)), (3, .int (nI n3254))]) e_X9_chance_87 (by decide) rfl ?_
                refine m_iconst F (v := 0) (by decide) e_X9_chance_89 ?_
                refine m_istore F (lv' := [(11, .int 0), (9, .long 0), (8, .ref r3280), (7, .ref r3277), (6, .ref r3274), (4, .long x3272), (0, .ref a), (1, .int x901), (2, .int (nI n3253)), (3, .int (nI n3254))]) e_X9_chance_90 (by decide) rfl ?_
                refine Wm.lvsub (lv' := [(11, .int 0), (2, .int (nI n3253)), (4, .long x3272), (9, .long 0), (0, .ref a), (1, .int x901), (3, .int (nI n3254)), (6, .ref r3274), (7, .ref r3277), (8, .ref r3280)]) ?_ [0, 8, 5, 1, 6, 7, 9, 4, 3, 2] rfl
                exact lp_X9_chance_92 F hQ hk hG hM (10 - 0 + 1) 0 n3253 x3272 0 x901 (nI n3254) r3274 r3277 r3280 _ (h1.mono (M' := M + 756 * 0) (Z' := Z) (by omega) (by intro e9; first | exact e9 | rfl)) ⟨k3275, k3278, k3281, (by omega)⟩ (Nat.lt_succ_self _)
            · have c41 : (n3259 + 12) > 99 := by have hh := mt (nI_leI (a := (n3259 + 12)) (b := 99) (by omega) (by omega)).mpr q41; omega
              refine m_ldc2 F kc_X9_318 e_X9_chance_44 ?_
              exact m_lret F hQ e_X9_chance_47 (⟨(h1.mono (M' := M + 7560) (Z' := Z) (by omega) (by intro e; first | rfl | assumption | omega)), _, rfl⟩)
          · have c22 : n3254 > 2 := by have hh := mt (nI_leI (a := n3254) (b := 2) (by omega) (by omega)).mpr q22; omega
            refine m_ldc2 F kc_X9_149 e_X9_chance_25 ?_
            exact m_lret F hQ e_X9_chance_28 (⟨(h1.mono (M' := M + 7560) (Z' := Z) (by omega) (by intro e; first | rfl | assumption | omega)), _, rfl⟩)
set_option maxRecDepth 20000 in
theorem s_X9_undo (l : Launch) (V : VX) (G : GH) (b M Z T N : Nat) (σ : Mem) (a : Nat) (h0 : HT V G (b, M, Z, T) σ) (hk : kA b a = 1) (hG : okG G) (hM : M + 0 ≤ 1000000000) : Ct l V yX9_undo cX9_undo 1 (some .int) 4 0 0 N σ [.ref a] (fun r τ => ∃ G9 : GH, GRel G G9 ∧ HK V G9 (b, M, Z, T) [0, 2, 3, 4, 5, 8, 9, 16] σ τ ∧ ∃ x : Int32, r = some (.int x)) := by
  refine Ct.of (by decide) (Nat.le_of_ble_eq_true rfl) [(0, .ref a)] rfl (fun X hX F hQ => ?_)
  have h1 : HK V G (b, M, Z, T) [0, 2, 3, 4, 5, 8, 9, 16] σ σ := HK.start h0
  refine m_aload_n F rfl e_X9_undo_0 ?_
  refine t_get F e_X9_undo_1 fl_X9_368 (fun _ => o1) h1 hk rfl (fun v hv f3282 => ?_)
  obtain ⟨n3283, ⟨hn3283, gn3283⟩, rfl⟩ := hv
  replace hn3283 : n3283 ≤ 20 := hn3283
  replace gn3283 : n3283 = G.pc := gn3283
  refine m_iconst F (v := 1) (by decide) e_X9_undo_4 ?_
  refine m_icmp_ge F e_X9_undo_5 (fun q5 => ?_) (fun q5 => ?_)
  · have c5 : n3283 ≥ 1 := (nI_leI (a := 1) (b := n3283) (by omega) (by omega)).mp q5
    refine m_aload_n F rfl e_X9_undo_10 ?_
    refine t_get F e_X9_undo_11 fl_X9_16 (fun _ => o1) h1 hk rfl (fun v hv f3284 => ?_)
    obtain ⟨r3285, ⟨k3286, er3285⟩, rfl⟩ := hv
    replace er3285 : r3285 = b + 2 + 63 * G.bk := er3285
    refine m_aload_n F rfl e_X9_undo_14 ?_
    refine t_get F e_X9_undo_15 fl_X9_35 (fun _ => o1) h1 hk rfl (fun v hv f3287 => ?_)
    obtain ⟨r3288, k3289, rfl⟩ := hv
    refine m_aload_n F rfl e_X9_undo_18 ?_
    refine t_get F e_X9_undo_19 fl_X9_371 (fun _ => o1) h1 hk rfl (fun v hv f3290 => ?_)
    obtain ⟨n3291, ⟨hn3291, gn3291⟩, rfl⟩ := hv
    replace hn3291 : n3291 ≤ 19 := hn3291
    replace gn3291 : n3291 = G.pf := gn3291
    refine m_aload_n F rfl e_X9_undo_22 ?_
    refine t_getC F e_X9_undo_23 fl_X9_368 (fun _ => o1) h1 hk (f3282) ?_
    refine m_iadd F e_X9_undo_26 ?_
    refine Wm.topE (w := nI (n3291 + n3283)) (nI_add n3291 n3283) ?_
    refine m_iconst F (v := 1) (by decide) e_X9_undo_27 ?_
    refine m_isub F e_X9_undo_28 ?_
    refine Wm.topE (w := nI ((n3291 + n3283) - 1)) (pk_sub (a := n3291 + n3283) (b := 1) (by omega)) ?_
    refine m_bipush F (v := 20) (by decide) e_X9_undo_29 ?_
    refine m_irem F (by decide) e_X9_undo_31 ?_
    refine Wm.topE (w := nI (((n3291 + n3283) - 1) % 20)) (pk_rem (a := (n3291 + n3283) - 1) (d := 20) (by omega) (by decide) (by decide)) ?_
    refine t_aald5 F (j := ((n3291 + n3283) - 1) % 20) e_X9_undo_32 rfl h1 k3289 (nI_clamp (by omega)) (vp_in_nI (by omega) (by decide)) ?_
    have h3295 : HK V (setG G G.bk 0) (b, M, Z, T) [0, 2, 3, 4, 5, 8, 9, 16] _ _ := ⟨h1.1.off hG.1, h1.2⟩
    refine t_callV F e_X9_undo_33 (s_X2_copyFrom (x_l X) V (setG G G.bk 0) b M Z T _ _ r3285 (b + 197 + 63 * (((n3291 + n3283) - 1) % 20)) h3295.1 k3286 (kA_p (j := ((n3291 + n3283) - 1) % 20) (by omega)) (gd_off (show blk (r3285 - b) = G.bk by rw [er3285]; exact blk_bk hG.2.1)) (by omega)) cb_X2_copyFrom ml_X9_374 im_X2_copyFrom se_X2_copyFrom (fun _ => o7) h3295 k3286 rfl rfl (rest := []) rfl (Nat.le_of_ble_eq_true rfl) ⟨Nat.le_of_ble_eq_true rfl, Nat.le_of_ble_eq_true rfl⟩ ⟨Nat.le_of_ble_eq_true rfl, Nat.le_of_ble_eq_true rfl⟩ (fun r σ3292 hp => ?_)
    obtain ⟨h3294, bn3296, rfl⟩ := hp
    have h3293 := HK.trans h3295 h3294 (by decide)
    have h3297 : HK V (onG G G.bk) (b, M, Z, T) [0, 2, 3, 4, 5, 8, 9, 16] _ _ := ⟨h3293.1.on hG.1 k3286 (show blk (r3285 - b) = G.bk by rw [er3285]; exact blk_bk hG.2.1) (bn3296 (gd_oth (by rw [blk_p (by omega)]; have h9 := hG.2.1; omega) (by rw [blk_p (by omega), gn3291, gn3283]; exact hG.ring (by omega)))), h3293.2⟩
    refine m_aload_n F rfl e_X9_undo_36 ?_
    refine m_dup F rfl e_X9_undo_37 ?_
    refine t_getC F e_X9_undo_38 fl_X9_368 (fun _ => o1) h3297 hk ((fld_eq (h3294.2 a (by rw [show kA _ a = 1 from hk]; decide))).trans f3282) ?_
    refine m_iconst F (v := 1) (by decide) e_X9_undo_41 ?_
    refine m_isub F e_X9_undo_42 ?_
    refine Wm.topE (w := nI (n3283 - 1)) (pk_sub (a := n3283) (b := 1) (by omega)) ?_
    refine t_putG F (G' := (mkG (onG G G.bk).gd (onG G G.bk).n0 (onG G G.bk).nm (onG G G.bk).bk (onG G G.bk).sp (onG G G.bk).ik (onG G G.bk).pf (n3283 - 1))) (j := 9) e_X9_undo_43 fp_X9_368 h3297 hk (by decide) rfl rfl rfl ⟨n3283 - 1, ⟨(show n3283 - 1 ≤ 20 by omega), rfl⟩, rfl⟩ (ctlG_pc) rfl rfl (by decide) (fun σ3298 h3299 g3300 g3301 f3302 => ?_)
    refine m_aload_n F rfl e_X9_undo_46 ?_
    refine t_getC F e_X9_undo_47 fl_X9_368 (fun _ => o1) h3299 hk (f3302) ?_
    exact m_iret F hQ e_X9_undo_50 (⟨(mkG (onG G G.bk).gd (onG G G.bk).n0 (onG G G.bk).nm (onG G G.bk).bk (onG G G.bk).sp (onG G G.bk).ik (onG G G.bk).pf (n3283 - 1)), hG.undo gn3283, h3299, _, rfl⟩)
  · have c5 : n3283 < 1 := by have hh := mt (nI_leI (a := 1) (b := n3283) (by omega) (by omega)).mpr q5; omega
    refine m_iconst F (v := (-1)) (by decide) e_X9_undo_8 ?_
    exact m_iret F hQ e_X9_undo_9 (⟨G, GRel.refl hG, h1, _, rfl⟩)
set_option maxRecDepth 20000 in
theorem s_X9_keep (l : Launch) (V : VX) (G : GH) (b M Z T N : Nat) (σ : Mem) (a : Nat) (h0 : HT V G (b, M, Z, T) σ) (hk : kA b a = 1) (hG : okG G) (hM : M + 0 ≤ 1000000000) : Ct l V yX9_keep cX9_keep 1 (some .int) 4 0 0 N σ [.ref a] (fun r τ => ∃ G9 : GH, GRel G G9 ∧ HK V G9 (b, M, Z, T) [0, 2, 3, 4, 5, 8, 9, 16] σ τ ∧ ∃ x : Int32, r = some (.int x)) := by
  refine Ct.of (by decide) (Nat.le_of_ble_eq_true rfl) [(0, .ref a)] rfl (fun X hX F hQ => ?_)
  have h1 : HK V G (b, M, Z, T) [0, 2, 3, 4, 5, 8, 9, 16] σ σ := HK.start h0
  refine m_aload_n F rfl e_X9_keep_0 ?_
  refine t_get F e_X9_keep_1 fl_X9_32 (fun _ => o1) h1 hk rfl (fun v hv f3303 => ?_)
  obtain ⟨r3304, ⟨k3305, er3304⟩, rfl⟩ := hv
  replace er3304 : r3304 = b + 130 := er3304
  refine m_aload_n F rfl e_X9_keep_4 ?_
  refine t_get F e_X9_keep_5 fl_X9_16 (fun _ => o1) h1 hk rfl (fun v hv f3306 => ?_)
  obtain ⟨r3307, ⟨k3308, er3307⟩, rfl⟩ := hv
  replace er3307 : r3307 = b + 2 + 63 * G.bk := er3307
  have h3312 : HK V (setG G 2 0) (b, M, Z, T) [0, 2, 3, 4, 5, 8, 9, 16] _ _ := ⟨h1.1.off hG.1, h1.2⟩
  refine t_callV F e_X9_keep_8 (s_X2_copyFrom (x_l X) V (setG G 2 0) b M Z T _ _ r3304 r3307 h3312.1 k3305 k3308 (gd_off (show blk (r3304 - b) = 2 by rw [er3304]; exact blk_im)) (by omega)) cb_X2_copyFrom ml_X9_374 im_X2_copyFrom se_X2_copyFrom (fun _ => o7) h3312 k3305 rfl rfl (rest := []) rfl (Nat.le_of_ble_eq_true rfl) ⟨Nat.le_of_ble_eq_true rfl, Nat.le_of_ble_eq_true rfl⟩ ⟨Nat.le_of_ble_eq_true rfl, Nat.le_of_ble_eq_true rfl⟩ (fun r σ3309 hp => ?_)
  obtain ⟨h3311, bn3313, rfl⟩ := hp
  have h3310 := HK.trans h3312 h3311 (by decide)
  have h3314 : HK V (onG G 2) (b, M, Z, T) [0, 2, 3, 4, 5, 8, 9, 16] _ _ := ⟨h3310.1.on hG.1 k3305 (show blk (r3304 - b) = 2 by rw [er3304]; exact blk_im) (bn3313 (gd_oth (by rw [er3307, blk_bk hG.2.1]; have h9 := hG.2.1; omega) (gd_bk hG er3307))), h3310.2⟩
  refine m_aload_n F rfl e_X9_keep_11 ?_
  refine m_iconst F (v := 1) (by decide) e_X9_keep_12 ?_
  refine t_putG F (G' := (mkG (onG G 2).gd (onG G 2).n0 (onG G 2).nm (onG G 2).bk (onG G 2).sp 1 (onG G 2).pf (onG G 2).pc)) (j := 6) e_X9_keep_13 fp_X9_77 h3314 hk (by decide) rfl rfl rfl ⟨1, ⟨(show 1 ≤ 1 by omega), rfl⟩, rfl⟩ (ctlG_ik) (by decide) rfl (by decide) (fun σ3315 h3316 g3317 g3318 f3319 => ?_)
  refine m_aload_n F rfl e_X9_keep_16 ?_
  refine t_getC F e_X9_keep_17 fl_X9_16 (fun _ => o1) h3316 hk ((g3318 2 (by decide)).trans ((fld_eq (h3311.2 a (by rw [show kA _ a = 1 from hk]; decide))).trans f3306)) ?_
  refine t_get F e_X9_keep_20 fl_X9_94 (fun _ => o7) h3316 k3308 rfl (fun v hv f3320 => ?_)
  obtain ⟨n3321, hn3321, rfl⟩ := hv
  replace hn3321 : n3321 ≤ M := hn3321
  exact m_iret F hQ e_X9_keep_23 (⟨(mkG (onG G 2).gd (onG G 2).n0 (onG G 2).nm (onG G 2).bk (onG G 2).sp 1 (onG G 2).pf (onG G 2).pc), hG.keep, h3316, _, rfl⟩)
set_option maxRecDepth 20000 in
theorem s_X9_back (l : Launch) (V : VX) (G : GH) (b M Z T N : Nat) (σ : Mem) (a : Nat) (h0 : HT V G (b, M, Z, T) σ) (hk : kA b a = 1) (hG : okG G) (hM : M + 0 ≤ 1000000000) : Ct l V yX9_back cX9_back 1 (some .int) 4 0 0 N σ [.ref a] (fun r τ => ∃ G9 : GH, GRel G G9 ∧ HK V G9 (b, M, Z, T) [0, 2, 3, 4, 5, 8, 9, 16] σ τ ∧ ∃ x : Int32, r = some (.int x)) := by
  refine Ct.of (by decide) (Nat.le_of_ble_eq_true rfl) [(0, .ref a)] rfl (fun X hX F hQ => ?_)
  have h1 : HK V G (b, M, Z, T) [0, 2, 3, 4, 5, 8, 9, 16] σ σ := HK.start h0
  refine m_aload_n F rfl e_X9_back_0 ?_
  refine t_get F e_X9_back_1 fl_X9_77 (fun _ => o1) h1 hk rfl (fun v hv f3322 => ?_)
  obtain ⟨n3323, ⟨hn3323, gn3323⟩, rfl⟩ := hv
  replace hn3323 : n3323 ≤ 1 := hn3323
  replace gn3323 : n3323 = G.ik := gn3323
  refine m_if_ne F e_X9_back_4 (fun q4 => ?_) (fun q4 => ?_)
  · have c4 : n3323 ≠ 0 := by have hh := mt (nI_eq (a := n3323) (b := 0) (by omega) (by omega)).mpr q4; omega
    refine m_aload_n F rfl e_X9_back_9 ?_
    refine t_get F e_X9_back_10 fl_X9_16 (fun _ => o1) h1 hk rfl (fun v hv f3324 => ?_)
    obtain ⟨r3325, ⟨k3326, er3325⟩, rfl⟩ := hv
    replace er3325 : r3325 = b + 2 + 63 * G.bk := er3325
    refine m_aload_n F rfl e_X9_back_13 ?_
    refine t_get F e_X9_back_14 fl_X9_32 (fun _ => o1) h1 hk rfl (fun v hv f3327 => ?_)
    obtain ⟨r3328, ⟨k3329, er3328⟩, rfl⟩ := hv
    replace er3328 : r3328 = b + 130 := er3328
    have h3333 : HK V (setG G G.bk 0) (b, M, Z, T) [0, 2, 3, 4, 5, 8, 9, 16] _ _ := ⟨h1.1.off hG.1, h1.2⟩
    refine t_callV F e_X9_back_17 (s_X2_copyFrom (x_l X) V (setG G G.bk 0) b M Z T _ _ r3325 r3328 h3333.1 k3326 k3329 (gd_off (show blk (r3325 - b) = G.bk by rw [er3325]; exact blk_bk hG.2.1)) (by omega)) cb_X2_copyFrom ml_X9_374 im_X2_copyFrom se_X2_copyFrom (fun _ => o7) h3333 k3326 rfl rfl (rest := []) rfl (Nat.le_of_ble_eq_true rfl) ⟨Nat.le_of_ble_eq_true rfl, Nat.le_of_ble_eq_true rfl⟩ ⟨Nat.le_of_ble_eq_true rfl, Nat.le_of_ble_eq_true rfl⟩ (fun r σ3330 hp => ?_)
    obtain ⟨h3332, bn3334, rfl⟩ := hp
    have h3331 := HK.trans h3333 h3332 (by decide)
    have h3335 : HK V (onG G G.bk) (b, M, Z, T) [0, 2, 3, 4, 5, 8, 9, 16] _ _ := ⟨h3331.1.on hG.1 k3326 (show blk (r3325 - b) = G.bk by rw [er3325]; exact blk_bk hG.2.1) (bn3334 (gd_oth (by rw [er3328, blk_im]; have h9 := hG.2.1; omega) (by rw [er3328, blk_im]; exact hG.2.2.2.2.2.1 (by omega)))), h3331.2⟩
    refine m_aload_n F rfl e_X9_back_20 ?_
    refine t_callV F e_X9_back_21 (s_X9_forgetPast (x_l X) V (onG G G.bk) b M Z T _ _ a h3335.1 hk (by omega)) cb_X9_forgetPast ml_X9_81 im_X9_forgetPast se_X9_forgetPast (fun _ => o1) h3335 hk rfl rfl (rest := []) rfl (Nat.le_of_ble_eq_true rfl) ⟨Nat.le_of_ble_eq_true rfl, Nat.le_of_ble_eq_true rfl⟩ ⟨Nat.le_of_ble_eq_true rfl, Nat.le_of_ble_eq_true rfl⟩ (fun r σ3336 hp => ?_)
    obtain ⟨h3338, rfl⟩ := hp
    have h3337 := HK.trans h3335 h3338 (by decide)
    refine m_aload_n F rfl e_X9_back_24 ?_
    refine t_get F e_X9_back_25 fl_X9_16 (fun _ => o1) h3337 hk rfl (fun v hv f3339 => ?_)
    obtain ⟨r3340, ⟨k3341, er3340⟩, rfl⟩ := hv
    replace er3340 : r3340 = b + 2 + 63 * (mkG (onG G G.bk).gd (onG G G.bk).n0 (onG G G.bk).nm (onG G G.bk).bk (onG G G.bk).sp (onG G G.bk).ik 0 0).bk := er3340
    refine t_get F e_X9_back_28 fl_X9_94 (fun _ => o7) h3337 k3341 rfl (fun v hv f3342 => ?_)
    obtain ⟨n3343, hn3343, rfl⟩ := hv
    replace hn3343 : n3343 ≤ M := hn3343
    exact m_iret F hQ e_X9_back_31 (⟨(mkG (onG G G.bk).gd (onG G G.bk).n0 (onG G G.bk).nm (onG G G.bk).bk (onG G G.bk).sp (onG G G.bk).ik 0 0), ((hG.same).trans (okG.forget hG.same.1)), h3337, _, rfl⟩)
  · have c4 : n3323 = 0 := (nI_eq (a := n3323) (b := 0) (by omega) (by omega)).mp q4
    refine m_iconst F (v := (-1)) (by decide) e_X9_back_7 ?_
    exact m_iret F hQ e_X9_back_8 (⟨G, (GRel.refl hG), h1, _, rfl⟩)
set_option maxRecDepth 20000 in
theorem s_X9_count (l : Launch) (V : VX) (G : GH) (b M Z T N : Nat) (σ : Mem) (a : Nat) (x901 : Int32) (h0 : HT V G (b, M, Z, T) σ) (hk : kA b a = 1) (hG : okG G) (hM : M + 0 ≤ 1000000000) : Ct l V yX9_count cX9_count 2 (some .int) 2 0 0 N σ [.ref a, .int x901] (fun r τ => HK V G (b, M, Z, T) [0, 1, 2, 3, 4, 5, 6, 7, 8, 9, 10, 11, 12, 13, 14, 15, 16, 17, 18, 19] σ τ ∧ ∃ x : Int32, r = some (.int x)) := by
  refine Ct.of (by decide) (Nat.le_of_ble_eq_true rfl) [(0, .ref a), (1, .int x901)] rfl (fun X hX F hQ => ?_)
  have h1 : HK V G (b, M, Z, T) [0, 1, 2, 3, 4, 5, 6, 7, 8, 9, 10, 11, 12, 13, 14, 15, 16, 17, 18, 19] σ σ := HK.start h0
  refine m_iload_n F rfl e_X9_count_0 ?_
  by_cases ho1 : (x901 : Int32).toInt < 0 ∨ 7 < (x901 : Int32).toInt
  · refine m_tableOut F e_X9_count_1 ho1 (tgt := 112) (by decide) ?_
    refine m_iconst F (v := (-1)) (by decide) e_X9_count_112 ?_
    exact m_iret F hQ e_X9_count_113 (⟨h1, _, rfl⟩)
  have hs1 : (x901 : Int32).toInt = 0 ∨ (x901 : Int32).toInt = 1 ∨ (x901 : Int32).toInt = 2 ∨ (x901 : Int32).toInt = 3 ∨ (x901 : Int32).toInt = 4 ∨ (x901 : Int32).toInt = 5 ∨ (x901 : Int32).toInt = 6 ∨ (x901 : Int32).toInt = 7 := by omega
  rcases hs1 with hv | hv | hv | hv | hv | hv | hv | hv
  · refine m_tableIn F e_X9_count_1 (by omega) (by omega) (off := 47) (tgt := 48) (by rw [hv]; rfl) (by decide) ?_
    refine m_aload_n F rfl e_X9_count_48 ?_
    refine t_get F e_X9_count_49 fl_X9_16 (fun _ => o1) h1 hk rfl (fun v hv f3344 => ?_)
    obtain ⟨r3345, ⟨k3346, er3345⟩, rfl⟩ := hv
    replace er3345 : r3345 = b + 2 + 63 * G.bk := er3345
    refine t_get F e_X9_count_52 fl_X9_358 (fun _ => o7) h1 k3346 rfl (fun v hv f3347 => ?_)
    obtain ⟨n3348, ⟨hn3348, gn3348⟩, rfl⟩ := hv
    replace hn3348 : n3348 ≤ 4 := hn3348
    exact m_iret F hQ e_X9_count_55 (⟨h1, _, rfl⟩)
  · refine m_tableIn F e_X9_count_1 (by omega) (by omega) (off := 55) (tgt := 56) (by rw [hv]; rfl) (by decide) ?_
    refine m_aload_n F rfl e_X9_count_56 ?_
    refine t_get F e_X9_count_57 fl_X9_16 (fun _ => o1) h1 hk rfl (fun v hv f3349 => ?_)
    obtain ⟨r3350, ⟨k3351, er3350⟩, rfl⟩ := hv
    replace er3350 : r3350 = b + 2 + 63 * G.bk := er3350
    refine t_get F e_X9_count_60 fl_X9_377 (fun _ => o7) h1 k3351 rfl (fun v hv f3352 => ?_)
    obtain ⟨n3353, hn3353, rfl⟩ := hv
    replace hn3353 : n3353 ≤ 4 := hn3353
    exact m_iret F hQ e_X9_count_63 (⟨h1, _, rfl⟩)
  · refine m_tableIn F e_X9_count_1 (by omega) (by omega) (off := 63) (tgt := 64) (by rw [hv]; rfl) (by decide) ?_
    refine m_aload_n F rfl e_X9_count_64 ?_
    refine t_get F e_X9_count_65 fl_X9_16 (fun _ => o1) h1 hk rfl (fun v hv f3354 => ?_)
    obtain ⟨r3355, ⟨k3356, er3355⟩, rfl⟩ := hv
    replace er3355 : r3355 = b + 2 + 63 * G.bk := er3355
    refine t_get F e_X9_count_68 fl_X9_94 (fun _ => o7) h1 k3356 rfl (fun v hv f3357 => ?_)
    obtain ⟨n3358, hn3358, rfl⟩ := hv
    replace hn3358 : n3358 ≤ M := hn3358
    exact m_iret F hQ e_X9_count_71 (⟨h1, _, rfl⟩)
  · refine m_tableIn F e_X9_count_1 (by omega) (by omega) (off := 71) (tgt := 72) (by rw [hv]; rfl) (by decide) ?_
    refine m_aload_n F rfl e_X9_count_72 ?_
    refine t_get F e_X9_count_73 fl_X9_16 (fun _ => o1) h1 hk rfl (fun v hv f3359 => ?_)
    obtain ⟨r3360, ⟨k3361, er3360⟩, rfl⟩ := hv
    replace er3360 : r3360 = b + 2 + 63 * G.bk := er3360
    refine t_get F e_X9_count_76 fl_X9_186 (fun _ => o7) h1 k3361 rfl (fun v hv f3362 => ?_)
    obtain rfl : v = .ref (r3360 + 5) := hv
    obtain ⟨v9, ⟨n3363, hn3363, rfl⟩, f3364⟩ := HK.f (j := 2) h1 (fun _ => o12) (kA_7 k3361 (r := 5) (by decide)) rfl
    replace hn3363 : n3363 ≤ M := hn3363
    refine t_callV F e_X9_count_79 (s_X3_kept (x_l X) V G b M Z T _ _ (r3360 + 5) n3363 h1.1 (kA_7 k3361 (r := 5) (by decide)) (f3364) (by omega) (by omega)) cb_X3_kept ml_X9_196 im_X3_kept se_X3_kept (fun _ => o12) h1 (kA_7 k3361 (r := 5) (by decide)) rfl rfl (rest := []) rfl (Nat.le_of_ble_eq_true rfl) ⟨Nat.le_of_ble_eq_true rfl, Nat.le_of_ble_eq_true rfl⟩ ⟨Nat.le_of_ble_eq_true rfl, Nat.le_of_ble_eq_true rfl⟩ (fun r σ3365 hp => ?_)
    obtain ⟨h3367, n3368, hn3368, gn3368, rfl⟩ := hp
    have h3366 := HK.trans h1 h3367 (by decide)
    exact m_iret F hQ e_X9_count_82 (⟨h3366, _, rfl⟩)
  · refine m_tableIn F e_X9_count_1 (by omega) (by omega) (off := 82) (tgt := 83) (by rw [hv]; rfl) (by decide) ?_
    refine m_aload_n F rfl e_X9_count_83 ?_
    refine t_get F e_X9_count_84 fl_X9_16 (fun _ => o1) h1 hk rfl (fun v hv f3369 => ?_)
    obtain ⟨r3370, ⟨k3371, er3370⟩, rfl⟩ := hv
    replace er3370 : r3370 = b + 2 + 63 * G.bk := er3370
    refine t_get F e_X9_count_87 fl_X9_186 (fun _ => o7) h1 k3371 rfl (fun v hv f3372 => ?_)
    obtain rfl : v = .ref (r3370 + 5) := hv
    refine t_get F e_X9_count_90 fl_X9_380 (fun _ => o12) h1 (kA_7 k3371 (r := 5) (by decide)) rfl (fun v hv f3373 => ?_)
    obtain ⟨n3374, hn3374, rfl⟩ := hv
    replace hn3374 : n3374 ≤ M := hn3374
    exact m_iret F hQ e_X9_count_93 (⟨h1, _, rfl⟩)
  · refine m_tableIn F e_X9_count_1 (by omega) (by omega) (off := 93) (tgt := 94) (by rw [hv]; rfl) (by decide) ?_
    refine m_aload_n F rfl e_X9_count_94 ?_
    refine t_get F e_X9_count_95 fl_X9_16 (fun _ => o1) h1 hk rfl (fun v hv f3375 => ?_)
    obtain ⟨r3376, ⟨k3377, er3376⟩, rfl⟩ := hv
    replace er3376 : r3376 = b + 2 + 63 * G.bk := er3376
    refine t_callV F e_X9_count_98 (s_X2_runningLeases (x_l X) V G b M Z T _ _ r3376  h1.1 k3377  (by omega)) cb_X2_runningLeases ml_X9_383 im_X2_runningLeases se_X2_runningLeases (fun _ => o7) h1 k3377 rfl rfl (rest := []) rfl (Nat.le_of_ble_eq_true rfl) ⟨Nat.le_of_ble_eq_true rfl, Nat.le_of_ble_eq_true rfl⟩ ⟨Nat.le_of_ble_eq_true rfl, Nat.le_of_ble_eq_true rfl⟩ (fun r σ3378 hp => ?_)
    obtain ⟨h3380, x3381, rfl⟩ := hp
    have h3379 := HK.trans h1 h3380 (by decide)
    exact m_iret F hQ e_X9_count_101 (⟨h3379, _, rfl⟩)
  · refine m_tableIn F e_X9_count_1 (by omega) (by omega) (off := 101) (tgt := 102) (by rw [hv]; rfl) (by decide) ?_
    refine m_aload_n F rfl e_X9_count_102 ?_
    refine t_get F e_X9_count_103 fl_X9_368 (fun _ => o1) h1 hk rfl (fun v hv f3382 => ?_)
    obtain ⟨n3383, ⟨hn3383, gn3383⟩, rfl⟩ := hv
    replace hn3383 : n3383 ≤ 20 := hn3383
    replace gn3383 : n3383 = G.pc := gn3383
    exact m_iret F hQ e_X9_count_106 (⟨h1, _, rfl⟩)
  · refine m_tableIn F e_X9_count_1 (by omega) (by omega) (off := 106) (tgt := 107) (by rw [hv]; rfl) (by decide) ?_
    refine m_aload_n F rfl e_X9_count_107 ?_
    refine t_get F e_X9_count_108 fl_X9_52 (fun _ => o1) h1 hk rfl (fun v hv f3384 => ?_)
    obtain rfl : v = .int (nI (T)) := hv
    exact m_iret F hQ e_X9_count_111 (⟨h1, _, rfl⟩)
set_option maxRecDepth 20000 in
theorem s_X9_fault (l : Launch) (V : VX) (G : GH) (b M Z T N : Nat) (σ : Mem) (a : Nat) (x901 : Int32) (h0 : HT V G (b, M, Z, T) σ) (hk : kA b a = 1) (hG : okG G) (hM : M + 0 ≤ 1000000000) : Ct l V yX9_fault cX9_fault 2 (some .int) 0 0 0 N σ [.ref a, .int x901] (fun r τ => HK V G (b, M, Z, T) [0, 1, 2, 3, 4, 5, 6, 7, 8, 9, 10, 11, 12, 13, 14, 15, 16, 17, 18, 19] σ τ ∧ ∃ x : Int32, r = some (.int x)) := by
  refine Ct.of (by decide) (Nat.le_of_ble_eq_true rfl) [(0, .ref a), (1, .int x901)] rfl (fun X hX F hQ => ?_)
  have h1 : HK V G (b, M, Z, T) [0, 1, 2, 3, 4, 5, 6, 7, 8, 9, 10, 11, 12, 13, 14, 15, 16, 17, 18, 19] σ σ := HK.start h0
  refine m_iload_n F rfl e_X9_fault_0 ?_
  by_cases hx0 : (x901 : Int32) = 0
  · refine m_lookup F e_X9_fault_1 (by decide) (off := 27) (by rw [hx0]; decide) (tgt := 28) (by decide) ?_
    refine m_aload_n F rfl e_X9_fault_28 ?_
    refine t_get F e_X9_fault_29 fl_X9_28 (fun _ => o1) h1 hk rfl (fun v hv f3385 => ?_)
    obtain ⟨r3386, k3387, rfl⟩ := hv
    refine t_get F e_X9_fault_32 fl_X9_70 (fun _ => o3) h1 k3387 rfl (fun v hv f3388 => ?_)
    obtain ⟨x3389, hx3389, rfl⟩ := hv
    replace hx3389 : Z = 0 → x3389 ≠ 0 := hx3389
    exact m_iret F hQ e_X9_fault_35 (⟨h1, _, rfl⟩)
  by_cases hx1 : (x901 : Int32) = 1
  · refine m_lookup F e_X9_fault_1 (by decide) (off := 35) (by rw [hx1]; decide) (tgt := 36) (by decide) ?_
    refine m_aload_n F rfl e_X9_fault_36 ?_
    refine t_get F e_X9_fault_37 fl_X9_28 (fun _ => o1) h1 hk rfl (fun v hv f3390 => ?_)
    obtain ⟨r3391, k3392, rfl⟩ := hv
    refine t_get F e_X9_fault_40 fl_X9_87 (fun _ => o3) h1 k3392 rfl (fun v hv f3393 => ?_)
    obtain ⟨x3394, rfl⟩ := hv
    exact m_iret F hQ e_X9_fault_43 (⟨h1, _, rfl⟩)
  refine m_lookup F e_X9_fault_1 (by decide) (off := 43) ((lv_osw hx0 (by decide)).trans ((lv_osw hx1 (by decide)).trans (rfl))) (tgt := 44) (by decide) ?_
  refine m_iconst F (v := (-1)) (by decide) e_X9_fault_44 ?_
  exact m_iret F hQ e_X9_fault_45 (⟨h1, _, rfl⟩)
set_option maxRecDepth 20000 in
theorem s_X9_putOnTape (l : Launch) (V : VX) (G : GH) (b M Z T N : Nat) (σ : Mem) (a : Nat) (x901 : Int32) (h0 : HT V G (b, M, Z, T) σ) (hk : kA b a = 1) (hp0 : T ≤ 696) (hG : okG G) (hM : M + 0 ≤ 1000000000) : Ct l V yX9_putOnTape cX9_putOnTape 3 none 0 0 0 N σ [.ref a, .int x901] (fun r τ => HK V G (b, M, Z, T + 4) [0, 3, 4, 5, 6, 7, 8, 9, 10, 11, 12, 13, 14, 15, 16, 17, 18, 19] σ τ ∧ r = none) := by
  refine Ct.of (by decide) (Nat.le_of_ble_eq_true rfl) [(0, .ref a), (1, .int x901)] rfl (fun X hX F hQ => ?_)
  have h1 : HK V G (b, M, Z, T) [0, 3, 4, 5, 6, 7, 8, 9, 10, 11, 12, 13, 14, 15, 16, 17, 18, 19] σ σ := HK.start h0
  refine m_bipush F (v := 24) (by decide) e_X9_putOnTape_0 ?_
  refine m_istore_n F (lv' := [(2, .int 24), (0, .ref a), (1, .int x901)]) e_X9_putOnTape_2 (by decide) rfl ?_
  refine m_iload_n F rfl e_X9_putOnTape_3 ?_
  refine m_if_lt F e_X9_putOnTape_4 (fun q => absurd q (by decide)) (fun _ => ?_)
  refine m_aload_n F rfl e_X9_putOnTape_7 ?_
  refine t_get F e_X9_putOnTape_8 fl_X9_52 (fun _ => o1) h1 hk rfl (fun v hv f3395 => ?_)
  obtain rfl : v = .int (nI (T)) := hv
  refine m_sipush F (v := 700) (by decide) e_X9_putOnTape_11 ?_
  refine m_icmp_ge F e_X9_putOnTape_14 (fun q14 => ?_) (fun q14 => ?_)
  · have c14 : T ≥ 700 := (nI_leI (a := 700) (b := T) (by omega) (by omega)).mp q14
    exfalso; omega
  · have c14 : T < 700 := by have hh := mt (nI_leI (a := 700) (b := T) (by omega) (by omega)).mpr q14; omega
    refine m_aload_n F rfl e_X9_putOnTape_17 ?_
    refine t_get F e_X9_putOnTape_18 fl_X9_9 (fun _ => o1) h1 hk rfl (fun v hv f3396 => ?_)
    obtain ⟨r3397, k3398, rfl⟩ := hv
    refine m_aload_n F rfl e_X9_putOnTape_21 ?_
    refine t_getC F e_X9_putOnTape_22 fl_X9_52 (fun _ => o1) h1 hk (f3395) ?_
    refine m_iload_n F rfl e_X9_putOnTape_25 ?_
    refine m_iload_n F rfl e_X9_putOnTape_26 ?_
    refine m_ishr F e_X9_putOnTape_27 ?_
    refine Wm.top (fun x3399 _ => ?_)
    refine m_i2b F e_X9_putOnTape_28 ?_
    refine t_bast F (len := 700) (j := T) e_X9_putOnTape_29 (fun _ => o2) h1 k3398 (nI_clamp (by omega)) (vp_in_nI (by omega) (by decide)) (pk_nb x3399) (by decide) (fun σ3400 h3401 g3402 => ?_)
    refine m_aload_n F rfl e_X9_putOnTape_30 ?_
    refine m_dup F rfl e_X9_putOnTape_31 ?_
    refine t_getC F e_X9_putOnTape_32 fl_X9_52 (fun _ => o1) h3401 hk ((g3402 a 1 (fun e => absurd ((hk).symm.trans e) (by decide))).trans f3395) ?_
    refine m_iconst F (v := 1) (by decide) e_X9_putOnTape_35 ?_
    refine m_iadd F e_X9_putOnTape_36 ?_
    refine Wm.topE (w := nI (T + 1)) (nI_add T 1) ?_
    refine t_putT F (T' := T + 1) e_X9_putOnTape_37 fp_X9_52 h3401 hk (by decide) (fun σ3403 h3404 g3405 g3406 f3407 => ?_)
    refine m_iinc F (v := 16) (lv' := [(2, .int 16), (0, .ref a), (1, .int x901)]) e_X9_putOnTape_40 rfl (by decide) (by decide) rfl ?_
    refine m_goto F e_X9_putOnTape_43 ?_
    refine m_iload_n F rfl e_X9_putOnTape_3 ?_
    refine m_if_lt F e_X9_putOnTape_4 (fun q => absurd q (by decide)) (fun _ => ?_)
    refine m_aload_n F rfl e_X9_putOnTape_7 ?_
    refine t_getC F e_X9_putOnTape_8 fl_X9_52 (fun _ => o1) h3404 hk (f3407) ?_
    refine m_sipush F (v := 700) (by decide) e_X9_putOnTape_11 ?_
    refine m_icmp_ge F e_X9_putOnTape_14 (fun q14 => ?_) (fun q14 => ?_)
    · have c14 : (T + 1) ≥ 700 := (nI_leI (a := 700) (b := (T + 1)) (by omega) (by omega)).mp q14
      exfalso; omega
    · have c14 : (T + 1) < 700 := by have hh := mt (nI_leI (a := 700) (b := (T + 1)) (by omega) (by omega)).mpr q14; omega
      refine m_aload_n F rfl e_X9_putOnTape_17 ?_
      refine t_getC F e_X9_putOnTape_18 fl_X9_9 (fun _ => o1) h3404 hk ((g3406 0 (by decide)).trans ((g3402 a 0 (fun e => absurd ((hk).symm.trans e) (by decide))).trans f3396)) ?_
      refine m_aload_n F rfl e_X9_putOnTape_21 ?_
      refine t_getC F e_X9_putOnTape_22 fl_X9_52 (fun _ => o1) h3404 hk (f3407) ?_
      refine m_iload_n F rfl e_X9_putOnTape_25 ?_
      refine m_iload_n F rfl e_X9_putOnTape_26 ?_
      refine m_ishr F e_X9_putOnTape_27 ?_
      refine Wm.top (fun x3408 _ => ?_)
      refine m_i2b F e_X9_putOnTape_28 ?_
      refine t_bast F (len := 700) (j := T + 1) e_X9_putOnTape_29 (fun _ => o2) h3404 k3398 (nI_clamp (by omega)) (vp_in_nI (by omega) (by decide)) (pk_nb x3408) (by decide) (fun σ3409 h3410 g3411 => ?_)
      refine m_aload_n F rfl e_X9_putOnTape_30 ?_
      refine m_dup F rfl e_X9_putOnTape_31 ?_
      refine t_getC F e_X9_putOnTape_32 fl_X9_52 (fun _ => o1) h3410 hk ((g3411 a 1 (fun e => absurd ((hk).symm.trans e) (by decide))).trans f3407) ?_
      refine m_iconst F (v := 1) (by decide) e_X9_putOnTape_35 ?_
      refine m_iadd F e_X9_putOnTape_36 ?_
      refine Wm.topE (w := nI (T + 2)) (nI_add (T + 1) 1) ?_
      refine t_putT F (T' := T + 2) e_X9_putOnTape_37 fp_X9_52 h3410 hk (by decide) (fun σ3412 h3413 g3414 g3415 f3416 => ?_)
      refine m_iinc F (v := 8) (lv' := [(2, .int 8), (0, .ref a), (1, .int x901)]) e_X9_putOnTape_40 rfl (by decide) (by decide) rfl ?_
      refine m_goto F e_X9_putOnTape_43 ?_
      refine m_iload_n F rfl e_X9_putOnTape_3 ?_
      refine m_if_lt F e_X9_putOnTape_4 (fun q => absurd q (by decide)) (fun _ => ?_)
      refine m_aload_n F rfl e_X9_putOnTape_7 ?_
      refine t_getC F e_X9_putOnTape_8 fl_X9_52 (fun _ => o1) h3413 hk (f3416) ?_
      refine m_sipush F (v := 700) (by decide) e_X9_putOnTape_11 ?_
      refine m_icmp_ge F e_X9_putOnTape_14 (fun q14 => ?_) (fun q14 => ?_)
      · have c14 : (T + 2) ≥ 700 := (nI_leI (a := 700) (b := (T + 2)) (by omega) (by omega)).mp q14
        exfalso; omega
      · have c14 : (T + 2) < 700 := by have hh := mt (nI_leI (a := 700) (b := (T + 2)) (by omega) (by omega)).mpr q14; omega
        refine m_aload_n F rfl e_X9_putOnTape_17 ?_
        refine t_getC F e_X9_putOnTape_18 fl_X9_9 (fun _ => o1) h3413 hk ((g3415 0 (by decide)).trans ((g3411 a 0 (fun e => absurd ((hk).symm.trans e) (by decide))).trans ((g3406 0 (by decide)).trans ((g3402 a 0 (fun e => absurd ((hk).symm.trans e) (by decide))).trans f3396)))) ?_
        refine m_aload_n F rfl e_X9_putOnTape_21 ?_
        refine t_getC F e_X9_putOnTape_22 fl_X9_52 (fun _ => o1) h3413 hk (f3416) ?_
        refine m_iload_n F rfl e_X9_putOnTape_25 ?_
        refine m_iload_n F rfl e_X9_putOnTape_26 ?_
        refine m_ishr F e_X9_putOnTape_27 ?_
        refine Wm.top (fun x3417 _ => ?_)
        refine m_i2b F e_X9_putOnTape_28 ?_
        refine t_bast F (len := 700) (j := T + 2) e_X9_putOnTape_29 (fun _ => o2) h3413 k3398 (nI_clamp (by omega)) (vp_in_nI (by omega) (by decide)) (pk_nb x3417) (by decide) (fun σ3418 h3419 g3420 => ?_)
        refine m_aload_n F rfl e_X9_putOnTape_30 ?_
        refine m_dup F rfl e_X9_putOnTape_31 ?_
        refine t_getC F e_X9_putOnTape_32 fl_X9_52 (fun _ => o1) h3419 hk ((g3420 a 1 (fun e => absurd ((hk).symm.trans e) (by decide))).trans f3416) ?_
        refine m_iconst F (v := 1) (by decide) e_X9_putOnTape_35 ?_
        refine m_iadd F e_X9_putOnTape_36 ?_
        refine Wm.topE (w := nI (T + 3)) (nI_add (T + 2) 1) ?_
        refine t_putT F (T' := T + 3) e_X9_putOnTape_37 fp_X9_52 h3419 hk (by decide) (fun σ3421 h3422 g3423 g3424 f3425 => ?_)
        refine m_iinc F (v := 0) (lv' := [(2, .int 0), (0, .ref a), (1, .int x901)]) e_X9_putOnTape_40 rfl (by decide) (by decide) rfl ?_
        refine m_goto F e_X9_putOnTape_43 ?_
        refine m_iload_n F rfl e_X9_putOnTape_3 ?_
        refine m_if_lt F e_X9_putOnTape_4 (fun q => absurd q (by decide)) (fun _ => ?_)
        refine m_aload_n F rfl e_X9_putOnTape_7 ?_
        refine t_getC F e_X9_putOnTape_8 fl_X9_52 (fun _ => o1) h3422 hk (f3425) ?_
        refine m_sipush F (v := 700) (by decide) e_X9_putOnTape_11 ?_
        refine m_icmp_ge F e_X9_putOnTape_14 (fun q14 => ?_) (fun q14 => ?_)
        · have c14 : (T + 3) ≥ 700 := (nI_leI (a := 700) (b := (T + 3)) (by omega) (by omega)).mp q14
          exfalso; omega
        · have c14 : (T + 3) < 700 := by have hh := mt (nI_leI (a := 700) (b := (T + 3)) (by omega) (by omega)).mpr q14; omega
          refine m_aload_n F rfl e_X9_putOnTape_17 ?_
          refine t_getC F e_X9_putOnTape_18 fl_X9_9 (fun _ => o1) h3422 hk ((g3424 0 (by decide)).trans ((g3420 a 0 (fun e => absurd ((hk).symm.trans e) (by decide))).trans ((g3415 0 (by decide)).trans ((g3411 a 0 (fun e => absurd ((hk).symm.trans e) (by decide))).trans ((g3406 0 (by decide)).trans ((g3402 a 0 (fun e => absurd ((hk).symm.trans e) (by decide))).trans f3396)))))) ?_
          refine m_aload_n F rfl e_X9_putOnTape_21 ?_
          refine t_getC F e_X9_putOnTape_22 fl_X9_52 (fun _ => o1) h3422 hk (f3425) ?_
          refine m_iload_n F rfl e_X9_putOnTape_25 ?_
          refine m_iload_n F rfl e_X9_putOnTape_26 ?_
          refine m_ishr F e_X9_putOnTape_27 ?_
          refine Wm.top (fun x3426 _ => ?_)
          refine m_i2b F e_X9_putOnTape_28 ?_
          refine t_bast F (len := 700) (j := T + 3) e_X9_putOnTape_29 (fun _ => o2) h3422 k3398 (nI_clamp (by omega)) (vp_in_nI (by omega) (by decide)) (pk_nb x3426) (by decide) (fun σ3427 h3428 g3429 => ?_)
          refine m_aload_n F rfl e_X9_putOnTape_30 ?_
          refine m_dup F rfl e_X9_putOnTape_31 ?_
          refine t_getC F e_X9_putOnTape_32 fl_X9_52 (fun _ => o1) h3428 hk ((g3429 a 1 (fun e => absurd ((hk).symm.trans e) (by decide))).trans f3425) ?_
          refine m_iconst F (v := 1) (by decide) e_X9_putOnTape_35 ?_
          refine m_iadd F e_X9_putOnTape_36 ?_
          refine Wm.topE (w := nI (T + 4)) (nI_add (T + 3) 1) ?_
          refine t_putT F (T' := T + 4) e_X9_putOnTape_37 fp_X9_52 h3428 hk (by decide) (fun σ3430 h3431 g3432 g3433 f3434 => ?_)
          refine m_iinc F (v := (-8)) (lv' := [(2, .int (-8)), (0, .ref a), (1, .int x901)]) e_X9_putOnTape_40 rfl (by decide) (by decide) rfl ?_
          refine m_goto F e_X9_putOnTape_43 ?_
          refine m_iload_n F rfl e_X9_putOnTape_3 ?_
          refine m_if_lt F e_X9_putOnTape_4 (fun _ => ?_) (fun q => absurd (by decide) q)
          exact m_vret F hQ e_X9_putOnTape_46 (⟨h3431, rfl⟩)
set_option maxRecDepth 20000 in
theorem s_X9_feed (l : Launch) (V : VX) (G : GH) (b M Z T N : Nat) (σ : Mem) (a : Nat) (x901 : Int32) (x902 : Int32) (x903 : Int32) (x904 : Int32) (x905 : Int32) (h0 : HT V G (b, M, Z, T) σ) (hk : kA b a = 1) (hp0 : T ≤ 700) (hG : okG G) (hM : M + 0 ≤ 1000000000) : Ct l V yX9_feed cX9_feed 6 (some .int) 1 0 0 N σ [.ref a, .int x901, .int x902, .int x903, .int x904, .int x905] (fun r τ => (700 < T + 20 ∧ HK V G (b, M, Z, T) [0, 3, 4, 5, 6, 7, 8, 9, 10, 11, 12, 13, 14, 15, 16, 17, 18, 19] σ τ ∧ r = some (.int (-1))) ∨ (T + 20 ≤ 700 ∧ HK V G (b, M, Z, T + 20) [0, 3, 4, 5, 6, 7, 8, 9, 10, 11, 12, 13, 14, 15, 16, 17, 18, 19] σ τ ∧ r = some (.int (nI (T + 20))))) := by
  refine Ct.of (by decide) (Nat.le_of_ble_eq_true rfl) [(0, .ref a), (1, .int x901), (2, .int x902), (3, .int x903), (4, .int x904), (5, .int x905)] rfl (fun X hX F hQ => ?_)
  have h1 : HK V G (b, M, Z, T) [0, 3, 4, 5, 6, 7, 8, 9, 10, 11, 12, 13, 14, 15, 16, 17, 18, 19] σ σ := HK.start h0
  refine m_aload_n F rfl e_X9_feed_0 ?_
  refine t_get F e_X9_feed_1 fl_X9_52 (fun _ => o1) h1 hk rfl (fun v hv f3435 => ?_)
  obtain rfl : v = .int (nI (T)) := hv
  refine m_bipush F (v := 20) (by decide) e_X9_feed_4 ?_
  refine m_iadd F e_X9_feed_6 ?_
  refine Wm.topE (w := nI (T + 20)) (nI_add T 20) ?_
  refine m_sipush F (v := 700) (by decide) e_X9_feed_7 ?_
  refine m_icmp_le F e_X9_feed_10 (fun q10 => ?_) (fun q10 => ?_)
  · have c10 : (T + 20) ≤ 700 := (nI_leI (a := (T + 20)) (b := 700) (by omega) (by omega)).mp q10
    refine m_aload_n F rfl e_X9_feed_15 ?_
    refine m_iload_n F rfl e_X9_feed_16 ?_
    refine t_callV F e_X9_feed_17 (s_X9_putOnTape (x_l X) V G b M Z T _ _ a x901 h1.1 hk (by first | omega | assumption | decide) hG (by omega)) cb_X9_putOnTape ml_X9_56 im_X9_putOnTape se_X9_putOnTape (fun _ => o1) h1 hk rfl rfl (rest := []) rfl (Nat.le_of_ble_eq_true rfl) ⟨Nat.le_of_ble_eq_true rfl, Nat.le_of_ble_eq_true rfl⟩ ⟨Nat.le_of_ble_eq_true rfl, Nat.le_of_ble_eq_true rfl⟩ (fun r σ3436 hp => ?_)
    obtain ⟨h3438, rfl⟩ := hp
    have h3437 := HK.trans h1 h3438 (by decide)
    refine m_aload_n F rfl e_X9_feed_20 ?_
    refine m_iload_n F rfl e_X9_feed_21 ?_
    refine t_callV F e_X9_feed_22 (s_X9_putOnTape (x_l X) V G b M Z (T + 4) _ _ a x902 h3437.1 hk (by first | omega | assumption | decide) hG (by omega)) cb_X9_putOnTape ml_X9_56 im_X9_putOnTape se_X9_putOnTape (fun _ => o1) h3437 hk rfl rfl (rest := []) rfl (Nat.le_of_ble_eq_true rfl) ⟨Nat.le_of_ble_eq_true rfl, Nat.le_of_ble_eq_true rfl⟩ ⟨Nat.le_of_ble_eq_true rfl, Nat.le_of_ble_eq_true rfl⟩ (fun r σ3439 hp => ?_)
    obtain ⟨h3441, rfl⟩ := hp
    have h3440 := HK.trans h3437 h3441 (by decide)
    refine m_aload_n F rfl e_X9_feed_25 ?_
    refine m_iload_n F rfl e_X9_feed_26 ?_
    refine t_callV F e_X9_feed_27 (s_X9_putOnTape (x_l X) V G b M Z (T + 8) _ _ a x903 h3440.1 hk (by first | omega | assumption | decide) hG (by omega)) cb_X9_putOnTape ml_X9_56 im_X9_putOnTape se_X9_putOnTape (fun _ => o1) h3440 hk rfl rfl (rest := []) rfl (Nat.le_of_ble_eq_true rfl) ⟨Nat.le_of_ble_eq_true rfl, Nat.le_of_ble_eq_true rfl⟩ ⟨Nat.le_of_ble_eq_true rfl, Nat.le_of_ble_eq_true rfl⟩ (fun r σ3442 hp => ?_)
    obtain ⟨h3444, rfl⟩ := hp
    have h3443 := HK.trans h3440 h3444 (by decide)
    refine m_aload_n F rfl e_X9_feed_30 ?_
    refine m_iload F rfl e_X9_feed_31 ?_
    refine t_callV F e_X9_feed_33 (s_X9_putOnTape (x_l X) V G b M Z (T + 12) _ _ a x904 h3443.1 hk (by first | omega | assumption | decide) hG (by omega)) cb_X9_putOnTape ml_X9_56 im_X9_putOnTape se_X9_putOnTape (fun _ => o1) h3443 hk rfl rfl (rest := []) rfl (Nat.le_of_ble_eq_true rfl) ⟨Nat.le_of_ble_eq_true rfl, Nat.le_of_ble_eq_true rfl⟩ ⟨Nat.le_of_ble_eq_true rfl, Nat.le_of_ble_eq_true rfl⟩ (fun r σ3445 hp => ?_)
    obtain ⟨h3447, rfl⟩ := hp
    have h3446 := HK.trans h3443 h3447 (by decide)
    refine m_aload_n F rfl e_X9_feed_36 ?_
    refine m_iload F rfl e_X9_feed_37 ?_
    refine t_callV F e_X9_feed_39 (s_X9_putOnTape (x_l X) V G b M Z (T + 16) _ _ a x905 h3446.1 hk (by first | omega | assumption | decide) hG (by omega)) cb_X9_putOnTape ml_X9_56 im_X9_putOnTape se_X9_putOnTape (fun _ => o1) h3446 hk rfl rfl (rest := []) rfl (Nat.le_of_ble_eq_true rfl) ⟨Nat.le_of_ble_eq_true rfl, Nat.le_of_ble_eq_true rfl⟩ ⟨Nat.le_of_ble_eq_true rfl, Nat.le_of_ble_eq_true rfl⟩ (fun r σ3448 hp => ?_)
    obtain ⟨h3450, rfl⟩ := hp
    have h3449 := HK.trans h3446 h3450 (by decide)
    refine m_aload_n F rfl e_X9_feed_42 ?_
    refine t_get F e_X9_feed_43 fl_X9_52 (fun _ => o1) h3449 hk rfl (fun v hv f3451 => ?_)
    obtain rfl : v = .int (nI (T + 20)) := hv
    exact m_iret F hQ e_X9_feed_46 (Or.inr ⟨by omega, h3449, rfl⟩)
  · have c10 : (T + 20) > 700 := by have hh := mt (nI_leI (a := (T + 20)) (b := 700) (by omega) (by omega)).mpr q10; omega
    refine m_iconst F (v := (-1)) (by decide) e_X9_feed_13 ?_
    exact m_iret F hQ e_X9_feed_14 (Or.inl ⟨by omega, h1, rfl⟩)
