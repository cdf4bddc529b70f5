set_option maxRecDepth 20000 in
theorem lp_X7_kindOf_2 {V : VX} {X : MX} {b M Z T N : Nat} {σ : Mem} {a : Nat} {x901 : Int32}  (F : Fx V X yX7_kindOf cX7_kindOf 3 (some (.object "LeaseLedger$Kind")) (rmd 0 0 0)) (hQ : Rt V X 0 0 N (fun r τ => HK V (b, M, Z, T) [0, 1, 2, 3, 4, 5, 6, 7, 8, 9, 10, 11, 12, 13, 14, 15, 16, 17, 18, 19] σ τ ∧ (r = some .null ∨ ∃ i : Nat, i < 9 ∧ r = some (.ref (adK V i))))) (hk : kA b a = 3) (hM : M + 0 ≤ 1000000000)  : ∀ (fuel : Nat) (i : Nat) (τ : Mem), HK V (b, M, Z, T) [0, 1, 2, 3, 4, 5, 6, 7, 8, 9, 10, 11, 12, 13, 14, 15, 16, 17, 18, 19] σ τ → i ≤ 9 → 9 - i < fuel → Wm V X 3 N τ 0 0 2 [(2, .int (nI i)), (0, .ref a), (1, .int x901)] [] := by
  intro fuel
  induction fuel with
  | zero => intro i τ h1 hi hm; exact absurd hm (Nat.not_lt_zero _)
  | succ fuel ih =>
    intro i τ h1 hi hm
    refine m_iload_n F rfl e_X7_kindOf_2 ?_
    refine m_gsN F e_X7_kindOf_3 F.sw.2.2.2.1.1 (F.ku.2.1 (.fieldLinkNest RX7 200 RX9 "KINDS" "[LLeaseLedger$Kind;" RX9) (by simp [nestW])) ?_
    refine m_tlen F e_X7_kindOf_6 F.sw.2.2.2.1.2 (v := 9) (by decide) ?_
    refine m_icmp_ge F e_X7_kindOf_7 (fun q7 => ?_) (fun q7 => ?_)
    · have c7 : i ≥ 9 := (nI_leI (a := 9) (b := i) (by omega) (by omega)).mp q7
      refine m_null F e_X7_kindOf_34 ?_
      exact m_aret F hQ e_X7_kindOf_35 (Or.inl rfl) (⟨h1, Or.inl rfl⟩)
    · have c7 : i < 9 := by have hh := mt (nI_leI (a := 9) (b := i) (by omega) (by omega)).mpr q7; omega
      refine m_gsN F e_X7_kindOf_10 F.sw.2.2.2.1.1 (F.ku.2.1 (.fieldLinkNest RX7 200 RX9 "KINDS" "[LLeaseLedger$Kind;" RX9) (by simp [nestW])) ?_
      refine m_iload_n F rfl e_X7_kindOf_13 ?_
      refine m_tq F e_X7_kindOf_14 F.sw.2.2.2.1.2 (i := nI i) (vp_in_nI (by omega) (by decide)) (v := .ref (adK V i)) (by show Value.ref (adK V (nI i).toNatClampNeg) = _; rw [nI_clamp (by omega)]) ?_
      refine m_gof F e_X7_kindOf_15 (F.sw.2.2.2.2.2.1 i (by omega)).2.1 kf_code ?_
      refine Wm.top (fun x3662 _ => ?_)
      refine m_iload_n F rfl e_X7_kindOf_18 ?_
      refine m_icmp_ne F e_X7_kindOf_19 (fun q19 => ?_) (fun q19 => ?_)
      · refine m_iinc F (v := nI (i + 1)) (lv' := [(2, .int (nI (i + 1))), (0, .ref a), (1, .int x901)]) e_X7_kindOf_28 rfl (nI_add i 1) (by decide) rfl ?_
        refine m_goto F e_X7_kindOf_31 ?_
        exact ih (i + 1) _ h1 (by omega) (by omega)
      · refine m_gsN F e_X7_kindOf_22 F.sw.2.2.2.1.1 (F.ku.2.1 (.fieldLinkNest RX7 200 RX9 "KINDS" "[LLeaseLedger$Kind;" RX9) (by simp [nestW])) ?_
        refine m_iload_n F rfl e_X7_kindOf_25 ?_
        refine m_tq F e_X7_kindOf_26 F.sw.2.2.2.1.2 (i := nI i) (vp_in_nI (by omega) (by decide)) (v := .ref (adK V i)) (by show Value.ref (adK V (nI i).toNatClampNeg) = _; rw [nI_clamp (by omega)]) ?_
        exact m_aret F hQ e_X7_kindOf_27 (Or.inr ⟨_, rfl⟩) (⟨h1, Or.inr ⟨i, by omega, rfl⟩⟩)
set_option maxRecDepth 20000 in
theorem s_X7_kindOf (l : Launch) (V : VX) (b M Z T N : Nat) (σ : Mem) (a : Nat) (x901 : Int32) (h0 : HT V (b, M, Z, T) σ) (hk : kA b a = 3) (hM : M + 0 ≤ 1000000000) : Ct l V yX7_kindOf cX7_kindOf 3 (some (.object "LeaseLedger$Kind")) 0 0 0 N σ [.ref a, .int x901] (fun r τ => HK V (b, M, Z, T) [0, 1, 2, 3, 4, 5, 6, 7, 8, 9, 10, 11, 12, 13, 14, 15, 16, 17, 18, 19] σ τ ∧ (r = some .null ∨ ∃ i : Nat, i < 9 ∧ r = some (.ref (adK V i)))) := by
  refine Ct.of (by decide) (Nat.le_of_ble_eq_true rfl) [(0, .ref a), (1, .int x901)] rfl (fun X hX F hQ => ?_)
  have h1 : HK V (b, M, Z, T) [0, 1, 2, 3, 4, 5, 6, 7, 8, 9, 10, 11, 12, 13, 14, 15, 16, 17, 18, 19] σ σ := HK.start h0
  refine m_iconst F (v := 0) (by decide) e_X7_kindOf_0 ?_
  refine m_istore_n F (lv' := [(2, .int 0), (0, .ref a), (1, .int x901)]) e_X7_kindOf_1 (by decide) rfl ?_
  exact lp_X7_kindOf_2 F hQ hk hM (9 - 0 + 1) 0 _ h1 (by omega) (Nat.lt_succ_self _)
set_option maxRecDepth 20000 in
theorem s_X7_readNumber (l : Launch) (V : VX) (b M Z T N : Nat) (σ : Mem) (a : Nat) (n901 : Nat) (n902 : Nat) (h0 : HT V (b, M, Z, T) σ) (hk : kA b a = 3) (hn901 : n901 ≤ 2147483647) (hn902 : n902 ≤ 2147483647) (hM : M + 0 ≤ 1000000000) : Ct l V yX7_readNumber cX7_readNumber 4 (some .int) 2 0 0 N σ [.ref a, .int (nI n901), .int (nI n902)] (fun r τ => HK V (b, M, Z, T) [0, 1, 2, 4, 5, 6, 7, 8, 9, 10, 11, 12, 13, 14, 15, 16, 17, 18, 19] σ τ ∧ ∃ n : Nat, n ≤ n902 ∧ r = some (.int (nI n))) := by
  refine Ct.of (by decide) (Nat.le_of_ble_eq_true rfl) [(0, .ref a), (1, .int (nI n901)), (2, .int (nI n902))] rfl (fun X hX F hQ => ?_)
  have h1 : HK V (b, M, Z, T) [0, 1, 2, 4, 5, 6, 7, 8, 9, 10, 11, 12, 13, 14, 15, 16, 17, 18, 19] σ σ := HK.start h0
  refine m_aload_n F rfl e_X7_readNumber_0 ?_
  refine t_get F e_X7_readNumber_1 fl_X7_55 (fun _ => o3) h1 hk rfl (fun v hv f3663 => ?_)
  obtain ⟨x3664, hx3664, rfl⟩ := hv
  replace hx3664 : Z = 0 → x3664 ≠ 0 := hx3664
  refine m_if_eq F e_X7_readNumber_4 (fun q4 => ?_) (fun q4 => ?_)
  · refine m_aload_n F rfl e_X7_readNumber_9 ?_
    refine t_get F e_X7_readNumber_10 fl_X7_61 (fun _ => o3) h1 hk rfl (fun v hv f3665 => ?_)
    obtain ⟨x3666, rfl⟩ := hv
    refine m_iconst F (v := 2) (by decide) e_X7_readNumber_13 ?_
    refine m_icmp_eq F e_X7_readNumber_14 (fun q14 => ?_) (fun q14 => ?_)
    · refine m_aload_n F rfl e_X7_readNumber_24 ?_
      refine t_get F e_X7_readNumber_25 fl_X7_70 (fun _ => o3) h1 hk rfl (fun v hv f3667 => ?_)
      obtain ⟨x3668, rfl⟩ := hv
      refine m_iload_n F rfl e_X7_readNumber_28 ?_
      refine m_icmp_lt F e_X7_readNumber_29 (fun q29 => ?_) (fun q29 => ?_)
      · refine m_aload_n F rfl e_X7_readNumber_40 ?_
        refine m_iconst F (v := 2) (by decide) e_X7_readNumber_41 ?_
        refine t_callV F e_X7_readNumber_42 (s_X7_fail (x_l X) V b M Z T _ _ a 2 h1.1 hk (by first | omega | assumption | decide) (by omega)) cb_X7_fail ml_X7_77 im_X7_fail se_X7_fail (fun _ => o3) h1 hk rfl rfl (rest := []) rfl (Nat.le_of_ble_eq_true rfl) ⟨Nat.le_of_ble_eq_true rfl, Nat.le_of_ble_eq_true rfl⟩ ⟨Nat.le_of_ble_eq_true rfl, Nat.le_of_ble_eq_true rfl⟩ (fun r σ3669 hp => ?_)
        obtain ⟨h3671, rfl⟩ := hp
        have h3670 := HK.trans h1 h3671 (by decide)
        refine m_iconst F (v := 0) (by decide) e_X7_readNumber_45 ?_
        exact m_iret F hQ e_X7_readNumber_46 (⟨(h3670.mono (M' := M) (Z' := Z) (by omega) (by intro e; first | rfl | assumption | omega)), 0, by omega, rfl⟩)
      · obtain ⟨n3672, hn3672, rfl⟩ := nI_nn (x := x3668) (fun e => q29 (Int32.lt_of_lt_of_le e (nI_0le (by omega))))
        have c29 : n3672 ≥ n901 := by have hh := mt (nI_ltI (a := n3672) (b := n901) (by omega) (by omega)).mpr q29; omega
        refine m_aload_n F rfl e_X7_readNumber_32 ?_
        refine t_getC F e_X7_readNumber_33 fl_X7_70 (fun _ => o3) h1 hk (f3667) ?_
        refine m_iload_n F rfl e_X7_readNumber_36 ?_
        refine m_icmp_le F e_X7_readNumber_37 (fun q37 => ?_) (fun q37 => ?_)
        · have c37 : n3672 ≤ n902 := (nI_leI (a := n3672) (b := n902) (by omega) (by omega)).mp q37
          refine m_aload_n F rfl e_X7_readNumber_47 ?_
          refine t_getC F e_X7_readNumber_48 fl_X7_70 (fun _ => o3) h1 hk (f3667) ?_
          refine m_istore_n F (lv' := [(3, .int (nI n3672)), (0, .ref a), (1, .int (nI n901)), (2, .int (nI n902))]) e_X7_readNumber_51 (by decide) rfl ?_
          refine m_aload_n F rfl e_X7_readNumber_52 ?_
          refine t_callV F e_X7_readNumber_53 (s_X7_advance (x_l X) V b M Z T _ _ a  h1.1 hk  (by omega)) cb_X7_advance ml_X7_58 im_X7_advance se_X7_advance (fun _ => o3) h1 hk rfl rfl (rest := []) rfl (Nat.le_of_ble_eq_true rfl) ⟨Nat.le_of_ble_eq_true rfl, Nat.le_of_ble_eq_true rfl⟩ ⟨Nat.le_of_ble_eq_true rfl, Nat.le_of_ble_eq_true rfl⟩ (fun r σ3673 hp => ?_)
          obtain ⟨h3675, rfl⟩ := hp
          have h3674 := HK.trans h1 h3675 (by decide)
          refine m_iload_n F rfl e_X7_readNumber_56 ?_
          exact m_iret F hQ e_X7_readNumber_57 (⟨h3674, n3672, by omega, rfl⟩)
        · have c37 : n3672 > n902 := by have hh := mt (nI_leI (a := n3672) (b := n902) (by omega) (by omega)).mpr q37; omega
          refine m_aload_n F rfl e_X7_readNumber_40 ?_
          refine m_iconst F (v := 2) (by decide) e_X7_readNumber_41 ?_
          refine t_callV F e_X7_readNumber_42 (s_X7_fail (x_l X) V b M Z T _ _ a 2 h1.1 hk (by first | omega | assumption | decide) (by omega)) cb_X7_fail ml_X7_77 im_X7_fail se_X7_fail (fun _ => o3) h1 hk rfl rfl (rest := []) rfl (Nat.le_of_ble_eq_true rfl) ⟨Nat.le_of_ble_eq_true rfl, Nat.le_of_ble_eq_true rfl⟩ ⟨Nat.le_of_ble_eq_true rfl, Nat.le_of_ble_eq_true rfl⟩ (fun r σ3676 hp => ?_)
          obtain ⟨h3678, rfl⟩ := hp
          have h3677 := HK.trans h1 h3678 (by decide)
          refine m_iconst F (v := 0) (by decide) e_X7_readNumber_45 ?_
          exact m_iret F hQ e_X7_readNumber_46 (⟨(h3677.mono (M' := M) (Z' := Z) (by omega) (by intro e; first | rfl | assumption | omega)), 0, by omega, rfl⟩)
    · refine m_aload_n F rfl e_X7_readNumber_17 ?_
      refine m_iconst F (v := 1) (by decide) e_X7_readNumber_18 ?_
      refine t_callV F e_X7_readNumber_19 (s_X7_fail (x_l X) V b M Z T _ _ a 1 h1.1 hk (by first | omega | assumption | decide) (by omega)) cb_X7_fail ml_X7_77 im_X7_fail se_X7_fail (fun _ => o3) h1 hk rfl rfl (rest := []) rfl (Nat.le_of_ble_eq_true rfl) ⟨Nat.le_of_ble_eq_true rfl, Nat.le_of_ble_eq_true rfl⟩ ⟨Nat.le_of_ble_eq_true rfl, Nat.le_of_ble_eq_true rfl⟩ (fun r σ3679 hp => ?_)
      obtain ⟨h3681, rfl⟩ := hp
      have h3680 := HK.trans h1 h3681 (by decide)
      refine m_iconst F (v := 0) (by decide) e_X7_readNumber_22 ?_
      exact m_iret F hQ e_X7_readNumber_23 (⟨(h3680.mono (M' := M) (Z' := Z) (by omega) (by intro e; first | rfl | assumption | omega)), 0, by omega, rfl⟩)
  · refine m_iconst F (v := 0) (by decide) e_X7_readNumber_7 ?_
    exact m_iret F hQ e_X7_readNumber_8 (⟨h1, 0, by omega, rfl⟩)
set_option maxRecDepth 20000 in
theorem s_X7_readNumberW (l : Launch) (V : VX) (b M Z T N : Nat) (σ : Mem) (a : Nat) (x901 : Int32) (n902 : Nat) (h0 : HT V (b, M, Z, T) σ) (hk : kA b a = 3) (hn902 : n902 ≤ 2147483647) (hM : M + 0 ≤ 1000000000) : Ct l V yX7_readNumber cX7_readNumber 4 (some .int) 2 0 0 N σ [.ref a, .int x901, .int (nI n902)] (fun r τ => HK V (b, M, Z, T) [0, 1, 2, 4, 5, 6, 7, 8, 9, 10, 11, 12, 13, 14, 15, 16, 17, 18, 19] σ τ ∧ ∃ x : Int32, r = some (.int x)) := by
  refine Ct.of (by decide) (Nat.le_of_ble_eq_true rfl) [(0, .ref a), (1, .int x901), (2, .int (nI n902))] rfl (fun X hX F hQ => ?_)
  have h1 : HK V (b, M, Z, T) [0, 1, 2, 4, 5, 6, 7, 8, 9, 10, 11, 12, 13, 14, 15, 16, 17, 18, 19] σ σ := HK.start h0
  refine m_aload_n F rfl e_X7_readNumber_0 ?_
  refine t_get F e_X7_readNumber_1 fl_X7_55 (fun _ => o3) h1 hk rfl (fun v hv f3682 => ?_)
  obtain ⟨x3683, hx3683, rfl⟩ := hv
  replace hx3683 : Z = 0 → x3683 ≠ 0 := hx3683
  refine m_if_eq F e_X7_readNumber_4 (fun q4 => ?_) (fun q4 => ?_)
  · refine m_aload_n F rfl e_X7_readNumber_9 ?_
    refine t_get F e_X7_readNumber_10 fl_X7_61 (fun _ => o3) h1 hk rfl (fun v hv f3684 => ?_)
    obtain ⟨x3685, rfl⟩ := hv
    refine m_iconst F (v := 2) (by decide) e_X7_readNumber_13 ?_
    refine m_icmp_eq F e_X7_readNumber_14 (fun q14 => ?_) (fun q14 => ?_)
    · refine m_aload_n F rfl e_X7_readNumber_24 ?_
      refine t_get F e_X7_readNumber_25 fl_X7_70 (fun _ => o3) h1 hk rfl (fun v hv f3686 => ?_)
      obtain ⟨x3687, rfl⟩ := hv
      refine m_iload_n F rfl e_X7_readNumber_28 ?_
      refine m_icmp_lt F e_X7_readNumber_29 (fun q29 => ?_) (fun q29 => ?_)
      · refine m_aload_n F rfl e_X7_readNumber_40 ?_
        refine m_iconst F (v := 2) (by decide) e_X7_readNumber_41 ?_
        refine t_callV F e_X7_readNumber_42 (s_X7_fail (x_l X) V b M Z T _ _ a 2 h1.1 hk (by first | omega | assumption | decide) (by omega)) cb_X7_fail ml_X7_77 im_X7_fail se_X7_fail (fun _ => o3) h1 hk rfl rfl (rest := []) rfl (Nat.le_of_ble_eq_true rfl) ⟨Nat.le_of_ble_eq_true rfl, Nat.le_of_ble_eq_true rfl⟩ ⟨Nat.le_of_ble_eq_true rfl, Nat.le_of_ble_eq_true rfl⟩ (fun r σ3688 hp => ?_)
        obtain ⟨h3690, rfl⟩ := hp
        have h3689 := HK.trans h1 h3690 (by decide)
        refine m_iconst F (v := 0) (by decide) e_X7_readNumber_45 ?_
        exact m_iret F hQ e_X7_readNumber_46 (⟨(h3689.mono (M' := M) (Z' := Z) (by omega) (by intro e; first | rfl | assumption | omega)), _, rfl⟩)
      · refine m_aload_n F rfl e_X7_readNumber_32 ?_
        refine t_getC F e_X7_readNumber_33 fl_X7_70 (fun _ => o3) h1 hk (f3686) ?_
        refine m_iload_n F rfl e_X7_readNumber_36 ?_
        refine m_icmp_le F e_X7_readNumber_37 (fun q37 => ?_) (fun q37 => ?_)
        · refine m_aload_n F rfl e_X7_readNumber_47 ?_
          refine t_getC F e_X7_readNumber_48 fl_X7_70 (fun _ => o3) h1 hk (f3686) ?_
          refine m_istore_n F (lv' := [(3, .int x3687), (0, .ref a), (1, .int x901), (2, .int (nI n902))]) e_X7_readNumber_51 (by decide) rfl ?_
          refine m_aload_n F rfl e_X7_readNumber_52 ?_
          refine t_callV F e_X7_readNumber_53 (s_X7_advance (x_l X) V b M Z T _ _ a  h1.1 hk  (by omega)) cb_X7_advance ml_X7_58 im_X7_advance se_X7_advance (fun _ => o3) h1 hk rfl rfl (rest := []) rfl (Nat.le_of_ble_eq_true rfl) ⟨Nat.le_of_ble_eq_true rfl, Nat.le_of_ble_eq_true rfl⟩ ⟨Nat.le_of_ble_eq_true rfl, Nat.le_of_ble_eq_true rfl⟩ (fun r σ3691 hp => ?_)
          obtain ⟨h3693, rfl⟩ := hp
          have h3692 := HK.trans h1 h3693 (by decide)
          refine m_iload_n F rfl e_X7_readNumber_56 ?_
          exact m_iret F hQ e_X7_readNumber_57 (⟨h3692, _, rfl⟩)
        · refine m_aload_n F rfl e_X7_readNumber_40 ?_
          refine m_iconst F (v := 2) (by decide) e_X7_readNumber_41 ?_
          refine t_callV F e_X7_readNumber_42 (s_X7_fail (x_l X) V b M Z T _ _ a 2 h1.1 hk (by first | omega | assumption | decide) (by omega)) cb_X7_fail ml_X7_77 im_X7_fail se_X7_fail (fun _ => o3) h1 hk rfl rfl (rest := []) rfl (Nat.le_of_ble_eq_true rfl) ⟨Nat.le_of_ble_eq_true rfl, Nat.le_of_ble_eq_true rfl⟩ ⟨Nat.le_of_ble_eq_true rfl, Nat.le_of_ble_eq_true rfl⟩ (fun r σ3694 hp => ?_)
          obtain ⟨h3696, rfl⟩ := hp
          have h3695 := HK.trans h1 h3696 (by decide)
          refine m_iconst F (v := 0) (by decide) e_X7_readNumber_45 ?_
          exact m_iret F hQ e_X7_readNumber_46 (⟨(h3695.mono (M' := M) (Z' := Z) (by omega) (by intro e; first | rfl | assumption | omega)), _, rfl⟩)
    · refine m_aload_n F rfl e_X7_readNumber_17 ?_
      refine m_iconst F (v := 1) (by decide) e_X7_readNumber_18 ?_
      refine t_callV F e_X7_readNumber_19 (s_X7_fail (x_l X) V b M Z T _ _ a 1 h1.1 hk (by first | omega | assumption | decide) (by omega)) cb_X7_fail ml_X7_77 im_X7_fail se_X7_fail (fun _ => o3) h1 hk rfl rfl (rest := []) rfl (Nat.le_of_ble_eq_true rfl) ⟨Nat.le_of_ble_eq_true rfl, Nat.le_of_ble_eq_true rfl⟩ ⟨Nat.le_of_ble_eq_true rfl, Nat.le_of_ble_eq_true rfl⟩ (fun r σ3697 hp => ?_)
      obtain ⟨h3699, rfl⟩ := hp
      have h3698 := HK.trans h1 h3699 (by decide)
      refine m_iconst F (v := 0) (by decide) e_X7_readNumber_22 ?_
      exact m_iret F hQ e_X7_readNumber_23 (⟨(h3698.mono (M' := M) (Z' := Z) (by omega) (by intro e; first | rfl | assumption | omega)), _, rfl⟩)
  · refine m_iconst F (v := 0) (by decide) e_X7_readNumber_7 ?_
    exact m_iret F hQ e_X7_readNumber_8 (⟨h1, _, rfl⟩)
set_option maxRecDepth 20000 in
theorem s_X7_readName (l : Launch) (V : VX) (b M Z T N : Nat) (σ : Mem) (a : Nat) (h0 : HT V (b, M, Z, T) σ) (hk : kA b a = 3) (hM : M + 0 ≤ 1000000000) : Ct l V yX7_readName cX7_readName 2 (some .int) 2 0 0 N σ [.ref a] (fun r τ => HK V (b, M, Z, T) [0, 1, 2, 4, 5, 6, 7, 8, 9, 10, 11, 12, 13, 14, 15, 16, 17, 18, 19] σ τ ∧ ∃ x : Int32, r = some (.int x)) := by
  refine Ct.of (by decide) (Nat.le_of_ble_eq_true rfl) [(0, .ref a)] rfl (fun X hX F hQ => ?_)
  have h1 : HK V (b, M, Z, T) [0, 1, 2, 4, 5, 6, 7, 8, 9, 10, 11, 12, 13, 14, 15, 16, 17, 18, 19] σ σ := HK.start h0
  refine m_aload_n F rfl e_X7_readName_0 ?_
  refine t_get F e_X7_readName_1 fl_X7_55 (fun _ => o3) h1 hk rfl (fun v hv f3700 => ?_)
  obtain ⟨x3701, hx3701, rfl⟩ := hv
  replace hx3701 : Z = 0 → x3701 ≠ 0 := hx3701
  refine m_if_eq F e_X7_readName_4 (fun q4 => ?_) (fun q4 => ?_)
  · refine m_aload_n F rfl e_X7_readName_9 ?_
    refine t_get F e_X7_readName_10 fl_X7_61 (fun _ => o3) h1 hk rfl (fun v hv f3702 => ?_)
    obtain ⟨x3703, rfl⟩ := hv
    refine m_iconst F (v := 1) (by decide) e_X7_readName_13 ?_
    refine m_icmp_ne F e_X7_readName_14 (fun q14 => ?_) (fun q14 => ?_)
    · refine m_aload_n F rfl e_X7_readName_36 ?_
      refine m_iconst F (v := 1) (by decide) e_X7_readName_37 ?_
      refine t_callV F e_X7_readName_38 (s_X7_fail (x_l X) V b M Z T _ _ a 1 h1.1 hk (by first | omega | assumption | decide) (by omega)) cb_X7_fail ml_X7_77 im_X7_fail se_X7_fail (fun _ => o3) h1 hk rfl rfl (rest := []) rfl (Nat.le_of_ble_eq_true rfl) ⟨Nat.le_of_ble_eq_true rfl, Nat.le_of_ble_eq_true rfl⟩ ⟨Nat.le_of_ble_eq_true rfl, Nat.le_of_ble_eq_true rfl⟩ (fun r σ3704 hp => ?_)
      obtain ⟨h3706, rfl⟩ := hp
      have h3705 := HK.trans h1 h3706 (by decide)
      refine m_iconst F (v := (-1)) (by decide) e_X7_readName_41 ?_
      exact m_iret F hQ e_X7_readName_42 (⟨(h3705.mono (M' := M) (Z' := Z) (by omega) (by intro e; first | rfl | assumption | omega)), _, rfl⟩)
    · refine m_aload_n F rfl e_X7_readName_17 ?_
      refine t_get F e_X7_readName_18 fl_X7_70 (fun _ => o3) h1 hk rfl (fun v hv f3707 => ?_)
      obtain ⟨x3708, rfl⟩ := hv
      refine m_iconst F (v := (-1)) (by decide) e_X7_readName_21 ?_
      refine m_icmp_eq F e_X7_readName_22 (fun q22 => ?_) (fun q22 => ?_)
      · refine m_aload_n F rfl e_X7_readName_36 ?_
        refine m_iconst F (v := 1) (by decide) e_X7_readName_37 ?_
        refine t_callV F e_X7_readName_38 (s_X7_fail (x_l X) V b M Z T _ _ a 1 h1.1 hk (by first | omega | assumption | decide) (by omega)) cb_X7_fail ml_X7_77 im_X7_fail se_X7_fail (fun _ => o3) h1 hk rfl rfl (rest := []) rfl (Nat.le_of_ble_eq_true rfl) ⟨Nat.le_of_ble_eq_true rfl, Nat.le_of_ble_eq_true rfl⟩ ⟨Nat.le_of_ble_eq_true rfl, Nat.le_of_ble_eq_true rfl⟩ (fun r σ3709 hp => ?_)
        obtain ⟨h3711, rfl⟩ := hp
        have h3710 := HK.trans h1 h3711 (by decide)
        refine m_iconst F (v := (-1)) (by decide) e_X7_readName_41 ?_
        exact m_iret F hQ e_X7_readName_42 (⟨(h3710.mono (M' := M) (Z' := Z) (by omega) (by intro e; first | rfl | assumption | omega)), _, rfl⟩)
      · refine m_aload_n F rfl e_X7_readName_25 ?_
        refine m_aload_n F rfl e_X7_readName_26 ?_
        refine t_getC F e_X7_readName_27 fl_X7_70 (fun _ => o3) h1 hk (f3707) ?_
        refine t_callV F e_X7_readName_30 (s_X7_kindOf (x_l X) V b M Z T _ _ a x3708 h1.1 hk  (by omega)) cb_X7_kindOf ml_X7_73 im_X7_kindOf se_X7_kindOf (fun _ => o3) h1 hk rfl rfl (rest := []) rfl (Nat.le_of_ble_eq_true rfl) ⟨Nat.le_of_ble_eq_true rfl, Nat.le_of_ble_eq_true rfl⟩ ⟨Nat.le_of_ble_eq_true rfl, Nat.le_of_ble_eq_true rfl⟩ (fun r σ3712 hp => ?_)
        obtain ⟨h3714, c3715⟩ := hp
        have h3713 := HK.trans h1 h3714 (by decide)
        rcases c3715 with rfl | ⟨n3716, hn3716, rfl⟩
        · refine m_ifnullN F e_X7_readName_33 ?_
          refine m_aload_n F rfl e_X7_readName_43 ?_
          refine t_getC F e_X7_readName_44 fl_X7_70 (fun _ => o3) h3713 hk ((fld_eq (h3714.2 a (by rw [show kA _ a = 3 from hk]; decide))).trans f3707) ?_
          refine m_istore_n F (lv' := [(1, .int x3708), (0, .ref a)]) e_X7_readName_47 (by decide) rfl ?_
          refine m_aload_n F rfl e_X7_readName_48 ?_
          refine t_callV F e_X7_readName_49 (s_X7_advance (x_l X) V b M Z T _ _ a  h3713.1 hk  (by omega)) cb_X7_advance ml_X7_58 im_X7_advance se_X7_advance (fun _ => o3) h3713 hk rfl rfl (rest := []) rfl (Nat.le_of_ble_eq_true rfl) ⟨Nat.le_of_ble_eq_true rfl, Nat.le_of_ble_eq_true rfl⟩ ⟨Nat.le_of_ble_eq_true rfl, Nat.le_of_ble_eq_true rfl⟩ (fun r σ3717 hp => ?_)
          obtain ⟨h3719, rfl⟩ := hp
          have h3718 := HK.trans h3713 h3719 (by decide)
          refine m_iload_n F rfl e_X7_readName_52 ?_
          exact m_iret F hQ e_X7_readName_53 (⟨h3718, _, rfl⟩)
        · refine m_ifnullR F e_X7_readName_33 ?_
          refine m_aload_n F rfl e_X7_readName_36 ?_
          refine m_iconst F (v := 1) (by decide) e_X7_readName_37 ?_
          refine t_callV F e_X7_readName_38 (s_X7_fail (x_l X) V b M Z T _ _ a 1 h3713.1 hk (by first | omega | assumption | decide) (by omega)) cb_X7_fail ml_X7_77 im_X7_fail se_X7_fail (fun _ => o3) h3713 hk rfl rfl (rest := []) rfl (Nat.le_of_ble_eq_true rfl) ⟨Nat.le_of_ble_eq_true rfl, Nat.le_of_ble_eq_true rfl⟩ ⟨Nat.le_of_ble_eq_true rfl, Nat.le_of_ble_eq_true rfl⟩ (fun r σ3720 hp => ?_)
          obtain ⟨h3722, rfl⟩ := hp
          have h3721 := HK.trans h3713 h3722 (by decide)
          refine m_iconst F (v := (-1)) (by decide) e_X7_readName_41 ?_
          exact m_iret F hQ e_X7_readName_42 (⟨(h3721.mono (M' := M) (Z' := Z) (by omega) (by intro e; first | rfl | assumption | omega)), _, rfl⟩)
  · refine m_iconst F (v := (-1)) (by decide) e_X7_readName_7 ?_
    exact m_iret F hQ e_X7_readName_8 (⟨h1, _, rfl⟩)
set_option maxRecDepth 20000 in
theorem s_X7_readNewName (l : Launch) (V : VX) (b M Z T N : Nat) (σ : Mem) (a : Nat) (h0 : HT V (b, M, Z, T) σ) (hk : kA b a = 3) (hM : M + 0 ≤ 1000000000) : Ct l V yX7_readNewName cX7_readNewName 3 (some .int) 3 0 0 N σ [.ref a] (fun r τ => HK V (b, M, Z, T) [0, 1, 2, 4, 5, 6, 7, 8, 9, 10, 11, 12, 13, 14, 15, 16, 17, 18, 19] σ τ ∧ ∃ x : Int32, r = some (.int x)) := by
  refine Ct.of (by decide) (Nat.le_of_ble_eq_true rfl) [(0, .ref a)] rfl (fun X hX F hQ => ?_)
  have h1 : HK V (b, M, Z, T) [0, 1, 2, 4, 5, 6, 7, 8, 9, 10, 11, 12, 13, 14, 15, 16, 17, 18, 19] σ σ := HK.start h0
  refine m_aload_n F rfl e_X7_readNewName_0 ?_
  refine t_get F e_X7_readNewName_1 fl_X7_188 (fun _ => o3) h1 hk rfl (fun v hv f3723 => ?_)
  obtain ⟨x3724, rfl⟩ := hv
  refine m_istore_n F (lv' := [(1, .int x3724), (0, .ref a)]) e_X7_readNewName_4 (by decide) rfl ?_
  refine m_aload_n F rfl e_X7_readNewName_5 ?_
  refine t_callV F e_X7_readNewName_6 (s_X7_readName (x_l X) V b M Z T _ _ a  h1.1 hk  (by omega)) cb_X7_readName ml_X7_191 im_X7_readName se_X7_readName (fun _ => o3) h1 hk rfl rfl (rest := []) rfl (Nat.le_of_ble_eq_true rfl) ⟨Nat.le_of_ble_eq_true rfl, Nat.le_of_ble_eq_true rfl⟩ ⟨Nat.le_of_ble_eq_true rfl, Nat.le_of_ble_eq_true rfl⟩ (fun r σ3725 hp => ?_)
  obtain ⟨h3727, x3728, rfl⟩ := hp
  have h3726 := HK.trans h1 h3727 (by decide)
  refine m_istore_n F (lv' := [(2, .int x3728), (1, .int x3724), (0, .ref a)]) e_X7_readNewName_9 (by decide) rfl ?_
  refine m_aload_n F rfl e_X7_readNewName_10 ?_
  refine t_get F e_X7_readNewName_11 fl_X7_23 (fun _ => o3) h3726 hk rfl (fun v hv f3729 => ?_)
  obtain ⟨r3730, k3731, rfl⟩ := hv
  refine m_iload_n F rfl e_X7_readNewName_14 ?_
  refine t_callV F e_X7_readNewName_15 (s_X2_leaseNamed (x_l X) V b M Z T _ _ r3730 x3728 h3726.1 k3731  (by omega)) cb_X2_leaseNamed ml_X7_194 im_X2_leaseNamed se_X2_leaseNamed (fun _ => o7) h3726 k3731 rfl rfl (rest := []) rfl (Nat.le_of_ble_eq_true rfl) ⟨Nat.le_of_ble_eq_true rfl, Nat.le_of_ble_eq_true rfl⟩ ⟨Nat.le_of_ble_eq_true rfl, Nat.le_of_ble_eq_true rfl⟩ (fun r σ3732 hp => ?_)
  obtain ⟨h3734, c3735⟩ := hp
  have h3733 := HK.trans h3726 h3734 (by decide)
  rcases c3735 with ⟨n3736, hn3736, rfl⟩ | rfl
  · refine m_iconst F (v := (-1)) (by decide) e_X7_readNewName_18 ?_
    refine m_icmp_eq F e_X7_readNewName_19 (fun q19 => ?_) (fun q19 => ?_)
    · refine m_iload_n F rfl e_X7_readNewName_28 ?_
      exact m_iret F hQ e_X7_readNewName_29 (⟨h3733, _, rfl⟩)
    · refine m_aload_n F rfl e_X7_readNewName_22 ?_
      refine m_iconst F (v := 3) (by decide) e_X7_readNewName_23 ?_
      refine m_iload_n F rfl e_X7_readNewName_24 ?_
      refine t_callV F e_X7_readNewName_25 (s_X7_failAt (x_l X) V b M Z T _ _ a 3 x3724 h3733.1 hk (by first | omega | assumption | decide) (by omega)) cb_X7_failAt ml_X7_197 im_X7_failAt se_X7_failAt (fun _ => o3) h3733 hk rfl rfl (rest := []) rfl (Nat.le_of_ble_eq_true rfl) ⟨Nat.le_of_ble_eq_true rfl, Nat.le_of_ble_eq_true rfl⟩ ⟨Nat.le_of_ble_eq_true rfl, Nat.le_of_ble_eq_true rfl⟩ (fun r σ3737 hp => ?_)
      obtain ⟨h3739, rfl⟩ := hp
      have h3738 := HK.trans h3733 h3739 (by decide)
      refine m_iload_n F rfl e_X7_readNewName_28 ?_
      exact m_iret F hQ e_X7_readNewName_29 (⟨(h3738.mono (M' := M) (Z' := Z) (by omega) (by intro e; first | rfl | assumption | omega)), _, rfl⟩)
  · refine m_iconst F (v := (-1)) (by decide) e_X7_readNewName_18 ?_
    refine m_icmp_eq F e_X7_readNewName_19 (fun _ => ?_) (fun q => absurd (by decide) q)
    refine m_iload_n F rfl e_X7_readNewName_28 ?_
    exact m_iret F hQ e_X7_readNewName_29 (⟨h3733, _, rfl⟩)
set_option maxRecDepth 20000 in
theorem s_X7_readToldName (l : Launch) (V : VX) (b M Z T N : Nat) (σ : Mem) (a : Nat) (h0 : HT V (b, M, Z, T) σ) (hk : kA b a = 3) (hM : M + 0 ≤ 1000000000) : Ct l V yX7_readToldName cX7_readToldName 3 (some .int) 3 0 0 N σ [.ref a] (fun r τ => HK V (b, M, Z, T) [0, 1, 2, 4, 5, 6, 7, 8, 9, 10, 11, 12, 13, 14, 15, 16, 17, 18, 19] σ τ ∧ ((∃ n : Nat, n ≤ 3 ∧ r = some (.int (nI n))) ∨ (HT V (b, M, 0, T) τ ∧ r = some (.int (-1))))) := by
  refine Ct.of (by decide) (Nat.le_of_ble_eq_true rfl) [(0, .ref a)] rfl (fun X hX F hQ => ?_)
  have h1 : HK V (b, M, Z, T) [0, 1, 2, 4, 5, 6, 7, 8, 9, 10, 11, 12, 13, 14, 15, 16, 17, 18, 19] σ σ := HK.start h0
  refine m_aload_n F rfl e_X7_readToldName_0 ?_
  refine t_get F e_X7_readToldName_1 fl_X7_188 (fun _ => o3) h1 hk rfl (fun v hv f3740 => ?_)
  obtain ⟨x3741, rfl⟩ := hv
  refine m_istore_n F (lv' := [(1, .int x3741), (0, .ref a)]) e_X7_readToldName_4 (by decide) rfl ?_
  refine m_aload_n F rfl e_X7_readToldName_5 ?_
  refine t_get F e_X7_readToldName_6 fl_X7_23 (fun _ => o3) h1 hk rfl (fun v hv f3742 => ?_)
  obtain ⟨r3743, k3744, rfl⟩ := hv
  refine m_aload_n F rfl e_X7_readToldName_9 ?_
  refine t_callV F e_X7_readToldName_10 (s_X7_readName (x_l X) V b M Z T _ _ a  h1.1 hk  (by omega)) cb_X7_readName ml_X7_191 im_X7_readName se_X7_readName (fun _ => o3) h1 hk rfl rfl (rest := [.ref r3743]) rfl (Nat.le_of_ble_eq_true rfl) ⟨Nat.le_of_ble_eq_true rfl, Nat.le_of_ble_eq_true rfl⟩ ⟨Nat.le_of_ble_eq_true rfl, Nat.le_of_ble_eq_true rfl⟩ (fun r σ3745 hp => ?_)
  obtain ⟨h3747, x3748, rfl⟩ := hp
  have h3746 := HK.trans h1 h3747 (by decide)
  refine t_callV F e_X7_readToldName_13 (s_X2_leaseNamed (x_l X) V b M Z T _ _ r3743 x3748 h3746.1 k3744  (by omega)) cb_X2_leaseNamed ml_X7_194 im_X2_leaseNamed se_X2_leaseNamed (fun _ => o7) h3746 k3744 rfl rfl (rest := []) rfl (Nat.le_of_ble_eq_true rfl) ⟨Nat.le_of_ble_eq_true rfl, Nat.le_of_ble_eq_true rfl⟩ ⟨Nat.le_of_ble_eq_true rfl, Nat.le_of_ble_eq_true rfl⟩ (fun r σ3749 hp => ?_)
  obtain ⟨h3751, c3752⟩ := hp
  have h3750 := HK.trans h3746 h3751 (by decide)
  rcases c3752 with ⟨n3753, hn3753, rfl⟩ | rfl
  · refine m_istore_n F (lv' := [(2, .int (nI n3753)), (1, .int x3741), (0, .ref a)]) e_X7_readToldName_16 (by decide) rfl ?_
    refine m_iload_n F rfl e_X7_readToldName_17 ?_
    refine m_iconst F (v := (-1)) (by decide) e_X7_readToldName_18 ?_
    refine m_icmp_ne F e_X7_readToldName_19 (fun q19 => ?_) (fun q19 => ?_)
    · refine m_iload_n F rfl e_X7_readToldName_28 ?_
      exact m_iret F hQ e_X7_readToldName_29 (⟨h3750, Or.inl ⟨n3753, by omega, rfl⟩⟩)
    · refine m_aload_n F rfl e_X7_readToldName_22 ?_
      refine m_iconst F (v := 4) (by decide) e_X7_readToldName_23 ?_
      refine m_iload_n F rfl e_X7_readToldName_24 ?_
      refine t_callV F e_X7_readToldName_25 (s_X7_failAt (x_l X) V b M Z T _ _ a 4 x3741 h3750.1 hk (by first | omega | assumption | decide) (by omega)) cb_X7_failAt ml_X7_197 im_X7_failAt se_X7_failAt (fun _ => o3) h3750 hk rfl rfl (rest := []) rfl (Nat.le_of_ble_eq_true rfl) ⟨Nat.le_of_ble_eq_true rfl, Nat.le_of_ble_eq_true rfl⟩ ⟨Nat.le_of_ble_eq_true rfl, Nat.le_of_ble_eq_true rfl⟩ (fun r σ3754 hp => ?_)
      obtain ⟨h3756, rfl⟩ := hp
      have h3755 := HK.trans h3750 h3756 (by decide)
      refine m_iload_n F rfl e_X7_readToldName_28 ?_
      exact m_iret F hQ e_X7_readToldName_29 (⟨(h3755.mono (M' := M) (Z' := Z) (by omega) (by intro e; first | rfl | assumption | omega)), Or.inl ⟨n3753, by omega, rfl⟩⟩)
  · refine m_istore_n F (lv' := [(2, .int (-1)), (1, .int x3741), (0, .ref a)]) e_X7_readToldName_16 (by decide) rfl ?_
    refine m_iload_n F rfl e_X7_readToldName_17 ?_
    refine m_iconst F (v := (-1)) (by decide) e_X7_readToldName_18 ?_
    refine m_icmp_ne F e_X7_readToldName_19 (fun q => absurd (by decide) q) (fun _ => ?_)
    refine m_aload_n F rfl e_X7_readToldName_22 ?_
    refine m_iconst F (v := 4) (by decide) e_X7_readToldName_23 ?_
    refine m_iload_n F rfl e_X7_readToldName_24 ?_
    refine t_callV F e_X7_readToldName_25 (s_X7_failAt (x_l X) V b M Z T _ _ a 4 x3741 h3750.1 hk (by first | omega | assumption | decide) (by omega)) cb_X7_failAt ml_X7_197 im_X7_failAt se_X7_failAt (fun _ => o3) h3750 hk rfl rfl (rest := []) rfl (Nat.le_of_ble_eq_true rfl) ⟨Nat.le_of_ble_eq_true rfl, Nat.le_of_ble_eq_true rfl⟩ ⟨Nat.le_of_ble_eq_true rfl, Nat.le_of_ble_eq_true rfl⟩ (fun r σ3757 hp => ?_)
    obtain ⟨h3759, rfl⟩ := hp
    have h3758 := HK.trans h3750 h3759 (by decide)
    refine m_iload_n F rfl e_X7_readToldName_28 ?_
    exact m_iret F hQ e_X7_readToldName_29 (⟨(h3758.mono (M' := M) (Z' := Z) (by omega) (by intro e; first | rfl | assumption | omega)), Or.inr ⟨h3758.1, rfl⟩⟩)
set_option maxRecDepth 20000 in
theorem s_X7_readNameOnce (l : Launch) (V : VX) (b M Z T N : Nat) (σ : Mem) (a : Nat) (x901 : Int32) (h0 : HT V (b, M, Z, T) σ) (hk : kA b a = 3) (hM : M + 0 ≤ 1000000000) : Ct l V yX7_readNameOnce cX7_readNameOnce 4 (some .int) 3 0 0 N σ [.ref a, .int x901] (fun r τ => HK V (b, M, Z, T) [0, 1, 2, 5, 6, 7, 8, 9, 10, 11, 12, 13, 14, 15, 16, 17, 18, 19] σ τ ∧ ((∃ n : Nat, n ≤ 3 ∧ r = some (.int (nI n))) ∨ (HT V (b, M, 0, T) τ ∧ r = some (.int (-1))))) := by
  refine Ct.of (by decide) (Nat.le_of_ble_eq_true rfl) [(0, .ref a), (1, .int x901)] rfl (fun X hX F hQ => ?_)
  have h1 : HK V (b, M, Z, T) [0, 1, 2, 5, 6, 7, 8, 9, 10, 11, 12, 13, 14, 15, 16, 17, 18, 19] σ σ := HK.start h0
  refine m_aload_n F rfl e_X7_readNameOnce_0 ?_
  refine t_get F e_X7_readNameOnce_1 fl_X7_188 (fun _ => o3) h1 hk rfl (fun v hv f3760 => ?_)
  obtain ⟨x3761, rfl⟩ := hv
  refine m_istore_n F (lv' := [(2, .int x3761), (0, .ref a), (1, .int x901)]) e_X7_readNameOnce_4 (by decide) rfl ?_
  refine m_aload_n F rfl e_X7_readNameOnce_5 ?_
  refine t_get F e_X7_readNameOnce_6 fl_X7_23 (fun _ => o3) h1 hk rfl (fun v hv f3762 => ?_)
  obtain ⟨r3763, k3764, rfl⟩ := hv
  refine m_aload_n F rfl e_X7_readNameOnce_9 ?_
  refine t_callV F e_X7_readNameOnce_10 (s_X7_readName (x_l X) V b M Z T _ _ a  h1.1 hk  (by omega)) cb_X7_readName ml_X7_191 im_X7_readName se_X7_readName (fun _ => o3) h1 hk rfl rfl (rest := [.ref r3763]) rfl (Nat.le_of_ble_eq_true rfl) ⟨Nat.le_of_ble_eq_true rfl, Nat.le_of_ble_eq_true rfl⟩ ⟨Nat.le_of_ble_eq_true rfl, Nat.le_of_ble_eq_true rfl⟩ (fun r σ3765 hp => ?_)
  obtain ⟨h3767, x3768, rfl⟩ := hp
  have h3766 := HK.trans h1 h3767 (by decide)
  refine t_callV F e_X7_readNameOnce_13 (s_X2_leaseNamed (x_l X) V b M Z T _ _ r3763 x3768 h3766.1 k3764  (by omega)) cb_X2_leaseNamed ml_X7_194 im_X2_leaseNamed se_X2_leaseNamed (fun _ => o7) h3766 k3764 rfl rfl (rest := []) rfl (Nat.le_of_ble_eq_true rfl) ⟨Nat.le_of_ble_eq_true rfl, Nat.le_of_ble_eq_true rfl⟩ ⟨Nat.le_of_ble_eq_true rfl, Nat.le_of_ble_eq_true rfl⟩ (fun r σ3769 hp => ?_)
  obtain ⟨h3771, c3772⟩ := hp
  have h3770 := HK.trans h3766 h3771 (by decide)
  rcases c3772 with ⟨n3773, hn3773, rfl⟩ | rfl
  · refine m_istore_n F (lv' := [(3, .int (nI n3773)), (2, .int x3761), (0, .ref a), (1, .int x901)]) e_X7_readNameOnce_16 (by decide) rfl ?_
    refine m_iload_n F rfl e_X7_readNameOnce_17 ?_
    refine m_if_lt F e_X7_readNameOnce_18 (fun q18 => ?_) (fun q18 => ?_)
    · have c18 : n3773 < 0 := (nI_ltI (a := n3773) (b := 0) (by omega) (by omega)).mp q18
      refine m_aload_n F rfl e_X7_readNameOnce_26 ?_
      refine m_iconst F (v := 4) (by decide) e_X7_readNameOnce_27 ?_
      refine m_iload_n F rfl e_X7_readNameOnce_28 ?_
      refine t_callV F e_X7_readNameOnce_29 (s_X7_failAt (x_l X) V b M Z T _ _ a 4 x3761 h3770.1 hk (by first | omega | assumption | decide) (by omega)) cb_X7_failAt ml_X7_197 im_X7_failAt se_X7_failAt (fun _ => o3) h3770 hk rfl rfl (rest := []) rfl (Nat.le_of_ble_eq_true rfl) ⟨Nat.le_of_ble_eq_true rfl, Nat.le_of_ble_eq_true rfl⟩ ⟨Nat.le_of_ble_eq_true rfl, Nat.le_of_ble_eq_true rfl⟩ (fun r σ3774 hp => ?_)
      obtain ⟨h3776, rfl⟩ := hp
      have h3775 := HK.trans h3770 h3776 (by decide)
      refine m_iconst F (v := (-1)) (by decide) e_X7_readNameOnce_32 ?_
      exact m_iret F hQ e_X7_readNameOnce_33 (⟨(h3775.mono (M' := M) (Z' := Z) (by omega) (by intro e; first | rfl | assumption | omega)), Or.inr ⟨h3775.1, rfl⟩⟩)
    · have c18 : n3773 ≥ 0 := by have hh := mt (nI_ltI (a := n3773) (b := 0) (by omega) (by omega)).mpr q18; omega
      refine m_iload_n F rfl e_X7_readNameOnce_21 ?_
      refine m_iconst F (v := 4) (by decide) e_X7_readNameOnce_22 ?_
      refine m_icmp_lt F e_X7_readNameOnce_23 (fun q23 => ?_) (fun q23 => ?_)
      · have c23 : n3773 < 4 := (nI_ltI (a := n3773) (b := 4) (by omega) (by omega)).mp q23
        refine m_aload_n F rfl e_X7_readNameOnce_34 ?_
        refine t_get F e_X7_readNameOnce_35 fl_X7_9 (fun _ => o3) h3770 hk rfl (fun v hv f3777 => ?_)
        obtain ⟨r3778, k3779, rfl⟩ := hv
        refine m_iload_n F rfl e_X7_readNameOnce_38 ?_
        refine t_iald F (len := 4) (j := n3773) e_X7_readNameOnce_39 (fun _ => o4) h3770 k3779 (nI_clamp (by omega)) (vp_in_nI (by omega) (by decide)) (fun x3780 => ?_)
        refine m_iload_n F rfl e_X7_readNameOnce_40 ?_
        refine m_iand F e_X7_readNameOnce_41 ?_
        refine Wm.top (fun x3781 _ => ?_)
        refine m_if_eq F e_X7_readNameOnce_42 (fun q42 => ?_) (fun q42 => ?_)
        · refine m_aload_n F rfl e_X7_readNameOnce_51 ?_
          refine t_getC F e_X7_readNameOnce_52 fl_X7_9 (fun _ => o3) h3770 hk (f3777) ?_
          refine m_iload_n F rfl e_X7_readNameOnce_55 ?_
          refine m_dup2_11 F rfl rfl e_X7_readNameOnce_56 ?_
          refine t_iald F (len := 4) (j := n3773) e_X7_readNameOnce_57 (fun _ => o4) h3770 k3779 (nI_clamp (by omega)) (vp_in_nI (by omega) (by decide)) (fun x3782 => ?_)
          refine m_iload_n F rfl e_X7_readNameOnce_58 ?_
          refine m_ior F e_X7_readNameOnce_59 ?_
          refine Wm.top (fun x3783 _ => ?_)
          refine t_iast F (len := 4) (j := n3773) e_X7_readNameOnce_60 (fun _ => o4) h3770 k3779 (nI_clamp (by omega)) (vp_in_nI (by omega) (by decide)) (by decide) (fun σ3784 h3785 g3786 => ?_)
          refine m_iload_n F rfl e_X7_readNameOnce_61 ?_
          exact m_iret F hQ e_X7_readNameOnce_62 (⟨h3785, Or.inl ⟨n3773, by omega, rfl⟩⟩)
        · refine m_aload_n F rfl e_X7_readNameOnce_45 ?_
          refine m_iconst F (v := 3) (by decide) e_X7_readNameOnce_46 ?_
          refine m_iload_n F rfl e_X7_readNameOnce_47 ?_
          refine t_callV F e_X7_readNameOnce_48 (s_X7_failAt (x_l X) V b M Z T _ _ a 3 x3761 h3770.1 hk (by first | omega | assumption | decide) (by omega)) cb_X7_failAt ml_X7_197 im_X7_failAt se_X7_failAt (fun _ => o3) h3770 hk rfl rfl (rest := []) rfl (Nat.le_of_ble_eq_true rfl) ⟨Nat.le_of_ble_eq_true rfl, Nat.le_of_ble_eq_true rfl⟩ ⟨Nat.le_of_ble_eq_true rfl, Nat.le_of_ble_eq_true rfl⟩ (fun r σ3787 hp => ?_)
          obtain ⟨h3789, rfl⟩ := hp
          have h3788 := HK.trans h3770 h3789 (by decide)
          refine m_aload_n F rfl e_X7_readNameOnce_51 ?_
          refine t_get F e_X7_readNameOnce_52 fl_X7_9 (fun _ => o3) h3788 hk rfl (fun v hv f3790 => ?_)
          obtain ⟨r3791, k3792, rfl⟩ := hv
          refine m_iload_n F rfl e_X7_readNameOnce_55 ?_
          refine m_dup2_11 F rfl rfl e_X7_readNameOnce_56 ?_
          refine t_iald F (len := 4) (j := n3773) e_X7_readNameOnce_57 (fun _ => o4) h3788 k3792 (nI_clamp (by omega)) (vp_in_nI (by omega) (by decide)) (fun x3793 => ?_)
          refine m_iload_n F rfl e_X7_readNameOnce_58 ?_
          refine m_ior F e_X7_readNameOnce_59 ?_
          refine Wm.top (fun x3794 _ => ?_)
          refine t_iast F (len := 4) (j := n3773) e_X7_readNameOnce_60 (fun _ => o4) h3788 k3792 (nI_clamp (by omega)) (vp_in_nI (by omega) (by decide)) (by decide) (fun σ3795 h3796 g3797 => ?_)
          refine m_iload_n F rfl e_X7_readNameOnce_61 ?_
          exact m_iret F hQ e_X7_readNameOnce_62 (⟨(h3796.mono (M' := M) (Z' := Z) (by omega) (by intro e; first | rfl | assumption | omega)), Or.inl ⟨n3773, by omega, rfl⟩⟩)
      · have c23 : n3773 ≥ 4 := by have hh := mt (nI_ltI (a := n3773) (b := 4) (by omega) (by omega)).mpr q23; omega
        refine m_aload_n F rfl e_X7_readNameOnce_26 ?_
        refine m_iconst F (v := 4) (by decide) e_X7_readNameOnce_27 ?_
        refine m_iload_n F rfl e_X7_readNameOnce_28 ?_
        refine t_callV F e_X7_readNameOnce_29 (s_X7_failAt (x_l X) V b M Z T _ _ a 4 x3761 h3770.1 hk (by first | omega | assumption | decide) (by omega)) cb_X7_failAt ml_X7_197 im_X7_failAt se_X7_failAt (fun _ => o3) h3770 hk rfl rfl (rest := []) rfl (Nat.le_of_ble_eq_true rfl) ⟨Nat.le_of_ble_eq_true rfl, Nat.le_of_ble_eq_true rfl⟩ ⟨Nat.le_of_ble_eq_true rfl, Nat.le_of_ble_eq_true rfl⟩ (fun r σ3798 hp => ?_)
        obtain ⟨h3800, rfl⟩ := hp
        have h3799 := HK.trans h3770 h3800 (by decide)
        refine m_iconst F (v := (-1)) (by decide) e_X7_readNameOnce_32 ?_
        exact m_iret F hQ e_X7_readNameOnce_33 (⟨(h3799.mono (M' := M) (Z' := Z) (by omega) (by intro e; first | rfl | assumption | omega)), Or.inr ⟨h3799.1, rfl⟩⟩)
  · refine m_istore_n F (lv' := [(3, .int (-1)), (2, .int x3761), (0, .ref a), (1, .int x901)]) e_X7_readNameOnce_16 (by decide) rfl ?_
    refine m_iload_n F rfl e_X7_readNameOnce_17 ?_
    refine m_if_lt F e_X7_readNameOnce_18 (fun _ => ?_) (fun q => absurd (by decide) q)
    refine m_aload_n F rfl e_X7_readNameOnce_26 ?_
    refine m_iconst F (v := 4) (by decide) e_X7_readNameOnce_27 ?_
    refine m_iload_n F rfl e_X7_readNameOnce_28 ?_
    refine t_callV F e_X7_readNameOnce_29 (s_X7_failAt (x_l X) V b M Z T _ _ a 4 x3761 h3770.1 hk (by first | omega | assumption | decide) (by omega)) cb_X7_failAt ml_X7_197 im_X7_failAt se_X7_failAt (fun _ => o3) h3770 hk rfl rfl (rest := []) rfl (Nat.le_of_ble_eq_true rfl) ⟨Nat.le_of_ble_eq_true rfl, Nat.le_of_ble_eq_true rfl⟩ ⟨Nat.le_of_ble_eq_true rfl, Nat.le_of_ble_eq_true rfl⟩ (fun r σ3801 hp => ?_)
    obtain ⟨h3803, rfl⟩ := hp
    have h3802 := HK.trans h3770 h3803 (by decide)
    refine m_iconst F (v := (-1)) (by decide) e_X7_readNameOnce_32 ?_
    exact m_iret F hQ e_X7_readNameOnce_33 (⟨(h3802.mono (M' := M) (Z' := Z) (by omega) (by intro e; first | rfl | assumption | omega)), Or.inr ⟨h3802.1, rfl⟩⟩)
set_option maxRecDepth 20000 in
theorem s_X7_readLease (l : Launch) (V : VX) (b M Z T N : Nat) (σ : Mem) (a : Nat) (h0 : HT V (b, M, Z, T) σ) (hk : kA b a = 3) (hM : M + 0 ≤ 1000000000) : Ct l V yX7_readLease cX7_readLease 5 none 6 0 0 N σ [.ref a] (fun r τ => HK V (b, M, Z, T) [0, 1, 2, 4, 5, 8, 9, 10, 11, 12, 13, 14, 16, 19] σ τ ∧ r = none) := by
  refine Ct.of (by decide) (Nat.le_of_ble_eq_true rfl) [(0, .ref a)] rfl (fun X hX F hQ => ?_)
  have h1 : HK V (b, M, Z, T) [0, 1, 2, 4, 5, 8, 9, 10, 11, 12, 13, 14, 16, 19] σ σ := HK.start h0
  refine m_aload_n F rfl e_X7_readLease_0 ?_
  refine m_aload_n F rfl e_X7_readLease_1 ?_
  refine t_get F e_X7_readLease_2 fl_X7_23 (fun _ => o3) h1 hk rfl (fun v hv f3804 => ?_)
  obtain ⟨r3805, k3806, rfl⟩ := hv
  refine t_get F e_X7_readLease_5 fl_X7_119 (fun _ => o7) h1 k3806 rfl (fun v hv f3807 => ?_)
  obtain ⟨n3808, hn3808, rfl⟩ := hv
  replace hn3808 : n3808 ≤ 4 := hn3808
  refine m_iconst F (v := 4) (by decide) e_X7_readLease_8 ?_
  refine m_icmp_lt F e_X7_readLease_9 (fun q9 => ?_) (fun q9 => ?_)
  · have c9 : n3808 < 4 := (nI_ltI (a := n3808) (b := 4) (by omega) (by omega)).mp q9
    refine m_iconst F (v := 0) (by decide) e_X7_readLease_16 ?_
    refine t_callV F e_X7_readLease_17 (s_X7_startLine (x_l X) V b M Z T _ _ a 0 h1.1 hk  (by omega)) cb_X7_startLine ml_X7_124 im_X7_startLine se_X7_startLine (fun _ => o3) h1 hk rfl rfl (rest := []) rfl (Nat.le_of_ble_eq_true rfl) ⟨Nat.le_of_ble_eq_true rfl, Nat.le_of_ble_eq_true rfl⟩ ⟨Nat.le_of_ble_eq_true rfl, Nat.le_of_ble_eq_true rfl⟩ (fun r σ3809 hp => ?_)
    obtain ⟨h3811, rfl⟩ := hp
    have h3810 := HK.trans h1 h3811 (by decide)
    refine m_aload_n F rfl e_X7_readLease_20 ?_
    refine t_callV F e_X7_readLease_21 (s_X7_readNewName (x_l X) V b M Z T _ _ a  h3810.1 hk  (by omega)) cb_X7_readNewName ml_X7_127 im_X7_readNewName se_X7_readNewName (fun _ => o3) h3810 hk rfl rfl (rest := []) rfl (Nat.le_of_ble_eq_true rfl) ⟨Nat.le_of_ble_eq_true rfl, Nat.le_of_ble_eq_true rfl⟩ ⟨Nat.le_of_ble_eq_true rfl, Nat.le_of_ble_eq_true rfl⟩ (fun r σ3812 hp => ?_)
    obtain ⟨h3814, x3815, rfl⟩ := hp
    have h3813 := HK.trans h3810 h3814 (by decide)
    refine m_istore_n F (lv' := [(1, .int x3815), (0, .ref a)]) e_X7_readLease_24 (by decide) rfl ?_
    refine m_aload_n F rfl e_X7_readLease_25 ?_
    refine m_iconst F (v := 0) (by decide) e_X7_readLease_26 ?_
    refine m_bipush F (v := 20) (by decide) e_X7_readLease_27 ?_
    refine t_callV F e_X7_readLease_29 (s_X7_readNumber (x_l X) V b M Z T _ _ a 0 20 h3813.1 hk (by omega) (by omega) (by omega)) cb_X7_readNumber ml_X7_130 im_X7_readNumber se_X7_readNumber (fun _ => o3) h3813 hk rfl rfl (rest := []) rfl (Nat.le_of_ble_eq_true rfl) ⟨Nat.le_of_ble_eq_true rfl, Nat.le_of_ble_eq_true rfl⟩ ⟨Nat.le_of_ble_eq_true rfl, Nat.le_of_ble_eq_true rfl⟩ (fun r σ3816 hp => ?_)
    obtain ⟨h3818, n3819, hn3819, rfl⟩ := hp
    have h3817 := HK.trans h3813 h3818 (by decide)
    refine m_istore_n F (lv' := [(2, .int (nI n3819)), (1, .int x3815), (0, .ref a)]) e_X7_readLease_32 (by decide) rfl ?_
    refine m_aload_n F rfl e_X7_readLease_33 ?_
    refine m_iconst F (v := 1) (by decide) e_X7_readLease_34 ?_
    refine m_bipush F (v := 48) (by decide) e_X7_readLease_35 ?_
    refine t_callV F e_X7_readLease_37 (s_X7_readNumber (x_l X) V b M Z T _ _ a 1 48 h3817.1 hk (by omega) (by omega) (by omega)) cb_X7_readNumber ml_X7_130 im_X7_readNumber se_X7_readNumber (fun _ => o3) h3817 hk rfl rfl (rest := []) rfl (Nat.le_of_ble_eq_true rfl) ⟨Nat.le_of_ble_eq_true rfl, Nat.le_of_ble_eq_true rfl⟩ ⟨Nat.le_of_ble_eq_true rfl, Nat.le_of_ble_eq_true rfl⟩ (fun r σ3820 hp => ?_)
    obtain ⟨h3822, n3823, hn3823, rfl⟩ := hp
    have h3821 := HK.trans h3817 h3822 (by decide)
    refine m_istore_n F (lv' := [(3, .int (nI n3823)), (2, .int (nI n3819)), (1, .int x3815), (0, .ref a)]) e_X7_readLease_40 (by decide) rfl ?_
    refine m_aload_n F rfl e_X7_readLease_41 ?_
    refine m_iconst F (v := 0) (by decide) e_X7_readLease_42 ?_
    refine m_ldc F kc_X7_133 e_X7_readLease_43 ?_
    refine t_callV F e_X7_readLease_45 (s_X7_readNumber (x_l X) V b M Z T _ _ a 0 200000 h3821.1 hk (by omega) (by omega) (by omega)) cb_X7_readNumber ml_X7_130 im_X7_readNumber se_X7_readNumber (fun _ => o3) h3821 hk rfl rfl (rest := []) rfl (Nat.le_of_ble_eq_true rfl) ⟨Nat.le_of_ble_eq_true rfl, Nat.le_of_ble_eq_true rfl⟩ ⟨Nat.le_of_ble_eq_true rfl, Nat.le_of_ble_eq_true rfl⟩ (fun r σ3824 hp => ?_)
    obtain ⟨h3826, n3827, hn3827, rfl⟩ := hp
    have h3825 := HK.trans h3821 h3826 (by decide)
    refine m_istore F (lv' := [(4, .int (nI n3827)), (3, .int (nI n3823)), (2, .int (nI n3819)), (1, .int x3815), (0, .ref a)]) e_X7_readLease_48 (by decide) rfl ?_
    refine m_aload_n F rfl e_X7_readLease_50 ?_
    refine t_get F e_X7_readLease_51 fl_X7_55 (fun _ => o3) h3825 hk rfl (fun v hv f3828 => ?_)
    obtain ⟨x3829, hx3829, rfl⟩ := hv
    replace hx3829 : Z = 0 → x3829 ≠ 0 := hx3829
    refine m_if_ne F e_X7_readLease_54 (fun q54 => ?_) (fun q54 => ?_)
    · exact m_vret F hQ e_X7_readLease_69 (⟨h3825, rfl⟩)
    · refine m_aload_n F rfl e_X7_readLease_57 ?_
      refine t_get F e_X7_readLease_58 fl_X7_23 (fun _ => o3) h3825 hk rfl (fun v hv f3830 => ?_)
      obtain ⟨r3831, k3832, rfl⟩ := hv
      refine m_iload_n F rfl e_X7_readLease_61 ?_
      refine m_iload_n F rfl e_X7_readLease_62 ?_
      refine m_iload_n F rfl e_X7_readLease_63 ?_
      refine m_iload F rfl e_X7_readLease_64 ?_
      refine t_callV F e_X7_readLease_66 (s_X2_addLease (x_l X) V b M Z T _ _ r3831 x3815 (nI n3819) (nI n3823) (nI n3827) h3825.1 k3832  (by omega)) cb_X2_addLease ml_X7_134 im_X2_addLease se_X2_addLease (fun _ => o7) h3825 k3832 rfl rfl (rest := []) rfl (Nat.le_of_ble_eq_true rfl) ⟨Nat.le_of_ble_eq_true rfl, Nat.le_of_ble_eq_true rfl⟩ ⟨Nat.le_of_ble_eq_true rfl, Nat.le_of_ble_eq_true rfl⟩ (fun r σ3833 hp => ?_)
      obtain ⟨h3835, rfl⟩ := hp
      have h3834 := HK.trans h3825 h3835 (by decide)
      exact m_vret F hQ e_X7_readLease_69 (⟨h3834, rfl⟩)
  · have c9 : n3808 ≥ 4 := by have hh := mt (nI_ltI (a := n3808) (b := 4) (by omega) (by omega)).mpr q9; omega
    refine m_iconst F (v := 2) (by decide) e_X7_readLease_12 ?_
    refine m_goto F e_X7_readLease_13 ?_
    refine t_callV F e_X7_readLease_17 (s_X7_startLine (x_l X) V b M Z T _ _ a 2 h1.1 hk  (by omega)) cb_X7_startLine ml_X7_124 im_X7_startLine se_X7_startLine (fun _ => o3) h1 hk rfl rfl (rest := []) rfl (Nat.le_of_ble_eq_true rfl) ⟨Nat.le_of_ble_eq_true rfl, Nat.le_of_ble_eq_true rfl⟩ ⟨Nat.le_of_ble_eq_true rfl, Nat.le_of_ble_eq_true rfl⟩ (fun r σ3836 hp => ?_)
    obtain ⟨h3838, rfl⟩ := hp
    have h3837 := HK.trans h1 h3838 (by decide)
    refine m_aload_n F rfl e_X7_readLease_20 ?_
    refine t_callV F e_X7_readLease_21 (s_X7_readNewName (x_l X) V b M Z T _ _ a  h3837.1 hk  (by omega)) cb_X7_readNewName ml_X7_127 im_X7_readNewName se_X7_readNewName (fun _ => o3) h3837 hk rfl rfl (rest := []) rfl (Nat.le_of_ble_eq_true rfl) ⟨Nat.le_of_ble_eq_true rfl, Nat.le_of_ble_eq_true rfl⟩ ⟨Nat.le_of_ble_eq_true rfl, Nat.le_of_ble_eq_true rfl⟩ (fun r σ3839 hp => ?_)
    obtain ⟨h3841, x3842, rfl⟩ := hp
    have h3840 := HK.trans h3837 h3841 (by decide)
    refine m_istore_n F (lv' := [(1, .int x3842), (0, .ref a)]) e_X7_readLease_24 (by decide) rfl ?_
    refine m_aload_n F rfl e_X7_readLease_25 ?_
    refine m_iconst F (v := 0) (by decide) e_X7_readLease_26 ?_
    refine m_bipush F (v := 20) (by decide) e_X7_readLease_27 ?_
    refine t_callV F e_X7_readLease_29 (s_X7_readNumber (x_l X) V b M Z T _ _ a 0 20 h3840.1 hk (by omega) (by omega) (by omega)) cb_X7_readNumber ml_X7_130 im_X7_readNumber se_X7_readNumber (fun _ => o3) h3840 hk rfl rfl (rest := []) rfl (Nat.le_of_ble_eq_true rfl) ⟨Nat.le_of_ble_eq_true rfl, Nat.le_of_ble_eq_true rfl⟩ ⟨Nat.le_of_ble_eq_true rfl, Nat.le_of_ble_eq_true rfl⟩ (fun r σ3843 hp => ?_)
    obtain ⟨h3845, n3846, hn3846, rfl⟩ := hp
    have h3844 := HK.trans h3840 h3845 (by decide)
    refine m_istore_n F (lv' := [(2, .int (nI n3846)), (1, .int x3842), (0, .ref a)]) e_X7_readLease_32 (by decide) rfl ?_
    refine m_aload_n F rfl e_X7_readLease_33 ?_
    refine m_iconst F (v := 1) (by decide) e_X7_readLease_34 ?_
    refine m_bipush F (v := 48) (by decide) e_X7_readLease_35 ?_
    refine t_callV F e_X7_readLease_37 (s_X7_readNumber (x_l X) V b M Z T _ _ a 1 48 h3844.1 hk (by omega) (by omega) (by omega)) cb_X7_readNumber ml_X7_130 im_X7_readNumber se_X7_readNumber (fun _ => o3) h3844 hk rfl rfl (rest := []) rfl (Nat.le_of_ble_eq_true rfl) ⟨Nat.le_of_ble_eq_true rfl, Nat.le_of_ble_eq_true rfl⟩ ⟨Nat.le_of_ble_eq_true rfl, Nat.le_of_ble_eq_true rfl⟩ (fun r σ3847 hp => ?_)
    obtain ⟨h3849, n3850, hn3850, rfl⟩ := hp
    have h3848 := HK.trans h3844 h3849 (by decide)
    refine m_istore_n F (lv' := [(3, .int (nI n3850)), (2, .int (nI n3846)), (1, .int x3842), (0, .ref a)]) e_X7_readLease_40 (by decide) rfl ?_
    refine m_aload_n F rfl e_X7_readLease_41 ?_
    refine m_iconst F (v := 0) (by decide) e_X7_readLease_42 ?_
    refine m_ldc F kc_X7_133 e_X7_readLease_43 ?_
    refine t_callV F e_X7_readLease_45 (s_X7_readNumber (x_l X) V b M Z T _ _ a 0 200000 h3848.1 hk (by omega) (by omega) (by omega)) cb_X7_readNumber ml_X7_130 im_X7_readNumber se_X7_readNumber (fun _ => o3) h3848 hk rfl rfl (rest := []) rfl (Nat.le_of_ble_eq_true rfl) ⟨Nat.le_of_ble_eq_true rfl, Nat.le_of_ble_eq_true rfl⟩ ⟨Nat.le_of_ble_eq_true rfl, Nat.le_of_ble_eq_true rfl⟩ (fun r σ3851 hp => ?_)
    obtain ⟨h3853, n3854, hn3854, rfl⟩ := hp
    have h3852 := HK.trans h3848 h3853 (by decide)
    refine m_istore F (lv' := [(4, .int (nI n3854)), (3, .int (nI n3850)), (2, .int (nI n3846)), (1, .int x3842), (0, .ref a)]) e_X7_readLease_48 (by decide) rfl ?_
    refine m_aload_n F rfl e_X7_readLease_50 ?_
    refine t_get F e_X7_readLease_51 fl_X7_55 (fun _ => o3) h3852 hk rfl (fun v hv f3855 => ?_)
    obtain ⟨x3856, hx3856, rfl⟩ := hv
    replace hx3856 : Z = 0 → x3856 ≠ 0 := hx3856
    refine m_if_ne F e_X7_readLease_54 (fun q54 => ?_) (fun q54 => ?_)
    · exact m_vret F hQ e_X7_readLease_69 (⟨h3852, rfl⟩)
    · refine m_aload_n F rfl e_X7_readLease_57 ?_
      refine t_get F e_X7_readLease_58 fl_X7_23 (fun _ => o3) h3852 hk rfl (fun v hv f3857 => ?_)
      obtain ⟨r3858, k3859, rfl⟩ := hv
      refine m_iload_n F rfl e_X7_readLease_61 ?_
      refine m_iload_n F rfl e_X7_readLease_62 ?_
      refine m_iload_n F rfl e_X7_readLease_63 ?_
      refine m_iload F rfl e_X7_readLease_64 ?_
      refine t_callV F e_X7_readLease_66 (s_X2_addLease (x_l X) V b M Z T _ _ r3858 x3842 (nI n3846) (nI n3850) (nI n3854) h3852.1 k3859  (by omega)) cb_X2_addLease ml_X7_134 im_X2_addLease se_X2_addLease (fun _ => o7) h3852 k3859 rfl rfl (rest := []) rfl (Nat.le_of_ble_eq_true rfl) ⟨Nat.le_of_ble_eq_true rfl, Nat.le_of_ble_eq_true rfl⟩ ⟨Nat.le_of_ble_eq_true rfl, Nat.le_of_ble_eq_true rfl⟩ (fun r σ3860 hp => ?_)
      obtain ⟨h3862, rfl⟩ := hp
      have h3861 := HK.trans h3852 h3862 (by decide)
      exact m_vret F hQ e_X7_readLease_69 (⟨h3861, rfl⟩)
set_option maxRecDepth 20000 in
theorem s_X7_readIndex (l : Launch) (V : VX) (b M Z T N : Nat) (σ : Mem) (a : Nat) (h0 : HT V (b, M, Z, T) σ) (hk : kA b a = 3) (hM : M + 0 ≤ 1000000000) : Ct l V yX7_readIndex cX7_readIndex 3 none 4 0 0 N σ [.ref a] (fun r τ => HK V (b, M, Z, T) [0, 1, 2, 4, 5, 6, 8, 9, 12, 13, 14, 15, 16, 17, 18, 19] σ τ ∧ r = none) := by
  refine Ct.of (by decide) (Nat.le_of_ble_eq_true rfl) [(0, .ref a)] rfl (fun X hX F hQ => ?_)
  have h1 : HK V (b, M, Z, T) [0, 1, 2, 4, 5, 6, 8, 9, 12, 13, 14, 15, 16, 17, 18, 19] σ σ := HK.start h0
  refine m_aload_n F rfl e_X7_readIndex_0 ?_
  refine m_aload_n F rfl e_X7_readIndex_1 ?_
  refine t_get F e_X7_readIndex_2 fl_X7_23 (fun _ => o3) h1 hk rfl (fun v hv f3863 => ?_)
  obtain ⟨r3864, k3865, rfl⟩ := hv
  refine t_get F e_X7_readIndex_5 fl_X7_169 (fun _ => o7) h1 k3865 rfl (fun v hv f3866 => ?_)
  obtain ⟨n3867, hn3867, rfl⟩ := hv
  replace hn3867 : n3867 ≤ 8 := hn3867
  refine m_bipush F (v := 8) (by decide) e_X7_readIndex_8 ?_
  refine m_icmp_lt F e_X7_readIndex_10 (fun q10 => ?_) (fun q10 => ?_)
  · have c10 : n3867 < 8 := (nI_ltI (a := n3867) (b := 8) (by omega) (by omega)).mp q10
    refine m_iconst F (v := 0) (by decide) e_X7_readIndex_17 ?_
    refine t_callV F e_X7_readIndex_18 (s_X7_startLine (x_l X) V b M Z T _ _ a 0 h1.1 hk  (by omega)) cb_X7_startLine ml_X7_124 im_X7_startLine se_X7_startLine (fun _ => o3) h1 hk rfl rfl (rest := []) rfl (Nat.le_of_ble_eq_true rfl) ⟨Nat.le_of_ble_eq_true rfl, Nat.le_of_ble_eq_true rfl⟩ ⟨Nat.le_of_ble_eq_true rfl, Nat.le_of_ble_eq_true rfl⟩ (fun r σ3868 hp => ?_)
    obtain ⟨h3870, rfl⟩ := hp
    have h3869 := HK.trans h1 h3870 (by decide)
    refine m_aload_n F rfl e_X7_readIndex_21 ?_
    refine m_aload_n F rfl e_X7_readIndex_22 ?_
    refine t_get F e_X7_readIndex_23 fl_X7_23 (fun _ => o3) h3869 hk rfl (fun v hv f3871 => ?_)
    obtain ⟨r3872, k3873, rfl⟩ := hv
    refine t_callV F e_X7_readIndex_26 (s_X2_lastTold (x_l X) V b M Z T _ _ r3872  h3869.1 k3873  (by omega)) cb_X2_lastTold ml_X7_172 im_X2_lastTold se_X2_lastTold (fun _ => o7) h3869 k3873 rfl rfl (rest := [.ref a]) rfl (Nat.le_of_ble_eq_true rfl) ⟨Nat.le_of_ble_eq_true rfl, Nat.le_of_ble_eq_true rfl⟩ ⟨Nat.le_of_ble_eq_true rfl, Nat.le_of_ble_eq_true rfl⟩ (fun r σ3874 hp => ?_)
    obtain ⟨h3876, x3877, rfl⟩ := hp
    have h3875 := HK.trans h3869 h3876 (by decide)
    refine m_iconst F (v := 1) (by decide) e_X7_readIndex_29 ?_
    refine m_iadd F e_X7_readIndex_30 ?_
    refine Wm.top (fun x3878 _ => ?_)
    refine m_bipush F (v := 99) (by decide) e_X7_readIndex_31 ?_
    refine t_callV F e_X7_readIndex_33 (s_X7_readNumberW (x_l X) V b M Z T _ _ a x3878 99 h3875.1 hk (by omega) (by omega)) cb_X7_readNumber ml_X7_130 im_X7_readNumber se_X7_readNumber (fun _ => o3) h3875 hk rfl rfl (rest := []) rfl (Nat.le_of_ble_eq_true rfl) ⟨Nat.le_of_ble_eq_true rfl, Nat.le_of_ble_eq_true rfl⟩ ⟨Nat.le_of_ble_eq_true rfl, Nat.le_of_ble_eq_true rfl⟩ (fun r σ3879 hp => ?_)
    obtain ⟨h3881, x3882, rfl⟩ := hp
    have h3880 := HK.trans h3875 h3881 (by decide)
    refine m_istore_n F (lv' := [(1, .int x3882), (0, .ref a)]) e_X7_readIndex_36 (by decide) rfl ?_
    refine m_aload_n F rfl e_X7_readIndex_37 ?_
    refine m_sipush F (v := 500) (by decide) e_X7_readIndex_38 ?_
    refine m_sipush F (v := 2000) (by decide) e_X7_readIndex_41 ?_
    refine t_callV F e_X7_readIndex_44 (s_X7_readNumber (x_l X) V b M Z T _ _ a 500 2000 h3880.1 hk (by omega) (by omega) (by omega)) cb_X7_readNumber ml_X7_130 im_X7_readNumber se_X7_readNumber (fun _ => o3) h3880 hk rfl rfl (rest := []) rfl (Nat.le_of_ble_eq_true rfl) ⟨Nat.le_of_ble_eq_true rfl, Nat.le_of_ble_eq_true rfl⟩ ⟨Nat.le_of_ble_eq_true rfl, Nat.le_of_ble_eq_true rfl⟩ (fun r σ3883 hp => ?_)
    obtain ⟨h3885, n3886, hn3886, rfl⟩ := hp
    have h3884 := HK.trans h3880 h3885 (by decide)
    refine m_istore_n F (lv' := [(2, .int (nI n3886)), (1, .int x3882), (0, .ref a)]) e_X7_readIndex_47 (by decide) rfl ?_
    refine m_aload_n F rfl e_X7_readIndex_48 ?_
    refine t_get F e_X7_readIndex_49 fl_X7_55 (fun _ => o3) h3884 hk rfl (fun v hv f3887 => ?_)
    obtain ⟨x3888, hx3888, rfl⟩ := hv
    replace hx3888 : Z = 0 → x3888 ≠ 0 := hx3888
    refine m_if_ne F e_X7_readIndex_52 (fun q52 => ?_) (fun q52 => ?_)
    · exact m_vret F hQ e_X7_readIndex_64 (⟨h3884, rfl⟩)
    · refine m_aload_n F rfl e_X7_readIndex_55 ?_
      refine t_get F e_X7_readIndex_56 fl_X7_23 (fun _ => o3) h3884 hk rfl (fun v hv f3889 => ?_)
      obtain ⟨r3890, k3891, rfl⟩ := hv
      refine m_iload_n F rfl e_X7_readIndex_59 ?_
      refine m_iload_n F rfl e_X7_readIndex_60 ?_
      refine t_callV F e_X7_readIndex_61 (s_X2_addIndex (x_l X) V b M Z T _ _ r3890 x3882 (nI n3886) h3884.1 k3891  (by omega)) cb_X2_addIndex ml_X7_175 im_X2_addIndex se_X2_addIndex (fun _ => o7) h3884 k3891 rfl rfl (rest := []) rfl (Nat.le_of_ble_eq_true rfl) ⟨Nat.le_of_ble_eq_true rfl, Nat.le_of_ble_eq_true rfl⟩ ⟨Nat.le_of_ble_eq_true rfl, Nat.le_of_ble_eq_true rfl⟩ (fun r σ3892 hp => ?_)
      obtain ⟨h3894, rfl⟩ := hp
      have h3893 := HK.trans h3884 h3894 (by decide)
      exact m_vret F hQ e_X7_readIndex_64 (⟨h3893, rfl⟩)
  · have c10 : n3867 ≥ 8 := by have hh := mt (nI_ltI (a := n3867) (b := 8) (by omega) (by omega)).mpr q10; omega
    refine m_iconst F (v := 2) (by decide) e_X7_readIndex_13 ?_
    refine m_goto F e_X7_readIndex_14 ?_
    refine t_callV F e_X7_readIndex_18 (s_X7_startLine (x_l X) V b M Z T _ _ a 2 h1.1 hk  (by omega)) cb_X7_startLine ml_X7_124 im_X7_startLine se_X7_startLine (fun _ => o3) h1 hk rfl rfl (rest := []) rfl (Nat.le_of_ble_eq_true rfl) ⟨Nat.le_of_ble_eq_true rfl, Nat.le_of_ble_eq_true rfl⟩ ⟨Nat.le_of_ble_eq_true rfl, Nat.le_of_ble_eq_true rfl⟩ (fun r σ3895 hp => ?_)
    obtain ⟨h3897, rfl⟩ := hp
    have h3896 := HK.trans h1 h3897 (by decide)
    refine m_aload_n F rfl e_X7_readIndex_21 ?_
    refine m_aload_n F rfl e_X7_readIndex_22 ?_
    refine t_get F e_X7_readIndex_23 fl_X7_23 (fun _ => o3) h3896 hk rfl (fun v hv f3898 => ?_)
    obtain ⟨r3899, k3900, rfl⟩ := hv
    refine t_callV F e_X7_readIndex_26 (s_X2_lastTold (x_l X) V b M Z T _ _ r3899  h3896.1 k3900  (by omega)) cb_X2_lastTold ml_X7_172 im_X2_lastTold se_X2_lastTold (fun _ => o7) h3896 k3900 rfl rfl (rest := [.ref a]) rfl (Nat.le_of_ble_eq_true rfl) ⟨Nat.le_of_ble_eq_true rfl, Nat.le_of_ble_eq_true rfl⟩ ⟨Nat.le_of_ble_eq_true rfl, Nat.le_of_ble_eq_true rfl⟩ (fun r σ3901 hp => ?_)
    obtain ⟨h3903, x3904, rfl⟩ := hp
    have h3902 := HK.trans h3896 h3903 (by decide)
    refine m_iconst F (v := 1) (by decide) e_X7_readIndex_29 ?_
    refine m_iadd F e_X7_readIndex_30 ?_
    refine Wm.top (fun x3905 _ => ?_)
    refine m_bipush F (v := 99) (by decide) e_X7_readIndex_31 ?_
    refine t_callV F e_X7_readIndex_33 (s_X7_readNumberW (x_l X) V b M Z T _ _ a x3905 99 h3902.1 hk (by omega) (by omega)) cb_X7_readNumber ml_X7_130 im_X7_readNumber se_X7_readNumber (fun _ => o3) h3902 hk rfl rfl (rest := []) rfl (Nat.le_of_ble_eq_true rfl) ⟨Nat.le_of_ble_eq_true rfl, Nat.le_of_ble_eq_true rfl⟩ ⟨Nat.le_of_ble_eq_true rfl, Nat.le_of_ble_eq_true rfl⟩ (fun r σ3906 hp => ?_)
    obtain ⟨h3908, x3909, rfl⟩ := hp
    have h3907 := HK.trans h3902 h3908 (by decide)
    refine m_istore_n F (lv' := [(1, .int x3909), (0, .ref a)]) e_X7_readIndex_36 (by decide) rfl ?_
    refine m_aload_n F rfl e_X7_readIndex_37 ?_
    refine m_sipush F (v := 500) (by decide) e_X7_readIndex_38 ?_
    refine m_sipush F (v := 2000) (by decide) e_X7_readIndex_41 ?_
    refine t_callV F e_X7_readIndex_44 (s_X7_readNumber (x_l X) V b M Z T _ _ a 500 2000 h3907.1 hk (by omega) (by omega) (by omega)) cb_X7_readNumber ml_X7_130 im_X7_readNumber se_X7_readNumber (fun _ => o3) h3907 hk rfl rfl (rest := []) rfl (Nat.le_of_ble_eq_true rfl) ⟨Nat.le_of_ble_eq_true rfl, Nat.le_of_ble_eq_true rfl⟩ ⟨Nat.le_of_ble_eq_true rfl, Nat.le_of_ble_eq_true rfl⟩ (fun r σ3910 hp => ?_)
    obtain ⟨h3912, n3913, hn3913, rfl⟩ := hp
    have h3911 := HK.trans h3907 h3912 (by decide)
    refine m_istore_n F (lv' := [(2, .int (nI n3913)), (1, .int x3909), (0, .ref a)]) e_X7_readIndex_47 (by decide) rfl ?_
    refine m_aload_n F rfl e_X7_readIndex_48 ?_
    refine t_get F e_X7_readIndex_49 fl_X7_55 (fun _ => o3) h3911 hk rfl (fun v hv f3914 => ?_)
    obtain ⟨x3915, hx3915, rfl⟩ := hv
    replace hx3915 : Z = 0 → x3915 ≠ 0 := hx3915
    refine m_if_ne F e_X7_readIndex_52 (fun q52 => ?_) (fun q52 => ?_)
    · exact m_vret F hQ e_X7_readIndex_64 (⟨h3911, rfl⟩)
    · refine m_aload_n F rfl e_X7_readIndex_55 ?_
      refine t_get F e_X7_readIndex_56 fl_X7_23 (fun _ => o3) h3911 hk rfl (fun v hv f3916 => ?_)
      obtain ⟨r3917, k3918, rfl⟩ := hv
      refine m_iload_n F rfl e_X7_readIndex_59 ?_
      refine m_iload_n F rfl e_X7_readIndex_60 ?_
      refine t_callV F e_X7_readIndex_61 (s_X2_addIndex (x_l X) V b M Z T _ _ r3917 x3909 (nI n3913) h3911.1 k3918  (by omega)) cb_X2_addIndex ml_X7_175 im_X2_addIndex se_X2_addIndex (fun _ => o7) h3911 k3918 rfl rfl (rest := []) rfl (Nat.le_of_ble_eq_true rfl) ⟨Nat.le_of_ble_eq_true rfl, Nat.le_of_ble_eq_true rfl⟩ ⟨Nat.le_of_ble_eq_true rfl, Nat.le_of_ble_eq_true rfl⟩ (fun r σ3919 hp => ?_)
      obtain ⟨h3921, rfl⟩ := hp
      have h3920 := HK.trans h3911 h3921 (by decide)
      exact m_vret F hQ e_X7_readIndex_64 (⟨h3920, rfl⟩)
set_option maxRecDepth 20000 in
theorem s_X7_readSeed (l : Launch) (V : VX) (b M Z T N : Nat) (σ : Mem) (a : Nat) (h0 : HT V (b, M, Z, T) σ) (hk : kA b a = 3) (hM : M + 0 ≤ 1000000000) : Ct l V yX7_readSeed cX7_readSeed 2 none 3 0 0 N σ [.ref a] (fun r τ => HK V (b, M, Z, T) [0, 1, 2, 4, 5, 6, 8, 9, 10, 11, 12, 13, 14, 15, 16, 17, 18, 19] σ τ ∧ r = none) := by
  refine Ct.of (by decide) (Nat.le_of_ble_eq_true rfl) [(0, .ref a)] rfl (fun X hX F hQ => ?_)
  have h1 : HK V (b, M, Z, T) [0, 1, 2, 4, 5, 6, 8, 9, 10, 11, 12, 13, 14, 15, 16, 17, 18, 19] σ σ := HK.start h0
  refine m_aload_n F rfl e_X7_readSeed_0 ?_
  refine m_aload_n F rfl e_X7_readSeed_1 ?_
  refine t_get F e_X7_readSeed_2 fl_X7_48 (fun _ => o3) h1 hk rfl (fun v hv f3922 => ?_)
  obtain ⟨n3923, hn3923, rfl⟩ := hv
  replace hn3923 : n3923 ≤ 1 := hn3923
  refine m_if_eq F e_X7_readSeed_5 (fun q5 => ?_) (fun q5 => ?_)
  · have c5 : n3923 = 0 := (nI_eq (a := n3923) (b := 0) (by omega) (by omega)).mp q5
    refine m_iconst F (v := 0) (by decide) e_X7_readSeed_12 ?_
    refine t_callV F e_X7_readSeed_13 (s_X7_startLine (x_l X) V b M Z T _ _ a 0 h1.1 hk  (by omega)) cb_X7_startLine ml_X7_124 im_X7_startLine se_X7_startLine (fun _ => o3) h1 hk rfl rfl (rest := []) rfl (Nat.le_of_ble_eq_true rfl) ⟨Nat.le_of_ble_eq_true rfl, Nat.le_of_ble_eq_true rfl⟩ ⟨Nat.le_of_ble_eq_true rfl, Nat.le_of_ble_eq_true rfl⟩ (fun r σ3924 hp => ?_)
    obtain ⟨h3926, rfl⟩ := hp
    have h3925 := HK.trans h1 h3926 (by decide)
    refine m_aload_n F rfl e_X7_readSeed_16 ?_
    refine m_iconst F (v := 0) (by decide) e_X7_readSeed_17 ?_
    refine m_ldc F kc_X7_141 e_X7_readSeed_18 ?_
    refine t_callV F e_X7_readSeed_20 (s_X7_readNumber (x_l X) V b M Z T _ _ a 0 99999 h3925.1 hk (by omega) (by omega) (by omega)) cb_X7_readNumber ml_X7_130 im_X7_readNumber se_X7_readNumber (fun _ => o3) h3925 hk rfl rfl (rest := []) rfl (Nat.le_of_ble_eq_true rfl) ⟨Nat.le_of_ble_eq_true rfl, Nat.le_of_ble_eq_true rfl⟩ ⟨Nat.le_of_ble_eq_true rfl, Nat.le_of_ble_eq_true rfl⟩ (fun r σ3927 hp => ?_)
    obtain ⟨h3929, n3930, hn3930, rfl⟩ := hp
    have h3928 := HK.trans h3925 h3929 (by decide)
    refine m_istore_n F (lv' := [(1, .int (nI n3930)), (0, .ref a)]) e_X7_readSeed_23 (by decide) rfl ?_
    refine m_aload_n F rfl e_X7_readSeed_24 ?_
    refine t_get F e_X7_readSeed_25 fl_X7_55 (fun _ => o3) h3928 hk rfl (fun v hv f3931 => ?_)
    obtain ⟨x3932, hx3932, rfl⟩ := hv
    replace hx3932 : Z = 0 → x3932 ≠ 0 := hx3932
    refine m_if_ne F e_X7_readSeed_28 (fun q28 => ?_) (fun q28 => ?_)
    · exact m_vret F hQ e_X7_readSeed_44 (⟨h3928, rfl⟩)
    · refine m_aload_n F rfl e_X7_readSeed_31 ?_
      refine m_iconst F (v := 1) (by decide) e_X7_readSeed_32 ?_
      refine t_put F e_X7_readSeed_33 fp_X7_48 (fun _ => o3) h3928 hk rfl ⟨1, (show 1 ≤ 1 by omega), rfl⟩ (by decide) rfl (by decide) (fun σ3933 h3934 g3935 g3936 f3937 => ?_)
      refine m_aload_n F rfl e_X7_readSeed_36 ?_
      refine t_get F e_X7_readSeed_37 fl_X7_23 (fun _ => o3) h3934 hk rfl (fun v hv f3938 => ?_)
      obtain ⟨r3939, k3940, rfl⟩ := hv
      refine m_iload_n F rfl e_X7_readSeed_40 ?_
      refine t_put F e_X7_readSeed_41 fp_X7_185 (fun _ => o7) h3934 k3940 rfl ⟨_, rfl⟩ rfl rfl (by decide) (fun σ3941 h3942 g3943 g3944 f3945 => ?_)
      exact m_vret F hQ e_X7_readSeed_44 (⟨h3942, rfl⟩)
  · have c5 : n3923 ≠ 0 := by have hh := mt (nI_eq (a := n3923) (b := 0) (by omega) (by omega)).mpr q5; omega
    refine m_iconst F (v := 3) (by decide) e_X7_readSeed_8 ?_
    refine m_goto F e_X7_readSeed_9 ?_
    refine t_callV F e_X7_readSeed_13 (s_X7_startLine (x_l X) V b M Z T _ _ a 3 h1.1 hk  (by omega)) cb_X7_startLine ml_X7_124 im_X7_startLine se_X7_startLine (fun _ => o3) h1 hk rfl rfl (rest := []) rfl (Nat.le_of_ble_eq_true rfl) ⟨Nat.le_of_ble_eq_true rfl, Nat.le_of_ble_eq_true rfl⟩ ⟨Nat.le_of_ble_eq_true rfl, Nat.le_of_ble_eq_true rfl⟩ (fun r σ3946 hp => ?_)
    obtain ⟨h3948, rfl⟩ := hp
    have h3947 := HK.trans h1 h3948 (by decide)
    refine m_aload_n F rfl e_X7_readSeed_16 ?_
    refine m_iconst F (v := 0) (by decide) e_X7_readSeed_17 ?_
    refine m_ldc F kc_X7_141 e_X7_readSeed_18 ?_
    refine t_callV F e_X7_readSeed_20 (s_X7_readNumber (x_l X) V b M Z T _ _ a 0 99999 h3947.1 hk (by omega) (by omega) (by omega)) cb_X7_readNumber ml_X7_130 im_X7_readNumber se_X7_readNumber (fun _ => o3) h3947 hk rfl rfl (rest := []) rfl (Nat.le_of_ble_eq_true rfl) ⟨Nat.le_of_ble_eq_true rfl, Nat.le_of_ble_eq_true rfl⟩ ⟨Nat.le_of_ble_eq_true rfl, Nat.le_of_ble_eq_true rfl⟩ (fun r σ3949 hp => ?_)
    obtain ⟨h3951, n3952, hn3952, rfl⟩ := hp
    have h3950 := HK.trans h3947 h3951 (by decide)
    refine m_istore_n F (lv' := [(1, .int (nI n3952)), (0, .ref a)]) e_X7_readSeed_23 (by decide) rfl ?_
    refine m_aload_n F rfl e_X7_readSeed_24 ?_
    refine t_get F e_X7_readSeed_25 fl_X7_55 (fun _ => o3) h3950 hk rfl (fun v hv f3953 => ?_)
    obtain ⟨x3954, hx3954, rfl⟩ := hv
    replace hx3954 : Z = 0 → x3954 ≠ 0 := hx3954
    refine m_if_ne F e_X7_readSeed_28 (fun q28 => ?_) (fun q28 => ?_)
    · exact m_vret F hQ e_X7_readSeed_44 (⟨h3950, rfl⟩)
    · refine m_aload_n F rfl e_X7_readSeed_31 ?_
      refine m_iconst F (v := 1) (by decide) e_X7_readSeed_32 ?_
      refine t_put F e_X7_readSeed_33 fp_X7_48 (fun _ => o3) h3950 hk rfl ⟨1, (show 1 ≤ 1 by omega), rfl⟩ (by decide) rfl (by decide) (fun σ3955 h3956 g3957 g3958 f3959 => ?_)
      refine m_aload_n F rfl e_X7_readSeed_36 ?_
      refine t_get F e_X7_readSeed_37 fl_X7_23 (fun _ => o3) h3956 hk rfl (fun v hv f3960 => ?_)
      obtain ⟨r3961, k3962, rfl⟩ := hv
      refine m_iload_n F rfl e_X7_readSeed_40 ?_
      refine t_put F e_X7_readSeed_41 fp_X7_185 (fun _ => o7) h3956 k3962 rfl ⟨_, rfl⟩ rfl rfl (by decide) (fun σ3963 h3964 g3965 g3966 f3967 => ?_)
      exact m_vret F hQ e_X7_readSeed_44 (⟨h3964, rfl⟩)
set_option maxRecDepth 20000 in
theorem s_X7_readPay (l : Launch) (V : VX) (b M Z T N : Nat) (σ : Mem) (a : Nat) (h0 : HT V (b, M, Z, T) σ) (hk : kA b a = 3) (hM : M + 0 ≤ 1000000000) : Ct l V yX7_readPay cX7_readPay 5 none 4 0 0 N σ [.ref a] (fun r τ => HK V (b, M, Z, T) [0, 1, 2, 4, 5, 7, 8, 9, 10, 11, 12, 13, 14, 15, 16, 18, 19] σ τ ∧ r = none) := by
  refine Ct.of (by decide) (Nat.le_of_ble_eq_true rfl) [(0, .ref a)] rfl (fun X hX F hQ => ?_)
  have h1 : HK V (b, M, Z, T) [0, 1, 2, 4, 5, 7, 8, 9, 10, 11, 12, 13, 14, 15, 16, 18, 19] σ σ := HK.start h0
  refine m_aload_n F rfl e_X7_readPay_0 ?_
  refine m_aload_n F rfl e_X7_readPay_1 ?_
  refine t_get F e_X7_readPay_2 fl_X7_45 (fun _ => o3) h1 hk rfl (fun v hv f3968 => ?_)
  obtain ⟨x3969, rfl⟩ := hv
  refine m_bipush F (v := 12) (by decide) e_X7_readPay_5 ?_
  refine m_icmp_lt F e_X7_readPay_7 (fun q7 => ?_) (fun q7 => ?_)
  · refine m_iconst F (v := 0) (by decide) e_X7_readPay_14 ?_
    refine t_callV F e_X7_readPay_15 (s_X7_startLine (x_l X) V b M Z T _ _ a 0 h1.1 hk  (by omega)) cb_X7_startLine ml_X7_124 im_X7_startLine se_X7_startLine (fun _ => o3) h1 hk rfl rfl (rest := []) rfl (Nat.le_of_ble_eq_true rfl) ⟨Nat.le_of_ble_eq_true rfl, Nat.le_of_ble_eq_true rfl⟩ ⟨Nat.le_of_ble_eq_true rfl, Nat.le_of_ble_eq_true rfl⟩ (fun r σ3970 hp => ?_)
    obtain ⟨h3972, rfl⟩ := hp
    have h3971 := HK.trans h1 h3972 (by decide)
    refine m_aload_n F rfl e_X7_readPay_18 ?_
    refine t_callV F e_X7_readPay_19 (s_X7_readToldName (x_l X) V b M Z T _ _ a  h3971.1 hk  (by omega)) cb_X7_readToldName ml_X7_138 im_X7_readToldName se_X7_readToldName (fun _ => o3) h3971 hk rfl rfl (rest := []) rfl (Nat.le_of_ble_eq_true rfl) ⟨Nat.le_of_ble_eq_true rfl, Nat.le_of_ble_eq_true rfl⟩ ⟨Nat.le_of_ble_eq_true rfl, Nat.le_of_ble_eq_true rfl⟩ (fun r σ3973 hp => ?_)
    obtain ⟨h3975, c3976⟩ := hp
    have h3974 := HK.trans h3971 h3975 (by decide)
    rcases c3976 with ⟨n3977, hn3977, rfl⟩ | ⟨h3978, rfl⟩
    · refine m_istore_n F (lv' := [(1, .int (nI n3977)), (0, .ref a)]) e_X7_readPay_22 (by decide) rfl ?_
      refine m_aload_n F rfl e_X7_readPay_23 ?_
      refine m_iconst F (v := 1) (by decide) e_X7_readPay_24 ?_
      refine m_bipush F (v := 48) (by decide) e_X7_readPay_25 ?_
      refine t_callV F e_X7_readPay_27 (s_X7_readNumber (x_l X) V b M Z T _ _ a 1 48 h3974.1 hk (by omega) (by omega) (by omega)) cb_X7_readNumber ml_X7_130 im_X7_readNumber se_X7_readNumber (fun _ => o3) h3974 hk rfl rfl (rest := []) rfl (Nat.le_of_ble_eq_true rfl) ⟨Nat.le_of_ble_eq_true rfl, Nat.le_of_ble_eq_true rfl⟩ ⟨Nat.le_of_ble_eq_true rfl, Nat.le_of_ble_eq_true rfl⟩ (fun r σ3979 hp => ?_)
      obtain ⟨h3981, n3982, hn3982, rfl⟩ := hp
      have h3980 := HK.trans h3974 h3981 (by decide)
      refine m_istore_n F (lv' := [(2, .int (nI n3982)), (1, .int (nI n3977)), (0, .ref a)]) e_X7_readPay_30 (by decide) rfl ?_
      refine m_aload_n F rfl e_X7_readPay_31 ?_
      refine m_iload_n F rfl e_X7_readPay_32 ?_
      refine m_bipush F (v := 48) (by decide) e_X7_readPay_33 ?_
      refine t_callV F e_X7_readPay_35 (s_X7_readNumber (x_l X) V b M Z T _ _ a n3982 48 h3980.1 hk (by omega) (by omega) (by omega)) cb_X7_readNumber ml_X7_130 im_X7_readNumber se_X7_readNumber (fun _ => o3) h3980 hk rfl rfl (rest := []) rfl (Nat.le_of_ble_eq_true rfl) ⟨Nat.le_of_ble_eq_true rfl, Nat.le_of_ble_eq_true rfl⟩ ⟨Nat.le_of_ble_eq_true rfl, Nat.le_of_ble_eq_true rfl⟩ (fun r σ3983 hp => ?_)
      obtain ⟨h3985, n3986, hn3986, rfl⟩ := hp
      have h3984 := HK.trans h3980 h3985 (by decide)
      refine m_istore_n F (lv' := [(3, .int (nI n3986)), (2, .int (nI n3982)), (1, .int (nI n3977)), (0, .ref a)]) e_X7_readPay_38 (by decide) rfl ?_
      refine m_aload_n F rfl e_X7_readPay_39 ?_
      refine m_iconst F (v := 0) (by decide) e_X7_readPay_40 ?_
      refine m_ldc F kc_X7_141 e_X7_readPay_41 ?_
      refine t_callV F e_X7_readPay_43 (s_X7_readNumber (x_l X) V b M Z T _ _ a 0 99999 h3984.1 hk (by omega) (by omega) (by omega)) cb_X7_readNumber ml_X7_130 im_X7_readNumber se_X7_readNumber (fun _ => o3) h3984 hk rfl rfl (rest := []) rfl (Nat.le_of_ble_eq_true rfl) ⟨Nat.le_of_ble_eq_true rfl, Nat.le_of_ble_eq_true rfl⟩ ⟨Nat.le_of_ble_eq_true rfl, Nat.le_of_ble_eq_true rfl⟩ (fun r σ3987 hp => ?_)
      obtain ⟨h3989, n3990, hn3990, rfl⟩ := hp
      have h3988 := HK.trans h3984 h3989 (by decide)
      refine m_istore F (lv' := [(4, .int (nI n3990)), (3, .int (nI n3986)), (2, .int (nI n3982)), (1, .int (nI n3977)), (0, .ref a)]) e_X7_readPay_46 (by decide) rfl ?_
      refine m_aload_n F rfl e_X7_readPay_48 ?_
      refine t_get F e_X7_readPay_49 fl_X7_55 (fun _ => o3) h3988 hk rfl (fun v hv f3991 => ?_)
      obtain ⟨x3992, hx3992, rfl⟩ := hv
      replace hx3992 : Z = 0 → x3992 ≠ 0 := hx3992
      refine m_if_ne F e_X7_readPay_52 (fun q52 => ?_) (fun q52 => ?_)
      · exact m_vret F hQ e_X7_readPay_85 (⟨h3988, rfl⟩)
      · refine m_aload_n F rfl e_X7_readPay_55 ?_
        refine m_dup F rfl e_X7_readPay_56 ?_
        refine t_get F e_X7_readPay_57 fl_X7_45 (fun _ => o3) h3988 hk rfl (fun v hv f3993 => ?_)
        obtain ⟨x3994, rfl⟩ := hv
        refine m_iconst F (v := 1) (by decide) e_X7_readPay_60 ?_
        refine m_iadd F e_X7_readPay_61 ?_
        refine Wm.top (fun x3995 _ => ?_)
        refine t_put F e_X7_readPay_62 fp_X7_45 (fun _ => o3) h3988 hk rfl ⟨_, rfl⟩ rfl rfl (by decide) (fun σ3996 h3997 g3998 g3999 f4000 => ?_)
        refine m_aload_n F rfl e_X7_readPay_65 ?_
        refine t_get F e_X7_readPay_66 fl_X7_23 (fun _ => o3) h3997 hk rfl (fun v hv f4001 => ?_)
        obtain ⟨r4002, k4003, rfl⟩ := hv
        refine t_get F e_X7_readPay_69 fl_X7_142 (fun _ => o7) h3997 k4003 rfl (fun v hv f4004 => ?_)
        obtain rfl : v = .ref (r4002 + 1) := hv
        refine m_iload_n F rfl e_X7_readPay_72 ?_
        refine t_aald8 F (j := n3977) e_X7_readPay_73 rfl h3997 (kA_7 k4003 (r := 1) (by decide)) (nI_clamp (by omega)) (vp_in_nI (by omega) (by decide)) ?_
        refine m_iload_n F rfl e_X7_readPay_74 ?_
        refine m_iconst F (v := 1) (by decide) e_X7_readPay_75 ?_
        refine m_isub F e_X7_readPay_76 ?_
        rcases Nat.eq_zero_or_pos (n3982) with e76 | e76
        · rw [e76]
          refine Wm.topE (w := -1) (by decide) ?_
          refine m_iload_n F rfl e_X7_readPay_77 ?_
          refine m_iconst F (v := 1) (by decide) e_X7_readPay_78 ?_
          refine m_isub F e_X7_readPay_79 ?_
          rcases Nat.eq_zero_or_pos (n3986) with e79 | e79
          · rw [e79]
            refine Wm.topE (w := -1) (by decide) ?_
            refine m_iload F rfl e_X7_readPay_80 ?_
            refine t_callV F e_X7_readPay_82 (s_X5_payMore (x_l X) V b M Z T _ _ ((r4002 + 1) + 10 + 12 * n3977) (-1) (-1) (nI n3990) h3997.1 (kA_8 (kA_7 k4003 (r := 1) (by decide)) (j := n3977) (by omega)) (by first | omega | assumption | decide | (rw [nI_ti (by omega)]; omega)) (by omega)) cb_X5_payMore ml_X7_146 im_X5_payMore se_X5_payMore (fun _ => o15) h3997 (kA_8 (kA_7 k4003 (r := 1) (by decide)) (j := n3977) (by omega)) rfl rfl (rest := []) rfl (Nat.le_of_ble_eq_true rfl) ⟨Nat.le_of_ble_eq_true rfl, Nat.le_of_ble_eq_true rfl⟩ ⟨Nat.le_of_ble_eq_true rfl, Nat.le_of_ble_eq_true rfl⟩ (fun r σ4005 hp => ?_)
            obtain ⟨h4007, rfl⟩ := hp
            have h4006 := HK.trans h3997 h4007 (by decide)
            exact m_vret F hQ e_X7_readPay_85 (⟨h4006, rfl⟩)
          · refine Wm.topE (w := nI (n3986 - 1)) (pk_sub (a := n3986) (b := 1) (by omega)) ?_
            refine m_iload F rfl e_X7_readPay_80 ?_
            refine t_callV F e_X7_readPay_82 (s_X5_payMore (x_l X) V b M Z T _ _ ((r4002 + 1) + 10 + 12 * n3977) (-1) (nI (n3986 - 1)) (nI n3990) h3997.1 (kA_8 (kA_7 k4003 (r := 1) (by decide)) (j := n3977) (by omega)) (by first | omega | assumption | decide | (rw [nI_ti (by omega)]; omega)) (by omega)) cb_X5_payMore ml_X7_146 im_X5_payMore se_X5_payMore (fun _ => o15) h3997 (kA_8 (kA_7 k4003 (r := 1) (by decide)) (j := n3977) (by omega)) rfl rfl (rest := []) rfl (Nat.le_of_ble_eq_true rfl) ⟨Nat.le_of_ble_eq_true rfl, Nat.le_of_ble_eq_true rfl⟩ ⟨Nat.le_of_ble_eq_true rfl, Nat.le_of_ble_eq_true rfl⟩ (fun r σ4008 hp => ?_)
            obtain ⟨h4010, rfl⟩ := hp
            have h4009 := HK.trans h3997 h4010 (by decide)
            exact m_vret F hQ e_X7_readPay_85 (⟨h4009, rfl⟩)
        · refine Wm.topE (w := nI (n3982 - 1)) (pk_sub (a := n3982) (b := 1) (by omega)) ?_
          refine m_iload_n F rfl e_X7_readPay_77 ?_
          refine m_iconst F (v := 1) (by decide) e_X7_readPay_78 ?_
          refine m_isub F e_X7_readPay_79 ?_
          rcases Nat.eq_zero_or_pos (n3986) with e79 | e79
          · rw [e79]
            refine Wm.topE (w := -1) (by decide) ?_
            refine m_iload F rfl e_X7_readPay_80 ?_
            refine t_callV F e_X7_readPay_82 (s_X5_payMore (x_l X) V b M Z T _ _ ((r4002 + 1) + 10 + 12 * n3977) (nI (n3982 - 1)) (-1) (nI n3990) h3997.1 (kA_8 (kA_7 k4003 (r := 1) (by decide)) (j := n3977) (by omega)) (by first | omega | assumption | decide | (rw [nI_ti (by omega)]; omega)) (by omega)) cb_X5_payMore ml_X7_146 im_X5_payMore se_X5_payMore (fun _ => o15) h3997 (kA_8 (kA_7 k4003 (r := 1) (by decide)) (j := n3977) (by omega)) rfl rfl (rest := []) rfl (Nat.le_of_ble_eq_true rfl) ⟨Nat.le_of_ble_eq_true rfl, Nat.le_of_ble_eq_true rfl⟩ ⟨Nat.le_of_ble_eq_true rfl, Nat.le_of_ble_eq_true rfl⟩ (fun r σ4011 hp => ?_)
            obtain ⟨h4013, rfl⟩ := hp
            have h4012 := HK.trans h3997 h4013 (by decide)
            exact m_vret F hQ e_X7_readPay_85 (⟨h4012, rfl⟩)
          · refine Wm.topE (w := nI (n3986 - 1)) (pk_sub (a := n3986) (b := 1) (by omega)) ?_
            refine m_iload F rfl e_X7_readPay_80 ?_
            refine t_callV F e_X7_readPay_82 (s_X5_payMore (x_l X) V b M Z T _ _ ((r4002 + 1) + 10 + 12 * n3977) (nI (n3982 - 1)) (nI (n3986 - 1)) (nI n3990) h3997.1 (kA_8 (kA_7 k4003 (r := 1) (by decide)) (j := n3977) (by omega)) (by first | omega | assumption | decide | (rw [nI_ti (by omega)]; omega)) (by omega)) cb_X5_payMore ml_X7_146 im_X5_payMore se_X5_payMore (fun _ => o15) h3997 (kA_8 (kA_7 k4003 (r := 1) (by decide)) (j := n3977) (by omega)) rfl rfl (rest := []) rfl (Nat.le_of_ble_eq_true rfl) ⟨Nat.le_of_ble_eq_true rfl, Nat.le_of_ble_eq_true rfl⟩ ⟨Nat.le_of_ble_eq_true rfl, Nat.le_of_ble_eq_true rfl⟩ (fun r σ4014 hp => ?_)
            obtain ⟨h4016, rfl⟩ := hp
            have h4015 := HK.trans h3997 h4016 (by decide)
            exact m_vret F hQ e_X7_readPay_85 (⟨h4015, rfl⟩)
    · have h4017 : HK V (b, M, 0, T) [0, 1, 2, 4, 5, 7, 8, 9, 10, 11, 12, 13, 14, 15, 16, 18, 19] _ _ := ⟨h3978, h3974.2⟩
      refine m_istore_n F (lv' := [(1, .int (-1)), (0, .ref a)]) e_X7_readPay_22 (by decide) rfl ?_
      refine m_aload_n F rfl e_X7_readPay_23 ?_
      refine m_iconst F (v := 1) (by decide) e_X7_readPay_24 ?_
      refine m_bipush F (v := 48) (by decide) e_X7_readPay_25 ?_
      refine t_callV F e_X7_readPay_27 (s_X7_readNumber (x_l X) V b M 0 T _ _ a 1 48 h4017.1 hk (by omega) (by omega) (by omega)) cb_X7_readNumber ml_X7_130 im_X7_readNumber se_X7_readNumber (fun _ => o3) h4017 hk rfl rfl (rest := []) rfl (Nat.le_of_ble_eq_true rfl) ⟨Nat.le_of_ble_eq_true rfl, Nat.le_of_ble_eq_true rfl⟩ ⟨Nat.le_of_ble_eq_true rfl, Nat.le_of_ble_eq_true rfl⟩ (fun r σ4018 hp => ?_)
      obtain ⟨h4020, n4021, hn4021, rfl⟩ := hp
      have h4019 := HK.trans h4017 h4020 (by decide)
      refine m_istore_n F (lv' := [(2, .int (nI n4021)), (1, .int (-1)), (0, .ref a)]) e_X7_readPay_30 (by decide) rfl ?_
      refine m_aload_n F rfl e_X7_readPay_31 ?_
      refine m_iload_n F rfl e_X7_readPay_32 ?_
      refine m_bipush F (v := 48) (by decide) e_X7_readPay_33 ?_
      refine t_callV F e_X7_readPay_35 (s_X7_readNumber (x_l X) V b M 0 T _ _ a n4021 48 h4019.1 hk (by omega) (by omega) (by omega)) cb_X7_readNumber ml_X7_130 im_X7_readNumber se_X7_readNumber (fun _ => o3) h4019 hk rfl rfl (rest := []) rfl (Nat.le_of_ble_eq_true rfl) ⟨Nat.le_of_ble_eq_true rfl, Nat.le_of_ble_eq_true rfl⟩ ⟨Nat.le_of_ble_eq_true rfl, Nat.le_of_ble_eq_true rfl⟩ (fun r σ4022 hp => ?_)
      obtain ⟨h4024, n4025, hn4025, rfl⟩ := hp
      have h4023 := HK.trans h4019 h4024 (by decide)
      refine m_istore_n F (lv' := [(3, .int (nI n4025)), (2, .int (nI n4021)), (1, .int (-1)), (0, .ref a)]) e_X7_readPay_38 (by decide) rfl ?_
      refine m_aload_n F rfl e_X7_readPay_39 ?_
      refine m_iconst F (v := 0) (by decide) e_X7_readPay_40 ?_
      refine m_ldc F kc_X7_141 e_X7_readPay_41 ?_
      refine t_callV F e_X7_readPay_43 (s_X7_readNumber (x_l X) V b M 0 T _ _ a 0 99999 h4023.1 hk (by omega) (by omega) (by omega)) cb_X7_readNumber ml_X7_130 im_X7_readNumber se_X7_readNumber (fun _ => o3) h4023 hk rfl rfl (rest := []) rfl (Nat.le_of_ble_eq_true rfl) ⟨Nat.le_of_ble_eq_true rfl, Nat.le_of_ble_eq_true rfl⟩ ⟨Nat.le_of_ble_eq_true rfl, Nat.le_of_ble_eq_true rfl⟩ (fun r σ4026 hp => ?_)
      obtain ⟨h4028, n4029, hn4029, rfl⟩ := hp
      have h4027 := HK.trans h4023 h4028 (by decide)
      refine m_istore F (lv' := [(4, .int (nI n4029)), (3, .int (nI n4025)), (2, .int (nI n4021)), (1, .int (-1)), (0, .ref a)]) e_X7_readPay_46 (by decide) rfl ?_
      refine m_aload_n F rfl e_X7_readPay_48 ?_
      refine t_get F e_X7_readPay_49 fl_X7_55 (fun _ => o3) h4027 hk rfl (fun v hv f4030 => ?_)
      obtain ⟨x4031, hx4031, rfl⟩ := hv
      replace hx4031 : 0 = 0 → x4031 ≠ 0 := hx4031
      refine m_if_ne F e_X7_readPay_52 (fun q52 => ?_) (fun q52 => ?_)
      · exact m_vret F hQ e_X7_readPay_85 (⟨(h4027.mono (M' := M) (Z' := Z) (by omega) (by intro e; first | rfl | assumption | omega)), rfl⟩)
      · exact absurd q52 (hx4031 rfl)
  · obtain ⟨n4032, hn4032, rfl⟩ := nI_nn (x := x3969) (fun e => q7 (Int32.lt_of_lt_of_le e (by decide)))
    have c7 : n4032 ≥ 12 := by have hh := mt (nI_ltI (a := n4032) (b := 12) (by omega) (by omega)).mpr q7; omega
    refine m_iconst F (v := 2) (by decide) e_X7_readPay_10 ?_
    refine m_goto F e_X7_readPay_11 ?_
    refine t_callV F e_X7_readPay_15 (s_X7_startLine (x_l X) V b M Z T _ _ a 2 h1.1 hk  (by omega)) cb_X7_startLine ml_X7_124 im_X7_startLine se_X7_startLine (fun _ => o3) h1 hk rfl rfl (rest := []) rfl (Nat.le_of_ble_eq_true rfl) ⟨Nat.le_of_ble_eq_true rfl, Nat.le_of_ble_eq_true rfl⟩ ⟨Nat.le_of_ble_eq_true rfl, Nat.le_of_ble_eq_true rfl⟩ (fun r σ4033 hp => ?_)
    obtain ⟨h4035, rfl⟩ := hp
    have h4034 := HK.trans h1 h4035 (by decide)
    refine m_aload_n F rfl e_X7_readPay_18 ?_
    refine t_callV F e_X7_readPay_19 (s_X7_readToldName (x_l X) V b M Z T _ _ a  h4034.1 hk  (by omega)) cb_X7_readToldName ml_X7_138 im_X7_readToldName se_X7_readToldName (fun _ => o3) h4034 hk rfl rfl (rest := []) rfl (Nat.le_of_ble_eq_true rfl) ⟨Nat.le_of_ble_eq_true rfl, Nat.le_of_ble_eq_true rfl⟩ ⟨Nat.le_of_ble_eq_true rfl, Nat.le_of_ble_eq_true rfl⟩ (fun r σ4036 hp => ?_)
    obtain ⟨h4038, c4039⟩ := hp
    have h4037 := HK.trans h4034 h4038 (by decide)
    rcases c4039 with ⟨n4040, hn4040, rfl⟩ | ⟨h4041, rfl⟩
    · refine m_istore_n F (lv' := [(1, .int (nI n4040)), (0, .ref a)]) e_X7_readPay_22 (by decide) rfl ?_
      refine m_aload_n F rfl e_X7_readPay_23 ?_
      refine m_iconst F (v := 1) (by decide) e_X7_readPay_24 ?_
      refine m_bipush F (v := 48) (by decide) e_X7_readPay_25 ?_
      refine t_callV F e_X7_readPay_27 (s_X7_readNumber (x_l X) V b M Z T _ _ a 1 48 h4037.1 hk (by omega) (by omega) (by omega)) cb_X7_readNumber ml_X7_130 im_X7_readNumber se_X7_readNumber (fun _ => o3) h4037 hk rfl rfl (rest := []) rfl (Nat.le_of_ble_eq_true rfl) ⟨Nat.le_of_ble_eq_true rfl, Nat.le_of_ble_eq_true rfl⟩ ⟨Nat.le_of_ble_eq_true rfl, Nat.le_of_ble_eq_true rfl⟩ (fun r σ4042 hp => ?_)
      obtain ⟨h4044, n4045, hn4045, rfl⟩ := hp
      have h4043 := HK.trans h4037 h4044 (by decide)
      refine m_istore_n F (lv' := [(2, .int (nI n4045)), (1, .int (nI n4040)), (0, .ref a)]) e_X7_readPay_30 (by decide) rfl ?_
      refine m_aload_n F rfl e_X7_readPay_31 ?_
      refine m_iload_n F rfl e_X7_readPay_32 ?_
      refine m_bipush F (v := 48) (by decide) e_X7_readPay_33 ?_
      refine t_callV F e_X7_readPay_35 (s_X7_readNumber (x_l X) V b M Z T _ _ a n4045 48 h4043.1 hk (by omega) (by omega) (by omega)) cb_X7_readNumber ml_X7_130 im_X7_readNumber se_X7_readNumber (fun _ => o3) h4043 hk rfl rfl (rest := []) rfl (Nat.le_of_ble_eq_true rfl) ⟨Nat.le_of_ble_eq_true rfl, Nat.le_of_ble_eq_true rfl⟩ ⟨Nat.le_of_ble_eq_true rfl, Nat.le_of_ble_eq_true rfl⟩ (fun r σ4046 hp => ?_)
      obtain ⟨h4048, n4049, hn4049, rfl⟩ := hp
      have h4047 := HK.trans h4043 h4048 (by decide)
      refine m_istore_n F (lv' := [(3, .int (nI n4049)), (2, .int (nI n4045)), (1, .int (nI n4040)), (0, .ref a)]) e_X7_readPay_38 (by decide) rfl ?_
      refine m_aload_n F rfl e_X7_readPay_39 ?_
      refine m_iconst F (v := 0) (by decide) e_X7_readPay_40 ?_
      refine m_ldc F kc_X7_141 e_X7_readPay_41 ?_
      refine t_callV F e_X7_readPay_43 (s_X7_readNumber (x_l X) V b M Z T _ _ a 0 99999 h4047.1 hk (by omega) (by omega) (by omega)) cb_X7_readNumber ml_X7_130 im_X7_readNumber se_X7_readNumber (fun _ => o3) h4047 hk rfl rfl (rest := []) rfl (Nat.le_of_ble_eq_true rfl) ⟨Nat.le_of_ble_eq_true rfl, Nat.le_of_ble_eq_true rfl⟩ ⟨Nat.le_of_ble_eq_true rfl, Nat.le_of_ble_eq_true rfl⟩ (fun r σ4050 hp => ?_)
      obtain ⟨h4052, n4053, hn4053, rfl⟩ := hp
      have h4051 := HK.trans h4047 h4052 (by decide)
      refine m_istore F (lv' := [(4, .int (nI n4053)), (3, .int (nI n4049)), (2, .int (nI n4045)), (1, .int (nI n4040)), (0, .ref a)]) e_X7_readPay_46 (by decide) rfl ?_
      refine m_aload_n F rfl e_X7_readPay_48 ?_
      refine t_get F e_X7_readPay_49 fl_X7_55 (fun _ => o3) h4051 hk rfl (fun v hv f4054 => ?_)
      obtain ⟨x4055, hx4055, rfl⟩ := hv
      replace hx4055 : Z = 0 → x4055 ≠ 0 := hx4055
      refine m_if_ne F e_X7_readPay_52 (fun q52 => ?_) (fun q52 => ?_)
      · exact m_vret F hQ e_X7_readPay_85 (⟨h4051, rfl⟩)
      · refine m_aload_n F rfl e_X7_readPay_55 ?_
        refine m_dup F rfl e_X7_readPay_56 ?_
        refine t_get F e_X7_readPay_57 fl_X7_45 (fun _ => o3) h4051 hk rfl (fun v hv f4056 => ?_)
        obtain ⟨x4057, rfl⟩ := hv
        refine m_iconst F (v := 1) (by decide) e_X7_readPay_60 ?_
        refine m_iadd F e_X7_readPay_61 ?_
        refine Wm.top (fun x4058 _ => ?_)
        refine t_put F e_X7_readPay_62 fp_X7_45 (fun _ => o3) h4051 hk rfl ⟨_, rfl⟩ rfl rfl (by decide) (fun σ4059 h4060 g4061 g4062 f4063 => ?_)
        refine m_aload_n F rfl e_X7_readPay_65 ?_
        refine t_get F e_X7_readPay_66 fl_X7_23 (fun _ => o3) h4060 hk rfl (fun v hv f4064 => ?_)
        obtain ⟨r4065, k4066, rfl⟩ := hv
        refine t_get F e_X7_readPay_69 fl_X7_142 (fun _ => o7) h4060 k4066 rfl (fun v hv f4067 => ?_)
        obtain rfl : v = .ref (r4065 + 1) := hv
        refine m_iload_n F rfl e_X7_readPay_72 ?_
        refine t_aald8 F (j := n4040) e_X7_readPay_73 rfl h4060 (kA_7 k4066 (r := 1) (by decide)) (nI_clamp (by omega)) (vp_in_nI (by omega) (by decide)) ?_
        refine m_iload_n F rfl e_X7_readPay_74 ?_
        refine m_iconst F (v := 1) (by decide) e_X7_readPay_75 ?_
        refine m_isub F e_X7_readPay_76 ?_
        rcases Nat.eq_zero_or_pos (n4045) with e76 | e76
        · rw [e76]
          refine Wm.topE (w := -1) (by decide) ?_
          refine m_iload_n F rfl e_X7_readPay_77 ?_
          refine m_iconst F (v := 1) (by decide) e_X7_readPay_78 ?_
          refine m_isub F e_X7_readPay_79 ?_
          rcases Nat.eq_zero_or_pos (n4049) with e79 | e79
          · rw [e79]
            refine Wm.topE (w := -1) (by decide) ?_
            refine m_iload F rfl e_X7_readPay_80 ?_
            refine t_callV F e_X7_readPay_82 (s_X5_payMore (x_l X) V b M Z T _ _ ((r4065 + 1) + 10 + 12 * n4040) (-1) (-1) (nI n4053) h4060.1 (kA_8 (kA_7 k4066 (r := 1) (by decide)) (j := n4040) (by omega)) (by first | omega | assumption | decide | (rw [nI_ti (by omega)]; omega)) (by omega)) cb_X5_payMore ml_X7_146 im_X5_payMore se_X5_payMore (fun _ => o15) h4060 (kA_8 (kA_7 k4066 (r := 1) (by decide)) (j := n4040) (by omega)) rfl rfl (rest := []) rfl (Nat.le_of_ble_eq_true rfl) ⟨Nat.le_of_ble_eq_true rfl, Nat.le_of_ble_eq_true rfl⟩ ⟨Nat.le_of_ble_eq_true rfl, Nat.le_of_ble_eq_true rfl⟩ (fun r σ4068 hp => ?_)
            obtain ⟨h4070, rfl⟩ := hp
            have h4069 := HK.trans h4060 h4070 (by decide)
            exact m_vret F hQ e_X7_readPay_85 (⟨h4069, rfl⟩)
          · refine Wm.topE (w := nI (n4049 - 1)) (pk_sub (a := n4049) (b := 1) (by omega)) ?_
            refine m_iload F rfl e_X7_readPay_80 ?_
            refine t_callV F e_X7_readPay_82 (s_X5_payMore (x_l X) V b M Z T _ _ ((r4065 + 1) + 10 + 12 * n4040) (-1) (nI (n4049 - 1)) (nI n4053) h4060.1 (kA_8 (kA_7 k4066 (r := 1) (by decide)) (j := n4040) (by omega)) (by first | omega | assumption | decide | (rw [nI_ti (by omega)]; omega)) (by omega)) cb_X5_payMore ml_X7_146 im_X5_payMore se_X5_payMore (fun _ => o15) h4060 (kA_8 (kA_7 k4066 (r := 1) (by decide)) (j := n4040) (by omega)) rfl rfl (rest := []) rfl (Nat.le_of_ble_eq_true rfl) ⟨Nat.le_of_ble_eq_true rfl, Nat.le_of_ble_eq_true rfl⟩ ⟨Nat.le_of_ble_eq_true rfl, Nat.le_of_ble_eq_true rfl⟩ (fun r σ4071 hp => ?_)
            obtain ⟨h4073, rfl⟩ := hp
            have h4072 := HK.trans h4060 h4073 (by decide)
            exact m_vret F hQ e_X7_readPay_85 (⟨h4072, rfl⟩)
        · refine Wm.topE (w := nI (n4045 - 1)) (pk_sub (a := n4045) (b := 1) (by omega)) ?_
          refine m_iload_n F rfl e_X7_readPay_77 ?_
          refine m_iconst F (v := 1) (by decide) e_X7_readPay_78 ?_
          refine m_isub F e_X7_readPay_79 ?_
          rcases Nat.eq_zero_or_pos (n4049) with e79 | e79
          · rw [e79]
            refine Wm.topE (w := -1) (by decide) ?_
            refine m_iload F rfl e_X7_readPay_80 ?_
            refine t_callV F e_X7_readPay_82 (s_X5_payMore (x_l X) V b M Z T _ _ ((r4065 + 1) + 10 + 12 * n4040) (nI (n4045 - 1)) (-1) (nI n4053) h4060.1 (kA_8 (kA_7 k4066 (r := 1) (by decide)) (j := n4040) (by omega)) (by first | omega | assumption | decide | (rw [nI_ti (by omega)]; omega)) (by omega)) cb_X5_payMore ml_X7_146 im_X5_payMore se_X5_payMore (fun _ => o15) h4060 (kA_8 (kA_7 k4066 (r := 1) (by decide)) (j := n4040) (by omega)) rfl rfl (rest := []) rfl (Nat.le_of_ble_eq_true rfl) ⟨Nat.le_of_ble_eq_true rfl, Nat.le_of_ble_eq_true rfl⟩ ⟨Nat.le_of_ble_eq_true rfl, Nat.le_of_ble_eq_true rfl⟩ (fun r σ4074 hp => ?_)
            obtain ⟨h4076, rfl⟩ := hp
            have h4075 := HK.trans h4060 h4076 (by decide)
            exact m_vret F hQ e_X7_readPay_85 (⟨h4075, rfl⟩)
          · refine Wm.topE (w := nI (n4049 - 1)) (pk_sub (a := n4049) (b := 1) (by omega)) ?_
            refine m_iload F rfl e_X7_readPay_80 ?_
            refine t_callV F e_X7_readPay_82 (s_X5_payMore (x_l X) V b M Z T _ _ ((r4065 + 1) + 10 + 12 * n4040) (nI (n4045 - 1)) (nI (n4049 - 1)) (nI n4053) h4060.1 (kA_8 (kA_7 k4066 (r := 1) (by decide)) (j := n4040) (by omega)) (by first | omega | assumption | decide | (rw [nI_ti (by omega)]; omega)) (by omega)) cb_X5_payMore ml_X7_146 im_X5_payMore se_X5_payMore (fun _ => o15) h4060 (kA_8 (kA_7 k4066 (r := 1) (by decide)) (j := n4040) (by omega)) rfl rfl (rest := []) rfl (Nat.le_of_ble_eq_true rfl) ⟨Nat.le_of_ble_eq_true rfl, Nat.le_of_ble_eq_true rfl⟩ ⟨Nat.le_of_ble_eq_true rfl, Nat.le_of_ble_eq_true rfl⟩ (fun r σ4077 hp => ?_)
            obtain ⟨h4079, rfl⟩ := hp
            have h4078 := HK.trans h4060 h4079 (by decide)
            exact m_vret F hQ e_X7_readPay_85 (⟨h4078, rfl⟩)
    · have h4080 : HK V (b, M, 0, T) [0, 1, 2, 4, 5, 7, 8, 9, 10, 11, 12, 13, 14, 15, 16, 18, 19] _ _ := ⟨h4041, h4037.2⟩
      refine m_istore_n F (lv' := [(1, .int (-1)), (0, .ref a)]) e_X7_readPay_22 (by decide) rfl ?_
      refine m_aload_n F rfl e_X7_readPay_23 ?_
      refine m_iconst F (v := 1) (by decide) e_X7_readPay_24 ?_
      refine m_bipush F (v := 48) (by decide) e_X7_readPay_25 ?_
      refine t_callV F e_X7_readPay_27 (s_X7_readNumber (x_l X) V b M 0 T _ _ a 1 48 h4080.1 hk (by omega) (by omega) (by omega)) cb_X7_readNumber ml_X7_130 im_X7_readNumber se_X7_readNumber (fun _ => o3) h4080 hk rfl rfl (rest := []) rfl (Nat.le_of_ble_eq_true rfl) ⟨Nat.le_of_ble_eq_true rfl, Nat.le_of_ble_eq_true rfl⟩ ⟨Nat.le_of_ble_eq_true rfl, Nat.le_of_ble_eq_true rfl⟩ (fun r σ4081 hp => ?_)
      obtain ⟨h4083, n4084, hn4084, rfl⟩ := hp
      have h4082 := HK.trans h4080 h4083 (by decide)
      refine m_istore_n F (lv' := [(2, .int (nI n4084)), (1, .int (-1)), (0, .ref a)]) e_X7_readPay_30 (by decide) rfl ?_
      refine m_aload_n F rfl e_X7_readPay_31 ?_
      refine m_iload_n F rfl e_X7_readPay_32 ?_
      refine m_bipush F (v := 48) (by decide) e_X7_readPay_33 ?_
      refine t_callV F e_X7_readPay_35 (s_X7_readNumber (x_l X) V b M 0 T _ _ a n4084 48 h4082.1 hk (by omega) (by omega) (by omega)) cb_X7_readNumber ml_X7_130 im_X7_readNumber se_X7_readNumber (fun _ => o3) h4082 hk rfl rfl (rest := []) rfl (Nat.le_of_ble_eq_true rfl) ⟨Nat.le_of_ble_eq_true rfl, Nat.le_of_ble_eq_true rfl⟩ ⟨Nat.le_of_ble_eq_true rfl, Nat.le_of_ble_eq_true rfl⟩ (fun r σ4085 hp => ?_)
      obtain ⟨h4087, n4088, hn4088, rfl⟩ := hp
      have h4086 := HK.trans h4082 h4087 (by decide)
      refine m_istore_n F (lv' := [(3, .int (nI n4088)), (2, .int (nI n4084)), (1, .int (-1)), (0, .ref a)]) e_X7_readPay_38 (by decide) rfl ?_
      refine m_aload_n F rfl e_X7_readPay_39 ?_
      refine m_iconst F (v := 0) (by decide) e_X7_readPay_40 ?_
      refine m_ldc F kc_X7_141 e_X7_readPay_41 ?_
      refine t_callV F e_X7_readPay_43 (s_X7_readNumber (x_l X) V b M 0 T _ _ a 0 99999 h4086.1 hk (by omega) (by omega) (by omega)) cb_X7_readNumber ml_X7_130 im_X7_readNumber se_X7_readNumber (fun _ => o3) h4086 hk rfl rfl (rest := []) rfl (Nat.le_of_ble_eq_true rfl) ⟨Nat.le_of_ble_eq_true rfl, Nat.le_of_ble_eq_true rfl⟩ ⟨Nat.le_of_ble_eq_true rfl, Nat.le_of_ble_eq_true rfl⟩ (fun r σ4089 hp => ?_)
      obtain ⟨h4091, n4092, hn4092, rfl⟩ := hp
      have h4090 := HK.trans h4086 h4091 (by decide)
      refine m_istore F (lv' := [(4, .int (nI n4092)), (3, .int (nI n4088)), (2, .int (nI n4084)), (1, .int (-1)), (0, .ref a)]) e_X7_readPay_46 (by decide) rfl ?_
      refine m_aload_n F rfl e_X7_readPay_48 ?_
      refine t_get F e_X7_readPay_49 fl_X7_55 (fun _ => o3) h4090 hk rfl (fun v hv f4093 => ?_)
      obtain ⟨x4094, hx4094, rfl⟩ := hv
      replace hx4094 : 0 = 0 → x4094 ≠ 0 := hx4094
      refine m_if_ne F e_X7_readPay_52 (fun q52 => ?_) (fun q52 => ?_)
      · exact m_vret F hQ e_X7_readPay_85 (⟨(h4090.mono (M' := M) (Z' := Z) (by omega) (by intro e; first | rfl | assumption | omega)), rfl⟩)
      · exact absurd q52 (hx4094 rfl)
set_option maxRecDepth 20000 in
theorem s_X7_readOption (l : Launch) (V : VX) (b M Z T N : Nat) (σ : Mem) (a : Nat) (h0 : HT V (b, M, Z, T) σ) (hk : kA b a = 3) (hM : M + 0 ≤ 1000000000) : Ct l V yX7_readOption cX7_readOption 4 none 4 0 0 N σ [.ref a] (fun r τ => HK V (b, M, Z, T) [0, 1, 2, 4, 5, 6, 8, 9, 10, 11, 12, 13, 14, 15, 16, 17, 18] σ τ ∧ r = none) := by
  refine Ct.of (by decide) (Nat.le_of_ble_eq_true rfl) [(0, .ref a)] rfl (fun X hX F hQ => ?_)
  have h1 : HK V (b, M, Z, T) [0, 1, 2, 4, 5, 6, 8, 9, 10, 11, 12, 13, 14, 15, 16, 17, 18] σ σ := HK.start h0
  refine m_aload_n F rfl e_X7_readOption_0 ?_
  refine m_aload_n F rfl e_X7_readOption_1 ?_
  refine t_get F e_X7_readOption_2 fl_X7_23 (fun _ => o3) h1 hk rfl (fun v hv f4095 => ?_)
  obtain ⟨r4096, k4097, rfl⟩ := hv
  refine t_get F e_X7_readOption_5 fl_X7_179 (fun _ => o7) h1 k4097 rfl (fun v hv f4098 => ?_)
  obtain ⟨n4099, hn4099, rfl⟩ := hv
  replace hn4099 : n4099 ≤ 4 := hn4099
  refine m_iconst F (v := 4) (by decide) e_X7_readOption_8 ?_
  refine m_icmp_lt F e_X7_readOption_9 (fun q9 => ?_) (fun q9 => ?_)
  · have c9 : n4099 < 4 := (nI_ltI (a := n4099) (b := 4) (by omega) (by omega)).mp q9
    refine m_iconst F (v := 0) (by decide) e_X7_readOption_16 ?_
    refine t_callV F e_X7_readOption_17 (s_X7_startLine (x_l X) V b M Z T _ _ a 0 h1.1 hk  (by omega)) cb_X7_startLine ml_X7_124 im_X7_startLine se_X7_startLine (fun _ => o3) h1 hk rfl rfl (rest := []) rfl (Nat.le_of_ble_eq_true rfl) ⟨Nat.le_of_ble_eq_true rfl, Nat.le_of_ble_eq_true rfl⟩ ⟨Nat.le_of_ble_eq_true rfl, Nat.le_of_ble_eq_true rfl⟩ (fun r σ4100 hp => ?_)
    obtain ⟨h4102, rfl⟩ := hp
    have h4101 := HK.trans h1 h4102 (by decide)
    refine m_aload_n F rfl e_X7_readOption_20 ?_
    refine t_callV F e_X7_readOption_21 (s_X7_readToldName (x_l X) V b M Z T _ _ a  h4101.1 hk  (by omega)) cb_X7_readToldName ml_X7_138 im_X7_readToldName se_X7_readToldName (fun _ => o3) h4101 hk rfl rfl (rest := []) rfl (Nat.le_of_ble_eq_true rfl) ⟨Nat.le_of_ble_eq_true rfl, Nat.le_of_ble_eq_true rfl⟩ ⟨Nat.le_of_ble_eq_true rfl, Nat.le_of_ble_eq_true rfl⟩ (fun r σ4103 hp => ?_)
    obtain ⟨h4105, c4106⟩ := hp
    have h4104 := HK.trans h4101 h4105 (by decide)
    rcases c4106 with ⟨n4107, hn4107, rfl⟩ | ⟨h4108, rfl⟩
    · refine m_istore_n F (lv' := [(1, .int (nI n4107)), (0, .ref a)]) e_X7_readOption_24 (by decide) rfl ?_
      refine m_aload_n F rfl e_X7_readOption_25 ?_
      refine m_iconst F (v := 1) (by decide) e_X7_readOption_26 ?_
      refine m_bipush F (v := 24) (by decide) e_X7_readOption_27 ?_
      refine t_callV F e_X7_readOption_29 (s_X7_readNumber (x_l X) V b M Z T _ _ a 1 24 h4104.1 hk (by omega) (by omega) (by omega)) cb_X7_readNumber ml_X7_130 im_X7_readNumber se_X7_readNumber (fun _ => o3) h4104 hk rfl rfl (rest := []) rfl (Nat.le_of_ble_eq_true rfl) ⟨Nat.le_of_ble_eq_true rfl, Nat.le_of_ble_eq_true rfl⟩ ⟨Nat.le_of_ble_eq_true rfl, Nat.le_of_ble_eq_true rfl⟩ (fun r σ4109 hp => ?_)
      obtain ⟨h4111, n4112, hn4112, rfl⟩ := hp
      have h4110 := HK.trans h4104 h4111 (by decide)
      refine m_istore_n F (lv' := [(2, .int (nI n4112)), (1, .int (nI n4107)), (0, .ref a)]) e_X7_readOption_32 (by decide) rfl ?_
      refine m_aload_n F rfl e_X7_readOption_33 ?_
      refine m_iconst F (v := 0) (by decide) e_X7_readOption_34 ?_
      refine m_ldc F kc_X7_141 e_X7_readOption_35 ?_
      refine t_callV F e_X7_readOption_37 (s_X7_readNumber (x_l X) V b M Z T _ _ a 0 99999 h4110.1 hk (by omega) (by omega) (by omega)) cb_X7_readNumber ml_X7_130 im_X7_readNumber se_X7_readNumber (fun _ => o3) h4110 hk rfl rfl (rest := []) rfl (Nat.le_of_ble_eq_true rfl) ⟨Nat.le_of_ble_eq_true rfl, Nat.le_of_ble_eq_true rfl⟩ ⟨Nat.le_of_ble_eq_true rfl, Nat.le_of_ble_eq_true rfl⟩ (fun r σ4113 hp => ?_)
      obtain ⟨h4115, n4116, hn4116, rfl⟩ := hp
      have h4114 := HK.trans h4110 h4115 (by decide)
      refine m_istore_n F (lv' := [(3, .int (nI n4116)), (2, .int (nI n4112)), (1, .int (nI n4107)), (0, .ref a)]) e_X7_readOption_40 (by decide) rfl ?_
      refine m_aload_n F rfl e_X7_readOption_41 ?_
      refine t_get F e_X7_readOption_42 fl_X7_55 (fun _ => o3) h4114 hk rfl (fun v hv f4117 => ?_)
      obtain ⟨x4118, hx4118, rfl⟩ := hv
      replace hx4118 : Z = 0 → x4118 ≠ 0 := hx4118
      refine m_if_ne F e_X7_readOption_45 (fun q45 => ?_) (fun q45 => ?_)
      · exact m_vret F hQ e_X7_readOption_58 (⟨h4114, rfl⟩)
      · refine m_aload_n F rfl e_X7_readOption_48 ?_
        refine t_get F e_X7_readOption_49 fl_X7_23 (fun _ => o3) h4114 hk rfl (fun v hv f4119 => ?_)
        obtain ⟨r4120, k4121, rfl⟩ := hv
        refine m_iload_n F rfl e_X7_readOption_52 ?_
        refine m_iload_n F rfl e_X7_readOption_53 ?_
        refine m_iload_n F rfl e_X7_readOption_54 ?_
        refine t_callV F e_X7_readOption_55 (s_X2_addOption (x_l X) V b M Z T _ _ r4120 n4107 n4112 (nI n4116) h4114.1 k4121 (by omega) (by omega) (by omega)) cb_X2_addOption ml_X7_182 im_X2_addOption se_X2_addOption (fun _ => o7) h4114 k4121 rfl rfl (rest := []) rfl (Nat.le_of_ble_eq_true rfl) ⟨Nat.le_of_ble_eq_true rfl, Nat.le_of_ble_eq_true rfl⟩ ⟨Nat.le_of_ble_eq_true rfl, Nat.le_of_ble_eq_true rfl⟩ (fun r σ4122 hp => ?_)
        obtain ⟨h4124, rfl⟩ := hp
        have h4123 := HK.trans h4114 h4124 (by decide)
        exact m_vret F hQ e_X7_readOption_58 (⟨h4123, rfl⟩)
    · have h4125 : HK V (b, M, 0, T) [0, 1, 2, 4, 5, 6, 8, 9, 10, 11, 12, 13, 14, 15, 16, 17, 18] _ _ := ⟨h4108, h4104.2⟩
      refine m_istore_n F (lv' := [(1, .int (-1)), (0, .ref a)]) e_X7_readOption_24 (by decide) rfl ?_
      refine m_aload_n F rfl e_X7_readOption_25 ?_
      refine m_iconst F (v := 1) (by decide) e_X7_readOption_26 ?_
      refine m_bipush F (v := 24) (by decide) e_X7_readOption_27 ?_
      refine t_callV F e_X7_readOption_29 (s_X7_readNumber (x_l X) V b M 0 T _ _ a 1 24 h4125.1 hk (by omega) (by omega) (by omega)) cb_X7_readNumber ml_X7_130 im_X7_readNumber se_X7_readNumber (fun _ => o3) h4125 hk rfl rfl (rest := []) rfl (Nat.le_of_ble_eq_true rfl) ⟨Nat.le_of_ble_eq_true rfl, Nat.le_of_ble_eq_true rfl⟩ ⟨Nat.le_of_ble_eq_true rfl, Nat.le_of_ble_eq_true rfl⟩ (fun r σ4126 hp => ?_)
      obtain ⟨h4128, n4129, hn4129, rfl⟩ := hp
      have h4127 := HK.trans h4125 h4128 (by decide)
      refine m_istore_n F (lv' := [(2, .int (nI n4129)), (1, .int (-1)), (0, .ref a)]) e_X7_readOption_32 (by decide) rfl ?_
      refine m_aload_n F rfl e_X7_readOption_33 ?_
      refine m_iconst F (v := 0) (by decide) e_X7_readOption_34 ?_
      refine m_ldc F kc_X7_141 e_X7_readOption_35 ?_
      refine t_callV F e_X7_readOption_37 (s_X7_readNumber (x_l X) V b M 0 T _ _ a 0 99999 h4127.1 hk (by omega) (by omega) (by omega)) cb_X7_readNumber ml_X7_130 im_X7_readNumber se_X7_readNumber (fun _ => o3) h4127 hk rfl rfl (rest := []) rfl (Nat.le_of_ble_eq_true rfl) ⟨Nat.le_of_ble_eq_true rfl, Nat.le_of_ble_eq_true rfl⟩ ⟨Nat.le_of_ble_eq_true rfl, Nat.le_of_ble_eq_true rfl⟩ (fun r σ4130 hp => ?_)
      obtain ⟨h4132, n4133, hn4133, rfl⟩ := hp
      have h4131 := HK.trans h4127 h4132 (by decide)
      refine m_istore_n F (lv' := [(3, .int (nI n4133)), (2, .int (nI n4129)), (1, .int (-1)), (0, .ref a)]) e_X7_readOption_40 (by decide) rfl ?_
      refine m_aload_n F rfl e_X7_readOption_41 ?_
      refine t_get F e_X7_readOption_42 fl_X7_55 (fun _ => o3) h4131 hk rfl (fun v hv f4134 => ?_)
      obtain ⟨x4135, hx4135, rfl⟩ := hv
      replace hx4135 : 0 = 0 → x4135 ≠ 0 := hx4135
      refine m_if_ne F e_X7_readOption_45 (fun q45 => ?_) (fun q45 => ?_)
      · exact m_vret F hQ e_X7_readOption_58 (⟨(h4131.mono (M' := M) (Z' := Z) (by omega) (by intro e; first | rfl | assumption | omega)), rfl⟩)
      · exact absurd q45 (hx4135 rfl)
  · have c9 : n4099 ≥ 4 := by have hh := mt (nI_ltI (a := n4099) (b := 4) (by omega) (by omega)).mpr q9; omega
    refine m_iconst F (v := 2) (by decide) e_X7_readOption_12 ?_
    refine m_goto F e_X7_readOption_13 ?_
    refine t_callV F e_X7_readOption_17 (s_X7_startLine (x_l X) V b M Z T _ _ a 2 h1.1 hk  (by omega)) cb_X7_startLine ml_X7_124 im_X7_startLine se_X7_startLine (fun _ => o3) h1 hk rfl rfl (rest := []) rfl (Nat.le_of_ble_eq_true rfl) ⟨Nat.le_of_ble_eq_true rfl, Nat.le_of_ble_eq_true rfl⟩ ⟨Nat.le_of_ble_eq_true rfl, Nat.le_of_ble_eq_true rfl⟩ (fun r σ4136 hp => ?_)
    obtain ⟨h4138, rfl⟩ := hp
    have h4137 := HK.trans h1 h4138 (by decide)
    refine m_aload_n F rfl e_X7_readOption_20 ?_
    refine t_callV F e_X7_readOption_21 (s_X7_readToldName (x_l X) V b M Z T _ _ a  h4137.1 hk  (by omega)) cb_X7_readToldName ml_X7_138 im_X7_readToldName se_X7_readToldName (fun _ => o3) h4137 hk rfl rfl (rest := []) rfl (Nat.le_of_ble_eq_true rfl) ⟨Nat.le_of_ble_eq_true rfl, Nat.le_of_ble_eq_true rfl⟩ ⟨Nat.le_of_ble_eq_true rfl, Nat.le_of_ble_eq_true rfl⟩ (fun r σ4139 hp => ?_)
    obtain ⟨h4141, c4142⟩ := hp
    have h4140 := HK.trans h4137 h4141 (by decide)
    rcases c4142 with ⟨n4143, hn4143, rfl⟩ | ⟨h4144, rfl⟩
    · refine m_istore_n F (lv' := [(1, .int (nI n4143)), (0, .ref a)]) e_X7_readOption_24 (by decide) rfl ?_
      refine m_aload_n F rfl e_X7_readOption_25 ?_
      refine m_iconst F (v := 1) (by decide) e_X7_readOption_26 ?_
      refine m_bipush F (v := 24) (by decide) e_X7_readOption_27 ?_
      refine t_callV F e_X7_readOption_29 (s_X7_readNumber (x_l X) V b M Z T _ _ a 1 24 h4140.1 hk (by omega) (by omega) (by omega)) cb_X7_readNumber ml_X7_130 im_X7_readNumber se_X7_readNumber (fun _ => o3) h4140 hk rfl rfl (rest := []) rfl (Nat.le_of_ble_eq_true rfl) ⟨Nat.le_of_ble_eq_true rfl, Nat.le_of_ble_eq_true rfl⟩ ⟨Nat.le_of_ble_eq_true rfl, Nat.le_of_ble_eq_true rfl⟩ (fun r σ4145 hp => ?_)
      obtain ⟨h4147, n4148, hn4148, rfl⟩ := hp
      have h4146 := HK.trans h4140 h4147 (by decide)
      refine m_istore_n F (lv' := [(2, .int (nI n4148)), (1, .int (nI n4143)), (0, .ref a)]) e_X7_readOption_32 (by decide) rfl ?_
      refine m_aload_n F rfl e_X7_readOption_33 ?_
      refine m_iconst F (v := 0) (by decide) e_X7_readOption_34 ?_
      refine m_ldc F kc_X7_141 e_X7_readOption_35 ?_
      refine t_callV F e_X7_readOption_37 (s_X7_readNumber (x_l X) V b M Z T _ _ a 0 99999 h4146.1 hk (by omega) (by omega) (by omega)) cb_X7_readNumber ml_X7_130 im_X7_readNumber se_X7_readNumber (fun _ => o3) h4146 hk rfl rfl (rest := []) rfl (Nat.le_of_ble_eq_true rfl) ⟨Nat.le_of_ble_eq_true rfl, Nat.le_of_ble_eq_true rfl⟩ ⟨Nat.le_of_ble_eq_true rfl, Nat.le_of_ble_eq_true rfl⟩ (fun r σ4149 hp => ?_)
      obtain ⟨h4151, n4152, hn4152, rfl⟩ := hp
      have h4150 := HK.trans h4146 h4151 (by decide)
      refine m_istore_n F (lv' := [(3, .int (nI n4152)), (2, .int (nI n4148)), (1, .int (nI n4143)), (0, .ref a)]) e_X7_readOption_40 (by decide) rfl ?_
      refine m_aload_n F rfl e_X7_readOption_41 ?_
      refine t_get F e_X7_readOption_42 fl_X7_55 (fun _ => o3) h4150 hk rfl (fun v hv f4153 => ?_)
      obtain ⟨x4154, hx4154, rfl⟩ := hv
      replace hx4154 : Z = 0 → x4154 ≠ 0 := hx4154
      refine m_if_ne F e_X7_readOption_45 (fun q45 => ?_) (fun q45 => ?_)
      · exact m_vret F hQ e_X7_readOption_58 (⟨h4150, rfl⟩)
      · refine m_aload_n F rfl e_X7_readOption_48 ?_
        refine t_get F e_X7_readOption_49 fl_X7_23 (fun _ => o3) h4150 hk rfl (fun v hv f4155 => ?_)
        obtain ⟨r4156, k4157, rfl⟩ := hv
        refine m_iload_n F rfl e_X7_readOption_52 ?_
        refine m_iload_n F rfl e_X7_readOption_53 ?_
        refine m_iload_n F rfl e_X7_readOption_54 ?_
        refine t_callV F e_X7_readOption_55 (s_X2_addOption (x_l X) V b M Z T _ _ r4156 n4143 n4148 (nI n4152) h4150.1 k4157 (by omega) (by omega) (by omega)) cb_X2_addOption ml_X7_182 im_X2_addOption se_X2_addOption (fun _ => o7) h4150 k4157 rfl rfl (rest := []) rfl (Nat.le_of_ble_eq_true rfl) ⟨Nat.le_of_ble_eq_true rfl, Nat.le_of_ble_eq_true rfl⟩ ⟨Nat.le_of_ble_eq_true rfl, Nat.le_of_ble_eq_true rfl⟩ (fun r σ4158 hp => ?_)
        obtain ⟨h4160, rfl⟩ := hp
        have h4159 := HK.trans h4150 h4160 (by decide)
        exact m_vret F hQ e_X7_readOption_58 (⟨h4159, rfl⟩)
    · have h4161 : HK V (b, M, 0, T) [0, 1, 2, 4, 5, 6, 8, 9, 10, 11, 12, 13, 14, 15, 16, 17, 18] _ _ := ⟨h4144, h4140.2⟩
      refine m_istore_n F (lv' := [(1, .int (-1)), (0, .ref a)]) e_X7_readOption_24 (by decide) rfl ?_
      refine m_aload_n F rfl e_X7_readOption_25 ?_
      refine m_iconst F (v := 1) (by decide) e_X7_readOption_26 ?_
      refine m_bipush F (v := 24) (by decide) e_X7_readOption_27 ?_
      refine t_callV F e_X7_readOption_29 (s_X7_readNumber (x_l X) V b M 0 T _ _ a 1 24 h4161.1 hk (by omega) (by omega) (by omega)) cb_X7_readNumber ml_X7_130 im_X7_readNumber se_X7_readNumber (fun _ => o3) h4161 hk rfl rfl (rest := []) rfl (Nat.le_of_ble_eq_true rfl) ⟨Nat.le_of_ble_eq_true rfl, Nat.le_of_ble_eq_true rfl⟩ ⟨Nat.le_of_ble_eq_true rfl, Nat.le_of_ble_eq_true rfl⟩ (fun r σ4162 hp => ?_)
      obtain ⟨h4164, n4165, hn4165, rfl⟩ := hp
      have h4163 := HK.trans h4161 h4164 (by decide)
      refine m_istore_n F (lv' := [(2, .int (nI n4165)), (1, .int (-1)), (0, .ref a)]) e_X7_readOption_32 (by decide) rfl ?_
      refine m_aload_n F rfl e_X7_readOption_33 ?_
      refine m_iconst F (v := 0) (by decide) e_X7_readOption_34 ?_
      refine m_ldc F kc_X7_141 e_X7_readOption_35 ?_
      refine t_callV F e_X7_readOption_37 (s_X7_readNumber (x_l X) V b M 0 T _ _ a 0 99999 h4163.1 hk (by omega) (by omega) (by omega)) cb_X7_readNumber ml_X7_130 im_X7_readNumber se_X7_readNumber (fun _ => o3) h4163 hk rfl rfl (rest := []) rfl (Nat.le_of_ble_eq_true rfl) ⟨Nat.le_of_ble_eq_true rfl, Nat.le_of_ble_eq_true rfl⟩ ⟨Nat.le_of_ble_eq_true rfl, Nat.le_of_ble_eq_true rfl⟩ (fun r σ4166 hp => ?_)
      obtain ⟨h4168, n4169, hn4169, rfl⟩ := hp
      have h4167 := HK.trans h4163 h4168 (by decide)
      refine m_istore_n F (lv' := [(3, .int (nI n4169)), (2, .int (nI n4165)), (1, .int (-1)), (0, .ref a)]) e_X7_readOption_40 (by decide) rfl ?_
      refine m_aload_n F rfl e_X7_readOption_41 ?_
      refine t_get F e_X7_readOption_42 fl_X7_55 (fun _ => o3) h4167 hk rfl (fun v hv f4170 => ?_)
      obtain ⟨x4171, hx4171, rfl⟩ := hv
      replace hx4171 : 0 = 0 → x4171 ≠ 0 := hx4171
      refine m_if_ne F e_X7_readOption_45 (fun q45 => ?_) (fun q45 => ?_)
      · exact m_vret F hQ e_X7_readOption_58 (⟨(h4167.mono (M' := M) (Z' := Z) (by omega) (by intro e; first | rfl | assumption | omega)), rfl⟩)
      · exact absurd q45 (hx4171 rfl)
set_option maxRecDepth 20000 in
theorem s_X7_readEarly (l : Launch) (V : VX) (b M Z T N : Nat) (σ : Mem) (a : Nat) (h0 : HT V (b, M, Z, T) σ) (hk : kA b a = 3) (hM : M + 0 ≤ 1000000000) : Ct l V yX7_readEarly cX7_readEarly 2 none 4 0 0 N σ [.ref a] (fun r τ => HK V (b, M, Z, T) [0, 1, 2, 5, 6, 7, 8, 9, 10, 11, 12, 13, 14, 16, 17, 18, 19] σ τ ∧ r = none) := by
  refine Ct.of (by decide) (Nat.le_of_ble_eq_true rfl) [(0, .ref a)] rfl (fun X hX F hQ => ?_)
  have h1 : HK V (b, M, Z, T) [0, 1, 2, 5, 6, 7, 8, 9, 10, 11, 12, 13, 14, 16, 17, 18, 19] σ σ := HK.start h0
  refine m_aload_n F rfl e_X7_readEarly_0 ?_
  refine m_iconst F (v := 0) (by decide) e_X7_readEarly_1 ?_
  refine t_callV F e_X7_readEarly_2 (s_X7_startLine (x_l X) V b M Z T _ _ a 0 h1.1 hk  (by omega)) cb_X7_startLine ml_X7_124 im_X7_startLine se_X7_startLine (fun _ => o3) h1 hk rfl rfl (rest := []) rfl (Nat.le_of_ble_eq_true rfl) ⟨Nat.le_of_ble_eq_true rfl, Nat.le_of_ble_eq_true rfl⟩ ⟨Nat.le_of_ble_eq_true rfl, Nat.le_of_ble_eq_true rfl⟩ (fun r σ4172 hp => ?_)
  obtain ⟨h4174, rfl⟩ := hp
  have h4173 := HK.trans h1 h4174 (by decide)
  refine m_aload_n F rfl e_X7_readEarly_5 ?_
  refine m_iconst F (v := 1) (by decide) e_X7_readEarly_6 ?_
  refine t_callV F e_X7_readEarly_7 (s_X7_readNameOnce (x_l X) V b M Z T _ _ a 1 h4173.1 hk  (by omega)) cb_X7_readNameOnce ml_X7_152 im_X7_readNameOnce se_X7_readNameOnce (fun _ => o3) h4173 hk rfl rfl (rest := []) rfl (Nat.le_of_ble_eq_true rfl) ⟨Nat.le_of_ble_eq_true rfl, Nat.le_of_ble_eq_true rfl⟩ ⟨Nat.le_of_ble_eq_true rfl, Nat.le_of_ble_eq_true rfl⟩ (fun r σ4175 hp => ?_)
  obtain ⟨h4177, c4178⟩ := hp
  have h4176 := HK.trans h4173 h4177 (by decide)
  rcases c4178 with ⟨n4179, hn4179, rfl⟩ | ⟨h4180, rfl⟩
  · refine m_istore_n F (lv' := [(1, .int (nI n4179)), (0, .ref a)]) e_X7_readEarly_10 (by decide) rfl ?_
    refine m_aload_n F rfl e_X7_readEarly_11 ?_
    refine t_get F e_X7_readEarly_12 fl_X7_55 (fun _ => o3) h4176 hk rfl (fun v hv f4181 => ?_)
    obtain ⟨x4182, hx4182, rfl⟩ := hv
    replace hx4182 : Z = 0 → x4182 ≠ 0 := hx4182
    refine m_if_ne F e_X7_readEarly_15 (fun q15 => ?_) (fun q15 => ?_)
    · exact m_vret F hQ e_X7_readEarly_31 (⟨h4176, rfl⟩)
    · refine m_aload_n F rfl e_X7_readEarly_18 ?_
      refine t_get F e_X7_readEarly_19 fl_X7_23 (fun _ => o3) h4176 hk rfl (fun v hv f4183 => ?_)
      obtain ⟨r4184, k4185, rfl⟩ := hv
      refine t_get F e_X7_readEarly_22 fl_X7_142 (fun _ => o7) h4176 k4185 rfl (fun v hv f4186 => ?_)
      obtain rfl : v = .ref (r4184 + 1) := hv
      refine m_iload_n F rfl e_X7_readEarly_25 ?_
      refine t_aald8 F (j := n4179) e_X7_readEarly_26 rfl h4176 (kA_7 k4185 (r := 1) (by decide)) (nI_clamp (by omega)) (vp_in_nI (by omega) (by decide)) ?_
      refine m_iconst F (v := 1) (by decide) e_X7_readEarly_27 ?_
      refine t_put F e_X7_readEarly_28 fp_X7_156 (fun _ => o15) h4176 (kA_8 (kA_7 k4185 (r := 1) (by decide)) (j := n4179) (by omega)) rfl ⟨1, (show 1 ≤ 1 by omega), rfl⟩ (by decide) rfl (by decide) (fun σ4187 h4188 g4189 g4190 f4191 => ?_)
      exact m_vret F hQ e_X7_readEarly_31 (⟨h4188, rfl⟩)
  · have h4192 : HK V (b, M, 0, T) [0, 1, 2, 5, 6, 7, 8, 9, 10, 11, 12, 13, 14, 16, 17, 18, 19] _ _ := ⟨h4180, h4176.2⟩
    refine m_istore_n F (lv' := [(1, .int (-1)), (0, .ref a)]) e_X7_readEarly_10 (by decide) rfl ?_
    refine m_aload_n F rfl e_X7_readEarly_11 ?_
    refine t_get F e_X7_readEarly_12 fl_X7_55 (fun _ => o3) h4192 hk rfl (fun v hv f4193 => ?_)
    obtain ⟨x4194, hx4194, rfl⟩ := hv
    replace hx4194 : 0 = 0 → x4194 ≠ 0 := hx4194
    refine m_if_ne F e_X7_readEarly_15 (fun q15 => ?_) (fun q15 => ?_)
    · exact m_vret F hQ e_X7_readEarly_31 (⟨(h4192.mono (M' := M) (Z' := Z) (by omega) (by intro e; first | rfl | assumption | omega)), rfl⟩)
    · exact absurd q15 (hx4194 rfl)
set_option maxRecDepth 20000 in
theorem s_X7_readFair (l : Launch) (V : VX) (b M Z T N : Nat) (σ : Mem) (a : Nat) (h0 : HT V (b, M, Z, T) σ) (hk : kA b a = 3) (hM : M + 0 ≤ 1000000000) : Ct l V yX7_readFair cX7_readFair 3 none 4 0 0 N σ [.ref a] (fun r τ => HK V (b, M, Z, T) [0, 1, 2, 5, 6, 7, 8, 9, 10, 11, 12, 13, 14, 16, 17, 18, 19] σ τ ∧ r = none) := by
  refine Ct.of (by decide) (Nat.le_of_ble_eq_true rfl) [(0, .ref a)] rfl (fun X hX F hQ => ?_)
  have h1 : HK V (b, M, Z, T) [0, 1, 2, 5, 6, 7, 8, 9, 10, 11, 12, 13, 14, 16, 17, 18, 19] σ σ := HK.start h0
  refine m_aload_n F rfl e_X7_readFair_0 ?_
  refine m_iconst F (v := 0) (by decide) e_X7_readFair_1 ?_
  refine t_callV F e_X7_readFair_2 (s_X7_startLine (x_l X) V b M Z T _ _ a 0 h1.1 hk  (by omega)) cb_X7_startLine ml_X7_124 im_X7_startLine se_X7_startLine (fun _ => o3) h1 hk rfl rfl (rest := []) rfl (Nat.le_of_ble_eq_true rfl) ⟨Nat.le_of_ble_eq_true rfl, Nat.le_of_ble_eq_true rfl⟩ ⟨Nat.le_of_ble_eq_true rfl, Nat.le_of_ble_eq_true rfl⟩ (fun r σ4195 hp => ?_)
  obtain ⟨h4197, rfl⟩ := hp
  have h4196 := HK.trans h1 h4197 (by decide)
  refine m_aload_n F rfl e_X7_readFair_5 ?_
  refine m_iconst F (v := 2) (by decide) e_X7_readFair_6 ?_
  refine t_callV F e_X7_readFair_7 (s_X7_readNameOnce (x_l X) V b M Z T _ _ a 2 h4196.1 hk  (by omega)) cb_X7_readNameOnce ml_X7_152 im_X7_readNameOnce se_X7_readNameOnce (fun _ => o3) h4196 hk rfl rfl (rest := []) rfl (Nat.le_of_ble_eq_true rfl) ⟨Nat.le_of_ble_eq_true rfl, Nat.le_of_ble_eq_true rfl⟩ ⟨Nat.le_of_ble_eq_true rfl, Nat.le_of_ble_eq_true rfl⟩ (fun r σ4198 hp => ?_)
  obtain ⟨h4200, c4201⟩ := hp
  have h4199 := HK.trans h4196 h4200 (by decide)
  rcases c4201 with ⟨n4202, hn4202, rfl⟩ | ⟨h4203, rfl⟩
  · refine m_istore_n F (lv' := [(1, .int (nI n4202)), (0, .ref a)]) e_X7_readFair_10 (by decide) rfl ?_
    refine m_aload_n F rfl e_X7_readFair_11 ?_
    refine m_iconst F (v := 1) (by decide) e_X7_readFair_12 ?_
    refine m_ldc F kc_X7_159 e_X7_readFair_13 ?_
    refine t_callV F e_X7_readFair_15 (s_X7_readNumber (x_l X) V b M Z T _ _ a 1 9999999 h4199.1 hk (by omega) (by omega) (by omega)) cb_X7_readNumber ml_X7_130 im_X7_readNumber se_X7_readNumber (fun _ => o3) h4199 hk rfl rfl (rest := []) rfl (Nat.le_of_ble_eq_true rfl) ⟨Nat.le_of_ble_eq_true rfl, Nat.le_of_ble_eq_true rfl⟩ ⟨Nat.le_of_ble_eq_true rfl, Nat.le_of_ble_eq_true rfl⟩ (fun r σ4204 hp => ?_)
    obtain ⟨h4206, n4207, hn4207, rfl⟩ := hp
    have h4205 := HK.trans h4199 h4206 (by decide)
    refine m_istore_n F (lv' := [(2, .int (nI n4207)), (1, .int (nI n4202)), (0, .ref a)]) e_X7_readFair_18 (by decide) rfl ?_
    refine m_aload_n F rfl e_X7_readFair_19 ?_
    refine t_get F e_X7_readFair_20 fl_X7_55 (fun _ => o3) h4205 hk rfl (fun v hv f4208 => ?_)
    obtain ⟨x4209, hx4209, rfl⟩ := hv
    replace hx4209 : Z = 0 → x4209 ≠ 0 := hx4209
    refine m_if_ne F e_X7_readFair_23 (fun q23 => ?_) (fun q23 => ?_)
    · exact m_vret F hQ e_X7_readFair_39 (⟨h4205, rfl⟩)
    · refine m_aload_n F rfl e_X7_readFair_26 ?_
      refine t_get F e_X7_readFair_27 fl_X7_23 (fun _ => o3) h4205 hk rfl (fun v hv f4210 => ?_)
      obtain ⟨r4211, k4212, rfl⟩ := hv
      refine t_get F e_X7_readFair_30 fl_X7_142 (fun _ => o7) h4205 k4212 rfl (fun v hv f4213 => ?_)
      obtain rfl : v = .ref (r4211 + 1) := hv
      refine m_iload_n F rfl e_X7_readFair_33 ?_
      refine t_aald8 F (j := n4202) e_X7_readFair_34 rfl h4205 (kA_7 k4212 (r := 1) (by decide)) (nI_clamp (by omega)) (vp_in_nI (by omega) (by decide)) ?_
      refine m_iload_n F rfl e_X7_readFair_35 ?_
      refine t_put F e_X7_readFair_36 fp_X7_160 (fun _ => o15) h4205 (kA_8 (kA_7 k4212 (r := 1) (by decide)) (j := n4202) (by omega)) rfl ⟨_, rfl⟩ rfl rfl (by decide) (fun σ4214 h4215 g4216 g4217 f4218 => ?_)
      exact m_vret F hQ e_X7_readFair_39 (⟨h4215, rfl⟩)
  · have h4219 : HK V (b, M, 0, T) [0, 1, 2, 5, 6, 7, 8, 9, 10, 11, 12, 13, 14, 16, 17, 18, 19] _ _ := ⟨h4203, h4199.2⟩
    refine m_istore_n F (lv' := [(1, .int (-1)), (0, .ref a)]) e_X7_readFair_10 (by decide) rfl ?_
    refine m_aload_n F rfl e_X7_readFair_11 ?_
    refine m_iconst F (v := 1) (by decide) e_X7_readFair_12 ?_
    refine m_ldc F kc_X7_159 e_X7_readFair_13 ?_
    refine t_callV F e_X7_readFair_15 (s_X7_readNumber (x_l X) V b M 0 T _ _ a 1 9999999 h4219.1 hk (by omega) (by omega) (by omega)) cb_X7_readNumber ml_X7_130 im_X7_readNumber se_X7_readNumber (fun _ => o3) h4219 hk rfl rfl (rest := []) rfl (Nat.le_of_ble_eq_true rfl) ⟨Nat.le_of_ble_eq_true rfl, Nat.le_of_ble_eq_true rfl⟩ ⟨Nat.le_of_ble_eq_true rfl, Nat.le_of_ble_eq_true rfl⟩ (fun r σ4220 hp => ?_)
    obtain ⟨h4222, n4223, hn4223, rfl⟩ := hp
    have h4221 := HK.trans h4219 h4222 (by decide)
    refine m_istore_n F (lv' := [(2, .int (nI n4223)), (1, .int (-1)), (0, .ref a)]) e_X7_readFair_18 (by decide) rfl ?_
    refine m_aload_n F rfl e_X7_readFair_19 ?_
    refine t_get F e_X7_readFair_20 fl_X7_55 (fun _ => o3) h4221 hk rfl (fun v hv f4224 => ?_)
    obtain ⟨x4225, hx4225, rfl⟩ := hv
    replace hx4225 : 0 = 0 → x4225 ≠ 0 := hx4225
    refine m_if_ne F e_X7_readFair_23 (fun q23 => ?_) (fun q23 => ?_)
    · exact m_vret F hQ e_X7_readFair_39 (⟨(h4221.mono (M' := M) (Z' := Z) (by omega) (by intro e; first | rfl | assumption | omega)), rfl⟩)
    · exact absurd q23 (hx4225 rfl)
set_option maxRecDepth 20000 in
theorem s_X7_readFee (l : Launch) (V : VX) (b M Z T N : Nat) (σ : Mem) (a : Nat) (h0 : HT V (b, M, Z, T) σ) (hk : kA b a = 3) (hM : M + 0 ≤ 1000000000) : Ct l V yX7_readFee cX7_readFee 3 none 4 0 0 N σ [.ref a] (fun r τ => HK V (b, M, Z, T) [0, 1, 2, 5, 6, 7, 8, 9, 10, 11, 12, 13, 14, 16, 17, 18, 19] σ τ ∧ r = none) := by
  refine Ct.of (by decide) (Nat.le_of_ble_eq_true rfl) [(0, .ref a)] rfl (fun X hX F hQ => ?_)
  have h1 : HK V (b, M, Z, T) [0, 1, 2, 5, 6, 7, 8, 9, 10, 11, 12, 13, 14, 16, 17, 18, 19] σ σ := HK.start h0
  refine m_aload_n F rfl e_X7_readFee_0 ?_
  refine m_iconst F (v := 0) (by decide) e_X7_readFee_1 ?_
  refine t_callV F e_X7_readFee_2 (s_X7_startLine (x_l X) V b M Z T _ _ a 0 h1.1 hk  (by omega)) cb_X7_startLine ml_X7_124 im_X7_startLine se_X7_startLine (fun _ => o3) h1 hk rfl rfl (rest := []) rfl (Nat.le_of_ble_eq_true rfl) ⟨Nat.le_of_ble_eq_true rfl, Nat.le_of_ble_eq_true rfl⟩ ⟨Nat.le_of_ble_eq_true rfl, Nat.le_of_ble_eq_true rfl⟩ (fun r σ4226 hp => ?_)
  obtain ⟨h4228, rfl⟩ := hp
  have h4227 := HK.trans h1 h4228 (by decide)
  refine m_aload_n F rfl e_X7_readFee_5 ?_
  refine m_iconst F (v := 4) (by decide) e_X7_readFee_6 ?_
  refine t_callV F e_X7_readFee_7 (s_X7_readNameOnce (x_l X) V b M Z T _ _ a 4 h4227.1 hk  (by omega)) cb_X7_readNameOnce ml_X7_152 im_X7_readNameOnce se_X7_readNameOnce (fun _ => o3) h4227 hk rfl rfl (rest := []) rfl (Nat.le_of_ble_eq_true rfl) ⟨Nat.le_of_ble_eq_true rfl, Nat.le_of_ble_eq_true rfl⟩ ⟨Nat.le_of_ble_eq_true rfl, Nat.le_of_ble_eq_true rfl⟩ (fun r σ4229 hp => ?_)
  obtain ⟨h4231, c4232⟩ := hp
  have h4230 := HK.trans h4227 h4231 (by decide)
  rcases c4232 with ⟨n4233, hn4233, rfl⟩ | ⟨h4234, rfl⟩
  · refine m_istore_n F (lv' := [(1, .int (nI n4233)), (0, .ref a)]) e_X7_readFee_10 (by decide) rfl ?_
    refine m_aload_n F rfl e_X7_readFee_11 ?_
    refine m_iconst F (v := 0) (by decide) e_X7_readFee_12 ?_
    refine m_ldc F kc_X7_141 e_X7_readFee_13 ?_
    refine t_callV F e_X7_readFee_15 (s_X7_readNumber (x_l X) V b M Z T _ _ a 0 99999 h4230.1 hk (by omega) (by omega) (by omega)) cb_X7_readNumber ml_X7_130 im_X7_readNumber se_X7_readNumber (fun _ => o3) h4230 hk rfl rfl (rest := []) rfl (Nat.le_of_ble_eq_true rfl) ⟨Nat.le_of_ble_eq_true rfl, Nat.le_of_ble_eq_true rfl⟩ ⟨Nat.le_of_ble_eq_true rfl, Nat.le_of_ble_eq_true rfl⟩ (fun r σ4235 hp => ?_)
    obtain ⟨h4237, n4238, hn4238, rfl⟩ := hp
    have h4236 := HK.trans h4230 h4237 (by decide)
    refine m_istore_n F (lv' := [(2, .int (nI n4238)), (1, .int (nI n4233)), (0, .ref a)]) e_X7_readFee_18 (by decide) rfl ?_
    refine m_aload_n F rfl e_X7_readFee_19 ?_
    refine t_get F e_X7_readFee_20 fl_X7_55 (fun _ => o3) h4236 hk rfl (fun v hv f4239 => ?_)
    obtain ⟨x4240, hx4240, rfl⟩ := hv
    replace hx4240 : Z = 0 → x4240 ≠ 0 := hx4240
    refine m_if_ne F e_X7_readFee_23 (fun q23 => ?_) (fun q23 => ?_)
    · exact m_vret F hQ e_X7_readFee_39 (⟨h4236, rfl⟩)
    · refine m_aload_n F rfl e_X7_readFee_26 ?_
      refine t_get F e_X7_readFee_27 fl_X7_23 (fun _ => o3) h4236 hk rfl (fun v hv f4241 => ?_)
      obtain ⟨r4242, k4243, rfl⟩ := hv
      refine t_get F e_X7_readFee_30 fl_X7_142 (fun _ => o7) h4236 k4243 rfl (fun v hv f4244 => ?_)
      obtain rfl : v = .ref (r4242 + 1) := hv
      refine m_iload_n F rfl e_X7_readFee_33 ?_
      refine t_aald8 F (j := n4233) e_X7_readFee_34 rfl h4236 (kA_7 k4243 (r := 1) (by decide)) (nI_clamp (by omega)) (vp_in_nI (by omega) (by decide)) ?_
      refine m_iload_n F rfl e_X7_readFee_35 ?_
      refine t_put F e_X7_readFee_36 fp_X7_163 (fun _ => o15) h4236 (kA_8 (kA_7 k4243 (r := 1) (by decide)) (j := n4233) (by omega)) rfl ⟨_, rfl⟩ rfl rfl (by decide) (fun σ4245 h4246 g4247 g4248 f4249 => ?_)
      exact m_vret F hQ e_X7_readFee_39 (⟨h4246, rfl⟩)
  · have h4250 : HK V (b, M, 0, T) [0, 1, 2, 5, 6, 7, 8, 9, 10, 11, 12, 13, 14, 16, 17, 18, 19] _ _ := ⟨h4234, h4230.2⟩
    refine m_istore_n F (lv' := [(1, .int (-1)), (0, .ref a)]) e_X7_readFee_10 (by decide) rfl ?_
    refine m_aload_n F rfl e_X7_readFee_11 ?_
    refine m_iconst F (v := 0) (by decide) e_X7_readFee_12 ?_
    refine m_ldc F kc_X7_141 e_X7_readFee_13 ?_
    refine t_callV F e_X7_readFee_15 (s_X7_readNumber (x_l X) V b M 0 T _ _ a 0 99999 h4250.1 hk (by omega) (by omega) (by omega)) cb_X7_readNumber ml_X7_130 im_X7_readNumber se_X7_readNumber (fun _ => o3) h4250 hk rfl rfl (rest := []) rfl (Nat.le_of_ble_eq_true rfl) ⟨Nat.le_of_ble_eq_true rfl, Nat.le_of_ble_eq_true rfl⟩ ⟨Nat.le_of_ble_eq_true rfl, Nat.le_of_ble_eq_true rfl⟩ (fun r σ4251 hp => ?_)
    obtain ⟨h4253, n4254, hn4254, rfl⟩ := hp
    have h4252 := HK.trans h4250 h4253 (by decide)
    refine m_istore_n F (lv' := [(2, .int (nI n4254)), (1, .int (-1)), (0, .ref a)]) e_X7_readFee_18 (by decide) rfl ?_
    refine m_aload_n F rfl e_X7_readFee_19 ?_
    refine t_get F e_X7_readFee_20 fl_X7_55 (fun _ => o3) h4252 hk rfl (fun v hv f4255 => ?_)
    obtain ⟨x4256, hx4256, rfl⟩ := hv
    replace hx4256 : 0 = 0 → x4256 ≠ 0 := hx4256
    refine m_if_ne F e_X7_readFee_23 (fun q23 => ?_) (fun q23 => ?_)
    · exact m_vret F hQ e_X7_readFee_39 (⟨(h4252.mono (M' := M) (Z' := Z) (by omega) (by intro e; first | rfl | assumption | omega)), rfl⟩)
    · exact absurd q23 (hx4256 rfl)
set_option maxRecDepth 20000 in
theorem s_X7_readTied (l : Launch) (V : VX) (b M Z T N : Nat) (σ : Mem) (a : Nat) (h0 : HT V (b, M, Z, T) σ) (hk : kA b a = 3) (hM : M + 0 ≤ 1000000000) : Ct l V yX7_readTied cX7_readTied 2 none 4 0 0 N σ [.ref a] (fun r τ => HK V (b, M, Z, T) [0, 1, 2, 5, 6, 7, 8, 9, 10, 11, 12, 13, 14, 16, 17, 18, 19] σ τ ∧ r = none) := by
  refine Ct.of (by decide) (Nat.le_of_ble_eq_true rfl) [(0, .ref a)] rfl (fun X hX F hQ => ?_)
  have h1 : HK V (b, M, Z, T) [0, 1, 2, 5, 6, 7, 8, 9, 10, 11, 12, 13, 14, 16, 17, 18, 19] σ σ := HK.start h0
  refine m_aload_n F rfl e_X7_readTied_0 ?_
  refine m_iconst F (v := 0) (by decide) e_X7_readTied_1 ?_
  refine t_callV F e_X7_readTied_2 (s_X7_startLine (x_l X) V b M Z T _ _ a 0 h1.1 hk  (by omega)) cb_X7_startLine ml_X7_124 im_X7_startLine se_X7_startLine (fun _ => o3) h1 hk rfl rfl (rest := []) rfl (Nat.le_of_ble_eq_true rfl) ⟨Nat.le_of_ble_eq_true rfl, Nat.le_of_ble_eq_true rfl⟩ ⟨Nat.le_of_ble_eq_true rfl, Nat.le_of_ble_eq_true rfl⟩ (fun r σ4257 hp => ?_)
  obtain ⟨h4259, rfl⟩ := hp
  have h4258 := HK.trans h1 h4259 (by decide)
  refine m_aload_n F rfl e_X7_readTied_5 ?_
  refine m_bipush F (v := 8) (by decide) e_X7_readTied_6 ?_
  refine t_callV F e_X7_readTied_8 (s_X7_readNameOnce (x_l X) V b M Z T _ _ a 8 h4258.1 hk  (by omega)) cb_X7_readNameOnce ml_X7_152 im_X7_readNameOnce se_X7_readNameOnce (fun _ => o3) h4258 hk rfl rfl (rest := []) rfl (Nat.le_of_ble_eq_true rfl) ⟨Nat.le_of_ble_eq_true rfl, Nat.le_of_ble_eq_true rfl⟩ ⟨Nat.le_of_ble_eq_true rfl, Nat.le_of_ble_eq_true rfl⟩ (fun r σ4260 hp => ?_)
  obtain ⟨h4262, c4263⟩ := hp
  have h4261 := HK.trans h4258 h4262 (by decide)
  rcases c4263 with ⟨n4264, hn4264, rfl⟩ | ⟨h4265, rfl⟩
  · refine m_istore_n F (lv' := [(1, .int (nI n4264)), (0, .ref a)]) e_X7_readTied_11 (by decide) rfl ?_
    refine m_aload_n F rfl e_X7_readTied_12 ?_
    refine t_get F e_X7_readTied_13 fl_X7_55 (fun _ => o3) h4261 hk rfl (fun v hv f4266 => ?_)
    obtain ⟨x4267, hx4267, rfl⟩ := hv
    replace hx4267 : Z = 0 → x4267 ≠ 0 := hx4267
    refine m_if_ne F e_X7_readTied_16 (fun q16 => ?_) (fun q16 => ?_)
    · exact m_vret F hQ e_X7_readTied_32 (⟨h4261, rfl⟩)
    · refine m_aload_n F rfl e_X7_readTied_19 ?_
      refine t_get F e_X7_readTied_20 fl_X7_23 (fun _ => o3) h4261 hk rfl (fun v hv f4268 => ?_)
      obtain ⟨r4269, k4270, rfl⟩ := hv
      refine t_get F e_X7_readTied_23 fl_X7_142 (fun _ => o7) h4261 k4270 rfl (fun v hv f4271 => ?_)
      obtain rfl : v = .ref (r4269 + 1) := hv
      refine m_iload_n F rfl e_X7_readTied_26 ?_
      refine t_aald8 F (j := n4264) e_X7_readTied_27 rfl h4261 (kA_7 k4270 (r := 1) (by decide)) (nI_clamp (by omega)) (vp_in_nI (by omega) (by decide)) ?_
      refine m_iconst F (v := 1) (by decide) e_X7_readTied_28 ?_
      refine t_put F e_X7_readTied_29 fp_X7_166 (fun _ => o15) h4261 (kA_8 (kA_7 k4270 (r := 1) (by decide)) (j := n4264) (by omega)) rfl ⟨1, (show 1 ≤ 1 by omega), rfl⟩ (by decide) rfl (by decide) (fun σ4272 h4273 g4274 g4275 f4276 => ?_)
      exact m_vret F hQ e_X7_readTied_32 (⟨h4273, rfl⟩)
  · have h4277 : HK V (b, M, 0, T) [0, 1, 2, 5, 6, 7, 8, 9, 10, 11, 12, 13, 14, 16, 17, 18, 19] _ _ := ⟨h4265, h4261.2⟩
    refine m_istore_n F (lv' := [(1, .int (-1)), (0, .ref a)]) e_X7_readTied_11 (by decide) rfl ?_
    refine m_aload_n F rfl e_X7_readTied_12 ?_
    refine t_get F e_X7_readTied_13 fl_X7_55 (fun _ => o3) h4277 hk rfl (fun v hv f4278 => ?_)
    obtain ⟨x4279, hx4279, rfl⟩ := hv
    replace hx4279 : 0 = 0 → x4279 ≠ 0 := hx4279
    refine m_if_ne F e_X7_readTied_16 (fun q16 => ?_) (fun q16 => ?_)
    · exact m_vret F hQ e_X7_readTied_32 (⟨(h4277.mono (M' := M) (Z' := Z) (by omega) (by intro e; first | rfl | assumption | omega)), rfl⟩)
    · exact absurd q16 (hx4279 rfl)
set_option maxRecDepth 20000 in
theorem s_X7_readLine (l : Launch) (V : VX) (b M Z T N : Nat) (σ : Mem) (a : Nat) (h0 : HT V (b, M, Z, T) σ) (hk : kA b a = 3) (hM : M + 0 ≤ 1000000000) : Ct l V yX7_readLine cX7_readLine 2 none 7 0 0 N σ [.ref a] (fun r τ => HK V (b, M, Z, T) [0, 1, 2, 5, 8, 9, 12, 13, 14, 16] σ τ ∧ r = none) := by
  refine Ct.of (by decide) (Nat.le_of_ble_eq_true rfl) [(0, .ref a)] rfl (fun X hX F hQ => ?_)
  have h1 : HK V (b, M, Z, T) [0, 1, 2, 5, 8, 9, 12, 13, 14, 16] σ σ := HK.start h0
  refine m_aload_n F rfl e_X7_readLine_0 ?_
  refine t_get F e_X7_readLine_1 fl_X7_61 (fun _ => o3) h1 hk rfl (fun v hv f4280 => ?_)
  obtain ⟨x4281, rfl⟩ := hv
  refine m_iconst F (v := 1) (by decide) e_X7_readLine_4 ?_
  refine m_icmp_ne F e_X7_readLine_5 (fun q5 => ?_) (fun q5 => ?_)
  · refine m_null F e_X7_readLine_19 ?_
    refine m_astore_nN F (lv' := [(1, .null), (0, .ref a)]) e_X7_readLine_20 (by decide) rfl ?_
    refine m_aload_nN F rfl e_X7_readLine_21 ?_
    refine m_ifnonnullN F e_X7_readLine_22 ?_
    refine m_aload_n F rfl e_X7_readLine_25 ?_
    refine m_iconst F (v := 1) (by decide) e_X7_readLine_26 ?_
    refine t_callV F e_X7_readLine_27 (s_X7_fail (x_l X) V b M Z T _ _ a 1 h1.1 hk (by first | omega | assumption | decide) (by omega)) cb_X7_fail ml_X7_77 im_X7_fail se_X7_fail (fun _ => o3) h1 hk rfl rfl (rest := []) rfl (Nat.le_of_ble_eq_true rfl) ⟨Nat.le_of_ble_eq_true rfl, Nat.le_of_ble_eq_true rfl⟩ ⟨Nat.le_of_ble_eq_true rfl, Nat.le_of_ble_eq_true rfl⟩ (fun r σ4282 hp => ?_)
    obtain ⟨h4284, rfl⟩ := hp
    have h4283 := HK.trans h1 h4284 (by decide)
    exact m_vret F hQ e_X7_readLine_30 (⟨(h4283.mono (M' := M) (Z' := Z) (by omega) (by intro e; first | rfl | assumption | omega)), rfl⟩)
  · refine m_aload_n F rfl e_X7_readLine_8 ?_
    refine m_aload_n F rfl e_X7_readLine_9 ?_
    refine t_get F e_X7_readLine_10 fl_X7_70 (fun _ => o3) h1 hk rfl (fun v hv f4285 => ?_)
    obtain ⟨x4286, rfl⟩ := hv
    refine t_callV F e_X7_readLine_13 (s_X7_kindOf (x_l X) V b M Z T _ _ a x4286 h1.1 hk  (by omega)) cb_X7_kindOf ml_X7_73 im_X7_kindOf se_X7_kindOf (fun _ => o3) h1 hk rfl rfl (rest := []) rfl (Nat.le_of_ble_eq_true rfl) ⟨Nat.le_of_ble_eq_true rfl, Nat.le_of_ble_eq_true rfl⟩ ⟨Nat.le_of_ble_eq_true rfl, Nat.le_of_ble_eq_true rfl⟩ (fun r σ4287 hp => ?_)
    obtain ⟨h4289, c4290⟩ := hp
    have h4288 := HK.trans h1 h4289 (by decide)
    rcases c4290 with rfl | ⟨n4291, hn4291, rfl⟩
    · refine m_goto F e_X7_readLine_16 ?_
      refine m_astore_nN F (lv' := [(1, .null), (0, .ref a)]) e_X7_readLine_20 (by decide) rfl ?_
      refine m_aload_nN F rfl e_X7_readLine_21 ?_
      refine m_ifnonnullN F e_X7_readLine_22 ?_
      refine m_aload_n F rfl e_X7_readLine_25 ?_
      refine m_iconst F (v := 1) (by decide) e_X7_readLine_26 ?_
      refine t_callV F e_X7_readLine_27 (s_X7_fail (x_l X) V b M Z T _ _ a 1 h4288.1 hk (by first | omega | assumption | decide) (by omega)) cb_X7_fail ml_X7_77 im_X7_fail se_X7_fail (fun _ => o3) h4288 hk rfl rfl (rest := []) rfl (Nat.le_of_ble_eq_true rfl) ⟨Nat.le_of_ble_eq_true rfl, Nat.le_of_ble_eq_true rfl⟩ ⟨Nat.le_of_ble_eq_true rfl, Nat.le_of_ble_eq_true rfl⟩ (fun r σ4292 hp => ?_)
      obtain ⟨h4294, rfl⟩ := hp
      have h4293 := HK.trans h4288 h4294 (by decide)
      exact m_vret F hQ e_X7_readLine_30 (⟨(h4293.mono (M' := M) (Z' := Z) (by omega) (by intro e; first | rfl | assumption | omega)), rfl⟩)
    · refine m_goto F e_X7_readLine_16 ?_
      refine m_astore_n F (lv' := [(1, .ref (adK V n4291)), (0, .ref a)]) e_X7_readLine_20 (by decide) rfl ?_
      refine m_aload_n F rfl e_X7_readLine_21 ?_
      refine m_ifnonnullR F e_X7_readLine_22 ?_
      refine m_gs F e_X7_readLine_31 F.sw.2.2.2.2.1.1 kf_map ?_
      refine m_aload_n F rfl e_X7_readLine_34 ?_
      refine m_ord F rfl e_X7_readLine_35 (i := n4291) (by omega) (Nat.le_of_ble_eq_true rfl) ⟨Nat.le_of_ble_eq_true rfl, Nat.le_of_ble_eq_true rfl⟩ ?_
      refine m_ti F e_X7_readLine_38 F.sw.2.2.2.2.1.2 (i := nI n4291) (vp_in_nI (by omega) (by decide)) rfl ?_
      refine Wm.top (fun x4295 _ => ?_)
      by_cases ho39 : (x4295 : Int32).toInt < 1 ∨ 8 < (x4295 : Int32).toInt
      · refine m_tableOut F e_X7_readLine_39 ho39 (tgt := 140) (by decide) ?_
        refine m_aload_n F rfl e_X7_readLine_140 ?_
        refine t_callV F e_X7_readLine_141 (s_X7_readSeed (x_l X) V b M Z T _ _ a  h4288.1 hk  (by omega)) cb_X7_readSeed ml_X7_116 im_X7_readSeed se_X7_readSeed (fun _ => o3) h4288 hk rfl rfl (rest := []) rfl (Nat.le_of_ble_eq_true rfl) ⟨Nat.le_of_ble_eq_true rfl, Nat.le_of_ble_eq_true rfl⟩ ⟨Nat.le_of_ble_eq_true rfl, Nat.le_of_ble_eq_true rfl⟩ (fun r σ4296 hp => ?_)
        obtain ⟨h4298, rfl⟩ := hp
        have h4297 := HK.trans h4288 h4298 (by decide)
        exact m_vret F hQ e_X7_readLine_144 (⟨h4297, rfl⟩)
      have hs39 : (x4295 : Int32).toInt = 1 ∨ (x4295 : Int32).toInt = 2 ∨ (x4295 : Int32).toInt = 3 ∨ (x4295 : Int32).toInt = 4 ∨ (x4295 : Int32).toInt = 5 ∨ (x4295 : Int32).toInt = 6 ∨ (x4295 : Int32).toInt = 7 ∨ (x4295 : Int32).toInt = 8 := by omega
      rcases hs39 with hv | hv | hv | hv | hv | hv | hv | hv
      · refine m_tableIn F e_X7_readLine_39 (by omega) (by omega) (off := 45) (tgt := 84) (by rw [hv]; rfl) (by decide) ?_
        refine m_aload_n F rfl e_X7_readLine_84 ?_
        refine t_callV F e_X7_readLine_85 (s_X7_readLease (x_l X) V b M Z T _ _ a  h4288.1 hk  (by omega)) cb_X7_readLease ml_X7_92 im_X7_readLease se_X7_readLease (fun _ => o3) h4288 hk rfl rfl (rest := []) rfl (Nat.le_of_ble_eq_true rfl) ⟨Nat.le_of_ble_eq_true rfl, Nat.le_of_ble_eq_true rfl⟩ ⟨Nat.le_of_ble_eq_true rfl, Nat.le_of_ble_eq_true rfl⟩ (fun r σ4299 hp => ?_)
        obtain ⟨h4301, rfl⟩ := hp
        have h4300 := HK.trans h4288 h4301 (by decide)
        refine m_goto F e_X7_readLine_88 ?_
        exact m_vret F hQ e_X7_readLine_144 (⟨h4300, rfl⟩)
      · refine m_tableIn F e_X7_readLine_39 (by omega) (by omega) (off := 52) (tgt := 91) (by rw [hv]; rfl) (by decide) ?_
        refine m_aload_n F rfl e_X7_readLine_91 ?_
        refine t_callV F e_X7_readLine_92 (s_X7_readPay (x_l X) V b M Z T _ _ a  h4288.1 hk  (by omega)) cb_X7_readPay ml_X7_95 im_X7_readPay se_X7_readPay (fun _ => o3) h4288 hk rfl rfl (rest := []) rfl (Nat.le_of_ble_eq_true rfl) ⟨Nat.le_of_ble_eq_true rfl, Nat.le_of_ble_eq_true rfl⟩ ⟨Nat.le_of_ble_eq_true rfl, Nat.le_of_ble_eq_true rfl⟩ (fun r σ4302 hp => ?_)
        obtain ⟨h4304, rfl⟩ := hp
        have h4303 := HK.trans h4288 h4304 (by decide)
        refine m_goto F e_X7_readLine_95 ?_
        exact m_vret F hQ e_X7_readLine_144 (⟨h4303, rfl⟩)
      · refine m_tableIn F e_X7_readLine_39 (by omega) (by omega) (off := 59) (tgt := 98) (by rw [hv]; rfl) (by decide) ?_
        refine m_aload_n F rfl e_X7_readLine_98 ?_
        refine t_callV F e_X7_readLine_99 (s_X7_readEarly (x_l X) V b M Z T _ _ a  h4288.1 hk  (by omega)) cb_X7_readEarly ml_X7_98 im_X7_readEarly se_X7_readEarly (fun _ => o3) h4288 hk rfl rfl (rest := []) rfl (Nat.le_of_ble_eq_true rfl) ⟨Nat.le_of_ble_eq_true rfl, Nat.le_of_ble_eq_true rfl⟩ ⟨Nat.le_of_ble_eq_true rfl, Nat.le_of_ble_eq_true rfl⟩ (fun r σ4305 hp => ?_)
        obtain ⟨h4307, rfl⟩ := hp
        have h4306 := HK.trans h4288 h4307 (by decide)
        refine m_goto F e_X7_readLine_102 ?_
        exact m_vret F hQ e_X7_readLine_144 (⟨h4306, rfl⟩)
      · refine m_tableIn F e_X7_readLine_39 (by omega) (by omega) (off := 66) (tgt := 105) (by rw [hv]; rfl) (by decide) ?_
        refine m_aload_n F rfl e_X7_readLine_105 ?_
        refine t_callV F e_X7_readLine_106 (s_X7_readFair (x_l X) V b M Z T _ _ a  h4288.1 hk  (by omega)) cb_X7_readFair ml_X7_101 im_X7_readFair se_X7_readFair (fun _ => o3) h4288 hk rfl rfl (rest := []) rfl (Nat.le_of_ble_eq_true rfl) ⟨Nat.le_of_ble_eq_true rfl, Nat.le_of_ble_eq_true rfl⟩ ⟨Nat.le_of_ble_eq_true rfl, Nat.le_of_ble_eq_true rfl⟩ (fun r σ4308 hp => ?_)
        obtain ⟨h4310, rfl⟩ := hp
        have h4309 := HK.trans h4288 h4310 (by decide)
        refine m_goto F e_X7_readLine_109 ?_
        exact m_vret F hQ e_X7_readLine_144 (⟨h4309, rfl⟩)
      · refine m_tableIn F e_X7_readLine_39 (by omega) (by omega) (off := 73) (tgt := 112) (by rw [hv]; rfl) (by decide) ?_
        refine m_aload_n F rfl e_X7_readLine_112 ?_
        refine t_callV F e_X7_readLine_113 (s_X7_readFee (x_l X) V b M Z T _ _ a  h4288.1 hk  (by omega)) cb_X7_readFee ml_X7_104 im_X7_readFee se_X7_readFee (fun _ => o3) h4288 hk rfl rfl (rest := []) rfl (Nat.le_of_ble_eq_true rfl) ⟨Nat.le_of_ble_eq_true rfl, Nat.le_of_ble_eq_true rfl⟩ ⟨Nat.le_of_ble_eq_true rfl, Nat.le_of_ble_eq_true rfl⟩ (fun r σ4311 hp => ?_)
        obtain ⟨h4313, rfl⟩ := hp
        have h4312 := HK.trans h4288 h4313 (by decide)
        refine m_goto F e_X7_readLine_116 ?_
        exact m_vret F hQ e_X7_readLine_144 (⟨h4312, rfl⟩)
      · refine m_tableIn F e_X7_readLine_39 (by omega) (by omega) (off := 80) (tgt := 119) (by rw [hv]; rfl) (by decide) ?_
        refine m_aload_n F rfl e_X7_readLine_119 ?_
        refine t_callV F e_X7_readLine_120 (s_X7_readTied (x_l X) V b M Z T _ _ a  h4288.1 hk  (by omega)) cb_X7_readTied ml_X7_107 im_X7_readTied se_X7_readTied (fun _ => o3) h4288 hk rfl rfl (rest := []) rfl (Nat.le_of_ble_eq_true rfl) ⟨Nat.le_of_ble_eq_true rfl, Nat.le_of_ble_eq_true rfl⟩ ⟨Nat.le_of_ble_eq_true rfl, Nat.le_of_ble_eq_true rfl⟩ (fun r σ4314 hp => ?_)
        obtain ⟨h4316, rfl⟩ := hp
        have h4315 := HK.trans h4288 h4316 (by decide)
        refine m_goto F e_X7_readLine_123 ?_
        exact m_vret F hQ e_X7_readLine_144 (⟨h4315, rfl⟩)
      · refine m_tableIn F e_X7_readLine_39 (by omega) (by omega) (off := 87) (tgt := 126) (by rw [hv]; rfl) (by decide) ?_
        refine m_aload_n F rfl e_X7_readLine_126 ?_
        refine t_callV F e_X7_readLine_127 (s_X7_readIndex (x_l X) V b M Z T _ _ a  h4288.1 hk  (by omega)) cb_X7_readIndex ml_X7_110 im_X7_readIndex se_X7_readIndex (fun _ => o3) h4288 hk rfl rfl (rest := []) rfl (Nat.le_of_ble_eq_true rfl) ⟨Nat.le_of_ble_eq_true rfl, Nat.le_of_ble_eq_true rfl⟩ ⟨Nat.le_of_ble_eq_true rfl, Nat.le_of_ble_eq_true rfl⟩ (fun r σ4317 hp => ?_)
        obtain ⟨h4319, rfl⟩ := hp
        have h4318 := HK.trans h4288 h4319 (by decide)
        refine m_goto F e_X7_readLine_130 ?_
        exact m_vret F hQ e_X7_readLine_144 (⟨h4318, rfl⟩)
      · refine m_tableIn F e_X7_readLine_39 (by omega) (by omega) (off := 94) (tgt := 133) (by rw [hv]; rfl) (by decide) ?_
        refine m_aload_n F rfl e_X7_readLine_133 ?_
        refine t_callV F e_X7_readLine_134 (s_X7_readOption (x_l X) V b M Z T _ _ a  h4288.1 hk  (by omega)) cb_X7_readOption ml_X7_113 im_X7_readOption se_X7_readOption (fun _ => o3) h4288 hk rfl rfl (rest := []) rfl (Nat.le_of_ble_eq_true rfl) ⟨Nat.le_of_ble_eq_true rfl, Nat.le_of_ble_eq_true rfl⟩ ⟨Nat.le_of_ble_eq_true rfl, Nat.le_of_ble_eq_true rfl⟩ (fun r σ4320 hp => ?_)
        obtain ⟨h4322, rfl⟩ := hp
        have h4321 := HK.trans h4288 h4322 (by decide)
        refine m_goto F e_X7_readLine_137 ?_
        exact m_vret F hQ e_X7_readLine_144 (⟨h4321, rfl⟩)
set_option maxRecDepth 20000 in
theorem lp_X7_read_6 {V : VX} {X : MX} {b M Z T N : Nat} {σ : Mem} {a : Nat}   (F : Fx V X yX7_read cX7_read 2 none (rmd 8 0 0)) (hQ : Rt V X 0 0 N (fun r τ => HK V (b, M, Z, T) [0, 1, 2, 5, 8, 9, 12, 13, 14, 16] σ τ ∧ r = none)) (hk : kA b a = 3) (hM : M + 0 ≤ 1000000000)  : ∀ (fuel : Nat) (i : Nat) (τ : Mem), HK V (b, M, Z, T) [0, 1, 2, 5, 8, 9, 12, 13, 14, 16] σ τ → i ≤ 700 → 700 - i < fuel → Wm V X 2 N τ 0 0 6 [(1, .int (nI i)), (0, .ref a)] [] := by
  intro fuel
  induction fuel with
  | zero => intro i τ h1 hi hm; exact absurd hm (Nat.not_lt_zero _)
  | succ fuel ih =>
    intro i τ h1 hi hm
    refine m_iload_n F rfl e_X7_read_6 ?_
    refine m_sipush F (v := 700) (by decide) e_X7_read_7 ?_
    refine m_icmp_ge F e_X7_read_10 (fun q10 => ?_) (fun q10 => ?_)
    · have c10 : i ≥ 700 := (nI_leI (a := 700) (b := i) (by omega) (by omega)).mp q10
      exact m_vret F hQ e_X7_read_41 (⟨h1, rfl⟩)
    · have c10 : i < 700 := by have hh := mt (nI_leI (a := 700) (b := i) (by omega) (by omega)).mpr q10; omega
      refine m_aload_n F rfl e_X7_read_13 ?_
      refine t_get F e_X7_read_14 fl_X7_55 (fun _ => o3) h1 hk rfl (fun v hv f4323 => ?_)
      obtain ⟨x4324, hx4324, rfl⟩ := hv
      replace hx4324 : Z = 0 → x4324 ≠ 0 := hx4324
      refine m_if_ne F e_X7_read_17 (fun q17 => ?_) (fun q17 => ?_)
      · exact m_vret F hQ e_X7_read_41 (⟨h1, rfl⟩)
      · refine m_aload_n F rfl e_X7_read_20 ?_
        refine t_get F e_X7_read_21 fl_X7_61 (fun _ => o3) h1 hk rfl (fun v hv f4325 => ?_)
        obtain ⟨x4326, rfl⟩ := hv
        refine m_if_eq F e_X7_read_24 (fun q24 => ?_) (fun q24 => ?_)
        · exact m_vret F hQ e_X7_read_41 (⟨h1, rfl⟩)
        · refine m_aload_n F rfl e_X7_read_27 ?_
          refine t_callV F e_X7_read_28 (s_X7_readLine (x_l X) V b M Z T _ _ a  h1.1 hk  (by omega)) cb_X7_readLine ml_X7_64 im_X7_readLine se_X7_readLine (fun _ => o3) h1 hk rfl rfl (rest := []) rfl (Nat.le_of_ble_eq_true rfl) ⟨Nat.le_of_ble_eq_true rfl, Nat.le_of_ble_eq_true rfl⟩ ⟨Nat.le_of_ble_eq_true rfl, Nat.le_of_ble_eq_true rfl⟩ (fun r σ4327 hp => ?_)
          obtain ⟨h4329, rfl⟩ := hp
          have h4328 := HK.trans h1 h4329 (by decide)
          refine m_aload_n F rfl e_X7_read_31 ?_
          refine t_callV F e_X7_read_32 (s_X7_readStop (x_l X) V b M Z T _ _ a  h4328.1 hk  (by omega)) cb_X7_readStop ml_X7_67 im_X7_readStop se_X7_readStop (fun _ => o3) h4328 hk rfl rfl (rest := []) rfl (Nat.le_of_ble_eq_true rfl) ⟨Nat.le_of_ble_eq_true rfl, Nat.le_of_ble_eq_true rfl⟩ ⟨Nat.le_of_ble_eq_true rfl, Nat.le_of_ble_eq_true rfl⟩ (fun r σ4330 hp => ?_)
          obtain ⟨h4332, rfl⟩ := hp
          have h4331 := HK.trans h4328 h4332 (by decide)
          refine m_iinc F (v := nI (i + 1)) (lv' := [(1, .int (nI (i + 1))), (0, .ref a)]) e_X7_read_35 rfl (nI_add i 1) (by decide) rfl ?_
          refine m_goto F e_X7_read_38 ?_
          exact ih (i + 1) _ h4331 (by omega) (by omega)
set_option maxRecDepth 20000 in
theorem s_X7_read (l : Launch) (V : VX) (b M Z T N : Nat) (σ : Mem) (a : Nat) (h0 : HT V (b, M, Z, T) σ) (hk : kA b a = 3) (hM : M + 0 ≤ 1000000000) : Ct l V yX7_read cX7_read 2 none 8 0 0 N σ [.ref a] (fun r τ => HK V (b, M, Z, T) [0, 1, 2, 5, 8, 9, 12, 13, 14, 16] σ τ ∧ r = none) := by
  refine Ct.of (by decide) (Nat.le_of_ble_eq_true rfl) [(0, .ref a)] rfl (fun X hX F hQ => ?_)
  have h1 : HK V (b, M, Z, T) [0, 1, 2, 5, 8, 9, 12, 13, 14, 16] σ σ := HK.start h0
  refine m_aload_n F rfl e_X7_read_0 ?_
  refine t_callV F e_X7_read_1 (s_X7_advance (x_l X) V b M Z T _ _ a  h1.1 hk  (by omega)) cb_X7_advance ml_X7_58 im_X7_advance se_X7_advance (fun _ => o3) h1 hk rfl rfl (rest := []) rfl (Nat.le_of_ble_eq_true rfl) ⟨Nat.le_of_ble_eq_true rfl, Nat.le_of_ble_eq_true rfl⟩ ⟨Nat.le_of_ble_eq_true rfl, Nat.le_of_ble_eq_true rfl⟩ (fun r σ4333 hp => ?_)
  obtain ⟨h4335, rfl⟩ := hp
  have h4334 := HK.trans h1 h4335 (by decide)
  refine m_iconst F (v := 0) (by decide) e_X7_read_4 ?_
  refine m_istore_n F (lv' := [(1, .int 0), (0, .ref a)]) e_X7_read_5 (by decide) rfl ?_
  exact lp_X7_read_6 F hQ hk hM (700 - 0 + 1) 0 _ h4334 (by omega) (Nat.lt_succ_self _)
set_option maxRecDepth 20000 in
theorem s_X9_text (l : Launch) (V : VX) (b M Z T N : Nat) (σ : Mem) (a : Nat) (x901 : Int32) (h0 : HT V (b, M, Z, T) σ) (hk : kA b a = 1) (hp0 : T ≤ 700) (hM : M + 0 ≤ 1000000000) : Ct l V yX9_text cX9_text 3 (some .int) 9 0 0 N σ [.ref a, .int x901] (fun r τ => (∃ x : Int32, r = some (.int x)) ∧ ((x901 < 0 ∧ HK V (b, M, 1, T) [0, 2, 5, 8, 9, 13, 16] σ τ) ∨ ∃ n : Nat, n ≤ 2147483647 ∧ x901 = nI n ∧ ((T < n ∧ HK V (b, M, 1, T) [0, 2, 5, 8, 9, 13, 16] σ τ) ∨ (n ≤ T ∧ HK V (b, M, 1, 0) [0, 2, 5, 8, 9, 13, 16] σ τ)))) := by
  refine Ct.of (by decide) (Nat.le_of_ble_eq_true rfl) [(0, .ref a), (1, .int x901)] rfl (fun X hX F hQ => ?_)
  have h1 : HK V (b, M, Z, T) [0, 2, 5, 8, 9, 13, 16] σ σ := HK.start h0
  refine m_iload_n F rfl e_X9_text_0 ?_
  refine m_if_lt F e_X9_text_1 (fun q1 => ?_) (fun q1 => ?_)
  · refine m_bipush F (v := (-2)) (by decide) e_X9_text_12 ?_
    exact m_iret F hQ e_X9_text_14 (⟨⟨_, rfl⟩, Or.inl ⟨q1, (h1.mono (M' := M) (Z' := 1) (Nat.le_refl _) (fun e => absurd e (by decide)))⟩⟩)
  · obtain ⟨n4336, hn4336, rfl⟩ := nI_nn (x := x901) (fun e => q1 (Int32.lt_of_lt_of_le e (by decide)))
    have c1 : n4336 ≥ 0 := by have hh := mt (nI_ltI (a := n4336) (b := 0) (by omega) (by omega)).mpr q1; omega
    refine m_iload_n F rfl e_X9_text_4 ?_
    refine m_aload_n F rfl e_X9_text_5 ?_
    refine t_get F e_X9_text_6 fl_X9_52 (fun _ => o1) h1 hk rfl (fun v hv f4337 => ?_)
    obtain rfl : v = .int (nI (T)) := hv
    refine m_icmp_le F e_X9_text_9 (fun q9 => ?_) (fun q9 => ?_)
    · have c9 : n4336 ≤ T := (nI_leI (a := n4336) (b := T) (by omega) (by omega)).mp q9
      refine m_aload_n F rfl e_X9_text_15 ?_
      refine t_get F e_X9_text_16 fl_X9_20 (fun _ => o1) h1 hk rfl (fun v hv f4338 => ?_)
      obtain ⟨r4339, k4340, rfl⟩ := hv
      refine m_astore_n F (lv' := [(2, .ref r4339), (0, .ref a), (1, .int (nI n4336))]) e_X9_text_19 (by decide) rfl ?_
      refine m_aload_n F rfl e_X9_text_20 ?_
      refine t_callV F e_X9_text_21 (s_X2_clear (x_l X) V b M Z T _ _ r4339  h1.1 k4340  (by omega)) cb_X2_clear ml_X9_60 im_X2_clear se_X2_clear (fun _ => o7) h1 k4340 rfl rfl (rest := []) rfl (Nat.le_of_ble_eq_true rfl) ⟨Nat.le_of_ble_eq_true rfl, Nat.le_of_ble_eq_true rfl⟩ ⟨Nat.le_of_ble_eq_true rfl, Nat.le_of_ble_eq_true rfl⟩ (fun r σ4341 hp => ?_)
      obtain ⟨h4343, rfl⟩ := hp
      have h4342 := HK.trans h1 h4343 (by decide)
      refine m_aload_n F rfl e_X9_text_24 ?_
      refine t_get F e_X9_text_25 fl_X9_28 (fun _ => o1) h4342 hk rfl (fun v hv f4344 => ?_)
      obtain ⟨r4345, k4346, rfl⟩ := hv
      refine m_iload_n F rfl e_X9_text_28 ?_
      refine m_aload_n F rfl e_X9_text_29 ?_
      refine t_callV F e_X9_text_30 (s_X7_begin (x_l X) V b M Z T _ _ r4345 n4336 r4339 h4342.1 k4346 (by omega) k4340 (by omega)) cb_X7_begin ml_X9_63 im_X7_begin se_X7_begin (fun _ => o3) h4342 k4346 rfl rfl (rest := []) rfl (Nat.le_of_ble_eq_true rfl) ⟨Nat.le_of_ble_eq_true rfl, Nat.le_of_ble_eq_true rfl⟩ ⟨Nat.le_of_ble_eq_true rfl, Nat.le_of_ble_eq_true rfl⟩ (fun r σ4347 hp => ?_)
      obtain ⟨h4349, rfl⟩ := hp
      have h4348 := HK.trans h4342 h4349 (by decide)
      refine m_aload_n F rfl e_X9_text_33 ?_
      refine t_getC F e_X9_text_34 fl_X9_28 (fun _ => o1) h4348 hk ((fld_eq (h4349.2 a (by rw [show kA _ a = 1 from hk]; decide))).trans f4344) ?_
      refine t_callV F e_X9_text_37 (s_X7_read (x_l X) V b M 1 T _ _ r4345  h4348.1 k4346  (by omega)) cb_X7_read ml_X9_67 im_X7_read se_X7_read (fun _ => o3) h4348 k4346 rfl rfl (rest := []) rfl (Nat.le_of_ble_eq_true rfl) ⟨Nat.le_of_ble_eq_true rfl, Nat.le_of_ble_eq_true rfl⟩ ⟨Nat.le_of_ble_eq_true rfl, Nat.le_of_ble_eq_true rfl⟩ (fun r σ4350 hp => ?_)
      obtain ⟨h4352, rfl⟩ := hp
      have h4351 := HK.trans h4348 h4352 (by decide)
      refine m_aload_n F rfl e_X9_text_40 ?_
      refine m_iconst F (v := 0) (by decide) e_X9_text_41 ?_
      refine t_putT F (T' := 0) e_X9_text_42 fp_X9_52 h4351 hk (by decide) (fun σ4353 h4354 g4355 g4356 f4357 => ?_)
      refine m_aload_n F rfl e_X9_text_45 ?_
      refine t_getC F e_X9_text_46 fl_X9_28 (fun _ => o1) h4354 hk ((g4356 4 (by decide)).trans ((fld_eq (h4352.2 a (by rw [show kA _ a = 1 from hk]; decide))).trans ((fld_eq (h4349.2 a (by rw [show kA _ a = 1 from hk]; decide))).trans f4344))) ?_
      refine t_get F e_X9_text_49 fl_X9_70 (fun _ => o3) h4354 k4346 rfl (fun v hv f4358 => ?_)
      obtain ⟨x4359, hx4359, rfl⟩ := hv
      replace hx4359 : 1 = 0 → x4359 ≠ 0 := hx4359
      refine m_if_eq F e_X9_text_52 (fun q52 => ?_) (fun q52 => ?_)
      · refine m_aload_n F rfl e_X9_text_57 ?_
        refine m_aload_n F rfl e_X9_text_58 ?_
        refine t_get F e_X9_text_59 fl_X9_42 (fun _ => o1) h4354 hk rfl (fun v hv f4360 => ?_)
        obtain ⟨r4361, k4362, rfl⟩ := hv
        refine t_callV F e_X9_text_62 (s_X2_findRates (x_l X) V b M 1 0 _ _ r4339 r4361 h4354.1 k4340 k4362 (by omega)) cb_X2_findRates ml_X9_73 im_X2_findRates se_X2_findRates (fun _ => o7) h4354 k4340 rfl rfl (rest := []) rfl (Nat.le_of_ble_eq_true rfl) ⟨Nat.le_of_ble_eq_true rfl, Nat.le_of_ble_eq_true rfl⟩ ⟨Nat.le_of_ble_eq_true rfl, Nat.le_of_ble_eq_true rfl⟩ (fun r σ4363 hp => ?_)
        obtain ⟨h4365, rfl⟩ := hp
        have h4364 := HK.trans h4354 h4365 (by decide)
        refine m_aload_n F rfl e_X9_text_65 ?_
        refine m_aload_n F rfl e_X9_text_66 ?_
        refine t_get F e_X9_text_67 fl_X9_16 (fun _ => o1) h4364 hk rfl (fun v hv f4366 => ?_)
        obtain ⟨r4367, k4368, rfl⟩ := hv
        refine t_put F e_X9_text_70 fp_X9_20 (fun _ => o1) h4364 hk rfl ⟨_, k4368, rfl⟩ rfl rfl (by decide) (fun σ4369 h4370 g4371 g4372 f4373 => ?_)
        refine m_aload_n F rfl e_X9_text_73 ?_
        refine m_aload_n F rfl e_X9_text_74 ?_
        refine t_put F e_X9_text_75 fp_X9_16 (fun _ => o1) h4370 hk rfl ⟨_, k4340, rfl⟩ rfl rfl (by decide) (fun σ4374 h4375 g4376 g4377 f4378 => ?_)
        refine m_aload_n F rfl e_X9_text_78 ?_
        refine m_iconst F (v := 0) (by decide) e_X9_text_79 ?_
        refine t_put F e_X9_text_80 fp_X9_77 (fun _ => o1) h4375 hk rfl ⟨0, (show 0 ≤ 1 by omega), rfl⟩ (by decide) rfl (by decide) (fun σ4379 h4380 g4381 g4382 f4383 => ?_)
        refine m_aload_n F rfl e_X9_text_83 ?_
        refine t_callV F e_X9_text_84 (s_X9_forgetPast (x_l X) V b M 1 0 _ _ a  h4380.1 hk  (by omega)) cb_X9_forgetPast ml_X9_81 im_X9_forgetPast se_X9_forgetPast (fun _ => o1) h4380 hk rfl rfl (rest := []) rfl (Nat.le_of_ble_eq_true rfl) ⟨Nat.le_of_ble_eq_true rfl, Nat.le_of_ble_eq_true rfl⟩ ⟨Nat.le_of_ble_eq_true rfl, Nat.le_of_ble_eq_true rfl⟩ (fun r σ4384 hp => ?_)
        obtain ⟨h4386, rfl⟩ := hp
        have h4385 := HK.trans h4380 h4386 (by decide)
        refine m_aload_n F rfl e_X9_text_87 ?_
        refine t_get F e_X9_text_88 fl_X9_28 (fun _ => o1) h4385 hk rfl (fun v hv f4387 => ?_)
        obtain ⟨r4388, k4389, rfl⟩ := hv
        refine t_get F e_X9_text_91 fl_X9_84 (fun _ => o3) h4385 k4389 rfl (fun v hv f4390 => ?_)
        obtain ⟨x4391, rfl⟩ := hv
        exact m_iret F hQ e_X9_text_94 (⟨⟨_, rfl⟩, Or.inr ⟨n4336, by omega, rfl, Or.inr ⟨by omega, (h4385.mono (M' := M) (Z' := 1) (Nat.le_refl _) (fun e => absurd e (by decide)))⟩⟩⟩)
      · refine m_iconst F (v := (-1)) (by decide) e_X9_text_55 ?_
        exact m_iret F hQ e_X9_text_56 (⟨⟨_, rfl⟩, Or.inr ⟨n4336, by omega, rfl, Or.inr ⟨by omega, (h4354.mono (M' := M) (Z' := 1) (Nat.le_refl _) (fun e => absurd e (by decide)))⟩⟩⟩)
    · have c9 : n4336 > T := by have hh := mt (nI_leI (a := n4336) (b := T) (by omega) (by omega)).mpr q9; omega
      refine m_bipush F (v := (-2)) (by decide) e_X9_text_12 ?_
      exact m_iret F hQ e_X9_text_14 (⟨⟨_, rfl⟩, Or.inr ⟨n4336, by omega, rfl, Or.inl ⟨by omega, (h1.mono (M' := M) (Z' := 1) (Nat.le_refl _) (fun e => absurd e (by decide)))⟩⟩⟩)
