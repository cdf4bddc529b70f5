set_option maxRecDepth 20000 in
theorem lp_X7_kindOf_2 {V : VX} {G : GH} {X : MX} {b M Z T N : Nat} {σ : Mem} {a : Nat} {x901 : Int32}  (F : Fx V X yX7_kindOf cX7_kindOf 3 (some (.object "LeaseLedger$Kind")) (rmd 0 0 0)) (hQ : Rt V X 0 0 N (fun r τ => HK V G (b, M, Z, T) [0, 1, 2, 3, 4, 5, 6, 7, 8, 9, 10, 11, 12, 13, 14, 15, 16, 17, 18, 19] σ τ ∧ (r = some .null ∨ ∃ i : Nat, i < 9 ∧ r = some (.ref (adK V i))))) (hk : kA b a = 3) (hM : M + 0 ≤ 1000000000)  : ∀ (fuel : Nat) (i : Nat) (τ : Mem), HK V G (b, M, Z, T) [0, 1, 2, 3, 4, 5, 6, 7, 8, 9, 10, 11, 12, 13, 14, 15, 16, 17, 18, 19] σ τ → i ≤ 9 → 9 - i < fuel → Wm V X 3 N τ 0 0 2 [(2, .int (nI i)), (0, .ref a), (1, .int x901)] [] := by
  intro fuel
  induction fuel with
  | zero => intro i τ h1 hi hm; exact absurd hm (Nat.not_lt_zero _)
  | succ fuel ih =>
    intro i τ h1 hi hm
    refine m_iload_n F rfl e_X7_kindOf_2 ?_
    refine m_gsN F e_X7_kindOf_3 F.sw.2.2.2.1.1 (F.ku.2.1 (.fieldLinkNest RX7 200 RX9 "KINDS" "[LLeaseLedger$Kind;" RX9) (by simp [nestW])) ?_
    refine m_tlen F e_X7_kindOf_6 F.sw.2.2.2.1.2 (v := 9) (by decide) ?_
    refine m_icmp_ge F e_X7_kindOf_7 (fun q7 => ?_) (fun q7 => ?_)
    · have c7 : i ≥ 9 := (nI_leI (a := 9) (b := i) (by omega) (by omega)).mp q7
      refine m_null F e_X7_kindOf_34 ?_
      exact m_aret F hQ e_X7_kindOf_35 (Or.inl rfl) (⟨h1, Or.inl rfl⟩)
    · have c7 : i < 9 := by have hh := mt (nI_leI (a := 9) (b := i) (by omega) (by omega)).mpr q7; omega
      refine m_gsN F e_X7_kindOf_10 F.sw.2.2.2.1.1 (F.ku.2.1 (.fieldLinkNest RX7 200 RX9 "KINDS" "[LLeaseLedger$Kind;" RX9) (by simp [nestW])) ?_
      refine m_iload_n F rfl e_X7_kindOf_13 ?_
      refine m_tq F e_X7_kindOf_14 F.sw.2.2.2.1.2 (i := nI i) (vp_in_nI (by omega) (by decide)) (v := .ref (adK V i)) (by show Value.ref (adK V (nI i).toNatClampNeg) = _; rw [nI_clamp (by omega)]) ?_
      refine m_gof F e_X7_kindOf_15 (F.sw.2.2.2.2.2.1 i (by omega)).2.1 kf_code ?_
      refine Wm.top (fun x3728 _ => ?_)
      refine m_iload_n F rfl e_X7_kindOf_18 ?_
      refine m_icmp_ne F e_X7_kindOf_19 (fun q19 => ?_) (fun q19 => ?_)
      · refine m_iinc F (v := nI (i + 1)) (lv' := [(2, .int (nI (i + 1))), (0, .ref a), (1, .int x901)]) e_X7_kindOf_28 rfl (nI_add i 1) (by decide) rfl ?_
        refine m_goto F e_X7_kindOf_31 ?_
        exact ih (i + 1) _ h1 (by omega) (by omega)
      · refine m_gsN F e_X7_kindOf_22 F.sw.2.2.2.1.1 (F.ku.2.1 (.fieldLinkNest RX7 200 RX9 "KINDS" "[LLeaseLedger$Kind;" RX9) (by simp [nestW])) ?_
        refine m_iload_n F rfl e_X7_kindOf_25 ?_
        refine m_tq F e_X7_kindOf_26 F.sw.2.2.2.1.2 (i := nI i) (vp_in_nI (by omega) (by decide)) (v := .ref (adK V i)) (by show Value.ref (adK V (nI i).toNatClampNeg) = _; rw [nI_clamp (by omega)]) ?_
        exact m_aret F hQ e_X7_kindOf_27 (Or.inr ⟨_, rfl⟩) (⟨h1, Or.inr ⟨i, by omega, rfl⟩⟩)
set_option maxRecDepth 20000 in
theorem s_X7_kindOf (l : Launch) (V : VX) (G : GH) (b M Z T N : Nat) (σ : Mem) (a : Nat) (x901 : Int32) (h0 : HT V G (b, M, Z, T) σ) (hk : kA b a = 3) (hM : M + 0 ≤ 1000000000) : Ct l V yX7_kindOf cX7_kindOf 3 (some (.object "LeaseLedger$Kind")) 0 0 0 N σ [.ref a, .int x901] (fun r τ => HK V G (b, M, Z, T) [0, 1, 2, 3, 4, 5, 6, 7, 8, 9, 10, 11, 12, 13, 14, 15, 16, 17, 18, 19] σ τ ∧ (r = some .null ∨ ∃ i : Nat, i < 9 ∧ r = some (.ref (adK V i)))) := by
  refine Ct.of (by decide) (Nat.le_of_ble_eq_true rfl) [(0, .ref a), (1, .int x901)] rfl (fun X hX F hQ => ?_)
  have h1 : HK V G (b, M, Z, T) [0, 1, 2, 3, 4, 5, 6, 7, 8, 9, 10, 11, 12, 13, 14, 15, 16, 17, 18, 19] σ σ := HK.start h0
  refine m_iconst F (v := 0) (by decide) e_X7_kindOf_0 ?_
  refine m_istore_n F (lv' := [(2, .int 0), (0, .ref a), (1, .int x901)]) e_X7_kindOf_1 (by decide) rfl ?_
  exact lp_X7_kindOf_2 F hQ hk hM (9 - 0 + 1) 0 _ h1 (by omega) (Nat.lt_succ_self _)
set_option maxRecDepth 20000 in
theorem s_X7_readNumber (l : Launch) (V : VX) (G : GH) (b M Z T N : Nat) (σ : Mem) (a : Nat) (n901 : Nat) (n902 : Nat) (h0 : HT V G (b, M, Z, T) σ) (hk : kA b a = 3) (hn901 : n901 ≤ 2147483647) (hn902 : n902 ≤ 2147483647) (hM : M + 0 ≤ 1000000000) : Ct l V yX7_readNumber cX7_readNumber 4 (some .int) 2 0 0 N σ [.ref a, .int (nI n901), .int (nI n902)] (fun r τ => HK V G (b, M, Z, T) [0, 1, 2, 4, 5, 6, 7, 8, 9, 10, 11, 12, 13, 14, 15, 16, 17, 18, 19] σ τ ∧ ∃ n : Nat, n ≤ n902 ∧ r = some (.int (nI n))) := by
  refine Ct.of (by decide) (Nat.le_of_ble_eq_true rfl) [(0, .ref a), (1, .int (nI n901)), (2, .int (nI n902))] rfl (fun X hX F hQ => ?_)
  have h1 : HK V G (b, M, Z, T) [0, 1, 2, 4, 5, 6, 7, 8, 9, 10, 11, 12, 13, 14, 15, 16, 17, 18, 19] σ σ := HK.start h0
  refine m_aload_n F rfl e_X7_readNumber_0 ?_
  refine t_get F e_X7_readNumber_1 fl_X7_55 (fun _ => o3) h1 hk rfl (fun v hv f3729 => ?_)
  obtain ⟨x3730, hx3730, rfl⟩ := hv
  replace hx3730 : Z = 0 → x3730 ≠ 0 := hx3730
  refine m_if_eq F e_X7_readNumber_4 (fun q4 => ?_) (fun q4 => ?_)
  · refine m_aload_n F rfl e_X7_readNumber_9 ?_
    refine t_get F e_X7_readNumber_10 fl_X7_61 (fun _ => o3) h1 hk rfl (fun v hv f3731 => ?_)
    obtain ⟨x3732, rfl⟩ := hv
    refine m_iconst F (v := 2) (by decide) e_X7_readNumber_13 ?_
    refine m_icmp_eq F e_X7_readNumber_14 (fun q14 => ?_) (fun q14 => ?_)
    · refine m_aload_n F rfl e_X7_readNumber_24 ?_
      refine t_get F e_X7_readNumber_25 fl_X7_70 (fun _ => o3) h1 hk rfl (fun v hv f3733 => ?_)
      obtain ⟨x3734, rfl⟩ := hv
      refine m_iload_n F rfl e_X7_readNumber_28 ?_
      refine m_icmp_lt F e_X7_readNumber_29 (fun q29 => ?_) (fun q29 => ?_)
      · refine m_aload_n F rfl e_X7_readNumber_40 ?_
        refine m_iconst F (v := 2) (by decide) e_X7_readNumber_41 ?_
        refine t_callV F e_X7_readNumber_42 (s_X7_fail (x_l X) V G b M Z T _ _ a 2 h1.1 hk (by first | omega | assumption | decide) (by omega)) cb_X7_fail ml_X7_77 im_X7_fail se_X7_fail (fun _ => o3) h1 hk rfl rfl (rest := []) rfl (Nat.le_of_ble_eq_true rfl) ⟨Nat.le_of_ble_eq_true rfl, Nat.le_of_ble_eq_true rfl⟩ ⟨Nat.le_of_ble_eq_true rfl, Nat.le_of_ble_eq_true rfl⟩ (fun r σ3735 hp => ?_)
        obtain ⟨h3737, rfl⟩ := hp
        have h3736 := HK.trans h1 h3737 (by decide)
        refine m_iconst F (v := 0) (by decide) e_X7_readNumber_45 ?_
        exact m_iret F hQ e_X7_readNumber_46 (⟨(h3736.mono (M' := M) (Z' := Z) (by omega) (by intro e; first | rfl | assumption | omega)), 0, by omega, rfl⟩)
      · obtain ⟨n3738, hn3738, rfl⟩ := nI_nn (x := x3734) (fun e => q29 (Int32.lt_of_lt_of_le e (nI_0le (by omega))))
        have c29 : n3738 ≥ n901 := by have hh := mt (nI_ltI (a := n3738) (b := n901) (by omega) (by omega)).mpr q29; omega
        refine m_aload_n F rfl e_X7_readNumber_32 ?_
        refine t_getC F e_X7_readNumber_33 fl_X7_70 (fun _ => o3) h1 hk (f3733) ?_
        refine m_iload_n F rfl e_X7_readNumber_36 ?_
        refine m_icmp_le F e_X7_readNumber_37 (fun q37 => ?_) (fun q37 => ?_)
        · have c37 : n3738 ≤ n902 := (nI_leI (a := n3738) (b := n902) (by omega) (by omega)).mp q37
          refine m_aload_n F rfl e_X7_readNumber_47 ?_
          refine t_getC F e_X7_readNumber_48 fl_X7_70 (fun _ => o3) h1 hk (f3733) ?_
          refine m_istore_n F (lv' := [(3, .int (nI n3738)), (0, .ref a), (1, .int (nI n901)), (2, .int (nI n902))]) e_X7_readNumber_51 (by decide) rfl ?_
          refine m_aload_n F rfl e_X7_readNumber_52 ?_
          refine t_callV F e_X7_readNumber_53 (s_X7_advance (x_l X) V G b M Z T _ _ a  h1.1 hk  (by omega)) cb_X7_advance ml_X7_58 im_X7_advance se_X7_advance (fun _ => o3) h1 hk rfl rfl (rest := []) rfl (Nat.le_of_ble_eq_true rfl) ⟨Nat.le_of_ble_eq_true rfl, Nat.le_of_ble_eq_true rfl⟩ ⟨Nat.le_of_ble_eq_true rfl, Nat.le_of_ble_eq_true rfl⟩ (fun r σ3739 hp => ?_)
          obtain ⟨h3741, rfl⟩ := hp
          have h3740 := HK.trans h1 h3741 (by decide)
          refine m_iload_n F rfl e_X7_readNumber_56 ?_
          exact m_iret F hQ e_X7_readNumber_57 (⟨h3740, n3738, by omega, rfl⟩)
        · have c37 : n3738 > n902 := by have hh := mt (nI_leI (a := n3738) (b := n902) (by omega) (by omega)).mpr q37; omega
          refine m_aload_n F rfl e_X7_readNumber_40 ?_
          refine m_iconst F (v := 2) (by decide) e_X7_readNumber_41 ?_
          refine t_callV F e_X7_readNumber_42 (s_X7_fail (x_l X) V G b M Z T _ _ a 2 h1.1 hk (by first | omega | assumption | decide) (by omega)) cb_X7_fail ml_X7_77 im_X7_fail se_X7_fail (fun _ => o3) h1 hk rfl rfl (rest := []) rfl (Nat.le_of_ble_eq_true rfl) ⟨Nat.le_of_ble_eq_true rfl, Nat.le_of_ble_eq_true rfl⟩ ⟨Nat.le_of_ble_eq_true rfl, Nat.le_of_ble_eq_true rfl⟩ (fun r σ3742 hp => ?_)
          obtain ⟨h3744, rfl⟩ := hp
          have h3743 := HK.trans h1 h3744 (by decide)
          refine m_iconst F (v := 0) (by decide) e_X7_readNumber_45 ?_
          exact m_iret F hQ e_X7_readNumber_46 (⟨(h3743.mono (M' := M) (Z' := Z) (by omega) (by intro e; first | rfl | assumption | omega)), 0, by omega, rfl⟩)
    · refine m_aload_n F rfl e_X7_readNumber_17 ?_
      refine m_iconst F (v := 1) (by decide) e_X7_readNumber_18 ?_
      refine t_callV F e_X7_readNumber_19 (s_X7_fail (x_l X) V G b M Z T _ _ a 1 h1.1 hk (by first | omega | assumption | decide) (by omega)) cb_X7_fail ml_X7_77 im_X7_fail se_X7_fail (fun _ => o3) h1 hk rfl rfl (rest := []) rfl (Nat.le_of_ble_eq_true rfl) ⟨Nat.le_of_ble_eq_true rfl, Nat.le_of_ble_eq_true rfl⟩ ⟨Nat.le_of_ble_eq_true rfl, Nat.le_of_ble_eq_true rfl⟩ (fun r σ3745 hp => ?_)
      obtain ⟨h3747, rfl⟩ := hp
      have h3746 := HK.trans h1 h3747 (by decide)
      refine m_iconst F (v := 0) (by decide) e_X7_readNumber_22 ?_
      exact m_iret F hQ e_X7_readNumber_23 (⟨(h3746.mono (M' := M) (Z' := Z) (by omega) (by intro e; first | rfl | assumption | omega)), 0, by omega, rfl⟩)
  · refine m_iconst F (v := 0) (by decide) e_X7_readNumber_7 ?_
    exact m_iret F hQ e_X7_readNumber_8 (⟨h1, 0, by omega, rfl⟩)
set_option maxRecDepth 20000 in
theorem s_X7_readNumberW (l : Launch) (V : VX) (G : GH) (b M Z T N : Nat) (σ : Mem) (a : Nat) (x901 : Int32) (n902 : Nat) (h0 : HT V G (b, M, Z, T) σ) (hk : kA b a = 3) (hn902 : n902 ≤ 2147483647) (hM : M + 0 ≤ 1000000000) : Ct l V yX7_readNumber cX7_readNumber 4 (some .int) 2 0 0 N σ [.ref a, .int x901, .int (nI n902)] (fun r τ => HK V G (b, M, Z, T) [0, 1, 2, 4, 5, 6, 7, 8, 9, 10, 11, 12, 13, 14, 15, 16, 17, 18, 19] σ τ ∧ ∃ x : Int32, r = some (.int x)) := by
  refine Ct.of (by decide) (Nat.le_of_ble_eq_true rfl) [(0, .ref a), (1, .int x901), (2, .int (nI n902))] rfl (fun X hX F hQ => ?_)
  have h1 : HK V G (b, M, Z, T) [0, 1, 2, 4, 5, 6, 7, 8, 9, 10, 11, 12, 13, 14, 15, 16, 17, 18, 19] σ σ := HK.start h0
  refine m_aload_n F rfl e_X7_readNumber_0 ?_
  refine t_get F e_X7_readNumber_1 fl_X7_55 (fun _ => o3) h1 hk rfl (fun v hv f3748 => ?_)
  obtain ⟨x3749, hx3749, rfl⟩ := hv
  replace hx3749 : Z = 0 → x3749 ≠ 0 := hx3749
  refine m_if_eq F e_X7_readNumber_4 (fun q4 => ?_) (fun q4 => ?_)
  · refine m_aload_n F rfl e_X7_readNumber_9 ?_
    refine t_get F e_X7_readNumber_10 fl_X7_61 (fun _ => o3) h1 hk rfl (fun v hv f3750 => ?_)
    obtain ⟨x3751, rfl⟩ := hv
    refine m_iconst F (v := 2) (by decide) e_X7_readNumber_13 ?_
    refine m_icmp_eq F e_X7_readNumber_14 (fun q14 => ?_) (fun q14 => ?_)
    · refine m_aload_n F rfl e_X7_readNumber_24 ?_
      refine t_get F e_X7_readNumber_25 fl_X7_70 (fun _ => o3) h1 hk rfl (fun v hv f3752 => ?_)
      obtain ⟨x3753, rfl⟩ := hv
      refine m_iload_n F rfl e_X7_readNumber_28 ?_
      refine m_icmp_lt F e_X7_readNumber_29 (fun q29 => ?_) (fun q29 => ?_)
      · refine m_aload_n F rfl e_X7_readNumber_40 ?_
        refine m_iconst F (v := 2) (by decide) e_X7_readNumber_41 ?_
        refine t_callV F e_X7_readNumber_42 (s_X7_fail (x_l X) V G b M Z T _ _ a 2 h1.1 hk (by first | omega | assumption | decide) (by omega)) cb_X7_fail ml_X7_77 im_X7_fail se_X7_fail (fun _ => o3) h1 hk rfl rfl (rest := []) rfl (Nat.le_of_ble_eq_true rfl) ⟨Nat.le_of_ble_eq_true rfl, Nat.le_of_ble_eq_true rfl⟩ ⟨Nat.le_of_ble_eq_true rfl, Nat.le_of_ble_eq_true rfl⟩ (fun r σ3754 hp => ?_)
        obtain ⟨h3756, rfl⟩ := hp
        have h3755 := HK.trans h1 h3756 (by decide)
        refine m_iconst F (v := 0) (by decide) e_X7_readNumber_45 ?_
        exact m_iret F hQ e_X7_readNumber_46 (⟨(h3755.mono (M' := M) (Z' := Z) (by omega) (by intro e; first | rfl | assumption | omega)), _, rfl⟩)
      · refine m_aload_n F rfl e_X7_readNumber_32 ?_
        refine t_getC F e_X7_readNumber_33 fl_X7_70 (fun _ => o3) h1 hk (f3752) ?_
        refine m_iload_n F rfl e_X7_readNumber_36 ?_
        refine m_icmp_le F e_X7_readNumber_37 (fun q37 => ?_) (fun q37 => ?_)
        · refine m_aload_n F rfl e_X7_readNumber_47 ?_
          refine t_getC F e_X7_readNumber_48 fl_X7_70 (fun _ => o3) h1 hk (f3752) ?_
          refine m_istore_n F (lv' := [(3, .int x3753), (0, .ref a), (1, .int x901), (2, .int (nI n902))]) e_X7_readNumber_51 (by decide) rfl ?_
          refine m_aload_n F rfl e_X7_readNumber_52 ?_
          refine t_callV F e_X7_readNumber_53 (s_X7_advance (x_l X) V G b M Z T _ _ a  h1.1 hk  (by omega)) cb_X7_advance ml_X7_58 im_X7_advance se_X7_advance (fun _ => o3) h1 hk rfl rfl (rest := []) rfl (Nat.le_of_ble_eq_true rfl) ⟨Nat.le_of_ble_eq_true rfl, Nat.le_of_ble_eq_true rfl⟩ ⟨Nat.le_of_ble_eq_true rfl, Nat.le_of_ble_eq_true rfl⟩ (fun r σ3757 hp => ?_)
          obtain ⟨h3759, rfl⟩ := hp
          have h3758 := HK.trans h1 h3759 (by decide)
          refine m_iload_n F rfl e_X7_readNumber_56 ?_
          exact m_iret F hQ e_X7_readNumber_57 (⟨h3758, _, rfl⟩)
        · refine m_aload_n F rfl e_X7_readNumber_40 ?_
          refine m_iconst F (v := 2) (by decide) e_X7_readNumber_41 ?_
          refine t_callV F e_X7_readNumber_42 (s_X7_fail (x_l X) V G b M Z T _ _ a 2 h1.1 hk (by first | omega | assumption | decide) (by omega)) cb_X7_fail ml_X7_77 im_X7_fail se_X7_fail (fun _ => o3) h1 hk rfl rfl (rest := []) rfl (Nat.le_of_ble_eq_true rfl) ⟨Nat.le_of_ble_eq_true rfl, Nat.le_of_ble_eq_true rfl⟩ ⟨Nat.le_of_ble_eq_true rfl, Nat.le_of_ble_eq_true rfl⟩ (fun r σ3760 hp => ?_)
          obtain ⟨h3762, rfl⟩ := hp
          have h3761 := HK.trans h1 h3762 (by decide)
          refine m_iconst F (v := 0) (by decide) e_X7_readNumber_45 ?_
          exact m_iret F hQ e_X7_readNumber_46 (⟨(h3761.mono (M' := M) (Z' := Z) (by omega) (by intro e; first | rfl | assumption | omega)), _, rfl⟩)
    · refine m_aload_n F rfl e_X7_readNumber_17 ?_
      refine m_iconst F (v := 1) (by decide) e_X7_readNumber_18 ?_
      refine t_callV F e_X7_readNumber_19 (s_X7_fail (x_l X) V G b M Z T _ _ a 1 h1.1 hk (by first | omega | assumption | decide) (by omega)) cb_X7_fail ml_X7_77 im_X7_fail se_X7_fail (fun _ => o3) h1 hk rfl rfl (rest := []) rfl (Nat.le_of_ble_eq_true rfl) ⟨Nat.le_of_ble_eq_true rfl, Nat.le_of_ble_eq_true rfl⟩ ⟨Nat.le_of_ble_eq_true rfl, Nat.le_of_ble_eq_true rfl⟩ (fun r σ3763 hp => ?_)
      obtain ⟨h3765, rfl⟩ := hp
      have h3764 := HK.trans h1 h3765 (by decide)
      refine m_iconst F (v := 0) (by decide) e_X7_readNumber_22 ?_
      exact m_iret F hQ e_X7_readNumber_23 (⟨(h3764.mono (M' := M) (Z' := Z) (by omega) (by intro e; first | rfl | assumption | omega)), _, rfl⟩)
  · refine m_iconst F (v := 0) (by decide) e_X7_readNumber_7 ?_
    exact m_iret F hQ e_X7_readNumber_8 (⟨h1, _, rfl⟩)
set_option maxRecDepth 20000 in
theorem s_X7_readName (l : Launch) (V : VX) (G : GH) (b M Z T N : Nat) (σ : Mem) (a : Nat) (h0 : HT V G (b, M, Z, T) σ) (hk : kA b a = 3) (hM : M + 0 ≤ 1000000000) : Ct l V yX7_readName cX7_readName 2 (some .int) 2 0 0 N σ [.ref a] (fun r τ => HK V G (b, M, Z, T) [0, 1, 2, 4, 5, 6, 7, 8, 9, 10, 11, 12, 13, 14, 15, 16, 17, 18, 19] σ τ ∧ ∃ x : Int32, r = some (.int x)) := by
  refine Ct.of (by decide) (Nat.le_of_ble_eq_true rfl) [(0, .ref a)] rfl (fun X hX F hQ => ?_)
  have h1 : HK V G (b, M, Z, T) [0, 1, 2, 4, 5, 6, 7, 8, 9, 10, 11, 12, 13, 14, 15, 16, 17, 18, 19] σ σ := HK.start h0
  refine m_aload_n F rfl e_X7_readName_0 ?_
  refine t_get F e_X7_readName_1 fl_X7_55 (fun _ => o3) h1 hk rfl (fun v hv f3766 => ?_)
  obtain ⟨x3767, hx3767, rfl⟩ := hv
  replace hx3767 : Z = 0 → x3767 ≠ 0 := hx3767
  refine m_if_eq F e_X7_readName_4 (fun q4 => ?_) (fun q4 => ?_)
  · refine m_aload_n F rfl e_X7_readName_9 ?_
    refine t_get F e_X7_readName_10 fl_X7_61 (fun _ => o3) h1 hk rfl (fun v hv f3768 => ?_)
    obtain ⟨x3769, rfl⟩ := hv
    refine m_iconst F (v := 1) (by decide) e_X7_readName_13 ?_
    refine m_icmp_ne F e_X7_readName_14 (fun q14 => ?_) (fun q14 => ?_)
    · refine m_aload_n F rfl e_X7_readName_36 ?_
      refine m_iconst F (v := 1) (by decide) e_X7_readName_37 ?_
      refine t_callV F e_X7_readName_38 (s_X7_fail (x_l X) V G b M Z T _ _ a 1 h1.1 hk (by first | omega | assumption | decide) (by omega)) cb_X7_fail ml_X7_77 im_X7_fail se_X7_fail (fun _ => o3) h1 hk rfl rfl (rest := []) rfl (Nat.le_of_ble_eq_true rfl) ⟨Nat.le_of_ble_eq_true rfl, Nat.le_of_ble_eq_true rfl⟩ ⟨Nat.le_of_ble_eq_true rfl, Nat.le_of_ble_eq_true rfl⟩ (fun r σ3770 hp => ?_)
      obtain ⟨h3772, rfl⟩ := hp
      have h3771 := HK.trans h1 h3772 (by decide)
      refine m_iconst F (v := (-1)) (by decide) e_X7_readName_41 ?_
      exact m_iret F hQ e_X7_readName_42 (⟨(h3771.mono (M' := M) (Z' := Z) (by omega) (by intro e; first | rfl | assumption | omega)), _, rfl⟩)
    · refine m_aload_n F rfl e_X7_readName_17 ?_
      refine t_get F e_X7_readName_18 fl_X7_70 (fun _ => o3) h1 hk rfl (fun v hv f3773 => ?_)
      obtain ⟨x3774, rfl⟩ := hv
      refine m_iconst F (v := (-1)) (by decide) e_X7_readName_21 ?_
      refine m_icmp_eq F e_X7_readName_22 (fun q22 => ?_) (fun q22 => ?_)
      · refine m_aload_n F rfl e_X7_readName_36 ?_
        refine m_iconst F (v := 1) (by decide) e_X7_readName_37 ?_
        refine t_callV F e_X7_readName_38 (s_X7_fail (x_l X) V G b M Z T _ _ a 1 h1.1 hk (by first | omega | assumption | decide) (by omega)) cb_X7_fail ml_X7_77 im_X7_fail se_X7_fail (fun _ => o3) h1 hk rfl rfl (rest := []) rfl (Nat.le_of_ble_eq_true rfl) ⟨Nat.le_of_ble_eq_true rfl, Nat.le_of_ble_eq_true rfl⟩ ⟨Nat.le_of_ble_eq_true rfl, Nat.le_of_ble_eq_true rfl⟩ (fun r σ3775 hp => ?_)
        obtain ⟨h3777, rfl⟩ := hp
        have h3776 := HK.trans h1 h3777 (by decide)
        refine m_iconst F (v := (-1)) (by decide) e_X7_readName_41 ?_
        exact m_iret F hQ e_X7_readName_42 (⟨(h3776.mono (M' := M) (Z' := Z) (by omega) (by intro e; first | rfl | assumption | omega)), _, rfl⟩)
      · refine m_aload_n F rfl e_X7_readName_25 ?_
        refine m_aload_n F rfl e_X7_readName_26 ?_
        refine t_getC F e_X7_readName_27 fl_X7_70 (fun _ => o3) h1 hk (f3773) ?_
        refine t_callV F e_X7_readName_30 (s_X7_kindOf (x_l X) V G b M Z T _ _ a x3774 h1.1 hk  (by omega)) cb_X7_kindOf ml_X7_73 im_X7_kindOf se_X7_kindOf (fun _ => o3) h1 hk rfl rfl (rest := []) rfl (Nat.le_of_ble_eq_true rfl) ⟨Nat.le_of_ble_eq_true rfl, Nat.le_of_ble_eq_true rfl⟩ ⟨Nat.le_of_ble_eq_true rfl, Nat.le_of_ble_eq_true rfl⟩ (fun r σ3778 hp => ?_)
        obtain ⟨h3780, c3781⟩ := hp
        have h3779 := HK.trans h1 h3780 (by decide)
        rcases c3781 with rfl | ⟨n3782, hn3782, rfl⟩
        · refine m_ifnullN F e_X7_readName_33 ?_
          refine m_aload_n F rfl e_X7_readName_43 ?_
          refine t_getC F e_X7_readName_44 fl_X7_70 (fun _ => o3) h3779 hk ((fld_eq (h3780.2 a (by rw [show kA _ a = 3 from hk]; decide))).trans f3773) ?_
          refine m_istore_n F (lv' := [(1, .int x3774), (0, .ref a)]) e_X7_readName_47 (by decide) rfl ?_
          refine m_aload_n F rfl e_X7_readName_48 ?_
          refine t_callV F e_X7_readName_49 (s_X7_advance (x_l X) V G b M Z T _ _ a  h3779.1 hk  (by omega)) cb_X7_advance ml_X7_58 im_X7_advance se_X7_advance (fun _ => o3) h3779 hk rfl rfl (rest := []) rfl (Nat.le_of_ble_eq_true rfl) ⟨Nat.le_of_ble_eq_true rfl, Nat.le_of_ble_eq_true rfl⟩ ⟨Nat.le_of_ble_eq_true rfl, Nat.le_of_ble_eq_true rfl⟩ (fun r σ3783 hp => ?_)
          obtain ⟨h3785, rfl⟩ := hp
          have h3784 := HK.trans h3779 h3785 (by decide)
          refine m_iload_n F rfl e_X7_readName_52 ?_
          exact m_iret F hQ e_X7_readName_53 (⟨h3784, _, rfl⟩)
        · refine m_ifnullR F e_X7_readName_33 ?_
          refine m_aload_n F rfl e_X7_readName_36 ?_
          refine m_iconst F (v := 1) (by decide) e_X7_readName_37 ?_
          refine t_callV F e_X7_readName_38 (s_X7_fail (x_l X) V G b M Z T _ _ a 1 h3779.1 hk (by first | omega | assumption | decide) (by omega)) cb_X7_fail ml_X7_77 im_X7_fail se_X7_fail (fun _ => o3) h3779 hk rfl rfl (rest := []) rfl (Nat.le_of_ble_eq_true rfl) ⟨Nat.le_of_ble_eq_true rfl, Nat.le_of_ble_eq_true rfl⟩ ⟨Nat.le_of_ble_eq_true rfl, Nat.le_of_ble_eq_true rfl⟩ (fun r σ3786 hp => ?_)
          obtain ⟨h3788, rfl⟩ := hp
          have h3787 := HK.trans h3779 h3788 (by decide)
          refine m_iconst F (v := (-1)) (by decide) e_X7_readName_41 ?_
          exact m_iret F hQ e_X7_readName_42 (⟨(h3787.mono (M' := M) (Z' := Z) (by omega) (by intro e; first | rfl | assumption | omega)), _, rfl⟩)
  · refine m_iconst F (v := (-1)) (by decide) e_X7_readName_7 ?_
    exact m_iret F hQ e_X7_readName_8 (⟨h1, _, rfl⟩)
set_option maxRecDepth 20000 in
theorem s_X7_readNewName (l : Launch) (V : VX) (G : GH) (b M Z T N : Nat) (σ : Mem) (a : Nat) (h0 : HT V G (b, M, Z, T) σ) (hk : kA b a = 3) (hM : M + 0 ≤ 1000000000) : Ct l V yX7_readNewName cX7_readNewName 3 (some .int) 3 0 0 N σ [.ref a] (fun r τ => HK V G (b, M, Z, T) [0, 1, 2, 4, 5, 6, 7, 8, 9, 10, 11, 12, 13, 14, 15, 16, 17, 18, 19] σ τ ∧ ∃ x : Int32, r = some (.int x)) := by
  refine Ct.of (by decide) (Nat.le_of_ble_eq_true rfl) [(0, .ref a)] rfl (fun X hX F hQ => ?_)
  have h1 : HK V G (b, M, Z, T) [0, 1, 2, 4, 5, 6, 7, 8, 9, 10, 11, 12, 13, 14, 15, 16, 17, 18, 19] σ σ := HK.start h0
  refine m_aload_n F rfl e_X7_readNewName_0 ?_
  refine t_get F e_X7_readNewName_1 fl_X7_188 (fun _ => o3) h1 hk rfl (fun v hv f3789 => ?_)
  obtain ⟨x3790, rfl⟩ := hv
  refine m_istore_n F (lv' := [(1, .int x3790), (0, .ref a)]) e_X7_readNewName_4 (by decide) rfl ?_
  refine m_aload_n F rfl e_X7_readNewName_5 ?_
  refine t_callV F e_X7_readNewName_6 (s_X7_readName (x_l X) V G b M Z T _ _ a  h1.1 hk  (by omega)) cb_X7_readName ml_X7_191 im_X7_readName se_X7_readName (fun _ => o3) h1 hk rfl rfl (rest := []) rfl (Nat.le_of_ble_eq_true rfl) ⟨Nat.le_of_ble_eq_true rfl, Nat.le_of_ble_eq_true rfl⟩ ⟨Nat.le_of_ble_eq_true rfl, Nat.le_of_ble_eq_true rfl⟩ (fun r σ3791 hp => ?_)
  obtain ⟨h3793, x3794, rfl⟩ := hp
  have h3792 := HK.trans h1 h3793 (by decide)
  refine m_istore_n F (lv' := [(2, .int x3794), (1, .int x3790), (0, .ref a)]) e_X7_readNewName_9 (by decide) rfl ?_
  refine m_aload_n F rfl e_X7_readNewName_10 ?_
  refine t_get F e_X7_readNewName_11 fl_X7_23 (fun _ => o3) h3792 hk rfl (fun v hv f3795 => ?_)
  obtain ⟨r3796, k3797, rfl⟩ := hv
  refine m_iload_n F rfl e_X7_readNewName_14 ?_
  refine t_callV F e_X7_readNewName_15 (s_X2_leaseNamed (x_l X) V G b M Z T _ _ r3796 x3794 h3792.1 k3797  (by omega)) cb_X2_leaseNamed ml_X7_194 im_X2_leaseNamed se_X2_leaseNamed (fun _ => o7) h3792 k3797 rfl rfl (rest := []) rfl (Nat.le_of_ble_eq_true rfl) ⟨Nat.le_of_ble_eq_true rfl, Nat.le_of_ble_eq_true rfl⟩ ⟨Nat.le_of_ble_eq_true rfl, Nat.le_of_ble_eq_true rfl⟩ (fun r σ3798 hp => ?_)
  obtain ⟨h3800, c3801⟩ := hp
  have h3799 := HK.trans h3792 h3800 (by decide)
  rcases c3801 with ⟨n3802, hn3802, rfl⟩ | rfl
  · refine m_iconst F (v := (-1)) (by decide) e_X7_readNewName_18 ?_
    refine m_icmp_eq F e_X7_readNewName_19 (fun q19 => ?_) (fun q19 => ?_)
    · refine m_iload_n F rfl e_X7_readNewName_28 ?_
      exact m_iret F hQ e_X7_readNewName_29 (⟨h3799, _, rfl⟩)
    · refine m_aload_n F rfl e_X7_readNewName_22 ?_
      refine m_iconst F (v := 3) (by decide) e_X7_readNewName_23 ?_
      refine m_iload_n F rfl e_X7_readNewName_24 ?_
      refine t_callV F e_X7_readNewName_25 (s_X7_failAt (x_l X) V G b M Z T _ _ a 3 x3790 h3799.1 hk (by first | omega | assumption | decide) (by omega)) cb_X7_failAt ml_X7_197 im_X7_failAt se_X7_failAt (fun _ => o3) h3799 hk rfl rfl (rest := []) rfl (Nat.le_of_ble_eq_true rfl) ⟨Nat.le_of_ble_eq_true rfl, Nat.le_of_ble_eq_true rfl⟩ ⟨Nat.le_of_ble_eq_true rfl, Nat.le_of_ble_eq_true rfl⟩ (fun r σ3803 hp => ?_)
      obtain ⟨h3805, rfl⟩ := hp
      have h3804 := HK.trans h3799 h3805 (by decide)
      refine m_iload_n F rfl e_X7_readNewName_28 ?_
      exact m_iret F hQ e_X7_readNewName_29 (⟨(h3804.mono (M' := M) (Z' := Z) (by omega) (by intro e; first | rfl | assumption | omega)), _, rfl⟩)
  · refine m_iconst F (v := (-1)) (by decide) e_X7_readNewName_18 ?_
    refine m_icmp_eq F e_X7_readNewName_19 (fun _ => ?_) (fun q => absurd (by decide) q)
    refine m_iload_n F rfl e_X7_readNewName_28 ?_
    exact m_iret F hQ e_X7_readNewName_29 (⟨h3799, _, rfl⟩)
set_option maxRecDepth 20000 in
theorem s_X7_readToldName (l : Launch) (V : VX) (G : GH) (b M Z T N : Nat) (σ : Mem) (a : Nat) (h0 : HT V G (b, M, Z, T) σ) (hk : kA b a = 3) (hM : M + 0 ≤ 1000000000) : Ct l V yX7_readToldName cX7_readToldName 3 (some .int) 3 0 0 N σ [.ref a] (fun r τ => HK V G (b, M, Z, T) [0, 1, 2, 4, 5, 6, 7, 8, 9, 10, 11, 12, 13, 14, 15, 16, 17, 18, 19] σ τ ∧ ((∃ n : Nat, n ≤ 3 ∧ r = some (.int (nI n))) ∨ (HT V G (b, M, 0, T) τ ∧ r = some (.int (-1))))) := by
  refine Ct.of (by decide) (Nat.le_of_ble_eq_true rfl) [(0, .ref a)] rfl (fun X hX F hQ => ?_)
  have h1 : HK V G (b, M, Z, T) [0, 1, 2, 4, 5, 6, 7, 8, 9, 10, 11, 12, 13, 14, 15, 16, 17, 18, 19] σ σ := HK.start h0
  refine m_aload_n F rfl e_X7_readToldName_0 ?_
  refine t_get F e_X7_readToldName_1 fl_X7_188 (fun _ => o3) h1 hk rfl (fun v hv f3806 => ?_)
  obtain ⟨x3807, rfl⟩ := hv
  refine m_istore_n F (lv' := [(1, .int x3807), (0, .ref a)]) e_X7_readToldName_4 (by decide) rfl ?_
  refine m_aload_n F rfl e_X7_readToldName_5 ?_
  refine t_get F e_X7_readToldName_6 fl_X7_23 (fun _ => o3) h1 hk rfl (fun v hv f3808 => ?_)
  obtain ⟨r3809, k3810, rfl⟩ := hv
  refine m_aload_n F rfl e_X7_readToldName_9 ?_
  refine t_callV F e_X7_readToldName_10 (s_X7_readName (x_l X) V G b M Z T _ _ a  h1.1 hk  (by omega)) cb_X7_readName ml_X7_191 im_X7_readName se_X7_readName (fun _ => o3) h1 hk rfl rfl (rest := [.ref r3809]) rfl (Nat.le_of_ble_eq_true rfl) ⟨Nat.le_of_ble_eq_true rfl, Nat.le_of_ble_eq_true rfl⟩ ⟨Nat.le_of_ble_eq_true rfl, Nat.le_of_ble_eq_true rfl⟩ (fun r σ3811 hp => ?_)
  obtain ⟨h3813, x3814, rfl⟩ := hp
  have h3812 := HK.trans h1 h3813 (by decide)
  refine t_callV F e_X7_readToldName_13 (s_X2_leaseNamed (x_l X) V G b M Z T _ _ r3809 x3814 h3812.1 k3810  (by omega)) cb_X2_leaseNamed ml_X7_194 im_X2_leaseNamed se_X2_leaseNamed (fun _ => o7) h3812 k3810 rfl rfl (rest := []) rfl (Nat.le_of_ble_eq_true rfl) ⟨Nat.le_of_ble_eq_true rfl, Nat.le_of_ble_eq_true rfl⟩ ⟨Nat.le_of_ble_eq_true rfl, Nat.le_of_ble_eq_true rfl⟩ (fun r σ3815 hp => ?_)
  obtain ⟨h3817, c3818⟩ := hp
  have h3816 := HK.trans h3812 h3817 (by decide)
  rcases c3818 with ⟨n3819, hn3819, rfl⟩ | rfl
  · refine m_istore_n F (lv' := [(2, .int (nI n3819)), (1, .int x3807), (0, .ref a)]) e_X7_readToldName_16 (by decide) rfl ?_
    refine m_iload_n F rfl e_X7_readToldName_17 ?_
    refine m_iconst F (v := (-1)) (by decide) e_X7_readToldName_18 ?_
    refine m_icmp_ne F e_X7_readToldName_19 (fun q19 => ?_) (fun q19 => ?_)
    · refine m_iload_n F rfl e_X7_readToldName_28 ?_
      exact m_iret F hQ e_X7_readToldName_29 (⟨h3816, Or.inl ⟨n3819, by omega, rfl⟩⟩)
    · refine m_aload_n F rfl e_X7_readToldName_22 ?_
      refine m_iconst F (v := 4) (by decide) e_X7_readToldName_23 ?_
      refine m_iload_n F rfl e_X7_readToldName_24 ?_
      refine t_callV F e_X7_readToldName_25 (s_X7_failAt (x_l X) V G b M Z T _ _ a 4 x3807 h3816.1 hk (by first | omega | assumption | decide) (by omega)) cb_X7_failAt ml_X7_197 im_X7_failAt se_X7_failAt (fun _ => o3) h3816 hk rfl rfl (rest := []) rfl (Nat.le_of_ble_eq_true rfl) ⟨Nat.le_of_ble_eq_true rfl, Nat.le_of_ble_eq_true rfl⟩ ⟨Nat.le_of_ble_eq_true rfl, Nat.le_of_ble_eq_true rfl⟩ (fun r σ3820 hp => ?_)
      obtain ⟨h3822, rfl⟩ := hp
      have h3821 := HK.trans h3816 h3822 (by decide)
      refine m_iload_n F rfl e_X7_readToldName_28 ?_
      exact m_iret F hQ e_X7_readToldName_29 (⟨(h3821.mono (M' := M) (Z' := Z) (by omega) (by intro e; first | rfl | assumption | omega)), Or.inl ⟨n3819, by omega, rfl⟩⟩)
  · refine m_istore_n F (lv' := [(2, .int (-1)), (1, .int x3807), (0, .ref a)]) e_X7_readToldName_16 (by decide) rfl ?_
    refine m_iload_n F rfl e_X7_readToldName_17 ?_
    refine m_iconst F (v := (-1)) (by decide) e_X7_readToldName_18 ?_
    refine m_icmp_ne F e_X7_readToldName_19 (fun q => absurd (by decide) q) (fun _ => ?_)
    refine m_aload_n F rfl e_X7_readToldName_22 ?_
    refine m_iconst F (v := 4) (by decide) e_X7_readToldName_23 ?_
    refine m_iload_n F rfl e_X7_readToldName_24 ?_
    refine t_callV F e_X7_readToldName_25 (s_X7_failAt (x_l X) V G b M Z T _ _ a 4 x3807 h3816.1 hk (by first | omega | assumption | decide) (by omega)) cb_X7_failAt ml_X7_197 im_X7_failAt se_X7_failAt (fun _ => o3) h3816 hk rfl rfl (rest := []) rfl (Nat.le_of_ble_eq_true rfl) ⟨Nat.le_of_ble_eq_true rfl, Nat.le_of_ble_eq_true rfl⟩ ⟨Nat.le_of_ble_eq_true rfl, Nat.le_of_ble_eq_true rfl⟩ (fun r σ3823 hp => ?_)
    obtain ⟨h3825, rfl⟩ := hp
    have h3824 := HK.trans h3816 h3825 (by decide)
    refine m_iload_n F rfl e_X7_readToldName_28 ?_
    exact m_iret F hQ e_X7_readToldName_29 (⟨(h3824.mono (M' := M) (Z' := Z) (by omega) (by intro e; first | rfl | assumption | omega)), Or.inr ⟨h3824.1, rfl⟩⟩)
set_option maxRecDepth 20000 in
theorem s_X7_readNameOnce (l : Launch) (V : VX) (G : GH) (b M Z T N : Nat) (σ : Mem) (a : Nat) (x901 : Int32) (h0 : HT V G (b, M, Z, T) σ) (hk : kA b a = 3) (hM : M + 0 ≤ 1000000000) : Ct l V yX7_readNameOnce cX7_readNameOnce 4 (some .int) 3 0 0 N σ [.ref a, .int x901] (fun r τ => HK V G (b, M, Z, T) [0, 1, 2, 5, 6, 7, 8, 9, 10, 11, 12, 13, 14, 15, 16, 17, 18, 19] σ τ ∧ ((∃ n : Nat, n ≤ 3 ∧ r = some (.int (nI n))) ∨ (HT V G (b, M, 0, T) τ ∧ r = some (.int (-1))))) := by
  refine Ct.of (by decide) (Nat.le_of_ble_eq_true rfl) [(0, .ref a), (1, .int x901)] rfl (fun X hX F hQ => ?_)
  have h1 : HK V G (b, M, Z, T) [0, 1, 2, 5, 6, 7, 8, 9, 10, 11, 12, 13, 14, 15, 16, 17, 18, 19] σ σ := HK.start h0
  refine m_aload_n F rfl e_X7_readNameOnce_0 ?_
  refine t_get F e_X7_readNameOnce_1 fl_X7_188 (fun _ => o3) h1 hk rfl (fun v hv f3826 => ?_)
  obtain ⟨x3827, rfl⟩ := hv
  refine m_istore_n F (lv' := [(2, .int x3827), (0, .ref a), (1, .int x901)]) e_X7_readNameOnce_4 (by decide) rfl ?_
  refine m_aload_n F rfl e_X7_readNameOnce_5 ?_
  refine t_get F e_X7_readNameOnce_6 fl_X7_23 (fun _ => o3) h1 hk rfl (fun v hv f3828 => ?_)
  obtain ⟨r3829, k3830, rfl⟩ := hv
  refine m_aload_n F rfl e_X7_readNameOnce_9 ?_
  refine t_callV F e_X7_readNameOnce_10 (s_X7_readName (x_l X) V G b M Z T _ _ a  h1.1 hk  (by omega)) cb_X7_readName ml_X7_191 im_X7_readName se_X7_readName (fun _ => o3) h1 hk rfl rfl (rest := [.ref r3829]) rfl (Nat.le_of_ble_eq_true rfl) ⟨Nat.le_of_ble_eq_true rfl, Nat.le_of_ble_eq_true rfl⟩ ⟨Nat.le_of_ble_eq_true rfl, Nat.le_of_ble_eq_true rfl⟩ (fun r σ3831 hp => ?_)
  obtain ⟨h3833, x3834, rfl⟩ := hp
  have h3832 := HK.trans h1 h3833 (by decide)
  refine t_callV F e_X7_readNameOnce_13 (s_X2_leaseNamed (x_l X) V G b M Z T _ _ r3829 x3834 h3832.1 k3830  (by omega)) cb_X2_leaseNamed ml_X7_194 im_X2_leaseNamed se_X2_leaseNamed (fun _ => o7) h3832 k3830 rfl rfl (rest := []) rfl (Nat.le_of_ble_eq_true rfl) ⟨Nat.le_of_ble_eq_true rfl, Nat.le_of_ble_eq_true rfl⟩ ⟨Nat.le_of_ble_eq_true rfl, Nat.le_of_ble_eq_true rfl⟩ (fun r σ3835 hp => ?_)
  obtain ⟨h3837, c3838⟩ := hp
  have h3836 := HK.trans h3832 h3837 (by decide)
  rcases c3838 with ⟨n3839, hn3839, rfl⟩ | rfl
  · refine m_istore_n F (lv' := [(3, .int (nI n3839)), (2, .int x3827), (0, .ref a), (1, .int x901)]) e_X7_readNameOnce_16 (by decide) rfl ?_
    refine m_iload_n F rfl e_X7_readNameOnce_17 ?_
    refine m_if_lt F e_X7_readNameOnce_18 (fun q18 => ?_) (fun q18 => ?_)
    · have c18 : n3839 < 0 := (nI_ltI (a := n3839) (b := 0) (by omega) (by omega)).mp q18
      refine m_aload_n F rfl e_X7_readNameOnce_26 ?_
      refine m_iconst F (v := 4) (by decide) e_X7_readNameOnce_27 ?_
      refine m_iload_n F rfl e_X7_readNameOnce_28 ?_
      refine t_callV F e_X7_readNameOnce_29 (s_X7_failAt (x_l X) V G b M Z T _ _ a 4 x3827 h3836.1 hk (by first | omega | assumption | decide) (by omega)) cb_X7_failAt ml_X7_197 im_X7_failAt se_X7_failAt (fun _ => o3) h3836 hk rfl rfl (rest := []) rfl (Nat.le_of_ble_eq_true rfl) ⟨Nat.le_of_ble_eq_true rfl, Nat.le_of_ble_eq_true rfl⟩ ⟨Nat.le_of_ble_eq_true rfl, Nat.le_of_ble_eq_true rfl⟩ (fun r σ3840 hp => ?_)
      obtain ⟨h3842, rfl⟩ := hp
      have h3841 := HK.trans h3836 h3842 (by decide)
      refine m_iconst F (v := (-1)) (by decide) e_X7_readNameOnce_32 ?_
      exact m_iret F hQ e_X7_readNameOnce_33 (⟨(h3841.mono (M' := M) (Z' := Z) (by omega) (by intro e; first | rfl | assumption | omega)), Or.inr ⟨h3841.1, rfl⟩⟩)
    · have c18 : n3839 ≥ 0 := by have hh := mt (nI_ltI (a := n3839) (b := 0) (by omega) (by omega)).mpr q18; omega
      refine m_iload_n F rfl e_X7_readNameOnce_21 ?_
      refine m_iconst F (v := 4) (by decide) e_X7_readNameOnce_22 ?_
      refine m_icmp_lt F e_X7_readNameOnce_23 (fun q23 => ?_) (fun q23 => ?_)
      · have c23 : n3839 < 4 := (nI_ltI (a := n3839) (b := 4) (by omega) (by omega)).mp q23
        refine m_aload_n F rfl e_X7_readNameOnce_34 ?_
        refine t_get F e_X7_readNameOnce_35 fl_X7_9 (fun _ => o3) h3836 hk rfl (fun v hv f3843 => ?_)
        obtain ⟨r3844, k3845, rfl⟩ := hv
        refine m_iload_n F rfl e_X7_readNameOnce_38 ?_
        refine t_iald F (len := 4) (j := n3839) e_X7_readNameOnce_39 (fun _ => o4) h3836 k3845 (nI_clamp (by omega)) (vp_in_nI (by omega) (by decide)) (fun x3846 => ?_)
        refine m_iload_n F rfl e_X7_readNameOnce_40 ?_
        refine m_iand F e_X7_readNameOnce_41 ?_
        refine Wm.top (fun x3847 _ => ?_)
        refine m_if_eq F e_X7_readNameOnce_42 (fun q42 => ?_) (fun q42 => ?_)
        · refine m_aload_n F rfl e_X7_readNameOnce_51 ?_
          refine t_getC F e_X7_readNameOnce_52 fl_X7_9 (fun _ => o3) h3836 hk (f3843) ?_
          refine m_iload_n F rfl e_X7_readNameOnce_55 ?_
          refine m_dup2_11 F rfl rfl e_X7_readNameOnce_56 ?_
          refine t_iald F (len := 4) (j := n3839) e_X7_readNameOnce_57 (fun _ => o4) h3836 k3845 (nI_clamp (by omega)) (vp_in_nI (by omega) (by decide)) (fun x3848 => ?_)
          refine m_iload_n F rfl e_X7_readNameOnce_58 ?_
          refine m_ior F e_X7_readNameOnce_59 ?_
          refine Wm.top (fun x3849 _ => ?_)
          refine t_iast F (len := 4) (j := n3839) e_X7_readNameOnce_60 (fun _ => o4) h3836 k3845 (nI_clamp (by omega)) (vp_in_nI (by omega) (by decide)) (by decide) (fun σ3850 h3851 g3852 => ?_)
          refine m_iload_n F rfl e_X7_readNameOnce_61 ?_
          exact m_iret F hQ e_X7_readNameOnce_62 (⟨h3851, Or.inl ⟨n3839, by omega, rfl⟩⟩)
        · refine m_aload_n F rfl e_X7_readNameOnce_45 ?_
          refine m_iconst F (v := 3) (by decide) e_X7_readNameOnce_46 ?_
          refine m_iload_n F rfl e_X7_readNameOnce_47 ?_
          refine t_callV F e_X7_readNameOnce_48 (s_X7_failAt (x_l X) V G b M Z T _ _ a 3 x3827 h3836.1 hk (by first | omega | assumption | decide) (by omega)) cb_X7_failAt ml_X7_197 im_X7_failAt se_X7_failAt (fun _ => o3) h3836 hk rfl rfl (rest := []) rfl (Nat.le_of_ble_eq_true rfl) ⟨Nat.le_of_ble_eq_true rfl, Nat.le_of_ble_eq_true rfl⟩ ⟨Nat.le_of_ble_eq_true rfl, Nat.le_of_ble_eq_true rfl⟩ (fun r σ3853 hp => ?_)
          obtain ⟨h3855, rfl⟩ := hp
          have h3854 := HK.trans h3836 h3855 (by decide)
          refine m_aload_n F rfl e_X7_readNameOnce_51 ?_
          refine t_get F e_X7_readNameOnce_52 fl_X7_9 (fun _ => o3) h3854 hk rfl (fun v hv f3856 => ?_)
          obtain ⟨r3857, k3858, rfl⟩ := hv
          refine m_iload_n F rfl e_X7_readNameOnce_55 ?_
          refine m_dup2_11 F rfl rfl e_X7_readNameOnce_56 ?_
          refine t_iald F (len := 4) (j := n3839) e_X7_readNameOnce_57 (fun _ => o4) h3854 k3858 (nI_clamp (by omega)) (vp_in_nI (by omega) (by decide)) (fun x3859 => ?_)
          refine m_iload_n F rfl e_X7_readNameOnce_58 ?_
          refine m_ior F e_X7_readNameOnce_59 ?_
          refine Wm.top (fun x3860 _ => ?_)
          refine t_iast F (len := 4) (j := n3839) e_X7_readNameOnce_60 (fun _ => o4) h3854 k3858 (nI_clamp (by omega)) (vp_in_nI (by omega) (by decide)) (by decide) (fun σ3861 h3862 g3863 => ?_)
          refine m_iload_n F rfl e_X7_readNameOnce_61 ?_
          exact m_iret F hQ e_X7_readNameOnce_62 (⟨(h3862.mono (M' := M) (Z' := Z) (by omega) (by intro e; first | rfl | assumption | omega)), Or.inl ⟨n3839, by omega, rfl⟩⟩)
      · have c23 : n3839 ≥ 4 := by have hh := mt (nI_ltI (a := n3839) (b := 4) (by omega) (by omega)).mpr q23; omega
        refine m_aload_n F rfl e_X7_readNameOnce_26 ?_
        refine m_iconst F (v := 4) (by decide) e_X7_readNameOnce_27 ?_
        refine m_iload_n F rfl e_X7_readNameOnce_28 ?_
        refine t_callV F e_X7_readNameOnce_29 (s_X7_failAt (x_l X) V G b M Z T _ _ a 4 x3827 h3836.1 hk (by first | omega | assumption | decide) (by omega)) cb_X7_failAt ml_X7_197 im_X7_failAt se_X7_failAt (fun _ => o3) h3836 hk rfl rfl (rest := []) rfl (Nat.le_of_ble_eq_true rfl) ⟨Nat.le_of_ble_eq_true rfl, Nat.le_of_ble_eq_true rfl⟩ ⟨Nat.le_of_ble_eq_true rfl, Nat.le_of_ble_eq_true rfl⟩ (fun r σ3864 hp => ?_)
        obtain ⟨h3866, rfl⟩ := hp
        have h3865 := HK.trans h3836 h3866 (by decide)
        refine m_iconst F (v := (-1)) (by decide) e_X7_readNameOnce_32 ?_
        exact m_iret F hQ e_X7_readNameOnce_33 (⟨(h3865.mono (M' := M) (Z' := Z) (by omega) (by intro e; first | rfl | assumption | omega)), Or.inr ⟨h3865.1, rfl⟩⟩)
  · refine m_istore_n F (lv' := [(3, .int (-1)), (2, .int x3827), (0, .ref a), (1, .int x901)]) e_X7_readNameOnce_16 (by decide) rfl ?_
    refine m_iload_n F rfl e_X7_readNameOnce_17 ?_
    refine m_if_lt F e_X7_readNameOnce_18 (fun _ => ?_) (fun q => absurd (by decide) q)
    refine m_aload_n F rfl e_X7_readNameOnce_26 ?_
    refine m_iconst F (v := 4) (by decide) e_X7_readNameOnce_27 ?_
    refine m_iload_n F rfl e_X7_readNameOnce_28 ?_
    refine t_callV F e_X7_readNameOnce_29 (s_X7_failAt (x_l X) V G b M Z T _ _ a 4 x3827 h3836.1 hk (by first | omega | assumption | decide) (by omega)) cb_X7_failAt ml_X7_197 im_X7_failAt se_X7_failAt (fun _ => o3) h3836 hk rfl rfl (rest := []) rfl (Nat.le_of_ble_eq_true rfl) ⟨Nat.le_of_ble_eq_true rfl, Nat.le_of_ble_eq_true rfl⟩ ⟨Nat.le_of_ble_eq_true rfl, Nat.le_of_ble_eq_true rfl⟩ (fun r σ3867 hp => ?_)
    obtain ⟨h3869, rfl⟩ := hp
    have h3868 := HK.trans h3836 h3869 (by decide)
    refine m_iconst F (v := (-1)) (by decide) e_X7_readNameOnce_32 ?_
    exact m_iret F hQ e_X7_readNameOnce_33 (⟨(h3868.mono (M' := M) (Z' := Z) (by omega) (by intro e; first | rfl | assumption | omega)), Or.inr ⟨h3868.1, rfl⟩⟩)
set_option maxRecDepth 20000 in
theorem s_X7_readIndex (l : Launch) (V : VX) (G : GH) (b M Z T N : Nat) (σ : Mem) (a : Nat) (h0 : HT V G (b, M, Z, T) σ) (hk : kA b a = 3) (hM : M + 0 ≤ 1000000000) : Ct l V yX7_readIndex cX7_readIndex 3 none 4 0 0 N σ [.ref a] (fun r τ => HK V G (b, M, Z, T) [0, 1, 2, 4, 5, 6, 8, 9, 12, 13, 14, 15, 16, 17, 18, 19] σ τ ∧ r = none) := by
  refine Ct.of (by decide) (Nat.le_of_ble_eq_true rfl) [(0, .ref a)] rfl (fun X hX F hQ => ?_)
  have h1 : HK V G (b, M, Z, T) [0, 1, 2, 4, 5, 6, 8, 9, 12, 13, 14, 15, 16, 17, 18, 19] σ σ := HK.start h0
  refine m_aload_n F rfl e_X7_readIndex_0 ?_
  refine m_aload_n F rfl e_X7_readIndex_1 ?_
  refine t_get F e_X7_readIndex_2 fl_X7_23 (fun _ => o3) h1 hk rfl (fun v hv f3870 => ?_)
  obtain ⟨r3871, k3872, rfl⟩ := hv
  refine t_get F e_X7_readIndex_5 fl_X7_169 (fun _ => o7) h1 k3872 rfl (fun v hv f3873 => ?_)
  obtain ⟨n3874, hn3874, rfl⟩ := hv
  replace hn3874 : n3874 ≤ 8 := hn3874
  refine m_bipush F (v := 8) (by decide) e_X7_readIndex_8 ?_
  refine m_icmp_lt F e_X7_readIndex_10 (fun q10 => ?_) (fun q10 => ?_)
  · have c10 : n3874 < 8 := (nI_ltI (a := n3874) (b := 8) (by omega) (by omega)).mp q10
    refine m_iconst F (v := 0) (by decide) e_X7_readIndex_17 ?_
    refine t_callV F e_X7_readIndex_18 (s_X7_startLine (x_l X) V G b M Z T _ _ a 0 h1.1 hk  (by omega)) cb_X7_startLine ml_X7_124 im_X7_startLine se_X7_startLine (fun _ => o3) h1 hk rfl rfl (rest := []) rfl (Nat.le_of_ble_eq_true rfl) ⟨Nat.le_of_ble_eq_true rfl, Nat.le_of_ble_eq_true rfl⟩ ⟨Nat.le_of_ble_eq_true rfl, Nat.le_of_ble_eq_true rfl⟩ (fun r σ3875 hp => ?_)
    obtain ⟨h3877, rfl⟩ := hp
    have h3876 := HK.trans h1 h3877 (by decide)
    refine m_aload_n F rfl e_X7_readIndex_21 ?_
    refine m_aload_n F rfl e_X7_readIndex_22 ?_
    refine t_get F e_X7_readIndex_23 fl_X7_23 (fun _ => o3) h3876 hk rfl (fun v hv f3878 => ?_)
    obtain ⟨r3879, k3880, rfl⟩ := hv
    refine t_callV F e_X7_readIndex_26 (s_X2_lastTold (x_l X) V G b M Z T _ _ r3879  h3876.1 k3880  (by omega)) cb_X2_lastTold ml_X7_172 im_X2_lastTold se_X2_lastTold (fun _ => o7) h3876 k3880 rfl rfl (rest := [.ref a]) rfl (Nat.le_of_ble_eq_true rfl) ⟨Nat.le_of_ble_eq_true rfl, Nat.le_of_ble_eq_true rfl⟩ ⟨Nat.le_of_ble_eq_true rfl, Nat.le_of_ble_eq_true rfl⟩ (fun r σ3881 hp => ?_)
    obtain ⟨h3883, x3884, rfl⟩ := hp
    have h3882 := HK.trans h3876 h3883 (by decide)
    refine m_iconst F (v := 1) (by decide) e_X7_readIndex_29 ?_
    refine m_iadd F e_X7_readIndex_30 ?_
    refine Wm.top (fun x3885 _ => ?_)
    refine m_bipush F (v := 99) (by decide) e_X7_readIndex_31 ?_
    refine t_callV F e_X7_readIndex_33 (s_X7_readNumberW (x_l X) V G b M Z T _ _ a x3885 99 h3882.1 hk (by omega) (by omega)) cb_X7_readNumber ml_X7_130 im_X7_readNumber se_X7_readNumber (fun _ => o3) h3882 hk rfl rfl (rest := []) rfl (Nat.le_of_ble_eq_true rfl) ⟨Nat.le_of_ble_eq_true rfl, Nat.le_of_ble_eq_true rfl⟩ ⟨Nat.le_of_ble_eq_true rfl, Nat.le_of_ble_eq_true rfl⟩ (fun r σ3886 hp => ?_)
    obtain ⟨h3888, x3889, rfl⟩ := hp
    have h3887 := HK.trans h3882 h3888 (by decide)
    refine m_istore_n F (lv' := [(1, .int x3889), (0, .ref a)]) e_X7_readIndex_36 (by decide) rfl ?_
    refine m_aload_n F rfl e_X7_readIndex_37 ?_
    refine m_sipush F (v := 500) (by decide) e_X7_readIndex_38 ?_
    refine m_sipush F (v := 2000) (by decide) e_X7_readIndex_41 ?_
    refine t_callV F e_X7_readIndex_44 (s_X7_readNumber (x_l X) V G b M Z T _ _ a 500 2000 h3887.1 hk (by omega) (by omega) (by omega)) cb_X7_readNumber ml_X7_130 im_X7_readNumber se_X7_readNumber (fun _ => o3) h3887 hk rfl rfl (rest := []) rfl (Nat.le_of_ble_eq_true rfl) ⟨Nat.le_of_ble_eq_true rfl, Nat.le_of_ble_eq_true rfl⟩ ⟨Nat.le_of_ble_eq_true rfl, Nat.le_of_ble_eq_true rfl⟩ (fun r σ3890 hp => ?_)
    obtain ⟨h3892, n3893, hn3893, rfl⟩ := hp
    have h3891 := HK.trans h3887 h3892 (by decide)
    refine m_istore_n F (lv' := [(2, .int (nI n3893)), (1, .int x3889), (0, .ref a)]) e_X7_readIndex_47 (by decide) rfl ?_
    refine m_aload_n F rfl e_X7_readIndex_48 ?_
    refine t_get F e_X7_readIndex_49 fl_X7_55 (fun _ => o3) h3891 hk rfl (fun v hv f3894 => ?_)
    obtain ⟨x3895, hx3895, rfl⟩ := hv
    replace hx3895 : Z = 0 → x3895 ≠ 0 := hx3895
    refine m_if_ne F e_X7_readIndex_52 (fun q52 => ?_) (fun q52 => ?_)
    · exact m_vret F hQ e_X7_readIndex_64 (⟨h3891, rfl⟩)
    · refine m_aload_n F rfl e_X7_readIndex_55 ?_
      refine t_get F e_X7_readIndex_56 fl_X7_23 (fun _ => o3) h3891 hk rfl (fun v hv f3896 => ?_)
      obtain ⟨r3897, k3898, rfl⟩ := hv
      refine m_iload_n F rfl e_X7_readIndex_59 ?_
      refine m_iload_n F rfl e_X7_readIndex_60 ?_
      refine t_callV F e_X7_readIndex_61 (s_X2_addIndex (x_l X) V G b M Z T _ _ r3897 x3889 (nI n3893) h3891.1 k3898  (by omega)) cb_X2_addIndex ml_X7_175 im_X2_addIndex se_X2_addIndex (fun _ => o7) h3891 k3898 rfl rfl (rest := []) rfl (Nat.le_of_ble_eq_true rfl) ⟨Nat.le_of_ble_eq_true rfl, Nat.le_of_ble_eq_true rfl⟩ ⟨Nat.le_of_ble_eq_true rfl, Nat.le_of_ble_eq_true rfl⟩ (fun r σ3899 hp => ?_)
      obtain ⟨h3901, rfl⟩ := hp
      have h3900 := HK.trans h3891 h3901 (by decide)
      exact m_vret F hQ e_X7_readIndex_64 (⟨h3900, rfl⟩)
  · have c10 : n3874 ≥ 8 := by have hh := mt (nI_ltI (a := n3874) (b := 8) (by omega) (by omega)).mpr q10; omega
    refine m_iconst F (v := 2) (by decide) e_X7_readIndex_13 ?_
    refine m_goto F e_X7_readIndex_14 ?_
    refine t_callV F e_X7_readIndex_18 (s_X7_startLine (x_l X) V G b M Z T _ _ a 2 h1.1 hk  (by omega)) cb_X7_startLine ml_X7_124 im_X7_startLine se_X7_startLine (fun _ => o3) h1 hk rfl rfl (rest := []) rfl (Nat.le_of_ble_eq_true rfl) ⟨Nat.le_of_ble_eq_true rfl, Nat.le_of_ble_eq_true rfl⟩ ⟨Nat.le_of_ble_eq_true rfl, Nat.le_of_ble_eq_true rfl⟩ (fun r σ3902 hp => ?_)
    obtain ⟨h3904, rfl⟩ := hp
    have h3903 := HK.trans h1 h3904 (by decide)
    refine m_aload_n F rfl e_X7_readIndex_21 ?_
    refine m_aload_n F rfl e_X7_readIndex_22 ?_
    refine t_get F e_X7_readIndex_23 fl_X7_23 (fun _ => o3) h3903 hk rfl (fun v hv f3905 => ?_)
    obtain ⟨r3906, k3907, rfl⟩ := hv
    refine t_callV F e_X7_readIndex_26 (s_X2_lastTold (x_l X) V G b M Z T _ _ r3906  h3903.1 k3907  (by omega)) cb_X2_lastTold ml_X7_172 im_X2_lastTold se_X2_lastTold (fun _ => o7) h3903 k3907 rfl rfl (rest := [.ref a]) rfl (Nat.le_of_ble_eq_true rfl) ⟨Nat.le_of_ble_eq_true rfl, Nat.le_of_ble_eq_true rfl⟩ ⟨Nat.le_of_ble_eq_true rfl, Nat.le_of_ble_eq_true rfl⟩ (fun r σ3908 hp => ?_)
    obtain ⟨h3910, x3911, rfl⟩ := hp
    have h3909 := HK.trans h3903 h3910 (by decide)
    refine m_iconst F (v := 1) (by decide) e_X7_readIndex_29 ?_
    refine m_iadd F e_X7_readIndex_30 ?_
    refine Wm.top (fun x3912 _ => ?_)
    refine m_bipush F (v := 99) (by decide) e_X7_readIndex_31 ?_
    refine t_callV F e_X7_readIndex_33 (s_X7_readNumberW (x_l X) V G b M Z T _ _ a x3912 99 h3909.1 hk (by omega) (by omega)) cb_X7_readNumber ml_X7_130 im_X7_readNumber se_X7_readNumber (fun _ => o3) h3909 hk rfl rfl (rest := []) rfl (Nat.le_of_ble_eq_true rfl) ⟨Nat.le_of_ble_eq_true rfl, Nat.le_of_ble_eq_true rfl⟩ ⟨Nat.le_of_ble_eq_true rfl, Nat.le_of_ble_eq_true rfl⟩ (fun r σ3913 hp => ?_)
    obtain ⟨h3915, x3916, rfl⟩ := hp
    have h3914 := HK.trans h3909 h3915 (by decide)
    refine m_istore_n F (lv' := [(1, .int x3916), (0, .ref a)]) e_X7_readIndex_36 (by decide) rfl ?_
    refine m_aload_n F rfl e_X7_readIndex_37 ?_
    refine m_sipush F (v := 500) (by decide) e_X7_readIndex_38 ?_
    refine m_sipush F (v := 2000) (by decide) e_X7_readIndex_41 ?_
    refine t_callV F e_X7_readIndex_44 (s_X7_readNumber (x_l X) V G b M Z T _ _ a 500 2000 h3914.1 hk (by omega) (by omega) (by omega)) cb_X7_readNumber ml_X7_130 im_X7_readNumber se_X7_readNumber (fun _ => o3) h3914 hk rfl rfl (rest := []) rfl (Nat.le_of_ble_eq_true rfl) ⟨Nat.le_of_ble_eq_true rfl, Nat.le_of_ble_eq_true rfl⟩ ⟨Nat.le_of_ble_eq_true rfl, Nat.le_of_ble_eq_true rfl⟩ (fun r σ3917 hp => ?_)
    obtain ⟨h3919, n3920, hn3920, rfl⟩ := hp
    have h3918 := HK.trans h3914 h3919 (by decide)
    refine m_istore_n F (lv' := [(2, .int (nI n3920)), (1, .int x3916), (0, .ref a)]) e_X7_readIndex_47 (by decide) rfl ?_
    refine m_aload_n F rfl e_X7_readIndex_48 ?_
    refine t_get F e_X7_readIndex_49 fl_X7_55 (fun _ => o3) h3918 hk rfl (fun v hv f3921 => ?_)
    obtain ⟨x3922, hx3922, rfl⟩ := hv
    replace hx3922 : Z = 0 → x3922 ≠ 0 := hx3922
    refine m_if_ne F e_X7_readIndex_52 (fun q52 => ?_) (fun q52 => ?_)
    · exact m_vret F hQ e_X7_readIndex_64 (⟨h3918, rfl⟩)
    · refine m_aload_n F rfl e_X7_readIndex_55 ?_
      refine t_get F e_X7_readIndex_56 fl_X7_23 (fun _ => o3) h3918 hk rfl (fun v hv f3923 => ?_)
      obtain ⟨r3924, k3925, rfl⟩ := hv
      refine m_iload_n F rfl e_X7_readIndex_59 ?_
      refine m_iload_n F rfl e_X7_readIndex_60 ?_
      refine t_callV F e_X7_readIndex_61 (s_X2_addIndex (x_l X) V G b M Z T _ _ r3924 x3916 (nI n3920) h3918.1 k3925  (by omega)) cb_X2_addIndex ml_X7_175 im_X2_addIndex se_X2_addIndex (fun _ => o7) h3918 k3925 rfl rfl (rest := []) rfl (Nat.le_of_ble_eq_true rfl) ⟨Nat.le_of_ble_eq_true rfl, Nat.le_of_ble_eq_true rfl⟩ ⟨Nat.le_of_ble_eq_true rfl, Nat.le_of_ble_eq_true rfl⟩ (fun r σ3926 hp => ?_)
      obtain ⟨h3928, rfl⟩ := hp
      have h3927 := HK.trans h3918 h3928 (by decide)
      exact m_vret F hQ e_X7_readIndex_64 (⟨h3927, rfl⟩)
set_option maxRecDepth 20000 in
theorem s_X7_readSeed (l : Launch) (V : VX) (G : GH) (b M Z T N : Nat) (σ : Mem) (a : Nat) (h0 : HT V G (b, M, Z, T) σ) (hk : kA b a = 3) (hM : M + 0 ≤ 1000000000) : Ct l V yX7_readSeed cX7_readSeed 2 none 3 0 0 N σ [.ref a] (fun r τ => HK V G (b, M, Z, T) [0, 1, 2, 4, 5, 6, 8, 9, 10, 11, 12, 13, 14, 15, 16, 17, 18, 19] σ τ ∧ r = none) := by
  refine Ct.of (by decide) (Nat.le_of_ble_eq_true rfl) [(0, .ref a)] rfl (fun X hX F hQ => ?_)
  have h1 : HK V G (b, M, Z, T) [0, 1, 2, 4, 5, 6, 8, 9, 10, 11, 12, 13, 14, 15, 16, 17, 18, 19] σ σ := HK.start h0
  refine m_aload_n F rfl e_X7_readSeed_0 ?_
  refine m_aload_n F rfl e_X7_readSeed_1 ?_
  refine t_get F e_X7_readSeed_2 fl_X7_48 (fun _ => o3) h1 hk rfl (fun v hv f3929 => ?_)
  obtain ⟨n3930, hn3930, rfl⟩ := hv
  replace hn3930 : n3930 ≤ 1 := hn3930
  refine m_if_eq F e_X7_readSeed_5 (fun q5 => ?_) (fun q5 => ?_)
  · have c5 : n3930 = 0 := (nI_eq (a := n3930) (b := 0) (by omega) (by omega)).mp q5
    refine m_iconst F (v := 0) (by decide) e_X7_readSeed_12 ?_
    refine t_callV F e_X7_readSeed_13 (s_X7_startLine (x_l X) V G b M Z T _ _ a 0 h1.1 hk  (by omega)) cb_X7_startLine ml_X7_124 im_X7_startLine se_X7_startLine (fun _ => o3) h1 hk rfl rfl (rest := []) rfl (Nat.le_of_ble_eq_true rfl) ⟨Nat.le_of_ble_eq_true rfl, Nat.le_of_ble_eq_true rfl⟩ ⟨Nat.le_of_ble_eq_true rfl, Nat.le_of_ble_eq_true rfl⟩ (fun r σ3931 hp => ?_)
    obtain ⟨h3933, rfl⟩ := hp
    have h3932 := HK.trans h1 h3933 (by decide)
    refine m_aload_n F rfl e_X7_readSeed_16 ?_
    refine m_iconst F (v := 0) (by decide) e_X7_readSeed_17 ?_
    refine m_ldc F kc_X7_141 e_X7_readSeed_18 ?_
    refine t_callV F e_X7_readSeed_20 (s_X7_readNumber (x_l X) V G b M Z T _ _ a 0 99999 h3932.1 hk (by omega) (by omega) (by omega)) cb_X7_readNumber ml_X7_130 im_X7_readNumber se_X7_readNumber (fun _ => o3) h3932 hk rfl rfl (rest := []) rfl (Nat.le_of_ble_eq_true rfl) ⟨Nat.le_of_ble_eq_true rfl, Nat.le_of_ble_eq_true rfl⟩ ⟨Nat.le_of_ble_eq_true rfl, Nat.le_of_ble_eq_true rfl⟩ (fun r σ3934 hp => ?_)
    obtain ⟨h3936, n3937, hn3937, rfl⟩ := hp
    have h3935 := HK.trans h3932 h3936 (by decide)
    refine m_istore_n F (lv' := [(1, .int (nI n3937)), (0, .ref a)]) e_X7_readSeed_23 (by decide) rfl ?_
    refine m_aload_n F rfl e_X7_readSeed_24 ?_
    refine t_get F e_X7_readSeed_25 fl_X7_55 (fun _ => o3) h3935 hk rfl (fun v hv f3938 => ?_)
    obtain ⟨x3939, hx3939, rfl⟩ := hv
    replace hx3939 : Z = 0 → x3939 ≠ 0 := hx3939
    refine m_if_ne F e_X7_readSeed_28 (fun q28 => ?_) (fun q28 => ?_)
    · exact m_vret F hQ e_X7_readSeed_44 (⟨h3935, rfl⟩)
    · refine m_aload_n F rfl e_X7_readSeed_31 ?_
      refine m_iconst F (v := 1) (by decide) e_X7_readSeed_32 ?_
      refine t_put F e_X7_readSeed_33 fp_X7_48 (fun _ => o3) h3935 hk rfl ⟨1, (show 1 ≤ 1 by omega), rfl⟩ (by decide) rfl (by decide) (fun σ3940 h3941 g3942 g3943 f3944 => ?_)
      refine m_aload_n F rfl e_X7_readSeed_36 ?_
      refine t_get F e_X7_readSeed_37 fl_X7_23 (fun _ => o3) h3941 hk rfl (fun v hv f3945 => ?_)
      obtain ⟨r3946, k3947, rfl⟩ := hv
      refine m_iload_n F rfl e_X7_readSeed_40 ?_
      refine t_put F e_X7_readSeed_41 fp_X7_185 (fun _ => o7) h3941 k3947 rfl ⟨_, rfl⟩ rfl rfl (by decide) (fun σ3948 h3949 g3950 g3951 f3952 => ?_)
      exact m_vret F hQ e_X7_readSeed_44 (⟨h3949, rfl⟩)
  · have c5 : n3930 ≠ 0 := by have hh := mt (nI_eq (a := n3930) (b := 0) (by omega) (by omega)).mpr q5; omega
    refine m_iconst F (v := 3) (by decide) e_X7_readSeed_8 ?_
    refine m_goto F e_X7_readSeed_9 ?_
    refine t_callV F e_X7_readSeed_13 (s_X7_startLine (x_l X) V G b M Z T _ _ a 3 h1.1 hk  (by omega)) cb_X7_startLine ml_X7_124 im_X7_startLine se_X7_startLine (fun _ => o3) h1 hk rfl rfl (rest := []) rfl (Nat.le_of_ble_eq_true rfl) ⟨Nat.le_of_ble_eq_true rfl, Nat.le_of_ble_eq_true rfl⟩ ⟨Nat.le_of_ble_eq_true rfl, Nat.le_of_ble_eq_true rfl⟩ (fun r σ3953 hp => ?_)
    obtain ⟨h3955, rfl⟩ := hp
    have h3954 := HK.trans h1 h3955 (by decide)
    refine m_aload_n F rfl e_X7_readSeed_16 ?_
    refine m_iconst F (v := 0) (by decide) e_X7_readSeed_17 ?_
    refine m_ldc F kc_X7_141 e_X7_readSeed_18 ?_
    refine t_callV F e_X7_readSeed_20 (s_X7_readNumber (x_l X) V G b M Z T _ _ a 0 99999 h3954.1 hk (by omega) (by omega) (by omega)) cb_X7_readNumber ml_X7_130 im_X7_readNumber se_X7_readNumber (fun _ => o3) h3954 hk rfl rfl (rest := []) rfl (Nat.le_of_ble_eq_true rfl) ⟨Nat.le_of_ble_eq_true rfl, Nat.le_of_ble_eq_true rfl⟩ ⟨Nat.le_of_ble_eq_true rfl, Nat.le_of_ble_eq_true rfl⟩ (fun r σ3956 hp => ?_)
    obtain ⟨h3958, n3959, hn3959, rfl⟩ := hp
    have h3957 := HK.trans h3954 h3958 (by decide)
    refine m_istore_n F (lv' := [(1, .int (nI n3959)), (0, .ref a)]) e_X7_readSeed_23 (by decide) rfl ?_
    refine m_aload_n F rfl e_X7_readSeed_24 ?_
    refine t_get F e_X7_readSeed_25 fl_X7_55 (fun _ => o3) h3957 hk rfl (fun v hv f3960 => ?_)
    obtain ⟨x3961, hx3961, rfl⟩ := hv
    replace hx3961 : Z = 0 → x3961 ≠ 0 := hx3961
    refine m_if_ne F e_X7_readSeed_28 (fun q28 => ?_) (fun q28 => ?_)
    · exact m_vret F hQ e_X7_readSeed_44 (⟨h3957, rfl⟩)
    · refine m_aload_n F rfl e_X7_readSeed_31 ?_
      refine m_iconst F (v := 1) (by decide) e_X7_readSeed_32 ?_
      refine t_put F e_X7_readSeed_33 fp_X7_48 (fun _ => o3) h3957 hk rfl ⟨1, (show 1 ≤ 1 by omega), rfl⟩ (by decide) rfl (by decide) (fun σ3962 h3963 g3964 g3965 f3966 => ?_)
      refine m_aload_n F rfl e_X7_readSeed_36 ?_
      refine t_get F e_X7_readSeed_37 fl_X7_23 (fun _ => o3) h3963 hk rfl (fun v hv f3967 => ?_)
      obtain ⟨r3968, k3969, rfl⟩ := hv
      refine m_iload_n F rfl e_X7_readSeed_40 ?_
      refine t_put F e_X7_readSeed_41 fp_X7_185 (fun _ => o7) h3963 k3969 rfl ⟨_, rfl⟩ rfl rfl (by decide) (fun σ3970 h3971 g3972 g3973 f3974 => ?_)
      exact m_vret F hQ e_X7_readSeed_44 (⟨h3971, rfl⟩)
set_option maxRecDepth 20000 in
theorem s_X7_readPay (l : Launch) (V : VX) (G : GH) (b M Z T N : Nat) (σ : Mem) (a : Nat) (h0 : HT V G (b, M, Z, T) σ) (hk : kA b a = 3) (hM : M + 0 ≤ 1000000000) : Ct l V yX7_readPay cX7_readPay 5 none 4 0 0 N σ [.ref a] (fun r τ => HK V G (b, M, Z, T) [0, 1, 2, 4, 5, 7, 8, 9, 10, 11, 12, 13, 14, 15, 16, 18, 19] σ τ ∧ r = none) := by
  refine Ct.of (by decide) (Nat.le_of_ble_eq_true rfl) [(0, .ref a)] rfl (fun X hX F hQ => ?_)
  have h1 : HK V G (b, M, Z, T) [0, 1, 2, 4, 5, 7, 8, 9, 10, 11, 12, 13, 14, 15, 16, 18, 19] σ σ := HK.start h0
  refine m_aload_n F rfl e_X7_readPay_0 ?_
  refine m_aload_n F rfl e_X7_readPay_1 ?_
  refine t_get F e_X7_readPay_2 fl_X7_45 (fun _ => o3) h1 hk rfl (fun v hv f3975 => ?_)
  obtain ⟨x3976, rfl⟩ := hv
  refine m_bipush F (v := 12) (by decide) e_X7_readPay_5 ?_
  refine m_icmp_lt F e_X7_readPay_7 (fun q7 => ?_) (fun q7 => ?_)
  · refine m_iconst F (v := 0) (by decide) e_X7_readPay_14 ?_
    refine t_callV F e_X7_readPay_15 (s_X7_startLine (x_l X) V G b M Z T _ _ a 0 h1.1 hk  (by omega)) cb_X7_startLine ml_X7_124 im_X7_startLine se_X7_startLine (fun _ => o3) h1 hk rfl rfl (rest := []) rfl (Nat.le_of_ble_eq_true rfl) ⟨Nat.le_of_ble_eq_true rfl, Nat.le_of_ble_eq_true rfl⟩ ⟨Nat.le_of_ble_eq_true rfl, Nat.le_of_ble_eq_true rfl⟩ (fun r σ3977 hp => ?_)
    obtain ⟨h3979, rfl⟩ := hp
    have h3978 := HK.trans h1 h3979 (by decide)
    refine m_aload_n F rfl e_X7_readPay_18 ?_
    refine t_callV F e_X7_readPay_19 (s_X7_readToldName (x_l X) V G b M Z T _ _ a  h3978.1 hk  (by omega)) cb_X7_readToldName ml_X7_138 im_X7_readToldName se_X7_readToldName (fun _ => o3) h3978 hk rfl rfl (rest := []) rfl (Nat.le_of_ble_eq_true rfl) ⟨Nat.le_of_ble_eq_true rfl, Nat.le_of_ble_eq_true rfl⟩ ⟨Nat.le_of_ble_eq_true rfl, Nat.le_of_ble_eq_true rfl⟩ (fun r σ3980 hp => ?_)
    obtain ⟨h3982, c3983⟩ := hp
    have h3981 := HK.trans h3978 h3982 (by decide)
    rcases c3983 with ⟨n3984, hn3984, rfl⟩ | ⟨h3985, rfl⟩
    · refine m_istore_n F (lv' := [(1, .int (nI n3984)), (0, .ref a)]) e_X7_readPay_22 (by decide) rfl ?_
      refine m_aload_n F rfl e_X7_readPay_23 ?_
      refine m_iconst F (v := 1) (by decide) e_X7_readPay_24 ?_
      refine m_bipush F (v := 48) (by decide) e_X7_readPay_25 ?_
      refine t_callV F e_X7_readPay_27 (s_X7_readNumber (x_l X) V G b M Z T _ _ a 1 48 h3981.1 hk (by omega) (by omega) (by omega)) cb_X7_readNumber ml_X7_130 im_X7_readNumber se_X7_readNumber (fun _ => o3) h3981 hk rfl rfl (rest := []) rfl (Nat.le_of_ble_eq_true rfl) ⟨Nat.le_of_ble_eq_true rfl, Nat.le_of_ble_eq_true rfl⟩ ⟨Nat.le_of_ble_eq_true rfl, Nat.le_of_ble_eq_true rfl⟩ (fun r σ3986 hp => ?_)
      obtain ⟨h3988, n3989, hn3989, rfl⟩ := hp
      have h3987 := HK.trans h3981 h3988 (by decide)
      refine m_istore_n F (lv' := [(2, .int (nI n3989)), (1, .int (nI n3984)), (0, .ref a)]) e_X7_readPay_30 (by decide) rfl ?_
      refine m_aload_n F rfl e_X7_readPay_31 ?_
      refine m_iload_n F rfl e_X7_readPay_32 ?_
      refine m_bipush F (v := 48) (by decide) e_X7_readPay_33 ?_
      refine t_callV F e_X7_readPay_35 (s_X7_readNumber (x_l X) V G b M Z T _ _ a n3989 48 h3987.1 hk (by omega) (by omega) (by omega)) cb_X7_readNumber ml_X7_130 im_X7_readNumber se_X7_readNumber (fun _ => o3) h3987 hk rfl rfl (rest := []) rfl (Nat.le_of_ble_eq_true rfl) ⟨Nat.le_of_ble_eq_true rfl, Nat.le_of_ble_eq_true rfl⟩ ⟨Nat.le_of_ble_eq_true rfl, Nat.le_of_ble_eq_true rfl⟩ (fun r σ3990 hp => ?_)
      obtain ⟨h3992, n3993, hn3993, rfl⟩ := hp
      have h3991 := HK.trans h3987 h3992 (by decide)
      refine m_istore_n F (lv' := [(3, .int (nI n3993)), (2, .int (nI n3989)), (1, .int (nI n3984)), (0, .ref a)]) e_X7_readPay_38 (by decide) rfl ?_
      refine m_aload_n F rfl e_X7_readPay_39 ?_
      refine m_iconst F (v := 0) (by decide) e_X7_readPay_40 ?_
      refine m_ldc F kc_X7_141 e_X7_readPay_41 ?_
      refine t_callV F e_X7_readPay_43 (s_X7_readNumber (x_l X) V G b M Z T _ _ a 0 99999 h3991.1 hk (by omega) (by omega) (by omega)) cb_X7_readNumber ml_X7_130 im_X7_readNumber se_X7_readNumber (fun _ => o3) h3991 hk rfl rfl (rest := []) rfl (Nat.le_of_ble_eq_true rfl) ⟨Nat.le_of_ble_eq_true rfl, Nat.le_of_ble_eq_true rfl⟩ ⟨Nat.le_of_ble_eq_true rfl, Nat.le_of_ble_eq_true rfl⟩ (fun r σ3994 hp => ?_)
      obtain ⟨h3996, n3997, hn3997, rfl⟩ := hp
      have h3995 := HK.trans h3991 h3996 (by decide)
      refine m_istore F (lv' := [(4, .int (nI n3997)), (3, .int (nI n3993)), (2, .int (nI n3989)), (1, .int (nI n3984)), (0, .ref a)]) e_X7_readPay_46 (by decide) rfl ?_
      refine m_aload_n F rfl e_X7_readPay_48 ?_
      refine t_get F e_X7_readPay_49 fl_X7_55 (fun _ => o3) h3995 hk rfl (fun v hv f3998 => ?_)
      obtain ⟨x3999, hx3999, rfl⟩ := hv
      replace hx3999 : Z = 0 → x3999 ≠ 0 := hx3999
      refine m_if_ne F e_X7_readPay_52 (fun q52 => ?_) (fun q52 => ?_)
      · exact m_vret F hQ e_X7_readPay_85 (⟨h3995, rfl⟩)
      · refine m_aload_n F rfl e_X7_readPay_55 ?_
        refine m_dup F rfl e_X7_readPay_56 ?_
        refine t_get F e_X7_readPay_57 fl_X7_45 (fun _ => o3) h3995 hk rfl (fun v hv f4000 => ?_)
        obtain ⟨x4001, rfl⟩ := hv
        refine m_iconst F (v := 1) (by decide) e_X7_readPay_60 ?_
        refine m_iadd F e_X7_readPay_61 ?_
        refine Wm.top (fun x4002 _ => ?_)
        refine t_put F e_X7_readPay_62 fp_X7_45 (fun _ => o3) h3995 hk rfl ⟨_, rfl⟩ rfl rfl (by decide) (fun σ4003 h4004 g4005 g4006 f4007 => ?_)
        refine m_aload_n F rfl e_X7_readPay_65 ?_
        refine t_get F e_X7_readPay_66 fl_X7_23 (fun _ => o3) h4004 hk rfl (fun v hv f4008 => ?_)
        obtain ⟨r4009, k4010, rfl⟩ := hv
        refine t_get F e_X7_readPay_69 fl_X7_142 (fun _ => o7) h4004 k4010 rfl (fun v hv f4011 => ?_)
        obtain rfl : v = .ref (r4009 + 1) := hv
        refine m_iload_n F rfl e_X7_readPay_72 ?_
        refine t_aald8 F (j := n3984) e_X7_readPay_73 rfl h4004 (kA_7 k4010 (r := 1) (by decide)) (nI_clamp (by omega)) (vp_in_nI (by omega) (by decide)) ?_
        refine m_iload_n F rfl e_X7_readPay_74 ?_
        refine m_iconst F (v := 1) (by decide) e_X7_readPay_75 ?_
        refine m_isub F e_X7_readPay_76 ?_
        rcases Nat.eq_zero_or_pos (n3989) with e76 | e76
        · rw [e76]
          refine Wm.topE (w := -1) (by decide) ?_
          refine m_iload_n F rfl e_X7_readPay_77 ?_
          refine m_iconst F (v := 1) (by decide) e_X7_readPay_78 ?_
          refine m_isub F e_X7_readPay_79 ?_
          rcases Nat.eq_zero_or_pos (n3993) with e79 | e79
          · rw [e79]
            refine Wm.topE (w := -1) (by decide) ?_
            refine m_iload F rfl e_X7_readPay_80 ?_
            refine t_callV F e_X7_readPay_82 (s_X5_payMore (x_l X) V G b M Z T _ _ ((r4009 + 1) + 10 + 12 * n3984) (-1) (-1) (nI n3997) h4004.1 (kA_8 (kA_7 k4010 (r := 1) (by decide)) (j := n3984) (by omega)) (by first | omega | assumption | decide | (rw [nI_ti (by omega)]; omega)) (by omega)) cb_X5_payMore ml_X7_146 im_X5_payMore se_X5_payMore (fun _ => o15) h4004 (kA_8 (kA_7 k4010 (r := 1) (by decide)) (j := n3984) (by omega)) rfl rfl (rest := []) rfl (Nat.le_of_ble_eq_true rfl) ⟨Nat.le_of_ble_eq_true rfl, Nat.le_of_ble_eq_true rfl⟩ ⟨Nat.le_of_ble_eq_true rfl, Nat.le_of_ble_eq_true rfl⟩ (fun r σ4012 hp => ?_)
            obtain ⟨h4014, rfl⟩ := hp
            have h4013 := HK.trans h4004 h4014 (by decide)
            exact m_vret F hQ e_X7_readPay_85 (⟨h4013, rfl⟩)
          · refine Wm.topE (w := nI (n3993 - 1)) (pk_sub (a := n3993) (b := 1) (by omega)) ?_
            refine m_iload F rfl e_X7_readPay_80 ?_
            refine t_callV F e_X7_readPay_82 (s_X5_payMore (x_l X) V G b M Z T _ _ ((r4009 + 1) + 10 + 12 * n3984) (-1) (nI (n3993 - 1)) (nI n3997) h4004.1 (kA_8 (kA_7 k4010 (r := 1) (by decide)) (j := n3984) (by omega)) (by first | omega | assumption | decide | (rw [nI_ti (by omega)]; omega)) (by omega)) cb_X5_payMore ml_X7_146 im_X5_payMore se_X5_payMore (fun _ => o15) h4004 (kA_8 (kA_7 k4010 (r := 1) (by decide)) (j := n3984) (by omega)) rfl rfl (rest := []) rfl (Nat.le_of_ble_eq_true rfl) ⟨Nat.le_of_ble_eq_true rfl, Nat.le_of_ble_eq_true rfl⟩ ⟨Nat.le_of_ble_eq_true rfl, Nat.le_of_ble_eq_true rfl⟩ (fun r σ4015 hp => ?_)
            obtain ⟨h4017, rfl⟩ := hp
            have h4016 := HK.trans h4004 h4017 (by decide)
            exact m_vret F hQ e_X7_readPay_85 (⟨h4016, rfl⟩)
        · refine Wm.topE (w := nI (n3989 - 1)) (pk_sub (a := n3989) (b := 1) (by omega)) ?_
          refine m_iload_n F rfl e_X7_readPay_77 ?_
          refine m_iconst F (v := 1) (by decide) e_X7_readPay_78 ?_
          refine m_isub F e_X7_readPay_79 ?_
          rcases Nat.eq_zero_or_pos (n3993) with e79 | e79
          · rw [e79]
            refine Wm.topE (w := -1) (by decide) ?_
            refine m_iload F rfl e_X7_readPay_80 ?_
            refine t_callV F e_X7_readPay_82 (s_X5_payMore (x_l X) V G b M Z T _ _ ((r4009 + 1) + 10 + 12 * n3984) (nI (n3989 - 1)) (-1) (nI n3997) h4004.1 (kA_8 (kA_7 k4010 (r := 1) (by decide)) (j := n3984) (by omega)) (by first | omega | assumption | decide | (rw [nI_ti (by omega)]; omega)) (by omega)) cb_X5_payMore ml_X7_146 im_X5_payMore se_X5_payMore (fun _ => o15) h4004 (kA_8 (kA_7 k4010 (r := 1) (by decide)) (j := n3984) (by omega)) rfl rfl (rest := []) rfl (Nat.le_of_ble_eq_true rfl) ⟨Nat.le_of_ble_eq_true rfl, Nat.le_of_ble_eq_true rfl⟩ ⟨Nat.le_of_ble_eq_true rfl, Nat.le_of_ble_eq_true rfl⟩ (fun r σ4018 hp => ?_)
            obtain ⟨h4020, rfl⟩ := hp
            have h4019 := HK.trans h4004 h4020 (by decide)
            exact m_vret F hQ e_X7_readPay_85 (⟨h4019, rfl⟩)
          · refine Wm.topE (w := nI (n3993 - 1)) (pk_sub (a := n3993) (b := 1) (by omega)) ?_
            refine m_iload F rfl e_X7_readPay_80 ?_
            refine t_callV F e_X7_readPay_82 (s_X5_payMore (x_l X) V G b M Z T _ _ ((r4009 + 1) + 10 + 12 * n3984) (nI (n3989 - 1)) (nI (n3993 - 1)) (nI n3997) h4004.1 (kA_8 (kA_7 k4010 (r := 1) (by decide)) (j := n3984) (by omega)) (by first | omega | assumption | decide | (rw [nI_ti (by omega)]; omega)) (by omega)) cb_X5_payMore ml_X7_146 im_X5_payMore se_X5_payMore (fun _ => o15) h4004 (kA_8 (kA_7 k4010 (r := 1) (by decide)) (j := n3984) (by omega)) rfl rfl (rest := []) rfl (Nat.le_of_ble_eq_true rfl) ⟨Nat.le_of_ble_eq_true rfl, Nat.le_of_ble_eq_true rfl⟩ ⟨Nat.le_of_ble_eq_true rfl, Nat.le_of_ble_eq_true rfl⟩ (fun r σ4021 hp => ?_)
            obtain ⟨h4023, rfl⟩ := hp
            have h4022 := HK.trans h4004 h4023 (by decide)
            exact m_vret F hQ e_X7_readPay_85 (⟨h4022, rfl⟩)
    · have h4024 : HK V G (b, M, 0, T) [0, 1, 2, 4, 5, 7, 8, 9, 10, 11, 12, 13, 14, 15, 16, 18, 19] _ _ := ⟨h3985, h3981.2⟩
      refine m_istore_n F (lv' := [(1, .int (-1)), (0, .ref a)]) e_X7_readPay_22 (by decide) rfl ?_
      refine m_aload_n F rfl e_X7_readPay_23 ?_
      refine m_iconst F (v := 1) (by decide) e_X7_readPay_24 ?_
      refine m_bipush F (v := 48) (by decide) e_X7_readPay_25 ?_
      refine t_callV F e_X7_readPay_27 (s_X7_readNumber (x_l X) V G b M 0 T _ _ a 1 48 h4024.1 hk (by omega) (by omega) (by omega)) cb_X7_readNumber ml_X7_130 im_X7_readNumber se_X7_readNumber (fun _ => o3) h4024 hk rfl rfl (rest := []) rfl (Nat.le_of_ble_eq_true rfl) ⟨Nat.le_of_ble_eq_true rfl, Nat.le_of_ble_eq_true rfl⟩ ⟨Nat.le_of_ble_eq_true rfl, Nat.le_of_ble_eq_true rfl⟩ (fun r σ4025 hp => ?_)
      obtain ⟨h4027, n4028, hn4028, rfl⟩ := hp
      have h4026 := HK.trans h4024 h4027 (by decide)
      refine m_istore_n F (lv' := [(2, .int (nI n4028)), (1, .int (-1)), (0, .ref a)]) e_X7_readPay_30 (by decide) rfl ?_
      refine m_aload_n F rfl e_X7_readPay_31 ?_
      refine m_iload_n F rfl e_X7_readPay_32 ?_
      refine m_bipush F (v := 48) (by decide) e_X7_readPay_33 ?_
      refine t_callV F e_X7_readPay_35 (s_X7_readNumber (x_l X) V G b M 0 T _ _ a n4028 48 h4026.1 hk (by omega) (by omega) (by omega)) cb_X7_readNumber ml_X7_130 im_X7_readNumber se_X7_readNumber (fun _ => o3) h4026 hk rfl rfl (rest := []) rfl (Nat.le_of_ble_eq_true rfl) ⟨Nat.le_of_ble_eq_true rfl, Nat.le_of_ble_eq_true rfl⟩ ⟨Nat.le_of_ble_eq_true rfl, Nat.le_of_ble_eq_true rfl⟩ (fun r σ4029 hp => ?_)
      obtain ⟨h4031, n4032, hn4032, rfl⟩ := hp
      have h4030 := HK.trans h4026 h4031 (by decide)
      refine m_istore_n F (lv' := [(3, .int (nI n4032)), (2, .int (nI n4028)), (1, .int (-1)), (0, .ref a)]) e_X7_readPay_38 (by decide) rfl ?_
      refine m_aload_n F rfl e_X7_readPay_39 ?_
      refine m_iconst F (v := 0) (by decide) e_X7_readPay_40 ?_
      refine m_ldc F kc_X7_141 e_X7_readPay_41 ?_
      refine t_callV F e_X7_readPay_43 (s_X7_readNumber (x_l X) V G b M 0 T _ _ a 0 99999 h4030.1 hk (by omega) (by omega) (by omega)) cb_X7_readNumber ml_X7_130 im_X7_readNumber se_X7_readNumber (fun _ => o3) h4030 hk rfl rfl (rest := []) rfl (Nat.le_of_ble_eq_true rfl) ⟨Nat.le_of_ble_eq_true rfl, Nat.le_of_ble_eq_true rfl⟩ ⟨Nat.le_of_ble_eq_true rfl, Nat.le_of_ble_eq_true rfl⟩ (fun r σ4033 hp => ?_)
      obtain ⟨h4035, n4036, hn4036, rfl⟩ := hp
      have h4034 := HK.trans h4030 h4035 (by decide)
      refine m_istore F (lv' := [(4, .int (nI n4036)), (3, .int (nI n4032)), (2, .int (nI n4028)), (1, .int (-1)), (0, .ref a)]) e_X7_readPay_46 (by decide) rfl ?_
      refine m_aload_n F rfl e_X7_readPay_48 ?_
      refine t_get F e_X7_readPay_49 fl_X7_55 (fun _ => o3) h4034 hk rfl (fun v hv f4037 => ?_)
      obtain ⟨x4038, hx4038, rfl⟩ := hv
      replace hx4038 : 0 = 0 → x4038 ≠ 0 := hx4038
      refine m_if_ne F e_X7_readPay_52 (fun q52 => ?_) (fun q52 => ?_)
      · exact m_vret F hQ e_X7_readPay_85 (⟨(h4034.mono (M' := M) (Z' := Z) (by omega) (by intro e; first | rfl | assumption | omega)), rfl⟩)
      · exact absurd q52 (hx4038 rfl)
  · obtain ⟨n4039, hn4039, rfl⟩ := nI_nn (x := x3976) (fun e => q7 (Int32.lt_of_lt_of_le e (by decide)))
    have c7 : n4039 ≥ 12 := by have hh := mt (nI_ltI (a := n4039) (b := 12) (by omega) (by omega)).mpr q7; omega
    refine m_iconst F (v := 2) (by decide) e_X7_readPay_10 ?_
    refine m_goto F e_X7_readPay_11 ?_
    refine t_callV F e_X7_readPay_15 (s_X7_startLine (x_l X) V G b M Z T _ _ a 2 h1.1 hk  (by omega)) cb_X7_startLine ml_X7_124 im_X7_startLine se_X7_startLine (fun _ => o3) h1 hk rfl rfl (rest := []) rfl (Nat.le_of_ble_eq_true rfl) ⟨Nat.le_of_ble_eq_true rfl, Nat.le_of_ble_eq_true rfl⟩ ⟨Nat.le_of_ble_eq_true rfl, Nat.le_of_ble_eq_true rfl⟩ (fun r σ4040 hp => ?_)
    obtain ⟨h4042, rfl⟩ := hp
    have h4041 := HK.trans h1 h4042 (by decide)
    refine m_aload_n F rfl e_X7_readPay_18 ?_
    refine t_callV F e_X7_readPay_19 (s_X7_readToldName (x_l X) V G b M Z T _ _ a  h4041.1 hk  (by omega)) cb_X7_readToldName ml_X7_138 im_X7_readToldName se_X7_readToldName (fun _ => o3) h4041 hk rfl rfl (rest := []) rfl (Nat.le_of_ble_eq_true rfl) ⟨Nat.le_of_ble_eq_true rfl, Nat.le_of_ble_eq_true rfl⟩ ⟨Nat.le_of_ble_eq_true rfl, Nat.le_of_ble_eq_true rfl⟩ (fun r σ4043 hp => ?_)
    obtain ⟨h4045, c4046⟩ := hp
    have h4044 := HK.trans h4041 h4045 (by decide)
    rcases c4046 with ⟨n4047, hn4047, rfl⟩ | ⟨h4048, rfl⟩
    · refine m_istore_n F (lv' := [(1, .int (nI n4047)), (0, .ref a)]) e_X7_readPay_22 (by decide) rfl ?_
      refine m_aload_n F rfl e_X7_readPay_23 ?_
      refine m_iconst F (v := 1) (by decide) e_X7_readPay_24 ?_
      refine m_bipush F (v := 48) (by decide) e_X7_readPay_25 ?_
      refine t_callV F e_X7_readPay_27 (s_X7_readNumber (x_l X) V G b M Z T _ _ a 1 48 h4044.1 hk (by omega) (by omega) (by omega)) cb_X7_readNumber ml_X7_130 im_X7_readNumber se_X7_readNumber (fun _ => o3) h4044 hk rfl rfl (rest := []) rfl (Nat.le_of_ble_eq_true rfl) ⟨Nat.le_of_ble_eq_true rfl, Nat.le_of_ble_eq_true rfl⟩ ⟨Nat.le_of_ble_eq_true rfl, Nat.le_of_ble_eq_true rfl⟩ (fun r σ4049 hp => ?_)
      obtain ⟨h4051, n4052, hn4052, rfl⟩ := hp
      have h4050 := HK.trans h4044 h4051 (by decide)
      refine m_istore_n F (lv' := [(2, .int (nI n4052)), (1, .int (nI n4047)), (0, .ref a)]) e_X7_readPay_30 (by decide) rfl ?_
      refine m_aload_n F rfl e_X7_readPay_31 ?_
      refine m_iload_n F rfl e_X7_readPay_32 ?_
      refine m_bipush F (v := 48) (by decide) e_X7_readPay_33 ?_
      refine t_callV F e_X7_readPay_35 (s_X7_readNumber (x_l X) V G b M Z T _ _ a n4052 48 h4050.1 hk (by omega) (by omega) (by omega)) cb_X7_readNumber ml_X7_130 im_X7_readNumber se_X7_readNumber (fun _ => o3) h4050 hk rfl rfl (rest := []) rfl (Nat.le_of_ble_eq_true rfl) ⟨Nat.le_of_ble_eq_true rfl, Nat.le_of_ble_eq_true rfl⟩ ⟨Nat.le_of_ble_eq_true rfl, Nat.le_of_ble_eq_true rfl⟩ (fun r σ4053 hp => ?_)
      obtain ⟨h4055, n4056, hn4056, rfl⟩ := hp
      have h4054 := HK.trans h4050 h4055 (by decide)
      refine m_istore_n F (lv' := [(3, .int (nI n4056)), (2, .int (nI n4052)), (1, .int (nI n4047)), (0, .ref a)]) e_X7_readPay_38 (by decide) rfl ?_
      refine m_aload_n F rfl e_X7_readPay_39 ?_
      refine m_iconst F (v := 0) (by decide) e_X7_readPay_40 ?_
      refine m_ldc F kc_X7_141 e_X7_readPay_41 ?_
      refine t_callV F e_X7_readPay_43 (s_X7_readNumber (x_l X) V G b M Z T _ _ a 0 99999 h4054.1 hk (by omega) (by omega) (by omega)) cb_X7_readNumber ml_X7_130 im_X7_readNumber se_X7_readNumber (fun _ => o3) h4054 hk rfl rfl (rest := []) rfl (Nat.le_of_ble_eq_true rfl) ⟨Nat.le_of_ble_eq_true rfl, Nat.le_of_ble_eq_true rfl⟩ ⟨Nat.le_of_ble_eq_true rfl, Nat.le_of_ble_eq_true rfl⟩ (fun r σ4057 hp => ?_)
      obtain ⟨h4059, n4060, hn4060, rfl⟩ := hp
      have h4058 := HK.trans h4054 h4059 (by decide)
      refine m_istore F (lv' := [(4, .int (nI n4060)), (3, .int (nI n4056)), (2, .int (nI n4052)), (1, .int (nI n4047)), (0, .ref a)]) e_X7_readPay_46 (by decide) rfl ?_
      refine m_aload_n F rfl e_X7_readPay_48 ?_
      refine t_get F e_X7_readPay_49 fl_X7_55 (fun _ => o3) h4058 hk rfl (fun v hv f4061 => ?_)
      obtain ⟨x4062, hx4062, rfl⟩ := hv
      replace hx4062 : Z = 0 → x4062 ≠ 0 := hx4062
      refine m_if_ne F e_X7_readPay_52 (fun q52 => ?_) (fun q52 => ?_)
      · exact m_vret F hQ e_X7_readPay_85 (⟨h4058, rfl⟩)
      · refine m_aload_n F rfl e_X7_readPay_55 ?_
        refine m_dup F rfl e_X7_readPay_56 ?_
        refine t_get F e_X7_readPay_57 fl_X7_45 (fun _ => o3) h4058 hk rfl (fun v hv f4063 => ?_)
        obtain ⟨x4064, rfl⟩ := hv
        refine m_iconst F (v := 1) (by decide) e_X7_readPay_60 ?_
        refine m_iadd F e_X7_readPay_61 ?_
        refine Wm.top (fun x4065 _ => ?_)
        refine t_put F e_X7_readPay_62 fp_X7_45 (fun _ => o3) h4058 hk rfl ⟨_, rfl⟩ rfl rfl (by decide) (fun σ4066 h4067 g4068 g4069 f4070 => ?_)
        refine m_aload_n F rfl e_X7_readPay_65 ?_
        refine t_get F e_X7_readPay_66 fl_X7_23 (fun _ => o3) h4067 hk rfl (fun v hv f4071 => ?_)
        obtain ⟨r4072, k4073, rfl⟩ := hv
        refine t_get F e_X7_readPay_69 fl_X7_142 (fun _ => o7) h4067 k4073 rfl (fun v hv f4074 => ?_)
        obtain rfl : v = .ref (r4072 + 1) := hv
        refine m_iload_n F rfl e_X7_readPay_72 ?_
        refine t_aald8 F (j := n4047) e_X7_readPay_73 rfl h4067 (kA_7 k4073 (r := 1) (by decide)) (nI_clamp (by omega)) (vp_in_nI (by omega) (by decide)) ?_
        refine m_iload_n F rfl e_X7_readPay_74 ?_
        refine m_iconst F (v := 1) (by decide) e_X7_readPay_75 ?_
        refine m_isub F e_X7_readPay_76 ?_
        rcases Nat.eq_zero_or_pos (n4052) with e76 | e76
        · rw [e76]
          refine Wm.topE (w := -1) (by decide) ?_
          refine m_iload_n F rfl e_X7_readPay_77 ?_
          refine m_iconst F (v := 1) (by decide) e_X7_readPay_78 ?_
          refine m_isub F e_X7_readPay_79 ?_
          rcases Nat.eq_zero_or_pos (n4056) with e79 | e79
          · rw [e79]
            refine Wm.topE (w := -1) (by decide) ?_
            refine m_iload F rfl e_X7_readPay_80 ?_
            refine t_callV F e_X7_readPay_82 (s_X5_payMore (x_l X) V G b M Z T _ _ ((r4072 + 1) + 10 + 12 * n4047) (-1) (-1) (nI n4060) h4067.1 (kA_8 (kA_7 k4073 (r := 1) (by decide)) (j := n4047) (by omega)) (by first | omega | assumption | decide | (rw [nI_ti (by omega)]; omega)) (by omega)) cb_X5_payMore ml_X7_146 im_X5_payMore se_X5_payMore (fun _ => o15) h4067 (kA_8 (kA_7 k4073 (r := 1) (by decide)) (j := n4047) (by omega)) rfl rfl (rest := []) rfl (Nat.le_of_ble_eq_true rfl) ⟨Nat.le_of_ble_eq_true rfl, Nat.le_of_ble_eq_true rfl⟩ ⟨Nat.le_of_ble_eq_true rfl, Nat.le_of_ble_eq_true rfl⟩ (fun r σ4075 hp => ?_)
            obtain ⟨h4077, rfl⟩ := hp
            have h4076 := HK.trans h4067 h4077 (by decide)
            exact m_vret F hQ e_X7_readPay_85 (⟨h4076, rfl⟩)
          · refine Wm.topE (w := nI (n4056 - 1)) (pk_sub (a := n4056) (b := 1) (by omega)) ?_
            refine m_iload F rfl e_X7_readPay_80 ?_
            refine t_callV F e_X7_readPay_82 (s_X5_payMore (x_l X) V G b M Z T _ _ ((r4072 + 1) + 10 + 12 * n4047) (-1) (nI (n4056 - 1)) (nI n4060) h4067.1 (kA_8 (kA_7 k4073 (r := 1) (by decide)) (j := n4047) (by omega)) (by first | omega | assumption | decide | (rw [nI_ti (by omega)]; omega)) (by omega)) cb_X5_payMore ml_X7_146 im_X5_payMore se_X5_payMore (fun _ => o15) h4067 (kA_8 (kA_7 k4073 (r := 1) (by decide)) (j := n4047) (by omega)) rfl rfl (rest := []) rfl (Nat.le_of_ble_eq_true rfl) ⟨Nat.le_of_ble_eq_true rfl, Nat.le_of_ble_eq_true rfl⟩ ⟨Nat.le_of_ble_eq_true rfl, Nat.le_of_ble_eq_true rfl⟩ (fun r σ4078 hp => ?_)
            obtain ⟨h4080, rfl⟩ := hp
            have h4079 := HK.trans h4067 h4080 (by decide)
            exact m_vret F hQ e_X7_readPay_85 (⟨h4079, rfl⟩)
        · refine Wm.topE (w := nI (n4052 - 1)) (pk_sub (a := n4052) (b := 1) (by omega)) ?_
          refine m_iload_n F rfl e_X7_readPay_77 ?_
          refine m_iconst F (v := 1) (by decide) e_X7_readPay_78 ?_
          refine m_isub F e_X7_readPay_79 ?_
          rcases Nat.eq_zero_or_pos (n4056) with e79 | e79
          · rw [e79]
            refine Wm.topE (w := -1) (by decide) ?_
            refine m_iload F rfl e_X7_readPay_80 ?_
            refine t_callV F e_X7_readPay_82 (s_X5_payMore (x_l X) V G b M Z T _ _ ((r4072 + 1) + 10 + 12 * n4047) (nI (n4052 - 1)) (-1) (nI n4060) h4067.1 (kA_8 (kA_7 k4073 (r := 1) (by decide)) (j := n4047) (by omega)) (by first | omega | assumption | decide | (rw [nI_ti (by omega)]; omega)) (by omega)) cb_X5_payMore ml_X7_146 im_X5_payMore se_X5_payMore (fun _ => o15) h4067 (kA_8 (kA_7 k4073 (r := 1) (by decide)) (j := n4047) (by omega)) rfl rfl (rest := []) rfl (Nat.le_of_ble_eq_true rfl) ⟨Nat.le_of_ble_eq_true rfl, Nat.le_of_ble_eq_true rfl⟩ ⟨Nat.le_of_ble_eq_true rfl, Nat.le_of_ble_eq_true rfl⟩ (fun r σ4081 hp => ?_)
            obtain ⟨h4083, rfl⟩ := hp
            have h4082 := HK.trans h4067 h4083 (by decide)
            exact m_vret F hQ e_X7_readPay_85 (⟨h4082, rfl⟩)
          · refine Wm.topE (w := nI (n4056 - 1)) (pk_sub (a := n4056) (b := 1) (by omega)) ?_
            refine m_iload F rfl e_X7_readPay_80 ?_
            refine t_callV F e_X7_readPay_82 (s_X5_payMore (x_l X) V G b M Z T _ _ ((r4072 + 1) + 10 + 12 * n4047) (nI (n4052 - 1)) (nI (n4056 - 1)) (nI n4060) h4067.1 (kA_8 (kA_7 k4073 (r := 1) (by decide)) (j := n4047) (by omega)) (by first | omega | assumption | decide | (rw [nI_ti (by omega)]; omega)) (by omega)) cb_X5_payMore ml_X7_146 im_X5_payMore se_X5_payMore (fun _ => o15) h4067 (kA_8 (kA_7 k4073 (r := 1) (by decide)) (j := n4047) (by omega)) rfl rfl (rest := []) rfl (Nat.le_of_ble_eq_true rfl) ⟨Nat.le_of_ble_eq_true rfl, Nat.le_of_ble_eq_true rfl⟩ ⟨Nat.le_of_ble_eq_true rfl, Nat.le_of_ble_eq_true rfl⟩ (fun r σ4084 hp => ?_)
            obtain ⟨h4086, rfl⟩ := hp
            have h4085 := HK.trans h4067 h4086 (by decide)
            exact m_vret F hQ e_X7_readPay_85 (⟨h4085, rfl⟩)
    · have h4087 : HK V G (b, M, 0, T) [0, 1, 2, 4, 5, 7, 8, 9, 10, 11, 12, 13, 14, 15, 16, 18, 19] _ _ := ⟨h4048, h4044.2⟩
      refine m_istore_n F (lv' := [(1, .int (-1)), (0, .ref a)]) e_X7_readPay_22 (by decide) rfl ?_
      refine m_aload_n F rfl e_X7_readPay_23 ?_
      refine m_iconst F (v := 1) (by decide) e_X7_readPay_24 ?_
      refine m_bipush F (v := 48) (by decide) e_X7_readPay_25 ?_
      refine t_callV F e_X7_readPay_27 (s_X7_readNumber (x_l X) V G b M 0 T _ _ a 1 48 h4087.1 hk (by omega) (by omega) (by omega)) cb_X7_readNumber ml_X7_130 im_X7_readNumber se_X7_readNumber (fun _ => o3) h4087 hk rfl rfl (rest := []) rfl (Nat.le_of_ble_eq_true rfl) ⟨Nat.le_of_ble_eq_true rfl, Nat.le_of_ble_eq_true rfl⟩ ⟨Nat.le_of_ble_eq_true rfl, Nat.le_of_ble_eq_true rfl⟩ (fun r σ4088 hp => ?_)
      obtain ⟨h4090, n4091, hn4091, rfl⟩ := hp
      have h4089 := HK.trans h4087 h4090 (by decide)
      refine m_istore_n F (lv' := [(2, .int (nI n4091)), (1, .int (-1)), (0, .ref a)]) e_X7_readPay_30 (by decide) rfl ?_
      refine m_aload_n F rfl e_X7_readPay_31 ?_
      refine m_iload_n F rfl e_X7_readPay_32 ?_
      refine m_bipush F (v := 48) (by decide) e_X7_readPay_33 ?_
      refine t_callV F e_X7_readPay_35 (s_X7_readNumber (x_l X) V G b M 0 T _ _ a n4091 48 h4089.1 hk (by omega) (by omega) (by omega)) cb_X7_readNumber ml_X7_130 im_X7_readNumber se_X7_readNumber (fun _ => o3) h4089 hk rfl rfl (rest := []) rfl (Nat.le_of_ble_eq_true rfl) ⟨Nat.le_of_ble_eq_true rfl, Nat.le_of_ble_eq_true rfl⟩ ⟨Nat.le_of_ble_eq_true rfl, Nat.le_of_ble_eq_true rfl⟩ (fun r σ4092 hp => ?_)
      obtain ⟨h4094, n4095, hn4095, rfl⟩ := hp
      have h4093 := HK.trans h4089 h4094 (by decide)
      refine m_istore_n F (lv' := [(3, .int (nI n4095)), (2, .int (nI n4091)), (1, .int (-1)), (0, .ref a)]) e_X7_readPay_38 (by decide) rfl ?_
      refine m_aload_n F rfl e_X7_readPay_39 ?_
      refine m_iconst F (v := 0) (by decide) e_X7_readPay_40 ?_
      refine m_ldc F kc_X7_141 e_X7_readPay_41 ?_
      refine t_callV F e_X7_readPay_43 (s_X7_readNumber (x_l X) V G b M 0 T _ _ a 0 99999 h4093.1 hk (by omega) (by omega) (by omega)) cb_X7_readNumber ml_X7_130 im_X7_readNumber se_X7_readNumber (fun _ => o3) h4093 hk rfl rfl (rest := []) rfl (Nat.le_of_ble_eq_true rfl) ⟨Nat.le_of_ble_eq_true rfl, Nat.le_of_ble_eq_true rfl⟩ ⟨Nat.le_of_ble_eq_true rfl, Nat.le_of_ble_eq_true rfl⟩ (fun r σ4096 hp => ?_)
      obtain ⟨h4098, n4099, hn4099, rfl⟩ := hp
      have h4097 := HK.trans h4093 h4098 (by decide)
      refine m_istore F (lv' := [(4, .int (nI n4099)), (3, .int (nI n4095)), (2, .int (nI n4091)), (1, .int (-1)), (0, .ref a)]) e_X7_readPay_46 (by decide) rfl ?_
      refine m_aload_n F rfl e_X7_readPay_48 ?_
      refine t_get F e_X7_readPay_49 fl_X7_55 (fun _ => o3) h4097 hk rfl (fun v hv f4100 => ?_)
      obtain ⟨x4101, hx4101, rfl⟩ := hv
      replace hx4101 : 0 = 0 → x4101 ≠ 0 := hx4101
      refine m_if_ne F e_X7_readPay_52 (fun q52 => ?_) (fun q52 => ?_)
      · exact m_vret F hQ e_X7_readPay_85 (⟨(h4097.mono (M' := M) (Z' := Z) (by omega) (by intro e; first | rfl | assumption | omega)), rfl⟩)
      · exact absurd q52 (hx4101 rfl)
set_option maxRecDepth 20000 in
theorem s_X7_readOption (l : Launch) (V : VX) (G : GH) (b M Z T N : Nat) (σ : Mem) (a : Nat) (h0 : HT V G (b, M, Z, T) σ) (hk : kA b a = 3) (hM : M + 0 ≤ 1000000000) : Ct l V yX7_readOption cX7_readOption 4 none 4 0 0 N σ [.ref a] (fun r τ => HK V G (b, M, Z, T) [0, 1, 2, 4, 5, 6, 8, 9, 10, 11, 12, 13, 14, 15, 16, 17, 18] σ τ ∧ r = none) := by
  refine Ct.of (by decide) (Nat.le_of_ble_eq_true rfl) [(0, .ref a)] rfl (fun X hX F hQ => ?_)
  have h1 : HK V G (b, M, Z, T) [0, 1, 2, 4, 5, 6, 8, 9, 10, 11, 12, 13, 14, 15, 16, 17, 18] σ σ := HK.start h0
  refine m_aload_n F rfl e_X7_readOption_0 ?_
  refine m_aload_n F rfl e_X7_readOption_1 ?_
  refine t_get F e_X7_readOption_2 fl_X7_23 (fun _ => o3) h1 hk rfl (fun v hv f4102 => ?_)
  obtain ⟨r4103, k4104, rfl⟩ := hv
  refine t_get F e_X7_readOption_5 fl_X7_179 (fun _ => o7) h1 k4104 rfl (fun v hv f4105 => ?_)
  obtain ⟨n4106, hn4106, rfl⟩ := hv
  replace hn4106 : n4106 ≤ 4 := hn4106
  refine m_iconst F (v := 4) (by decide) e_X7_readOption_8 ?_
  refine m_icmp_lt F e_X7_readOption_9 (fun q9 => ?_) (fun q9 => ?_)
  · have c9 : n4106 < 4 := (nI_ltI (a := n4106) (b := 4) (by omega) (by omega)).mp q9
    refine m_iconst F (v := 0) (by decide) e_X7_readOption_16 ?_
    refine t_callV F e_X7_readOption_17 (s_X7_startLine (x_l X) V G b M Z T _ _ a 0 h1.1 hk  (by omega)) cb_X7_startLine ml_X7_124 im_X7_startLine se_X7_startLine (fun _ => o3) h1 hk rfl rfl (rest := []) rfl (Nat.le_of_ble_eq_true rfl) ⟨Nat.le_of_ble_eq_true rfl, Nat.le_of_ble_eq_true rfl⟩ ⟨Nat.le_of_ble_eq_true rfl, Nat.le_of_ble_eq_true rfl⟩ (fun r σ4107 hp => ?_)
    obtain ⟨h4109, rfl⟩ := hp
    have h4108 := HK.trans h1 h4109 (by decide)
    refine m_aload_n F rfl e_X7_readOption_20 ?_
    refine t_callV F e_X7_readOption_21 (s_X7_readToldName (x_l X) V G b M Z T _ _ a  h4108.1 hk  (by omega)) cb_X7_readToldName ml_X7_138 im_X7_readToldName se_X7_readToldName (fun _ => o3) h4108 hk rfl rfl (rest := []) rfl (Nat.le_of_ble_eq_true rfl) ⟨Nat.le_of_ble_eq_true rfl, Nat.le_of_ble_eq_true rfl⟩ ⟨Nat.le_of_ble_eq_true rfl, Nat.le_of_ble_eq_true rfl⟩ (fun r σ4110 hp => ?_)
    obtain ⟨h4112, c4113⟩ := hp
    have h4111 := HK.trans h4108 h4112 (by decide)
    rcases c4113 with ⟨n4114, hn4114, rfl⟩ | ⟨h4115, rfl⟩
    · refine m_istore_n F (lv' := [(1, .int (nI n4114)), (0, .ref a)]) e_X7_readOption_24 (by decide) rfl ?_
      refine m_aload_n F rfl e_X7_readOption_25 ?_
      refine m_iconst F (v := 1) (by decide) e_X7_readOption_26 ?_
      refine m_bipush F (v := 24) (by decide) e_X7_readOption_27 ?_
      refine t_callV F e_X7_readOption_29 (s_X7_readNumber (x_l X) V G b M Z T _ _ a 1 24 h4111.1 hk (by omega) (by omega) (by omega)) cb_X7_readNumber ml_X7_130 im_X7_readNumber se_X7_readNumber (fun _ => o3) h4111 hk rfl rfl (rest := []) rfl (Nat.le_of_ble_eq_true rfl) ⟨Nat.le_of_ble_eq_true rfl, Nat.le_of_ble_eq_true rfl⟩ ⟨Nat.le_of_ble_eq_true rfl, Nat.le_of_ble_eq_true rfl⟩ (fun r σ4116 hp => ?_)
      obtain ⟨h4118, n4119, hn4119, rfl⟩ := hp
      have h4117 := HK.trans h4111 h4118 (by decide)
      refine m_istore_n F (lv' := [(2, .int (nI n4119)), (1, .int (nI n4114)), (0, .ref a)]) e_X7_readOption_32 (by decide) rfl ?_
      refine m_aload_n F rfl e_X7_readOption_33 ?_
      refine m_iconst F (v := 0) (by decide) e_X7_readOption_34 ?_
      refine m_ldc F kc_X7_141 e_X7_readOption_35 ?_
      refine t_callV F e_X7_readOption_37 (s_X7_readNumber (x_l X) V G b M Z T _ _ a 0 99999 h4117.1 hk (by omega) (by omega) (by omega)) cb_X7_readNumber ml_X7_130 im_X7_readNumber se_X7_readNumber (fun _ => o3) h4117 hk rfl rfl (rest := []) rfl (Nat.le_of_ble_eq_true rfl) ⟨Nat.le_of_ble_eq_true rfl, Nat.le_of_ble_eq_true rfl⟩ ⟨Nat.le_of_ble_eq_true rfl, Nat.le_of_ble_eq_true rfl⟩ (fun r σ4120 hp => ?_)
      obtain ⟨h4122, n4123, hn4123, rfl⟩ := hp
      have h4121 := HK.trans h4117 h4122 (by decide)
      refine m_istore_n F (lv' := [(3, .int (nI n4123)), (2, .int (nI n4119)), (1, .int (nI n4114)), (0, .ref a)]) e_X7_readOption_40 (by decide) rfl ?_
      refine m_aload_n F rfl e_X7_readOption_41 ?_
      refine t_get F e_X7_readOption_42 fl_X7_55 (fun _ => o3) h4121 hk rfl (fun v hv f4124 => ?_)
      obtain ⟨x4125, hx4125, rfl⟩ := hv
      replace hx4125 : Z = 0 → x4125 ≠ 0 := hx4125
      refine m_if_ne F e_X7_readOption_45 (fun q45 => ?_) (fun q45 => ?_)
      · exact m_vret F hQ e_X7_readOption_58 (⟨h4121, rfl⟩)
      · refine m_aload_n F rfl e_X7_readOption_48 ?_
        refine t_get F e_X7_readOption_49 fl_X7_23 (fun _ => o3) h4121 hk rfl (fun v hv f4126 => ?_)
        obtain ⟨r4127, k4128, rfl⟩ := hv
        refine m_iload_n F rfl e_X7_readOption_52 ?_
        refine m_iload_n F rfl e_X7_readOption_53 ?_
        refine m_iload_n F rfl e_X7_readOption_54 ?_
        refine t_callV F e_X7_readOption_55 (s_X2_addOption (x_l X) V G b M Z T _ _ r4127 n4114 n4119 (nI n4123) h4121.1 k4128 (by omega) (by omega) (by omega)) cb_X2_addOption ml_X7_182 im_X2_addOption se_X2_addOption (fun _ => o7) h4121 k4128 rfl rfl (rest := []) rfl (Nat.le_of_ble_eq_true rfl) ⟨Nat.le_of_ble_eq_true rfl, Nat.le_of_ble_eq_true rfl⟩ ⟨Nat.le_of_ble_eq_true rfl, Nat.le_of_ble_eq_true rfl⟩ (fun r σ4129 hp => ?_)
        obtain ⟨h4131, rfl⟩ := hp
        have h4130 := HK.trans h4121 h4131 (by decide)
        exact m_vret F hQ e_X7_readOption_58 (⟨h4130, rfl⟩)
    · have h4132 : HK V G (b, M, 0, T) [0, 1, 2, 4, 5, 6, 8, 9, 10, 11, 12, 13, 14, 15, 16, 17, 18] _ _ := ⟨h4115, h4111.2⟩
      refine m_istore_n F (lv' := [(1, .int (-1)), (0, .ref a)]) e_X7_readOption_24 (by decide) rfl ?_
      refine m_aload_n F rfl e_X7_readOption_25 ?_
      refine m_iconst F (v := 1) (by decide) e_X7_readOption_26 ?_
      refine m_bipush F (v := 24) (by decide) e_X7_readOption_27 ?_
      refine t_callV F e_X7_readOption_29 (s_X7_readNumber (x_l X) V G b M 0 T _ _ a 1 24 h4132.1 hk (by omega) (by omega) (by omega)) cb_X7_readNumber ml_X7_130 im_X7_readNumber se_X7_readNumber (fun _ => o3) h4132 hk rfl rfl (rest := []) rfl (Nat.le_of_ble_eq_true rfl) ⟨Nat.le_of_ble_eq_true rfl, Nat.le_of_ble_eq_true rfl⟩ ⟨Nat.le_of_ble_eq_true rfl, Nat.le_of_ble_eq_true rfl⟩ (fun r σ4133 hp => ?_)
      obtain ⟨h4135, n4136, hn4136, rfl⟩ := hp
      have h4134 := HK.trans h4132 h4135 (by decide)
      refine m_istore_n F (lv' := [(2, .int (nI n4136)), (1, .int (-1)), (0, .ref a)]) e_X7_readOption_32 (by decide) rfl ?_
      refine m_aload_n F rfl e_X7_readOption_33 ?_
      refine m_iconst F (v := 0) (by decide) e_X7_readOption_34 ?_
      refine m_ldc F kc_X7_141 e_X7_readOption_35 ?_
      refine t_callV F e_X7_readOption_37 (s_X7_readNumber (x_l X) V G b M 0 T _ _ a 0 99999 h4134.1 hk (by omega) (by omega) (by omega)) cb_X7_readNumber ml_X7_130 im_X7_readNumber se_X7_readNumber (fun _ => o3) h4134 hk rfl rfl (rest := []) rfl (Nat.le_of_ble_eq_true rfl) ⟨Nat.le_of_ble_eq_true rfl, Nat.le_of_ble_eq_true rfl⟩ ⟨Nat.le_of_ble_eq_true rfl, Nat.le_of_ble_eq_true rfl⟩ (fun r σ4137 hp => ?_)
      obtain ⟨h4139, n4140, hn4140, rfl⟩ := hp
      have h4138 := HK.trans h4134 h4139 (by decide)
      refine m_istore_n F (lv' := [(3, .int (nI n4140)), (2, .int (nI n4136)), (1, .int (-1)), (0, .ref a)]) e_X7_readOption_40 (by decide) rfl ?_
      refine m_aload_n F rfl e_X7_readOption_41 ?_
      refine t_get F e_X7_readOption_42 fl_X7_55 (fun _ => o3) h4138 hk rfl (fun v hv f4141 => ?_)
      obtain ⟨x4142, hx4142, rfl⟩ := hv
      replace hx4142 : 0 = 0 → x4142 ≠ 0 := hx4142
      refine m_if_ne F e_X7_readOption_45 (fun q45 => ?_) (fun q45 => ?_)
      · exact m_vret F hQ e_X7_readOption_58 (⟨(h4138.mono (M' := M) (Z' := Z) (by omega) (by intro e; first | rfl | assumption | omega)), rfl⟩)
      · exact absurd q45 (hx4142 rfl)
  · have c9 : n4106 ≥ 4 := by have hh := mt (nI_ltI (a := n4106) (b := 4) (by omega) (by omega)).mpr q9; omega
    refine m_iconst F (v := 2) (by decide) e_X7_readOption_12 ?_
    refine m_goto F e_X7_readOption_13 ?_
    refine t_callV F e_X7_readOption_17 (s_X7_startLine (x_l X) V G b M Z T _ _ a 2 h1.1 hk  (by omega)) cb_X7_startLine ml_X7_124 im_X7_startLine se_X7_startLine (fun _ => o3) h1 hk rfl rfl (rest := []) rfl (Nat.le_of_ble_eq_true rfl) ⟨Nat.le_of_ble_eq_true rfl, Nat.le_of_ble_eq_true rfl⟩ ⟨Nat.le_of_ble_eq_true rfl, Nat.le_of_ble_eq_true rfl⟩ (fun r σ4143 hp => ?_)
    obtain ⟨h4145, rfl⟩ := hp
    have h4144 := HK.trans h1 h4145 (by decide)
    refine m_aload_n F rfl e_X7_readOption_20 ?_
    refine t_callV F e_X7_readOption_21 (s_X7_readToldName (x_l X) V G b M Z T _ _ a  h4144.1 hk  (by omega)) cb_X7_readToldName ml_X7_138 im_X7_readToldName se_X7_readToldName (fun _ => o3) h4144 hk rfl rfl (rest := []) rfl (Nat.le_of_ble_eq_true rfl) ⟨Nat.le_of_ble_eq_true rfl, Nat.le_of_ble_eq_true rfl⟩ ⟨Nat.le_of_ble_eq_true rfl, Nat.le_of_ble_eq_true rfl⟩ (fun r σ4146 hp => ?_)
    obtain ⟨h4148, c4149⟩ := hp
    have h4147 := HK.trans h4144 h4148 (by decide)
    rcases c4149 with ⟨n4150, hn4150, rfl⟩ | ⟨h4151, rfl⟩
    · refine m_istore_n F (lv' := [(1, .int (nI n4150)), (0, .ref a)]) e_X7_readOption_24 (by decide) rfl ?_
      refine m_aload_n F rfl e_X7_readOption_25 ?_
      refine m_iconst F (v := 1) (by decide) e_X7_readOption_26 ?_
      refine m_bipush F (v := 24) (by decide) e_X7_readOption_27 ?_
      refine t_callV F e_X7_readOption_29 (s_X7_readNumber (x_l X) V G b M Z T _ _ a 1 24 h4147.1 hk (by omega) (by omega) (by omega)) cb_X7_readNumber ml_X7_130 im_X7_readNumber se_X7_readNumber (fun _ => o3) h4147 hk rfl rfl (rest := []) rfl (Nat.le_of_ble_eq_true rfl) ⟨Nat.le_of_ble_eq_true rfl, Nat.le_of_ble_eq_true rfl⟩ ⟨Nat.le_of_ble_eq_true rfl, Nat.le_of_ble_eq_true rfl⟩ (fun r σ4152 hp => ?_)
      obtain ⟨h4154, n4155, hn4155, rfl⟩ := hp
      have h4153 := HK.trans h4147 h4154 (by decide)
      refine m_istore_n F (lv' := [(2, .int (nI n4155)), (1, .int (nI n4150)), (0, .ref a)]) e_X7_readOption_32 (by decide) rfl ?_
      refine m_aload_n F rfl e_X7_readOption_33 ?_
      refine m_iconst F (v := 0) (by decide) e_X7_readOption_34 ?_
      refine m_ldc F kc_X7_141 e_X7_readOption_35 ?_
      refine t_callV F e_X7_readOption_37 (s_X7_readNumber (x_l X) V G b M Z T _ _ a 0 99999 h4153.1 hk (by omega) (by omega) (by omega)) cb_X7_readNumber ml_X7_130 im_X7_readNumber se_X7_readNumber (fun _ => o3) h4153 hk rfl rfl (rest := []) rfl (Nat.le_of_ble_eq_true rfl) ⟨Nat.le_of_ble_eq_true rfl, Nat.le_of_ble_eq_true rfl⟩ ⟨Nat.le_of_ble_eq_true rfl, Nat.le_of_ble_eq_true rfl⟩ (fun r σ4156 hp => ?_)
      obtain ⟨h4158, n4159, hn4159, rfl⟩ := hp
      have h4157 := HK.trans h4153 h4158 (by decide)
      refine m_istore_n F (lv' := [(3, .int (nI n4159)), (2, .int (nI n4155)), (1, .int (nI n4150)), (0, .ref a)]) e_X7_readOption_40 (by decide) rfl ?_
      refine m_aload_n F rfl e_X7_readOption_41 ?_
      refine t_get F e_X7_readOption_42 fl_X7_55 (fun _ => o3) h4157 hk rfl (fun v hv f4160 => ?_)
      obtain ⟨x4161, hx4161, rfl⟩ := hv
      replace hx4161 : Z = 0 → x4161 ≠ 0 := hx4161
      refine m_if_ne F e_X7_readOption_45 (fun q45 => ?_) (fun q45 => ?_)
      · exact m_vret F hQ e_X7_readOption_58 (⟨h4157, rfl⟩)
      · refine m_aload_n F rfl e_X7_readOption_48 ?_
        refine t_get F e_X7_readOption_49 fl_X7_23 (fun _ => o3) h4157 hk rfl (fun v hv f4162 => ?_)
        obtain ⟨r4163, k4164, rfl⟩ := hv
        refine m_iload_n F rfl e_X7_readOption_52 ?_
        refine m_iload_n F rfl e_X7_readOption_53 ?_
        refine m_iload_n F rfl e_X7_readOption_54 ?_
        refine t_callV F e_X7_readOption_55 (s_X2_addOption (x_l X) V G b M Z T _ _ r4163 n4150 n4155 (nI n4159) h4157.1 k4164 (by omega) (by omega) (by omega)) cb_X2_addOption ml_X7_182 im_X2_addOption se_X2_addOption (fun _ => o7) h4157 k4164 rfl rfl (rest := []) rfl (Nat.le_of_ble_eq_true rfl) ⟨Nat.le_of_ble_eq_true rfl, Nat.le_of_ble_eq_true rfl⟩ ⟨Nat.le_of_ble_eq_true rfl, Nat.le_of_ble_eq_true rfl⟩ (fun r σ4165 hp => ?_)
        obtain ⟨h4167, rfl⟩ := hp
        have h4166 := HK.trans h4157 h4167 (by decide)
        exact m_vret F hQ e_X7_readOption_58 (⟨h4166, rfl⟩)
    · have h4168 : HK V G (b, M, 0, T) [0, 1, 2, 4, 5, 6, 8, 9, 10, 11, 12, 13, 14, 15, 16, 17, 18] _ _ := ⟨h4151, h4147.2⟩
      refine m_istore_n F (lv' := [(1, .int (-1)), (0, .ref a)]) e_X7_readOption_24 (by decide) rfl ?_
      refine m_aload_n F rfl e_X7_readOption_25 ?_
      refine m_iconst F (v := 1) (by decide) e_X7_readOption_26 ?_
      refine m_bipush F (v := 24) (by decide) e_X7_readOption_27 ?_
      refine t_callV F e_X7_readOption_29 (s_X7_readNumber (x_l X) V G b M 0 T _ _ a 1 24 h4168.1 hk (by omega) (by omega) (by omega)) cb_X7_readNumber ml_X7_130 im_X7_readNumber se_X7_readNumber (fun _ => o3) h4168 hk rfl rfl (rest := []) rfl (Nat.le_of_ble_eq_true rfl) ⟨Nat.le_of_ble_eq_true rfl, Nat.le_of_ble_eq_true rfl⟩ ⟨Nat.le_of_ble_eq_true rfl, Nat.le_of_ble_eq_true rfl⟩ (fun r σ4169 hp => ?_)
      obtain ⟨h4171, n4172, hn4172, rfl⟩ := hp
      have h4170 := HK.trans h4168 h4171 (by decide)
      refine m_istore_n F (lv' := [(2, .int (nI n4172)), (1, .int (-1)), (0, .ref a)]) e_X7_readOption_32 (by decide) rfl ?_
      refine m_aload_n F rfl e_X7_readOption_33 ?_
      refine m_iconst F (v := 0) (by decide) e_X7_readOption_34 ?_
      refine m_ldc F kc_X7_141 e_X7_readOption_35 ?_
      refine t_callV F e_X7_readOption_37 (s_X7_readNumber (x_l X) V G b M 0 T _ _ a 0 99999 h4170.1 hk (by omega) (by omega) (by omega)) cb_X7_readNumber ml_X7_130 im_X7_readNumber se_X7_readNumber (fun _ => o3) h4170 hk rfl rfl (rest := []) rfl (Nat.le_of_ble_eq_true rfl) ⟨Nat.le_of_ble_eq_true rfl, Nat.le_of_ble_eq_true rfl⟩ ⟨Nat.le_of_ble_eq_true rfl, Nat.le_of_ble_eq_true rfl⟩ (fun r σ4173 hp => ?_)
      obtain ⟨h4175, n4176, hn4176, rfl⟩ := hp
      have h4174 := HK.trans h4170 h4175 (by decide)
      refine m_istore_n F (lv' := [(3, .int (nI n4176)), (2, .int (nI n4172)), (1, .int (-1)), (0, .ref a)]) e_X7_readOption_40 (by decide) rfl ?_
      refine m_aload_n F rfl e_X7_readOption_41 ?_
      refine t_get F e_X7_readOption_42 fl_X7_55 (fun _ => o3) h4174 hk rfl (fun v hv f4177 => ?_)
      obtain ⟨x4178, hx4178, rfl⟩ := hv
      replace hx4178 : 0 = 0 → x4178 ≠ 0 := hx4178
      refine m_if_ne F e_X7_readOption_45 (fun q45 => ?_) (fun q45 => ?_)
      · exact m_vret F hQ e_X7_readOption_58 (⟨(h4174.mono (M' := M) (Z' := Z) (by omega) (by intro e; first | rfl | assumption | omega)), rfl⟩)
      · exact absurd q45 (hx4178 rfl)
set_option maxRecDepth 20000 in
theorem s_X7_readEarly (l : Launch) (V : VX) (G : GH) (b M Z T N : Nat) (σ : Mem) (a : Nat) (h0 : HT V G (b, M, Z, T) σ) (hk : kA b a = 3) (hM : M + 0 ≤ 1000000000) : Ct l V yX7_readEarly cX7_readEarly 2 none 4 0 0 N σ [.ref a] (fun r τ => HK V G (b, M, Z, T) [0, 1, 2, 5, 6, 7, 8, 9, 10, 11, 12, 13, 14, 16, 17, 18, 19] σ τ ∧ r = none) := by
  refine Ct.of (by decide) (Nat.le_of_ble_eq_true rfl) [(0, .ref a)] rfl (fun X hX F hQ => ?_)
  have h1 : HK V G (b, M, Z, T) [0, 1, 2, 5, 6, 7, 8, 9, 10, 11, 12, 13, 14, 16, 17, 18, 19] σ σ := HK.start h0
  refine m_aload_n F rfl e_X7_readEarly_0 ?_
  refine m_iconst F (v := 0) (by decide) e_X7_readEarly_1 ?_
  refine t_callV F e_X7_readEarly_2 (s_X7_startLine (x_l X) V G b M Z T _ _ a 0 h1.1 hk  (by omega)) cb_X7_startLine ml_X7_124 im_X7_startLine se_X7_startLine (fun _ => o3) h1 hk rfl rfl (rest := []) rfl (Nat.le_of_ble_eq_true rfl) ⟨Nat.le_of_ble_eq_true rfl, Nat.le_of_ble_eq_true rfl⟩ ⟨Nat.le_of_ble_eq_true rfl, Nat.le_of_ble_eq_true rfl⟩ (fun r σ4179 hp => ?_)
  obtain ⟨h4181, rfl⟩ := hp
  have h4180 := HK.trans h1 h4181 (by decide)
  refine m_aload_n F rfl e_X7_readEarly_5 ?_
  refine m_iconst F (v := 1) (by decide) e_X7_readEarly_6 ?_
  refine t_callV F e_X7_readEarly_7 (s_X7_readNameOnce (x_l X) V G b M Z T _ _ a 1 h4180.1 hk  (by omega)) cb_X7_readNameOnce ml_X7_152 im_X7_readNameOnce se_X7_readNameOnce (fun _ => o3) h4180 hk rfl rfl (rest := []) rfl (Nat.le_of_ble_eq_true rfl) ⟨Nat.le_of_ble_eq_true rfl, Nat.le_of_ble_eq_true rfl⟩ ⟨Nat.le_of_ble_eq_true rfl, Nat.le_of_ble_eq_true rfl⟩ (fun r σ4182 hp => ?_)
  obtain ⟨h4184, c4185⟩ := hp
  have h4183 := HK.trans h4180 h4184 (by decide)
  rcases c4185 with ⟨n4186, hn4186, rfl⟩ | ⟨h4187, rfl⟩
  · refine m_istore_n F (lv' := [(1, .int (nI n4186)), (0, .ref a)]) e_X7_readEarly_10 (by decide) rfl ?_
    refine m_aload_n F rfl e_X7_readEarly_11 ?_
    refine t_get F e_X7_readEarly_12 fl_X7_55 (fun _ => o3) h4183 hk rfl (fun v hv f4188 => ?_)
    obtain ⟨x4189, hx4189, rfl⟩ := hv
    replace hx4189 : Z = 0 → x4189 ≠ 0 := hx4189
    refine m_if_ne F e_X7_readEarly_15 (fun q15 => ?_) (fun q15 => ?_)
    · exact m_vret F hQ e_X7_readEarly_31 (⟨h4183, rfl⟩)
    · refine m_aload_n F rfl e_X7_readEarly_18 ?_
      refine t_get F e_X7_readEarly_19 fl_X7_23 (fun _ => o3) h4183 hk rfl (fun v hv f4190 => ?_)
      obtain ⟨r4191, k4192, rfl⟩ := hv
      refine t_get F e_X7_readEarly_22 fl_X7_142 (fun _ => o7) h4183 k4192 rfl (fun v hv f4193 => ?_)
      obtain rfl : v = .ref (r4191 + 1) := hv
      refine m_iload_n F rfl e_X7_readEarly_25 ?_
      refine t_aald8 F (j := n4186) e_X7_readEarly_26 rfl h4183 (kA_7 k4192 (r := 1) (by decide)) (nI_clamp (by omega)) (vp_in_nI (by omega) (by decide)) ?_
      refine m_iconst F (v := 1) (by decide) e_X7_readEarly_27 ?_
      refine t_put F e_X7_readEarly_28 fp_X7_156 (fun _ => o15) h4183 (kA_8 (kA_7 k4192 (r := 1) (by decide)) (j := n4186) (by omega)) rfl ⟨1, (show 1 ≤ 1 by omega), rfl⟩ (by decide) rfl (by decide) (fun σ4194 h4195 g4196 g4197 f4198 => ?_)
      exact m_vret F hQ e_X7_readEarly_31 (⟨h4195, rfl⟩)
  · have h4199 : HK V G (b, M, 0, T) [0, 1, 2, 5, 6, 7, 8, 9, 10, 11, 12, 13, 14, 16, 17, 18, 19] _ _ := ⟨h4187, h4183.2⟩
    refine m_istore_n F (lv' := [(1, .int (-1)), (0, .ref a)]) e_X7_readEarly_10 (by decide) rfl ?_
    refine m_aload_n F rfl e_X7_readEarly_11 ?_
    refine t_get F e_X7_readEarly_12 fl_X7_55 (fun _ => o3) h4199 hk rfl (fun v hv f4200 => ?_)
    obtain ⟨x4201, hx4201, rfl⟩ := hv
    replace hx4201 : 0 = 0 → x4201 ≠ 0 := hx4201
    refine m_if_ne F e_X7_readEarly_15 (fun q15 => ?_) (fun q15 => ?_)
    · exact m_vret F hQ e_X7_readEarly_31 (⟨(h4199.mono (M' := M) (Z' := Z) (by omega) (by intro e; first | rfl | assumption | omega)), rfl⟩)
    · exact absurd q15 (hx4201 rfl)
set_option maxRecDepth 20000 in
theorem s_X7_readFair (l : Launch) (V : VX) (G : GH) (b M Z T N : Nat) (σ : Mem) (a : Nat) (h0 : HT V G (b, M, Z, T) σ) (hk : kA b a = 3) (hM : M + 0 ≤ 1000000000) : Ct l V yX7_readFair cX7_readFair 3 none 4 0 0 N σ [.ref a] (fun r τ => HK V G (b, M, Z, T) [0, 1, 2, 5, 6, 7, 8, 9, 10, 11, 12, 13, 14, 16, 17, 18, 19] σ τ ∧ r = none) := by
  refine Ct.of (by decide) (Nat.le_of_ble_eq_true rfl) [(0, .ref a)] rfl (fun X hX F hQ => ?_)
  have h1 : HK V G (b, M, Z, T) [0, 1, 2, 5, 6, 7, 8, 9, 10, 11, 12, 13, 14, 16, 17, 18, 19] σ σ := HK.start h0
  refine m_aload_n F rfl e_X7_readFair_0 ?_
  refine m_iconst F (v := 0) (by decide) e_X7_readFair_1 ?_
  refine t_callV F e_X7_readFair_2 (s_X7_startLine (x_l X) V G b M Z T _ _ a 0 h1.1 hk  (by omega)) cb_X7_startLine ml_X7_124 im_X7_startLine se_X7_startLine (fun _ => o3) h1 hk rfl rfl (rest := []) rfl (Nat.le_of_ble_eq_true rfl) ⟨Nat.le_of_ble_eq_true rfl, Nat.le_of_ble_eq_true rfl⟩ ⟨Nat.le_of_ble_eq_true rfl, Nat.le_of_ble_eq_true rfl⟩ (fun r σ4202 hp => ?_)
  obtain ⟨h4204, rfl⟩ := hp
  have h4203 := HK.trans h1 h4204 (by decide)
  refine m_aload_n F rfl e_X7_readFair_5 ?_
  refine m_iconst F (v := 2) (by decide) e_X7_readFair_6 ?_
  refine t_callV F e_X7_readFair_7 (s_X7_readNameOnce (x_l X) V G b M Z T _ _ a 2 h4203.1 hk  (by omega)) cb_X7_readNameOnce ml_X7_152 im_X7_readNameOnce se_X7_readNameOnce (fun _ => o3) h4203 hk rfl rfl (rest := []) rfl (Nat.le_of_ble_eq_true rfl) ⟨Nat.le_of_ble_eq_true rfl, Nat.le_of_ble_eq_true rfl⟩ ⟨Nat.le_of_ble_eq_true rfl, Nat.le_of_ble_eq_true rfl⟩ (fun r σ4205 hp => ?_)
  obtain ⟨h4207, c4208⟩ := hp
  have h4206 := HK.trans h4203 h4207 (by decide)
  rcases c4208 with ⟨n4209, hn4209, rfl⟩ | ⟨h4210, rfl⟩
  · refine m_istore_n F (lv' := [(1, .int (nI n4209)), (0, .ref a)]) e_X7_readFair_10 (by decide) rfl ?_
    refine m_aload_n F rfl e_X7_readFair_11 ?_
    refine m_iconst F (v := 1) (by decide) e_X7_readFair_12 ?_
    refine m_ldc F kc_X7_159 e_X7_readFair_13 ?_
    refine t_callV F e_X7_readFair_15 (s_X7_readNumber (x_l X) V G b M Z T _ _ a 1 9999999 h4206.1 hk (by omega) (by omega) (by omega)) cb_X7_readNumber ml_X7_130 im_X7_readNumber se_X7_readNumber (fun _ => o3) h4206 hk rfl rfl (rest := []) rfl (Nat.le_of_ble_eq_true rfl) ⟨Nat.le_of_ble_eq_true rfl, Nat.le_of_ble_eq_true rfl⟩ ⟨Nat.le_of_ble_eq_true rfl, Nat.le_of_ble_eq_true rfl⟩ (fun r σ4211 hp => ?_)
    obtain ⟨h4213, n4214, hn4214, rfl⟩ := hp
    have h4212 := HK.trans h4206 h4213 (by decide)
    refine m_istore_n F (lv' := [(2, .int (nI n4214)), (1, .int (nI n4209)), (0, .ref a)]) e_X7_readFair_18 (by decide) rfl ?_
    refine m_aload_n F rfl e_X7_readFair_19 ?_
    refine t_get F e_X7_readFair_20 fl_X7_55 (fun _ => o3) h4212 hk rfl (fun v hv f4215 => ?_)
    obtain ⟨x4216, hx4216, rfl⟩ := hv
    replace hx4216 : Z = 0 → x4216 ≠ 0 := hx4216
    refine m_if_ne F e_X7_readFair_23 (fun q23 => ?_) (fun q23 => ?_)
    · exact m_vret F hQ e_X7_readFair_39 (⟨h4212, rfl⟩)
    · refine m_aload_n F rfl e_X7_readFair_26 ?_
      refine t_get F e_X7_readFair_27 fl_X7_23 (fun _ => o3) h4212 hk rfl (fun v hv f4217 => ?_)
      obtain ⟨r4218, k4219, rfl⟩ := hv
      refine t_get F e_X7_readFair_30 fl_X7_142 (fun _ => o7) h4212 k4219 rfl (fun v hv f4220 => ?_)
      obtain rfl : v = .ref (r4218 + 1) := hv
      refine m_iload_n F rfl e_X7_readFair_33 ?_
      refine t_aald8 F (j := n4209) e_X7_readFair_34 rfl h4212 (kA_7 k4219 (r := 1) (by decide)) (nI_clamp (by omega)) (vp_in_nI (by omega) (by decide)) ?_
      refine m_iload_n F rfl e_X7_readFair_35 ?_
      refine t_put F e_X7_readFair_36 fp_X7_160 (fun _ => o15) h4212 (kA_8 (kA_7 k4219 (r := 1) (by decide)) (j := n4209) (by omega)) rfl ⟨_, rfl⟩ rfl rfl (by decide) (fun σ4221 h4222 g4223 g4224 f4225 => ?_)
      exact m_vret F hQ e_X7_readFair_39 (⟨h4222, rfl⟩)
  · have h4226 : HK V G (b, M, 0, T) [0, 1, 2, 5, 6, 7, 8, 9, 10, 11, 12, 13, 14, 16, 17, 18, 19] _ _ := ⟨h4210, h4206.2⟩
    refine m_istore_n F (lv' := [(1, .int (-1)), (0, .ref a)]) e_X7_readFair_10 (by decide) rfl ?_
    refine m_aload_n F rfl e_X7_readFair_11 ?_
    refine m_iconst F (v := 1) (by decide) e_X7_readFair_12 ?_
    refine m_ldc F kc_X7_159 e_X7_readFair_13 ?_
    refine t_callV F e_X7_readFair_15 (s_X7_readNumber (x_l X) V G b M 0 T _ _ a 1 9999999 h4226.1 hk (by omega) (by omega) (by omega)) cb_X7_readNumber ml_X7_130 im_X7_readNumber se_X7_readNumber (fun _ => o3) h4226 hk rfl rfl (rest := []) rfl (Nat.le_of_ble_eq_true rfl) ⟨Nat.le_of_ble_eq_true rfl, Nat.le_of_ble_eq_true rfl⟩ ⟨Nat.le_of_ble_eq_true rfl, Nat.le_of_ble_eq_true rfl⟩ (fun r σ4227 hp => ?_)
    obtain ⟨h4229, n4230, hn4230, rfl⟩ := hp
    have h4228 := HK.trans h4226 h4229 (by decide)
    refine m_istore_n F (lv' := [(2, .int (nI n4230)), (1, .int (-1)), (0, .ref a)]) e_X7_readFair_18 (by decide) rfl ?_
    refine m_aload_n F rfl e_X7_readFair_19 ?_
    refine t_get F e_X7_readFair_20 fl_X7_55 (fun _ => o3) h4228 hk rfl (fun v hv f4231 => ?_)
    obtain ⟨x4232, hx4232, rfl⟩ := hv
    replace hx4232 : 0 = 0 → x4232 ≠ 0 := hx4232
    refine m_if_ne F e_X7_readFair_23 (fun q23 => ?_) (fun q23 => ?_)
    · exact m_vret F hQ e_X7_readFair_39 (⟨(h4228.mono (M' := M) (Z' := Z) (by omega) (by intro e; first | rfl | assumption | omega)), rfl⟩)
    · exact absurd q23 (hx4232 rfl)
set_option maxRecDepth 20000 in
theorem s_X7_readFee (l : Launch) (V : VX) (G : GH) (b M Z T N : Nat) (σ : Mem) (a : Nat) (h0 : HT V G (b, M, Z, T) σ) (hk : kA b a = 3) (hM : M + 0 ≤ 1000000000) : Ct l V yX7_readFee cX7_readFee 3 none 4 0 0 N σ [.ref a] (fun r τ => HK V G (b, M, Z, T) [0, 1, 2, 5, 6, 7, 8, 9, 10, 11, 12, 13, 14, 16, 17, 18, 19] σ τ ∧ r = none) := by
  refine Ct.of (by decide) (Nat.le_of_ble_eq_true rfl) [(0, .ref a)] rfl (fun X hX F hQ => ?_)
  have h1 : HK V G (b, M, Z, T) [0, 1, 2, 5, 6, 7, 8, 9, 10, 11, 12, 13, 14, 16, 17, 18, 19] σ σ := HK.start h0
  refine m_aload_n F rfl e_X7_readFee_0 ?_
  refine m_iconst F (v := 0) (by decide) e_X7_readFee_1 ?_
  refine t_callV F e_X7_readFee_2 (s_X7_startLine (x_l X) V G b M Z T _ _ a 0 h1.1 hk  (by omega)) cb_X7_startLine ml_X7_124 im_X7_startLine se_X7_startLine (fun _ => o3) h1 hk rfl rfl (rest := []) rfl (Nat.le_of_ble_eq_true rfl) ⟨Nat.le_of_ble_eq_true rfl, Nat.le_of_ble_eq_true rfl⟩ ⟨Nat.le_of_ble_eq_true rfl, Nat.le_of_ble_eq_true rfl⟩ (fun r σ4233 hp => ?_)
  obtain ⟨h4235, rfl⟩ := hp
  have h4234 := HK.trans h1 h4235 (by decide)
  refine m_aload_n F rfl e_X7_readFee_5 ?_
  refine m_iconst F (v := 4) (by decide) e_X7_readFee_6 ?_
  refine t_callV F e_X7_readFee_7 (s_X7_readNameOnce (x_l X) V G b M Z T _ _ a 4 h4234.1 hk  (by omega)) cb_X7_readNameOnce ml_X7_152 im_X7_readNameOnce se_X7_readNameOnce (fun _ => o3) h4234 hk rfl rfl (rest := []) rfl (Nat.le_of_ble_eq_true rfl) ⟨Nat.le_of_ble_eq_true rfl, Nat.le_of_ble_eq_true rfl⟩ ⟨Nat.le_of_ble_eq_true rfl, Nat.le_of_ble_eq_true rfl⟩ (fun r σ4236 hp => ?_)
  obtain ⟨h4238, c4239⟩ := hp
  have h4237 := HK.trans h4234 h4238 (by decide)
  rcases c4239 with ⟨n4240, hn4240, rfl⟩ | ⟨h4241, rfl⟩
  · refine m_istore_n F (lv' := [(1, .int (nI n4240)), (0, .ref a)]) e_X7_readFee_10 (by decide) rfl ?_
    refine m_aload_n F rfl e_X7_readFee_11 ?_
    refine m_iconst F (v := 0) (by decide) e_X7_readFee_12 ?_
    refine m_ldc F kc_X7_141 e_X7_readFee_13 ?_
    refine t_callV F e_X7_readFee_15 (s_X7_readNumber (x_l X) V G b M Z T _ _ a 0 99999 h4237.1 hk (by omega) (by omega) (by omega)) cb_X7_readNumber ml_X7_130 im_X7_readNumber se_X7_readNumber (fun _ => o3) h4237 hk rfl rfl (rest := []) rfl (Nat.le_of_ble_eq_true rfl) ⟨Nat.le_of_ble_eq_true rfl, Nat.le_of_ble_eq_true rfl⟩ ⟨Nat.le_of_ble_eq_true rfl, Nat.le_of_ble_eq_true rfl⟩ (fun r σ4242 hp => ?_)
    obtain ⟨h4244, n4245, hn4245, rfl⟩ := hp
    have h4243 := HK.trans h4237 h4244 (by decide)
    refine m_istore_n F (lv' := [(2, .int (nI n4245)), (1, .int (nI n4240)), (0, .ref a)]) e_X7_readFee_18 (by decide) rfl ?_
    refine m_aload_n F rfl e_X7_readFee_19 ?_
    refine t_get F e_X7_readFee_20 fl_X7_55 (fun _ => o3) h4243 hk rfl (fun v hv f4246 => ?_)
    obtain ⟨x4247, hx4247, rfl⟩ := hv
    replace hx4247 : Z = 0 → x4247 ≠ 0 := hx4247
    refine m_if_ne F e_X7_readFee_23 (fun q23 => ?_) (fun q23 => ?_)
    · exact m_vret F hQ e_X7_readFee_39 (⟨h4243, rfl⟩)
    · refine m_aload_n F rfl e_X7_readFee_26 ?_
      refine t_get F e_X7_readFee_27 fl_X7_23 (fun _ => o3) h4243 hk rfl (fun v hv f4248 => ?_)
      obtain ⟨r4249, k4250, rfl⟩ := hv
      refine t_get F e_X7_readFee_30 fl_X7_142 (fun _ => o7) h4243 k4250 rfl (fun v hv f4251 => ?_)
      obtain rfl : v = .ref (r4249 + 1) := hv
      refine m_iload_n F rfl e_X7_readFee_33 ?_
      refine t_aald8 F (j := n4240) e_X7_readFee_34 rfl h4243 (kA_7 k4250 (r := 1) (by decide)) (nI_clamp (by omega)) (vp_in_nI (by omega) (by decide)) ?_
      refine m_iload_n F rfl e_X7_readFee_35 ?_
      refine t_put F e_X7_readFee_36 fp_X7_163 (fun _ => o15) h4243 (kA_8 (kA_7 k4250 (r := 1) (by decide)) (j := n4240) (by omega)) rfl ⟨_, rfl⟩ rfl rfl (by decide) (fun σ4252 h4253 g4254 g4255 f4256 => ?_)
      exact m_vret F hQ e_X7_readFee_39 (⟨h4253, rfl⟩)
  · have h4257 : HK V G (b, M, 0, T) [0, 1, 2, 5, 6, 7, 8, 9, 10, 11, 12, 13, 14, 16, 17, 18, 19] _ _ := ⟨h4241, h4237.2⟩
    refine m_istore_n F (lv' := [(1, .int (-1)), (0, .ref a)]) e_X7_readFee_10 (by decide) rfl ?_
    refine m_aload_n F rfl e_X7_readFee_11 ?_
    refine m_iconst F (v := 0) (by decide) e_X7_readFee_12 ?_
    refine m_ldc F kc_X7_141 e_X7_readFee_13 ?_
    refine t_callV F e_X7_readFee_15 (s_X7_readNumber (x_l X) V G b M 0 T _ _ a 0 99999 h4257.1 hk (by omega) (by omega) (by omega)) cb_X7_readNumber ml_X7_130 im_X7_readNumber se_X7_readNumber (fun _ => o3) h4257 hk rfl rfl (rest := []) rfl (Nat.le_of_ble_eq_true rfl) ⟨Nat.le_of_ble_eq_true rfl, Nat.le_of_ble_eq_true rfl⟩ ⟨Nat.le_of_ble_eq_true rfl, Nat.le_of_ble_eq_true rfl⟩ (fun r σ4258 hp => ?_)
    obtain ⟨h4260, n4261, hn4261, rfl⟩ := hp
    have h4259 := HK.trans h4257 h4260 (by decide)
    refine m_istore_n F (lv' := [(2, .int (nI n4261)), (1, .int (-1)), (0, .ref a)]) e_X7_readFee_18 (by decide) rfl ?_
    refine m_aload_n F rfl e_X7_readFee_19 ?_
    refine t_get F e_X7_readFee_20 fl_X7_55 (fun _ => o3) h4259 hk rfl (fun v hv f4262 => ?_)
    obtain ⟨x4263, hx4263, rfl⟩ := hv
    replace hx4263 : 0 = 0 → x4263 ≠ 0 := hx4263
    refine m_if_ne F e_X7_readFee_23 (fun q23 => ?_) (fun q23 => ?_)
    · exact m_vret F hQ e_X7_readFee_39 (⟨(h4259.mono (M' := M) (Z' := Z) (by omega) (by intro e; first | rfl | assumption | omega)), rfl⟩)
    · exact absurd q23 (hx4263 rfl)
set_option maxRecDepth 20000 in
theorem s_X7_readTied (l : Launch) (V : VX) (G : GH) (b M Z T N : Nat) (σ : Mem) (a : Nat) (h0 : HT V G (b, M, Z, T) σ) (hk : kA b a = 3) (hM : M + 0 ≤ 1000000000) : Ct l V yX7_readTied cX7_readTied 2 none 4 0 0 N σ [.ref a] (fun r τ => HK V G (b, M, Z, T) [0, 1, 2, 5, 6, 7, 8, 9, 10, 11, 12, 13, 14, 16, 17, 18, 19] σ τ ∧ r = none) := by
  refine Ct.of (by decide) (Nat.le_of_ble_eq_true rfl) [(0, .ref a)] rfl (fun X hX F hQ => ?_)
  have h1 : HK V G (b, M, Z, T) [0, 1, 2, 5, 6, 7, 8, 9, 10, 11, 12, 13, 14, 16, 17, 18, 19] σ σ := HK.start h0
  refine m_aload_n F rfl e_X7_readTied_0 ?_
  refine m_iconst F (v := 0) (by decide) e_X7_readTied_1 ?_
  refine t_callV F e_X7_readTied_2 (s_X7_startLine (x_l X) V G b M Z T _ _ a 0 h1.1 hk  (by omega)) cb_X7_startLine ml_X7_124 im_X7_startLine se_X7_startLine (fun _ => o3) h1 hk rfl rfl (rest := []) rfl (Nat.le_of_ble_eq_true rfl) ⟨Nat.le_of_ble_eq_true rfl, Nat.le_of_ble_eq_true rfl⟩ ⟨Nat.le_of_ble_eq_true rfl, Nat.le_of_ble_eq_true rfl⟩ (fun r σ4264 hp => ?_)
  obtain ⟨h4266, rfl⟩ := hp
  have h4265 := HK.trans h1 h4266 (by decide)
  refine m_aload_n F rfl e_X7_readTied_5 ?_
  refine m_bipush F (v := 8) (by decide) e_X7_readTied_6 ?_
  refine t_callV F e_X7_readTied_8 (s_X7_readNameOnce (x_l X) V G b M Z T _ _ a 8 h4265.1 hk  (by omega)) cb_X7_readNameOnce ml_X7_152 im_X7_readNameOnce se_X7_readNameOnce (fun _ => o3) h4265 hk rfl rfl (rest := []) rfl (Nat.le_of_ble_eq_true rfl) ⟨Nat.le_of_ble_eq_true rfl, Nat.le_of_ble_eq_true rfl⟩ ⟨Nat.le_of_ble_eq_true rfl, Nat.le_of_ble_eq_true rfl⟩ (fun r σ4267 hp => ?_)
  obtain ⟨h4269, c4270⟩ := hp
  have h4268 := HK.trans h4265 h4269 (by decide)
  rcases c4270 with ⟨n4271, hn4271, rfl⟩ | ⟨h4272, rfl⟩
  · refine m_istore_n F (lv' := [(1, .int (nI n4271)), (0, .ref a)]) e_X7_readTied_11 (by decide) rfl ?_
    refine m_aload_n F rfl e_X7_readTied_12 ?_
    refine t_get F e_X7_readTied_13 fl_X7_55 (fun _ => o3) h4268 hk rfl (fun v hv f4273 => ?_)
    obtain ⟨x4274, hx4274, rfl⟩ := hv
    replace hx4274 : Z = 0 → x4274 ≠ 0 := hx4274
    refine m_if_ne F e_X7_readTied_16 (fun q16 => ?_) (fun q16 => ?_)
    · exact m_vret F hQ e_X7_readTied_32 (⟨h4268, rfl⟩)
    · refine m_aload_n F rfl e_X7_readTied_19 ?_
      refine t_get F e_X7_readTied_20 fl_X7_23 (fun _ => o3) h4268 hk rfl (fun v hv f4275 => ?_)
      obtain ⟨r4276, k4277, rfl⟩ := hv
      refine t_get F e_X7_readTied_23 fl_X7_142 (fun _ => o7) h4268 k4277 rfl (fun v hv f4278 => ?_)
      obtain rfl : v = .ref (r4276 + 1) := hv
      refine m_iload_n F rfl e_X7_readTied_26 ?_
      refine t_aald8 F (j := n4271) e_X7_readTied_27 rfl h4268 (kA_7 k4277 (r := 1) (by decide)) (nI_clamp (by omega)) (vp_in_nI (by omega) (by decide)) ?_
      refine m_iconst F (v := 1) (by decide) e_X7_readTied_28 ?_
      refine t_put F e_X7_readTied_29 fp_X7_166 (fun _ => o15) h4268 (kA_8 (kA_7 k4277 (r := 1) (by decide)) (j := n4271) (by omega)) rfl ⟨1, (show 1 ≤ 1 by omega), rfl⟩ (by decide) rfl (by decide) (fun σ4279 h4280 g4281 g4282 f4283 => ?_)
      exact m_vret F hQ e_X7_readTied_32 (⟨h4280, rfl⟩)
  · have h4284 : HK V G (b, M, 0, T) [0, 1, 2, 5, 6, 7, 8, 9, 10, 11, 12, 13, 14, 16, 17, 18, 19] _ _ := ⟨h4272, h4268.2⟩
    refine m_istore_n F (lv' := [(1, .int (-1)), (0, .ref a)]) e_X7_readTied_11 (by decide) rfl ?_
    refine m_aload_n F rfl e_X7_readTied_12 ?_
    refine t_get F e_X7_readTied_13 fl_X7_55 (fun _ => o3) h4284 hk rfl (fun v hv f4285 => ?_)
    obtain ⟨x4286, hx4286, rfl⟩ := hv
    replace hx4286 : 0 = 0 → x4286 ≠ 0 := hx4286
    refine m_if_ne F e_X7_readTied_16 (fun q16 => ?_) (fun q16 => ?_)
    · exact m_vret F hQ e_X7_readTied_32 (⟨(h4284.mono (M' := M) (Z' := Z) (by omega) (by intro e; first | rfl | assumption | omega)), rfl⟩)
    · exact absurd q16 (hx4286 rfl)
