set_option maxRecDepth 20000 in
theorem lp_X7_kindOf_2 {V : VX} {X : MX} {b M Z T N : Nat} {σ : Mem} {a : Nat} {x901 : Int32}  (F : Fx V X yX7_kindOf cX7_kindOf 3 (some (.object "LeaseLedger$Kind")) (rmd 0 0 0)) (hQ : Rt V X 0 0 N (fun r τ => HK V (b, M, Z, T) [0, 1, 3, 7, 12, 15, 19] σ τ ∧ (r = some .null ∨ ∃ i : Nat, i < 9 ∧ r = some (.ref (adK V i))))) (hk : kA b a = 3) (hM : M + 0 ≤ 1000000000)  : ∀ (fuel : Nat) (i : Nat) (τ : Mem), HK V (b, M, Z, T) [0, 1, 3, 7, 12, 15, 19] σ τ → i ≤ 9 → 9 - i < fuel → Wm V X 3 N τ 0 0 2 [(2, .int (nI i)), (0, .ref a), (1, .int x901)] [] := by
  intro fuel
  induction fuel with
  | zero => intro i τ h1 hi hm; exact absurd hm (Nat.not_lt_zero _)
  | succ fuel ih =>
    intro i τ h1 hi hm
    refine m_iload_n F rfl e_X7_kindOf_2 ?_
    refine m_gsN F e_X7_kindOf_3 F.sw.2.2.2.1.1 (F.ku.2.1 (.fieldLinkNest RX7 200 RX9 "KINDS" "[LLeaseLedger$Kind;" RX9) (by simp [nestW])) ?_
    refine m_tlen F e_X7_kindOf_6 F.sw.2.2.2.1.2 (v := 9) (by decide) ?_
    refine m_icmp_ge F e_X7_kindOf_7 (fun q7 => ?_) (fun q7 => ?_)
    · have c7 : i ≥ 9 := (nI_leI (a := 9) (b := i) (by omega) (by omega)).mp q7
      refine m_null F e_X7_kindOf_34 ?_
      exact m_aret F hQ e_X7_kindOf_35 (Or.inl rfl) (⟨h1, Or.inl rfl⟩)
    · have c7 : i < 9 := by have hh := mt (nI_leI (a := 9) (b := i) (by omega) (by omega)).mpr q7; omega
      refine m_gsN F e_X7_kindOf_10 F.sw.2.2.2.1.1 (F.ku.2.1 (.fieldLinkNest RX7 200 RX9 "KINDS" "[LLeaseLedger$Kind;" RX9) (by simp [nestW])) ?_
      refine m_iload_n F rfl e_X7_kindOf_13 ?_
      refine m_tq F e_X7_kindOf_14 F.sw.2.2.2.1.2 (i := nI i) (vp_in_nI (by omega) (by decide)) (v := .ref (adK V i)) (by show Value.ref (adK V (nI i).toNatClampNeg) = _; rw [nI_clamp (by omega)]) ?_
      refine m_gof F e_X7_kindOf_15 (F.sw.2.2.2.2.2.1 i (by omega)).2.1 kf_code ?_
      refine Wm.top (fun x3898 _ => ?_)
      refine m_iload_n F rfl e_X7_kindOf_18 ?_
      refine m_icmp_ne F e_X7_kindOf_19 (fun q19 => ?_) (fun q19 => ?_)
      · refine m_iinc F (v := nI (i + 1)) (lv' := [(2, .int (nI (i + 1))), (0, .ref a), (1, .int x901)]) e_X7_kindOf_28 rfl (nI_add i 1) (by decide) rfl ?_
        refine m_goto F e_X7_kindOf_31 ?_
        exact ih (i + 1) _ h1 (by omega) (by omega)
      · refine m_gsN F e_X7_kindOf_22 F.sw.2.2.2.1.1 (F.ku.2.1 (.fieldLinkNest RX7 200 RX9 "KINDS" "[LLeaseLedger$Kind;" RX9) (by simp [nestW])) ?_
        refine m_iload_n F rfl e_X7_kindOf_25 ?_
        refine m_tq F e_X7_kindOf_26 F.sw.2.2.2.1.2 (i := nI i) (vp_in_nI (by omega) (by decide)) (v := .ref (adK V i)) (by show Value.ref (adK V (nI i).toNatClampNeg) = _; rw [nI_clamp (by omega)]) ?_
        exact m_aret F hQ e_X7_kindOf_27 (Or.inr ⟨_, rfl⟩) (⟨h1, Or.inr ⟨i, by omega, rfl⟩⟩)
set_option maxRecDepth 20000 in
theorem s_X7_kindOf (l : Launch) (V : VX) (b M Z T N : Nat) (σ : Mem) (a : Nat) (x901 : Int32) (h0 : HT V (b, M, Z, T) σ) (hk : kA b a = 3) (hM : M + 0 ≤ 1000000000) : Ct l V yX7_kindOf cX7_kindOf 3 (some (.object "LeaseLedger$Kind")) 0 0 0 N σ [.ref a, .int x901] (fun r τ => HK V (b, M, Z, T) [0, 1, 3, 7, 12, 15, 19] σ τ ∧ (r = some .null ∨ ∃ i : Nat, i < 9 ∧ r = some (.ref (adK V i)))) := by
  refine Ct.of (by decide) (Nat.le_of_ble_eq_true rfl) [(0, .ref a), (1, .int x901)] rfl (fun X hX F hQ => ?_)
  have h1 : HK V (b, M, Z, T) [0, 1, 3, 7, 12, 15, 19] σ σ := HK.start h0
  refine m_iconst F (v := 0) (by decide) e_X7_kindOf_0 ?_
  refine m_istore_n F (lv' := [(2, .int 0), (0, .ref a), (1, .int x901)]) e_X7_kindOf_1 (by decide) rfl ?_
  exact lp_X7_kindOf_2 F hQ hk hM (9 - 0 + 1) 0 _ h1 (by omega) (Nat.lt_succ_self _)
set_option maxRecDepth 20000 in
theorem s_X7_readNumber (l : Launch) (V : VX) (b M Z T N : Nat) (σ : Mem) (a : Nat) (n901 : Nat) (n902 : Nat) (h0 : HT V (b, M, Z, T) σ) (hk : kA b a = 3) (hn901 : n901 ≤ 2147483647) (hn902 : n902 ≤ 2147483647) (hM : M + 0 ≤ 1000000000) : Ct l V yX7_readNumber cX7_readNumber 4 (some .int) 2 0 0 N σ [.ref a, .int (nI n901), .int (nI n902)] (fun r τ => HK V (b, M, Z, T) [0, 1, 7, 12, 15, 19] σ τ ∧ ∃ n : Nat, n ≤ n902 ∧ r = some (.int (nI n))) := by
  refine Ct.of (by decide) (Nat.le_of_ble_eq_true rfl) [(0, .ref a), (1, .int (nI n901)), (2, .int (nI n902))] rfl (fun X hX F hQ => ?_)
  have h1 : HK V (b, M, Z, T) [0, 1, 7, 12, 15, 19] σ σ := HK.start h0
  refine m_aload_n F rfl e_X7_readNumber_0 ?_
  refine t_get F e_X7_readNumber_1 fl_X7_55 (fun _ => o3) h1 hk rfl (fun v hv f3899 => ?_)
  obtain ⟨x3900, hx3900, rfl⟩ := hv
  replace hx3900 : Z = 0 → x3900 ≠ 0 := hx3900
  refine m_if_eq F e_X7_readNumber_4 (fun q4 => ?_) (fun q4 => ?_)
  · refine m_aload_n F rfl e_X7_readNumber_9 ?_
    refine t_get F e_X7_readNumber_10 fl_X7_61 (fun _ => o3) h1 hk rfl (fun v hv f3901 => ?_)
    obtain ⟨x3902, rfl⟩ := hv
    refine m_iconst F (v := 2) (by decide) e_X7_readNumber_13 ?_
    refine m_icmp_eq F e_X7_readNumber_14 (fun q14 => ?_) (fun q14 => ?_)
    · refine m_aload_n F rfl e_X7_readNumber_24 ?_
      refine t_get F e_X7_readNumber_25 fl_X7_70 (fun _ => o3) h1 hk rfl (fun v hv f3903 => ?_)
      obtain ⟨x3904, rfl⟩ := hv
      refine m_iload_n F rfl e_X7_readNumber_28 ?_
      refine m_icmp_lt F e_X7_readNumber_29 (fun q29 => ?_) (fun q29 => ?_)
      · refine m_aload_n F rfl e_X7_readNumber_40 ?_
        refine m_iconst F (v := 2) (by decide) e_X7_readNumber_41 ?_
        refine t_callV F e_X7_readNumber_42 (s_X7_fail (x_l X) V b M Z T _ _ a 2 h1.1 hk (by first | omega | assumption | decide) (by omega)) cb_X7_fail ml_X7_77 im_X7_fail se_X7_fail (fun _ => o3) h1 hk rfl rfl (rest := []) rfl (Nat.le_of_ble_eq_true rfl) ⟨Nat.le_of_ble_eq_true rfl, Nat.le_of_ble_eq_true rfl⟩ ⟨Nat.le_of_ble_eq_true rfl, Nat.le_of_ble_eq_true rfl⟩ (fun r σ3905 hp => ?_)
        obtain ⟨h3907, rfl⟩ := hp
        have h3906 := HK.trans h1 h3907 (by decide)
        refine m_iconst F (v := 0) (by decide) e_X7_readNumber_45 ?_
        exact m_iret F hQ e_X7_readNumber_46 (⟨(h3906.mono (M' := M) (Z' := Z) (by omega) (by intro e; first | rfl | assumption | omega)), 0, by omega, rfl⟩)
      · obtain ⟨n3908, hn3908, rfl⟩ := nI_nn (x := x3904) (fun e => q29 (Int32.lt_of_lt_of_le e (nI_0le (by omega))))
        have c29 : n3908 ≥ n901 := by have hh := mt (nI_ltI (a := n3908) (b := n901) (by omega) (by omega)).mpr q29; omega
        refine m_aload_n F rfl e_X7_readNumber_32 ?_
        refine t_getC F e_X7_readNumber_33 fl_X7_70 (fun _ => o3) h1 hk (f3903) ?_
        refine m_iload_n F rfl e_X7_readNumber_36 ?_
        refine m_icmp_le F e_X7_readNumber_37 (fun q37 => ?_) (fun q37 => ?_)
        · have c37 : n3908 ≤ n902 := (nI_leI (a := n3908) (b := n902) (by omega) (by omega)).mp q37
          refine m_aload_n F rfl e_X7_readNumber_47 ?_
          refine t_getC F e_X7_readNumber_48 fl_X7_70 (fun _ => o3) h1 hk (f3903) ?_
          refine m_istore_n F (lv' := [(3, .int (nI n3908)), (0, .ref a), (1, .int (nI n901)), (2, .int (nI n902))]) e_X7_readNumber_51 (by decide) rfl ?_
          refine m_aload_n F rfl e_X7_readNumber_52 ?_
          refine t_callV F e_X7_readNumber_53 (s_X7_advance (x_l X) V b M Z T _ _ a  h1.1 hk  (by omega)) cb_X7_advance ml_X7_58 im_X7_advance se_X7_advance (fun _ => o3) h1 hk rfl rfl (rest := []) rfl (Nat.le_of_ble_eq_true rfl) ⟨Nat.le_of_ble_eq_true rfl, Nat.le_of_ble_eq_true rfl⟩ ⟨Nat.le_of_ble_eq_true rfl, Nat.le_of_ble_eq_true rfl⟩ (fun r σ3909 hp => ?_)
          obtain ⟨h3911, rfl⟩ := hp
          have h3910 := HK.trans h1 h3911 (by decide)
          refine m_iload_n F rfl e_X7_readNumber_56 ?_
          exact m_iret F hQ e_X7_readNumber_57 (⟨h3910, n3908, by omega, rfl⟩)
        · have c37 : n3908 > n902 := by have hh := mt (nI_leI (a := n3908) (b := n902) (by omega) (by omega)).mpr q37; omega
          refine m_aload_n F rfl e_X7_readNumber_40 ?_
          refine m_iconst F (v := 2) (by decide) e_X7_readNumber_41 ?_
          refine t_callV F e_X7_readNumber_42 (s_X7_fail (x_l X) V b M Z T _ _ a 2 h1.1 hk (by first | omega | assumption | decide) (by omega)) cb_X7_fail ml_X7_77 im_X7_fail se_X7_fail (fun _ => o3) h1 hk rfl rfl (rest := []) rfl (Nat.le_of_ble_eq_true rfl) ⟨Nat.le_of_ble_eq_true rfl, Nat.le_of_ble_eq_true rfl⟩ ⟨Nat.le_of_ble_eq_true rfl, Nat.le_of_ble_eq_true rfl⟩ (fun r σ3912 hp => ?_)
          obtain ⟨h3914, rfl⟩ := hp
          have h3913 := HK.trans h1 h3914 (by decide)
          refine m_iconst F (v := 0) (by decide) e_X7_readNumber_45 ?_
          exact m_iret F hQ e_X7_readNumber_46 (⟨(h3913.mono (M' := M) (Z' := Z) (by omega) (by intro e; first | rfl | assumption | omega)), 0, by omega, rfl⟩)
    · refine m_aload_n F rfl e_X7_readNumber_17 ?_
      refine m_iconst F (v := 1) (by decide) e_X7_readNumber_18 ?_
      refine t_callV F e_X7_readNumber_19 (s_X7_fail (x_l X) V b M Z T _ _ a 1 h1.1 hk (by first | omega | assumption | decide) (by omega)) cb_X7_fail ml_X7_77 im_X7_fail se_X7_fail (fun _ => o3) h1 hk rfl rfl (rest := []) rfl (Nat.le_of_ble_eq_true rfl) ⟨Nat.le_of_ble_eq_true rfl, Nat.le_of_ble_eq_true rfl⟩ ⟨Nat.le_of_ble_eq_true rfl, Nat.le_of_ble_eq_true rfl⟩ (fun r σ3915 hp => ?_)
      obtain ⟨h3917, rfl⟩ := hp
      have h3916 := HK.trans h1 h3917 (by decide)
      refine m_iconst F (v := 0) (by decide) e_X7_readNumber_22 ?_
      exact m_iret F hQ e_X7_readNumber_23 (⟨(h3916.mono (M' := M) (Z' := Z) (by omega) (by intro e; first | rfl | assumption | omega)), 0, by omega, rfl⟩)
  · refine m_iconst F (v := 0) (by decide) e_X7_readNumber_7 ?_
    exact m_iret F hQ e_X7_readNumber_8 (⟨h1, 0, by omega, rfl⟩)
set_option maxRecDepth 20000 in
theorem s_X7_readNumberW (l : Launch) (V : VX) (b M Z T N : Nat) (σ : Mem) (a : Nat) (x901 : Int32) (n902 : Nat) (h0 : HT V (b, M, Z, T) σ) (hk : kA b a = 3) (hn902 : n902 ≤ 2147483647) (hM : M + 0 ≤ 1000000000) : Ct l V yX7_readNumber cX7_readNumber 4 (some .int) 2 0 0 N σ [.ref a, .int x901, .int (nI n902)] (fun r τ => HK V (b, M, Z, T) [0, 1, 7, 12, 15, 19] σ τ ∧ ∃ x : Int32, r = some (.int x)) := by
  refine Ct.of (by decide) (Nat.le_of_ble_eq_true rfl) [(0, .ref a), (1, .int x901), (2, .int (nI n902))] rfl (fun X hX F hQ => ?_)
  have h1 : HK V (b, M, Z, T) [0, 1, 7, 12, 15, 19] σ σ := HK.start h0
  refine m_aload_n F rfl e_X7_readNumber_0 ?_
  refine t_get F e_X7_readNumber_1 fl_X7_55 (fun _ => o3) h1 hk rfl (fun v hv f3918 => ?_)
  obtain ⟨x3919, hx3919, rfl⟩ := hv
  replace hx3919 : Z = 0 → x3919 ≠ 0 := hx3919
  refine m_if_eq F e_X7_readNumber_4 (fun q4 => ?_) (fun q4 => ?_)
  · refine m_aload_n F rfl e_X7_readNumber_9 ?_
    refine t_get F e_X7_readNumber_10 fl_X7_61 (fun _ => o3) h1 hk rfl (fun v hv f3920 => ?_)
    obtain ⟨x3921, rfl⟩ := hv
    refine m_iconst F (v := 2) (by decide) e_X7_readNumber_13 ?_
    refine m_icmp_eq F e_X7_readNumber_14 (fun q14 => ?_) (fun q14 => ?_)
    · refine m_aload_n F rfl e_X7_readNumber_24 ?_
      refine t_get F e_X7_readNumber_25 fl_X7_70 (fun _ => o3) h1 hk rfl (fun v hv f3922 => ?_)
      obtain ⟨x3923, rfl⟩ := hv
      refine m_iload_n F rfl e_X7_readNumber_28 ?_
      refine m_icmp_lt F e_X7_readNumber_29 (fun q29 => ?_) (fun q29 => ?_)
      · refine m_aload_n F rfl e_X7_readNumber_40 ?_
        refine m_iconst F (v := 2) (by decide) e_X7_readNumber_41 ?_
        refine t_callV F e_X7_readNumber_42 (s_X7_fail (x_l X) V b M Z T _ _ a 2 h1.1 hk (by first | omega | assumption | decide) (by omega)) cb_X7_fail ml_X7_77 im_X7_fail se_X7_fail (fun _ => o3) h1 hk rfl rfl (rest := []) rfl (Nat.le_of_ble_eq_true rfl) ⟨Nat.le_of_ble_eq_true rfl, Nat.le_of_ble_eq_true rfl⟩ ⟨Nat.le_of_ble_eq_true rfl, Nat.le_of_ble_eq_true rfl⟩ (fun r σ3924 hp => ?_)
        obtain ⟨h3926, rfl⟩ := hp
        have h3925 := HK.trans h1 h3926 (by decide)
        refine m_iconst F (v := 0) (by decide) e_X7_readNumber_45 ?_
        exact m_iret F hQ e_X7_readNumber_46 (⟨(h3925.mono (M' := M) (Z' := Z) (by omega) (by intro e; first | rfl | assumption | omega)), _, rfl⟩)
      · refine m_aload_n F rfl e_X7_readNumber_32 ?_
        refine t_getC F e_X7_readNumber_33 fl_X7_70 (fun _ => o3) h1 hk (f3922) ?_
        refine m_iload_n F rfl e_X7_readNumber_36 ?_
        refine m_icmp_le F e_X7_readNumber_37 (fun q37 => ?_) (fun q37 => ?_)
        · refine m_aload_n F rfl e_X7_readNumber_47 ?_
          refine t_getC F e_X7_readNumber_48 fl_X7_70 (fun _ => o3) h1 hk (f3922) ?_
          refine m_istore_n F (lv' := [(3, .int x3923), (0, .ref a), (1, .int x901), (2, .int (nI n902))]) e_X7_readNumber_51 (by decide) rfl ?_
          refine m_aload_n F rfl e_X7_readNumber_52 ?_
          refine t_callV F e_X7_readNumber_53 (s_X7_advance (x_l X) V b M Z T _ _ a  h1.1 hk  (by omega)) cb_X7_advance ml_X7_58 im_X7_advance se_X7_advance (fun _ => o3) h1 hk rfl rfl (rest := []) rfl (Nat.le_of_ble_eq_true rfl) ⟨Nat.le_of_ble_eq_true rfl, Nat.le_of_ble_eq_true rfl⟩ ⟨Nat.le_of_ble_eq_true rfl, Nat.le_of_ble_eq_true rfl⟩ (fun r σ3927 hp => ?_)
          obtain ⟨h3929, rfl⟩ := hp
          have h3928 := HK.trans h1 h3929 (by decide)
          refine m_iload_n F rfl e_X7_readNumber_56 ?_
          exact m_iret F hQ e_X7_readNumber_57 (⟨h3928, _, rfl⟩)
        · refine m_aload_n F rfl e_X7_readNumber_40 ?_
          refine m_iconst F (v := 2) (by decide) e_X7_readNumber_41 ?_
          refine t_callV F e_X7_readNumber_42 (s_X7_fail (x_l X) V b M Z T _ _ a 2 h1.1 hk (by first | omega | assumption | decide) (by omega)) cb_X7_fail ml_X7_77 im_X7_fail se_X7_fail (fun _ => o3) h1 hk rfl rfl (rest := []) rfl (Nat.le_of_ble_eq_true rfl) ⟨Nat.le_of_ble_eq_true rfl, Nat.le_of_ble_eq_true rfl⟩ ⟨Nat.le_of_ble_eq_true rfl, Nat.le_of_ble_eq_true rfl⟩ (fun r σ3930 hp => ?_)
          obtain ⟨h3932, rfl⟩ := hp
          have h3931 := HK.trans h1 h3932 (by decide)
          refine m_iconst F (v := 0) (by decide) e_X7_readNumber_45 ?_
          exact m_iret F hQ e_X7_readNumber_46 (⟨(h3931.mono (M' := M) (Z' := Z) (by omega) (by intro e; first | rfl | assumption | omega)), _, rfl⟩)
    · refine m_aload_n F rfl e_X7_readNumber_17 ?_
      refine m_iconst F (v := 1) (by decide) e_X7_readNumber_18 ?_
      refine t_callV F e_X7_readNumber_19 (s_X7_fail (x_l X) V b M Z T _ _ a 1 h1.1 hk (by first | omega | assumption | decide) (by omega)) cb_X7_fail ml_X7_77 im_X7_fail se_X7_fail (fun _ => o3) h1 hk rfl rfl (rest := []) rfl (Nat.le_of_ble_eq_true rfl) ⟨Nat.le_of_ble_eq_true rfl, Nat.le_of_ble_eq_true rfl⟩ ⟨Nat.le_of_ble_eq_true rfl, Nat.le_of_ble_eq_true rfl⟩ (fun r σ3933 hp => ?_)
      obtain ⟨h3935, rfl⟩ := hp
      have h3934 := HK.trans h1 h3935 (by decide)
      refine m_iconst F (v := 0) (by decide) e_X7_readNumber_22 ?_
      exact m_iret F hQ e_X7_readNumber_23 (⟨(h3934.mono (M' := M) (Z' := Z) (by omega) (by intro e; first | rfl | assumption | omega)), _, rfl⟩)
  · refine m_iconst F (v := 0) (by decide) e_X7_readNumber_7 ?_
    exact m_iret F hQ e_X7_readNumber_8 (⟨h1, _, rfl⟩)
set_option maxRecDepth 20000 in
theorem s_X7_readName (l : Launch) (V : VX) (b M Z T N : Nat) (σ : Mem) (a : Nat) (h0 : HT V (b, M, Z, T) σ) (hk : kA b a = 3) (hM : M + 0 ≤ 1000000000) : Ct l V yX7_readName cX7_readName 2 (some .int) 2 0 0 N σ [.ref a] (fun r τ => HK V (b, M, Z, T) [0, 1, 7, 12, 15, 19] σ τ ∧ ∃ x : Int32, r = some (.int x)) := by
  refine Ct.of (by decide) (Nat.le_of_ble_eq_true rfl) [(0, .ref a)] rfl (fun X hX F hQ => ?_)
  have h1 : HK V (b, M, Z, T) [0, 1, 7, 12, 15, 19] σ σ := HK.start h0
  refine m_aload_n F rfl e_X7_readName_0 ?_
  refine t_get F e_X7_readName_1 fl_X7_55 (fun _ => o3) h1 hk rfl (fun v hv f3936 => ?_)
  obtain ⟨x3937, hx3937, rfl⟩ := hv
  replace hx3937 : Z = 0 → x3937 ≠ 0 := hx3937
  refine m_if_eq F e_X7_readName_4 (fun q4 => ?_) (fun q4 => ?_)
  · refine m_aload_n F rfl e_X7_readName_9 ?_
    refine t_get F e_X7_readName_10 fl_X7_61 (fun _ => o3) h1 hk rfl (fun v hv f3938 => ?_)
    obtain ⟨x3939, rfl⟩ := hv
    refine m_iconst F (v := 1) (by decide) e_X7_readName_13 ?_
    refine m_icmp_ne F e_X7_readName_14 (fun q14 => ?_) (fun q14 => ?_)
    · refine m_aload_n F rfl e_X7_readName_36 ?_
      refine m_iconst F (v := 1) (by decide) e_X7_readName_37 ?_
      refine t_callV F e_X7_readName_38 (s_X7_fail (x_l X) V b M Z T _ _ a 1 h1.1 hk (by first | omega | assumption | decide) (by omega)) cb_X7_fail ml_X7_77 im_X7_fail se_X7_fail (fun _ => o3) h1 hk rfl rfl (rest := []) rfl (Nat.le_of_ble_eq_true rfl) ⟨Nat.le_of_ble_eq_true rfl, Nat.le_of_ble_eq_true rfl⟩ ⟨Nat.le_of_ble_eq_true rfl, Nat.le_of_ble_eq_true rfl⟩ (fun r σ3940 hp => ?_)
      obtain ⟨h3942, rfl⟩ := hp
      have h3941 := HK.trans h1 h3942 (by decide)
      refine m_iconst F (v := (-1)) (by decide) e_X7_readName_41 ?_
      exact m_iret F hQ e_X7_readName_42 (⟨(h3941.mono (M' := M) (Z' := Z) (by omega) (by intro e; first | rfl | assumption | omega)), _, rfl⟩)
    · refine m_aload_n F rfl e_X7_readName_17 ?_
      refine t_get F e_X7_readName_18 fl_X7_70 (fun _ => o3) h1 hk rfl (fun v hv f3943 => ?_)
      obtain ⟨x3944, rfl⟩ := hv
      refine m_iconst F (v := (-1)) (by decide) e_X7_readName_21 ?_
      refine m_icmp_eq F e_X7_readName_22 (fun q22 => ?_) (fun q22 => ?_)
      · refine m_aload_n F rfl e_X7_readName_36 ?_
        refine m_iconst F (v := 1) (by decide) e_X7_readName_37 ?_
        refine t_callV F e_X7_readName_38 (s_X7_fail (x_l X) V b M Z T _ _ a 1 h1.1 hk (by first | omega | assumption | decide) (by omega)) cb_X7_fail ml_X7_77 im_X7_fail se_X7_fail (fun _ => o3) h1 hk rfl rfl (rest := []) rfl (Nat.le_of_ble_eq_true rfl) ⟨Nat.le_of_ble_eq_true rfl, Nat.le_of_ble_eq_true rfl⟩ ⟨Nat.le_of_ble_eq_true rfl, Nat.le_of_ble_eq_true rfl⟩ (fun r σ3945 hp => ?_)
        obtain ⟨h3947, rfl⟩ := hp
        have h3946 := HK.trans h1 h3947 (by decide)
        refine m_iconst F (v := (-1)) (by decide) e_X7_readName_41 ?_
        exact m_iret F hQ e_X7_readName_42 (⟨(h3946.mono (M' := M) (Z' := Z) (by omega) (by intro e; first | rfl | assumption | omega)), _, rfl⟩)
      · refine m_aload_n F rfl e_X7_readName_25 ?_
        refine m_aload_n F rfl e_X7_readName_26 ?_
        refine t_getC F e_X7_readName_27 fl_X7_70 (fun _ => o3) h1 hk (f3943) ?_
        refine t_callV F e_X7_readName_30 (s_X7_kindOf (x_l X) V b M Z T _ _ a x3944 h1.1 hk  (by omega)) cb_X7_kindOf ml_X7_73 im_X7_kindOf se_X7_kindOf (fun _ => o3) h1 hk rfl rfl (rest := []) rfl (Nat.le_of_ble_eq_true rfl) ⟨Nat.le_of_ble_eq_true rfl, Nat.le_of_ble_eq_true rfl⟩ ⟨Nat.le_of_ble_eq_true rfl, Nat.le_of_ble_eq_true rfl⟩ (fun r σ3948 hp => ?_)
        obtain ⟨h3950, c3951⟩ := hp
        have h3949 := HK.trans h1 h3950 (by decide)
        rcases c3951 with rfl | ⟨n3952, hn3952, rfl⟩
        · refine m_ifnullN F e_X7_readName_33 ?_
          refine m_aload_n F rfl e_X7_readName_43 ?_
          refine t_getC F e_X7_readName_44 fl_X7_70 (fun _ => o3) h3949 hk ((fld_eq (h3950.2 a (by rw [show kA _ a = 3 from hk]; decide))).trans f3943) ?_
          refine m_istore_n F (lv' := [(1, .int x3944), (0, .ref a)]) e_X7_readName_47 (by decide) rfl ?_
          refine m_aload_n F rfl e_X7_readName_48 ?_
          refine t_callV F e_X7_readName_49 (s_X7_advance (x_l X) V b M Z T _ _ a  h3949.1 hk  (by omega)) cb_X7_advance ml_X7_58 im_X7_advance se_X7_advance (fun _ => o3) h3949 hk rfl rfl (rest := []) rfl (Nat.le_of_ble_eq_true rfl) ⟨Nat.le_of_ble_eq_true rfl, Nat.le_of_ble_eq_true rfl⟩ ⟨Nat.le_of_ble_eq_true rfl, Nat.le_of_ble_eq_true rfl⟩ (fun r σ3953 hp => ?_)
          obtain ⟨h3955, rfl⟩ := hp
          have h3954 := HK.trans h3949 h3955 (by decide)
          refine m_iload_n F rfl e_X7_readName_52 ?_
          exact m_iret F hQ e_X7_readName_53 (⟨h3954, _, rfl⟩)
        · refine m_ifnullR F e_X7_readName_33 ?_
          refine m_aload_n F rfl e_X7_readName_36 ?_
          refine m_iconst F (v := 1) (by decide) e_X7_readName_37 ?_
          refine t_callV F e_X7_readName_38 (s_X7_fail (x_l X) V b M Z T _ _ a 1 h3949.1 hk (by first | omega | assumption | decide) (by omega)) cb_X7_fail ml_X7_77 im_X7_fail se_X7_fail (fun _ => o3) h3949 hk rfl rfl (rest := []) rfl (Nat.le_of_ble_eq_true rfl) ⟨Nat.le_of_ble_eq_true rfl, Nat.le_of_ble_eq_true rfl⟩ ⟨Nat.le_of_ble_eq_true rfl, Nat.le_of_ble_eq_true rfl⟩ (fun r σ3956 hp => ?_)
          obtain ⟨h3958, rfl⟩ := hp
          have h3957 := HK.trans h3949 h3958 (by decide)
          refine m_iconst F (v := (-1)) (by decide) e_X7_readName_41 ?_
          exact m_iret F hQ e_X7_readName_42 (⟨(h3957.mono (M' := M) (Z' := Z) (by omega) (by intro e; first | rfl | assumption | omega)), _, rfl⟩)
  · refine m_iconst F (v := (-1)) (by decide) e_X7_readName_7 ?_
    exact m_iret F hQ e_X7_readName_8 (⟨h1, _, rfl⟩)
set_option maxRecDepth 20000 in
theorem s_X7_readNewName (l : Launch) (V : VX) (b M Z T N : Nat) (σ : Mem) (a : Nat) (h0 : HT V (b, M, Z, T) σ) (hk : kA b a = 3) (hM : M + 0 ≤ 1000000000) : Ct l V yX7_readNewName cX7_readNewName 3 (some .int) 3 0 0 N σ [.ref a] (fun r τ => HK V (b, M, Z, T) [0, 1, 7, 12, 15, 19] σ τ ∧ ∃ x : Int32, r = some (.int x)) := by
  refine Ct.of (by decide) (Nat.le_of_ble_eq_true rfl) [(0, .ref a)] rfl (fun X hX F hQ => ?_)
  have h1 : HK V (b, M, Z, T) [0, 1, 7, 12, 15, 19] σ σ := HK.start h0
  refine m_aload_n F rfl e_X7_readNewName_0 ?_
  refine t_get F e_X7_readNewName_1 fl_X7_188 (fun _ => o3) h1 hk rfl (fun v hv f3959 => ?_)
  obtain ⟨x3960, rfl⟩ := hv
  refine m_istore_n F (lv' := [(1, .int x3960), (0, .ref a)]) e_X7_readNewName_4 (by decide) rfl ?_
  refine m_aload_n F rfl e_X7_readNewName_5 ?_
  refine t_callV F e_X7_readNewName_6 (s_X7_readName (x_l X) V b M Z T _ _ a  h1.1 hk  (by omega)) cb_X7_readName ml_X7_191 im_X7_readName se_X7_readName (fun _ => o3) h1 hk rfl rfl (rest := []) rfl (Nat.le_of_ble_eq_true rfl) ⟨Nat.le_of_ble_eq_true rfl, Nat.le_of_ble_eq_true rfl⟩ ⟨Nat.le_of_ble_eq_true rfl, Nat.le_of_ble_eq_true rfl⟩ (fun r σ3961 hp => ?_)
  obtain ⟨h3963, x3964, rfl⟩ := hp
  have h3962 := HK.trans h1 h3963 (by decide)
  refine m_istore_n F (lv' := [(2, .int x3964), (1, .int x3960), (0, .ref a)]) e_X7_readNewName_9 (by decide) rfl ?_
  refine m_aload_n F rfl e_X7_readNewName_10 ?_
  refine t_get F e_X7_readNewName_11 fl_X7_23 (fun _ => o3) h3962 hk rfl (fun v hv f3965 => ?_)
  obtain ⟨r3966, k3967, rfl⟩ := hv
  refine m_iload_n F rfl e_X7_readNewName_14 ?_
  refine t_callV F e_X7_readNewName_15 (s_X2_leaseNamed (x_l X) V b M Z T _ _ r3966 x3964 h3962.1 k3967  (by omega)) cb_X2_leaseNamed ml_X7_194 im_X2_leaseNamed se_X2_leaseNamed (fun _ => o7) h3962 k3967 rfl rfl (rest := []) rfl (Nat.le_of_ble_eq_true rfl) ⟨Nat.le_of_ble_eq_true rfl, Nat.le_of_ble_eq_true rfl⟩ ⟨Nat.le_of_ble_eq_true rfl, Nat.le_of_ble_eq_true rfl⟩ (fun r σ3968 hp => ?_)
  obtain ⟨h3970, c3971⟩ := hp
  have h3969 := HK.trans h3962 h3970 (by decide)
  rcases c3971 with ⟨n3972, hn3972, rfl⟩ | rfl
  · refine m_iconst F (v := (-1)) (by decide) e_X7_readNewName_18 ?_
    refine m_icmp_eq F e_X7_readNewName_19 (fun q19 => ?_) (fun q19 => ?_)
    · refine m_iload_n F rfl e_X7_readNewName_28 ?_
      exact m_iret F hQ e_X7_readNewName_29 (⟨h3969, _, rfl⟩)
    · refine m_aload_n F rfl e_X7_readNewName_22 ?_
      refine m_iconst F (v := 3) (by decide) e_X7_readNewName_23 ?_
      refine m_iload_n F rfl e_X7_readNewName_24 ?_
      refine t_callV F e_X7_readNewName_25 (s_X7_failAt (x_l X) V b M Z T _ _ a 3 x3960 h3969.1 hk (by first | omega | assumption | decide) (by omega)) cb_X7_failAt ml_X7_197 im_X7_failAt se_X7_failAt (fun _ => o3) h3969 hk rfl rfl (rest := []) rfl (Nat.le_of_ble_eq_true rfl) ⟨Nat.le_of_ble_eq_true rfl, Nat.le_of_ble_eq_true rfl⟩ ⟨Nat.le_of_ble_eq_true rfl, Nat.le_of_ble_eq_true rfl⟩ (fun r σ3973 hp => ?_)
      obtain ⟨h3975, rfl⟩ := hp
      have h3974 := HK.trans h3969 h3975 (by decide)
      refine m_iload_n F rfl e_X7_readNewName_28 ?_
      exact m_iret F hQ e_X7_readNewName_29 (⟨(h3974.mono (M' := M) (Z' := Z) (by omega) (by intro e; first | rfl | assumption | omega)), _, rfl⟩)
  · refine m_iconst F (v := (-1)) (by decide) e_X7_readNewName_18 ?_
    refine m_icmp_eq F e_X7_readNewName_19 (fun _ => ?_) (fun q => absurd (by decide) q)
    refine m_iload_n F rfl e_X7_readNewName_28 ?_
    exact m_iret F hQ e_X7_readNewName_29 (⟨h3969, _, rfl⟩)
set_option maxRecDepth 20000 in
theorem s_X7_readToldName (l : Launch) (V : VX) (b M Z T N : Nat) (σ : Mem) (a : Nat) (h0 : HT V (b, M, Z, T) σ) (hk : kA b a = 3) (hM : M + 0 ≤ 1000000000) : Ct l V yX7_readToldName cX7_readToldName 3 (some .int) 3 0 0 N σ [.ref a] (fun r τ => HK V (b, M, Z, T) [0, 1, 7, 12, 15, 19] σ τ ∧ ((∃ n : Nat, n ≤ 3 ∧ r = some (.int (nI n))) ∨ (HT V (b, M, 0, T) τ ∧ r = some (.int (-1))))) := by
  refine Ct.of (by decide) (Nat.le_of_ble_eq_true rfl) [(0, .ref a)] rfl (fun X hX F hQ => ?_)
  have h1 : HK V (b, M, Z, T) [0, 1, 7, 12, 15, 19] σ σ := HK.start h0
  refine m_aload_n F rfl e_X7_readToldName_0 ?_
  refine t_get F e_X7_readToldName_1 fl_X7_188 (fun _ => o3) h1 hk rfl (fun v hv f3976 => ?_)
  obtain ⟨x3977, rfl⟩ := hv
  refine m_istore_n F (lv' := [(1, .int x3977), (0, .ref a)]) e_X7_readToldName_4 (by decide) rfl ?_
  refine m_aload_n F rfl e_X7_readToldName_5 ?_
  refine t_get F e_X7_readToldName_6 fl_X7_23 (fun _ => o3) h1 hk rfl (fun v hv f3978 => ?_)
  obtain ⟨r3979, k3980, rfl⟩ := hv
  refine m_aload_n F rfl e_X7_readToldName_9 ?_
  refine t_callV F e_X7_readToldName_10 (s_X7_readName (x_l X) V b M Z T _ _ a  h1.1 hk  (by omega)) cb_X7_readName ml_X7_191 im_X7_readName se_X7_readName (fun _ => o3) h1 hk rfl rfl (rest := [.ref r3979]) rfl (Nat.le_of_ble_eq_true rfl) ⟨Nat.le_of_ble_eq_true rfl, Nat.le_of_ble_eq_true rfl⟩ ⟨Nat.le_of_ble_eq_true rfl, Nat.le_of_ble_eq_true rfl⟩ (fun r σ3981 hp => ?_)
  obtain ⟨h3983, x3984, rfl⟩ := hp
  have h3982 := HK.trans h1 h3983 (by decide)
  refine t_callV F e_X7_readToldName_13 (s_X2_leaseNamed (x_l X) V b M Z T _ _ r3979 x3984 h3982.1 k3980  (by omega)) cb_X2_leaseNamed ml_X7_194 im_X2_leaseNamed se_X2_leaseNamed (fun _ => o7) h3982 k3980 rfl rfl (rest := []) rfl (Nat.le_of_ble_eq_true rfl) ⟨Nat.le_of_ble_eq_true rfl, Nat.le_of_ble_eq_true rfl⟩ ⟨Nat.le_of_ble_eq_true rfl, Nat.le_of_ble_eq_true rfl⟩ (fun r σ3985 hp => ?_)
  obtain ⟨h3987, c3988⟩ := hp
  have h3986 := HK.trans h3982 h3987 (by decide)
  rcases c3988 with ⟨n3989, hn3989, rfl⟩ | rfl
  · refine m_istore_n F (lv' := [(2, .int (nI n3989)), (1, .int x3977), (0, .ref a)]) e_X7_readToldName_16 (by decide) rfl ?_
    refine m_iload_n F rfl e_X7_readToldName_17 ?_
    refine m_iconst F (v := (-1)) (by decide) e_X7_readToldName_18 ?_
    refine m_icmp_ne F e_X7_readToldName_19 (fun q19 => ?_) (fun q19 => ?_)
    · refine m_iload_n F rfl e_X7_readToldName_28 ?_
      exact m_iret F hQ e_X7_readToldName_29 (⟨h3986, Or.inl ⟨n3989, by omega, rfl⟩⟩)
    · refine m_aload_n F rfl e_X7_readToldName_22 ?_
      refine m_iconst F (v := 4) (by decide) e_X7_readToldName_23 ?_
      refine m_iload_n F rfl e_X7_readToldName_24 ?_
      refine t_callV F e_X7_readToldName_25 (s_X7_failAt (x_l X) V b M Z T _ _ a 4 x3977 h3986.1 hk (by first | omega | assumption | decide) (by omega)) cb_X7_failAt ml_X7_197 im_X7_failAt se_X7_failAt (fun _ => o3) h3986 hk rfl rfl (rest := []) rfl (Nat.le_of_ble_eq_true rfl) ⟨Nat.le_of_ble_eq_true rfl, Nat.le_of_ble_eq_true rfl⟩ ⟨Nat.le_of_ble_eq_true rfl, Nat.le_of_ble_eq_true rfl⟩ (fun r σ3990 hp => ?_)
      obtain ⟨h3992, rfl⟩ := hp
      have h3991 := HK.trans h3986 h3992 (by decide)
      refine m_iload_n F rfl e_X7_readToldName_28 ?_
      exact m_iret F hQ e_X7_readToldName_29 (⟨(h3991.mono (M' := M) (Z' := Z) (by omega) (by intro e; first | rfl | assumption | omega)), Or.inl ⟨n3989, by omega, rfl⟩⟩)
  · refine m_istore_n F (lv' := [(2, .int (-1)), (1, .int x3977), (0, .ref a)]) e_X7_readToldName_16 (by decide) rfl ?_
    refine m_iload_n F rfl e_X7_readToldName_17 ?_
    refine m_iconst F (v := (-1)) (by decide) e_X7_readToldName_18 ?_
    refine m_icmp_ne F e_X7_readToldName_19 (fun q => absurd (by decide) q) (fun _ => ?_)
    refine m_aload_n F rfl e_X7_readToldName_22 ?_
    refine m_iconst F (v := 4) (by decide) e_X7_readToldName_23 ?_
    refine m_iload_n F rfl e_X7_readToldName_24 ?_
    refine t_callV F e_X7_readToldName_25 (s_X7_failAt (x_l X) V b M Z T _ _ a 4 x3977 h3986.1 hk (by first | omega | assumption | decide) (by omega)) cb_X7_failAt ml_X7_197 im_X7_failAt se_X7_failAt (fun _ => o3) h3986 hk rfl rfl (rest := []) rfl (Nat.le_of_ble_eq_true rfl) ⟨Nat.le_of_ble_eq_true rfl, Nat.le_of_ble_eq_true rfl⟩ ⟨Nat.le_of_ble_eq_true rfl, Nat.le_of_ble_eq_true rfl⟩ (fun r σ3993 hp => ?_)
    obtain ⟨h3995, rfl⟩ := hp
    have h3994 := HK.trans h3986 h3995 (by decide)
    refine m_iload_n F rfl e_X7_readToldName_28 ?_
    exact m_iret F hQ e_X7_readToldName_29 (⟨(h3994.mono (M' := M) (Z' := Z) (by omega) (by intro e; first | rfl | assumption | omega)), Or.inr ⟨h3994.1, rfl⟩⟩)
set_option maxRecDepth 20000 in
theorem s_X7_readNameOnce (l : Launch) (V : VX) (b M Z T N : Nat) (σ : Mem) (a : Nat) (x901 : Int32) (h0 : HT V (b, M, Z, T) σ) (hk : kA b a = 3) (hM : M + 0 ≤ 1000000000) : Ct l V yX7_readNameOnce cX7_readNameOnce 4 (some .int) 3 0 0 N σ [.ref a, .int x901] (fun r τ => HK V (b, M, Z, T) [0, 1, 7, 12, 15, 19] σ τ ∧ ((∃ n : Nat, n ≤ 3 ∧ r = some (.int (nI n))) ∨ (HT V (b, M, 0, T) τ ∧ r = some (.int (-1))))) := by
  refine Ct.of (by decide) (Nat.le_of_ble_eq_true rfl) [(0, .ref a), (1, .int x901)] rfl (fun X hX F hQ => ?_)
  have h1 : HK V (b, M, Z, T) [0, 1, 7, 12, 15, 19] σ σ := HK.start h0
  refine m_aload_n F rfl e_X7_readNameOnce_0 ?_
  refine t_get F e_X7_readNameOnce_1 fl_X7_188 (fun _ => o3) h1 hk rfl (fun v hv f3996 => ?_)
  obtain ⟨x3997, rfl⟩ := hv
  refine m_istore_n F (lv' := [(2, .int x3997), (0, .ref a), (1, .int x901)]) e_X7_readNameOnce_4 (by decide) rfl ?_
  refine m_aload_n F rfl e_X7_readNameOnce_5 ?_
  refine t_get F e_X7_readNameOnce_6 fl_X7_23 (fun _ => o3) h1 hk rfl (fun v hv f3998 => ?_)
  obtain ⟨r3999, k4000, rfl⟩ := hv
  refine m_aload_n F rfl e_X7_readNameOnce_9 ?_
  refine t_callV F e_X7_readNameOnce_10 (s_X7_readName (x_l X) V b M Z T _ _ a  h1.1 hk  (by omega)) cb_X7_readName ml_X7_191 im_X7_readName se_X7_readName (fun _ => o3) h1 hk rfl rfl (rest := [.ref r3999]) rfl (Nat.le_of_ble_eq_true rfl) ⟨Nat.le_of_ble_eq_true rfl, Nat.le_of_ble_eq_true rfl⟩ ⟨Nat.le_of_ble_eq_true rfl, Nat.le_of_ble_eq_true rfl⟩ (fun r σ4001 hp => ?_)
  obtain ⟨h4003, x4004, rfl⟩ := hp
  have h4002 := HK.trans h1 h4003 (by decide)
  refine t_callV F e_X7_readNameOnce_13 (s_X2_leaseNamed (x_l X) V b M Z T _ _ r3999 x4004 h4002.1 k4000  (by omega)) cb_X2_leaseNamed ml_X7_194 im_X2_leaseNamed se_X2_leaseNamed (fun _ => o7) h4002 k4000 rfl rfl (rest := []) rfl (Nat.le_of_ble_eq_true rfl) ⟨Nat.le_of_ble_eq_true rfl, Nat.le_of_ble_eq_true rfl⟩ ⟨Nat.le_of_ble_eq_true rfl, Nat.le_of_ble_eq_true rfl⟩ (fun r σ4005 hp => ?_)
  obtain ⟨h4007, c4008⟩ := hp
  have h4006 := HK.trans h4002 h4007 (by decide)
  rcases c4008 with ⟨n4009, hn4009, rfl⟩ | rfl
  · refine m_istore_n F (lv' := [(3, .int (nI n4009)), (2, .int x3997), (0, .ref a), (1, .int x901)]) e_X7_readNameOnce_16 (by decide) rfl ?_
    refine m_iload_n F rfl e_X7_readNameOnce_17 ?_
    refine m_if_lt F e_X7_readNameOnce_18 (fun q18 => ?_) (fun q18 => ?_)
    · have c18 : n4009 < 0 := (nI_ltI (a := n4009) (b := 0) (by omega) (by omega)).mp q18
      refine m_aload_n F rfl e_X7_readNameOnce_26 ?_
      refine m_iconst F (v := 4) (by decide) e_X7_readNameOnce_27 ?_
      refine m_iload_n F rfl e_X7_readNameOnce_28 ?_
      refine t_callV F e_X7_readNameOnce_29 (s_X7_failAt (x_l X) V b M Z T _ _ a 4 x3997 h4006.1 hk (by first | omega | assumption | decide) (by omega)) cb_X7_failAt ml_X7_197 im_X7_failAt se_X7_failAt (fun _ => o3) h4006 hk rfl rfl (rest := []) rfl (Nat.le_of_ble_eq_true rfl) ⟨Nat.le_of_ble_eq_true rfl, Nat.le_of_ble_eq_true rfl⟩ ⟨Nat.le_of_ble_eq_true rfl, Nat.le_of_ble_eq_true rfl⟩ (fun r σ4010 hp => ?_)
      obtain ⟨h4012, rfl⟩ := hp
      have h4011 := HK.trans h4006 h4012 (by decide)
      refine m_iconst F (v := (-1)) (by decide) e_X7_readNameOnce_32 ?_
      exact m_iret F hQ e_X7_readNameOnce_33 (⟨(h4011.mono (M' := M) (Z' := Z) (by omega) (by intro e; first | rfl | assumption | omega)), Or.inr ⟨h4011.1, rfl⟩⟩)
    · have c18 : n4009 ≥ 0 := by have hh := mt (nI_ltI (a := n4009) (b := 0) (by omega) (by omega)).mpr q18; omega
      refine m_iload_n F rfl e_X7_readNameOnce_21 ?_
      refine m_iconst F (v := 4) (by decide) e_X7_readNameOnce_22 ?_
      refine m_icmp_lt F e_X7_readNameOnce_23 (fun q23 => ?_) (fun q23 => ?_)
      · have c23 : n4009 < 4 := (nI_ltI (a := n4009) (b := 4) (by omega) (by omega)).mp q23
        refine m_aload_n F rfl e_X7_readNameOnce_34 ?_
        refine t_get F e_X7_readNameOnce_35 fl_X7_9 (fun _ => o3) h4006 hk rfl (fun v hv f4013 => ?_)
        obtain ⟨r4014, k4015, rfl⟩ := hv
        refine m_iload_n F rfl e_X7_readNameOnce_38 ?_
        refine t_iald F (len := 4) (j := n4009) e_X7_readNameOnce_39 (fun _ => o4) h4006 k4015 (nI_clamp (by omega)) (vp_in_nI (by omega) (by decide)) (fun x4016 => ?_)
        refine m_iload_n F rfl e_X7_readNameOnce_40 ?_
        refine m_iand F e_X7_readNameOnce_41 ?_
        refine Wm.top (fun x4017 _ => ?_)
        refine m_if_eq F e_X7_readNameOnce_42 (fun q42 => ?_) (fun q42 => ?_)
        · refine m_aload_n F rfl e_X7_readNameOnce_51 ?_
          refine t_getC F e_X7_readNameOnce_52 fl_X7_9 (fun _ => o3) h4006 hk (f4013) ?_
          refine m_iload_n F rfl e_X7_readNameOnce_55 ?_
          refine m_dup2_11 F rfl rfl e_X7_readNameOnce_56 ?_
          refine t_iald F (len := 4) (j := n4009) e_X7_readNameOnce_57 (fun _ => o4) h4006 k4015 (nI_clamp (by omega)) (vp_in_nI (by omega) (by decide)) (fun x4018 => ?_)
          refine m_iload_n F rfl e_X7_readNameOnce_58 ?_
          refine m_ior F e_X7_readNameOnce_59 ?_
          refine Wm.top (fun x4019 _ => ?_)
          refine t_iast F (len := 4) (j := n4009) e_X7_readNameOnce_60 (fun _ => o4) h4006 k4015 (nI_clamp (by omega)) (vp_in_nI (by omega) (by decide)) (by decide) (fun σ4020 h4021 g4022 => ?_)
          refine m_iload_n F rfl e_X7_readNameOnce_61 ?_
          exact m_iret F hQ e_X7_readNameOnce_62 (⟨h4021, Or.inl ⟨n4009, by omega, rfl⟩⟩)
        · refine m_aload_n F rfl e_X7_readNameOnce_45 ?_
          refine m_iconst F (v := 3) (by decide) e_X7_readNameOnce_46 ?_
          refine m_iload_n F rfl e_X7_readNameOnce_47 ?_
          refine t_callV F e_X7_readNameOnce_48 (s_X7_failAt (x_l X) V b M Z T _ _ a 3 x3997 h4006.1 hk (by first | omega | assumption | decide) (by omega)) cb_X7_failAt ml_X7_197 im_X7_failAt se_X7_failAt (fun _ => o3) h4006 hk rfl rfl (rest := []) rfl (Nat.le_of_ble_eq_true rfl) ⟨Nat.le_of_ble_eq_true rfl, Nat.le_of_ble_eq_true rfl⟩ ⟨Nat.le_of_ble_eq_true rfl, Nat.le_of_ble_eq_true rfl⟩ (fun r σ4023 hp => ?_)
          obtain ⟨h4025, rfl⟩ := hp
          have h4024 := HK.trans h4006 h4025 (by decide)
          refine m_aload_n F rfl e_X7_readNameOnce_51 ?_
          refine t_get F e_X7_readNameOnce_52 fl_X7_9 (fun _ => o3) h4024 hk rfl (fun v hv f4026 => ?_)
          obtain ⟨r4027, k4028, rfl⟩ := hv
          refine m_iload_n F rfl e_X7_readNameOnce_55 ?_
          refine m_dup2_11 F rfl rfl e_X7_readNameOnce_56 ?_
          refine t_iald F (len := 4) (j := n4009) e_X7_readNameOnce_57 (fun _ => o4) h4024 k4028 (nI_clamp (by omega)) (vp_in_nI (by omega) (by decide)) (fun x4029 => ?_)
          refine m_iload_n F rfl e_X7_readNameOnce_58 ?_
          refine m_ior F e_X7_readNameOnce_59 ?_
          refine Wm.top (fun x4030 _ => ?_)
          refine t_iast F (len := 4) (j := n4009) e_X7_readNameOnce_60 (fun _ => o4) h4024 k4028 (nI_clamp (by omega)) (vp_in_nI (by omega) (by decide)) (by decide) (fun σ4031 h4032 g4033 => ?_)
          refine m_iload_n F rfl e_X7_readNameOnce_61 ?_
          exact m_iret F hQ e_X7_readNameOnce_62 (⟨(h4032.mono (M' := M) (Z' := Z) (by omega) (by intro e; first | rfl | assumption | omega)), Or.inl ⟨n4009, by omega, rfl⟩⟩)
      · have c23 : n4009 ≥ 4 := by have hh := mt (nI_ltI (a := n4009) (b := 4) (by omega) (by omega)).mpr q23; omega
        refine m_aload_n F rfl e_X7_readNameOnce_26 ?_
        refine m_iconst F (v := 4) (by decide) e_X7_readNameOnce_27 ?_
        refine m_iload_n F rfl e_X7_readNameOnce_28 ?_
        refine t_callV F e_X7_readNameOnce_29 (s_X7_failAt (x_l X) V b M Z T _ _ a 4 x3997 h4006.1 hk (by first | omega | assumption | decide) (by omega)) cb_X7_failAt ml_X7_197 im_X7_failAt se_X7_failAt (fun _ => o3) h4006 hk rfl rfl (rest := []) rfl (Nat.le_of_ble_eq_true rfl) ⟨Nat.le_of_ble_eq_true rfl, Nat.le_of_ble_eq_true rfl⟩ ⟨Nat.le_of_ble_eq_true rfl, Nat.le_of_ble_eq_true rfl⟩ (fun r σ4034 hp => ?_)
        obtain ⟨h4036, rfl⟩ := hp
        have h4035 := HK.trans h4006 h4036 (by decide)
        refine m_iconst F (v := (-1)) (by decide) e_X7_readNameOnce_32 ?_
        exact m_iret F hQ e_X7_readNameOnce_33 (⟨(h4035.mono (M' := M) (Z' := Z) (by omega) (by intro e; first | rfl | assumption | omega)), Or.inr ⟨h4035.1, rfl⟩⟩)
  · refine m_istore_n F (lv' := [(3, .int (-1)), (2, .int x3997), (0, .ref a), (1, .int x901)]) e_X7_readNameOnce_16 (by decide) rfl ?_
    refine m_iload_n F rfl e_X7_readNameOnce_17 ?_
    refine m_if_lt F e_X7_readNameOnce_18 (fun _ => ?_) (fun q => absurd (by decide) q)
    refine m_aload_n F rfl e_X7_readNameOnce_26 ?_
    refine m_iconst F (v := 4) (by decide) e_X7_readNameOnce_27 ?_
    refine m_iload_n F rfl e_X7_readNameOnce_28 ?_
    refine t_callV F e_X7_readNameOnce_29 (s_X7_failAt (x_l X) V b M Z T _ _ a 4 x3997 h4006.1 hk (by first | omega | assumption | decide) (by omega)) cb_X7_failAt ml_X7_197 im_X7_failAt se_X7_failAt (fun _ => o3) h4006 hk rfl rfl (rest := []) rfl (Nat.le_of_ble_eq_true rfl) ⟨Nat.le_of_ble_eq_true rfl, Nat.le_of_ble_eq_true rfl⟩ ⟨Nat.le_of_ble_eq_true rfl, Nat.le_of_ble_eq_true rfl⟩ (fun r σ4037 hp => ?_)
    obtain ⟨h4039, rfl⟩ := hp
    have h4038 := HK.trans h4006 h4039 (by decide)
    refine m_iconst F (v := (-1)) (by decide) e_X7_readNameOnce_32 ?_
    exact m_iret F hQ e_X7_readNameOnce_33 (⟨(h4038.mono (M' := M) (Z' := Z) (by omega) (by intro e; first | rfl | assumption | omega)), Or.inr ⟨h4038.1, rfl⟩⟩)
set_option maxRecDepth 20000 in
theorem s_X7_readLease (l : Launch) (V : VX) (b M Z T N : Nat) (σ : Mem) (a : Nat) (h0 : HT V (b, M, Z, T) σ) (hk : kA b a = 3) (hM : M + 0 ≤ 1000000000) : Ct l V yX7_readLease cX7_readLease 5 none 6 0 0 N σ [.ref a] (fun r τ => HK V (b, M, Z, T) [0, 1, 12, 19] σ τ ∧ r = none) := by
  refine Ct.of (by decide) (Nat.le_of_ble_eq_true rfl) [(0, .ref a)] rfl (fun X hX F hQ => ?_)
  have h1 : HK V (b, M, Z, T) [0, 1, 12, 19] σ σ := HK.start h0
  refine m_aload_n F rfl e_X7_readLease_0 ?_
  refine m_aload_n F rfl e_X7_readLease_1 ?_
  refine t_get F e_X7_readLease_2 fl_X7_23 (fun _ => o3) h1 hk rfl (fun v hv f4040 => ?_)
  obtain ⟨r4041, k4042, rfl⟩ := hv
  refine t_get F e_X7_readLease_5 fl_X7_119 (fun _ => o7) h1 k4042 rfl (fun v hv f4043 => ?_)
  obtain ⟨n4044, hn4044, rfl⟩ := hv
  replace hn4044 : n4044 ≤ 4 := hn4044
  refine m_iconst F (v := 4) (by decide) e_X7_readLease_8 ?_
  refine m_icmp_lt F e_X7_readLease_9 (fun q9 => ?_) (fun q9 => ?_)
  · have c9 : n4044 < 4 := (nI_ltI (a := n4044) (b := 4) (by omega) (by omega)).mp q9
    refine m_iconst F (v := 0) (by decide) e_X7_readLease_16 ?_
    refine t_callV F e_X7_readLease_17 (s_X7_startLine (x_l X) V b M Z T _ _ a 0 h1.1 hk  (by omega)) cb_X7_startLine ml_X7_124 im_X7_startLine se_X7_startLine (fun _ => o3) h1 hk rfl rfl (rest := []) rfl (Nat.le_of_ble_eq_true rfl) ⟨Nat.le_of_ble_eq_true rfl, Nat.le_of_ble_eq_true rfl⟩ ⟨Nat.le_of_ble_eq_true rfl, Nat.le_of_ble_eq_true rfl⟩ (fun r σ4045 hp => ?_)
    obtain ⟨h4047, rfl⟩ := hp
    have h4046 := HK.trans h1 h4047 (by decide)
    refine m_aload_n F rfl e_X7_readLease_20 ?_
    refine t_callV F e_X7_readLease_21 (s_X7_readNewName (x_l X) V b M Z T _ _ a  h4046.1 hk  (by omega)) cb_X7_readNewName ml_X7_127 im_X7_readNewName se_X7_readNewName (fun _ => o3) h4046 hk rfl rfl (rest := []) rfl (Nat.le_of_ble_eq_true rfl) ⟨Nat.le_of_ble_eq_true rfl, Nat.le_of_ble_eq_true rfl⟩ ⟨Nat.le_of_ble_eq_true rfl, Nat.le_of_ble_eq_true rfl⟩ (fun r σ4048 hp => ?_)
    obtain ⟨h4050, x4051, rfl⟩ := hp
    have h4049 := HK.trans h4046 h4050 (by decide)
    refine m_istore_n F (lv' := [(1, .int x4051), (0, .ref a)]) e_X7_readLease_24 (by decide) rfl ?_
    refine m_aload_n F rfl e_X7_readLease_25 ?_
    refine m_iconst F (v := 0) (by decide) e_X7_readLease_26 ?_
    refine m_bipush F (v := 20) (by decide) e_X7_readLease_27 ?_
    refine t_callV F e_X7_readLease_29 (s_X7_readNumber (x_l X) V b M Z T _ _ a 0 20 h4049.1 hk (by omega) (by omega) (by omega)) cb_X7_readNumber ml_X7_130 im_X7_readNumber se_X7_readNumber (fun _ => o3) h4049 hk rfl rfl (rest := []) rfl (Nat.le_of_ble_eq_true rfl) ⟨Nat.le_of_ble_eq_true rfl, Nat.le_of_ble_eq_true rfl⟩ ⟨Nat.le_of_ble_eq_true rfl, Nat.le_of_ble_eq_true rfl⟩ (fun r σ4052 hp => ?_)
    obtain ⟨h4054, n4055, hn4055, rfl⟩ := hp
    have h4053 := HK.trans h4049 h4054 (by decide)
    refine m_istore_n F (lv' := [(2, .int (nI n4055)), (1, .int x4051), (0, .ref a)]) e_X7_readLease_32 (by decide) rfl ?_
    refine m_aload_n F rfl e_X7_readLease_33 ?_
    refine m_iconst F (v := 1) (by decide) e_X7_readLease_34 ?_
    refine m_bipush F (v := 48) (by decide) e_X7_readLease_35 ?_
    refine t_callV F e_X7_readLease_37 (s_X7_readNumber (x_l X) V b M Z T _ _ a 1 48 h4053.1 hk (by omega) (by omega) (by omega)) cb_X7_readNumber ml_X7_130 im_X7_readNumber se_X7_readNumber (fun _ => o3) h4053 hk rfl rfl (rest := []) rfl (Nat.le_of_ble_eq_true rfl) ⟨Nat.le_of_ble_eq_true rfl, Nat.le_of_ble_eq_true rfl⟩ ⟨Nat.le_of_ble_eq_true rfl, Nat.le_of_ble_eq_true rfl⟩ (fun r σ4056 hp => ?_)
    obtain ⟨h4058, n4059, hn4059, rfl⟩ := hp
    have h4057 := HK.trans h4053 h4058 (by decide)
    refine m_istore_n F (lv' := [(3, .int (nI n4059)), (2, .int (nI n4055)), (1, .int x4051), (0, .ref a)]) e_X7_readLease_40 (by decide) rfl ?_
    refine m_aload_n F rfl e_X7_readLease_41 ?_
    refine m_iconst F (v := 0) (by decide) e_X7_readLease_42 ?_
    refine m_ldc F kc_X7_133 e_X7_readLease_43 ?_
    refine t_callV F e_X7_readLease_45 (s_X7_readNumber (x_l X) V b M Z T _ _ a 0 200000 h4057.1 hk (by omega) (by omega) (by omega)) cb_X7_readNumber ml_X7_130 im_X7_readNumber se_X7_readNumber (fun _ => o3) h4057 hk rfl rfl (rest := []) rfl (Nat.le_of_ble_eq_true rfl) ⟨Nat.le_of_ble_eq_true rfl, Nat.le_of_ble_eq_true rfl⟩ ⟨Nat.le_of_ble_eq_true rfl, Nat.le_of_ble_eq_true rfl⟩ (fun r σ4060 hp => ?_)
    obtain ⟨h4062, n4063, hn4063, rfl⟩ := hp
    have h4061 := HK.trans h4057 h4062 (by decide)
    refine m_istore F (lv' := [(4, .int (nI n4063)), (3, .int (nI n4059)), (2, .int (nI n4055)), (1, .int x4051), (0, .ref a)]) e_X7_readLease_48 (by decide) rfl ?_
    refine m_aload_n F rfl e_X7_readLease_50 ?_
    refine t_get F e_X7_readLease_51 fl_X7_55 (fun _ => o3) h4061 hk rfl (fun v hv f4064 => ?_)
    obtain ⟨x4065, hx4065, rfl⟩ := hv
    replace hx4065 : Z = 0 → x4065 ≠ 0 := hx4065
    refine m_if_ne F e_X7_readLease_54 (fun q54 => ?_) (fun q54 => ?_)
    · exact m_vret F hQ e_X7_readLease_69 (⟨h4061, rfl⟩)
    · refine m_aload_n F rfl e_X7_readLease_57 ?_
      refine t_get F e_X7_readLease_58 fl_X7_23 (fun _ => o3) h4061 hk rfl (fun v hv f4066 => ?_)
      obtain ⟨r4067, k4068, rfl⟩ := hv
      refine m_iload_n F rfl e_X7_readLease_61 ?_
      refine m_iload_n F rfl e_X7_readLease_62 ?_
      refine m_iload_n F rfl e_X7_readLease_63 ?_
      refine m_iload F rfl e_X7_readLease_64 ?_
      refine t_callV F e_X7_readLease_66 (s_X2_addLease (x_l X) V b M Z T _ _ r4067 x4051 (nI n4055) (nI n4059) (nI n4063) h4061.1 k4068  (by omega)) cb_X2_addLease ml_X7_134 im_X2_addLease se_X2_addLease (fun _ => o7) h4061 k4068 rfl rfl (rest := []) rfl (Nat.le_of_ble_eq_true rfl) ⟨Nat.le_of_ble_eq_true rfl, Nat.le_of_ble_eq_true rfl⟩ ⟨Nat.le_of_ble_eq_true rfl, Nat.le_of_ble_eq_true rfl⟩ (fun r σ4069 hp => ?_)
      obtain ⟨h4071, rfl⟩ := hp
      have h4070 := HK.trans h4061 h4071 (by decide)
      exact m_vret F hQ e_X7_readLease_69 (⟨h4070, rfl⟩)
  · have c9 : n4044 ≥ 4 := by have hh := mt (nI_ltI (a := n4044) (b := 4) (by omega) (by omega)).mpr q9; omega
    refine m_iconst F (v := 2) (by decide) e_X7_readLease_12 ?_
    refine m_goto F e_X7_readLease_13 ?_
    refine t_callV F e_X7_readLease_17 (s_X7_startLine (x_l X) V b M Z T _ _ a 2 h1.1 hk  (by omega)) cb_X7_startLine ml_X7_124 im_X7_startLine se_X7_startLine (fun _ => o3) h1 hk rfl rfl (rest := []) rfl (Nat.le_of_ble_eq_true rfl) ⟨Nat.le_of_ble_eq_true rfl, Nat.le_of_ble_eq_true rfl⟩ ⟨Nat.le_of_ble_eq_true rfl, Nat.le_of_ble_eq_true rfl⟩ (fun r σ4072 hp => ?_)
    obtain ⟨h4074, rfl⟩ := hp
    have h4073 := HK.trans h1 h4074 (by decide)
    refine m_aload_n F rfl e_X7_readLease_20 ?_
    refine t_callV F e_X7_readLease_21 (s_X7_readNewName (x_l X) V b M Z T _ _ a  h4073.1 hk  (by omega)) cb_X7_readNewName ml_X7_127 im_X7_readNewName se_X7_readNewName (fun _ => o3) h4073 hk rfl rfl (rest := []) rfl (Nat.le_of_ble_eq_true rfl) ⟨Nat.le_of_ble_eq_true rfl, Nat.le_of_ble_eq_true rfl⟩ ⟨Nat.le_of_ble_eq_true rfl, Nat.le_of_ble_eq_true rfl⟩ (fun r σ4075 hp => ?_)
    obtain ⟨h4077, x4078, rfl⟩ := hp
    have h4076 := HK.trans h4073 h4077 (by decide)
    refine m_istore_n F (lv' := [(1, .int x4078), (0, .ref a)]) e_X7_readLease_24 (by decide) rfl ?_
    refine m_aload_n F rfl e_X7_readLease_25 ?_
    refine m_iconst F (v := 0) (by decide) e_X7_readLease_26 ?_
    refine m_bipush F (v := 20) (by decide) e_X7_readLease_27 ?_
    refine t_callV F e_X7_readLease_29 (s_X7_readNumber (x_l X) V b M Z T _ _ a 0 20 h4076.1 hk (by omega) (by omega) (by omega)) cb_X7_readNumber ml_X7_130 im_X7_readNumber se_X7_readNumber (fun _ => o3) h4076 hk rfl rfl (rest := []) rfl (Nat.le_of_ble_eq_true rfl) ⟨Nat.le_of_ble_eq_true rfl, Nat.le_of_ble_eq_true rfl⟩ ⟨Nat.le_of_ble_eq_true rfl, Nat.le_of_ble_eq_true rfl⟩ (fun r σ4079 hp => ?_)
    obtain ⟨h4081, n4082, hn4082, rfl⟩ := hp
    have h4080 := HK.trans h4076 h4081 (by decide)
    refine m_istore_n F (lv' := [(2, .int (nI n4082)), (1, .int x4078), (0, .ref a)]) e_X7_readLease_32 (by decide) rfl ?_
    refine m_aload_n F rfl e_X7_readLease_33 ?_
    refine m_iconst F (v := 1) (by decide) e_X7_readLease_34 ?_
    refine m_bipush F (v := 48) (by decide) e_X7_readLease_35 ?_
    refine t_callV F e_X7_readLease_37 (s_X7_readNumber (x_l X) V b M Z T _ _ a 1 48 h4080.1 hk (by omega) (by omega) (by omega)) cb_X7_readNumber ml_X7_130 im_X7_readNumber se_X7_readNumber (fun _ => o3) h4080 hk rfl rfl (rest := []) rfl (Nat.le_of_ble_eq_true rfl) ⟨Nat.le_of_ble_eq_true rfl, Nat.le_of_ble_eq_true rfl⟩ ⟨Nat.le_of_ble_eq_true rfl, Nat.le_of_ble_eq_true rfl⟩ (fun r σ4083 hp => ?_)
    obtain ⟨h4085, n4086, hn4086, rfl⟩ := hp
    have h4084 := HK.trans h4080 h4085 (by decide)
    refine m_istore_n F (lv' := [(3, .int (nI n4086)), (2, .int (nI n4082)), (1, .int x4078), (0, .ref a)]) e_X7_readLease_40 (by decide) rfl ?_
    refine m_aload_n F rfl e_X7_readLease_41 ?_
    refine m_iconst F (v := 0) (by decide) e_X7_readLease_42 ?_
    refine m_ldc F kc_X7_133 e_X7_readLease_43 ?_
    refine t_callV F e_X7_readLease_45 (s_X7_readNumber (x_l X) V b M Z T _ _ a 0 200000 h4084.1 hk (by omega) (by omega) (by omega)) cb_X7_readNumber ml_X7_130 im_X7_readNumber se_X7_readNumber (fun _ => o3) h4084 hk rfl rfl (rest := []) rfl (Nat.le_of_ble_eq_true rfl) ⟨Nat.le_of_ble_eq_true rfl, Nat.le_of_ble_eq_true rfl⟩ ⟨Nat.le_of_ble_eq_true rfl, Nat.le_of_ble_eq_true rfl⟩ (fun r σ4087 hp => ?_)
    obtain ⟨h4089, n4090, hn4090, rfl⟩ := hp
    have h4088 := HK.trans h4084 h4089 (by decide)
    refine m_istore F (lv' := [(4, .int (nI n4090)), (3, .int (nI n4086)), (2, .int (nI n4082)), (1, .int x4078), (0, .ref a)]) e_X7_readLease_48 (by decide) rfl ?_
    refine m_aload_n F rfl e_X7_readLease_50 ?_
    refine t_get F e_X7_readLease_51 fl_X7_55 (fun _ => o3) h4088 hk rfl (fun v hv f4091 => ?_)
    obtain ⟨x4092, hx4092, rfl⟩ := hv
    replace hx4092 : Z = 0 → x4092 ≠ 0 := hx4092
    refine m_if_ne F e_X7_readLease_54 (fun q54 => ?_) (fun q54 => ?_)
    · exact m_vret F hQ e_X7_readLease_69 (⟨h4088, rfl⟩)
    · refine m_aload_n F rfl e_X7_readLease_57 ?_
      refine t_get F e_X7_readLease_58 fl_X7_23 (fun _ => o3) h4088 hk rfl (fun v hv f4093 => ?_)
      obtain ⟨r4094, k4095, rfl⟩ := hv
      refine m_iload_n F rfl e_X7_readLease_61 ?_
      refine m_iload_n F rfl e_X7_readLease_62 ?_
      refine m_iload_n F rfl e_X7_readLease_63 ?_
      refine m_iload F rfl e_X7_readLease_64 ?_
      refine t_callV F e_X7_readLease_66 (s_X2_addLease (x_l X) V b M Z T _ _ r4094 x4078 (nI n4082) (nI n4086) (nI n4090) h4088.1 k4095  (by omega)) cb_X2_addLease ml_X7_134 im_X2_addLease se_X2_addLease (fun _ => o7) h4088 k4095 rfl rfl (rest := []) rfl (Nat.le_of_ble_eq_true rfl) ⟨Nat.le_of_ble_eq_true rfl, Nat.le_of_ble_eq_true rfl⟩ ⟨Nat.le_of_ble_eq_true rfl, Nat.le_of_ble_eq_true rfl⟩ (fun r σ4096 hp => ?_)
      obtain ⟨h4098, rfl⟩ := hp
      have h4097 := HK.trans h4088 h4098 (by decide)
      exact m_vret F hQ e_X7_readLease_69 (⟨h4097, rfl⟩)
set_option maxRecDepth 20000 in
theorem s_X7_readIndex (l : Launch) (V : VX) (b M Z T N : Nat) (σ : Mem) (a : Nat) (h0 : HT V (b, M, Z, T) σ) (hk : kA b a = 3) (hM : M + 0 ≤ 1000000000) : Ct l V yX7_readIndex cX7_readIndex 3 none 4 0 0 N σ [.ref a] (fun r τ => HK V (b, M, Z, T) [0, 1, 12, 15, 19] σ τ ∧ r = none) := by
  refine Ct.of (by decide) (Nat.le_of_ble_eq_true rfl) [(0, .ref a)] rfl (fun X hX F hQ => ?_)
  have h1 : HK V (b, M, Z, T) [0, 1, 12, 15, 19] σ σ := HK.start h0
  refine m_aload_n F rfl e_X7_readIndex_0 ?_
  refine m_aload_n F rfl e_X7_readIndex_1 ?_
  refine t_get F e_X7_readIndex_2 fl_X7_23 (fun _ => o3) h1 hk rfl (fun v hv f4099 => ?_)
  obtain ⟨r4100, k4101, rfl⟩ := hv
  refine t_get F e_X7_readIndex_5 fl_X7_169 (fun _ => o7) h1 k4101 rfl (fun v hv f4102 => ?_)
  obtain ⟨n4103, hn4103, rfl⟩ := hv
  replace hn4103 : n4103 ≤ 8 := hn4103
  refine m_bipush F (v := 8) (by decide) e_X7_readIndex_8 ?_
  refine m_icmp_lt F e_X7_readIndex_10 (fun q10 => ?_) (fun q10 => ?_)
  · have c10 : n4103 < 8 := (nI_ltI (a := n4103) (b := 8) (by omega) (by omega)).mp q10
    refine m_iconst F (v := 0) (by decide) e_X7_readIndex_17 ?_
    refine t_callV F e_X7_readIndex_18 (s_X7_startLine (x_l X) V b M Z T _ _ a 0 h1.1 hk  (by omega)) cb_X7_startLine ml_X7_124 im_X7_startLine se_X7_startLine (fun _ => o3) h1 hk rfl rfl (rest := []) rfl (Nat.le_of_ble_eq_true rfl) ⟨Nat.le_of_ble_eq_true rfl, Nat.le_of_ble_eq_true rfl⟩ ⟨Nat.le_of_ble_eq_true rfl, Nat.le_of_ble_eq_true rfl⟩ (fun r σ4104 hp => ?_)
    obtain ⟨h4106, rfl⟩ := hp
    have h4105 := HK.trans h1 h4106 (by decide)
    refine m_aload_n F rfl e_X7_readIndex_21 ?_
    refine m_aload_n F rfl e_X7_readIndex_22 ?_
    refine t_get F e_X7_readIndex_23 fl_X7_23 (fun _ => o3) h4105 hk rfl (fun v hv f4107 => ?_)
    obtain ⟨r4108, k4109, rfl⟩ := hv
    refine t_callV F e_X7_readIndex_26 (s_X2_lastTold (x_l X) V b M Z T _ _ r4108  h4105.1 k4109  (by omega)) cb_X2_lastTold ml_X7_172 im_X2_lastTold se_X2_lastTold (fun _ => o7) h4105 k4109 rfl rfl (rest := [.ref a]) rfl (Nat.le_of_ble_eq_true rfl) ⟨Nat.le_of_ble_eq_true rfl, Nat.le_of_ble_eq_true rfl⟩ ⟨Nat.le_of_ble_eq_true rfl, Nat.le_of_ble_eq_true rfl⟩ (fun r σ4110 hp => ?_)
    obtain ⟨h4112, x4113, rfl⟩ := hp
    have h4111 := HK.trans h4105 h4112 (by decide)
    refine m_iconst F (v := 1) (by decide) e_X7_readIndex_29 ?_
    refine m_iadd F e_X7_readIndex_30 ?_
    refine Wm.top (fun x4114 _ => ?_)
    refine m_bipush F (v := 99) (by decide) e_X7_readIndex_31 ?_
    refine t_callV F e_X7_readIndex_33 (s_X7_readNumberW (x_l X) V b M Z T _ _ a x4114 99 h4111.1 hk (by omega) (by omega)) cb_X7_readNumber ml_X7_130 im_X7_readNumber se_X7_readNumber (fun _ => o3) h4111 hk rfl rfl (rest := []) rfl (Nat.le_of_ble_eq_true rfl) ⟨Nat.le_of_ble_eq_true rfl, Nat.le_of_ble_eq_true rfl⟩ ⟨Nat.le_of_ble_eq_true rfl, Nat.le_of_ble_eq_true rfl⟩ (fun r σ4115 hp => ?_)
    obtain ⟨h4117, x4118, rfl⟩ := hp
    have h4116 := HK.trans h4111 h4117 (by decide)
    refine m_istore_n F (lv' := [(1, .int x4118), (0, .ref a)]) e_X7_readIndex_36 (by decide) rfl ?_
    refine m_aload_n F rfl e_X7_readIndex_37 ?_
    refine m_sipush F (v := 500) (by decide) e_X7_readIndex_38 ?_
    refine m_sipush F (v := 2000) (by decide) e_X7_readIndex_41 ?_
    refine t_callV F e_X7_readIndex_44 (s_X7_readNumber (x_l X) V b M Z T _ _ a 500 2000 h4116.1 hk (by omega) (by omega) (by omega)) cb_X7_readNumber ml_X7_130 im_X7_readNumber se_X7_readNumber (fun _ => o3) h4116 hk rfl rfl (rest := []) rfl (Nat.le_of_ble_eq_true rfl) ⟨Nat.le_of_ble_eq_true rfl, Nat.le_of_ble_eq_true rfl⟩ ⟨Nat.le_of_ble_eq_true rfl, Nat.le_of_ble_eq_true rfl⟩ (fun r σ4119 hp => ?_)
    obtain ⟨h4121, n4122, hn4122, rfl⟩ := hp
    have h4120 := HK.trans h4116 h4121 (by decide)
    refine m_istore_n F (lv' := [(2, .int (nI n4122)), (1, .int x4118), (0, .ref a)]) e_X7_readIndex_47 (by decide) rfl ?_
    refine m_aload_n F rfl e_X7_readIndex_48 ?_
    refine t_get F e_X7_readIndex_49 fl_X7_55 (fun _ => o3) h4120 hk rfl (fun v hv f4123 => ?_)
    obtain ⟨x4124, hx4124, rfl⟩ := hv
    replace hx4124 : Z = 0 → x4124 ≠ 0 := hx4124
    refine m_if_ne F e_X7_readIndex_52 (fun q52 => ?_) (fun q52 => ?_)
    · exact m_vret F hQ e_X7_readIndex_64 (⟨h4120, rfl⟩)
    · refine m_aload_n F rfl e_X7_readIndex_55 ?_
      refine t_get F e_X7_readIndex_56 fl_X7_23 (fun _ => o3) h4120 hk rfl (fun v hv f4125 => ?_)
      obtain ⟨r4126, k4127, rfl⟩ := hv
      refine m_iload_n F rfl e_X7_readIndex_59 ?_
      refine m_iload_n F rfl e_X7_readIndex_60 ?_
      refine t_callV F e_X7_readIndex_61 (s_X2_addIndex (x_l X) V b M Z T _ _ r4126 x4118 (nI n4122) h4120.1 k4127  (by omega)) cb_X2_addIndex ml_X7_175 im_X2_addIndex se_X2_addIndex (fun _ => o7) h4120 k4127 rfl rfl (rest := []) rfl (Nat.le_of_ble_eq_true rfl) ⟨Nat.le_of_ble_eq_true rfl, Nat.le_of_ble_eq_true rfl⟩ ⟨Nat.le_of_ble_eq_true rfl, Nat.le_of_ble_eq_true rfl⟩ (fun r σ4128 hp => ?_)
      obtain ⟨h4130, rfl⟩ := hp
      have h4129 := HK.trans h4120 h4130 (by decide)
      exact m_vret F hQ e_X7_readIndex_64 (⟨h4129, rfl⟩)
  · have c10 : n4103 ≥ 8 := by have hh := mt (nI_ltI (a := n4103) (b := 8) (by omega) (by omega)).mpr q10; omega
    refine m_iconst F (v := 2) (by decide) e_X7_readIndex_13 ?_
    refine m_goto F e_X7_readIndex_14 ?_
    refine t_callV F e_X7_readIndex_18 (s_X7_startLine (x_l X) V b M Z T _ _ a 2 h1.1 hk  (by omega)) cb_X7_startLine ml_X7_124 im_X7_startLine se_X7_startLine (fun _ => o3) h1 hk rfl rfl (rest := []) rfl (Nat.le_of_ble_eq_true rfl) ⟨Nat.le_of_ble_eq_true rfl, Nat.le_of_ble_eq_true rfl⟩ ⟨Nat.le_of_ble_eq_true rfl, Nat.le_of_ble_eq_true rfl⟩ (fun r σ4131 hp => ?_)
    obtain ⟨h4133, rfl⟩ := hp
    have h4132 := HK.trans h1 h4133 (by decide)
    refine m_aload_n F rfl e_X7_readIndex_21 ?_
    refine m_aload_n F rfl e_X7_readIndex_22 ?_
    refine t_get F e_X7_readIndex_23 fl_X7_23 (fun _ => o3) h4132 hk rfl (fun v hv f4134 => ?_)
    obtain ⟨r4135, k4136, rfl⟩ := hv
    refine t_callV F e_X7_readIndex_26 (s_X2_lastTold (x_l X) V b M Z T _ _ r4135  h4132.1 k4136  (by omega)) cb_X2_lastTold ml_X7_172 im_X2_lastTold se_X2_lastTold (fun _ => o7) h4132 k4136 rfl rfl (rest := [.ref a]) rfl (Nat.le_of_ble_eq_true rfl) ⟨Nat.le_of_ble_eq_true rfl, Nat.le_of_ble_eq_true rfl⟩ ⟨Nat.le_of_ble_eq_true rfl, Nat.le_of_ble_eq_true rfl⟩ (fun r σ4137 hp => ?_)
    obtain ⟨h4139, x4140, rfl⟩ := hp
    have h4138 := HK.trans h4132 h4139 (by decide)
    refine m_iconst F (v := 1) (by decide) e_X7_readIndex_29 ?_
    refine m_iadd F e_X7_readIndex_30 ?_
    refine Wm.top (fun x4141 _ => ?_)
    refine m_bipush F (v := 99) (by decide) e_X7_readIndex_31 ?_
    refine t_callV F e_X7_readIndex_33 (s_X7_readNumberW (x_l X) V b M Z T _ _ a x4141 99 h4138.1 hk (by omega) (by omega)) cb_X7_readNumber ml_X7_130 im_X7_readNumber se_X7_readNumber (fun _ => o3) h4138 hk rfl rfl (rest := []) rfl (Nat.le_of_ble_eq_true rfl) ⟨Nat.le_of_ble_eq_true rfl, Nat.le_of_ble_eq_true rfl⟩ ⟨Nat.le_of_ble_eq_true rfl, Nat.le_of_ble_eq_true rfl⟩ (fun r σ4142 hp => ?_)
    obtain ⟨h4144, x4145, rfl⟩ := hp
    have h4143 := HK.trans h4138 h4144 (by decide)
    refine m_istore_n F (lv' := [(1, .int x4145), (0, .ref a)]) e_X7_readIndex_36 (by decide) rfl ?_
    refine m_aload_n F rfl e_X7_readIndex_37 ?_
    refine m_sipush F (v := 500) (by decide) e_X7_readIndex_38 ?_
    refine m_sipush F (v := 2000) (by decide) e_X7_readIndex_41 ?_
    refine t_callV F e_X7_readIndex_44 (s_X7_readNumber (x_l X) V b M Z T _ _ a 500 2000 h4143.1 hk (by omega) (by omega) (by omega)) cb_X7_readNumber ml_X7_130 im_X7_readNumber se_X7_readNumber (fun _ => o3) h4143 hk rfl rfl (rest := []) rfl (Nat.le_of_ble_eq_true rfl) ⟨Nat.le_of_ble_eq_true rfl, Nat.le_of_ble_eq_true rfl⟩ ⟨Nat.le_of_ble_eq_true rfl, Nat.le_of_ble_eq_true rfl⟩ (fun r σ4146 hp => ?_)
    obtain ⟨h4148, n4149, hn4149, rfl⟩ := hp
    have h4147 := HK.trans h4143 h4148 (by decide)
    refine m_istore_n F (lv' := [(2, .int (nI n4149)), (1, .int x4145), (0, .ref a)]) e_X7_readIndex_47 (by decide) rfl ?_
    refine m_aload_n F rfl e_X7_readIndex_48 ?_
    refine t_get F e_X7_readIndex_49 fl_X7_55 (fun _ => o3) h4147 hk rfl (fun v hv f4150 => ?_)
    obtain ⟨x4151, hx4151, rfl⟩ := hv
    replace hx4151 : Z = 0 → x4151 ≠ 0 := hx4151
    refine m_if_ne F e_X7_readIndex_52 (fun q52 => ?_) (fun q52 => ?_)
    · exact m_vret F hQ e_X7_readIndex_64 (⟨h4147, rfl⟩)
    · refine m_aload_n F rfl e_X7_readIndex_55 ?_
      refine t_get F e_X7_readIndex_56 fl_X7_23 (fun _ => o3) h4147 hk rfl (fun v hv f4152 => ?_)
      obtain ⟨r4153, k4154, rfl⟩ := hv
      refine m_iload_n F rfl e_X7_readIndex_59 ?_
      refine m_iload_n F rfl e_X7_readIndex_60 ?_
      refine t_callV F e_X7_readIndex_61 (s_X2_addIndex (x_l X) V b M Z T _ _ r4153 x4145 (nI n4149) h4147.1 k4154  (by omega)) cb_X2_addIndex ml_X7_175 im_X2_addIndex se_X2_addIndex (fun _ => o7) h4147 k4154 rfl rfl (rest := []) rfl (Nat.le_of_ble_eq_true rfl) ⟨Nat.le_of_ble_eq_true rfl, Nat.le_of_ble_eq_true rfl⟩ ⟨Nat.le_of_ble_eq_true rfl, Nat.le_of_ble_eq_true rfl⟩ (fun r σ4155 hp => ?_)
      obtain ⟨h4157, rfl⟩ := hp
      have h4156 := HK.trans h4147 h4157 (by decide)
      exact m_vret F hQ e_X7_readIndex_64 (⟨h4156, rfl⟩)
set_option maxRecDepth 20000 in
theorem s_X7_readSeed (l : Launch) (V : VX) (b M Z T N : Nat) (σ : Mem) (a : Nat) (h0 : HT V (b, M, Z, T) σ) (hk : kA b a = 3) (hM : M + 0 ≤ 1000000000) : Ct l V yX7_readSeed cX7_readSeed 2 none 3 0 0 N σ [.ref a] (fun r τ => HK V (b, M, Z, T) [0, 1, 12, 15, 19] σ τ ∧ r = none) := by
  refine Ct.of (by decide) (Nat.le_of_ble_eq_true rfl) [(0, .ref a)] rfl (fun X hX F hQ => ?_)
  have h1 : HK V (b, M, Z, T) [0, 1, 12, 15, 19] σ σ := HK.start h0
  refine m_aload_n F rfl e_X7_readSeed_0 ?_
  refine m_aload_n F rfl e_X7_readSeed_1 ?_
  refine t_get F e_X7_readSeed_2 fl_X7_48 (fun _ => o3) h1 hk rfl (fun v hv f4158 => ?_)
  obtain ⟨n4159, hn4159, rfl⟩ := hv
  replace hn4159 : n4159 ≤ 1 := hn4159
  refine m_if_eq F e_X7_readSeed_5 (fun q5 => ?_) (fun q5 => ?_)
  · have c5 : n4159 = 0 := (nI_eq (a := n4159) (b := 0) (by omega) (by omega)).mp q5
    refine m_iconst F (v := 0) (by decide) e_X7_readSeed_12 ?_
    refine t_callV F e_X7_readSeed_13 (s_X7_startLine (x_l X) V b M Z T _ _ a 0 h1.1 hk  (by omega)) cb_X7_startLine ml_X7_124 im_X7_startLine se_X7_startLine (fun _ => o3) h1 hk rfl rfl (rest := []) rfl (Nat.le_of_ble_eq_true rfl) ⟨Nat.le_of_ble_eq_true rfl, Nat.le_of_ble_eq_true rfl⟩ ⟨Nat.le_of_ble_eq_true rfl, Nat.le_of_ble_eq_true rfl⟩ (fun r σ4160 hp => ?_)
    obtain ⟨h4162, rfl⟩ := hp
    have h4161 := HK.trans h1 h4162 (by decide)
    refine m_aload_n F rfl e_X7_readSeed_16 ?_
    refine m_iconst F (v := 0) (by decide) e_X7_readSeed_17 ?_
    refine m_ldc F kc_X7_141 e_X7_readSeed_18 ?_
    refine t_callV F e_X7_readSeed_20 (s_X7_readNumber (x_l X) V b M Z T _ _ a 0 99999 h4161.1 hk (by omega) (by omega) (by omega)) cb_X7_readNumber ml_X7_130 im_X7_readNumber se_X7_readNumber (fun _ => o3) h4161 hk rfl rfl (rest := []) rfl (Nat.le_of_ble_eq_true rfl) ⟨Nat.le_of_ble_eq_true rfl, Nat.le_of_ble_eq_true rfl⟩ ⟨Nat.le_of_ble_eq_true rfl, Nat.le_of_ble_eq_true rfl⟩ (fun r σ4163 hp => ?_)
    obtain ⟨h4165, n4166, hn4166, rfl⟩ := hp
    have h4164 := HK.trans h4161 h4165 (by decide)
    refine m_istore_n F (lv' := [(1, .int (nI n4166)), (0, .ref a)]) e_X7_readSeed_23 (by decide) rfl ?_
    refine m_aload_n F rfl e_X7_readSeed_24 ?_
    refine t_get F e_X7_readSeed_25 fl_X7_55 (fun _ => o3) h4164 hk rfl (fun v hv f4167 => ?_)
    obtain ⟨x4168, hx4168, rfl⟩ := hv
    replace hx4168 : Z = 0 → x4168 ≠ 0 := hx4168
    refine m_if_ne F e_X7_readSeed_28 (fun q28 => ?_) (fun q28 => ?_)
    · exact m_vret F hQ e_X7_readSeed_44 (⟨h4164, rfl⟩)
    · refine m_aload_n F rfl e_X7_readSeed_31 ?_
      refine m_iconst F (v := 1) (by decide) e_X7_readSeed_32 ?_
      refine t_put F e_X7_readSeed_33 fp_X7_48 (fun _ => o3) h4164 hk rfl ⟨1, (show 1 ≤ 1 by omega), rfl⟩ (by decide) rfl (by decide) (fun σ4169 h4170 g4171 g4172 f4173 => ?_)
      refine m_aload_n F rfl e_X7_readSeed_36 ?_
      refine t_get F e_X7_readSeed_37 fl_X7_23 (fun _ => o3) h4170 hk rfl (fun v hv f4174 => ?_)
      obtain ⟨r4175, k4176, rfl⟩ := hv
      refine m_iload_n F rfl e_X7_readSeed_40 ?_
      refine t_put F e_X7_readSeed_41 fp_X7_185 (fun _ => o7) h4170 k4176 rfl ⟨_, rfl⟩ rfl rfl (by decide) (fun σ4177 h4178 g4179 g4180 f4181 => ?_)
      exact m_vret F hQ e_X7_readSeed_44 (⟨h4178, rfl⟩)
  · have c5 : n4159 ≠ 0 := by have hh := mt (nI_eq (a := n4159) (b := 0) (by omega) (by omega)).mpr q5; omega
    refine m_iconst F (v := 3) (by decide) e_X7_readSeed_8 ?_
    refine m_goto F e_X7_readSeed_9 ?_
    refine t_callV F e_X7_readSeed_13 (s_X7_startLine (x_l X) V b M Z T _ _ a 3 h1.1 hk  (by omega)) cb_X7_startLine ml_X7_124 im_X7_startLine se_X7_startLine (fun _ => o3) h1 hk rfl rfl (rest := []) rfl (Nat.le_of_ble_eq_true rfl) ⟨Nat.le_of_ble_eq_true rfl, Nat.le_of_ble_eq_true rfl⟩ ⟨Nat.le_of_ble_eq_true rfl, Nat.le_of_ble_eq_true rfl⟩ (fun r σ4182 hp => ?_)
    obtain ⟨h4184, rfl⟩ := hp
    have h4183 := HK.trans h1 h4184 (by decide)
    refine m_aload_n F rfl e_X7_readSeed_16 ?_
    refine m_iconst F (v := 0) (by decide) e_X7_readSeed_17 ?_
    refine m_ldc F kc_X7_141 e_X7_readSeed_18 ?_
    refine t_callV F e_X7_readSeed_20 (s_X7_readNumber (x_l X) V b M Z T _ _ a 0 99999 h4183.1 hk (by omega) (by omega) (by omega)) cb_X7_readNumber ml_X7_130 im_X7_readNumber se_X7_readNumber (fun _ => o3) h4183 hk rfl rfl (rest := []) rfl (Nat.le_of_ble_eq_true rfl) ⟨Nat.le_of_ble_eq_true rfl, Nat.le_of_ble_eq_true rfl⟩ ⟨Nat.le_of_ble_eq_true rfl, Nat.le_of_ble_eq_true rfl⟩ (fun r σ4185 hp => ?_)
    obtain ⟨h4187, n4188, hn4188, rfl⟩ := hp
    have h4186 := HK.trans h4183 h4187 (by decide)
    refine m_istore_n F (lv' := [(1, .int (nI n4188)), (0, .ref a)]) e_X7_readSeed_23 (by decide) rfl ?_
    refine m_aload_n F rfl e_X7_readSeed_24 ?_
    refine t_get F e_X7_readSeed_25 fl_X7_55 (fun _ => o3) h4186 hk rfl (fun v hv f4189 => ?_)
    obtain ⟨x4190, hx4190, rfl⟩ := hv
    replace hx4190 : Z = 0 → x4190 ≠ 0 := hx4190
    refine m_if_ne F e_X7_readSeed_28 (fun q28 => ?_) (fun q28 => ?_)
    · exact m_vret F hQ e_X7_readSeed_44 (⟨h4186, rfl⟩)
    · refine m_aload_n F rfl e_X7_readSeed_31 ?_
      refine m_iconst F (v := 1) (by decide) e_X7_readSeed_32 ?_
      refine t_put F e_X7_readSeed_33 fp_X7_48 (fun _ => o3) h4186 hk rfl ⟨1, (show 1 ≤ 1 by omega), rfl⟩ (by decide) rfl (by decide) (fun σ4191 h4192 g4193 g4194 f4195 => ?_)
      refine m_aload_n F rfl e_X7_readSeed_36 ?_
      refine t_get F e_X7_readSeed_37 fl_X7_23 (fun _ => o3) h4192 hk rfl (fun v hv f4196 => ?_)
      obtain ⟨r4197, k4198, rfl⟩ := hv
      refine m_iload_n F rfl e_X7_readSeed_40 ?_
      refine t_put F e_X7_readSeed_41 fp_X7_185 (fun _ => o7) h4192 k4198 rfl ⟨_, rfl⟩ rfl rfl (by decide) (fun σ4199 h4200 g4201 g4202 f4203 => ?_)
      exact m_vret F hQ e_X7_readSeed_44 (⟨h4200, rfl⟩)
set_option maxRecDepth 20000 in
theorem s_X7_readPay (l : Launch) (V : VX) (b M Z T N : Nat) (σ : Mem) (a : Nat) (h0 : HT V (b, M, Z, T) σ) (hk : kA b a = 3) (hM : M + 0 ≤ 1000000000) : Ct l V yX7_readPay cX7_readPay 5 none 4 0 0 N σ [.ref a] (fun r τ => HK V (b, M, Z, T) [0, 1, 7, 12, 15, 19] σ τ ∧ r = none) := by
  refine Ct.of (by decide) (Nat.le_of_ble_eq_true rfl) [(0, .ref a)] rfl (fun X hX F hQ => ?_)
  have h1 : HK V (b, M, Z, T) [0, 1, 7, 12, 15, 19] σ σ := HK.start h0
  refine m_aload_n F rfl e_X7_readPay_0 ?_
  refine m_aload_n F rfl e_X7_readPay_1 ?_
  refine t_get F e_X7_readPay_2 fl_X7_45 (fun _ => o3) h1 hk rfl (fun v hv f4204 => ?_)
  obtain ⟨x4205, rfl⟩ := hv
  refine m_bipush F (v := 12) (by decide) e_X7_readPay_5 ?_
  refine m_icmp_lt F e_X7_readPay_7 (fun q7 => ?_) (fun q7 => ?_)
  · refine m_iconst F (v := 0) (by decide) e_X7_readPay_14 ?_
    refine t_callV F e_X7_readPay_15 (s_X7_startLine (x_l X) V b M Z T _ _ a 0 h1.1 hk  (by omega)) cb_X7_startLine ml_X7_124 im_X7_startLine se_X7_startLine (fun _ => o3) h1 hk rfl rfl (rest := []) rfl (Nat.le_of_ble_eq_true rfl) ⟨Nat.le_of_ble_eq_true rfl, Nat.le_of_ble_eq_true rfl⟩ ⟨Nat.le_of_ble_eq_true rfl, Nat.le_of_ble_eq_true rfl⟩ (fun r σ4206 hp => ?_)
    obtain ⟨h4208, rfl⟩ := hp
    have h4207 := HK.trans h1 h4208 (by decide)
    refine m_aload_n F rfl e_X7_readPay_18 ?_
    refine t_callV F e_X7_readPay_19 (s_X7_readToldName (x_l X) V b M Z T _ _ a  h4207.1 hk  (by omega)) cb_X7_readToldName ml_X7_138 im_X7_readToldName se_X7_readToldName (fun _ => o3) h4207 hk rfl rfl (rest := []) rfl (Nat.le_of_ble_eq_true rfl) ⟨Nat.le_of_ble_eq_true rfl, Nat.le_of_ble_eq_true rfl⟩ ⟨Nat.le_of_ble_eq_true rfl, Nat.le_of_ble_eq_true rfl⟩ (fun r σ4209 hp => ?_)
    obtain ⟨h4211, c4212⟩ := hp
    have h4210 := HK.trans h4207 h4211 (by decide)
    rcases c4212 with ⟨n4213, hn4213, rfl⟩ | ⟨h4214, rfl⟩
    · refine m_istore_n F (lv' := [(1, .int (nI n4213)), (0, .ref a)]) e_X7_readPay_22 (by decide) rfl ?_
      refine m_aload_n F rfl e_X7_readPay_23 ?_
      refine m_iconst F (v := 1) (by decide) e_X7_readPay_24 ?_
      refine m_bipush F (v := 48) (by decide) e_X7_readPay_25 ?_
      refine t_callV F e_X7_readPay_27 (s_X7_readNumber (x_l X) V b M Z T _ _ a 1 48 h4210.1 hk (by omega) (by omega) (by omega)) cb_X7_readNumber ml_X7_130 im_X7_readNumber se_X7_readNumber (fun _ => o3) h4210 hk rfl rfl (rest := []) rfl (Nat.le_of_ble_eq_true rfl) ⟨Nat.le_of_ble_eq_true rfl, Nat.le_of_ble_eq_true rfl⟩ ⟨Nat.le_of_ble_eq_true rfl, Nat.le_of_ble_eq_true rfl⟩ (fun r σ4215 hp => ?_)
      obtain ⟨h4217, n4218, hn4218, rfl⟩ := hp
      have h4216 := HK.trans h4210 h4217 (by decide)
      refine m_istore_n F (lv' := [(2, .int (nI n4218)), (1, .int (nI n4213)), (0, .ref a)]) e_X7_readPay_30 (by decide) rfl ?_
      refine m_aload_n F rfl e_X7_readPay_31 ?_
      refine m_iload_n F rfl e_X7_readPay_32 ?_
      refine m_bipush F (v := 48) (by decide) e_X7_readPay_33 ?_
      refine t_callV F e_X7_readPay_35 (s_X7_readNumber (x_l X) V b M Z T _ _ a n4218 48 h4216.1 hk (by omega) (by omega) (by omega)) cb_X7_readNumber ml_X7_130 im_X7_readNumber se_X7_readNumber (fun _ => o3) h4216 hk rfl rfl (rest := []) rfl (Nat.le_of_ble_eq_true rfl) ⟨Nat.le_of_ble_eq_true rfl, Nat.le_of_ble_eq_true rfl⟩ ⟨Nat.le_of_ble_eq_true rfl, Nat.le_of_ble_eq_true rfl⟩ (fun r σ4219 hp => ?_)
      obtain ⟨h4221, n4222, hn4222, rfl⟩ := hp
      have h4220 := HK.trans h4216 h4221 (by decide)
      refine m_istore_n F (lv' := [(3, .int (nI n4222)), (2, .int (nI n4218)), (1, .int (nI n4213)), (0, .ref a)]) e_X7_readPay_38 (by decide) rfl ?_
      refine m_aload_n F rfl e_X7_readPay_39 ?_
      refine m_iconst F (v := 0) (by decide) e_X7_readPay_40 ?_
      refine m_ldc F kc_X7_141 e_X7_readPay_41 ?_
      refine t_callV F e_X7_readPay_43 (s_X7_readNumber (x_l X) V b M Z T _ _ a 0 99999 h4220.1 hk (by omega) (by omega) (by omega)) cb_X7_readNumber ml_X7_130 im_X7_readNumber se_X7_readNumber (fun _ => o3) h4220 hk rfl rfl (rest := []) rfl (Nat.le_of_ble_eq_true rfl) ⟨Nat.le_of_ble_eq_true rfl, Nat.le_of_ble_eq_true rfl⟩ ⟨Nat.le_of_ble_eq_true rfl, Nat.le_of_ble_eq_true rfl⟩ (fun r σ4223 hp => ?_)
      obtain ⟨h4225, n4226, hn4226, rfl⟩ := hp
      have h4224 := HK.trans h4220 h4225 (by decide)
      refine m_istore F (lv' := [(4, .int (nI n4226)), (3, .int (nI n4222)), (2, .int (nI n4218)), (1, .int (nI n4213)), (0, .ref a)]) e_X7_readPay_46 (by decide) rfl ?_
      refine m_aload_n F rfl e_X7_readPay_48 ?_
      refine t_get F e_X7_readPay_49 fl_X7_55 (fun _ => o3) h4224 hk rfl (fun v hv f4227 => ?_)
      obtain ⟨x4228, hx4228, rfl⟩ := hv
      replace hx4228 : Z = 0 → x4228 ≠ 0 := hx4228
      refine m_if_ne F e_X7_readPay_52 (fun q52 => ?_) (fun q52 => ?_)
      · exact m_vret F hQ e_X7_readPay_85 (⟨h4224, rfl⟩)
      · refine m_aload_n F rfl e_X7_readPay_55 ?_
        refine m_dup F rfl e_X7_readPay_56 ?_
        refine t_get F e_X7_readPay_57 fl_X7_45 (fun _ => o3) h4224 hk rfl (fun v hv f4229 => ?_)
        obtain ⟨x4230, rfl⟩ := hv
        refine m_iconst F (v := 1) (by decide) e_X7_readPay_60 ?_
        refine m_iadd F e_X7_readPay_61 ?_
        refine Wm.top (fun x4231 _ => ?_)
        refine t_put F e_X7_readPay_62 fp_X7_45 (fun _ => o3) h4224 hk rfl ⟨_, rfl⟩ rfl rfl (by decide) (fun σ4232 h4233 g4234 g4235 f4236 => ?_)
        refine m_aload_n F rfl e_X7_readPay_65 ?_
        refine t_get F e_X7_readPay_66 fl_X7_23 (fun _ => o3) h4233 hk rfl (fun v hv f4237 => ?_)
        obtain ⟨r4238, k4239, rfl⟩ := hv
        refine t_get F e_X7_readPay_69 fl_X7_142 (fun _ => o7) h4233 k4239 rfl (fun v hv f4240 => ?_)
        obtain ⟨r4241, k4242, rfl⟩ := hv
        refine m_iload_n F rfl e_X7_readPay_72 ?_
        refine t_aald F (len := 4) (j := n4213) e_X7_readPay_73 (fun _ => o8) rfl h4233 k4242 (nI_clamp (by omega)) (vp_in_nI (by omega) (by decide)) (fun r4243 k4244 => ?_)
        refine m_iload_n F rfl e_X7_readPay_74 ?_
        refine m_iconst F (v := 1) (by decide) e_X7_readPay_75 ?_
        refine m_isub F e_X7_readPay_76 ?_
        rcases Nat.eq_zero_or_pos (n4218) with e76 | e76
        · rw [e76]
          refine Wm.topE (w := -1) (by decide) ?_
          refine m_iload_n F rfl e_X7_readPay_77 ?_
          refine m_iconst F (v := 1) (by decide) e_X7_readPay_78 ?_
          refine m_isub F e_X7_readPay_79 ?_
          rcases Nat.eq_zero_or_pos (n4222) with e79 | e79
          · rw [e79]
            refine Wm.topE (w := -1) (by decide) ?_
            refine m_iload F rfl e_X7_readPay_80 ?_
            refine t_callV F e_X7_readPay_82 (s_X5_payMore (x_l X) V b M Z T _ _ r4243 (-1) (-1) (nI n4226) h4233.1 k4244 (by first | omega | assumption | decide | (rw [nI_ti (by omega)]; omega)) (by omega)) cb_X5_payMore ml_X7_146 im_X5_payMore se_X5_payMore (fun _ => o15) h4233 k4244 rfl rfl (rest := []) rfl (Nat.le_of_ble_eq_true rfl) ⟨Nat.le_of_ble_eq_true rfl, Nat.le_of_ble_eq_true rfl⟩ ⟨Nat.le_of_ble_eq_true rfl, Nat.le_of_ble_eq_true rfl⟩ (fun r σ4245 hp => ?_)
            obtain ⟨h4247, rfl⟩ := hp
            have h4246 := HK.trans h4233 h4247 (by decide)
            exact m_vret F hQ e_X7_readPay_85 (⟨h4246, rfl⟩)
          · refine Wm.topE (w := nI (n4222 - 1)) (pk_sub (a := n4222) (b := 1) (by omega)) ?_
            refine m_iload F rfl e_X7_readPay_80 ?_
            refine t_callV F e_X7_readPay_82 (s_X5_payMore (x_l X) V b M Z T _ _ r4243 (-1) (nI (n4222 - 1)) (nI n4226) h4233.1 k4244 (by first | omega | assumption | decide | (rw [nI_ti (by omega)]; omega)) (by omega)) cb_X5_payMore ml_X7_146 im_X5_payMore se_X5_payMore (fun _ => o15) h4233 k4244 rfl rfl (rest := []) rfl (Nat.le_of_ble_eq_true rfl) ⟨Nat.le_of_ble_eq_true rfl, Nat.le_of_ble_eq_true rfl⟩ ⟨Nat.le_of_ble_eq_true rfl, Nat.le_of_ble_eq_true rfl⟩ (fun r σ4248 hp => ?_)
            obtain ⟨h4250, rfl⟩ := hp
            have h4249 := HK.trans h4233 h4250 (by decide)
            exact m_vret F hQ e_X7_readPay_85 (⟨h4249, rfl⟩)
        · refine Wm.topE (w := nI (n4218 - 1)) (pk_sub (a := n4218) (b := 1) (by omega)) ?_
          refine m_iload_n F rfl e_X7_readPay_77 ?_
          refine m_iconst F (v := 1) (by decide) e_X7_readPay_78 ?_
          refine m_isub F e_X7_readPay_79 ?_
          rcases Nat.eq_zero_or_pos (n4222) with e79 | e79
          · rw [e79]
            refine Wm.topE (w := -1) (by decide) ?_
            refine m_iload F rfl e_X7_readPay_80 ?_
            refine t_callV F e_X7_readPay_82 (s_X5_payMore (x_l X) V b M Z T _ _ r4243 (nI (n4218 - 1)) (-1) (nI n4226) h4233.1 k4244 (by first | omega | assumption | decide | (rw [nI_ti (by omega)]; omega)) (by omega)) cb_X5_payMore ml_X7_146 im_X5_payMore se_X5_payMore (fun _ => o15) h4233 k4244 rfl rfl (rest := []) rfl (Nat.le_of_ble_eq_true rfl) ⟨Nat.le_of_ble_eq_true rfl, Nat.le_of_ble_eq_true rfl⟩ ⟨Nat.le_of_ble_eq_true rfl, Nat.le_of_ble_eq_true rfl⟩ (fun r σ4251 hp => ?_)
            obtain ⟨h4253, rfl⟩ := hp
            have h4252 := HK.trans h4233 h4253 (by decide)
            exact m_vret F hQ e_X7_readPay_85 (⟨h4252, rfl⟩)
          · refine Wm.topE (w := nI (n4222 - 1)) (pk_sub (a := n4222) (b := 1) (by omega)) ?_
            refine m_iload F rfl e_X7_readPay_80 ?_
            refine t_callV F e_X7_readPay_82 (s_X5_payMore (x_l X) V b M Z T _ _ r4243 (nI (n4218 - 1)) (nI (n4222 - 1)) (nI n4226) h4233.1 k4244 (by first | omega | assumption | decide | (rw [nI_ti (by omega)]; omega)) (by omega)) cb_X5_payMore ml_X7_146 im_X5_payMore se_X5_payMore (fun _ => o15) h4233 k4244 rfl rfl (rest := []) rfl (Nat.le_of_ble_eq_true rfl) ⟨Nat.le_of_ble_eq_true rfl, Nat.le_of_ble_eq_true rfl⟩ ⟨Nat.le_of_ble_eq_true rfl, Nat.le_of_ble_eq_true rfl⟩ (fun r σ4254 hp => ?_)
            obtain ⟨h4256, rfl⟩ := hp
            have h4255 := HK.trans h4233 h4256 (by decide)
            exact m_vret F hQ e_X7_readPay_85 (⟨h4255, rfl⟩)
    · have h4257 : HK V (b, M, 0, T) [0, 1, 7, 12, 15, 19] _ _ := ⟨h4214, h4210.2⟩
      refine m_istore_n F (lv' := [(1, .int (-1)), (0, .ref a)]) e_X7_readPay_22 (by decide) rfl ?_
      refine m_aload_n F rfl e_X7_readPay_23 ?_
      refine m_iconst F (v := 1) (by decide) e_X7_readPay_24 ?_
      refine m_bipush F (v := 48) (by decide) e_X7_readPay_25 ?_
      refine t_callV F e_X7_readPay_27 (s_X7_readNumber (x_l X) V b M 0 T _ _ a 1 48 h4257.1 hk (by omega) (by omega) (by omega)) cb_X7_readNumber ml_X7_130 im_X7_readNumber se_X7_readNumber (fun _ => o3) h4257 hk rfl rfl (rest := []) rfl (Nat.le_of_ble_eq_true rfl) ⟨Nat.le_of_ble_eq_true rfl, Nat.le_of_ble_eq_true rfl⟩ ⟨Nat.le_of_ble_eq_true rfl, Nat.le_of_ble_eq_true rfl⟩ (fun r σ4258 hp => ?_)
      obtain ⟨h4260, n4261, hn4261, rfl⟩ := hp
      have h4259 := HK.trans h4257 h4260 (by decide)
      refine m_istore_n F (lv' := [(2, .int (nI n4261)), (1, .int (-1)), (0, .ref a)]) e_X7_readPay_30 (by decide) rfl ?_
      refine m_aload_n F rfl e_X7_readPay_31 ?_
      refine m_iload_n F rfl e_X7_readPay_32 ?_
      refine m_bipush F (v := 48) (by decide) e_X7_readPay_33 ?_
      refine t_callV F e_X7_readPay_35 (s_X7_readNumber (x_l X) V b M 0 T _ _ a n4261 48 h4259.1 hk (by omega) (by omega) (by omega)) cb_X7_readNumber ml_X7_130 im_X7_readNumber se_X7_readNumber (fun _ => o3) h4259 hk rfl rfl (rest := []) rfl (Nat.le_of_ble_eq_true rfl) ⟨Nat.le_of_ble_eq_true rfl, Nat.le_of_ble_eq_true rfl⟩ ⟨Nat.le_of_ble_eq_true rfl, Nat.le_of_ble_eq_true rfl⟩ (fun r σ4262 hp => ?_)
      obtain ⟨h4264, n4265, hn4265, rfl⟩ := hp
      have h4263 := HK.trans h4259 h4264 (by decide)
      refine m_istore_n F (lv' := [(3, .int (nI n4265)), (2, .int (nI n4261)), (1, .int (-1)), (0, .ref a)]) e_X7_readPay_38 (by decide) rfl ?_
      refine m_aload_n F rfl e_X7_readPay_39 ?_
      refine m_iconst F (v := 0) (by decide) e_X7_readPay_40 ?_
      refine m_ldc F kc_X7_141 e_X7_readPay_41 ?_
      refine t_callV F e_X7_readPay_43 (s_X7_readNumber (x_l X) V b M 0 T _ _ a 0 99999 h4263.1 hk (by omega) (by omega) (by omega)) cb_X7_readNumber ml_X7_130 im_X7_readNumber se_X7_readNumber (fun _ => o3) h4263 hk rfl rfl (rest := []) rfl (Nat.le_of_ble_eq_true rfl) ⟨Nat.le_of_ble_eq_true rfl, Nat.le_of_ble_eq_true rfl⟩ ⟨Nat.le_of_ble_eq_true rfl, Nat.le_of_ble_eq_true rfl⟩ (fun r σ4266 hp => ?_)
      obtain ⟨h4268, n4269, hn4269, rfl⟩ := hp
      have h4267 := HK.trans h4263 h4268 (by decide)
      refine m_istore F (lv' := [(4, .int (nI n4269)), (3, .int (nI n4265)), (2, .int (nI n4261)), (1, .int (-1)), (0, .ref a)]) e_X7_readPay_46 (by decide) rfl ?_
      refine m_aload_n F rfl e_X7_readPay_48 ?_
      refine t_get F e_X7_readPay_49 fl_X7_55 (fun _ => o3) h4267 hk rfl (fun v hv f4270 => ?_)
      obtain ⟨x4271, hx4271, rfl⟩ := hv
      replace hx4271 : 0 = 0 → x4271 ≠ 0 := hx4271
      refine m_if_ne F e_X7_readPay_52 (fun q52 => ?_) (fun q52 => ?_)
      · exact m_vret F hQ e_X7_readPay_85 (⟨(h4267.mono (M' := M) (Z' := Z) (by omega) (by intro e; first | rfl | assumption | omega)), rfl⟩)
      · exact absurd q52 (hx4271 rfl)
  · obtain ⟨n4272, hn4272, rfl⟩ := nI_nn (x := x4205) (fun e => q7 (Int32.lt_of_lt_of_le e (by decide)))
    have c7 : n4272 ≥ 12 := by have hh := mt (nI_ltI (a := n4272) (b := 12) (by omega) (by omega)).mpr q7; omega
    refine m_iconst F (v := 2) (by decide) e_X7_readPay_10 ?_
    refine m_goto F e_X7_readPay_11 ?_
    refine t_callV F e_X7_readPay_15 (s_X7_startLine (x_l X) V b M Z T _ _ a 2 h1.1 hk  (by omega)) cb_X7_startLine ml_X7_124 im_X7_startLine se_X7_startLine (fun _ => o3) h1 hk rfl rfl (rest := []) rfl (Nat.le_of_ble_eq_true rfl) ⟨Nat.le_of_ble_eq_true rfl, Nat.le_of_ble_eq_true rfl⟩ ⟨Nat.le_of_ble_eq_true rfl, Nat.le_of_ble_eq_true rfl⟩ (fun r σ4273 hp => ?_)
    obtain ⟨h4275, rfl⟩ := hp
    have h4274 := HK.trans h1 h4275 (by decide)
    refine m_aload_n F rfl e_X7_readPay_18 ?_
    refine t_callV F e_X7_readPay_19 (s_X7_readToldName (x_l X) V b M Z T _ _ a  h4274.1 hk  (by omega)) cb_X7_readToldName ml_X7_138 im_X7_readToldName se_X7_readToldName (fun _ => o3) h4274 hk rfl rfl (rest := []) rfl (Nat.le_of_ble_eq_true rfl) ⟨Nat.le_of_ble_eq_true rfl, Nat.le_of_ble_eq_true rfl⟩ ⟨Nat.le_of_ble_eq_true rfl, Nat.le_of_ble_eq_true rfl⟩ (fun r σ4276 hp => ?_)
    obtain ⟨h4278, c4279⟩ := hp
    have h4277 := HK.trans h4274 h4278 (by decide)
    rcases c4279 with ⟨n4280, hn4280, rfl⟩ | ⟨h4281, rfl⟩
    · refine m_istore_n F (lv' := [(1, .int (nI n4280)), (0, .ref a)]) e_X7_readPay_22 (by decide) rfl ?_
      refine m_aload_n F rfl e_X7_readPay_23 ?_
      refine m_iconst F (v := 1) (by decide) e_X7_readPay_24 ?_
      refine m_bipush F (v := 48) (by decide) e_X7_readPay_25 ?_
      refine t_callV F e_X7_readPay_27 (s_X7_readNumber (x_l X) V b M Z T _ _ a 1 48 h4277.1 hk (by omega) (by omega) (by omega)) cb_X7_readNumber ml_X7_130 im_X7_readNumber se_X7_readNumber (fun _ => o3) h4277 hk rfl rfl (rest := []) rfl (Nat.le_of_ble_eq_true rfl) ⟨Nat.le_of_ble_eq_true rfl, Nat.le_of_ble_eq_true rfl⟩ ⟨Nat.le_of_ble_eq_true rfl, Nat.le_of_ble_eq_true rfl⟩ (fun r σ4282 hp => ?_)
      obtain ⟨h4284, n4285, hn4285, rfl⟩ := hp
      have h4283 := HK.trans h4277 h4284 (by decide)
      refine m_istore_n F (lv' := [(2, .int (nI n4285)), (1, .int (nI n4280)), (0, .ref a)]) e_X7_readPay_30 (by decide) rfl ?_
      refine m_aload_n F rfl e_X7_readPay_31 ?_
      refine m_iload_n F rfl e_X7_readPay_32 ?_
      refine m_bipush F (v := 48) (by decide) e_X7_readPay_33 ?_
      refine t_callV F e_X7_readPay_35 (s_X7_readNumber (x_l X) V b M Z T _ _ a n4285 48 h4283.1 hk (by omega) (by omega) (by omega)) cb_X7_readNumber ml_X7_130 im_X7_readNumber se_X7_readNumber (fun _ => o3) h4283 hk rfl rfl (rest := []) rfl (Nat.le_of_ble_eq_true rfl) ⟨Nat.le_of_ble_eq_true rfl, Nat.le_of_ble_eq_true rfl⟩ ⟨Nat.le_of_ble_eq_true rfl, Nat.le_of_ble_eq_true rfl⟩ (fun r σ4286 hp => ?_)
      obtain ⟨h4288, n4289, hn4289, rfl⟩ := hp
      have h4287 := HK.trans h4283 h4288 (by decide)
      refine m_istore_n F (lv' := [(3, .int (nI n4289)), (2, .int (nI n4285)), (1, .int (nI n4280)), (0, .ref a)]) e_X7_readPay_38 (by decide) rfl ?_
      refine m_aload_n F rfl e_X7_readPay_39 ?_
      refine m_iconst F (v := 0) (by decide) e_X7_readPay_40 ?_
      refine m_ldc F kc_X7_141 e_X7_readPay_41 ?_
      refine t_callV F e_X7_readPay_43 (s_X7_readNumber (x_l X) V b M Z T _ _ a 0 99999 h4287.1 hk (by omega) (by omega) (by omega)) cb_X7_readNumber ml_X7_130 im_X7_readNumber se_X7_readNumber (fun _ => o3) h4287 hk rfl rfl (rest := []) rfl (Nat.le_of_ble_eq_true rfl) ⟨Nat.le_of_ble_eq_true rfl, Nat.le_of_ble_eq_true rfl⟩ ⟨Nat.le_of_ble_eq_true rfl, Nat.le_of_ble_eq_true rfl⟩ (fun r σ4290 hp => ?_)
      obtain ⟨h4292, n4293, hn4293, rfl⟩ := hp
      have h4291 := HK.trans h4287 h4292 (by decide)
      refine m_istore F (lv' := [(4, .int (nI n4293)), (3, .int (nI n4289)), (2, .int (nI n4285)), (1, .int (nI n4280)), (0, .ref a)]) e_X7_readPay_46 (by decide) rfl ?_
      refine m_aload_n F rfl e_X7_readPay_48 ?_
      refine t_get F e_X7_readPay_49 fl_X7_55 (fun _ => o3) h4291 hk rfl (fun v hv f4294 => ?_)
      obtain ⟨x4295, hx4295, rfl⟩ := hv
      replace hx4295 : Z = 0 → x4295 ≠ 0 := hx4295
      refine m_if_ne F e_X7_readPay_52 (fun q52 => ?_) (fun q52 => ?_)
      · exact m_vret F hQ e_X7_readPay_85 (⟨h4291, rfl⟩)
      · refine m_aload_n F rfl e_X7_readPay_55 ?_
        refine m_dup F rfl e_X7_readPay_56 ?_
        refine t_get F e_X7_readPay_57 fl_X7_45 (fun _ => o3) h4291 hk rfl (fun v hv f4296 => ?_)
        obtain ⟨x4297, rfl⟩ := hv
        refine m_iconst F (v := 1) (by decide) e_X7_readPay_60 ?_
        refine m_iadd F e_X7_readPay_61 ?_
        refine Wm.top (fun x4298 _ => ?_)
        refine t_put F e_X7_readPay_62 fp_X7_45 (fun _ => o3) h4291 hk rfl ⟨_, rfl⟩ rfl rfl (by decide) (fun σ4299 h4300 g4301 g4302 f4303 => ?_)
        refine m_aload_n F rfl e_X7_readPay_65 ?_
        refine t_get F e_X7_readPay_66 fl_X7_23 (fun _ => o3) h4300 hk rfl (fun v hv f4304 => ?_)
        obtain ⟨r4305, k4306, rfl⟩ := hv
        refine t_get F e_X7_readPay_69 fl_X7_142 (fun _ => o7) h4300 k4306 rfl (fun v hv f4307 => ?_)
        obtain ⟨r4308, k4309, rfl⟩ := hv
        refine m_iload_n F rfl e_X7_readPay_72 ?_
        refine t_aald F (len := 4) (j := n4280) e_X7_readPay_73 (fun _ => o8) rfl h4300 k4309 (nI_clamp (by omega)) (vp_in_nI (by omega) (by decide)) (fun r4310 k4311 => ?_)
        refine m_iload_n F rfl e_X7_readPay_74 ?_
        refine m_iconst F (v := 1) (by decide) e_X7_readPay_75 ?_
        refine m_isub F e_X7_readPay_76 ?_
        rcases Nat.eq_zero_or_pos (n4285) with e76 | e76
        · rw [e76]
          refine Wm.topE (w := -1) (by decide) ?_
          refine m_iload_n F rfl e_X7_readPay_77 ?_
          refine m_iconst F (v := 1) (by decide) e_X7_readPay_78 ?_
          refine m_isub F e_X7_readPay_79 ?_
          rcases Nat.eq_zero_or_pos (n4289) with e79 | e79
          · rw [e79]
            refine Wm.topE (w := -1) (by decide) ?_
            refine m_iload F rfl e_X7_readPay_80 ?_
            refine t_callV F e_X7_readPay_82 (s_X5_payMore (x_l X) V b M Z T _ _ r4310 (-1) (-1) (nI n4293) h4300.1 k4311 (by first | omega | assumption | decide | (rw [nI_ti (by omega)]; omega)) (by omega)) cb_X5_payMore ml_X7_146 im_X5_payMore se_X5_payMore (fun _ => o15) h4300 k4311 rfl rfl (rest := []) rfl (Nat.le_of_ble_eq_true rfl) ⟨Nat.le_of_ble_eq_true rfl, Nat.le_of_ble_eq_true rfl⟩ ⟨Nat.le_of_ble_eq_true rfl, Nat.le_of_ble_eq_true rfl⟩ (fun r σ4312 hp => ?_)
            obtain ⟨h4314, rfl⟩ := hp
            have h4313 := HK.trans h4300 h4314 (by decide)
            exact m_vret F hQ e_X7_readPay_85 (⟨h4313, rfl⟩)
          · refine Wm.topE (w := nI (n4289 - 1)) (pk_sub (a := n4289) (b := 1) (by omega)) ?_
            refine m_iload F rfl e_X7_readPay_80 ?_
            refine t_callV F e_X7_readPay_82 (s_X5_payMore (x_l X) V b M Z T _ _ r4310 (-1) (nI (n4289 - 1)) (nI n4293) h4300.1 k4311 (by first | omega | assumption | decide | (rw [nI_ti (by omega)]; omega)) (by omega)) cb_X5_payMore ml_X7_146 im_X5_payMore se_X5_payMore (fun _ => o15) h4300 k4311 rfl rfl (rest := []) rfl (Nat.le_of_ble_eq_true rfl) ⟨Nat.le_of_ble_eq_true rfl, Nat.le_of_ble_eq_true rfl⟩ ⟨Nat.le_of_ble_eq_true rfl, Nat.le_of_ble_eq_true rfl⟩ (fun r σ4315 hp => ?_)
            obtain ⟨h4317, rfl⟩ := hp
            have h4316 := HK.trans h4300 h4317 (by decide)
            exact m_vret F hQ e_X7_readPay_85 (⟨h4316, rfl⟩)
        · refine Wm.topE (w := nI (n4285 - 1)) (pk_sub (a := n4285) (b := 1) (by omega)) ?_
          refine m_iload_n F rfl e_X7_readPay_77 ?_
          refine m_iconst F (v := 1) (by decide) e_X7_readPay_78 ?_
          refine m_isub F e_X7_readPay_79 ?_
          rcases Nat.eq_zero_or_pos (n4289) with e79 | e79
          · rw [e79]
            refine Wm.topE (w := -1) (by decide) ?_
            refine m_iload F rfl e_X7_readPay_80 ?_
            refine t_callV F e_X7_readPay_82 (s_X5_payMore (x_l X) V b M Z T _ _ r4310 (nI (n4285 - 1)) (-1) (nI n4293) h4300.1 k4311 (by first | omega | assumption | decide | (rw [nI_ti (by omega)]; omega)) (by omega)) cb_X5_payMore ml_X7_146 im_X5_payMore se_X5_payMore (fun _ => o15) h4300 k4311 rfl rfl (rest := []) rfl (Nat.le_of_ble_eq_true rfl) ⟨Nat.le_of_ble_eq_true rfl, Nat.le_of_ble_eq_true rfl⟩ ⟨Nat.le_of_ble_eq_true rfl, Nat.le_of_ble_eq_true rfl⟩ (fun r σ4318 hp => ?_)
            obtain ⟨h4320, rfl⟩ := hp
            have h4319 := HK.trans h4300 h4320 (by decide)
            exact m_vret F hQ e_X7_readPay_85 (⟨h4319, rfl⟩)
          · refine Wm.topE (w := nI (n4289 - 1)) (pk_sub (a := n4289) (b := 1) (by omega)) ?_
            refine m_iload F rfl e_X7_readPay_80 ?_
            refine t_callV F e_X7_readPay_82 (s_X5_payMore (x_l X) V b M Z T _ _ r4310 (nI (n4285 - 1)) (nI (n4289 - 1)) (nI n4293) h4300.1 k4311 (by first | omega | assumption | decide | (rw [nI_ti (by omega)]; omega)) (by omega)) cb_X5_payMore ml_X7_146 im_X5_payMore se_X5_payMore (fun _ => o15) h4300 k4311 rfl rfl (rest := []) rfl (Nat.le_of_ble_eq_true rfl) ⟨Nat.le_of_ble_eq_true rfl, Nat.le_of_ble_eq_true rfl⟩ ⟨Nat.le_of_ble_eq_true rfl, Nat.le_of_ble_eq_true rfl⟩ (fun r σ4321 hp => ?_)
            obtain ⟨h4323, rfl⟩ := hp
            have h4322 := HK.trans h4300 h4323 (by decide)
            exact m_vret F hQ e_X7_readPay_85 (⟨h4322, rfl⟩)
    · have h4324 : HK V (b, M, 0, T) [0, 1, 7, 12, 15, 19] _ _ := ⟨h4281, h4277.2⟩
      refine m_istore_n F (lv' := [(1, .int (-1)), (0, .ref a)]) e_X7_readPay_22 (by decide) rfl ?_
      refine m_aload_n F rfl e_X7_readPay_23 ?_
      refine m_iconst F (v := 1) (by decide) e_X7_readPay_24 ?_
      refine m_bipush F (v := 48) (by decide) e_X7_readPay_25 ?_
      refine t_callV F e_X7_readPay_27 (s_X7_readNumber (x_l X) V b M 0 T _ _ a 1 48 h4324.1 hk (by omega) (by omega) (by omega)) cb_X7_readNumber ml_X7_130 im_X7_readNumber se_X7_readNumber (fun _ => o3) h4324 hk rfl rfl (rest := []) rfl (Nat.le_of_ble_eq_true rfl) ⟨Nat.le_of_ble_eq_true rfl, Nat.le_of_ble_eq_true rfl⟩ ⟨Nat.le_of_ble_eq_true rfl, Nat.le_of_ble_eq_true rfl⟩ (fun r σ4325 hp => ?_)
      obtain ⟨h4327, n4328, hn4328, rfl⟩ := hp
      have h4326 := HK.trans h4324 h4327 (by decide)
      refine m_istore_n F (lv' := [(2, .int (nI n4328)), (1, .int (-1)), (0, .ref a)]) e_X7_readPay_30 (by decide) rfl ?_
      refine m_aload_n F rfl e_X7_readPay_31 ?_
      refine m_iload_n F rfl e_X7_readPay_32 ?_
      refine m_bipush F (v := 48) (by decide) e_X7_readPay_33 ?_
      refine t_callV F e_X7_readPay_35 (s_X7_readNumber (x_l X) V b M 0 T _ _ a n4328 48 h4326.1 hk (by omega) (by omega) (by omega)) cb_X7_readNumber ml_X7_130 im_X7_readNumber se_X7_readNumber (fun _ => o3) h4326 hk rfl rfl (rest := []) rfl (Nat.le_of_ble_eq_true rfl) ⟨Nat.le_of_ble_eq_true rfl, Nat.le_of_ble_eq_true rfl⟩ ⟨Nat.le_of_ble_eq_true rfl, Nat.le_of_ble_eq_true rfl⟩ (fun r σ4329 hp => ?_)
      obtain ⟨h4331, n4332, hn4332, rfl⟩ := hp
      have h4330 := HK.trans h4326 h4331 (by decide)
      refine m_istore_n F (lv' := [(3, .int (nI n4332)), (2, .int (nI n4328)), (1, .int (-1)), (0, .ref a)]) e_X7_readPay_38 (by decide) rfl ?_
      refine m_aload_n F rfl e_X7_readPay_39 ?_
      refine m_iconst F (v := 0) (by decide) e_X7_readPay_40 ?_
      refine m_ldc F kc_X7_141 e_X7_readPay_41 ?_
      refine t_callV F e_X7_readPay_43 (s_X7_readNumber (x_l X) V b M 0 T _ _ a 0 99999 h4330.1 hk (by omega) (by omega) (by omega)) cb_X7_readNumber ml_X7_130 im_X7_readNumber se_X7_readNumber (fun _ => o3) h4330 hk rfl rfl (rest := []) rfl (Nat.le_of_ble_eq_true rfl) ⟨Nat.le_of_ble_eq_true rfl, Nat.le_of_ble_eq_true rfl⟩ ⟨Nat.le_of_ble_eq_true rfl, Nat.le_of_ble_eq_true rfl⟩ (fun r σ4333 hp => ?_)
      obtain ⟨h4335, n4336, hn4336, rfl⟩ := hp
      have h4334 := HK.trans h4330 h4335 (by decide)
      refine m_istore F (lv' := [(4, .int (nI n4336)), (3, .int (nI n4332)), (2, .int (nI n4328)), (1, .int (-1)), (0, .ref a)]) e_X7_readPay_46 (by decide) rfl ?_
      refine m_aload_n F rfl e_X7_readPay_48 ?_
      refine t_get F e_X7_readPay_49 fl_X7_55 (fun _ => o3) h4334 hk rfl (fun v hv f4337 => ?_)
      obtain ⟨x4338, hx4338, rfl⟩ := hv
      replace hx4338 : 0 = 0 → x4338 ≠ 0 := hx4338
      refine m_if_ne F e_X7_readPay_52 (fun q52 => ?_) (fun q52 => ?_)
      · exact m_vret F hQ e_X7_readPay_85 (⟨(h4334.mono (M' := M) (Z' := Z) (by omega) (by intro e; first | rfl | assumption | omega)), rfl⟩)
      · exact absurd q52 (hx4338 rfl)
set_option maxRecDepth 20000 in
theorem s_X7_readOption (l : Launch) (V : VX) (b M Z T N : Nat) (σ : Mem) (a : Nat) (h0 : HT V (b, M, Z, T) σ) (hk : kA b a = 3) (hM : M + 0 ≤ 1000000000) : Ct l V yX7_readOption cX7_readOption 4 none 4 0 0 N σ [.ref a] (fun r τ => HK V (b, M, Z, T) [0, 1, 12, 15] σ τ ∧ r = none) := by
  refine Ct.of (by decide) (Nat.le_of_ble_eq_true rfl) [(0, .ref a)] rfl (fun X hX F hQ => ?_)
  have h1 : HK V (b, M, Z, T) [0, 1, 12, 15] σ σ := HK.start h0
  refine m_aload_n F rfl e_X7_readOption_0 ?_
  refine m_aload_n F rfl e_X7_readOption_1 ?_
  refine t_get F e_X7_readOption_2 fl_X7_23 (fun _ => o3) h1 hk rfl (fun v hv f4339 => ?_)
  obtain ⟨r4340, k4341, rfl⟩ := hv
  refine t_get F e_X7_readOption_5 fl_X7_179 (fun _ => o7) h1 k4341 rfl (fun v hv f4342 => ?_)
  obtain ⟨n4343, hn4343, rfl⟩ := hv
  replace hn4343 : n4343 ≤ 4 := hn4343
  refine m_iconst F (v := 4) (by decide) e_X7_readOption_8 ?_
  refine m_icmp_lt F e_X7_readOption_9 (fun q9 => ?_) (fun q9 => ?_)
  · have c9 : n4343 < 4 := (nI_ltI (a := n4343) (b := 4) (by omega) (by omega)).mp q9
    refine m_iconst F (v := 0) (by decide) e_X7_readOption_16 ?_
    refine t_callV F e_X7_readOption_17 (s_X7_startLine (x_l X) V b M Z T _ _ a 0 h1.1 hk  (by omega)) cb_X7_startLine ml_X7_124 im_X7_startLine se_X7_startLine (fun _ => o3) h1 hk rfl rfl (rest := []) rfl (Nat.le_of_ble_eq_true rfl) ⟨Nat.le_of_ble_eq_true rfl, Nat.le_of_ble_eq_true rfl⟩ ⟨Nat.le_of_ble_eq_true rfl, Nat.le_of_ble_eq_true rfl⟩ (fun r σ4344 hp => ?_)
    obtain ⟨h4346, rfl⟩ := hp
    have h4345 := HK.trans h1 h4346 (by decide)
    refine m_aload_n F rfl e_X7_readOption_20 ?_
    refine t_callV F e_X7_readOption_21 (s_X7_readToldName (x_l X) V b M Z T _ _ a  h4345.1 hk  (by omega)) cb_X7_readToldName ml_X7_138 im_X7_readToldName se_X7_readToldName (fun _ => o3) h4345 hk rfl rfl (rest := []) rfl (Nat.le_of_ble_eq_true rfl) ⟨Nat.le_of_ble_eq_true rfl, Nat.le_of_ble_eq_true rfl⟩ ⟨Nat.le_of_ble_eq_true rfl, Nat.le_of_ble_eq_true rfl⟩ (fun r σ4347 hp => ?_)
    obtain ⟨h4349, c4350⟩ := hp
    have h4348 := HK.trans h4345 h4349 (by decide)
    rcases c4350 with ⟨n4351, hn4351, rfl⟩ | ⟨h4352, rfl⟩
    · refine m_istore_n F (lv' := [(1, .int (nI n4351)), (0, .ref a)]) e_X7_readOption_24 (by decide) rfl ?_
      refine m_aload_n F rfl e_X7_readOption_25 ?_
      refine m_iconst F (v := 1) (by decide) e_X7_readOption_26 ?_
      refine m_bipush F (v := 24) (by decide) e_X7_readOption_27 ?_
      refine t_callV F e_X7_readOption_29 (s_X7_readNumber (x_l X) V b M Z T _ _ a 1 24 h4348.1 hk (by omega) (by omega) (by omega)) cb_X7_readNumber ml_X7_130 im_X7_readNumber se_X7_readNumber (fun _ => o3) h4348 hk rfl rfl (rest := []) rfl (Nat.le_of_ble_eq_true rfl) ⟨Nat.le_of_ble_eq_true rfl, Nat.le_of_ble_eq_true rfl⟩ ⟨Nat.le_of_ble_eq_true rfl, Nat.le_of_ble_eq_true rfl⟩ (fun r σ4353 hp => ?_)
      obtain ⟨h4355, n4356, hn4356, rfl⟩ := hp
      have h4354 := HK.trans h4348 h4355 (by decide)
      refine m_istore_n F (lv' := [(2, .int (nI n4356)), (1, .int (nI n4351)), (0, .ref a)]) e_X7_readOption_32 (by decide) rfl ?_
      refine m_aload_n F rfl e_X7_readOption_33 ?_
      refine m_iconst F (v := 0) (by decide) e_X7_readOption_34 ?_
      refine m_ldc F kc_X7_141 e_X7_readOption_35 ?_
      refine t_callV F e_X7_readOption_37 (s_X7_readNumber (x_l X) V b M Z T _ _ a 0 99999 h4354.1 hk (by omega) (by omega) (by omega)) cb_X7_readNumber ml_X7_130 im_X7_readNumber se_X7_readNumber (fun _ => o3) h4354 hk rfl rfl (rest := []) rfl (Nat.le_of_ble_eq_true rfl) ⟨Nat.le_of_ble_eq_true rfl, Nat.le_of_ble_eq_true rfl⟩ ⟨Nat.le_of_ble_eq_true rfl, Nat.le_of_ble_eq_true rfl⟩ (fun r σ4357 hp => ?_)
      obtain ⟨h4359, n4360, hn4360, rfl⟩ := hp
      have h4358 := HK.trans h4354 h4359 (by decide)
      refine m_istore_n F (lv' := [(3, .int (nI n4360)), (2, .int (nI n4356)), (1, .int (nI n4351)), (0, .ref a)]) e_X7_readOption_40 (by decide) rfl ?_
      refine m_aload_n F rfl e_X7_readOption_41 ?_
      refine t_get F e_X7_readOption_42 fl_X7_55 (fun _ => o3) h4358 hk rfl (fun v hv f4361 => ?_)
      obtain ⟨x4362, hx4362, rfl⟩ := hv
      replace hx4362 : Z = 0 → x4362 ≠ 0 := hx4362
      refine m_if_ne F e_X7_readOption_45 (fun q45 => ?_) (fun q45 => ?_)
      · exact m_vret F hQ e_X7_readOption_58 (⟨h4358, rfl⟩)
      · refine m_aload_n F rfl e_X7_readOption_48 ?_
        refine t_get F e_X7_readOption_49 fl_X7_23 (fun _ => o3) h4358 hk rfl (fun v hv f4363 => ?_)
        obtain ⟨r4364, k4365, rfl⟩ := hv
        refine m_iload_n F rfl e_X7_readOption_52 ?_
        refine m_iload_n F rfl e_X7_readOption_53 ?_
        refine m_iload_n F rfl e_X7_readOption_54 ?_
        refine t_callV F e_X7_readOption_55 (s_X2_addOption (x_l X) V b M Z T _ _ r4364 n4351 n4356 (nI n4360) h4358.1 k4365 (by omega) (by omega) (by omega)) cb_X2_addOption ml_X7_182 im_X2_addOption se_X2_addOption (fun _ => o7) h4358 k4365 rfl rfl (rest := []) rfl (Nat.le_of_ble_eq_true rfl) ⟨Nat.le_of_ble_eq_true rfl, Nat.le_of_ble_eq_true rfl⟩ ⟨Nat.le_of_ble_eq_true rfl, Nat.le_of_ble_eq_true rfl⟩ (fun r σ4366 hp => ?_)
        obtain ⟨h4368, rfl⟩ := hp
        have h4367 := HK.trans h4358 h4368 (by decide)
        exact m_vret F hQ e_X7_readOption_58 (⟨h4367, rfl⟩)
    · have h4369 : HK V (b, M, 0, T) [0, 1, 12, 15] _ _ := ⟨h4352, h4348.2⟩
      refine m_istore_n F (lv' := [(1, .int (-1)), (0, .ref a)]) e_X7_readOption_24 (by decide) rfl ?_
      refine m_aload_n F rfl e_X7_readOption_25 ?_
      refine m_iconst F (v := 1) (by decide) e_X7_readOption_26 ?_
      refine m_bipush F (v := 24) (by decide) e_X7_readOption_27 ?_
      refine t_callV F e_X7_readOption_29 (s_X7_readNumber (x_l X) V b M 0 T _ _ a 1 24 h4369.1 hk (by omega) (by omega) (by omega)) cb_X7_readNumber ml_X7_130 im_X7_readNumber se_X7_readNumber (fun _ => o3) h4369 hk rfl rfl (rest := []) rfl (Nat.le_of_ble_eq_true rfl) ⟨Nat.le_of_ble_eq_true rfl, Nat.le_of_ble_eq_true rfl⟩ ⟨Nat.le_of_ble_eq_true rfl, Nat.le_of_ble_eq_true rfl⟩ (fun r σ4370 hp => ?_)
      obtain ⟨h4372, n4373, hn4373, rfl⟩ := hp
      have h4371 := HK.trans h4369 h4372 (by decide)
      refine m_istore_n F (lv' := [(2, .int (nI n4373)), (1, .int (-1)), (0, .ref a)]) e_X7_readOption_32 (by decide) rfl ?_
      refine m_aload_n F rfl e_X7_readOption_33 ?_
      refine m_iconst F (v := 0) (by decide) e_X7_readOption_34 ?_
      refine m_ldc F kc_X7_141 e_X7_readOption_35 ?_
      refine t_callV F e_X7_readOption_37 (s_X7_readNumber (x_l X) V b M 0 T _ _ a 0 99999 h4371.1 hk (by omega) (by omega) (by omega)) cb_X7_readNumber ml_X7_130 im_X7_readNumber se_X7_readNumber (fun _ => o3) h4371 hk rfl rfl (rest := []) rfl (Nat.le_of_ble_eq_true rfl) ⟨Nat.le_of_ble_eq_true rfl, Nat.le_of_ble_eq_true rfl⟩ ⟨Nat.le_of_ble_eq_true rfl, Nat.le_of_ble_eq_true rfl⟩ (fun r σ4374 hp => ?_)
      obtain ⟨h4376, n4377, hn4377, rfl⟩ := hp
      have h4375 := HK.trans h4371 h4376 (by decide)
      refine m_istore_n F (lv' := [(3, .int (nI n4377)), (2, .int (nI n4373)), (1, .int (-1)), (0, .ref a)]) e_X7_readOption_40 (by decide) rfl ?_
      refine m_aload_n F rfl e_X7_readOption_41 ?_
      refine t_get F e_X7_readOption_42 fl_X7_55 (fun _ => o3) h4375 hk rfl (fun v hv f4378 => ?_)
      obtain ⟨x4379, hx4379, rfl⟩ := hv
      replace hx4379 : 0 = 0 → x4379 ≠ 0 := hx4379
      refine m_if_ne F e_X7_readOption_45 (fun q45 => ?_) (fun q45 => ?_)
      · exact m_vret F hQ e_X7_readOption_58 (⟨(h4375.mono (M' := M) (Z' := Z) (by omega) (by intro e; first | rfl | assumption | omega)), rfl⟩)
      · exact absurd q45 (hx4379 rfl)
  · have c9 : n4343 ≥ 4 := by have hh := mt (nI_ltI (a := n4343) (b := 4) (by omega) (by omega)).mpr q9; omega
    refine m_iconst F (v := 2) (by decide) e_X7_readOption_12 ?_
    refine m_goto F e_X7_readOption_13 ?_
    refine t_callV F e_X7_readOption_17 (s_X7_startLine (x_l X) V b M Z T _ _ a 2 h1.1 hk  (by omega)) cb_X7_startLine ml_X7_124 im_X7_startLine se_X7_startLine (fun _ => o3) h1 hk rfl rfl (rest := []) rfl (Nat.le_of_ble_eq_true rfl) ⟨Nat.le_of_ble_eq_true rfl, Nat.le_of_ble_eq_true rfl⟩ ⟨Nat.le_of_ble_eq_true rfl, Nat.le_of_ble_eq_true rfl⟩ (fun r σ4380 hp => ?_)
    obtain ⟨h4382, rfl⟩ := hp
    have h4381 := HK.trans h1 h4382 (by decide)
    refine m_aload_n F rfl e_X7_readOption_20 ?_
    refine t_callV F e_X7_readOption_21 (s_X7_readToldName (x_l X) V b M Z T _ _ a  h4381.1 hk  (by omega)) cb_X7_readToldName ml_X7_138 im_X7_readToldName se_X7_readToldName (fun _ => o3) h4381 hk rfl rfl (rest := []) rfl (Nat.le_of_ble_eq_true rfl) ⟨Nat.le_of_ble_eq_true rfl, Nat.le_of_ble_eq_true rfl⟩ ⟨Nat.le_of_ble_eq_true rfl, Nat.le_of_ble_eq_true rfl⟩ (fun r σ4383 hp => ?_)
    obtain ⟨h4385, c4386⟩ := hp
    have h4384 := HK.trans h4381 h4385 (by decide)
    rcases c4386 with ⟨n4387, hn4387, rfl⟩ | ⟨h4388, rfl⟩
    · refine m_istore_n F (lv' := [(1, .int (nI n4387)), (0, .ref a)]) e_X7_readOption_24 (by decide) rfl ?_
      refine m_aload_n F rfl e_X7_readOption_25 ?_
      refine m_iconst F (v := 1) (by decide) e_X7_readOption_26 ?_
      refine m_bipush F (v := 24) (by decide) e_X7_readOption_27 ?_
      refine t_callV F e_X7_readOption_29 (s_X7_readNumber (x_l X) V b M Z T _ _ a 1 24 h4384.1 hk (by omega) (by omega) (by omega)) cb_X7_readNumber ml_X7_130 im_X7_readNumber se_X7_readNumber (fun _ => o3) h4384 hk rfl rfl (rest := []) rfl (Nat.le_of_ble_eq_true rfl) ⟨Nat.le_of_ble_eq_true rfl, Nat.le_of_ble_eq_true rfl⟩ ⟨Nat.le_of_ble_eq_true rfl, Nat.le_of_ble_eq_true rfl⟩ (fun r σ4389 hp => ?_)
      obtain ⟨h4391, n4392, hn4392, rfl⟩ := hp
      have h4390 := HK.trans h4384 h4391 (by decide)
      refine m_istore_n F (lv' := [(2, .int (nI n4392)), (1, .int (nI n4387)), (0, .ref a)]) e_X7_readOption_32 (by decide) rfl ?_
      refine m_aload_n F rfl e_X7_readOption_33 ?_
      refine m_iconst F (v := 0) (by decide) e_X7_readOption_34 ?_
      refine m_ldc F kc_X7_141 e_X7_readOption_35 ?_
      refine t_callV F e_X7_readOption_37 (s_X7_readNumber (x_l X) V b M Z T _ _ a 0 99999 h4390.1 hk (by omega) (by omega) (by omega)) cb_X7_readNumber ml_X7_130 im_X7_readNumber se_X7_readNumber (fun _ => o3) h4390 hk rfl rfl (rest := []) rfl (Nat.le_of_ble_eq_true rfl) ⟨Nat.le_of_ble_eq_true rfl, Nat.le_of_ble_eq_true rfl⟩ ⟨Nat.le_of_ble_eq_true rfl, Nat.le_of_ble_eq_true rfl⟩ (fun r σ4393 hp => ?_)
      obtain ⟨h4395, n4396, hn4396, rfl⟩ := hp
      have h4394 := HK.trans h4390 h4395 (by decide)
      refine m_istore_n F (lv' := [(3, .int (nI n4396)), (2, .int (nI n4392)), (1, .int (nI n4387)), (0, .ref a)]) e_X7_readOption_40 (by decide) rfl ?_
      refine m_aload_n F rfl e_X7_readOption_41 ?_
      refine t_get F e_X7_readOption_42 fl_X7_55 (fun _ => o3) h4394 hk rfl (fun v hv f4397 => ?_)
      obtain ⟨x4398, hx4398, rfl⟩ := hv
      replace hx4398 : Z = 0 → x4398 ≠ 0 := hx4398
      refine m_if_ne F e_X7_readOption_45 (fun q45 => ?_) (fun q45 => ?_)
      · exact m_vret F hQ e_X7_readOption_58 (⟨h4394, rfl⟩)
      · refine m_aload_n F rfl e_X7_readOption_48 ?_
        refine t_get F e_X7_readOption_49 fl_X7_23 (fun _ => o3) h4394 hk rfl (fun v hv f4399 => ?_)
        obtain ⟨r4400, k4401, rfl⟩ := hv
        refine m_iload_n F rfl e_X7_readOption_52 ?_
        refine m_iload_n F rfl e_X7_readOption_53 ?_
        refine m_iload_n F rfl e_X7_readOption_54 ?_
        refine t_callV F e_X7_readOption_55 (s_X2_addOption (x_l X) V b M Z T _ _ r4400 n4387 n4392 (nI n4396) h4394.1 k4401 (by omega) (by omega) (by omega)) cb_X2_addOption ml_X7_182 im_X2_addOption se_X2_addOption (fun _ => o7) h4394 k4401 rfl rfl (rest := []) rfl (Nat.le_of_ble_eq_true rfl) ⟨Nat.le_of_ble_eq_true rfl, Nat.le_of_ble_eq_true rfl⟩ ⟨Nat.le_of_ble_eq_true rfl, Nat.le_of_ble_eq_true rfl⟩ (fun r σ4402 hp => ?_)
        obtain ⟨h4404, rfl⟩ := hp
        have h4403 := HK.trans h4394 h4404 (by decide)
        exact m_vret F hQ e_X7_readOption_58 (⟨h4403, rfl⟩)
    · have h4405 : HK V (b, M, 0, T) [0, 1, 12, 15] _ _ := ⟨h4388, h4384.2⟩
      refine m_istore_n F (lv' := [(1, .int (-1)), (0, .ref a)]) e_X7_readOption_24 (by decide) rfl ?_
      refine m_aload_n F rfl e_X7_readOption_25 ?_
      refine m_iconst F (v := 1) (by decide) e_X7_readOption_26 ?_
      refine m_bipush F (v := 24) (by decide) e_X7_readOption_27 ?_
      refine t_callV F e_X7_readOption_29 (s_X7_readNumber (x_l X) V b M 0 T _ _ a 1 24 h4405.1 hk (by omega) (by omega) (by omega)) cb_X7_readNumber ml_X7_130 im_X7_readNumber se_X7_readNumber (fun _ => o3) h4405 hk rfl rfl (rest := []) rfl (Nat.le_of_ble_eq_true rfl) ⟨Nat.le_of_ble_eq_true rfl, Nat.le_of_ble_eq_true rfl⟩ ⟨Nat.le_of_ble_eq_true rfl, Nat.le_of_ble_eq_true rfl⟩ (fun r σ4406 hp => ?_)
      obtain ⟨h4408, n4409, hn4409, rfl⟩ := hp
      have h4407 := HK.trans h4405 h4408 (by decide)
      refine m_istore_n F (lv' := [(2, .int (nI n4409)), (1, .int (-1)), (0, .ref a)]) e_X7_readOption_32 (by decide) rfl ?_
      refine m_aload_n F rfl e_X7_readOption_33 ?_
      refine m_iconst F (v := 0) (by decide) e_X7_readOption_34 ?_
      refine m_ldc F kc_X7_141 e_X7_readOption_35 ?_
      refine t_callV F e_X7_readOption_37 (s_X7_readNumber (x_l X) V b M 0 T _ _ a 0 99999 h4407.1 hk (by omega) (by omega) (by omega)) cb_X7_readNumber ml_X7_130 im_X7_readNumber se_X7_readNumber (fun _ => o3) h4407 hk rfl rfl (rest := []) rfl (Nat.le_of_ble_eq_true rfl) ⟨Nat.le_of_ble_eq_true rfl, Nat.le_of_ble_eq_true rfl⟩ ⟨Nat.le_of_ble_eq_true rfl, Nat.le_of_ble_eq_true rfl⟩ (fun r σ4410 hp => ?_)
      obtain ⟨h4412, n4413, hn4413, rfl⟩ := hp
      have h4411 := HK.trans h4407 h4412 (by decide)
      refine m_istore_n F (lv' := [(3, .int (nI n4413)), (2, .int (nI n4409)), (1, .int (-1)), (0, .ref a)]) e_X7_readOption_40 (by decide) rfl ?_
      refine m_aload_n F rfl e_X7_readOption_41 ?_
      refine t_get F e_X7_readOption_42 fl_X7_55 (fun _ => o3) h4411 hk rfl (fun v hv f4414 => ?_)
      obtain ⟨x4415, hx4415, rfl⟩ := hv
      replace hx4415 : 0 = 0 → x4415 ≠ 0 := hx4415
      refine m_if_ne F e_X7_readOption_45 (fun q45 => ?_) (fun q45 => ?_)
      · exact m_vret F hQ e_X7_readOption_58 (⟨(h4411.mono (M' := M) (Z' := Z) (by omega) (by intro e; first | rfl | assumption | omega)), rfl⟩)
      · exact absurd q45 (hx4415 rfl)
set_option maxRecDepth 20000 in
theorem s_X7_readEarly (l : Launch) (V : VX) (b M Z T N : Nat) (σ : Mem) (a : Nat) (h0 : HT V (b, M, Z, T) σ) (hk : kA b a = 3) (hM : M + 0 ≤ 1000000000) : Ct l V yX7_readEarly cX7_readEarly 2 none 4 0 0 N σ [.ref a] (fun r τ => HK V (b, M, Z, T) [0, 1, 7, 12, 19] σ τ ∧ r = none) := by
  refine Ct.of (by decide) (Nat.le_of_ble_eq_true rfl) [(0, .ref a)] rfl (fun X hX F hQ => ?_)
  have h1 : HK V (b, M, Z, T) [0, 1, 7, 12, 19] σ σ := HK.start h0
  refine m_aload_n F rfl e_X7_readEarly_0 ?_
  refine m_iconst F (v := 0) (by decide) e_X7_readEarly_1 ?_
  refine t_callV F e_X7_readEarly_2 (s_X7_startLine (x_l X) V b M Z T _ _ a 0 h1.1 hk  (by omega)) cb_X7_startLine ml_X7_124 im_X7_startLine se_X7_startLine (fun _ => o3) h1 hk rfl rfl (rest := []) rfl (Nat.le_of_ble_eq_true rfl) ⟨Nat.le_of_ble_eq_true rfl, Nat.le_of_ble_eq_true rfl⟩ ⟨Nat.le_of_ble_eq_true rfl, Nat.le_of_ble_eq_true rfl⟩ (fun r σ4416 hp => ?_)
  obtain ⟨h4418, rfl⟩ := hp
  have h4417 := HK.trans h1 h4418 (by decide)
  refine m_aload_n F rfl e_X7_readEarly_5 ?_
  refine m_iconst F (v := 1) (by decide) e_X7_readEarly_6 ?_
  refine t_callV F e_X7_readEarly_7 (s_X7_readNameOnce (x_l X) V b M Z T _ _ a 1 h4417.1 hk  (by omega)) cb_X7_readNameOnce ml_X7_152 im_X7_readNameOnce se_X7_readNameOnce (fun _ => o3) h4417 hk rfl rfl (rest := []) rfl (Nat.le_of_ble_eq_true rfl) ⟨Nat.le_of_ble_eq_true rfl, Nat.le_of_ble_eq_true rfl⟩ ⟨Nat.le_of_ble_eq_true rfl, Nat.le_of_ble_eq_true rfl⟩ (fun r σ4419 hp => ?_)
  obtain ⟨h4421, c4422⟩ := hp
  have h4420 := HK.trans h4417 h4421 (by decide)
  rcases c4422 with ⟨n4423, hn4423, rfl⟩ | ⟨h4424, rfl⟩
  · refine m_istore_n F (lv' := [(1, .int (nI n4423)), (0, .ref a)]) e_X7_readEarly_10 (by decide) rfl ?_
    refine m_aload_n F rfl e_X7_readEarly_11 ?_
    refine t_get F e_X7_readEarly_12 fl_X7_55 (fun _ => o3) h4420 hk rfl (fun v hv f4425 => ?_)
    obtain ⟨x4426, hx4426, rfl⟩ := hv
    replace hx4426 : Z = 0 → x4426 ≠ 0 := hx4426
    refine m_if_ne F e_X7_readEarly_15 (fun q15 => ?_) (fun q15 => ?_)
    · exact m_vret F hQ e_X7_readEarly_31 (⟨h4420, rfl⟩)
    · refine m_aload_n F rfl e_X7_readEarly_18 ?_
      refine t_get F e_X7_readEarly_19 fl_X7_23 (fun _ => o3) h4420 hk rfl (fun v hv f4427 => ?_)
      obtain ⟨r4428, k4429, rfl⟩ := hv
      refine t_get F e_X7_readEarly_22 fl_X7_142 (fun _ => o7) h4420 k4429 rfl (fun v hv f4430 => ?_)
      obtain ⟨r4431, k4432, rfl⟩ := hv
      refine m_iload_n F rfl e_X7_readEarly_25 ?_
      refine t_aald F (len := 4) (j := n4423) e_X7_readEarly_26 (fun _ => o8) rfl h4420 k4432 (nI_clamp (by omega)) (vp_in_nI (by omega) (by decide)) (fun r4433 k4434 => ?_)
      refine m_iconst F (v := 1) (by decide) e_X7_readEarly_27 ?_
      refine t_put F e_X7_readEarly_28 fp_X7_156 (fun _ => o15) h4420 k4434 rfl ⟨1, (show 1 ≤ 1 by omega), rfl⟩ (by decide) rfl (by decide) (fun σ4435 h4436 g4437 g4438 f4439 => ?_)
      exact m_vret F hQ e_X7_readEarly_31 (⟨h4436, rfl⟩)
  · have h4440 : HK V (b, M, 0, T) [0, 1, 7, 12, 19] _ _ := ⟨h4424, h4420.2⟩
    refine m_istore_n F (lv' := [(1, .int (-1)), (0, .ref a)]) e_X7_readEarly_10 (by decide) rfl ?_
    refine m_aload_n F rfl e_X7_readEarly_11 ?_
    refine t_get F e_X7_readEarly_12 fl_X7_55 (fun _ => o3) h4440 hk rfl (fun v hv f4441 => ?_)
    obtain ⟨x4442, hx4442, rfl⟩ := hv
    replace hx4442 : 0 = 0 → x4442 ≠ 0 := hx4442
    refine m_if_ne F e_X7_readEarly_15 (fun q15 => ?_) (fun q15 => ?_)
    · exact m_vret F hQ e_X7_readEarly_31 (⟨(h4440.mono (M' := M) (Z' := Z) (by omega) (by intro e; first | rfl | assumption | omega)), rfl⟩)
    · exact absurd q15 (hx4442 rfl)
set_option maxRecDepth 20000 in
theorem s_X7_readFair (l : Launch) (V : VX) (b M Z T N : Nat) (σ : Mem) (a : Nat) (h0 : HT V (b, M, Z, T) σ) (hk : kA b a = 3) (hM : M + 0 ≤ 1000000000) : Ct l V yX7_readFair cX7_readFair 3 none 4 0 0 N σ [.ref a] (fun r τ => HK V (b, M, Z, T) [0, 1, 7, 12, 19] σ τ ∧ r = none) := by
  refine Ct.of (by decide) (Nat.le_of_ble_eq_true rfl) [(0, .ref a)] rfl (fun X hX F hQ => ?_)
  have h1 : HK V (b, M, Z, T) [0, 1, 7, 12, 19] σ σ := HK.start h0
  refine m_aload_n F rfl e_X7_readFair_0 ?_
  refine m_iconst F (v := 0) (by decide) e_X7_readFair_1 ?_
  refine t_callV F e_X7_readFair_2 (s_X7_startLine (x_l X) V b M Z T _ _ a 0 h1.1 hk  (by omega)) cb_X7_startLine ml_X7_124 im_X7_startLine se_X7_startLine (fun _ => o3) h1 hk rfl rfl (rest := []) rfl (Nat.le_of_ble_eq_true rfl) ⟨Nat.le_of_ble_eq_true rfl, Nat.le_of_ble_eq_true rfl⟩ ⟨Nat.le_of_ble_eq_true rfl, Nat.le_of_ble_eq_true rfl⟩ (fun r σ4443 hp => ?_)
  obtain ⟨h4445, rfl⟩ := hp
  have h4444 := HK.trans h1 h4445 (by decide)
  refine m_aload_n F rfl e_X7_readFair_5 ?_
  refine m_iconst F (v := 2) (by decide) e_X7_readFair_6 ?_
  refine t_callV F e_X7_readFair_7 (s_X7_readNameOnce (x_l X) V b M Z T _ _ a 2 h4444.1 hk  (by omega)) cb_X7_readNameOnce ml_X7_152 im_X7_readNameOnce se_X7_readNameOnce (fun _ => o3) h4444 hk rfl rfl (rest := []) rfl (Nat.le_of_ble_eq_true rfl) ⟨Nat.le_of_ble_eq_true rfl, Nat.le_of_ble_eq_true rfl⟩ ⟨Nat.le_of_ble_eq_true rfl, Nat.le_of_ble_eq_true rfl⟩ (fun r σ4446 hp => ?_)
  obtain ⟨h4448, c4449⟩ := hp
  have h4447 := HK.trans h4444 h4448 (by decide)
  rcases c4449 with ⟨n4450, hn4450, rfl⟩ | ⟨h4451, rfl⟩
  · refine m_istore_n F (lv' := [(1, .int (nI n4450)), (0, .ref a)]) e_X7_readFair_10 (by decide) rfl ?_
    refine m_aload_n F rfl e_X7_readFair_11 ?_
    refine m_iconst F (v := 1) (by decide) e_X7_readFair_12 ?_
    refine m_ldc F kc_X7_159 e_X7_readFair_13 ?_
    refine t_callV F e_X7_readFair_15 (s_X7_readNumber (x_l X) V b M Z T _ _ a 1 9999999 h4447.1 hk (by omega) (by omega) (by omega)) cb_X7_readNumber ml_X7_130 im_X7_readNumber se_X7_readNumber (fun _ => o3) h4447 hk rfl rfl (rest := []) rfl (Nat.le_of_ble_eq_true rfl) ⟨Nat.le_of_ble_eq_true rfl, Nat.le_of_ble_eq_true rfl⟩ ⟨Nat.le_of_ble_eq_true rfl, Nat.le_of_ble_eq_true rfl⟩ (fun r σ4452 hp => ?_)
    obtain ⟨h4454, n4455, hn4455, rfl⟩ := hp
    have h4453 := HK.trans h4447 h4454 (by decide)
    refine m_istore_n F (lv' := [(2, .int (nI n4455)), (1, .int (nI n4450)), (0, .ref a)]) e_X7_readFair_18 (by decide) rfl ?_
    refine m_aload_n F rfl e_X7_readFair_19 ?_
    refine t_get F e_X7_readFair_20 fl_X7_55 (fun _ => o3) h4453 hk rfl (fun v hv f4456 => ?_)
    obtain ⟨x4457, hx4457, rfl⟩ := hv
    replace hx4457 : Z = 0 → x4457 ≠ 0 := hx4457
    refine m_if_ne F e_X7_readFair_23 (fun q23 => ?_) (fun q23 => ?_)
    · exact m_vret F hQ e_X7_readFair_39 (⟨h4453, rfl⟩)
    · refine m_aload_n F rfl e_X7_readFair_26 ?_
      refine t_get F e_X7_readFair_27 fl_X7_23 (fun _ => o3) h4453 hk rfl (fun v hv f4458 => ?_)
      obtain ⟨r4459, k4460, rfl⟩ := hv
      refine t_get F e_X7_readFair_30 fl_X7_142 (fun _ => o7) h4453 k4460 rfl (fun v hv f4461 => ?_)
      obtain ⟨r4462, k4463, rfl⟩ := hv
      refine m_iload_n F rfl e_X7_readFair_33 ?_
      refine t_aald F (len := 4) (j := n4450) e_X7_readFair_34 (fun _ => o8) rfl h4453 k4463 (nI_clamp (by omega)) (vp_in_nI (by omega) (by decide)) (fun r4464 k4465 => ?_)
      refine m_iload_n F rfl e_X7_readFair_35 ?_
      refine t_put F e_X7_readFair_36 fp_X7_160 (fun _ => o15) h4453 k4465 rfl ⟨_, rfl⟩ rfl rfl (by decide) (fun σ4466 h4467 g4468 g4469 f4470 => ?_)
      exact m_vret F hQ e_X7_readFair_39 (⟨h4467, rfl⟩)
  · have h4471 : HK V (b, M, 0, T) [0, 1, 7, 12, 19] _ _ := ⟨h4451, h4447.2⟩
    refine m_istore_n F (lv' := [(1, .int (-1)), (0, .ref a)]) e_X7_readFair_10 (by decide) rfl ?_
    refine m_aload_n F rfl e_X7_readFair_11 ?_
    refine m_iconst F (v := 1) (by decide) e_X7_readFair_12 ?_
    refine m_ldc F kc_X7_159 e_X7_readFair_13 ?_
    refine t_callV F e_X7_readFair_15 (s_X7_readNumber (x_l X) V b M 0 T _ _ a 1 9999999 h4471.1 hk (by omega) (by omega) (by omega)) cb_X7_readNumber ml_X7_130 im_X7_readNumber se_X7_readNumber (fun _ => o3) h4471 hk rfl rfl (rest := []) rfl (Nat.le_of_ble_eq_true rfl) ⟨Nat.le_of_ble_eq_true rfl, Nat.le_of_ble_eq_true rfl⟩ ⟨Nat.le_of_ble_eq_true rfl, Nat.le_of_ble_eq_true rfl⟩ (fun r σ4472 hp => ?_)
    obtain ⟨h4474, n4475, hn4475, rfl⟩ := hp
    have h4473 := HK.trans h4471 h4474 (by decide)
    refine m_istore_n F (lv' := [(2, .int (nI n4475)), (1, .int (-1)), (0, .ref a)]) e_X7_readFair_18 (by decide) rfl ?_
    refine m_aload_n F rfl e_X7_readFair_19 ?_
    refine t_get F e_X7_readFair_20 fl_X7_55 (fun _ => o3) h4473 hk rfl (fun v hv f4476 => ?_)
    obtain ⟨x4477, hx4477, rfl⟩ := hv
    replace hx4477 : 0 = 0 → x4477 ≠ 0 := hx4477
    refine m_if_ne F e_X7_readFair_23 (fun q23 => ?_) (fun q23 => ?_)
    · exact m_vret F hQ e_X7_readFair_39 (⟨(h4473.mono (M' := M) (Z' := Z) (by omega) (by intro e; first | rfl | assumption | omega)), rfl⟩)
    · exact absurd q23 (hx4477 rfl)
set_option maxRecDepth 20000 in
theorem s_X7_readFee (l : Launch) (V : VX) (b M Z T N : Nat) (σ : Mem) (a : Nat) (h0 : HT V (b, M, Z, T) σ) (hk : kA b a = 3) (hM : M + 0 ≤ 1000000000) : Ct l V yX7_readFee cX7_readFee 3 none 4 0 0 N σ [.ref a] (fun r τ => HK V (b, M, Z, T) [0, 1, 7, 12, 19] σ τ ∧ r = none) := by
  refine Ct.of (by decide) (Nat.le_of_ble_eq_true rfl) [(0, .ref a)] rfl (fun X hX F hQ => ?_)
  have h1 : HK V (b, M, Z, T) [0, 1, 7, 12, 19] σ σ := HK.start h0
  refine m_aload_n F rfl e_X7_readFee_0 ?_
  refine m_iconst F (v := 0) (by decide) e_X7_readFee_1 ?_
  refine t_callV F e_X7_readFee_2 (s_X7_startLine (x_l X) V b M Z T _ _ a 0 h1.1 hk  (by omega)) cb_X7_startLine ml_X7_124 im_X7_startLine se_X7_startLine (fun _ => o3) h1 hk rfl rfl (rest := []) rfl (Nat.le_of_ble_eq_true rfl) ⟨Nat.le_of_ble_eq_true rfl, Nat.le_of_ble_eq_true rfl⟩ ⟨Nat.le_of_ble_eq_true rfl, Nat.le_of_ble_eq_true rfl⟩ (fun r σ4478 hp => ?_)
  obtain ⟨h4480, rfl⟩ := hp
  have h4479 := HK.trans h1 h4480 (by decide)
  refine m_aload_n F rfl e_X7_readFee_5 ?_
  refine m_iconst F (v := 4) (by decide) e_X7_readFee_6 ?_
  refine t_callV F e_X7_readFee_7 (s_X7_readNameOnce (x_l X) V b M Z T _ _ a 4 h4479.1 hk  (by omega)) cb_X7_readNameOnce ml_X7_152 im_X7_readNameOnce se_X7_readNameOnce (fun _ => o3) h4479 hk rfl rfl (rest := []) rfl (Nat.le_of_ble_eq_true rfl) ⟨Nat.le_of_ble_eq_true rfl, Nat.le_of_ble_eq_true rfl⟩ ⟨Nat.le_of_ble_eq_true rfl, Nat.le_of_ble_eq_true rfl⟩ (fun r σ4481 hp => ?_)
  obtain ⟨h4483, c4484⟩ := hp
  have h4482 := HK.trans h4479 h4483 (by decide)
  rcases c4484 with ⟨n4485, hn4485, rfl⟩ | ⟨h4486, rfl⟩
  · refine m_istore_n F (lv' := [(1, .int (nI n4485)), (0, .ref a)]) e_X7_readFee_10 (by decide) rfl ?_
    refine m_aload_n F rfl e_X7_readFee_11 ?_
    refine m_iconst F (v := 0) (by decide) e_X7_readFee_12 ?_
    refine m_ldc F kc_X7_141 e_X7_readFee_13 ?_
    refine t_callV F e_X7_readFee_15 (s_X7_readNumber (x_l X) V b M Z T _ _ a 0 99999 h4482.1 hk (by omega) (by omega) (by omega)) cb_X7_readNumber ml_X7_130 im_X7_readNumber se_X7_readNumber (fun _ => o3) h4482 hk rfl rfl (rest := []) rfl (Nat.le_of_ble_eq_true rfl) ⟨Nat.le_of_ble_eq_true rfl, Nat.le_of_ble_eq_true rfl⟩ ⟨Nat.le_of_ble_eq_true rfl, Nat.le_of_ble_eq_true rfl⟩ (fun r σ4487 hp => ?_)
    obtain ⟨h4489, n4490, hn4490, rfl⟩ := hp
    have h4488 := HK.trans h4482 h4489 (by decide)
    refine m_istore_n F (lv' := [(2, .int (nI n4490)), (1, .int (nI n4485)), (0, .ref a)]) e_X7_readFee_18 (by decide) rfl ?_
    refine m_aload_n F rfl e_X7_readFee_19 ?_
    refine t_get F e_X7_readFee_20 fl_X7_55 (fun _ => o3) h4488 hk rfl (fun v hv f4491 => ?_)
    obtain ⟨x4492, hx4492, rfl⟩ := hv
    replace hx4492 : Z = 0 → x4492 ≠ 0 := hx4492
    refine m_if_ne F e_X7_readFee_23 (fun q23 => ?_) (fun q23 => ?_)
    · exact m_vret F hQ e_X7_readFee_39 (⟨h4488, rfl⟩)
    · refine m_aload_n F rfl e_X7_readFee_26 ?_
      refine t_get F e_X7_readFee_27 fl_X7_23 (fun _ => o3) h4488 hk rfl (fun v hv f4493 => ?_)
      obtain ⟨r4494, k4495, rfl⟩ := hv
      refine t_get F e_X7_readFee_30 fl_X7_142 (fun _ => o7) h4488 k4495 rfl (fun v hv f4496 => ?_)
      obtain ⟨r4497, k4498, rfl⟩ := hv
      refine m_iload_n F rfl e_X7_readFee_33 ?_
      refine t_aald F (len := 4) (j := n4485) e_X7_readFee_34 (fun _ => o8) rfl h4488 k4498 (nI_clamp (by omega)) (vp_in_nI (by omega) (by decide)) (fun r4499 k4500 => ?_)
      refine m_iload_n F rfl e_X7_readFee_35 ?_
      refine t_put F e_X7_readFee_36 fp_X7_163 (fun _ => o15) h4488 k4500 rfl ⟨_, rfl⟩ rfl rfl (by decide) (fun σ4501 h4502 g4503 g4504 f4505 => ?_)
      exact m_vret F hQ e_X7_readFee_39 (⟨h4502, rfl⟩)
  · have h4506 : HK V (b, M, 0, T) [0, 1, 7, 12, 19] _ _ := ⟨h4486, h4482.2⟩
    refine m_istore_n F (lv' := [(1, .int (-1)), (0, .ref a)]) e_X7_readFee_10 (by decide) rfl ?_
    refine m_aload_n F rfl e_X7_readFee_11 ?_
    refine m_iconst F (v := 0) (by decide) e_X7_readFee_12 ?_
    refine m_ldc F kc_X7_141 e_X7_readFee_13 ?_
    refine t_callV F e_X7_readFee_15 (s_X7_readNumber (x_l X) V b M 0 T _ _ a 0 99999 h4506.1 hk (by omega) (by omega) (by omega)) cb_X7_readNumber ml_X7_130 im_X7_readNumber se_X7_readNumber (fun _ => o3) h4506 hk rfl rfl (rest := []) rfl (Nat.le_of_ble_eq_true rfl) ⟨Nat.le_of_ble_eq_true rfl, Nat.le_of_ble_eq_true rfl⟩ ⟨Nat.le_of_ble_eq_true rfl, Nat.le_of_ble_eq_true rfl⟩ (fun r σ4507 hp => ?_)
    obtain ⟨h4509, n4510, hn4510, rfl⟩ := hp
    have h4508 := HK.trans h4506 h4509 (by decide)
    refine m_istore_n F (lv' := [(2, .int (nI n4510)), (1, .int (-1)), (0, .ref a)]) e_X7_readFee_18 (by decide) rfl ?_
    refine m_aload_n F rfl e_X7_readFee_19 ?_
    refine t_get F e_X7_readFee_20 fl_X7_55 (fun _ => o3) h4508 hk rfl (fun v hv f4511 => ?_)
    obtain ⟨x4512, hx4512, rfl⟩ := hv
    replace hx4512 : 0 = 0 → x4512 ≠ 0 := hx4512
    refine m_if_ne F e_X7_readFee_23 (fun q23 => ?_) (fun q23 => ?_)
    · exact m_vret F hQ e_X7_readFee_39 (⟨(h4508.mono (M' := M) (Z' := Z) (by omega) (by intro e; first | rfl | assumption | omega)), rfl⟩)
    · exact absurd q23 (hx4512 rfl)
set_option maxRecDepth 20000 in
theorem s_X7_readTied (l : Launch) (V : VX) (b M Z T N : Nat) (σ : Mem) (a : Nat) (h0 : HT V (b, M, Z, T) σ) (hk : kA b a = 3) (hM : M + 0 ≤ 1000000000) : Ct l V yX7_readTied cX7_readTied 2 none 4 0 0 N σ [.ref a] (fun r τ => HK V (b, M, Z, T) [0, 1, 7, 12, 19] σ τ ∧ r = none) := by
  refine Ct.of (by decide) (Nat.le_of_ble_eq_true rfl) [(0, .ref a)] rfl (fun X hX F hQ => ?_)
  have h1 : HK V (b, M, Z, T) [0, 1, 7, 12, 19] σ σ := HK.start h0
  refine m_aload_n F rfl e_X7_readTied_0 ?_
  refine m_iconst F (v := 0) (by decide) e_X7_readTied_1 ?_
  refine t_callV F e_X7_readTied_2 (s_X7_startLine (x_l X) V b M Z T _ _ a 0 h1.1 hk  (by omega)) cb_X7_startLine ml_X7_124 im_X7_startLine se_X7_startLine (fun _ => o3) h1 hk rfl rfl (rest := []) rfl (Nat.le_of_ble_eq_true rfl) ⟨Nat.le_of_ble_eq_true rfl, Nat.le_of_ble_eq_true rfl⟩ ⟨Nat.le_of_ble_eq_true rfl, Nat.le_of_ble_eq_true rfl⟩ (fun r σ4513 hp => ?_)
  obtain ⟨h4515, rfl⟩ := hp
  have h4514 := HK.trans h1 h4515 (by decide)
  refine m_aload_n F rfl e_X7_readTied_5 ?_
  refine m_bipush F (v := 8) (by decide) e_X7_readTied_6 ?_
  refine t_callV F e_X7_readTied_8 (s_X7_readNameOnce (x_l X) V b M Z T _ _ a 8 h4514.1 hk  (by omega)) cb_X7_readNameOnce ml_X7_152 im_X7_readNameOnce se_X7_readNameOnce (fun _ => o3) h4514 hk rfl rfl (rest := []) rfl (Nat.le_of_ble_eq_true rfl) ⟨Nat.le_of_ble_eq_true rfl, Nat.le_of_ble_eq_true rfl⟩ ⟨Nat.le_of_ble_eq_true rfl, Nat.le_of_ble_eq_true rfl⟩ (fun r σ4516 hp => ?_)
  obtain ⟨h4518, c4519⟩ := hp
  have h4517 := HK.trans h4514 h4518 (by decide)
  rcases c4519 with ⟨n4520, hn4520, rfl⟩ | ⟨h4521, rfl⟩
  · refine m_istore_n F (lv' := [(1, .int (nI n4520)), (0, .ref a)]) e_X7_readTied_11 (by decide) rfl ?_
    refine m_aload_n F rfl e_X7_readTied_12 ?_
    refine t_get F e_X7_readTied_13 fl_X7_55 (fun _ => o3) h4517 hk rfl (fun v hv f4522 => ?_)
    obtain ⟨x4523, hx4523, rfl⟩ := hv
    replace hx4523 : Z = 0 → x4523 ≠ 0 := hx4523
    refine m_if_ne F e_X7_readTied_16 (fun q16 => ?_) (fun q16 => ?_)
    · exact m_vret F hQ e_X7_readTied_32 (⟨h4517, rfl⟩)
    · refine m_aload_n F rfl e_X7_readTied_19 ?_
      refine t_get F e_X7_readTied_20 fl_X7_23 (fun _ => o3) h4517 hk rfl (fun v hv f4524 => ?_)
      obtain ⟨r4525, k4526, rfl⟩ := hv
      refine t_get F e_X7_readTied_23 fl_X7_142 (fun _ => o7) h4517 k4526 rfl (fun v hv f4527 => ?_)
      obtain ⟨r4528, k4529, rfl⟩ := hv
      refine m_iload_n F rfl e_X7_readTied_26 ?_
      refine t_aald F (len := 4) (j := n4520) e_X7_readTied_27 (fun _ => o8) rfl h4517 k4529 (nI_clamp (by omega)) (vp_in_nI (by omega) (by decide)) (fun r4530 k4531 => ?_)
      refine m_iconst F (v := 1) (by decide) e_X7_readTied_28 ?_
      refine t_put F e_X7_readTied_29 fp_X7_166 (fun _ => o15) h4517 k4531 rfl ⟨1, (show 1 ≤ 1 by omega), rfl⟩ (by decide) rfl (by decide) (fun σ4532 h4533 g4534 g4535 f4536 => ?_)
      exact m_vret F hQ e_X7_readTied_32 (⟨h4533, rfl⟩)
  · have h4537 : HK V (b, M, 0, T) [0, 1, 7, 12, 19] _ _ := ⟨h4521, h4517.2⟩
    refine m_istore_n F (lv' := [(1, .int (-1)), (0, .ref a)]) e_X7_readTied_11 (by decide) rfl ?_
    refine m_aload_n F rfl e_X7_readTied_12 ?_
    refine t_get F e_X7_readTied_13 fl_X7_55 (fun _ => o3) h4537 hk rfl (fun v hv f4538 => ?_)
    obtain ⟨x4539, hx4539, rfl⟩ := hv
    replace hx4539 : 0 = 0 → x4539 ≠ 0 := hx4539
    refine m_if_ne F e_X7_readTied_16 (fun q16 => ?_) (fun q16 => ?_)
    · exact m_vret F hQ e_X7_readTied_32 (⟨(h4537.mono (M' := M) (Z' := Z) (by omega) (by intro e; first | rfl | assumption | omega)), rfl⟩)
    · exact absurd q16 (hx4539 rfl)
set_option maxRecDepth 20000 in
theorem s_X7_readLine (l : Launch) (V : VX) (b M Z T N : Nat) (σ : Mem) (a : Nat) (h0 : HT V (b, M, Z, T) σ) (hk : kA b a = 3) (hM : M + 0 ≤ 1000000000) : Ct l V yX7_readLine cX7_readLine 2 none 7 0 0 N σ [.ref a] (fun r τ => HK V (b, M, Z, T) [0, 1, 12] σ τ ∧ r = none) := by
  refine Ct.of (by decide) (Nat.le_of_ble_eq_true rfl) [(0, .ref a)] rfl (fun X hX F hQ => ?_)
  have h1 : HK V (b, M, Z, T) [0, 1, 12] σ σ := HK.start h0
  refine m_aload_n F rfl e_X7_readLine_0 ?_
  refine t_get F e_X7_readLine_1 fl_X7_61 (fun _ => o3) h1 hk rfl (fun v hv f4540 => ?_)
  obtain ⟨x4541, rfl⟩ := hv
  refine m_iconst F (v := 1) (by decide) e_X7_readLine_4 ?_
  refine m_icmp_ne F e_X7_readLine_5 (fun q5 => ?_) (fun q5 => ?_)
  · refine m_null F e_X7_readLine_19 ?_
    refine m_astore_nN F (lv' := [(1, .null), (0, .ref a)]) e_X7_readLine_20 (by decide) rfl ?_
    refine m_aload_nN F rfl e_X7_readLine_21 ?_
    refine m_ifnonnullN F e_X7_readLine_22 ?_
    refine m_aload_n F rfl e_X7_readLine_25 ?_
    refine m_iconst F (v := 1) (by decide) e_X7_readLine_26 ?_
    refine t_callV F e_X7_readLine_27 (s_X7_fail (x_l X) V b M Z T _ _ a 1 h1.1 hk (by first | omega | assumption | decide) (by omega)) cb_X7_fail ml_X7_77 im_X7_fail se_X7_fail (fun _ => o3) h1 hk rfl rfl (rest := []) rfl (Nat.le_of_ble_eq_true rfl) ⟨Nat.le_of_ble_eq_true rfl, Nat.le_of_ble_eq_true rfl⟩ ⟨Nat.le_of_ble_eq_true rfl, Nat.le_of_ble_eq_true rfl⟩ (fun r σ4542 hp => ?_)
    obtain ⟨h4544, rfl⟩ := hp
    have h4543 := HK.trans h1 h4544 (by decide)
    exact m_vret F hQ e_X7_readLine_30 (⟨(h4543.mono (M' := M) (Z' := Z) (by omega) (by intro e; first | rfl | assumption | omega)), rfl⟩)
  · refine m_aload_n F rfl e_X7_readLine_8 ?_
    refine m_aload_n F rfl e_X7_readLine_9 ?_
    refine t_get F e_X7_readLine_10 fl_X7_70 (fun _ => o3) h1 hk rfl (fun v hv f4545 => ?_)
    obtain ⟨x4546, rfl⟩ := hv
    refine t_callV F e_X7_readLine_13 (s_X7_kindOf (x_l X) V b M Z T _ _ a x4546 h1.1 hk  (by omega)) cb_X7_kindOf ml_X7_73 im_X7_kindOf se_X7_kindOf (fun _ => o3) h1 hk rfl rfl (rest := []) rfl (Nat.le_of_ble_eq_true rfl) ⟨Nat.le_of_ble_eq_true rfl, Nat.le_of_ble_eq_true rfl⟩ ⟨Nat.le_of_ble_eq_true rfl, Nat.le_of_ble_eq_true rfl⟩ (fun r σ4547 hp => ?_)
    obtain ⟨h4549, c4550⟩ := hp
    have h4548 := HK.trans h1 h4549 (by decide)
    rcases c4550 with rfl | ⟨n4551, hn4551, rfl⟩
    · refine m_goto F e_X7_readLine_16 ?_
      refine m_astore_nN F (lv' := [(1, .null), (0, .ref a)]) e_X7_readLine_20 (by decide) rfl ?_
      refine m_aload_nN F rfl e_X7_readLine_21 ?_
      refine m_ifnonnullN F e_X7_readLine_22 ?_
      refine m_aload_n F rfl e_X7_readLine_25 ?_
      refine m_iconst F (v := 1) (by decide) e_X7_readLine_26 ?_
      refine t_callV F e_X7_readLine_27 (s_X7_fail (x_l X) V b M Z T _ _ a 1 h4548.1 hk (by first | omega | assumption | decide) (by omega)) cb_X7_fail ml_X7_77 im_X7_fail se_X7_fail (fun _ => o3) h4548 hk rfl rfl (rest := []) rfl (Nat.le_of_ble_eq_true rfl) ⟨Nat.le_of_ble_eq_true rfl, Nat.le_of_ble_eq_true rfl⟩ ⟨Nat.le_of_ble_eq_true rfl, Nat.le_of_ble_eq_true rfl⟩ (fun r σ4552 hp => ?_)
      obtain ⟨h4554, rfl⟩ := hp
      have h4553 := HK.trans h4548 h4554 (by decide)
      exact m_vret F hQ e_X7_readLine_30 (⟨(h4553.mono (M' := M) (Z' := Z) (by omega) (by intro e; first | rfl | assumption | omega)), rfl⟩)
    · refine m_goto F e_X7_readLine_16 ?_
      refine m_astore_n F (lv' := [(1, .ref (adK V n4551)), (0, .ref a)]) e_X7_readLine_20 (by decide) rfl ?_
      refine m_aload_n F rfl e_X7_readLine_21 ?_
      refine m_ifnonnullR F e_X7_readLine_22 ?_
      refine m_gs F e_X7_readLine_31 F.sw.2.2.2.2.1.1 kf_map ?_
      refine m_aload_n F rfl e_X7_readLine_34 ?_
      refine m_ord F rfl e_X7_readLine_35 (i := n4551) (by omega) (Nat.le_of_ble_eq_true rfl) ⟨Nat.le_of_ble_eq_true rfl, Nat.le_of_ble_eq_true rfl⟩ ?_
      refine m_ti F e_X7_readLine_38 F.sw.2.2.2.2.1.2 (i := nI n4551) (vp_in_nI (by omega) (by decide)) rfl ?_
      refine Wm.top (fun x4555 _ => ?_)
      by_cases ho39 : (x4555 : Int32).toInt < 1 ∨ 8 < (x4555 : Int32).toInt
      · refine m_tableOut F e_X7_readLine_39 ho39 (tgt := 140) (by decide) ?_
        refine m_aload_n F rfl e_X7_readLine_140 ?_
        refine t_callV F e_X7_readLine_141 (s_X7_readSeed (x_l X) V b M Z T _ _ a  h4548.1 hk  (by omega)) cb_X7_readSeed ml_X7_116 im_X7_readSeed se_X7_readSeed (fun _ => o3) h4548 hk rfl rfl (rest := []) rfl (Nat.le_of_ble_eq_true rfl) ⟨Nat.le_of_ble_eq_true rfl, Nat.le_of_ble_eq_true rfl⟩ ⟨Nat.le_of_ble_eq_true rfl, Nat.le_of_ble_eq_true rfl⟩ (fun r σ4556 hp => ?_)
        obtain ⟨h4558, rfl⟩ := hp
        have h4557 := HK.trans h4548 h4558 (by decide)
        exact m_vret F hQ e_X7_readLine_144 (⟨h4557, rfl⟩)
      have hs39 : (x4555 : Int32).toInt = 1 ∨ (x4555 : Int32).toInt = 2 ∨ (x4555 : Int32).toInt = 3 ∨ (x4555 : Int32).toInt = 4 ∨ (x4555 : Int32).toInt = 5 ∨ (x4555 : Int32).toInt = 6 ∨ (x4555 : Int32).toInt = 7 ∨ (x4555 : Int32).toInt = 8 := by omega
      rcases hs39 with hv | hv | hv | hv | hv | hv | hv | hv
      · refine m_tableIn F e_X7_readLine_39 (by omega) (by omega) (off := 45) (tgt := 84) (by rw [hv]; rfl) (by decide) ?_
        refine m_aload_n F rfl e_X7_readLine_84 ?_
        refine t_callV F e_X7_readLine_85 (s_X7_readLease (x_l X) V b M Z T _ _ a  h4548.1 hk  (by omega)) cb_X7_readLease ml_X7_92 im_X7_readLease se_X7_readLease (fun _ => o3) h4548 hk rfl rfl (rest := []) rfl (Nat.le_of_ble_eq_true rfl) ⟨Nat.le_of_ble_eq_true rfl, Nat.le_of_ble_eq_true rfl⟩ ⟨Nat.le_of_ble_eq_true rfl, Nat.le_of_ble_eq_true rfl⟩ (fun r σ4559 hp => ?_)
        obtain ⟨h4561, rfl⟩ := hp
        have h4560 := HK.trans h4548 h4561 (by decide)
        refine m_goto F e_X7_readLine_88 ?_
        exact m_vret F hQ e_X7_readLine_144 (⟨h4560, rfl⟩)
      · refine m_tableIn F e_X7_readLine_39 (by omega) (by omega) (off := 52) (tgt := 91) (by rw [hv]; rfl) (by decide) ?_
        refine m_aload_n F rfl e_X7_readLine_91 ?_
        refine t_callV F e_X7_readLine_92 (s_X7_readPay (x_l X) V b M Z T _ _ a  h4548.1 hk  (by omega)) cb_X7_readPay ml_X7_95 im_X7_readPay se_X7_readPay (fun _ => o3) h4548 hk rfl rfl (rest := []) rfl (Nat.le_of_ble_eq_true rfl) ⟨Nat.le_of_ble_eq_true rfl, Nat.le_of_ble_eq_true rfl⟩ ⟨Nat.le_of_ble_eq_true rfl, Nat.le_of_ble_eq_true rfl⟩ (fun r σ4562 hp => ?_)
        obtain ⟨h4564, rfl⟩ := hp
        have h4563 := HK.trans h4548 h4564 (by decide)
        refine m_goto F e_X7_readLine_95 ?_
        exact m_vret F hQ e_X7_readLine_144 (⟨h4563, rfl⟩)
      · refine m_tableIn F e_X7_readLine_39 (by omega) (by omega) (off := 59) (tgt := 98) (by rw [hv]; rfl) (by decide) ?_
        refine m_aload_n F rfl e_X7_readLine_98 ?_
        refine t_callV F e_X7_readLine_99 (s_X7_readEarly (x_l X) V b M Z T _ _ a  h4548.1 hk  (by omega)) cb_X7_readEarly ml_X7_98 im_X7_readEarly se_X7_readEarly (fun _ => o3) h4548 hk rfl rfl (rest := []) rfl (Nat.le_of_ble_eq_true rfl) ⟨Nat.le_of_ble_eq_true rfl, Nat.le_of_ble_eq_true rfl⟩ ⟨Nat.le_of_ble_eq_true rfl, Nat.le_of_ble_eq_true rfl⟩ (fun r σ4565 hp => ?_)
        obtain ⟨h4567, rfl⟩ := hp
        have h4566 := HK.trans h4548 h4567 (by decide)
        refine m_goto F e_X7_readLine_102 ?_
        exact m_vret F hQ e_X7_readLine_144 (⟨h4566, rfl⟩)
      · refine m_tableIn F e_X7_readLine_39 (by omega) (by omega) (off := 66) (tgt := 105) (by rw [hv]; rfl) (by decide) ?_
        refine m_aload_n F rfl e_X7_readLine_105 ?_
        refine t_callV F e_X7_readLine_106 (s_X7_readFair (x_l X) V b M Z T _ _ a  h4548.1 hk  (by omega)) cb_X7_readFair ml_X7_101 im_X7_readFair se_X7_readFair (fun _ => o3) h4548 hk rfl rfl (rest := []) rfl (Nat.le_of_ble_eq_true rfl) ⟨Nat.le_of_ble_eq_true rfl, Nat.le_of_ble_eq_true rfl⟩ ⟨Nat.le_of_ble_eq_true rfl, Nat.le_of_ble_eq_true rfl⟩ (fun r σ4568 hp => ?_)
        obtain ⟨h4570, rfl⟩ := hp
        have h4569 := HK.trans h4548 h4570 (by decide)
        refine m_goto F e_X7_readLine_109 ?_
        exact m_vret F hQ e_X7_readLine_144 (⟨h4569, rfl⟩)
      · refine m_tableIn F e_X7_readLine_39 (by omega) (by omega) (off := 73) (tgt := 112) (by rw [hv]; rfl) (by decide) ?_
        refine m_aload_n F rfl e_X7_readLine_112 ?_
        refine t_callV F e_X7_readLine_113 (s_X7_readFee (x_l X) V b M Z T _ _ a  h4548.1 hk  (by omega)) cb_X7_readFee ml_X7_104 im_X7_readFee se_X7_readFee (fun _ => o3) h4548 hk rfl rfl (rest := []) rfl (Nat.le_of_ble_eq_true rfl) ⟨Nat.le_of_ble_eq_true rfl, Nat.le_of_ble_eq_true rfl⟩ ⟨Nat.le_of_ble_eq_true rfl, Nat.le_of_ble_eq_true rfl⟩ (fun r σ4571 hp => ?_)
        obtain ⟨h4573, rfl⟩ := hp
        have h4572 := HK.trans h4548 h4573 (by decide)
        refine m_goto F e_X7_readLine_116 ?_
        exact m_vret F hQ e_X7_readLine_144 (⟨h4572, rfl⟩)
      · refine m_tableIn F e_X7_readLine_39 (by omega) (by omega) (off := 80) (tgt := 119) (by rw [hv]; rfl) (by decide) ?_
        refine m_aload_n F rfl e_X7_readLine_119 ?_
        refine t_callV F e_X7_readLine_120 (s_X7_readTied (x_l X) V b M Z T _ _ a  h4548.1 hk  (by omega)) cb_X7_readTied ml_X7_107 im_X7_readTied se_X7_readTied (fun _ => o3) h4548 hk rfl rfl (rest := []) rfl (Nat.le_of_ble_eq_true rfl) ⟨Nat.le_of_ble_eq_true rfl, Nat.le_of_ble_eq_true rfl⟩ ⟨Nat.le_of_ble_eq_true rfl, Nat.le_of_ble_eq_true rfl⟩ (fun r σ4574 hp => ?_)
        obtain ⟨h4576, rfl⟩ := hp
        have h4575 := HK.trans h4548 h4576 (by decide)
        refine m_goto F e_X7_readLine_123 ?_
        exact m_vret F hQ e_X7_readLine_144 (⟨h4575, rfl⟩)
      · refine m_tableIn F e_X7_readLine_39 (by omega) (by omega) (off := 87) (tgt := 126) (by rw [hv]; rfl) (by decide) ?_
        refine m_aload_n F rfl e_X7_readLine_126 ?_
        refine t_callV F e_X7_readLine_127 (s_X7_readIndex (x_l X) V b M Z T _ _ a  h4548.1 hk  (by omega)) cb_X7_readIndex ml_X7_110 im_X7_readIndex se_X7_readIndex (fun _ => o3) h4548 hk rfl rfl (rest := []) rfl (Nat.le_of_ble_eq_true rfl) ⟨Nat.le_of_ble_eq_true rfl, Nat.le_of_ble_eq_true rfl⟩ ⟨Nat.le_of_ble_eq_true rfl, Nat.le_of_ble_eq_true rfl⟩ (fun r σ4577 hp => ?_)
        obtain ⟨h4579, rfl⟩ := hp
        have h4578 := HK.trans h4548 h4579 (by decide)
        refine m_goto F e_X7_readLine_130 ?_
        exact m_vret F hQ e_X7_readLine_144 (⟨h4578, rfl⟩)
      · refine m_tableIn F e_X7_readLine_39 (by omega) (by omega) (off := 94) (tgt := 133) (by rw [hv]; rfl) (by decide) ?_
        refine m_aload_n F rfl e_X7_readLine_133 ?_
        refine t_callV F e_X7_readLine_134 (s_X7_readOption (x_l X) V b M Z T _ _ a  h4548.1 hk  (by omega)) cb_X7_readOption ml_X7_113 im_X7_readOption se_X7_readOption (fun _ => o3) h4548 hk rfl rfl (rest := []) rfl (Nat.le_of_ble_eq_true rfl) ⟨Nat.le_of_ble_eq_true rfl, Nat.le_of_ble_eq_true rfl⟩ ⟨Nat.le_of_ble_eq_true rfl, Nat.le_of_ble_eq_true rfl⟩ (fun r σ4580 hp => ?_)
        obtain ⟨h4582, rfl⟩ := hp
        have h4581 := HK.trans h4548 h4582 (by decide)
        refine m_goto F e_X7_readLine_137 ?_
        exact m_vret F hQ e_X7_readLine_144 (⟨h4581, rfl⟩)
set_option maxRecDepth 20000 in
theorem lp_X7_read_6 {V : VX} {X : MX} {b M Z T N : Nat} {σ : Mem} {a : Nat}   (F : Fx V X yX7_read cX7_read 2 none (rmd 8 0 0)) (hQ : Rt V X 0 0 N (fun r τ => HK V (b, M, Z, T) [0, 1, 12] σ τ ∧ r = none)) (hk : kA b a = 3) (hM : M + 0 ≤ 1000000000)  : ∀ (fuel : Nat) (i : Nat) (τ : Mem), HK V (b, M, Z, T) [0, 1, 12] σ τ → i ≤ 700 → 700 - i < fuel → Wm V X 2 N τ 0 0 6 [(1, .int (nI i)), (0, .ref a)] [] := by
  intro fuel
  induction fuel with
  | zero => intro i τ h1 hi hm; exact absurd hm (Nat.not_lt_zero _)
  | succ fuel ih =>
    intro i τ h1 hi hm
    refine m_iload_n F rfl e_X7_read_6 ?_
    refine m_sipush F (v := 700) (by decide) e_X7_read_7 ?_
    refine m_icmp_ge F e_X7_read_10 (fun q10 => ?_) (fun q10 => ?_)
    · have c10 : i ≥ 700 := (nI_leI (a := 700) (b := i) (by omega) (by omega)).mp q10
      exact m_vret F hQ e_X7_read_41 (⟨h1, rfl⟩)
    · have c10 : i < 700 := by have hh := mt (nI_leI (a := 700) (b := i) (by omega) (by omega)).mpr q10; omega
      refine m_aload_n F rfl e_X7_read_13 ?_
      refine t_get F e_X7_read_14 fl_X7_55 (fun _ => o3) h1 hk rfl (fun v hv f4583 => ?_)
      obtain ⟨x4584, hx4584, rfl⟩ := hv
      replace hx4584 : Z = 0 → x4584 ≠ 0 := hx4584
      refine m_if_ne F e_X7_read_17 (fun q17 => ?_) (fun q17 => ?_)
      · exact m_vret F hQ e_X7_read_41 (⟨h1, rfl⟩)
      · refine m_aload_n F rfl e_X7_read_20 ?_
        refine t_get F e_X7_read_21 fl_X7_61 (fun _ => o3) h1 hk rfl (fun v hv f4585 => ?_)
        obtain ⟨x4586, rfl⟩ := hv
        refine m_if_eq F e_X7_read_24 (fun q24 => ?_) (fun q24 => ?_)
        · exact m_vret F hQ e_X7_read_41 (⟨h1, rfl⟩)
        · refine m_aload_n F rfl e_X7_read_27 ?_
          refine t_callV F e_X7_read_28 (s_X7_readLine (x_l X) V b M Z T _ _ a  h1.1 hk  (by omega)) cb_X7_readLine ml_X7_64 im_X7_readLine se_X7_readLine (fun _ => o3) h1 hk rfl rfl (rest := []) rfl (Nat.le_of_ble_eq_true rfl) ⟨Nat.le_of_ble_eq_true rfl, Nat.le_of_ble_eq_true rfl⟩ ⟨Nat.le_of_ble_eq_true rfl, Nat.le_of_ble_eq_true rfl⟩ (fun r σ4587 hp => ?_)
          obtain ⟨h4589, rfl⟩ := hp
          have h4588 := HK.trans h1 h4589 (by decide)
          refine m_aload_n F rfl e_X7_read_31 ?_
          refine t_callV F e_X7_read_32 (s_X7_readStop (x_l X) V b M Z T _ _ a  h4588.1 hk  (by omega)) cb_X7_readStop ml_X7_67 im_X7_readStop se_X7_readStop (fun _ => o3) h4588 hk rfl rfl (rest := []) rfl (Nat.le_of_ble_eq_true rfl) ⟨Nat.le_of_ble_eq_true rfl, Nat.le_of_ble_eq_true rfl⟩ ⟨Nat.le_of_ble_eq_true rfl, Nat.le_of_ble_eq_true rfl⟩ (fun r σ4590 hp => ?_)
          obtain ⟨h4592, rfl⟩ := hp
          have h4591 := HK.trans h4588 h4592 (by decide)
          refine m_iinc F (v := nI (i + 1)) (lv' := [(1, .int (nI (i + 1))), (0, .ref a)]) e_X7_read_35 rfl (nI_add i 1) (by decide) rfl ?_
          refine m_goto F e_X7_read_38 ?_
          exact ih (i + 1) _ h4591 (by omega) (by omega)
set_option maxRecDepth 20000 in
theorem s_X7_read (l : Launch) (V : VX) (b M Z T N : Nat) (σ : Mem) (a : Nat) (h0 : HT V (b, M, Z, T) σ) (hk : kA b a = 3) (hM : M + 0 ≤ 1000000000) : Ct l V yX7_read cX7_read 2 none 8 0 0 N σ [.ref a] (fun r τ => HK V (b, M, Z, T) [0, 1, 12] σ τ ∧ r = none) := by
  refine Ct.of (by decide) (Nat.le_of_ble_eq_true rfl) [(0, .ref a)] rfl (fun X hX F hQ => ?_)
  have h1 : HK V (b, M, Z, T) [0, 1, 12] σ σ := HK.start h0
  refine m_aload_n F rfl e_X7_read_0 ?_
  refine t_callV F e_X7_read_1 (s_X7_advance (x_l X) V b M Z T _ _ a  h1.1 hk  (by omega)) cb_X7_advance ml_X7_58 im_X7_advance se_X7_advance (fun _ => o3) h1 hk rfl rfl (rest := []) rfl (Nat.le_of_ble_eq_true rfl) ⟨Nat.le_of_ble_eq_true rfl, Nat.le_of_ble_eq_true rfl⟩ ⟨Nat.le_of_ble_eq_true rfl, Nat.le_of_ble_eq_true rfl⟩ (fun r σ4593 hp => ?_)
  obtain ⟨h4595, rfl⟩ := hp
  have h4594 := HK.trans h1 h4595 (by decide)
  refine m_iconst F (v := 0) (by decide) e_X7_read_4 ?_
  refine m_istore_n F (lv' := [(1, .int 0), (0, .ref a)]) e_X7_read_5 (by decide) rfl ?_
  exact lp_X7_read_6 F hQ hk hM (700 - 0 + 1) 0 _ h4594 (by omega) (Nat.lt_succ_self _)
set_option maxRecDepth 20000 in
theorem s_X9_text (l : Launch) (V : VX) (b M Z T N : Nat) (σ : Mem) (a : Nat) (x901 : Int32) (h0 : HT V (b, M, Z, T) σ) (hk : kA b a = 1) (hp0 : T ≤ 700) (hM : M + 0 ≤ 1000000000) : Ct l V yX9_text cX9_text 3 (some .int) 9 0 0 N σ [.ref a, .int x901] (fun r τ => (∃ x : Int32, r = some (.int x)) ∧ ((x901 < 0 ∧ HK V (b, M, 1, T) [0] σ τ) ∨ ∃ n : Nat, n ≤ 2147483647 ∧ x901 = nI n ∧ ((T < n ∧ HK V (b, M, 1, T) [0] σ τ) ∨ (n ≤ T ∧ HK V (b, M, 1, 0) [0] σ τ)))) := by
  refine Ct.of (by decide) (Nat.le_of_ble_eq_true rfl) [(0, .ref a), (1, .int x901)] rfl (fun X hX F hQ => ?_)
  have h1 : HK V (b, M, Z, T) [0] σ σ := HK.start h0
  refine m_iload_n F rfl e_X9_text_0 ?_
  refine m_if_lt F e_X9_text_1 (fun q1 => ?_) (fun q1 => ?_)
  · refine m_bipush F (v := (-2)) (by decide) e_X9_text_12 ?_
    exact m_iret F hQ e_X9_text_14 (⟨⟨_, rfl⟩, Or.inl ⟨q1, (h1.mono (M' := M) (Z' := 1) (Nat.le_refl _) (fun e => absurd e (by decide)))⟩⟩)
  · obtain ⟨n4596, hn4596, rfl⟩ := nI_nn (x := x901) (fun e => q1 (Int32.lt_of_lt_of_le e (by decide)))
    have c1 : n4596 ≥ 0 := by have hh := mt (nI_ltI (a := n4596) (b := 0) (by omega) (by omega)).mpr q1; omega
    refine m_iload_n F rfl e_X9_text_4 ?_
    refine m_aload_n F rfl e_X9_text_5 ?_
    refine t_get F e_X9_text_6 fl_X9_52 (fun _ => o1) h1 hk rfl (fun v hv f4597 => ?_)
    obtain rfl : v = .int (nI (T)) := hv
    refine m_icmp_le F e_X9_text_9 (fun q9 => ?_) (fun q9 => ?_)
    · have c9 : n4596 ≤ T := (nI_leI (a := n4596) (b := T) (by omega) (by omega)).mp q9
      refine m_aload_n F rfl e_X9_text_15 ?_
      refine t_get F e_X9_text_16 fl_X9_20 (fun _ => o1) h1 hk rfl (fun v hv f4598 => ?_)
      obtain ⟨r4599, k4600, rfl⟩ := hv
      refine m_astore_n F (lv' := [(2, .ref r4599), (0, .ref a), (1, .int (nI n4596))]) e_X9_text_19 (by decide) rfl ?_
      refine m_aload_n F rfl e_X9_text_20 ?_
      refine t_callV F e_X9_text_21 (s_X2_clear (x_l X) V b M Z T _ _ r4599  h1.1 k4600  (by omega)) cb_X2_clear ml_X9_60 im_X2_clear se_X2_clear (fun _ => o7) h1 k4600 rfl rfl (rest := []) rfl (Nat.le_of_ble_eq_true rfl) ⟨Nat.le_of_ble_eq_true rfl, Nat.le_of_ble_eq_true rfl⟩ ⟨Nat.le_of_ble_eq_true rfl, Nat.le_of_ble_eq_true rfl⟩ (fun r σ4601 hp => ?_)
      obtain ⟨h4603, rfl⟩ := hp
      have h4602 := HK.trans h1 h4603 (by decide)
      refine m_aload_n F rfl e_X9_text_24 ?_
      refine t_get F e_X9_text_25 fl_X9_28 (fun _ => o1) h4602 hk rfl (fun v hv f4604 => ?_)
      obtain ⟨r4605, k4606, rfl⟩ := hv
      refine m_iload_n F rfl e_X9_text_28 ?_
      refine m_aload_n F rfl e_X9_text_29 ?_
      refine t_callV F e_X9_text_30 (s_X7_begin (x_l X) V b M Z T _ _ r4605 n4596 r4599 h4602.1 k4606 (by omega) k4600 (by omega)) cb_X7_begin ml_X9_63 im_X7_begin se_X7_begin (fun _ => o3) h4602 k4606 rfl rfl (rest := []) rfl (Nat.le_of_ble_eq_true rfl) ⟨Nat.le_of_ble_eq_true rfl, Nat.le_of_ble_eq_true rfl⟩ ⟨Nat.le_of_ble_eq_true rfl, Nat.le_of_ble_eq_true rfl⟩ (fun r σ4607 hp => ?_)
      obtain ⟨h4609, rfl⟩ := hp
      have h4608 := HK.trans h4602 h4609 (by decide)
      refine m_aload_n F rfl e_X9_text_33 ?_
      refine t_getC F e_X9_text_34 fl_X9_28 (fun _ => o1) h4608 hk ((fld_eq (h4609.2 a (by rw [show kA _ a = 1 from hk]; decide))).trans f4604) ?_
      refine t_callV F e_X9_text_37 (s_X7_read (x_l X) V b M 1 T _ _ r4605  h4608.1 k4606  (by omega)) cb_X7_read ml_X9_67 im_X7_read se_X7_read (fun _ => o3) h4608 k4606 rfl rfl (rest := []) rfl (Nat.le_of_ble_eq_true rfl) ⟨Nat.le_of_ble_eq_true rfl, Nat.le_of_ble_eq_true rfl⟩ ⟨Nat.le_of_ble_eq_true rfl, Nat.le_of_ble_eq_true rfl⟩ (fun r σ4610 hp => ?_)
      obtain ⟨h4612, rfl⟩ := hp
      have h4611 := HK.trans h4608 h4612 (by decide)
      refine m_aload_n F rfl e_X9_text_40 ?_
      refine m_iconst F (v := 0) (by decide) e_X9_text_41 ?_
      refine t_putT F (T' := 0) e_X9_text_42 fp_X9_52 h4611 hk (by decide) (fun σ4613 h4614 g4615 g4616 f4617 => ?_)
      refine m_aload_n F rfl e_X9_text_45 ?_
      refine t_getC F e_X9_text_46 fl_X9_28 (fun _ => o1) h4614 hk ((g4616 4 (by decide)).trans ((fld_eq (h4612.2 a (by rw [show kA _ a = 1 from hk]; decide))).trans ((fld_eq (h4609.2 a (by rw [show kA _ a = 1 from hk]; decide))).trans f4604))) ?_
      refine t_get F e_X9_text_49 fl_X9_70 (fun _ => o3) h4614 k4606 rfl (fun v hv f4618 => ?_)
      obtain ⟨x4619, hx4619, rfl⟩ := hv
      replace hx4619 : 1 = 0 → x4619 ≠ 0 := hx4619
      refine m_if_eq F e_X9_text_52 (fun q52 => ?_) (fun q52 => ?_)
      · refine m_aload_n F rfl e_X9_text_57 ?_
        refine m_aload_n F rfl e_X9_text_58 ?_
        refine t_get F e_X9_text_59 fl_X9_42 (fun _ => o1) h4614 hk rfl (fun v hv f4620 => ?_)
        obtain ⟨r4621, k4622, rfl⟩ := hv
        refine t_callV F e_X9_text_62 (s_X2_findRates (x_l X) V b M 1 0 _ _ r4599 r4621 h4614.1 k4600 k4622 (by omega)) cb_X2_findRates ml_X9_73 im_X2_findRates se_X2_findRates (fun _ => o7) h4614 k4600 rfl rfl (rest := []) rfl (Nat.le_of_ble_eq_true rfl) ⟨Nat.le_of_ble_eq_true rfl, Nat.le_of_ble_eq_true rfl⟩ ⟨Nat.le_of_ble_eq_true rfl, Nat.le_of_ble_eq_true rfl⟩ (fun r σ4623 hp => ?_)
        obtain ⟨h4625, rfl⟩ := hp
        have h4624 := HK.trans h4614 h4625 (by decide)
        refine m_aload_n F rfl e_X9_text_65 ?_
        refine m_aload_n F rfl e_X9_text_66 ?_
        refine t_get F e_X9_text_67 fl_X9_16 (fun _ => o1) h4624 hk rfl (fun v hv f4626 => ?_)
        obtain ⟨r4627, k4628, rfl⟩ := hv
        refine t_put F e_X9_text_70 fp_X9_20 (fun _ => o1) h4624 hk rfl ⟨_, k4628, rfl⟩ rfl rfl (by decide) (fun σ4629 h4630 g4631 g4632 f4633 => ?_)
        refine m_aload_n F rfl e_X9_text_73 ?_
        refine m_aload_n F rfl e_X9_text_74 ?_
        refine t_put F e_X9_text_75 fp_X9_16 (fun _ => o1) h4630 hk rfl ⟨_, k4600, rfl⟩ rfl rfl (by decide) (fun σ4634 h4635 g4636 g4637 f4638 => ?_)
        refine m_aload_n F rfl e_X9_text_78 ?_
        refine m_iconst F (v := 0) (by decide) e_X9_text_79 ?_
        refine t_put F e_X9_text_80 fp_X9_77 (fun _ => o1) h4635 hk rfl ⟨0, (show 0 ≤ 1 by omega), rfl⟩ (by decide) rfl (by decide) (fun σ4639 h4640 g4641 g4642 f4643 => ?_)
        refine m_aload_n F rfl e_X9_text_83 ?_
        refine t_callV F e_X9_text_84 (s_X9_forgetPast (x_l X) V b M 1 0 _ _ a  h4640.1 hk  (by omega)) cb_X9_forgetPast ml_X9_81 im_X9_forgetPast se_X9_forgetPast (fun _ => o1) h4640 hk rfl rfl (rest := []) rfl (Nat.le_of_ble_eq_true rfl) ⟨Nat.le_of_ble_eq_true rfl, Nat.le_of_ble_eq_true rfl⟩ ⟨Nat.le_of_ble_eq_true rfl, Nat.le_of_ble_eq_true rfl⟩ (fun r σ4644 hp => ?_)
        obtain ⟨h4646, rfl⟩ := hp
        have h4645 := HK.trans h4640 h4646 (by decide)
        refine m_aload_n F rfl e_X9_text_87 ?_
        refine t_get F e_X9_text_88 fl_X9_28 (fun _ => o1) h4645 hk rfl (fun v hv f4647 => ?_)
        obtain ⟨r4648, k4649, rfl⟩ := hv
        refine t_get F e_X9_text_91 fl_X9_84 (fun _ => o3) h4645 k4649 rfl (fun v hv f4650 => ?_)
        obtain ⟨x4651, rfl⟩ := hv
        exact m_iret F hQ e_X9_text_94 (⟨⟨_, rfl⟩, Or.inr ⟨n4596, by omega, rfl, Or.inr ⟨by omega, (h4645.mono (M' := M) (Z' := 1) (Nat.le_refl _) (fun e => absurd e (by decide)))⟩⟩⟩)
      · refine m_iconst F (v := (-1)) (by decide) e_X9_text_55 ?_
        exact m_iret F hQ e_X9_text_56 (⟨⟨_, rfl⟩, Or.inr ⟨n4596, by omega, rfl, Or.inr ⟨by omega, (h4614.mono (M' := M) (Z' := 1) (Nat.le_refl _) (fun e => absurd e (by decide)))⟩⟩⟩)
    · have c9 : n4596 > T := by have hh := mt (nI_leI (a := n4596) (b := T) (by omega) (by omega)).mpr q9; omega
      refine m_bipush F (v := (-2)) (by decide) e_X9_text_12 ?_
      exact m_iret F hQ e_X9_text_14 (⟨⟨_, rfl⟩, Or.inr ⟨n4596, by omega, rfl, Or.inl ⟨by omega, (h1.mono (M' := M) (Z' := 1) (Nat.le_refl _) (fun e => absurd e (by decide)))⟩⟩⟩)
