set_option maxRecDepth 20000 in
theorem s_X9_leaseAt (l : Launch) (V : VX) (b M Z T N : Nat) (σ : Mem) (a : Nat) (x901 : Int32) (h0 : HT V (b, M, Z, T) σ) (hk : kA b a = 1) (hM : M + 0 ≤ 1000000000) : Ct l V yX9_leaseAt cX9_leaseAt 2 (some (.object "LeaseLedger$Lease")) 0 0 0 N σ [.ref a, .int x901] (fun r τ => HK V (b, M, Z, T) [0, 1, 3, 7, 12, 15, 19] σ τ ∧ (r = some .null ∨ ∃ n q : Nat, n ≤ 3 ∧ x901 = nI n ∧ kA b q = 15 ∧ r = some (.ref q))) := by
  refine Ct.of (by decide) (Nat.le_of_ble_eq_true rfl) [(0, .ref a), (1, .int x901)] rfl (fun X hX F hQ => ?_)
  have h1 : HK V (b, M, Z, T) [0, 1, 3, 7, 12, 15, 19] σ σ := HK.start h0
  refine m_iload_n F rfl e_X9_leaseAt_0 ?_
  refine m_if_lt F e_X9_leaseAt_1 (fun q1 => ?_) (fun q1 => ?_)
  · refine m_null F e_X9_leaseAt_27 ?_
    exact m_aret F hQ e_X9_leaseAt_28 (Or.inl rfl) (⟨h1, Or.inl rfl⟩)
  · obtain ⟨n2109, hn2109, rfl⟩ := nI_nn (x := x901) (fun e => q1 (Int32.lt_of_lt_of_le e (by decide)))
    have c1 : n2109 ≥ 0 := by have hh := mt (nI_ltI (a := n2109) (b := 0) (by omega) (by omega)).mpr q1; omega
    refine m_iload_n F rfl e_X9_leaseAt_4 ?_
    refine m_aload_n F rfl e_X9_leaseAt_5 ?_
    refine t_get F e_X9_leaseAt_6 fl_X9_16 (fun _ => o1) h1 hk rfl (fun v hv f2110 => ?_)
    obtain ⟨r2111, k2112, rfl⟩ := hv
    refine t_get F e_X9_leaseAt_9 fl_X9_358 (fun _ => o7) h1 k2112 rfl (fun v hv f2113 => ?_)
    obtain ⟨n2114, hn2114, rfl⟩ := hv
    replace hn2114 : n2114 ≤ 4 := hn2114
    refine m_icmp_ge F e_X9_leaseAt_12 (fun q12 => ?_) (fun q12 => ?_)
    · have c12 : n2109 ≥ n2114 := (nI_leI (a := n2114) (b := n2109) (by omega) (by omega)).mp q12
      refine m_null F e_X9_leaseAt_27 ?_
      exact m_aret F hQ e_X9_leaseAt_28 (Or.inl rfl) (⟨h1, Or.inl rfl⟩)
    · have c12 : n2109 < n2114 := by have hh := mt (nI_leI (a := n2114) (b := n2109) (by omega) (by omega)).mpr q12; omega
      refine m_aload_n F rfl e_X9_leaseAt_15 ?_
      refine t_getC F e_X9_leaseAt_16 fl_X9_16 (fun _ => o1) h1 hk (f2110) ?_
      refine t_get F e_X9_leaseAt_19 fl_X9_226 (fun _ => o7) h1 k2112 rfl (fun v hv f2115 => ?_)
      obtain ⟨r2116, k2117, rfl⟩ := hv
      refine m_iload_n F rfl e_X9_leaseAt_22 ?_
      refine t_aald F (len := 4) (j := n2109) e_X9_leaseAt_23 (fun _ => o8) rfl h1 k2117 (nI_clamp (by omega)) (vp_in_nI (by omega) (by decide)) (fun r2118 k2119 => ?_)
      refine m_goto F e_X9_leaseAt_24 ?_
      exact m_aret F hQ e_X9_leaseAt_28 (Or.inr ⟨_, rfl⟩) (⟨h1, Or.inr ⟨n2109, _, by omega, rfl, k2119, rfl⟩⟩)
set_option maxRecDepth 20000 in
theorem s_X9_runningAt (l : Launch) (V : VX) (b M Z T N : Nat) (σ : Mem) (a : Nat) (x901 : Int32) (h0 : HT V (b, M, Z, T) σ) (hk : kA b a = 1) (hM : M + 0 ≤ 1000000000) : Ct l V yX9_runningAt cX9_runningAt 3 (some (.object "LeaseLedger$Lease")) 1 0 0 N σ [.ref a, .int x901] (fun r τ => HK V (b, M, Z, T) [0, 1, 3, 7, 12, 15, 19] σ τ ∧ (r = some .null ∨ ∃ n q : Nat, n ≤ 3 ∧ x901 = nI n ∧ kA b q = 15 ∧ r = some (.ref q))) := by
  refine Ct.of (by decide) (Nat.le_of_ble_eq_true rfl) [(0, .ref a), (1, .int x901)] rfl (fun X hX F hQ => ?_)
  have h1 : HK V (b, M, Z, T) [0, 1, 3, 7, 12, 15, 19] σ σ := HK.start h0
  refine m_aload_n F rfl e_X9_runningAt_0 ?_
  refine m_iload_n F rfl e_X9_runningAt_1 ?_
  refine t_callV F e_X9_runningAt_2 (s_X9_leaseAt (x_l X) V b M Z T _ _ a x901 h1.1 hk  (by omega)) cb_X9_leaseAt ml_X9_103 im_X9_leaseAt se_X9_leaseAt (fun _ => o1) h1 hk rfl rfl (rest := []) rfl (Nat.le_of_ble_eq_true rfl) ⟨Nat.le_of_ble_eq_true rfl, Nat.le_of_ble_eq_true rfl⟩ ⟨Nat.le_of_ble_eq_true rfl, Nat.le_of_ble_eq_true rfl⟩ (fun r σ2120 hp => ?_)
  obtain ⟨h2122, c2123⟩ := hp
  have h2121 := HK.trans h1 h2122 (by decide)
  rcases c2123 with rfl | ⟨n2124, r2125, hn2124, en2124, k2126, rfl⟩
  · refine m_astore_nN F (lv' := [(2, .null), (0, .ref a), (1, .int x901)]) e_X9_runningAt_5 (by decide) rfl ?_
    refine m_aload_nN F rfl e_X9_runningAt_6 ?_
    refine m_ifnullN F e_X9_runningAt_7 ?_
    refine m_null F e_X9_runningAt_22 ?_
    exact m_aret F hQ e_X9_runningAt_23 (Or.inl rfl) (⟨h2121, Or.inl rfl⟩)
  · subst en2124
    refine m_astore_n F (lv' := [(2, .ref r2125), (0, .ref a), (1, .int (nI n2124))]) e_X9_runningAt_5 (by decide) rfl ?_
    refine m_aload_n F rfl e_X9_runningAt_6 ?_
    refine m_ifnullR F e_X9_runningAt_7 ?_
    refine m_aload_n F rfl e_X9_runningAt_10 ?_
    refine t_get F e_X9_runningAt_11 fl_X9_125 (fun _ => o15) h2121 k2126 rfl (fun v hv f2127 => ?_)
    obtain ⟨x2128, rfl⟩ := hv
    refine m_iconst F (v := 1) (by decide) e_X9_runningAt_14 ?_
    refine m_icmp_ne F e_X9_runningAt_15 (fun q15 => ?_) (fun q15 => ?_)
    · refine m_null F e_X9_runningAt_22 ?_
      exact m_aret F hQ e_X9_runningAt_23 (Or.inl rfl) (⟨h2121, Or.inl rfl⟩)
    · refine m_aload_n F rfl e_X9_runningAt_18 ?_
      refine m_goto F e_X9_runningAt_19 ?_
      exact m_aret F hQ e_X9_runningAt_23 (Or.inr ⟨_, rfl⟩) (⟨h2121, Or.inr ⟨n2124, _, by omega, rfl, k2126, rfl⟩⟩)
set_option maxRecDepth 20000 in
theorem s_X9_coming (l : Launch) (V : VX) (b M Z T N : Nat) (σ : Mem) (a : Nat) (n901 : Nat) (h0 : HT V (b, M, Z, T) σ) (hk : kA b a = 1) (hn901 : n901 ≤ 1000) (hM : M + 0 ≤ 1000000000) : Ct l V yX9_coming cX9_coming 2 (some .int) 1 0 0 N σ [.ref a, .int (nI n901)] (fun r τ => HK V (b, M, Z, T) [0, 1, 3, 7, 12, 15, 19] σ τ ∧ ∃ n : Nat, n ≤ n901 ∧ r = some (.int (nI n))) := by
  refine Ct.of (by decide) (Nat.le_of_ble_eq_true rfl) [(0, .ref a), (1, .int (nI n901))] rfl (fun X hX F hQ => ?_)
  have h1 : HK V (b, M, Z, T) [0, 1, 3, 7, 12, 15, 19] σ σ := HK.start h0
  refine m_iconst F (v := 0) (by decide) e_X9_coming_0 ?_
  refine m_iload_n F rfl e_X9_coming_1 ?_
  refine m_bipush F (v := 99) (by decide) e_X9_coming_2 ?_
  refine m_aload_n F rfl e_X9_coming_4 ?_
  refine t_get F e_X9_coming_5 fl_X9_16 (fun _ => o1) h1 hk rfl (fun v hv f2129 => ?_)
  obtain ⟨r2130, k2131, rfl⟩ := hv
  refine t_get F e_X9_coming_8 fl_X9_94 (fun _ => o7) h1 k2131 rfl (fun v hv f2132 => ?_)
  obtain ⟨n2133, hn2133, rfl⟩ := hv
  replace hn2133 : n2133 ≤ M := hn2133
  refine m_isub F e_X9_coming_11 ?_
  refine Wm.top (fun x2134 _ => ?_)
  refine m_min F e_X9_coming_12 ml_X9_386 sm_min ini_math co_min (Nat.le_of_ble_eq_true rfl) (Nat.le_of_ble_eq_true rfl) (Nat.le_of_ble_eq_true rfl) (Nat.le_of_ble_eq_true rfl) ?_
  refine m_max F e_X9_coming_15 ml_X9_392 sm_max ini_math co_max (Nat.le_of_ble_eq_true rfl) (Nat.le_of_ble_eq_true rfl) (Nat.le_of_ble_eq_true rfl) (Nat.le_of_ble_eq_true rfl) ?_
  obtain ⟨n77, hn77, e77⟩ := clampN (n := n901) (by omega) x2134
  refine Wm.topE (w := nI n77) (e77) ?_
  exact m_iret F hQ e_X9_coming_18 (⟨h1, n77, by omega, rfl⟩)
set_option maxRecDepth 20000 in
theorem lp_X9_bookIn_19 {V : VX} {X : MX} {b M Z T N : Nat} {σ : Mem} {a : Nat} {n901 : Nat}  (F : Fx V X yX9_bookIn cX9_bookIn 4 (some (.object "LeaseLedger$Book")) (rmd 6 0 0)) (hQ : Rt V X 0 0 N (fun r τ => HK V (b, M + 648, Z, T) [0, 1, 3] σ τ ∧ ∃ q : Nat, kA b q = 7 ∧ r = some (.ref q))) (hk : kA b a = 1) (hn901 : n901 ≤ 72) (hM : M + 648 ≤ 1000000000)  : ∀ (fuel : Nat) (i : Nat) (c : Nat) (τ : Mem), HK V (b, M + 9 * i, Z, T) [0, 1, 3] σ τ → i ≤ 72 ∧ c ≤ 72 → 72 - i < fuel → Wm V X 4 N τ 0 0 19 [(3, .int (nI i)), (2, .int (nI c)), (0, .ref a), (1, .int (nI n901))] [] := by
  intro fuel
  induction fuel with
  | zero => intro i c τ h1 hi hm; exact absurd hm (Nat.not_lt_zero _)
  | succ fuel ih =>
    intro i c τ h1 hi hm
    refine m_iload_n F rfl e_X9_bookIn_19 ?_
    refine m_iload_n F rfl e_X9_bookIn_20 ?_
    refine m_icmp_ge F e_X9_bookIn_21 (fun q21 => ?_) (fun q21 => ?_)
    · have c21 : i ≥ c := (nI_leI (a := c) (b := i) (by omega) (by omega)).mp q21
      refine m_aload_n F rfl e_X9_bookIn_37 ?_
      refine t_get F e_X9_bookIn_38 fl_X9_20 (fun _ => o1) h1 hk rfl (fun v hv f2135 => ?_)
      obtain ⟨r2136, k2137, rfl⟩ := hv
      exact m_aret F hQ e_X9_bookIn_41 (Or.inr ⟨_, rfl⟩) (⟨(h1.mono (M' := M + 648) (Z' := Z) (by omega) (by intro e; first | rfl | assumption | omega)), _, k2137, rfl⟩)
    · have c21 : i < c := by have hh := mt (nI_leI (a := c) (b := i) (by omega) (by omega)).mpr q21; omega
      refine m_aload_n F rfl e_X9_bookIn_24 ?_
      refine t_get F e_X9_bookIn_25 fl_X9_20 (fun _ => o1) h1 hk rfl (fun v hv f2138 => ?_)
      obtain ⟨r2139, k2140, rfl⟩ := hv
      refine t_callV F e_X9_bookIn_28 (s_X2_periodGoesBy (x_l X) V b (M + 9 * i) Z T _ _ r2139  h1.1 k2140  (by omega)) cb_X2_periodGoesBy ml_X9_100 im_X2_periodGoesBy se_X2_periodGoesBy (fun _ => o7) h1 k2140 rfl rfl (rest := []) rfl (Nat.le_of_ble_eq_true rfl) ⟨Nat.le_of_ble_eq_true rfl, Nat.le_of_ble_eq_true rfl⟩ ⟨Nat.le_of_ble_eq_true rfl, Nat.le_of_ble_eq_true rfl⟩ (fun r σ2141 hp => ?_)
      obtain ⟨h2143, rfl⟩ := hp
      have h2142 := HK.trans h1 h2143 (by decide)
      refine m_iinc F (v := nI (i + 1)) (lv' := [(3, .int (nI (i + 1))), (2, .int (nI c)), (0, .ref a), (1, .int (nI n901))]) e_X9_bookIn_31 rfl (nI_add i 1) (by decide) rfl ?_
      refine m_goto F e_X9_bookIn_34 ?_
      exact ih (i + 1) c _ (h2142.mono (M' := M + 9 * (i + 1)) (Z' := Z) (by omega) (by intro e9; first | exact e9 | rfl)) (by omega) (by omega)
set_option maxRecDepth 20000 in
theorem s_X9_bookIn (l : Launch) (V : VX) (b M Z T N : Nat) (σ : Mem) (a : Nat) (n901 : Nat) (h0 : HT V (b, M, Z, T) σ) (hk : kA b a = 1) (hn901 : n901 ≤ 72) (hM : M + 648 ≤ 1000000000) : Ct l V yX9_bookIn cX9_bookIn 4 (some (.object "LeaseLedger$Book")) 6 0 0 N σ [.ref a, .int (nI n901)] (fun r τ => HK V (b, M + 648, Z, T) [0, 1, 3] σ τ ∧ ∃ q : Nat, kA b q = 7 ∧ r = some (.ref q)) := by
  refine Ct.of (by decide) (Nat.le_of_ble_eq_true rfl) [(0, .ref a), (1, .int (nI n901))] rfl (fun X hX F hQ => ?_)
  have h1 : HK V (b, M, Z, T) [0, 1, 3] σ σ := HK.start h0
  refine m_aload_n F rfl e_X9_bookIn_0 ?_
  refine t_get F e_X9_bookIn_1 fl_X9_20 (fun _ => o1) h1 hk rfl (fun v hv f2144 => ?_)
  obtain ⟨r2145, k2146, rfl⟩ := hv
  refine m_aload_n F rfl e_X9_bookIn_4 ?_
  refine t_get F e_X9_bookIn_5 fl_X9_16 (fun _ => o1) h1 hk rfl (fun v hv f2147 => ?_)
  obtain ⟨r2148, k2149, rfl⟩ := hv
  refine t_callV F e_X9_bookIn_8 (s_X2_copyFrom (x_l X) V b M Z T _ _ r2145 r2148 h1.1 k2146 k2149 (by omega)) cb_X2_copyFrom ml_X9_374 im_X2_copyFrom se_X2_copyFrom (fun _ => o7) h1 k2146 rfl rfl (rest := []) rfl (Nat.le_of_ble_eq_true rfl) ⟨Nat.le_of_ble_eq_true rfl, Nat.le_of_ble_eq_true rfl⟩ ⟨Nat.le_of_ble_eq_true rfl, Nat.le_of_ble_eq_true rfl⟩ (fun r σ2150 hp => ?_)
  obtain ⟨h2152, rfl⟩ := hp
  have h2151 := HK.trans h1 h2152 (by decide)
  refine m_aload_n F rfl e_X9_bookIn_11 ?_
  refine m_iload_n F rfl e_X9_bookIn_12 ?_
  refine t_callV F e_X9_bookIn_13 (s_X9_coming (x_l X) V b M Z T _ _ a n901 h2151.1 hk (by omega) (by omega)) cb_X9_coming ml_X9_324 im_X9_coming se_X9_coming (fun _ => o1) h2151 hk rfl rfl (rest := []) rfl (Nat.le_of_ble_eq_true rfl) ⟨Nat.le_of_ble_eq_true rfl, Nat.le_of_ble_eq_true rfl⟩ ⟨Nat.le_of_ble_eq_true rfl, Nat.le_of_ble_eq_true rfl⟩ (fun r σ2153 hp => ?_)
  obtain ⟨h2155, n2156, hn2156, rfl⟩ := hp
  have h2154 := HK.trans h2151 h2155 (by decide)
  refine m_istore_n F (lv' := [(2, .int (nI n2156)), (0, .ref a), (1, .int (nI n901))]) e_X9_bookIn_16 (by decide) rfl ?_
  refine m_iconst F (v := 0) (by decide) e_X9_bookIn_17 ?_
  refine m_istore_n F (lv' := [(3, .int 0), (2, .int (nI n2156)), (0, .ref a), (1, .int (nI n901))]) e_X9_bookIn_18 (by decide) rfl ?_
  exact lp_X9_bookIn_19 F hQ hk hn901 hM (72 - 0 + 1) 0 n2156 _ (h2154.mono (M' := M + 9 * 0) (Z' := Z) (by omega) (by intro e9; first | exact e9 | rfl)) (by omega) (Nat.lt_succ_self _)
set_option maxRecDepth 20000 in
theorem s_X9_remember (l : Launch) (V : VX) (b M Z T N : Nat) (σ : Mem) (a : Nat) (h0 : HT V (b, M, Z, T) σ) (hk : kA b a = 1) (hM : M + 0 ≤ 1000000000) : Ct l V yX9_remember cX9_remember 1 none 4 0 0 N σ [.ref a] (fun r τ => HK V (b, M, Z, T) [0, 3] σ τ ∧ r = none) := by
  refine Ct.of (by decide) (Nat.le_of_ble_eq_true rfl) [(0, .ref a)] rfl (fun X hX F hQ => ?_)
  have h1 : HK V (b, M, Z, T) [0, 3] σ σ := HK.start h0
  refine m_aload_n F rfl e_X9_remember_0 ?_
  refine t_get F e_X9_remember_1 fl_X9_35 (fun _ => o1) h1 hk rfl (fun v hv f2157 => ?_)
  obtain ⟨r2158, k2159, rfl⟩ := hv
  refine m_aload_n F rfl e_X9_remember_4 ?_
  refine t_get F e_X9_remember_5 fl_X9_371 (fun _ => o1) h1 hk rfl (fun v hv f2160 => ?_)
  obtain ⟨n2161, hn2161, rfl⟩ := hv
  replace hn2161 : n2161 ≤ 19 := hn2161
  refine m_aload_n F rfl e_X9_remember_8 ?_
  refine t_get F e_X9_remember_9 fl_X9_368 (fun _ => o1) h1 hk rfl (fun v hv f2162 => ?_)
  obtain ⟨n2163, hn2163, rfl⟩ := hv
  replace hn2163 : n2163 ≤ 20 := hn2163
  refine m_iadd F e_X9_remember_12 ?_
  refine Wm.topE (w := nI (n2161 + n2163)) (nI_add n2161 n2163) ?_
  refine m_bipush F (v := 20) (by decide) e_X9_remember_13 ?_
  refine m_irem F (by decide) e_X9_remember_15 ?_
  refine Wm.topE (w := nI ((n2161 + n2163) % 20)) (pk_rem (a := n2161 + n2163) (d := 20) (by omega) (by decide) (by decide)) ?_
  refine t_aald F (len := 20) (j := (n2161 + n2163) % 20) e_X9_remember_16 (fun _ => o5) rfl h1 k2159 (nI_clamp (by omega)) (vp_in_nI (by omega) (by decide)) (fun r2164 k2165 => ?_)
  refine m_aload_n F rfl e_X9_remember_17 ?_
  refine t_get F e_X9_remember_18 fl_X9_16 (fun _ => o1) h1 hk rfl (fun v hv f2166 => ?_)
  obtain ⟨r2167, k2168, rfl⟩ := hv
  refine t_callV F e_X9_remember_21 (s_X2_copyFrom (x_l X) V b M Z T _ _ r2164 r2167 h1.1 k2165 k2168 (by omega)) cb_X2_copyFrom ml_X9_374 im_X2_copyFrom se_X2_copyFrom (fun _ => o7) h1 k2165 rfl rfl (rest := []) rfl (Nat.le_of_ble_eq_true rfl) ⟨Nat.le_of_ble_eq_true rfl, Nat.le_of_ble_eq_true rfl⟩ ⟨Nat.le_of_ble_eq_true rfl, Nat.le_of_ble_eq_true rfl⟩ (fun r σ2169 hp => ?_)
  obtain ⟨h2171, rfl⟩ := hp
  have h2170 := HK.trans h1 h2171 (by decide)
  refine m_aload_n F rfl e_X9_remember_24 ?_
  refine t_getC F e_X9_remember_25 fl_X9_368 (fun _ => o1) h2170 hk ((fld_eq (h2171.2 a (by rw [show kA _ a = 1 from hk]; decide))).trans f2162) ?_
  refine m_bipush F (v := 20) (by decide) e_X9_remember_28 ?_
  refine m_icmp_ge F e_X9_remember_30 (fun q30 => ?_) (fun q30 => ?_)
  · have c30 : n2163 ≥ 20 := (nI_leI (a := 20) (b := n2163) (by omega) (by omega)).mp q30
    refine m_aload_n F rfl e_X9_remember_46 ?_
    refine m_aload_n F rfl e_X9_remember_47 ?_
    refine t_getC F e_X9_remember_48 fl_X9_371 (fun _ => o1) h2170 hk ((fld_eq (h2171.2 a (by rw [show kA _ a = 1 from hk]; decide))).trans f2160) ?_
    refine m_iconst F (v := 1) (by decide) e_X9_remember_51 ?_
    refine m_iadd F e_X9_remember_52 ?_
    refine Wm.topE (w := nI (n2161 + 1)) (nI_add n2161 1) ?_
    refine m_bipush F (v := 20) (by decide) e_X9_remember_53 ?_
    refine m_irem F (by decide) e_X9_remember_55 ?_
    refine Wm.topE (w := nI ((n2161 + 1) % 20)) (pk_rem (a := n2161 + 1) (d := 20) (by omega) (by decide) (by decide)) ?_
    refine t_put F e_X9_remember_56 fp_X9_371 (fun _ => o1) h2170 hk rfl ⟨(n2161 + 1) % 20, (show (n2161 + 1) % 20 ≤ 19 by omega), rfl⟩ rfl rfl (by decide) (fun σ2172 h2173 g2174 g2175 f2176 => ?_)
    exact m_vret F hQ e_X9_remember_59 (⟨h2173, rfl⟩)
  · have c30 : n2163 < 20 := by have hh := mt (nI_leI (a := 20) (b := n2163) (by omega) (by omega)).mpr q30; omega
    refine m_aload_n F rfl e_X9_remember_33 ?_
    refine m_dup F rfl e_X9_remember_34 ?_
    refine t_getC F e_X9_remember_35 fl_X9_368 (fun _ => o1) h2170 hk ((fld_eq (h2171.2 a (by rw [show kA _ a = 1 from hk]; decide))).trans f2162) ?_
    refine m_iconst F (v := 1) (by decide) e_X9_remember_38 ?_
    refine m_iadd F e_X9_remember_39 ?_
    refine Wm.topE (w := nI (n2163 + 1)) (nI_add n2163 1) ?_
    refine t_put F e_X9_remember_40 fp_X9_368 (fun _ => o1) h2170 hk rfl ⟨n2163 + 1, (show n2163 + 1 ≤ 20 by omega), rfl⟩ rfl rfl (by decide) (fun σ2177 h2178 g2179 g2180 f2181 => ?_)
    refine m_goto F e_X9_remember_43 ?_
    exact m_vret F hQ e_X9_remember_59 (⟨h2178, rfl⟩)
set_option maxRecDepth 20000 in
theorem s_X9_forgetPast (l : Launch) (V : VX) (b M Z T N : Nat) (σ : Mem) (a : Nat) (h0 : HT V (b, M, Z, T) σ) (hk : kA b a = 1) (hM : M + 0 ≤ 1000000000) : Ct l V yX9_forgetPast cX9_forgetPast 1 none 0 0 0 N σ [.ref a] (fun r τ => HK V (b, M, Z, T) [0, 3, 7, 12, 15, 19] σ τ ∧ r = none) := by
  refine Ct.of (by decide) (Nat.le_of_ble_eq_true rfl) [(0, .ref a)] rfl (fun X hX F hQ => ?_)
  have h1 : HK V (b, M, Z, T) [0, 3, 7, 12, 15, 19] σ σ := HK.start h0
  refine m_aload_n F rfl e_X9_forgetPast_0 ?_
  refine m_iconst F (v := 0) (by decide) e_X9_forgetPast_1 ?_
  refine t_put F e_X9_forgetPast_2 fp_X9_371 (fun _ => o1) h1 hk rfl ⟨0, (show 0 ≤ 19 by omega), rfl⟩ rfl rfl (by decide) (fun σ2182 h2183 g2184 g2185 f2186 => ?_)
  refine m_aload_n F rfl e_X9_forgetPast_5 ?_
  refine m_iconst F (v := 0) (by decide) e_X9_forgetPast_6 ?_
  refine t_put F e_X9_forgetPast_7 fp_X9_368 (fun _ => o1) h2183 hk rfl ⟨0, (show 0 ≤ 20 by omega), rfl⟩ rfl rfl (by decide) (fun σ2187 h2188 g2189 g2190 f2191 => ?_)
  exact m_vret F hQ e_X9_forgetPast_10 (⟨h2188, rfl⟩)
set_option maxRecDepth 20000 in
theorem s_X9_isIndex (l : Launch) (V : VX) (b M Z T N : Nat) (σ : Mem) (x901 : Int32) (h0 : HT V (b, M, Z, T) σ)  (hM : M + 0 ≤ 1000000000) : Ct l V yX9_isIndex cX9_isIndex 1 (some .boolean) 0 0 0 N σ [.int x901] (fun r τ => HK V (b, M, Z, T) [0, 1, 3, 7, 12, 15, 19] σ τ ∧ ∃ n : Nat, n ≤ 1 ∧ r = some (.int (nI n))) := by
  refine Ct.of (by decide) (Nat.le_of_ble_eq_true rfl) [(0, .int x901)] rfl (fun X hX F hQ => ?_)
  have h1 : HK V (b, M, Z, T) [0, 1, 3, 7, 12, 15, 19] σ σ := HK.start h0
  refine m_iload_n F rfl e_X9_isIndex_0 ?_
  refine m_sipush F (v := 500) (by decide) e_X9_isIndex_1 ?_
  refine m_icmp_lt F e_X9_isIndex_4 (fun q4 => ?_) (fun q4 => ?_)
  · refine m_iconst F (v := 0) (by decide) e_X9_isIndex_18 ?_
    exact m_zret F hQ e_X9_isIndex_19 (by decide) (⟨h1, 0, by omega, rfl⟩)
  · obtain ⟨n2192, hn2192, rfl⟩ := nI_nn (x := x901) (fun e => q4 (Int32.lt_of_lt_of_le e (by decide)))
    have c4 : n2192 ≥ 500 := by have hh := mt (nI_ltI (a := n2192) (b := 500) (by omega) (by omega)).mpr q4; omega
    refine m_iload_n F rfl e_X9_isIndex_7 ?_
    refine m_sipush F (v := 2000) (by decide) e_X9_isIndex_8 ?_
    refine m_icmp_gt F e_X9_isIndex_11 (fun q11 => ?_) (fun q11 => ?_)
    · have c11 : n2192 > 2000 := (nI_ltI (a := 2000) (b := n2192) (by omega) (by omega)).mp q11
      refine m_iconst F (v := 0) (by decide) e_X9_isIndex_18 ?_
      exact m_zret F hQ e_X9_isIndex_19 (by decide) (⟨h1, 0, by omega, rfl⟩)
    · have c11 : n2192 ≤ 2000 := by have hh := mt (nI_ltI (a := 2000) (b := n2192) (by omega) (by omega)).mpr q11; omega
      refine m_iconst F (v := 1) (by decide) e_X9_isIndex_14 ?_
      refine m_goto F e_X9_isIndex_15 ?_
      exact m_zret F hQ e_X9_isIndex_19 (by decide) (⟨h1, 1, by omega, rfl⟩)
set_option maxRecDepth 20000 in
theorem s_X9_isSort (l : Launch) (V : VX) (b M Z T N : Nat) (σ : Mem) (x901 : Int32) (h0 : HT V (b, M, Z, T) σ)  (hM : M + 0 ≤ 1000000000) : Ct l V yX9_isSort cX9_isSort 1 (some .boolean) 0 0 0 N σ [.int x901] (fun r τ => HK V (b, M, Z, T) [0, 1, 3, 7, 12, 15, 19] σ τ ∧ ∃ n : Nat, n ≤ 1 ∧ r = some (.int (nI n))) := by
  refine Ct.of (by decide) (Nat.le_of_ble_eq_true rfl) [(0, .int x901)] rfl (fun X hX F hQ => ?_)
  have h1 : HK V (b, M, Z, T) [0, 1, 3, 7, 12, 15, 19] σ σ := HK.start h0
  refine m_iload_n F rfl e_X9_isSort_0 ?_
  refine m_if_lt F e_X9_isSort_1 (fun q1 => ?_) (fun q1 => ?_)
  · refine m_iconst F (v := 0) (by decide) e_X9_isSort_14 ?_
    exact m_zret F hQ e_X9_isSort_15 (by decide) (⟨h1, 0, by omega, rfl⟩)
  · obtain ⟨n2193, hn2193, rfl⟩ := nI_nn (x := x901) (fun e => q1 (Int32.lt_of_lt_of_le e (by decide)))
    have c1 : n2193 ≥ 0 := by have hh := mt (nI_ltI (a := n2193) (b := 0) (by omega) (by omega)).mpr q1; omega
    refine m_iload_n F rfl e_X9_isSort_4 ?_
    refine m_bipush F (v := 6) (by decide) e_X9_isSort_5 ?_
    refine m_icmp_ge F e_X9_isSort_7 (fun q7 => ?_) (fun q7 => ?_)
    · have c7 : n2193 ≥ 6 := (nI_leI (a := 6) (b := n2193) (by omega) (by omega)).mp q7
      refine m_iconst F (v := 0) (by decide) e_X9_isSort_14 ?_
      exact m_zret F hQ e_X9_isSort_15 (by decide) (⟨h1, 0, by omega, rfl⟩)
    · have c7 : n2193 < 6 := by have hh := mt (nI_leI (a := 6) (b := n2193) (by omega) (by omega)).mpr q7; omega
      refine m_iconst F (v := 1) (by decide) e_X9_isSort_10 ?_
      refine m_goto F e_X9_isSort_11 ?_
      exact m_zret F hQ e_X9_isSort_15 (by decide) (⟨h1, 1, by omega, rfl⟩)
set_option maxRecDepth 20000 in
theorem s_X9_isWorth (l : Launch) (V : VX) (b M Z T N : Nat) (σ : Mem) (x901 : Int64) (h0 : HT V (b, M, Z, T) σ)  (hM : M + 0 ≤ 1000000000) : Ct l V yX9_isWorth cX9_isWorth 2 (some .boolean) 0 0 0 N σ [.long x901] (fun r τ => HK V (b, M, Z, T) [0, 1, 3, 7, 12, 15, 19] σ τ ∧ ∃ n : Nat, n ≤ 1 ∧ r = some (.int (nI n))) := by
  refine Ct.of (by decide) (Nat.le_of_ble_eq_true rfl) [(0, .long x901)] rfl (fun X hX F hQ => ?_)
  have h1 : HK V (b, M, Z, T) [0, 1, 3, 7, 12, 15, 19] σ σ := HK.start h0
  refine m_lload_n F rfl e_X9_isWorth_0 ?_
  refine m_lconst F (v := 1) (by decide) e_X9_isWorth_1 ?_
  refine m_lcmp F e_X9_isWorth_2 ?_
  refine Wm.top (fun x2194 _ => ?_)
  refine m_if_lt F e_X9_isWorth_3 (fun q3 => ?_) (fun q3 => ?_)
  · refine m_iconst F (v := 0) (by decide) e_X9_isWorth_18 ?_
    exact m_zret F hQ e_X9_isWorth_19 (by decide) (⟨h1, 0, by omega, rfl⟩)
  · obtain ⟨n2195, hn2195, rfl⟩ := nI_nn (x := x2194) (fun e => q3 (Int32.lt_of_lt_of_le e (by decide)))
    have c3 : n2195 ≥ 0 := by have hh := mt (nI_ltI (a := n2195) (b := 0) (by omega) (by omega)).mpr q3; omega
    refine m_lload_n F rfl e_X9_isWorth_6 ?_
    refine m_ldc2 F kc_X9_395 e_X9_isWorth_7 ?_
    refine m_lcmp F e_X9_isWorth_10 ?_
    refine Wm.top (fun x2196 _ => ?_)
    refine m_if_gt F e_X9_isWorth_11 (fun q11 => ?_) (fun q11 => ?_)
    · obtain ⟨n2197, hn2197, rfl⟩ := nI_nn (x := x2196) (fun e => Int32.lt_irrefl (Int32.lt_trans e (Int32.lt_of_le_of_lt (by decide) q11)))
      have c11 : n2197 > 0 := (nI_ltI (a := 0) (b := n2197) (by omega) (by omega)).mp q11
      refine m_iconst F (v := 0) (by decide) e_X9_isWorth_18 ?_
      exact m_zret F hQ e_X9_isWorth_19 (by decide) (⟨h1, 0, by omega, rfl⟩)
    · refine m_iconst F (v := 1) (by decide) e_X9_isWorth_14 ?_
      refine m_goto F e_X9_isWorth_15 ?_
      exact m_zret F hQ e_X9_isWorth_19 (by decide) (⟨h1, 1, by omega, rfl⟩)
set_option maxRecDepth 20000 in
theorem lp_X9_leastTerm_30 {V : VX} {X : MX} {b M Z T N : Nat} {σ : Mem}  {r901 : Nat} {r902 : Nat} {n903 : Nat}  (F : Fx V X yX9_leastTerm cX9_leastTerm 13 (some .long) (rmd 1 0 0)) (hQ : Rt V X 0 0 N (fun r τ => HK V (b, M, Z, T) [0, 1, 3, 7, 12, 15, 19] σ τ ∧ ∃ x : Int64, r = some (.long x))) (k901 : kA b r901 = 6) (k902 : kA b r902 = 6) (hn903 : n903 ≤ 1) (hM : M + 0 ≤ 1000000000)  : ∀ (fuel : Nat) (i : Nat) (q1 : Nat) (q2 : Nat) (u1 : Int64) (u2 : Int64) (τ : Mem), HK V (b, M, Z, T) [0, 1, 3, 7, 12, 15, 19] σ τ → kA b q1 = 6 ∧ kA b q2 = 6 ∧ i ≤ 200 → 200 - i < fuel → Wm V X 13 N τ 0 0 30 [(9, .int (nI i)), (3, .ref q1), (4, .ref q2), (5, .long u1), (7, .long u2)] [] := by
  intro fuel
  induction fuel with
  | zero => intro i q1 q2 u1 u2 τ h1 hi hm; exact absurd hm (Nat.not_lt_zero _)
  | succ fuel ih =>
    intro i q1 q2 u1 u2 τ h1 hi hm
    obtain ⟨kq1, kq2, hi⟩ := hi
    refine m_iload F rfl e_X9_leastTerm_30 ?_
    refine m_sipush F (v := 200) (by decide) e_X9_leastTerm_32 ?_
    refine m_icmp_ge F e_X9_leastTerm_35 (fun q35 => ?_) (fun q35 => ?_)
    · have c35 : i ≥ 200 := (nI_leI (a := 200) (b := i) (by omega) (by omega)).mp q35
      refine m_lload F rfl e_X9_leastTerm_84 ?_
      exact m_lret F hQ e_X9_leastTerm_86 (⟨h1, _, rfl⟩)
    · have c35 : i < 200 := by have hh := mt (nI_leI (a := 200) (b := i) (by omega) (by omega)).mpr q35; omega
      refine m_aload F rfl e_X9_leastTerm_38 ?_
      refine t_callV F e_X9_leastTerm_40 (s_X1_isZero (x_l X) V b M Z T _ _ q2  h1.1 kq2  (by omega)) cb_X1_isZero ml_X9_314 im_X1_isZero se_X1_isZero (fun _ => o6) h1 kq2 rfl rfl (rest := []) rfl (Nat.le_of_ble_eq_true rfl) ⟨Nat.le_of_ble_eq_true rfl, Nat.le_of_ble_eq_true rfl⟩ ⟨Nat.le_of_ble_eq_true rfl, Nat.le_of_ble_eq_true rfl⟩ (fun r σ2198 hp => ?_)
      obtain ⟨h2200, n2201, hn2201, rfl⟩ := hp
      have h2199 := HK.trans h1 h2200 (by decide)
      refine m_if_ne F e_X9_leastTerm_43 (fun q43 => ?_) (fun q43 => ?_)
      · have c43 : n2201 ≠ 0 := by have hh := mt (nI_eq (a := n2201) (b := 0) (by omega) (by omega)).mpr q43; omega
        refine m_lload F rfl e_X9_leastTerm_84 ?_
        exact m_lret F hQ e_X9_leastTerm_86 (⟨h2199, _, rfl⟩)
      · have c43 : n2201 = 0 := (nI_eq (a := n2201) (b := 0) (by omega) (by omega)).mp q43
        refine m_aload_n F rfl e_X9_leastTerm_46 ?_
        refine m_aload F rfl e_X9_leastTerm_47 ?_
        refine t_callV F e_X9_leastTerm_49 (s_X1_takeOut (x_l X) V b M Z T _ _ q1 q2 h2199.1 kq1 kq2 (by omega)) cb_X1_takeOut ml_X9_397 im_X1_takeOut se_X1_takeOut (fun _ => o6) h2199 kq1 rfl rfl (rest := []) rfl (Nat.le_of_ble_eq_true rfl) ⟨Nat.le_of_ble_eq_true rfl, Nat.le_of_ble_eq_true rfl⟩ ⟨Nat.le_of_ble_eq_true rfl, Nat.le_of_ble_eq_true rfl⟩ (fun r σ2202 hp => ?_)
        obtain ⟨h2204, x2205, rfl⟩ := hp
        have h2203 := HK.trans h2199 h2204 (by decide)
        refine m_lload F rfl e_X9_leastTerm_52 ?_
        refine m_lmul F e_X9_leastTerm_54 ?_
        refine Wm.topl (fun x2206 _ => ?_)
        refine m_lload F rfl e_X9_leastTerm_55 ?_
        refine m_ladd F e_X9_leastTerm_57 ?_
        refine Wm.topl (fun x2207 _ => ?_)
        refine m_lstore F (lv' := [(10, .long x2207), (9, .int (nI i)), (3, .ref q1), (4, .ref q2), (5, .long u1), (7, .long u2)]) e_X9_leastTerm_58 (by decide) rfl ?_
        refine m_lload F rfl e_X9_leastTerm_60 ?_
        refine m_lstore F (lv' := [(5, .long u2), (10, .long x2207), (9, .int (nI i)), (3, .ref q1), (4, .ref q2), (7, .long u2)]) e_X9_leastTerm_62 (by decide) rfl ?_
        refine m_lload F rfl e_X9_leastTerm_64 ?_
        refine m_lstore F (lv' := [(7, .long x2207), (5, .long u2), (10, .long x2207), (9, .int (nI i)), (3, .ref q1), (4, .ref q2)]) e_X9_leastTerm_66 (by decide) rfl ?_
        refine m_aload_n F rfl e_X9_leastTerm_68 ?_
        refine m_astore F (lv' := [(12, .ref q1), (7, .long x2207), (5, .long u2), (10, .long x2207), (9, .int (nI i)), (3, .ref q1), (4, .ref q2)]) e_X9_leastTerm_69 (by decide) rfl ?_
        refine m_aload F rfl e_X9_leastTerm_71 ?_
        refine m_astore_n F (lv' := [(3, .ref q2), (12, .ref q1), (7, .long x2207), (5, .long u2), (10, .long x2207), (9, .int (nI i)), (4, .ref q2)]) e_X9_leastTerm_73 (by decide) rfl ?_
        refine m_aload F rfl e_X9_leastTerm_74 ?_
        refine m_astore F (lv' := [(4, .ref q1), (3, .ref q2), (12, .ref q1), (7, .long x2207), (5, .long u2), (10, .long x2207), (9, .int (nI i))]) e_X9_leastTerm_76 (by decide) rfl ?_
        refine m_iinc F (v := nI (i + 1)) (lv' := [(9, .int (nI (i + 1))), (4, .ref q1), (3, .ref q2), (12, .ref q1), (7, .long x2207), (5, .long u2), (10, .long x2207)]) e_X9_leastTerm_78 rfl (nI_add i 1) (by decide) rfl ?_
        refine m_goto F e_X9_leastTerm_81 ?_
        refine Wm.lvsub (lv' := [(9, .int (nI (i + 1))), (3, .ref q2), (4, .ref q1), (5, .long u2), (7, .long x2207)]) ?_ [0, 2, 1, 5, 4] rfl
        exact ih (i + 1) q2 q1 u2 x2207 _ h2203 ⟨kq2, kq1, (by omega)⟩ (by omega)
set_option maxRecDepth 20000 in
theorem s_X9_leastTerm (l : Launch) (V : VX) (b M Z T N : Nat) (σ : Mem) (r901 : Nat) (r902 : Nat) (n903 : Nat) (h0 : HT V (b, M, Z, T) σ) (k901 : kA b r901 = 6) (k902 : kA b r902 = 6) (hn903 : n903 ≤ 1) (hM : M + 0 ≤ 1000000000) : Ct l V yX9_leastTerm cX9_leastTerm 13 (some .long) 1 0 0 N σ [.ref r901, .ref r902, .int (nI n903)] (fun r τ => HK V (b, M, Z, T) [0, 1, 3, 7, 12, 15, 19] σ τ ∧ ∃ x : Int64, r = some (.long x)) := by
  refine Ct.of (by decide) (Nat.le_of_ble_eq_true rfl) [(0, .ref r901), (1, .ref r902), (2, .int (nI n903))] rfl (fun X hX F hQ => ?_)
  have h1 : HK V (b, M, Z, T) [0, 1, 3, 7, 12, 15, 19] σ σ := HK.start h0
  refine m_aload_n F rfl e_X9_leastTerm_0 ?_
  refine m_astore_n F (lv' := [(3, .ref r901), (0, .ref r901), (1, .ref r902), (2, .int (nI n903))]) e_X9_leastTerm_1 (by decide) rfl ?_
  refine m_aload_n F rfl e_X9_leastTerm_2 ?_
  refine m_astore F (lv' := [(4, .ref r902), (3, .ref r901), (0, .ref r901), (1, .ref r902), (2, .int (nI n903))]) e_X9_leastTerm_3 (by decide) rfl ?_
  refine m_iload_n F rfl e_X9_leastTerm_5 ?_
  refine m_if_eq F e_X9_leastTerm_6 (fun q6 => ?_) (fun q6 => ?_)
  · have c6 : n903 = 0 := (nI_eq (a := n903) (b := 0) (by omega) (by omega)).mp q6
    refine m_lconst F (v := 0) (by decide) e_X9_leastTerm_13 ?_
    refine m_lstore F (lv' := [(5, .long 0), (4, .ref r902), (3, .ref r901), (0, .ref r901), (1, .ref r902), (2, .int (nI n903))]) e_X9_leastTerm_14 (by decide) rfl ?_
    refine m_iload_n F rfl e_X9_leastTerm_16 ?_
    refine m_if_eq F e_X9_leastTerm_17 (fun q17 => ?_) (fun q17 => ?_)
    · have c17 : n903 = 0 := (nI_eq (a := n903) (b := 0) (by omega) (by omega)).mp q17
      refine m_lconst F (v := 1) (by decide) e_X9_leastTerm_24 ?_
      refine m_lstore F (lv' := [(7, .long 1), (5, .long 0), (4, .ref r902), (3, .ref r901), (0, .ref r901), (1, .ref r902), (2, .int (nI n903))]) e_X9_leastTerm_25 (by decide) rfl ?_
      refine m_iconst F (v := 0) (by decide) e_X9_leastTerm_27 ?_
      refine m_istore F (lv' := [(9, .int 0), (7, .long 1), (5, .long 0), (4, .ref r902), (3, .ref r901), (0, .ref r901), (1, .ref r902), (2, .int (nI n903))]) e_X9_leastTerm_28 (by decide) rfl ?_
      refine Wm.lvsub (lv' := [(9, .int 0), (3, .ref r901), (4, .ref r902), (5, .long 0), (7, .long 1)]) ?_ [0, 4, 3, 2, 1] rfl
      exact lp_X9_leastTerm_30 F hQ k901 k902 hn903 hM (200 - 0 + 1) 0 r901 r902 0 1 _ h1 ⟨k901, k902, (by omega)⟩ (Nat.lt_succ_self _)
    · have c17 : n903 ≠ 0 := by have hh := mt (nI_eq (a := n903) (b := 0) (by omega) (by omega)).mpr q17; omega
      refine m_lconst F (v := 0) (by decide) e_X9_leastTerm_20 ?_
      refine m_goto F e_X9_leastTerm_21 ?_
      refine m_lstore F (lv' := [(7, .long 0), (5, .long 0), (4, .ref r902), (3, .ref r901), (0, .ref r901), (1, .ref r902), (2, .int (nI n903))]) e_X9_leastTerm_25 (by decide) rfl ?_
      refine m_iconst F (v := 0) (by decide) e_X9_leastTerm_27 ?_
      refine m_istore F (lv' := [(9, .int 0), (7, .long 0), (5, .long 0), (4, .ref r902), (3, .ref r901), (0, .ref r901), (1, .ref r902), (2, .int (nI n903))]) e_X9_leastTerm_28 (by decide) rfl ?_
      refine Wm.lvsub (lv' := [(9, .int 0), (3, .ref r901), (4, .ref r902), (5, .long 0), (7, .long 0)]) ?_ [0, 4, 3, 2, 1] rfl
      exact lp_X9_leastTerm_30 F hQ k901 k902 hn903 hM (200 - 0 + 1) 0 r901 r902 0 0 _ h1 ⟨k901, k902, (by omega)⟩ (Nat.lt_succ_self _)
  · have c6 : n903 ≠ 0 := by have hh := mt (nI_eq (a := n903) (b := 0) (by omega) (by omega)).mpr q6; omega
    refine m_lconst F (v := 1) (by decide) e_X9_leastTerm_9 ?_
    refine m_goto F e_X9_leastTerm_10 ?_
    refine m_lstore F (lv' := [(5, .long 1), (4, .ref r902), (3, .ref r901), (0, .ref r901), (1, .ref r902), (2, .int (nI n903))]) e_X9_leastTerm_14 (by decide) rfl ?_
    refine m_iload_n F rfl e_X9_leastTerm_16 ?_
    refine m_if_eq F e_X9_leastTerm_17 (fun q17 => ?_) (fun q17 => ?_)
    · have c17 : n903 = 0 := (nI_eq (a := n903) (b := 0) (by omega) (by omega)).mp q17
      refine m_lconst F (v := 1) (by decide) e_X9_leastTerm_24 ?_
      refine m_lstore F (lv' := [(7, .long 1), (5, .long 1), (4, .ref r902), (3, .ref r901), (0, .ref r901), (1, .ref r902), (2, .int (nI n903))]) e_X9_leastTerm_25 (by decide) rfl ?_
      refine m_iconst F (v := 0) (by decide) e_X9_leastTerm_27 ?_
      refine m_istore F (lv' := [(9, .int 0), (7, .long 1), (5, .long 1), (4, .ref r902), (3, .ref r901), (0, .ref r901), (1, .ref r902), (2, .int (nI n903))]) e_X9_leastTerm_28 (by decide) rfl ?_
      refine Wm.lvsub (lv' := [(9, .int 0), (3, .ref r901), (4, .ref r902), (5, .long 1), (7, .long 1)]) ?_ [0, 4, 3, 2, 1] rfl
      exact lp_X9_leastTerm_30 F hQ k901 k902 hn903 hM (200 - 0 + 1) 0 r901 r902 1 1 _ h1 ⟨k901, k902, (by omega)⟩ (Nat.lt_succ_self _)
    · have c17 : n903 ≠ 0 := by have hh := mt (nI_eq (a := n903) (b := 0) (by omega) (by omega)).mpr q17; omega
      refine m_lconst F (v := 0) (by decide) e_X9_leastTerm_20 ?_
      refine m_goto F e_X9_leastTerm_21 ?_
      refine m_lstore F (lv' := [(7, .long 0), (5, .long 1), (4, .ref r902), (3, .ref r901), (0, .ref r901), (1, .ref r902), (2, .int (nI n903))]) e_X9_leastTerm_25 (by decide) rfl ?_
      refine m_iconst F (v := 0) (by decide) e_X9_leastTerm_27 ?_
      refine m_istore F (lv' := [(9, .int 0), (7, .long 0), (5, .long 1), (4, .ref r902), (3, .ref r901), (0, .ref r901), (1, .ref r902), (2, .int (nI n903))]) e_X9_leastTerm_28 (by decide) rfl ?_
      refine Wm.lvsub (lv' := [(9, .int 0), (3, .ref r901), (4, .ref r902), (5, .long 1), (7, .long 0)]) ?_ [0, 4, 3, 2, 1] rfl
      exact lp_X9_leastTerm_30 F hQ k901 k902 hn903 hM (200 - 0 + 1) 0 r901 r902 1 0 _ h1 ⟨k901, k902, (by omega)⟩ (Nat.lt_succ_self _)
set_option maxRecDepth 20000 in
theorem s_X9_named (l : Launch) (V : VX) (b M Z T N : Nat) (σ : Mem) (a : Nat) (x901 : Int32) (h0 : HT V (b, M, Z, T) σ) (hk : kA b a = 1) (hM : M + 0 ≤ 1000000000) : Ct l V yX9_named cX9_named 2 (some .int) 1 0 0 N σ [.ref a, .int x901] (fun r τ => HK V (b, M, Z, T) [0, 1, 3, 7, 12, 15, 19] σ τ ∧ ∃ x : Int32, r = some (.int x)) := by
  refine Ct.of (by decide) (Nat.le_of_ble_eq_true rfl) [(0, .ref a), (1, .int x901)] rfl (fun X hX F hQ => ?_)
  have h1 : HK V (b, M, Z, T) [0, 1, 3, 7, 12, 15, 19] σ σ := HK.start h0
  refine m_aload_n F rfl e_X9_named_0 ?_
  refine t_get F e_X9_named_1 fl_X9_16 (fun _ => o1) h1 hk rfl (fun v hv f2208 => ?_)
  obtain ⟨r2209, k2210, rfl⟩ := hv
  refine m_iload_n F rfl e_X9_named_4 ?_
  refine t_callV F e_X9_named_5 (s_X2_leaseNamed (x_l X) V b M Z T _ _ r2209 x901 h1.1 k2210  (by omega)) cb_X2_leaseNamed ml_X9_90 im_X2_leaseNamed se_X2_leaseNamed (fun _ => o7) h1 k2210 rfl rfl (rest := []) rfl (Nat.le_of_ble_eq_true rfl) ⟨Nat.le_of_ble_eq_true rfl, Nat.le_of_ble_eq_true rfl⟩ ⟨Nat.le_of_ble_eq_true rfl, Nat.le_of_ble_eq_true rfl⟩ (fun r σ2211 hp => ?_)
  obtain ⟨h2213, c2214⟩ := hp
  have h2212 := HK.trans h1 h2213 (by decide)
  rcases c2214 with ⟨n2215, hn2215, rfl⟩ | rfl
  · exact m_iret F hQ e_X9_named_8 (⟨h2212, _, rfl⟩)
  · exact m_iret F hQ e_X9_named_8 (⟨h2212, _, rfl⟩)
set_option maxRecDepth 20000 in
theorem lp_X9_go_32 {V : VX} {X : MX} {b M Z T N : Nat} {σ : Mem} {a : Nat}   (F : Fx V X yX9_go cX9_go 3 (some .int) (rmd 6 0 0)) (hQ : Rt V X 0 0 N (fun r τ => HK V (b, M + 108, Z, T) [0, 3] σ τ ∧ ∃ x : Int32, r = some (.int x))) (hk : kA b a = 1) (hM : M + 108 ≤ 1000000000)  : ∀ (fuel : Nat) (i : Nat) (c : Nat) (τ : Mem), HK V (b, M + 9 * i, Z, T) [0, 3] σ τ → i ≤ 12 ∧ c ≤ 12 → 12 - i < fuel → Wm V X 3 N τ 0 0 32 [(2, .int (nI i)), (0, .ref a), (1, .int (nI c))] [] := by
  intro fuel
  induction fuel with
  | zero => intro i c τ h1 hi hm; exact absurd hm (Nat.not_lt_zero _)
  | succ fuel ih =>
    intro i c τ h1 hi hm
    refine m_iload_n F rfl e_X9_go_32 ?_
    refine m_iload_n F rfl e_X9_go_33 ?_
    refine m_icmp_ge F e_X9_go_34 (fun q34 => ?_) (fun q34 => ?_)
    · have c34 : i ≥ c := (nI_leI (a := c) (b := i) (by omega) (by omega)).mp q34
      refine m_aload_n F rfl e_X9_go_54 ?_
      refine t_get F e_X9_go_55 fl_X9_16 (fun _ => o1) h1 hk rfl (fun v hv f2216 => ?_)
      obtain ⟨r2217, k2218, rfl⟩ := hv
      refine t_get F e_X9_go_58 fl_X9_94 (fun _ => o7) h1 k2218 rfl (fun v hv f2219 => ?_)
      obtain ⟨n2220, hn2220, rfl⟩ := hv
      replace hn2220 : n2220 ≤ M + 9 * i := hn2220
      exact m_iret F hQ e_X9_go_61 (⟨(h1.mono (M' := M + 108) (Z' := Z) (by omega) (by intro e; first | rfl | assumption | omega)), _, rfl⟩)
    · have c34 : i < c := by have hh := mt (nI_leI (a := c) (b := i) (by omega) (by omega)).mpr q34; omega
      refine m_aload_n F rfl e_X9_go_37 ?_
      refine t_callV F e_X9_go_38 (s_X9_remember (x_l X) V b (M + 9 * i) Z T _ _ a  h1.1 hk  (by omega)) cb_X9_remember ml_X9_97 im_X9_remember se_X9_remember (fun _ => o1) h1 hk rfl rfl (rest := []) rfl (Nat.le_of_ble_eq_true rfl) ⟨Nat.le_of_ble_eq_true rfl, Nat.le_of_ble_eq_true rfl⟩ ⟨Nat.le_of_ble_eq_true rfl, Nat.le_of_ble_eq_true rfl⟩ (fun r σ2221 hp => ?_)
      obtain ⟨h2223, rfl⟩ := hp
      have h2222 := HK.trans h1 h2223 (by decide)
      refine m_aload_n F rfl e_X9_go_41 ?_
      refine t_get F e_X9_go_42 fl_X9_16 (fun _ => o1) h2222 hk rfl (fun v hv f2224 => ?_)
      obtain ⟨r2225, k2226, rfl⟩ := hv
      refine t_callV F e_X9_go_45 (s_X2_periodGoesBy (x_l X) V b (M + 9 * i) Z T _ _ r2225  h2222.1 k2226  (by omega)) cb_X2_periodGoesBy ml_X9_100 im_X2_periodGoesBy se_X2_periodGoesBy (fun _ => o7) h2222 k2226 rfl rfl (rest := []) rfl (Nat.le_of_ble_eq_true rfl) ⟨Nat.le_of_ble_eq_true rfl, Nat.le_of_ble_eq_true rfl⟩ ⟨Nat.le_of_ble_eq_true rfl, Nat.le_of_ble_eq_true rfl⟩ (fun r σ2227 hp => ?_)
      obtain ⟨h2229, rfl⟩ := hp
      have h2228 := HK.trans h2222 h2229 (by decide)
      refine m_iinc F (v := nI (i + 1)) (lv' := [(2, .int (nI (i + 1))), (0, .ref a), (1, .int (nI c))]) e_X9_go_48 rfl (nI_add i 1) (by decide) rfl ?_
      refine m_goto F e_X9_go_51 ?_
      exact ih (i + 1) c _ (h2228.mono (M' := M + 9 * (i + 1)) (Z' := Z) (by omega) (by intro e9; first | exact e9 | rfl)) (by omega) (by omega)
set_option maxRecDepth 20000 in
theorem s_X9_go (l : Launch) (V : VX) (b M Z T N : Nat) (σ : Mem) (a : Nat) (x901 : Int32) (h0 : HT V (b, M, Z, T) σ) (hk : kA b a = 1) (hM : M + 108 ≤ 1000000000) : Ct l V yX9_go cX9_go 3 (some .int) 6 0 0 N σ [.ref a, .int x901] (fun r τ => HK V (b, M + 108, Z, T) [0, 3] σ τ ∧ ∃ x : Int32, r = some (.int x)) := by
  refine Ct.of (by decide) (Nat.le_of_ble_eq_true rfl) [(0, .ref a), (1, .int x901)] rfl (fun X hX F hQ => ?_)
  have h1 : HK V (b, M, Z, T) [0, 3] σ σ := HK.start h0
  refine m_iload_n F rfl e_X9_go_0 ?_
  refine m_iconst F (v := 1) (by decide) e_X9_go_1 ?_
  refine m_icmp_lt F e_X9_go_2 (fun q2 => ?_) (fun q2 => ?_)
  · refine m_iconst F (v := (-1)) (by decide) e_X9_go_11 ?_
    exact m_iret F hQ e_X9_go_12 (⟨(h1.mono (M' := M + 108) (Z' := Z) (by omega) (by intro e; first | rfl | assumption | omega)), _, rfl⟩)
  · obtain ⟨n2230, hn2230, rfl⟩ := nI_nn (x := x901) (fun e => q2 (Int32.lt_of_lt_of_le e (by decide)))
    have c2 : n2230 ≥ 1 := by have hh := mt (nI_ltI (a := n2230) (b := 1) (by omega) (by omega)).mpr q2; omega
    refine m_iload_n F rfl e_X9_go_5 ?_
    refine m_bipush F (v := 12) (by decide) e_X9_go_6 ?_
    refine m_icmp_le F e_X9_go_8 (fun q8 => ?_) (fun q8 => ?_)
    · have c8 : n2230 ≤ 12 := (nI_leI (a := n2230) (b := 12) (by omega) (by omega)).mp q8
      refine m_aload_n F rfl e_X9_go_13 ?_
      refine t_get F e_X9_go_14 fl_X9_16 (fun _ => o1) h1 hk rfl (fun v hv f2231 => ?_)
      obtain ⟨r2232, k2233, rfl⟩ := hv
      refine t_get F e_X9_go_17 fl_X9_94 (fun _ => o7) h1 k2233 rfl (fun v hv f2234 => ?_)
      obtain ⟨n2235, hn2235, rfl⟩ := hv
      replace hn2235 : n2235 ≤ M := hn2235
      refine m_iload_n F rfl e_X9_go_20 ?_
      refine m_iadd F e_X9_go_21 ?_
      refine Wm.topE (w := nI (n2235 + n2230)) (nI_add n2235 n2230) ?_
      refine m_bipush F (v := 99) (by decide) e_X9_go_22 ?_
      refine m_icmp_le F e_X9_go_24 (fun q24 => ?_) (fun q24 => ?_)
      · have c24 : (n2235 + n2230) ≤ 99 := (nI_leI (a := (n2235 + n2230)) (b := 99) (by omega) (by omega)).mp q24
        refine m_iconst F (v := 0) (by decide) e_X9_go_30 ?_
        refine m_istore_n F (lv' := [(2, .int 0), (0, .ref a), (1, .int (nI n2230))]) e_X9_go_31 (by decide) rfl ?_
        exact lp_X9_go_32 F hQ hk hM (12 - 0 + 1) 0 n2230 _ (h1.mono (M' := M + 9 * 0) (Z' := Z) (by omega) (by intro e9; first | exact e9 | rfl)) (by omega) (Nat.lt_succ_self _)
      · have c24 : (n2235 + n2230) > 99 := by have hh := mt (nI_leI (a := (n2235 + n2230)) (b := 99) (by omega) (by omega)).mpr q24; omega
        refine m_bipush F (v := (-2)) (by decide) e_X9_go_27 ?_
        exact m_iret F hQ e_X9_go_29 (⟨(h1.mono (M' := M + 108) (Z' := Z) (by omega) (by intro e; first | rfl | assumption | omega)), _, rfl⟩)
    · have c8 : n2230 > 12 := by have hh := mt (nI_leI (a := n2230) (b := 12) (by omega) (by omega)).mpr q8; omega
      refine m_iconst F (v := (-1)) (by decide) e_X9_go_11 ?_
      exact m_iret F hQ e_X9_go_12 (⟨(h1.mono (M' := M + 108) (Z' := Z) (by omega) (by intro e; first | rfl | assumption | omega)), _, rfl⟩)
set_option maxRecDepth 20000 in
theorem s_X9_amount (l : Launch) (V : VX) (b M Z T N : Nat) (σ : Mem) (a : Nat) (x901 : Int32) (x902 : Int32) (h0 : HT V (b, M, Z, T) σ) (hk : kA b a = 1) (hM : M + 0 ≤ 1000000000) : Ct l V yX9_amount cX9_amount 4 (some .long) 1 0 0 N σ [.ref a, .int x901, .int x902] (fun r τ => HK V (b, M, Z, T) [0, 1, 3, 7, 12, 15, 19] σ τ ∧ ∃ x : Int64, r = some (.long x)) := by
  refine Ct.of (by decide) (Nat.le_of_ble_eq_true rfl) [(0, .ref a), (1, .int x901), (2, .int x902)] rfl (fun X hX F hQ => ?_)
  have h1 : HK V (b, M, Z, T) [0, 1, 3, 7, 12, 15, 19] σ σ := HK.start h0
  refine m_aload_n F rfl e_X9_amount_0 ?_
  refine m_iload_n F rfl e_X9_amount_1 ?_
  refine t_callV F e_X9_amount_2 (s_X9_leaseAt (x_l X) V b M Z T _ _ a x901 h1.1 hk  (by omega)) cb_X9_leaseAt ml_X9_103 im_X9_leaseAt se_X9_leaseAt (fun _ => o1) h1 hk rfl rfl (rest := []) rfl (Nat.le_of_ble_eq_true rfl) ⟨Nat.le_of_ble_eq_true rfl, Nat.le_of_ble_eq_true rfl⟩ ⟨Nat.le_of_ble_eq_true rfl, Nat.le_of_ble_eq_true rfl⟩ (fun r σ2236 hp => ?_)
  obtain ⟨h2238, c2239⟩ := hp
  have h2237 := HK.trans h1 h2238 (by decide)
  rcases c2239 with rfl | ⟨n2240, r2241, hn2240, en2240, k2242, rfl⟩
  · refine m_astore_nN F (lv' := [(3, .null), (0, .ref a), (1, .int x901), (2, .int x902)]) e_X9_amount_5 (by decide) rfl ?_
    refine m_aload_nN F rfl e_X9_amount_6 ?_
    refine m_ifnullN F e_X9_amount_7 ?_
    refine m_ldc2 F kc_X9_149 e_X9_amount_19 ?_
    exact m_lret F hQ e_X9_amount_22 (⟨h2237, _, rfl⟩)
  · subst en2240
    refine m_astore_n F (lv' := [(3, .ref r2241), (0, .ref a), (1, .int (nI n2240)), (2, .int x902)]) e_X9_amount_5 (by decide) rfl ?_
    refine m_aload_n F rfl e_X9_amount_6 ?_
    refine m_ifnullR F e_X9_amount_7 ?_
    refine m_iload_n F rfl e_X9_amount_10 ?_
    refine m_if_lt F e_X9_amount_11 (fun q11 => ?_) (fun q11 => ?_)
    · refine m_ldc2 F kc_X9_149 e_X9_amount_19 ?_
      exact m_lret F hQ e_X9_amount_22 (⟨h2237, _, rfl⟩)
    · obtain ⟨n2243, hn2243, rfl⟩ := nI_nn (x := x902) (fun e => q11 (Int32.lt_of_lt_of_le e (by decide)))
      have c11 : n2243 ≥ 0 := by have hh := mt (nI_ltI (a := n2243) (b := 0) (by omega) (by omega)).mpr q11; omega
      refine m_iload_n F rfl e_X9_amount_14 ?_
      refine m_iconst F (v := 1) (by decide) e_X9_amount_15 ?_
      refine m_icmp_le F e_X9_amount_16 (fun q16 => ?_) (fun q16 => ?_)
      · have c16 : n2243 ≤ 1 := (nI_leI (a := n2243) (b := 1) (by omega) (by omega)).mp q16
        refine m_iload_n F rfl e_X9_amount_23 ?_
        refine m_if_ne F e_X9_amount_24 (fun q24 => ?_) (fun q24 => ?_)
        · have c24 : n2243 ≠ 0 := by have hh := mt (nI_eq (a := n2243) (b := 0) (by omega) (by omega)).mpr q24; omega
          refine m_aload_n F rfl e_X9_amount_34 ?_
          refine t_get F e_X9_amount_35 fl_X9_154 (fun _ => o15) h2237 k2242 rfl (fun v hv f2244 => ?_)
          obtain ⟨r2245, k2246, rfl⟩ := hv
          refine t_callV F e_X9_amount_38 (s_X1_asLong (x_l X) V b M Z T _ _ r2245  h2237.1 k2246  (by omega)) cb_X1_asLong ml_X9_157 im_X1_asLong se_X1_asLong (fun _ => o6) h2237 k2246 rfl rfl (rest := []) rfl (Nat.le_of_ble_eq_true rfl) ⟨Nat.le_of_ble_eq_true rfl, Nat.le_of_ble_eq_true rfl⟩ ⟨Nat.le_of_ble_eq_true rfl, Nat.le_of_ble_eq_true rfl⟩ (fun r σ2247 hp => ?_)
          obtain ⟨h2249, x2250, rfl⟩ := hp
          have h2248 := HK.trans h2237 h2249 (by decide)
          exact m_lret F hQ e_X9_amount_41 (⟨h2248, _, rfl⟩)
        · have c24 : n2243 = 0 := (nI_eq (a := n2243) (b := 0) (by omega) (by omega)).mp q24
          refine m_aload_n F rfl e_X9_amount_27 ?_
          refine t_get F e_X9_amount_28 fl_X9_151 (fun _ => o15) h2237 k2242 rfl (fun v hv f2251 => ?_)
          obtain ⟨r2252, k2253, rfl⟩ := hv
          refine m_goto F e_X9_amount_31 ?_
          refine t_callV F e_X9_amount_38 (s_X1_asLong (x_l X) V b M Z T _ _ r2252  h2237.1 k2253  (by omega)) cb_X1_asLong ml_X9_157 im_X1_asLong se_X1_asLong (fun _ => o6) h2237 k2253 rfl rfl (rest := []) rfl (Nat.le_of_ble_eq_true rfl) ⟨Nat.le_of_ble_eq_true rfl, Nat.le_of_ble_eq_true rfl⟩ ⟨Nat.le_of_ble_eq_true rfl, Nat.le_of_ble_eq_true rfl⟩ (fun r σ2254 hp => ?_)
          obtain ⟨h2256, x2257, rfl⟩ := hp
          have h2255 := HK.trans h2237 h2256 (by decide)
          exact m_lret F hQ e_X9_amount_41 (⟨h2255, _, rfl⟩)
      · have c16 : n2243 > 1 := by have hh := mt (nI_leI (a := n2243) (b := 1) (by omega) (by omega)).mpr q16; omega
        refine m_ldc2 F kc_X9_149 e_X9_amount_19 ?_
        exact m_lret F hQ e_X9_amount_22 (⟨h2237, _, rfl⟩)
set_option maxRecDepth 20000 in
theorem s_X9_due (l : Launch) (V : VX) (b M Z T N : Nat) (σ : Mem) (a : Nat) (x901 : Int32) (x902 : Int32) (h0 : HT V (b, M, Z, T) σ) (hk : kA b a = 1) (hM : M + 0 ≤ 1000000000) : Ct l V yX9_due cX9_due 4 (some .long) 1 0 0 N σ [.ref a, .int x901, .int x902] (fun r τ => HK V (b, M, Z, T) [0, 1, 3, 7, 12, 15, 19] σ τ ∧ ∃ x : Int64, r = some (.long x)) := by
  refine Ct.of (by decide) (Nat.le_of_ble_eq_true rfl) [(0, .ref a), (1, .int x901), (2, .int x902)] rfl (fun X hX F hQ => ?_)
  have h1 : HK V (b, M, Z, T) [0, 1, 3, 7, 12, 15, 19] σ σ := HK.start h0
  refine m_aload_n F rfl e_X9_due_0 ?_
  refine m_iload_n F rfl e_X9_due_1 ?_
  refine t_callV F e_X9_due_2 (s_X9_leaseAt (x_l X) V b M Z T _ _ a x901 h1.1 hk  (by omega)) cb_X9_leaseAt ml_X9_103 im_X9_leaseAt se_X9_leaseAt (fun _ => o1) h1 hk rfl rfl (rest := []) rfl (Nat.le_of_ble_eq_true rfl) ⟨Nat.le_of_ble_eq_true rfl, Nat.le_of_ble_eq_true rfl⟩ ⟨Nat.le_of_ble_eq_true rfl, Nat.le_of_ble_eq_true rfl⟩ (fun r σ2258 hp => ?_)
  obtain ⟨h2260, c2261⟩ := hp
  have h2259 := HK.trans h1 h2260 (by decide)
  rcases c2261 with rfl | ⟨n2262, r2263, hn2262, en2262, k2264, rfl⟩
  · refine m_astore_nN F (lv' := [(3, .null), (0, .ref a), (1, .int x901), (2, .int x902)]) e_X9_due_5 (by decide) rfl ?_
    refine m_aload_nN F rfl e_X9_due_6 ?_
    refine m_ifnullN F e_X9_due_7 ?_
    refine m_ldc2 F kc_X9_149 e_X9_due_18 ?_
    exact m_lret F hQ e_X9_due_21 (⟨h2259, _, rfl⟩)
  · subst en2262
    refine m_astore_n F (lv' := [(3, .ref r2263), (0, .ref a), (1, .int (nI n2262)), (2, .int x902)]) e_X9_due_5 (by decide) rfl ?_
    refine m_aload_n F rfl e_X9_due_6 ?_
    refine m_ifnullR F e_X9_due_7 ?_
    refine m_aload_n F rfl e_X9_due_10 ?_
    refine m_iload_n F rfl e_X9_due_11 ?_
    refine t_callV F e_X9_due_12 (s_X5_owns (x_l X) V b M Z T _ _ r2263 x902 h2259.1 k2264  (by omega)) cb_X5_owns ml_X9_161 im_X5_owns se_X5_owns (fun _ => o15) h2259 k2264 rfl rfl (rest := []) rfl (Nat.le_of_ble_eq_true rfl) ⟨Nat.le_of_ble_eq_true rfl, Nat.le_of_ble_eq_true rfl⟩ ⟨Nat.le_of_ble_eq_true rfl, Nat.le_of_ble_eq_true rfl⟩ (fun r σ2265 hp => ?_)
    obtain ⟨h2267, n2268, hn2268, rfl⟩ := hp
    have h2266 := HK.trans h2259 h2267 (by decide)
    refine m_if_ne F e_X9_due_15 (fun q15 => ?_) (fun q15 => ?_)
    · have c15 : n2268 ≠ 0 := by have hh := mt (nI_eq (a := n2268) (b := 0) (by omega) (by omega)).mpr q15; omega
      refine m_aload_n F rfl e_X9_due_22 ?_
      refine t_get F e_X9_due_23 fl_X9_165 (fun _ => o15) h2266 k2264 rfl (fun v hv f2269 => ?_)
      obtain ⟨r2270, k2271, rfl⟩ := hv
      refine m_iload_n F rfl e_X9_due_26 ?_
      refine m_iconst F (v := 1) (by decide) e_X9_due_27 ?_
      refine m_isub F e_X9_due_28 ?_
      refine Wm.top (fun x2272 _ => ?_)
      refine m_aload_n F rfl e_X9_due_29 ?_
      refine t_get F e_X9_due_30 fl_X9_42 (fun _ => o1) h2266 hk rfl (fun v hv f2273 => ?_)
      obtain ⟨r2274, k2275, rfl⟩ := hv
      refine t_callV F e_X9_due_33 (s_X8_copyTo (x_l X) V b M Z T _ _ r2270 x2272 r2274 h2266.1 k2271 k2275 (by omega)) cb_X8_copyTo ml_X9_169 im_X8_copyTo se_X8_copyTo (fun _ => o16) h2266 k2271 rfl rfl (rest := []) rfl (Nat.le_of_ble_eq_true rfl) ⟨Nat.le_of_ble_eq_true rfl, Nat.le_of_ble_eq_true rfl⟩ ⟨Nat.le_of_ble_eq_true rfl, Nat.le_of_ble_eq_true rfl⟩ (fun r σ2276 hp => ?_)
      obtain ⟨h2278, rfl⟩ := hp
      have h2277 := HK.trans h2266 h2278 (by decide)
      refine m_aload_n F rfl e_X9_due_36 ?_
      refine t_getC F e_X9_due_37 fl_X9_42 (fun _ => o1) h2277 hk ((fld_eq (h2278.2 a (by rw [show kA _ a = 1 from hk]; decide))).trans f2273) ?_
      refine t_callV F e_X9_due_40 (s_X1_asLong (x_l X) V b M Z T _ _ r2274  h2277.1 k2275  (by omega)) cb_X1_asLong ml_X9_157 im_X1_asLong se_X1_asLong (fun _ => o6) h2277 k2275 rfl rfl (rest := []) rfl (Nat.le_of_ble_eq_true rfl) ⟨Nat.le_of_ble_eq_true rfl, Nat.le_of_ble_eq_true rfl⟩ ⟨Nat.le_of_ble_eq_true rfl, Nat.le_of_ble_eq_true rfl⟩ (fun r σ2279 hp => ?_)
      obtain ⟨h2281, x2282, rfl⟩ := hp
      have h2280 := HK.trans h2277 h2281 (by decide)
      exact m_lret F hQ e_X9_due_43 (⟨h2280, _, rfl⟩)
    · have c15 : n2268 = 0 := (nI_eq (a := n2268) (b := 0) (by omega) (by omega)).mp q15
      refine m_ldc2 F kc_X9_149 e_X9_due_18 ?_
      exact m_lret F hQ e_X9_due_21 (⟨h2266, _, rfl⟩)
set_option maxRecDepth 20000 in
theorem s_X9_worth (l : Launch) (V : VX) (b M Z T N : Nat) (σ : Mem) (a : Nat) (x901 : Int32) (x902 : Int32) (x903 : Int32) (h0 : HT V (b, M, Z, T) σ) (hk : kA b a = 1) (hM : M + 0 ≤ 1000000000) : Ct l V yX9_worth cX9_worth 5 (some .long) 3 0 0 N σ [.ref a, .int x901, .int x902, .int x903] (fun r τ => HK V (b, M, Z, T) [0, 1, 3, 7, 12, 15, 19] σ τ ∧ ∃ x : Int64, r = some (.long x)) := by
  refine Ct.of (by decide) (Nat.le_of_ble_eq_true rfl) [(0, .ref a), (1, .int x901), (2, .int x902), (3, .int x903)] rfl (fun X hX F hQ => ?_)
  have h1 : HK V (b, M, Z, T) [0, 1, 3, 7, 12, 15, 19] σ σ := HK.start h0
  refine m_aload_n F rfl e_X9_worth_0 ?_
  refine m_iload_n F rfl e_X9_worth_1 ?_
  refine t_callV F e_X9_worth_2 (s_X9_leaseAt (x_l X) V b M Z T _ _ a x901 h1.1 hk  (by omega)) cb_X9_leaseAt ml_X9_103 im_X9_leaseAt se_X9_leaseAt (fun _ => o1) h1 hk rfl rfl (rest := []) rfl (Nat.le_of_ble_eq_true rfl) ⟨Nat.le_of_ble_eq_true rfl, Nat.le_of_ble_eq_true rfl⟩ ⟨Nat.le_of_ble_eq_true rfl, Nat.le_of_ble_eq_true rfl⟩ (fun r σ2283 hp => ?_)
  obtain ⟨h2285, c2286⟩ := hp
  have h2284 := HK.trans h1 h2285 (by decide)
  rcases c2286 with rfl | ⟨n2287, r2288, hn2287, en2287, k2289, rfl⟩
  · refine m_astoreN F (lv' := [(4, .null), (0, .ref a), (1, .int x901), (2, .int x902), (3, .int x903)]) e_X9_worth_5 (by decide) rfl ?_
    refine m_aloadN F rfl e_X9_worth_7 ?_
    refine m_ifnullN F e_X9_worth_9 ?_
    refine m_ldc2 F kc_X9_149 e_X9_worth_31 ?_
    exact m_lret F hQ e_X9_worth_34 (⟨h2284, _, rfl⟩)
  · subst en2287
    refine m_astore F (lv' := [(4, .ref r2288), (0, .ref a), (1, .int (nI n2287)), (2, .int x902), (3, .int x903)]) e_X9_worth_5 (by decide) rfl ?_
    refine m_aload F rfl e_X9_worth_7 ?_
    refine m_ifnullR F e_X9_worth_9 ?_
    refine m_aload F rfl e_X9_worth_12 ?_
    refine m_iload_n F rfl e_X9_worth_14 ?_
    refine t_callV F e_X9_worth_15 (s_X5_owns (x_l X) V b M Z T _ _ r2288 x902 h2284.1 k2289  (by omega)) cb_X5_owns ml_X9_161 im_X5_owns se_X5_owns (fun _ => o15) h2284 k2289 rfl rfl (rest := []) rfl (Nat.le_of_ble_eq_true rfl) ⟨Nat.le_of_ble_eq_true rfl, Nat.le_of_ble_eq_true rfl⟩ ⟨Nat.le_of_ble_eq_true rfl, Nat.le_of_ble_eq_true rfl⟩ (fun r σ2290 hp => ?_)
    obtain ⟨h2292, n2293, hn2293, rfl⟩ := hp
    have h2291 := HK.trans h2284 h2292 (by decide)
    refine m_if_eq F e_X9_worth_18 (fun q18 => ?_) (fun q18 => ?_)
    · have c18 : n2293 = 0 := (nI_eq (a := n2293) (b := 0) (by omega) (by omega)).mp q18
      refine m_ldc2 F kc_X9_149 e_X9_worth_31 ?_
      exact m_lret F hQ e_X9_worth_34 (⟨h2291, _, rfl⟩)
    · have c18 : n2293 ≠ 0 := by have hh := mt (nI_eq (a := n2293) (b := 0) (by omega) (by omega)).mpr q18; omega
      refine m_iload_n F rfl e_X9_worth_21 ?_
      refine m_if_lt F e_X9_worth_22 (fun q22 => ?_) (fun q22 => ?_)
      · refine m_ldc2 F kc_X9_149 e_X9_worth_31 ?_
        exact m_lret F hQ e_X9_worth_34 (⟨h2291, _, rfl⟩)
      · obtain ⟨n2294, hn2294, rfl⟩ := nI_nn (x := x903) (fun e => q22 (Int32.lt_of_lt_of_le e (by decide)))
        have c22 : n2294 ≥ 0 := by have hh := mt (nI_ltI (a := n2294) (b := 0) (by omega) (by omega)).mpr q22; omega
        refine m_iload_n F rfl e_X9_worth_25 ?_
        refine m_ldc F kc_X9_175 e_X9_worth_26 ?_
        refine m_icmp_le F e_X9_worth_28 (fun q28 => ?_) (fun q28 => ?_)
        · have c28 : n2294 ≤ 1000000 := (nI_leI (a := n2294) (b := 1000000) (by omega) (by omega)).mp q28
          refine m_aload F rfl e_X9_worth_35 ?_
          refine m_iload_n F rfl e_X9_worth_37 ?_
          refine m_iconst F (v := 1) (by decide) e_X9_worth_38 ?_
          refine m_isub F e_X9_worth_39 ?_
          refine Wm.top (fun x2295 _ => ?_)
          refine m_iload_n F rfl e_X9_worth_40 ?_
          refine m_aload_n F rfl e_X9_worth_41 ?_
          refine t_get F e_X9_worth_42 fl_X9_42 (fun _ => o1) h2291 hk rfl (fun v hv f2296 => ?_)
          obtain ⟨r2297, k2298, rfl⟩ := hv
          refine t_callV F e_X9_worth_45 (s_X5_worthFrom (x_l X) V b M Z T _ _ r2288 x2295 (nI n2294) r2297 h2291.1 k2289 k2298 (by omega)) cb_X5_worthFrom ml_X9_176 im_X5_worthFrom se_X5_worthFrom (fun _ => o15) h2291 k2289 rfl rfl (rest := []) rfl (Nat.le_of_ble_eq_true rfl) ⟨Nat.le_of_ble_eq_true rfl, Nat.le_of_ble_eq_true rfl⟩ ⟨Nat.le_of_ble_eq_true rfl, Nat.le_of_ble_eq_true rfl⟩ (fun r σ2299 hp => ?_)
          obtain ⟨h2301, rfl⟩ := hp
          have h2300 := HK.trans h2291 h2301 (by decide)
          refine m_aload_n F rfl e_X9_worth_48 ?_
          refine t_getC F e_X9_worth_49 fl_X9_42 (fun _ => o1) h2300 hk ((fld_eq (h2301.2 a (by rw [show kA _ a = 1 from hk]; decide))).trans f2296) ?_
          refine t_callV F e_X9_worth_52 (s_X1_asLong (x_l X) V b M Z T _ _ r2297  h2300.1 k2298  (by omega)) cb_X1_asLong ml_X9_157 im_X1_asLong se_X1_asLong (fun _ => o6) h2300 k2298 rfl rfl (rest := []) rfl (Nat.le_of_ble_eq_true rfl) ⟨Nat.le_of_ble_eq_true rfl, Nat.le_of_ble_eq_true rfl⟩ ⟨Nat.le_of_ble_eq_true rfl, Nat.le_of_ble_eq_true rfl⟩ (fun r σ2302 hp => ?_)
          obtain ⟨h2304, x2305, rfl⟩ := hp
          have h2303 := HK.trans h2300 h2304 (by decide)
          exact m_lret F hQ e_X9_worth_55 (⟨h2303, _, rfl⟩)
        · have c28 : n2294 > 1000000 := by have hh := mt (nI_leI (a := n2294) (b := 1000000) (by omega) (by omega)).mpr q28; omega
          refine m_ldc2 F kc_X9_149 e_X9_worth_31 ?_
          exact m_lret F hQ e_X9_worth_34 (⟨h2291, _, rfl⟩)
set_option maxRecDepth 20000 in
theorem s_X9_index (l : Launch) (V : VX) (b M Z T N : Nat) (σ : Mem) (a : Nat) (x901 : Int32) (h0 : HT V (b, M, Z, T) σ) (hk : kA b a = 1) (hM : M + 0 ≤ 1000000000) : Ct l V yX9_index cX9_index 2 (some .int) 0 0 0 N σ [.ref a, .int x901] (fun r τ => HK V (b, M, Z, T) [0, 1, 3, 7, 12, 15, 19] σ τ ∧ ∃ x : Int32, r = some (.int x)) := by
  refine Ct.of (by decide) (Nat.le_of_ble_eq_true rfl) [(0, .ref a), (1, .int x901)] rfl (fun X hX F hQ => ?_)
  have h1 : HK V (b, M, Z, T) [0, 1, 3, 7, 12, 15, 19] σ σ := HK.start h0
  refine m_iload_n F rfl e_X9_index_0 ?_
  refine m_if_lt F e_X9_index_1 (fun q1 => ?_) (fun q1 => ?_)
  · refine m_iconst F (v := (-1)) (by decide) e_X9_index_10 ?_
    exact m_iret F hQ e_X9_index_11 (⟨h1, _, rfl⟩)
  · obtain ⟨n2306, hn2306, rfl⟩ := nI_nn (x := x901) (fun e => q1 (Int32.lt_of_lt_of_le e (by decide)))
    have c1 : n2306 ≥ 0 := by have hh := mt (nI_ltI (a := n2306) (b := 0) (by omega) (by omega)).mpr q1; omega
    refine m_iload_n F rfl e_X9_index_4 ?_
    refine m_bipush F (v := 99) (by decide) e_X9_index_5 ?_
    refine m_icmp_le F e_X9_index_7 (fun q7 => ?_) (fun q7 => ?_)
    · have c7 : n2306 ≤ 99 := (nI_leI (a := n2306) (b := 99) (by omega) (by omega)).mp q7
      refine m_aload_n F rfl e_X9_index_12 ?_
      refine t_get F e_X9_index_13 fl_X9_16 (fun _ => o1) h1 hk rfl (fun v hv f2307 => ?_)
      obtain ⟨r2308, k2309, rfl⟩ := hv
      refine t_get F e_X9_index_16 fl_X9_180 (fun _ => o7) h1 k2309 rfl (fun v hv f2310 => ?_)
      obtain ⟨r2311, k2312, rfl⟩ := hv
      refine m_iload_n F rfl e_X9_index_19 ?_
      refine t_iald F (len := 100) (j := n2306) e_X9_index_20 (fun _ => o10) h1 k2312 (nI_clamp (by omega)) (vp_in_nI (by omega) (by decide)) (fun x2313 => ?_)
      exact m_iret F hQ e_X9_index_21 (⟨h1, _, rfl⟩)
    · have c7 : n2306 > 99 := by have hh := mt (nI_leI (a := n2306) (b := 99) (by omega) (by omega)).mpr q7; omega
      refine m_iconst F (v := (-1)) (by decide) e_X9_index_10 ?_
      exact m_iret F hQ e_X9_index_11 (⟨h1, _, rfl⟩)
set_option maxRecDepth 20000 in
theorem s_X9_account (l : Launch) (V : VX) (b M Z T N : Nat) (σ : Mem) (a : Nat) (x901 : Int32) (h0 : HT V (b, M, Z, T) σ) (hk : kA b a = 1) (hM : M + 0 ≤ 1000000000) : Ct l V yX9_account cX9_account 2 (some .long) 0 0 0 N σ [.ref a, .int x901] (fun r τ => HK V (b, M, Z, T) [0, 1, 3, 7, 12, 15, 19] σ τ ∧ ∃ x : Int64, r = some (.long x)) := by
  refine Ct.of (by decide) (Nat.le_of_ble_eq_true rfl) [(0, .ref a), (1, .int x901)] rfl (fun X hX F hQ => ?_)
  have h1 : HK V (b, M, Z, T) [0, 1, 3, 7, 12, 15, 19] σ σ := HK.start h0
  refine m_iload_n F rfl e_X9_account_0 ?_
  refine m_if_lt F e_X9_account_1 (fun q1 => ?_) (fun q1 => ?_)
  · refine m_ldc2 F kc_X9_184 e_X9_account_10 ?_
    exact m_lret F hQ e_X9_account_13 (⟨h1, _, rfl⟩)
  · obtain ⟨n2314, hn2314, rfl⟩ := nI_nn (x := x901) (fun e => q1 (Int32.lt_of_lt_of_le e (by decide)))
    have c1 : n2314 ≥ 0 := by have hh := mt (nI_ltI (a := n2314) (b := 0) (by omega) (by omega)).mpr q1; omega
    refine m_iload_n F rfl e_X9_account_4 ?_
    refine m_bipush F (v := 6) (by decide) e_X9_account_5 ?_
    refine m_icmp_lt F e_X9_account_7 (fun q7 => ?_) (fun q7 => ?_)
    · have c7 : n2314 < 6 := (nI_ltI (a := n2314) (b := 6) (by omega) (by omega)).mp q7
      refine m_aload_n F rfl e_X9_account_14 ?_
      refine t_get F e_X9_account_15 fl_X9_16 (fun _ => o1) h1 hk rfl (fun v hv f2315 => ?_)
      obtain ⟨r2316, k2317, rfl⟩ := hv
      refine t_get F e_X9_account_18 fl_X9_186 (fun _ => o7) h1 k2317 rfl (fun v hv f2318 => ?_)
      obtain ⟨r2319, k2320, rfl⟩ := hv
      refine t_get F e_X9_account_21 fl_X9_190 (fun _ => o12) h1 k2320 rfl (fun v hv f2321 => ?_)
      obtain ⟨r2322, k2323, rfl⟩ := hv
      refine m_iload_n F rfl e_X9_account_24 ?_
      refine t_lald F (len := 6) (j := n2314) e_X9_account_25 (fun _ => o14) h1 k2323 (nI_clamp (by omega)) (vp_in_nI (by omega) (by decide)) (fun x2324 => ?_)
      exact m_lret F hQ e_X9_account_26 (⟨h1, _, rfl⟩)
    · have c7 : n2314 ≥ 6 := by have hh := mt (nI_ltI (a := n2314) (b := 6) (by omega) (by omega)).mpr q7; omega
      refine m_ldc2 F kc_X9_184 e_X9_account_10 ?_
      exact m_lret F hQ e_X9_account_13 (⟨h1, _, rfl⟩)
set_option maxRecDepth 20000 in
theorem s_X9_entry (l : Launch) (V : VX) (b M Z T N : Nat) (σ : Mem) (a : Nat) (x901 : Int32) (x902 : Int32) (h0 : HT V (b, M, Z, T) σ) (hk : kA b a = 1) (hM : M + 0 ≤ 1000000000) : Ct l V yX9_entry cX9_entry 5 (some .long) 3 0 0 N σ [.ref a, .int x901, .int x902] (fun r τ => HK V (b, M, Z, T) [0, 1, 3, 7, 12, 15, 19] σ τ ∧ ∃ x : Int64, r = some (.long x)) := by
  refine Ct.of (by decide) (Nat.le_of_ble_eq_true rfl) [(0, .ref a), (1, .int x901), (2, .int x902)] rfl (fun X hX F hQ => ?_)
  have h1 : HK V (b, M, Z, T) [0, 1, 3, 7, 12, 15, 19] σ σ := HK.start h0
  refine m_iload_n F rfl e_X9_entry_0 ?_
  refine m_if_lt F e_X9_entry_1 (fun q1 => ?_) (fun q1 => ?_)
  · refine m_iconst F (v := 0) (by decide) e_X9_entry_13 ?_
    refine m_istore_n F (lv' := [(3, .int 0), (0, .ref a), (1, .int x901), (2, .int x902)]) e_X9_entry_14 (by decide) rfl ?_
    refine m_iload_n F rfl e_X9_entry_15 ?_
    refine m_bipush F (v := 10) (by decide) e_X9_entry_16 ?_
    refine m_icmp_lt F e_X9_entry_18 (fun q18 => ?_) (fun q18 => ?_)
    · refine m_iconst F (v := 0) (by decide) e_X9_entry_31 ?_
      refine m_istore F (lv' := [(4, .int 0), (3, .int 0), (0, .ref a), (1, .int x901), (2, .int x902)]) e_X9_entry_32 (by decide) rfl ?_
      refine m_iload_n F rfl e_X9_entry_34 ?_
      refine m_if_lt F e_X9_entry_35 (fun q35 => ?_) (fun q35 => ?_)
      · refine m_ldc2 F kc_X9_184 e_X9_entry_61 ?_
        exact m_lret F hQ e_X9_entry_64 (⟨h1, _, rfl⟩)
      · obtain ⟨n2325, hn2325, rfl⟩ := nI_nn (x := x901) (fun e => q35 (Int32.lt_of_lt_of_le e (by decide)))
        have c35 : n2325 ≥ 0 := by have hh := mt (nI_ltI (a := n2325) (b := 0) (by omega) (by omega)).mpr q35; omega
        refine m_iload_n F rfl e_X9_entry_38 ?_
        refine m_aload_n F rfl e_X9_entry_39 ?_
        refine t_get F e_X9_entry_40 fl_X9_16 (fun _ => o1) h1 hk rfl (fun v hv f2326 => ?_)
        obtain ⟨r2327, k2328, rfl⟩ := hv
        refine t_get F e_X9_entry_43 fl_X9_186 (fun _ => o7) h1 k2328 rfl (fun v hv f2329 => ?_)
        obtain ⟨r2330, k2331, rfl⟩ := hv
        obtain ⟨v9, ⟨n2332, hn2332, rfl⟩, f2333⟩ := HK.f (j := 2) h1 (fun _ => o12) k2331 rfl
        replace hn2332 : n2332 ≤ M := hn2332
        refine t_callV F e_X9_entry_46 (s_X3_kept (x_l X) V b M Z T _ _ r2330 n2332 h1.1 k2331 (f2333) (by omega) (by omega)) cb_X3_kept ml_X9_196 im_X3_kept se_X3_kept (fun _ => o12) h1 k2331 rfl rfl (rest := [.int (nI n2325)]) rfl (Nat.le_of_ble_eq_true rfl) ⟨Nat.le_of_ble_eq_true rfl, Nat.le_of_ble_eq_true rfl⟩ ⟨Nat.le_of_ble_eq_true rfl, Nat.le_of_ble_eq_true rfl⟩ (fun r σ2334 hp => ?_)
        obtain ⟨h2336, n2337, hn2337, gn2337, rfl⟩ := hp
        have h2335 := HK.trans h1 h2336 (by decide)
        refine m_icmp_ge F e_X9_entry_49 (fun q49 => ?_) (fun q49 => ?_)
        · have c49 : n2325 ≥ n2337 := (nI_leI (a := n2337) (b := n2325) (by omega) (by omega)).mp q49
          refine m_ldc2 F kc_X9_184 e_X9_entry_61 ?_
          exact m_lret F hQ e_X9_entry_64 (⟨h2335, _, rfl⟩)
        · have c49 : n2325 < n2337 := by have hh := mt (nI_leI (a := n2337) (b := n2325) (by omega) (by omega)).mpr q49; omega
          refine m_iload_n F rfl e_X9_entry_52 ?_
          refine m_if_ne F e_X9_entry_53 (fun q => absurd (by decide) q) (fun _ => ?_)
          refine m_iload F rfl e_X9_entry_56 ?_
          refine m_if_ne F e_X9_entry_58 (fun q => absurd (by decide) q) (fun _ => ?_)
          refine m_ldc2 F kc_X9_184 e_X9_entry_61 ?_
          exact m_lret F hQ e_X9_entry_64 (⟨h2335, _, rfl⟩)
    · obtain ⟨n2338, hn2338, rfl⟩ := nI_nn (x := x902) (fun e => q18 (Int32.lt_of_lt_of_le e (by decide)))
      have c18 : n2338 ≥ 10 := by have hh := mt (nI_ltI (a := n2338) (b := 10) (by omega) (by omega)).mpr q18; omega
      refine m_iload_n F rfl e_X9_entry_21 ?_
      refine m_bipush F (v := 16) (by decide) e_X9_entry_22 ?_
      refine m_icmp_ge F e_X9_entry_24 (fun q24 => ?_) (fun q24 => ?_)
      · have c24 : n2338 ≥ 16 := (nI_leI (a := 16) (b := n2338) (by omega) (by omega)).mp q24
        refine m_iconst F (v := 0) (by decide) e_X9_entry_31 ?_
        refine m_istore F (lv' := [(4, .int 0), (3, .int 0), (0, .ref a), (1, .int x901), (2, .int (nI n2338))]) e_X9_entry_32 (by decide) rfl ?_
        refine m_iload_n F rfl e_X9_entry_34 ?_
        refine m_if_lt F e_X9_entry_35 (fun q35 => ?_) (fun q35 => ?_)
        · refine m_ldc2 F kc_X9_184 e_X9_entry_61 ?_
          exact m_lret F hQ e_X9_entry_64 (⟨h1, _, rfl⟩)
        · obtain ⟨n2339, hn2339, rfl⟩ := nI_nn (x := x901) (fun e => q35 (Int32.lt_of_lt_of_le e (by decide)))
          have c35 : n2339 ≥ 0 := by have hh := mt (nI_ltI (a := n2339) (b := 0) (by omega) (by omega)).mpr q35; omega
          refine m_iload_n F rfl e_X9_entry_38 ?_
          refine m_aload_n F rfl e_X9_entry_39 ?_
          refine t_get F e_X9_entry_40 fl_X9_16 (fun _ => o1) h1 hk rfl (fun v hv f2340 => ?_)
          obtain ⟨r2341, k2342, rfl⟩ := hv
          refine t_get F e_X9_entry_43 fl_X9_186 (fun _ => o7) h1 k2342 rfl (fun v hv f2343 => ?_)
          obtain ⟨r2344, k2345, rfl⟩ := hv
          obtain ⟨v9, ⟨n2346, hn2346, rfl⟩, f2347⟩ := HK.f (j := 2) h1 (fun _ => o12) k2345 rfl
          replace hn2346 : n2346 ≤ M := hn2346
          refine t_callV F e_X9_entry_46 (s_X3_kept (x_l X) V b M Z T _ _ r2344 n2346 h1.1 k2345 (f2347) (by omega) (by omega)) cb_X3_kept ml_X9_196 im_X3_kept se_X3_kept (fun _ => o12) h1 k2345 rfl rfl (rest := [.int (nI n2339)]) rfl (Nat.le_of_ble_eq_true rfl) ⟨Nat.le_of_ble_eq_true rfl, Nat.le_of_ble_eq_true rfl⟩ ⟨Nat.le_of_ble_eq_true rfl, Nat.le_of_ble_eq_true rfl⟩ (fun r σ2348 hp => ?_)
          obtain ⟨h2350, n2351, hn2351, gn2351, rfl⟩ := hp
          have h2349 := HK.trans h1 h2350 (by decide)
          refine m_icmp_ge F e_X9_entry_49 (fun q49 => ?_) (fun q49 => ?_)
          · have c49 : n2339 ≥ n2351 := (nI_leI (a := n2351) (b := n2339) (by omega) (by omega)).mp q49
            refine m_ldc2 F kc_X9_184 e_X9_entry_61 ?_
            exact m_lret F hQ e_X9_entry_64 (⟨h2349, _, rfl⟩)
          · have c49 : n2339 < n2351 := by have hh := mt (nI_leI (a := n2351) (b := n2339) (by omega) (by omega)).mpr q49; omega
            refine m_iload_n F rfl e_X9_entry_52 ?_
            refine m_if_ne F e_X9_entry_53 (fun q => absurd (by decide) q) (fun _ => ?_)
            refine m_iload F rfl e_X9_entry_56 ?_
            refine m_if_ne F e_X9_entry_58 (fun q => absurd (by decide) q) (fun _ => ?_)
            refine m_ldc2 F kc_X9_184 e_X9_entry_61 ?_
            exact m_lret F hQ e_X9_entry_64 (⟨h2349, _, rfl⟩)
      · have c24 : n2338 < 16 := by have hh := mt (nI_leI (a := 16) (b := n2338) (by omega) (by omega)).mpr q24; omega
        refine m_iconst F (v := 1) (by decide) e_X9_entry_27 ?_
        refine m_goto F e_X9_entry_28 ?_
        refine m_istore F (lv' := [(4, .int 1), (3, .int 0), (0, .ref a), (1, .int x901), (2, .int (nI n2338))]) e_X9_entry_32 (by decide) rfl ?_
        refine m_iload_n F rfl e_X9_entry_34 ?_
        refine m_if_lt F e_X9_entry_35 (fun q35 => ?_) (fun q35 => ?_)
        · refine m_ldc2 F kc_X9_184 e_X9_entry_61 ?_
          exact m_lret F hQ e_X9_entry_64 (⟨h1, _, rfl⟩)
        · obtain ⟨n2352, hn2352, rfl⟩ := nI_nn (x := x901) (fun e => q35 (Int32.lt_of_lt_of_le e (by decide)))
          have c35 : n2352 ≥ 0 := by have hh := mt (nI_ltI (a := n2352) (b := 0) (by omega) (by omega)).mpr q35; omega
          refine m_iload_n F rfl e_X9_entry_38 ?_
          refine m_aload_n F rfl e_X9_entry_39 ?_
          refine t_get F e_X9_entry_40 fl_X9_16 (fun _ => o1) h1 hk rfl (fun v hv f2353 => ?_)
          obtain ⟨r2354, k2355, rfl⟩ := hv
          refine t_get F e_X9_entry_43 fl_X9_186 (fun _ => o7) h1 k2355 rfl (fun v hv f2356 => ?_)
          obtain ⟨r2357, k2358, rfl⟩ := hv
          obtain ⟨v9, ⟨n2359, hn2359, rfl⟩, f2360⟩ := HK.f (j := 2) h1 (fun _ => o12) k2358 rfl
          replace hn2359 : n2359 ≤ M := hn2359
          refine t_callV F e_X9_entry_46 (s_X3_kept (x_l X) V b M Z T _ _ r2357 n2359 h1.1 k2358 (f2360) (by omega) (by omega)) cb_X3_kept ml_X9_196 im_X3_kept se_X3_kept (fun _ => o12) h1 k2358 rfl rfl (rest := [.int (nI n2352)]) rfl (Nat.le_of_ble_eq_true rfl) ⟨Nat.le_of_ble_eq_true rfl, Nat.le_of_ble_eq_true rfl⟩ ⟨Nat.le_of_ble_eq_true rfl, Nat.le_of_ble_eq_true rfl⟩ (fun r σ2361 hp => ?_)
          obtain ⟨h2363, n2364, hn2364, gn2364, rfl⟩ := hp
          have h2362 := HK.trans h1 h2363 (by decide)
          refine m_icmp_ge F e_X9_entry_49 (fun q49 => ?_) (fun q49 => ?_)
          · have c49 : n2352 ≥ n2364 := (nI_leI (a := n2364) (b := n2352) (by omega) (by omega)).mp q49
            refine m_ldc2 F kc_X9_184 e_X9_entry_61 ?_
            exact m_lret F hQ e_X9_entry_64 (⟨h2362, _, rfl⟩)
          · have c49 : n2352 < n2364 := by have hh := mt (nI_leI (a := n2364) (b := n2352) (by omega) (by omega)).mpr q49; omega
            refine m_iload_n F rfl e_X9_entry_52 ?_
            refine m_if_ne F e_X9_entry_53 (fun q => absurd (by decide) q) (fun _ => ?_)
            refine m_iload F rfl e_X9_entry_56 ?_
            refine m_if_ne F e_X9_entry_58 (fun _ => ?_) (fun q => absurd q (by decide))
            refine m_aload_n F rfl e_X9_entry_65 ?_
            refine t_getC F e_X9_entry_66 fl_X9_16 (fun _ => o1) h2362 hk ((fld_eq (h2363.2 a (by rw [show kA _ a = 1 from hk]; decide))).trans f2353) ?_
            refine t_getC F e_X9_entry_69 fl_X9_186 (fun _ => o7) h2362 k2355 ((fld_eq (h2363.2 r2354 (by rw [show kA _ r2354 = 7 from k2355]; decide))).trans f2356) ?_
            refine m_iload_n F rfl e_X9_entry_72 ?_
            refine m_iload_n F rfl e_X9_entry_73 ?_
            refine m_if_eq F e_X9_entry_74 (fun _ => ?_) (fun q => absurd (by decide) q)
            refine m_iload_n F rfl e_X9_entry_81 ?_
            refine m_bipush F (v := 10) (by decide) e_X9_entry_82 ?_
            refine m_isub F e_X9_entry_84 ?_
            refine Wm.top (fun x2365 _ => ?_)
            refine m_iconst F (v := 3) (by decide) e_X9_entry_85 ?_
            refine m_iadd F e_X9_entry_86 ?_
            refine Wm.top (fun x2366 _ => ?_)
            refine t_callV F e_X9_entry_87 (s_X3_told (x_l X) V b M Z T _ _ r2357 (nI n2352) x2366 h2362.1 k2358  (by omega)) cb_X3_told ml_X9_199 im_X3_told se_X3_told (fun _ => o12) h2362 k2358 rfl rfl (rest := []) rfl (Nat.le_of_ble_eq_true rfl) ⟨Nat.le_of_ble_eq_true rfl, Nat.le_of_ble_eq_true rfl⟩ ⟨Nat.le_of_ble_eq_true rfl, Nat.le_of_ble_eq_true rfl⟩ (fun r σ2367 hp => ?_)
            obtain ⟨h2369, x2370, rfl⟩ := hp
            have h2368 := HK.trans h2362 h2369 (by decide)
            exact m_lret F hQ e_X9_entry_90 (⟨h2368, _, rfl⟩)
  · obtain ⟨n2371, hn2371, rfl⟩ := nI_nn (x := x902) (fun e => q1 (Int32.lt_of_lt_of_le e (by decide)))
    have c1 : n2371 ≥ 0 := by have hh := mt (nI_ltI (a := n2371) (b := 0) (by omega) (by omega)).mpr q1; omega
    refine m_iload_n F rfl e_X9_entry_4 ?_
    refine m_iconst F (v := 3) (by decide) e_X9_entry_5 ?_
    refine m_icmp_ge F e_X9_entry_6 (fun q6 => ?_) (fun q6 => ?_)
    · have c6 : n2371 ≥ 3 := (nI_leI (a := 3) (b := n2371) (by omega) (by omega)).mp q6
      refine m_iconst F (v := 0) (by decide) e_X9_entry_13 ?_
      refine m_istore_n F (lv' := [(3, .int 0), (0, .ref a), (1, .int x901), (2, .int (nI n2371))]) e_X9_entry_14 (by decide) rfl ?_
      refine m_iload_n F rfl e_X9_entry_15 ?_
      refine m_bipush F (v := 10) (by decide) e_X9_entry_16 ?_
      refine m_icmp_lt F e_X9_entry_18 (fun q18 => ?_) (fun q18 => ?_)
      · have c18 : n2371 < 10 := (nI_ltI (a := n2371) (b := 10) (by omega) (by omega)).mp q18
        refine m_iconst F (v := 0) (by decide) e_X9_entry_31 ?_
        refine m_istore F (lv' := [(4, .int 0), (3, .int 0), (0, .ref a), (1, .int x901), (2, .int (nI n2371))]) e_X9_entry_32 (by decide) rfl ?_
        refine m_iload_n F rfl e_X9_entry_34 ?_
        refine m_if_lt F e_X9_entry_35 (fun q35 => ?_) (fun q35 => ?_)
        · refine m_ldc2 F kc_X9_184 e_X9_entry_61 ?_
          exact m_lret F hQ e_X9_entry_64 (⟨h1, _, rfl⟩)
        · obtain ⟨n2372, hn2372, rfl⟩ := nI_nn (x := x901) (fun e => q35 (Int32.lt_of_lt_of_le e (by decide)))
          have c35 : n2372 ≥ 0 := by have hh := mt (nI_ltI (a := n2372) (b := 0) (by omega) (by omega)).mpr q35; omega
          refine m_iload_n F rfl e_X9_entry_38 ?_
          refine m_aload_n F rfl e_X9_entry_39 ?_
          refine t_get F e_X9_entry_40 fl_X9_16 (fun _ => o1) h1 hk rfl (fun v hv f2373 => ?_)
          obtain ⟨r2374, k2375, rfl⟩ := hv
          refine t_get F e_X9_entry_43 fl_X9_186 (fun _ => o7) h1 k2375 rfl (fun v hv f2376 => ?_)
          obtain ⟨r2377, k2378, rfl⟩ := hv
          obtain ⟨v9, ⟨n2379, hn2379, rfl⟩, f2380⟩ := HK.f (j := 2) h1 (fun _ => o12) k2378 rfl
          replace hn2379 : n2379 ≤ M := hn2379
          refine t_callV F e_X9_entry_46 (s_X3_kept (x_l X) V b M Z T _ _ r2377 n2379 h1.1 k2378 (f2380) (by omega) (by omega)) cb_X3_kept ml_X9_196 im_X3_kept se_X3_kept (fun _ => o12) h1 k2378 rfl rfl (rest := [.int (nI n2372)]) rfl (Nat.le_of_ble_eq_true rfl) ⟨Nat.le_of_ble_eq_true rfl, Nat.le_of_ble_eq_true rfl⟩ ⟨Nat.le_of_ble_eq_true rfl, Nat.le_of_ble_eq_true rfl⟩ (fun r σ2381 hp => ?_)
          obtain ⟨h2383, n2384, hn2384, gn2384, rfl⟩ := hp
          have h2382 := HK.trans h1 h2383 (by decide)
          refine m_icmp_ge F e_X9_entry_49 (fun q49 => ?_) (fun q49 => ?_)
          · have c49 : n2372 ≥ n2384 := (nI_leI (a := n2384) (b := n2372) (by omega) (by omega)).mp q49
            refine m_ldc2 F kc_X9_184 e_X9_entry_61 ?_
            exact m_lret F hQ e_X9_entry_64 (⟨h2382, _, rfl⟩)
          · have c49 : n2372 < n2384 := by have hh := mt (nI_leI (a := n2384) (b := n2372) (by omega) (by omega)).mpr q49; omega
            refine m_iload_n F rfl e_X9_entry_52 ?_
            refine m_if_ne F e_X9_entry_53 (fun q => absurd (by decide) q) (fun _ => ?_)
            refine m_iload F rfl e_X9_entry_56 ?_
            refine m_if_ne F e_X9_entry_58 (fun q => absurd (by decide) q) (fun _ => ?_)
            refine m_ldc2 F kc_X9_184 e_X9_entry_61 ?_
            exact m_lret F hQ e_X9_entry_64 (⟨h2382, _, rfl⟩)
      · have c18 : n2371 ≥ 10 := by have hh := mt (nI_ltI (a := n2371) (b := 10) (by omega) (by omega)).mpr q18; omega
        refine m_iload_n F rfl e_X9_entry_21 ?_
        refine m_bipush F (v := 16) (by decide) e_X9_entry_22 ?_
        refine m_icmp_ge F e_X9_entry_24 (fun q24 => ?_) (fun q24 => ?_)
        · have c24 : n2371 ≥ 16 := (nI_leI (a := 16) (b := n2371) (by omega) (by omega)).mp q24
          refine m_iconst F (v := 0) (by decide) e_X9_entry_31 ?_
          refine m_istore F (lv' := [(4, .int 0), (3, .int 0), (0, .ref a), (1, .int x901), (2, .int (nI n2371))]) e_X9_entry_32 (by decide) rfl ?_
          refine m_iload_n F rfl e_X9_entry_34 ?_
          refine m_if_lt F e_X9_entry_35 (fun q35 => ?_) (fun q35 => ?_)
          · refine m_ldc2 F kc_X9_184 e_X9_entry_61 ?_
            exact m_lret F hQ e_X9_entry_64 (⟨h1, _, rfl⟩)
          · obtain ⟨n2385, hn2385, rfl⟩ := nI_nn (x := x901) (fun e => q35 (Int32.lt_of_lt_of_le e (by decide)))
            have c35 : n2385 ≥ 0 := by have hh := mt (nI_ltI (a := n2385) (b := 0) (by omega) (by omega)).mpr q35; omega
            refine m_iload_n F rfl e_X9_entry_38 ?_
            refine m_aload_n F rfl e_X9_entry_39 ?_
            refine t_get F e_X9_entry_40 fl_X9_16 (fun _ => o1) h1 hk rfl (fun v hv f2386 => ?_)
            obtain ⟨r2387, k2388, rfl⟩ := hv
            refine t_get F e_X9_entry_43 fl_X9_186 (fun _ => o7) h1 k2388 rfl (fun v hv f2389 => ?_)
            obtain ⟨r2390, k2391, rfl⟩ := hv
            obtain ⟨v9, ⟨n2392, hn2392, rfl⟩, f2393⟩ := HK.f (j := 2) h1 (fun _ => o12) k2391 rfl
            replace hn2392 : n2392 ≤ M := hn2392
            refine t_callV F e_X9_entry_46 (s_X3_kept (x_l X) V b M Z T _ _ r2390 n2392 h1.1 k2391 (f2393) (by omega) (by omega)) cb_X3_kept ml_X9_196 im_X3_kept se_X3_kept (fun _ => o12) h1 k2391 rfl rfl (rest := [.int (nI n2385)]) rfl (Nat.le_of_ble_eq_true rfl) ⟨Nat.le_of_ble_eq_true rfl, Nat.le_of_ble_eq_true rfl⟩ ⟨Nat.le_of_ble_eq_true rfl, Nat.le_of_ble_eq_true rfl⟩ (fun r σ2394 hp => ?_)
            obtain ⟨h2396, n2397, hn2397, gn2397, rfl⟩ := hp
            have h2395 := HK.trans h1 h2396 (by decide)
            refine m_icmp_ge F e_X9_entry_49 (fun q49 => ?_) (fun q49 => ?_)
            · have c49 : n2385 ≥ n2397 := (nI_leI (a := n2397) (b := n2385) (by omega) (by omega)).mp q49
              refine m_ldc2 F kc_X9_184 e_X9_entry_61 ?_
              exact m_lret F hQ e_X9_entry_64 (⟨h2395, _, rfl⟩)
            · have c49 : n2385 < n2397 := by have hh := mt (nI_leI (a := n2397) (b := n2385) (by omega) (by omega)).mpr q49; omega
              refine m_iload_n F rfl e_X9_entry_52 ?_
              refine m_if_ne F e_X9_entry_53 (fun q => absurd (by decide) q) (fun _ => ?_)
              refine m_iload F rfl e_X9_entry_56 ?_
              refine m_if_ne F e_X9_entry_58 (fun q => absurd (by decide) q) (fun _ => ?_)
              refine m_ldc2 F kc_X9_184 e_X9_entry_61 ?_
              exact m_lret F hQ e_X9_entry_64 (⟨h2395, _, rfl⟩)
        · have c24 : n2371 < 16 := by have hh := mt (nI_leI (a := 16) (b := n2371) (by omega) (by omega)).mpr q24; omega
          refine m_iconst F (v := 1) (by decide) e_X9_entry_27 ?_
          refine m_goto F e_X9_entry_28 ?_
          refine m_istore F (lv' := [(4, .int 1), (3, .int 0), (0, .ref a), (1, .int x901), (2, .int (nI n2371))]) e_X9_entry_32 (by decide) rfl ?_
          refine m_iload_n F rfl e_X9_entry_34 ?_
          refine m_if_lt F e_X9_entry_35 (fun q35 => ?_) (fun q35 => ?_)
          · refine m_ldc2 F kc_X9_184 e_X9_entry_61 ?_
            exact m_lret F hQ e_X9_entry_64 (⟨h1, _, rfl⟩)
          · obtain ⟨n2398, hn2398, rfl⟩ := nI_nn (x := x901) (fun e => q35 (Int32.lt_of_lt_of_le e (by decide)))
            have c35 : n2398 ≥ 0 := by have hh := mt (nI_ltI (a := n2398) (b := 0) (by omega) (by omega)).mpr q35; omega
            refine m_iload_n F rfl e_X9_entry_38 ?_
            refine m_aload_n F rfl e_X9_entry_39 ?_
            refine t_get F e_X9_entry_40 fl_X9_16 (fun _ => o1) h1 hk rfl (fun v hv f2399 => ?_)
            obtain ⟨r2400, k2401, rfl⟩ := hv
            refine t_get F e_X9_entry_43 fl_X9_186 (fun _ => o7) h1 k2401 rfl (fun v hv f2402 => ?_)
            obtain ⟨r2403, k2404, rfl⟩ := hv
            obtain ⟨v9, ⟨n2405, hn2405, rfl⟩, f2406⟩ := HK.f (j := 2) h1 (fun _ => o12) k2404 rfl
            replace hn2405 : n2405 ≤ M := hn2405
            refine t_callV F e_X9_entry_46 (s_X3_kept (x_l X) V b M Z T _ _ r2403 n2405 h1.1 k2404 (f2406) (by omega) (by omega)) cb_X3_kept ml_X9_196 im_X3_kept se_X3_kept (fun _ => o12) h1 k2404 rfl rfl (rest := [.int (nI n2398)]) rfl (Nat.le_of_ble_eq_true rfl) ⟨Nat.le_of_ble_eq_true rfl, Nat.le_of_ble_eq_true rfl⟩ ⟨Nat.le_of_ble_eq_true rfl, Nat.le_of_ble_eq_true rfl⟩ (fun r σ2407 hp => ?_)
            obtain ⟨h2409, n2410, hn2410, gn2410, rfl⟩ := hp
            have h2408 := HK.trans h1 h2409 (by decide)
            refine m_icmp_ge F e_X9_entry_49 (fun q49 => ?_) (fun q49 => ?_)
            · have c49 : n2398 ≥ n2410 := (nI_leI (a := n2410) (b := n2398) (by omega) (by omega)).mp q49
              refine m_ldc2 F kc_X9_184 e_X9_entry_61 ?_
              exact m_lret F hQ e_X9_entry_64 (⟨h2408, _, rfl⟩)
            · have c49 : n2398 < n2410 := by have hh := mt (nI_leI (a := n2410) (b := n2398) (by omega) (by omega)).mpr q49; omega
              refine m_iload_n F rfl e_X9_entry_52 ?_
              refine m_if_ne F e_X9_entry_53 (fun q => absurd (by decide) q) (fun _ => ?_)
              refine m_iload F rfl e_X9_entry_56 ?_
              refine m_if_ne F e_X9_entry_58 (fun _ => ?_) (fun q => absurd q (by decide))
              refine m_aload_n F rfl e_X9_entry_65 ?_
              refine t_getC F e_X9_entry_66 fl_X9_16 (fun _ => o1) h2408 hk ((fld_eq (h2409.2 a (by rw [show kA _ a = 1 from hk]; decide))).trans f2399) ?_
              refine t_getC F e_X9_entry_69 fl_X9_186 (fun _ => o7) h2408 k2401 ((fld_eq (h2409.2 r2400 (by rw [show kA _ r2400 = 7 from k2401]; decide))).trans f2402) ?_
              refine m_iload_n F rfl e_X9_entry_72 ?_
              refine m_iload_n F rfl e_X9_entry_73 ?_
              refine m_if_eq F e_X9_entry_74 (fun _ => ?_) (fun q => absurd (by decide) q)
              refine m_iload_n F rfl e_X9_entry_81 ?_
              refine m_bipush F (v := 10) (by decide) e_X9_entry_82 ?_
              refine m_isub F e_X9_entry_84 ?_
              refine Wm.top (fun x2411 _ => ?_)
              refine m_iconst F (v := 3) (by decide) e_X9_entry_85 ?_
              refine m_iadd F e_X9_entry_86 ?_
              refine Wm.top (fun x2412 _ => ?_)
              refine t_callV F e_X9_entry_87 (s_X3_told (x_l X) V b M Z T _ _ r2403 (nI n2398) x2412 h2408.1 k2404  (by omega)) cb_X3_told ml_X9_199 im_X3_told se_X3_told (fun _ => o12) h2408 k2404 rfl rfl (rest := []) rfl (Nat.le_of_ble_eq_true rfl) ⟨Nat.le_of_ble_eq_true rfl, Nat.le_of_ble_eq_true rfl⟩ ⟨Nat.le_of_ble_eq_true rfl, Nat.le_of_ble_eq_true rfl⟩ (fun r σ2413 hp => ?_)
              obtain ⟨h2415, x2416, rfl⟩ := hp
              have h2414 := HK.trans h2408 h2415 (by decide)
              exact m_lret F hQ e_X9_entry_90 (⟨h2414, _, rfl⟩)
    · have c6 : n2371 < 3 := by have hh := mt (nI_leI (a := 3) (b := n2371) (by omega) (by omega)).mpr q6; omega
      refine m_iconst F (v := 1) (by decide) e_X9_entry_9 ?_
      refine m_goto F e_X9_entry_10 ?_
      refine m_istore_n F (lv' := [(3, .int 1), (0, .ref a), (1, .int x901), (2, .int (nI n2371))]) e_X9_entry_14 (by decide) rfl ?_
      refine m_iload_n F rfl e_X9_entry_15 ?_
      refine m_bipush F (v := 10) (by decide) e_X9_entry_16 ?_
      refine m_icmp_lt F e_X9_entry_18 (fun q18 => ?_) (fun q18 => ?_)
      · have c18 : n2371 < 10 := (nI_ltI (a := n2371) (b := 10) (by omega) (by omega)).mp q18
        refine m_iconst F (v := 0) (by decide) e_X9_entry_31 ?_
        refine m_istore F (lv' := [(4, .int 0), (3, .int 1), (0, .ref a), (1, .int x901), (2, .int (nI n2371))]) e_X9_entry_32 (by decide) rfl ?_
        refine m_iload_n F rfl e_X9_entry_34 ?_
        refine m_if_lt F e_X9_entry_35 (fun q35 => ?_) (fun q35 => ?_)
        · refine m_ldc2 F kc_X9_184 e_X9_entry_61 ?_
          exact m_lret F hQ e_X9_entry_64 (⟨h1, _, rfl⟩)
        · obtain ⟨n2417, hn2417, rfl⟩ := nI_nn (x := x901) (fun e => q35 (Int32.lt_of_lt_of_le e (by decide)))
          have c35 : n2417 ≥ 0 := by have hh := mt (nI_ltI (a := n2417) (b := 0) (by omega) (by omega)).mpr q35; omega
          refine m_iload_n F rfl e_X9_entry_38 ?_
          refine m_aload_n F rfl e_X9_entry_39 ?_
          refine t_get F e_X9_entry_40 fl_X9_16 (fun _ => o1) h1 hk rfl (fun v hv f2418 => ?_)
          obtain ⟨r2419, k2420, rfl⟩ := hv
          refine t_get F e_X9_entry_43 fl_X9_186 (fun _ => o7) h1 k2420 rfl (fun v hv f2421 => ?_)
          obtain ⟨r2422, k2423, rfl⟩ := hv
          obtain ⟨v9, ⟨n2424, hn2424, rfl⟩, f2425⟩ := HK.f (j := 2) h1 (fun _ => o12) k2423 rfl
          replace hn2424 : n2424 ≤ M := hn2424
          refine t_callV F e_X9_entry_46 (s_X3_kept (x_l X) V b M Z T _ _ r2422 n2424 h1.1 k2423 (f2425) (by omega) (by omega)) cb_X3_kept ml_X9_196 im_X3_kept se_X3_kept (fun _ => o12) h1 k2423 rfl rfl (rest := [.int (nI n2417)]) rfl (Nat.le_of_ble_eq_true rfl) ⟨Nat.le_of_ble_eq_true rfl, Nat.le_of_ble_eq_true rfl⟩ ⟨Nat.le_of_ble_eq_true rfl, Nat.le_of_ble_eq_true rfl⟩ (fun r σ2426 hp => ?_)
          obtain ⟨h2428, n2429, hn2429, gn2429, rfl⟩ := hp
          have h2427 := HK.trans h1 h2428 (by decide)
          refine m_icmp_ge F e_X9_entry_49 (fun q49 => ?_) (fun q49 => ?_)
          · have c49 : n2417 ≥ n2429 := (nI_leI (a := n2429) (b := n2417) (by omega) (by omega)).mp q49
            refine m_ldc2 F kc_X9_184 e_X9_entry_61 ?_
            exact m_lret F hQ e_X9_entry_64 (⟨h2427, _, rfl⟩)
          · have c49 : n2417 < n2429 := by have hh := mt (nI_leI (a := n2429) (b := n2417) (by omega) (by omega)).mpr q49; omega
            refine m_iload_n F rfl e_X9_entry_52 ?_
            refine m_if_ne F e_X9_entry_53 (fun _ => ?_) (fun q => absurd q (by decide))
            refine m_aload_n F rfl e_X9_entry_65 ?_
            refine t_getC F e_X9_entry_66 fl_X9_16 (fun _ => o1) h2427 hk ((fld_eq (h2428.2 a (by rw [show kA _ a = 1 from hk]; decide))).trans f2418) ?_
            refine t_getC F e_X9_entry_69 fl_X9_186 (fun _ => o7) h2427 k2420 ((fld_eq (h2428.2 r2419 (by rw [show kA _ r2419 = 7 from k2420]; decide))).trans f2421) ?_
            refine m_iload_n F rfl e_X9_entry_72 ?_
            refine m_iload_n F rfl e_X9_entry_73 ?_
            refine m_if_eq F e_X9_entry_74 (fun q => absurd q (by decide)) (fun _ => ?_)
            refine m_iload_n F rfl e_X9_entry_77 ?_
            refine m_goto F e_X9_entry_78 ?_
            refine t_callV F e_X9_entry_87 (s_X3_told (x_l X) V b M Z T _ _ r2422 (nI n2417) (nI n2371) h2427.1 k2423  (by omega)) cb_X3_told ml_X9_199 im_X3_told se_X3_told (fun _ => o12) h2427 k2423 rfl rfl (rest := []) rfl (Nat.le_of_ble_eq_true rfl) ⟨Nat.le_of_ble_eq_true rfl, Nat.le_of_ble_eq_true rfl⟩ ⟨Nat.le_of_ble_eq_true rfl, Nat.le_of_ble_eq_true rfl⟩ (fun r σ2430 hp => ?_)
            obtain ⟨h2432, x2433, rfl⟩ := hp
            have h2431 := HK.trans h2427 h2432 (by decide)
            exact m_lret F hQ e_X9_entry_90 (⟨h2431, _, rfl⟩)
      · have c18 : n2371 ≥ 10 := by have hh := mt (nI_ltI (a := n2371) (b := 10) (by omega) (by omega)).mpr q18; omega
        refine m_iload_n F rfl e_X9_entry_21 ?_
        refine m_bipush F (v := 16) (by decide) e_X9_entry_22 ?_
        refine m_icmp_ge F e_X9_entry_24 (fun q24 => ?_) (fun q24 => ?_)
        · have c24 : n2371 ≥ 16 := (nI_leI (a := 16) (b := n2371) (by omega) (by omega)).mp q24
          refine m_iconst F (v := 0) (by decide) e_X9_entry_31 ?_
          refine m_istore F (lv' := [(4, .int 0), (3, .int 1), (0, .ref a), (1, .int x901), (2, .int (nI n2371))]) e_X9_entry_32 (by decide) rfl ?_
          refine m_iload_n F rfl e_X9_entry_34 ?_
          refine m_if_lt F e_X9_entry_35 (fun q35 => ?_) (fun q35 => ?_)
          · refine m_ldc2 F kc_X9_184 e_X9_entry_61 ?_
            exact m_lret F hQ e_X9_entry_64 (⟨h1, _, rfl⟩)
          · obtain ⟨n2434, hn2434, rfl⟩ := nI_nn (x := x901) (fun e => q35 (Int32.lt_of_lt_of_le e (by decide)))
            have c35 : n2434 ≥ 0 := by have hh := mt (nI_ltI (a := n2434) (b := 0) (by omega) (by omega)).mpr q35; omega
            refine m_iload_n F rfl e_X9_entry_38 ?_
            refine m_aload_n F rfl e_X9_entry_39 ?_
            refine t_get F e_X9_entry_40 fl_X9_16 (fun _ => o1) h1 hk rfl (fun v hv f2435 => ?_)
            obtain ⟨r2436, k2437, rfl⟩ := hv
            refine t_get F e_X9_entry_43 fl_X9_186 (fun _ => o7) h1 k2437 rfl (fun v hv f2438 => ?_)
            obtain ⟨r2439, k2440, rfl⟩ := hv
            obtain ⟨v9, ⟨n2441, hn2441, rfl⟩, f2442⟩ := HK.f (j := 2) h1 (fun _ => o12) k2440 rfl
            replace hn2441 : n2441 ≤ M := hn2441
            refine t_callV F e_X9_entry_46 (s_X3_kept (x_l X) V b M Z T _ _ r2439 n2441 h1.1 k2440 (f2442) (by omega) (by omega)) cb_X3_kept ml_X9_196 im_X3_kept se_X3_kept (fun _ => o12) h1 k2440 rfl rfl (rest := [.int (nI n2434)]) rfl (Nat.le_of_ble_eq_true rfl) ⟨Nat.le_of_ble_eq_true rfl, Nat.le_of_ble_eq_true rfl⟩ ⟨Nat.le_of_ble_eq_true rfl, Nat.le_of_ble_eq_true rfl⟩ (fun r σ2443 hp => ?_)
            obtain ⟨h2445, n2446, hn2446, gn2446, rfl⟩ := hp
            have h2444 := HK.trans h1 h2445 (by decide)
            refine m_icmp_ge F e_X9_entry_49 (fun q49 => ?_) (fun q49 => ?_)
            · have c49 : n2434 ≥ n2446 := (nI_leI (a := n2446) (b := n2434) (by omega) (by omega)).mp q49
              refine m_ldc2 F kc_X9_184 e_X9_entry_61 ?_
              exact m_lret F hQ e_X9_entry_64 (⟨h2444, _, rfl⟩)
            · have c49 : n2434 < n2446 := by have hh := mt (nI_leI (a := n2446) (b := n2434) (by omega) (by omega)).mpr q49; omega
              refine m_iload_n F rfl e_X9_entry_52 ?_
              refine m_if_ne F e_X9_entry_53 (fun _ => ?_) (fun q => absurd q (by decide))
              refine m_aload_n F rfl e_X9_entry_65 ?_
              refine t_getC F e_X9_entry_66 fl_X9_16 (fun _ => o1) h2444 hk ((fld_eq (h2445.2 a (by rw [show kA _ a = 1 from hk]; decide))).trans f2435) ?_
              refine t_getC F e_X9_entry_69 fl_X9_186 (fun _ => o7) h2444 k2437 ((fld_eq (h2445.2 r2436 (by rw [show kA _ r2436 = 7 from k2437]; decide))).trans f2438) ?_
              refine m_iload_n F rfl e_X9_entry_72 ?_
              refine m_iload_n F rfl e_X9_entry_73 ?_
              refine m_if_eq F e_X9_entry_74 (fun q => absurd q (by decide)) (fun _ => ?_)
              refine m_iload_n F rfl e_X9_entry_77 ?_
              refine m_goto F e_X9_entry_78 ?_
              refine t_callV F e_X9_entry_87 (s_X3_told (x_l X) V b M Z T _ _ r2439 (nI n2434) (nI n2371) h2444.1 k2440  (by omega)) cb_X3_told ml_X9_199 im_X3_told se_X3_told (fun _ => o12) h2444 k2440 rfl rfl (rest := []) rfl (Nat.le_of_ble_eq_true rfl) ⟨Nat.le_of_ble_eq_true rfl, Nat.le_of_ble_eq_true rfl⟩ ⟨Nat.le_of_ble_eq_true rfl, Nat.le_of_ble_eq_true rfl⟩ (fun r σ2447 hp => ?_)
              obtain ⟨h2449, x2450, rfl⟩ := hp
              have h2448 := HK.trans h2444 h2449 (by decide)
              exact m_lret F hQ e_X9_entry_90 (⟨h2448, _, rfl⟩)
        · have c24 : n2371 < 16 := by have hh := mt (nI_leI (a := 16) (b := n2371) (by omega) (by omega)).mpr q24; omega
          refine m_iconst F (v := 1) (by decide) e_X9_entry_27 ?_
          refine m_goto F e_X9_entry_28 ?_
          refine m_istore F (lv' := [(4, .int 1), (3, .int 1), (0, .ref a), (1, .int x901), (2, .int (nI n2371))]) e_X9_entry_32 (by decide) rfl ?_
          refine m_iload_n F rfl e_X9_entry_34 ?_
          refine m_if_lt F e_X9_entry_35 (fun q35 => ?_) (fun q35 => ?_)
          · refine m_ldc2 F kc_X9_184 e_X9_entry_61 ?_
            exact m_lret F hQ e_X9_entry_64 (⟨h1, _, rfl⟩)
          · obtain ⟨n2451, hn2451, rfl⟩ := nI_nn (x := x901) (fun e => q35 (Int32.lt_of_lt_of_le e (by decide)))
            have c35 : n2451 ≥ 0 := by have hh := mt (nI_ltI (a := n2451) (b := 0) (by omega) (by omega)).mpr q35; omega
            refine m_iload_n F rfl e_X9_entry_38 ?_
            refine m_aload_n F rfl e_X9_entry_39 ?_
            refine t_get F e_X9_entry_40 fl_X9_16 (fun _ => o1) h1 hk rfl (fun v hv f2452 => ?_)
            obtain ⟨r2453, k2454, rfl⟩ := hv
            refine t_get F e_X9_entry_43 fl_X9_186 (fun _ => o7) h1 k2454 rfl (fun v hv f2455 => ?_)
            obtain ⟨r2456, k2457, rfl⟩ := hv
            obtain ⟨v9, ⟨n2458, hn2458, rfl⟩, f2459⟩ := HK.f (j := 2) h1 (fun _ => o12) k2457 rfl
            replace hn2458 : n2458 ≤ M := hn2458
            refine t_callV F e_X9_entry_46 (s_X3_kept (x_l X) V b M Z T _ _ r2456 n2458 h1.1 k2457 (f2459) (by omega) (by omega)) cb_X3_kept ml_X9_196 im_X3_kept se_X3_kept (fun _ => o12) h1 k2457 rfl rfl (rest := [.int (nI n2451)]) rfl (Nat.le_of_ble_eq_true rfl) ⟨Nat.le_of_ble_eq_true rfl, Nat.le_of_ble_eq_true rfl⟩ ⟨Nat.le_of_ble_eq_true rfl, Nat.le_of_ble_eq_true rfl⟩ (fun r σ2460 hp => ?_)
            obtain ⟨h2462, n2463, hn2463, gn2463, rfl⟩ := hp
            have h2461 := HK.trans h1 h2462 (by decide)
            refine m_icmp_ge F e_X9_entry_49 (fun q49 => ?_) (fun q49 => ?_)
            · have c49 : n2451 ≥ n2463 := (nI_leI (a := n2463) (b := n2451) (by omega) (by omega)).mp q49
              refine m_ldc2 F kc_X9_184 e_X9_entry_61 ?_
              exact m_lret F hQ e_X9_entry_64 (⟨h2461, _, rfl⟩)
            · have c49 : n2451 < n2463 := by have hh := mt (nI_leI (a := n2463) (b := n2451) (by omega) (by omega)).mpr q49; omega
              refine m_iload_n F rfl e_X9_entry_52 ?_
              refine m_if_ne F e_X9_entry_53 (fun _ => ?_) (fun q => absurd q (by decide))
              refine m_aload_n F rfl e_X9_entry_65 ?_
              refine t_getC F e_X9_entry_66 fl_X9_16 (fun _ => o1) h2461 hk ((fld_eq (h2462.2 a (by rw [show kA _ a = 1 from hk]; decide))).trans f2452) ?_
              refine t_getC F e_X9_entry_69 fl_X9_186 (fun _ => o7) h2461 k2454 ((fld_eq (h2462.2 r2453 (by rw [show kA _ r2453 = 7 from k2454]; decide))).trans f2455) ?_
              refine m_iload_n F rfl e_X9_entry_72 ?_
              refine m_iload_n F rfl e_X9_entry_73 ?_
              refine m_if_eq F e_X9_entry_74 (fun q => absurd q (by decide)) (fun _ => ?_)
              refine m_iload_n F rfl e_X9_entry_77 ?_
              refine m_goto F e_X9_entry_78 ?_
              refine t_callV F e_X9_entry_87 (s_X3_told (x_l X) V b M Z T _ _ r2456 (nI n2451) (nI n2371) h2461.1 k2457  (by omega)) cb_X3_told ml_X9_199 im_X3_told se_X3_told (fun _ => o12) h2461 k2457 rfl rfl (rest := []) rfl (Nat.le_of_ble_eq_true rfl) ⟨Nat.le_of_ble_eq_true rfl, Nat.le_of_ble_eq_true rfl⟩ ⟨Nat.le_of_ble_eq_true rfl, Nat.le_of_ble_eq_true rfl⟩ (fun r σ2464 hp => ?_)
              obtain ⟨h2466, x2467, rfl⟩ := hp
              have h2465 := HK.trans h2461 h2466 (by decide)
              exact m_lret F hQ e_X9_entry_90 (⟨h2465, _, rfl⟩)
set_option maxRecDepth 20000 in
theorem s_X9_rate (l : Launch) (V : VX) (b M Z T N : Nat) (σ : Mem) (a : Nat) (x901 : Int32) (x902 : Int32) (h0 : HT V (b, M, Z, T) σ) (hk : kA b a = 1) (hM : M + 1 ≤ 1000000000) : Ct l V yX9_rate cX9_rate 4 (some .long) 5 0 0 N σ [.ref a, .int x901, .int x902] (fun r τ => HK V (b, M + 1, Z, T) [0, 3] σ τ ∧ ∃ x : Int64, r = some (.long x)) := by
  refine Ct.of (by decide) (Nat.le_of_ble_eq_true rfl) [(0, .ref a), (1, .int x901), (2, .int x902)] rfl (fun X hX F hQ => ?_)
  have h1 : HK V (b, M, Z, T) [0, 3] σ σ := HK.start h0
  refine m_aload_n F rfl e_X9_rate_0 ?_
  refine m_iload_n F rfl e_X9_rate_1 ?_
  refine t_callV F e_X9_rate_2 (s_X9_runningAt (x_l X) V b M Z T _ _ a x901 h1.1 hk  (by omega)) cb_X9_runningAt ml_X9_203 im_X9_runningAt se_X9_runningAt (fun _ => o1) h1 hk rfl rfl (rest := []) rfl (Nat.le_of_ble_eq_true rfl) ⟨Nat.le_of_ble_eq_true rfl, Nat.le_of_ble_eq_true rfl⟩ ⟨Nat.le_of_ble_eq_true rfl, Nat.le_of_ble_eq_true rfl⟩ (fun r σ2468 hp => ?_)
  obtain ⟨h2470, c2471⟩ := hp
  have h2469 := HK.trans h1 h2470 (by decide)
  rcases c2471 with rfl | ⟨n2472, r2473, hn2472, en2472, k2474, rfl⟩
  · refine m_astore_nN F (lv' := [(3, .null), (0, .ref a), (1, .int x901), (2, .int x902)]) e_X9_rate_5 (by decide) rfl ?_
    refine m_aload_nN F rfl e_X9_rate_6 ?_
    refine m_ifnullN F e_X9_rate_7 ?_
    refine m_ldc2 F kc_X9_184 e_X9_rate_20 ?_
    exact m_lret F hQ e_X9_rate_23 (⟨(h2469.mono (M' := M + 1) (Z' := Z) (by omega) (by intro e; first | rfl | assumption | omega)), _, rfl⟩)
  · subst en2472
    refine m_astore_n F (lv' := [(3, .ref r2473), (0, .ref a), (1, .int (nI n2472)), (2, .int x902)]) e_X9_rate_5 (by decide) rfl ?_
    refine m_aload_n F rfl e_X9_rate_6 ?_
    refine m_ifnullR F e_X9_rate_7 ?_
    refine m_iload_n F rfl e_X9_rate_10 ?_
    refine m_if_lt F e_X9_rate_11 (fun q11 => ?_) (fun q11 => ?_)
    · refine m_ldc2 F kc_X9_184 e_X9_rate_20 ?_
      exact m_lret F hQ e_X9_rate_23 (⟨(h2469.mono (M' := M + 1) (Z' := Z) (by omega) (by intro e; first | rfl | assumption | omega)), _, rfl⟩)
    · obtain ⟨n2475, hn2475, rfl⟩ := nI_nn (x := x902) (fun e => q11 (Int32.lt_of_lt_of_le e (by decide)))
      have c11 : n2475 ≥ 0 := by have hh := mt (nI_ltI (a := n2475) (b := 0) (by omega) (by omega)).mpr q11; omega
      refine m_iload_n F rfl e_X9_rate_14 ?_
      refine m_ldc F kc_X9_206 e_X9_rate_15 ?_
      refine m_icmp_le F e_X9_rate_17 (fun q17 => ?_) (fun q17 => ?_)
      · have c17 : n2475 ≤ 200000 := (nI_leI (a := n2475) (b := 200000) (by omega) (by omega)).mp q17
        refine m_aload_n F rfl e_X9_rate_24 ?_
        refine t_callV F e_X9_rate_25 (s_X9_remember (x_l X) V b M Z T _ _ a  h2469.1 hk  (by omega)) cb_X9_remember ml_X9_97 im_X9_remember se_X9_remember (fun _ => o1) h2469 hk rfl rfl (rest := []) rfl (Nat.le_of_ble_eq_true rfl) ⟨Nat.le_of_ble_eq_true rfl, Nat.le_of_ble_eq_true rfl⟩ ⟨Nat.le_of_ble_eq_true rfl, Nat.le_of_ble_eq_true rfl⟩ (fun r σ2476 hp => ?_)
        obtain ⟨h2478, rfl⟩ := hp
        have h2477 := HK.trans h2469 h2478 (by decide)
        refine m_aload_n F rfl e_X9_rate_28 ?_
        refine m_iload_n F rfl e_X9_rate_29 ?_
        refine t_put F e_X9_rate_30 fp_X9_122 (fun _ => o15) h2477 k2474 rfl ⟨_, rfl⟩ rfl rfl (by decide) (fun σ2479 h2480 g2481 g2482 f2483 => ?_)
        refine m_aload_n F rfl e_X9_rate_33 ?_
        refine t_get F e_X9_rate_34 fl_X9_16 (fun _ => o1) h2480 hk rfl (fun v hv f2484 => ?_)
        obtain ⟨r2485, k2486, rfl⟩ := hv
        refine m_iload_n F rfl e_X9_rate_37 ?_
        refine m_aload_n F rfl e_X9_rate_38 ?_
        refine t_callV F e_X9_rate_39 (s_X2_remeasure (x_l X) V b M Z T _ _ r2485 (nI n2472) r2473 h2480.1 k2486 k2474 (by omega)) cb_X2_remeasure ml_X9_207 im_X2_remeasure se_X2_remeasure (fun _ => o7) h2480 k2486 rfl rfl (rest := []) rfl (Nat.le_of_ble_eq_true rfl) ⟨Nat.le_of_ble_eq_true rfl, Nat.le_of_ble_eq_true rfl⟩ ⟨Nat.le_of_ble_eq_true rfl, Nat.le_of_ble_eq_true rfl⟩ (fun r σ2487 hp => ?_)
        obtain ⟨h2489, x2490, rfl⟩ := hp
        have h2488 := HK.trans h2480 h2489 (by decide)
        exact m_lret F hQ e_X9_rate_42 (⟨h2488, _, rfl⟩)
      · have c17 : n2475 > 200000 := by have hh := mt (nI_leI (a := n2475) (b := 200000) (by omega) (by omega)).mpr q17; omega
        refine m_ldc2 F kc_X9_184 e_X9_rate_20 ?_
        exact m_lret F hQ e_X9_rate_23 (⟨(h2469.mono (M' := M + 1) (Z' := Z) (by omega) (by intro e; first | rfl | assumption | omega)), _, rfl⟩)
set_option maxRecDepth 20000 in
theorem s_X9_extend (l : Launch) (V : VX) (b M Z T N : Nat) (σ : Mem) (a : Nat) (x901 : Int32) (x902 : Int32) (h0 : HT V (b, M, Z, T) σ) (hk : kA b a = 1) (hM : M + 1 ≤ 1000000000) : Ct l V yX9_extend cX9_extend 4 (some .long) 5 0 0 N σ [.ref a, .int x901, .int x902] (fun r τ => HK V (b, M + 1, Z, T) [0, 3] σ τ ∧ ∃ x : Int64, r = some (.long x)) := by
  refine Ct.of (by decide) (Nat.le_of_ble_eq_true rfl) [(0, .ref a), (1, .int x901), (2, .int x902)] rfl (fun X hX F hQ => ?_)
  have h1 : HK V (b, M, Z, T) [0, 3] σ σ := HK.start h0
  refine m_aload_n F rfl e_X9_extend_0 ?_
  refine m_iload_n F rfl e_X9_extend_1 ?_
  refine t_callV F e_X9_extend_2 (s_X9_runningAt (x_l X) V b M Z T _ _ a x901 h1.1 hk  (by omega)) cb_X9_runningAt ml_X9_203 im_X9_runningAt se_X9_runningAt (fun _ => o1) h1 hk rfl rfl (rest := []) rfl (Nat.le_of_ble_eq_true rfl) ⟨Nat.le_of_ble_eq_true rfl, Nat.le_of_ble_eq_true rfl⟩ ⟨Nat.le_of_ble_eq_true rfl, Nat.le_of_ble_eq_true rfl⟩ (fun r σ2491 hp => ?_)
  obtain ⟨h2493, c2494⟩ := hp
  have h2492 := HK.trans h1 h2493 (by decide)
  rcases c2494 with rfl | ⟨n2495, r2496, hn2495, en2495, k2497, rfl⟩
  · refine m_astore_nN F (lv' := [(3, .null), (0, .ref a), (1, .int x901), (2, .int x902)]) e_X9_extend_5 (by decide) rfl ?_
    refine m_aload_nN F rfl e_X9_extend_6 ?_
    refine m_ifnullN F e_X9_extend_7 ?_
    refine m_ldc2 F kc_X9_184 e_X9_extend_32 ?_
    exact m_lret F hQ e_X9_extend_35 (⟨(h2492.mono (M' := M + 1) (Z' := Z) (by omega) (by intro e; first | rfl | assumption | omega)), _, rfl⟩)
  · subst en2495
    refine m_astore_n F (lv' := [(3, .ref r2496), (0, .ref a), (1, .int (nI n2495)), (2, .int x902)]) e_X9_extend_5 (by decide) rfl ?_
    refine m_aload_n F rfl e_X9_extend_6 ?_
    refine m_ifnullR F e_X9_extend_7 ?_
    refine m_iload_n F rfl e_X9_extend_10 ?_
    refine m_iconst F (v := 1) (by decide) e_X9_extend_11 ?_
    refine m_icmp_lt F e_X9_extend_12 (fun q12 => ?_) (fun q12 => ?_)
    · refine m_ldc2 F kc_X9_184 e_X9_extend_32 ?_
      exact m_lret F hQ e_X9_extend_35 (⟨(h2492.mono (M' := M + 1) (Z' := Z) (by omega) (by intro e; first | rfl | assumption | omega)), _, rfl⟩)
    · obtain ⟨n2498, hn2498, rfl⟩ := nI_nn (x := x902) (fun e => q12 (Int32.lt_of_lt_of_le e (by decide)))
      have c12 : n2498 ≥ 1 := by have hh := mt (nI_ltI (a := n2498) (b := 1) (by omega) (by omega)).mpr q12; omega
      refine m_iload_n F rfl e_X9_extend_15 ?_
      refine m_bipush F (v := 24) (by decide) e_X9_extend_16 ?_
      refine m_icmp_gt F e_X9_extend_18 (fun q18 => ?_) (fun q18 => ?_)
      · have c18 : n2498 > 24 := (nI_ltI (a := 24) (b := n2498) (by omega) (by omega)).mp q18
        refine m_ldc2 F kc_X9_184 e_X9_extend_32 ?_
        exact m_lret F hQ e_X9_extend_35 (⟨(h2492.mono (M' := M + 1) (Z' := Z) (by omega) (by intro e; first | rfl | assumption | omega)), _, rfl⟩)
      · have c18 : n2498 ≤ 24 := by have hh := mt (nI_ltI (a := 24) (b := n2498) (by omega) (by omega)).mpr q18; omega
        refine m_aload_n F rfl e_X9_extend_21 ?_
        refine t_get F e_X9_extend_22 fl_X9_119 (fun _ => o15) h2492 k2497 rfl (fun v hv f2499 => ?_)
        obtain ⟨x2500, rfl⟩ := hv
        refine m_iload_n F rfl e_X9_extend_25 ?_
        refine m_iadd F e_X9_extend_26 ?_
        refine Wm.top (fun x2501 _ => ?_)
        refine m_bipush F (v := 72) (by decide) e_X9_extend_27 ?_
        refine m_icmp_le F e_X9_extend_29 (fun q29 => ?_) (fun q29 => ?_)
        · refine m_aload_n F rfl e_X9_extend_36 ?_
          refine t_callV F e_X9_extend_37 (s_X9_remember (x_l X) V b M Z T _ _ a  h2492.1 hk  (by omega)) cb_X9_remember ml_X9_97 im_X9_remember se_X9_remember (fun _ => o1) h2492 hk rfl rfl (rest := []) rfl (Nat.le_of_ble_eq_true rfl) ⟨Nat.le_of_ble_eq_true rfl, Nat.le_of_ble_eq_true rfl⟩ ⟨Nat.le_of_ble_eq_true rfl, Nat.le_of_ble_eq_true rfl⟩ (fun r σ2502 hp => ?_)
          obtain ⟨h2504, rfl⟩ := hp
          have h2503 := HK.trans h2492 h2504 (by decide)
          refine m_aload_n F rfl e_X9_extend_40 ?_
          refine m_iload_n F rfl e_X9_extend_41 ?_
          refine t_callV F e_X9_extend_42 (s_X5_goOnAsLast (x_l X) V b M Z T _ _ r2496 n2498 h2503.1 k2497 (by omega) (by omega)) cb_X5_goOnAsLast ml_X9_211 im_X5_goOnAsLast se_X5_goOnAsLast (fun _ => o15) h2503 k2497 rfl rfl (rest := []) rfl (Nat.le_of_ble_eq_true rfl) ⟨Nat.le_of_ble_eq_true rfl, Nat.le_of_ble_eq_true rfl⟩ ⟨Nat.le_of_ble_eq_true rfl, Nat.le_of_ble_eq_true rfl⟩ (fun r σ2505 hp => ?_)
          obtain ⟨h2507, rfl⟩ := hp
          have h2506 := HK.trans h2503 h2507 (by decide)
          refine m_aload_n F rfl e_X9_extend_45 ?_
          refine t_get F e_X9_extend_46 fl_X9_16 (fun _ => o1) h2506 hk rfl (fun v hv f2508 => ?_)
          obtain ⟨r2509, k2510, rfl⟩ := hv
          refine m_iload_n F rfl e_X9_extend_49 ?_
          refine m_aload_n F rfl e_X9_extend_50 ?_
          refine t_callV F e_X9_extend_51 (s_X2_remeasure (x_l X) V b M Z T _ _ r2509 (nI n2495) r2496 h2506.1 k2510 k2497 (by omega)) cb_X2_remeasure ml_X9_207 im_X2_remeasure se_X2_remeasure (fun _ => o7) h2506 k2510 rfl rfl (rest := []) rfl (Nat.le_of_ble_eq_true rfl) ⟨Nat.le_of_ble_eq_true rfl, Nat.le_of_ble_eq_true rfl⟩ ⟨Nat.le_of_ble_eq_true rfl, Nat.le_of_ble_eq_true rfl⟩ (fun r σ2511 hp => ?_)
          obtain ⟨h2513, x2514, rfl⟩ := hp
          have h2512 := HK.trans h2506 h2513 (by decide)
          exact m_lret F hQ e_X9_extend_54 (⟨h2512, _, rfl⟩)
        · obtain ⟨n2515, hn2515, rfl⟩ := nI_nn (x := x2501) (fun e => q29 (Int32.le_trans (Int32.le_of_lt e) (by decide)))
          have c29 : n2515 > 72 := by have hh := mt (nI_leI (a := n2515) (b := 72) (by omega) (by omega)).mpr q29; omega
          refine m_ldc2 F kc_X9_184 e_X9_extend_32 ?_
          exact m_lret F hQ e_X9_extend_35 (⟨(h2492.mono (M' := M + 1) (Z' := Z) (by omega) (by intro e; first | rfl | assumption | omega)), _, rfl⟩)
set_option maxRecDepth 20000 in
theorem s_X9_take (l : Launch) (V : VX) (b M Z T N : Nat) (σ : Mem) (a : Nat) (x901 : Int32) (h0 : HT V (b, M, Z, T) σ) (hk : kA b a = 1) (hM : M + 1 ≤ 1000000000) : Ct l V yX9_take cX9_take 4 (some .long) 5 0 0 N σ [.ref a, .int x901] (fun r τ => HK V (b, M + 1, Z, T) [0, 3] σ τ ∧ ∃ x : Int64, r = some (.long x)) := by
  refine Ct.of (by decide) (Nat.le_of_ble_eq_true rfl) [(0, .ref a), (1, .int x901)] rfl (fun X hX F hQ => ?_)
  have h1 : HK V (b, M, Z, T) [0, 3] σ σ := HK.start h0
  refine m_aload_n F rfl e_X9_take_0 ?_
  refine t_get F e_X9_take_1 fl_X9_16 (fun _ => o1) h1 hk rfl (fun v hv f2516 => ?_)
  obtain ⟨r2517, k2518, rfl⟩ := hv
  refine m_iload_n F rfl e_X9_take_4 ?_
  refine t_callV F e_X9_take_5 (s_X2_canTake (x_l X) V b M Z T _ _ r2517 x901 h1.1 k2518  (by omega)) cb_X2_canTake ml_X9_214 im_X2_canTake se_X2_canTake (fun _ => o7) h1 k2518 rfl rfl (rest := []) rfl (Nat.le_of_ble_eq_true rfl) ⟨Nat.le_of_ble_eq_true rfl, Nat.le_of_ble_eq_true rfl⟩ ⟨Nat.le_of_ble_eq_true rfl, Nat.le_of_ble_eq_true rfl⟩ (fun r σ2519 hp => ?_)
  obtain ⟨h2521, c2522⟩ := hp
  have h2520 := HK.trans h1 h2521 (by decide)
  rcases c2522 with rfl | ⟨n2523, hn2523, en2523, rfl⟩
  · refine m_if_ne F e_X9_take_8 (fun q => absurd (by decide) q) (fun _ => ?_)
    refine m_ldc2 F kc_X9_184 e_X9_take_11 ?_
    exact m_lret F hQ e_X9_take_14 (⟨(h2520.mono (M' := M + 1) (Z' := Z) (by omega) (by intro e; first | rfl | assumption | omega)), _, rfl⟩)
  · subst en2523
    refine m_if_ne F e_X9_take_8 (fun _ => ?_) (fun q => absurd q (by decide))
    refine m_aload_n F rfl e_X9_take_15 ?_
    refine t_callV F e_X9_take_16 (s_X9_remember (x_l X) V b M Z T _ _ a  h2520.1 hk  (by omega)) cb_X9_remember ml_X9_97 im_X9_remember se_X9_remember (fun _ => o1) h2520 hk rfl rfl (rest := []) rfl (Nat.le_of_ble_eq_true rfl) ⟨Nat.le_of_ble_eq_true rfl, Nat.le_of_ble_eq_true rfl⟩ ⟨Nat.le_of_ble_eq_true rfl, Nat.le_of_ble_eq_true rfl⟩ (fun r σ2524 hp => ?_)
    obtain ⟨h2526, rfl⟩ := hp
    have h2525 := HK.trans h2520 h2526 (by decide)
    refine m_aload_n F rfl e_X9_take_19 ?_
    refine t_get F e_X9_take_20 fl_X9_16 (fun _ => o1) h2525 hk rfl (fun v hv f2527 => ?_)
    obtain ⟨r2528, k2529, rfl⟩ := hv
    refine t_get F e_X9_take_23 fl_X9_217 (fun _ => o7) h2525 k2529 rfl (fun v hv f2530 => ?_)
    obtain ⟨r2531, k2532, rfl⟩ := hv
    refine m_iload_n F rfl e_X9_take_26 ?_
    refine t_aald F (len := 4) (j := n2523) e_X9_take_27 (fun _ => o9) rfl h2525 k2532 (nI_clamp (by omega)) (vp_in_nI (by omega) (by decide)) (fun r2533 k2534 => ?_)
    refine m_astore_n F (lv' := [(2, .ref r2533), (0, .ref a), (1, .int (nI n2523))]) e_X9_take_28 (by decide) rfl ?_
    refine m_aload_n F rfl e_X9_take_29 ?_
    refine m_iconst F (v := 1) (by decide) e_X9_take_30 ?_
    refine t_put F e_X9_take_31 fp_X9_221 (fun _ => o19) h2525 k2534 rfl ⟨1, (show 1 ≤ 1 by omega), rfl⟩ (by decide) rfl (by decide) (fun σ2535 h2536 g2537 g2538 f2539 => ?_)
    refine m_aload_n F rfl e_X9_take_34 ?_
    refine t_getC F e_X9_take_35 fl_X9_16 (fun _ => o1) h2536 hk ((g2537 a 2 (fun e => absurd ((hk).symm.trans e) (by decide))).trans f2527) ?_
    refine t_get F e_X9_take_38 fl_X9_226 (fun _ => o7) h2536 k2529 rfl (fun v hv f2540 => ?_)
    obtain ⟨r2541, k2542, rfl⟩ := hv
    refine m_aload_n F rfl e_X9_take_41 ?_
    refine t_get F e_X9_take_42 fl_X9_230 (fun _ => o19) h2536 k2534 rfl (fun v hv f2543 => ?_)
    obtain ⟨n2544, hn2544, rfl⟩ := hv
    replace hn2544 : n2544 ≤ 3 := hn2544
    refine t_aald F (len := 4) (j := n2544) e_X9_take_45 (fun _ => o8) rfl h2536 k2542 (nI_clamp (by omega)) (vp_in_nI (by omega) (by decide)) (fun r2545 k2546 => ?_)
    refine m_astore_n F (lv' := [(3, .ref r2545), (2, .ref r2533), (0, .ref a), (1, .int (nI n2523))]) e_X9_take_46 (by decide) rfl ?_
    refine m_aload_n F rfl e_X9_take_47 ?_
    refine t_getC F e_X9_take_48 fl_X9_16 (fun _ => o1) h2536 hk ((g2537 a 2 (fun e => absurd ((hk).symm.trans e) (by decide))).trans f2527) ?_
    refine m_aload_n F rfl e_X9_take_51 ?_
    refine m_aload_n F rfl e_X9_take_52 ?_
    refine t_callV F e_X9_take_53 (s_X2_goOnByOption (x_l X) V b M Z T _ _ r2528 r2545 r2533 h2536.1 k2529 k2546 k2534 (by omega)) cb_X2_goOnByOption ml_X9_233 im_X2_goOnByOption se_X2_goOnByOption (fun _ => o7) h2536 k2529 rfl rfl (rest := []) rfl (Nat.le_of_ble_eq_true rfl) ⟨Nat.le_of_ble_eq_true rfl, Nat.le_of_ble_eq_true rfl⟩ ⟨Nat.le_of_ble_eq_true rfl, Nat.le_of_ble_eq_true rfl⟩ (fun r σ2547 hp => ?_)
    obtain ⟨h2549, rfl⟩ := hp
    have h2548 := HK.trans h2536 h2549 (by decide)
    refine m_aload_n F rfl e_X9_take_56 ?_
    refine t_getC F e_X9_take_57 fl_X9_16 (fun _ => o1) h2548 hk ((fld_eq (h2549.2 a (by rw [show kA _ a = 1 from hk]; decide))).trans ((g2537 a 2 (fun e => absurd ((hk).symm.trans e) (by decide))).trans f2527)) ?_
    refine m_aload_n F rfl e_X9_take_60 ?_
    refine t_getC F e_X9_take_61 fl_X9_230 (fun _ => o19) h2548 k2534 ((fld_eq (h2549.2 r2533 (by rw [show kA _ r2533 = 19 from k2534]; decide))).trans f2543) ?_
    refine m_aload_n F rfl e_X9_take_64 ?_
    refine t_callV F e_X9_take_65 (s_X2_remeasure (x_l X) V b M Z T _ _ r2528 (nI n2544) r2545 h2548.1 k2529 k2546 (by omega)) cb_X2_remeasure ml_X9_207 im_X2_remeasure se_X2_remeasure (fun _ => o7) h2548 k2529 rfl rfl (rest := []) rfl (Nat.le_of_ble_eq_true rfl) ⟨Nat.le_of_ble_eq_true rfl, Nat.le_of_ble_eq_true rfl⟩ ⟨Nat.le_of_ble_eq_true rfl, Nat.le_of_ble_eq_true rfl⟩ (fun r σ2550 hp => ?_)
    obtain ⟨h2552, x2553, rfl⟩ := hp
    have h2551 := HK.trans h2548 h2552 (by decide)
    exact m_lret F hQ e_X9_take_68 (⟨h2551, _, rfl⟩)
set_option maxRecDepth 20000 in
theorem s_X9_part (l : Launch) (V : VX) (b M Z T N : Nat) (σ : Mem) (a : Nat) (x901 : Int32) (x902 : Int32) (h0 : HT V (b, M, Z, T) σ) (hk : kA b a = 1) (hM : M + 1 ≤ 1000000000) : Ct l V yX9_part cX9_part 6 (some .long) 5 0 0 N σ [.ref a, .int x901, .int x902] (fun r τ => HK V (b, M + 1, Z, T) [0, 3] σ τ ∧ ∃ x : Int64, r = some (.long x)) := by
  refine Ct.of (by decide) (Nat.le_of_ble_eq_true rfl) [(0, .ref a), (1, .int x901), (2, .int x902)] rfl (fun X hX F hQ => ?_)
  have h1 : HK V (b, M, Z, T) [0, 3] σ σ := HK.start h0
  refine m_aload_n F rfl e_X9_part_0 ?_
  refine m_iload_n F rfl e_X9_part_1 ?_
  refine t_callV F e_X9_part_2 (s_X9_runningAt (x_l X) V b M Z T _ _ a x901 h1.1 hk  (by omega)) cb_X9_runningAt ml_X9_203 im_X9_runningAt se_X9_runningAt (fun _ => o1) h1 hk rfl rfl (rest := []) rfl (Nat.le_of_ble_eq_true rfl) ⟨Nat.le_of_ble_eq_true rfl, Nat.le_of_ble_eq_true rfl⟩ ⟨Nat.le_of_ble_eq_true rfl, Nat.le_of_ble_eq_true rfl⟩ (fun r σ2554 hp => ?_)
  obtain ⟨h2556, c2557⟩ := hp
  have h2555 := HK.trans h1 h2556 (by decide)
  rcases c2557 with rfl | ⟨n2558, r2559, hn2558, en2558, k2560, rfl⟩
  · refine m_astore_nN F (lv' := [(3, .null), (0, .ref a), (1, .int x901), (2, .int x902)]) e_X9_part_5 (by decide) rfl ?_
    refine m_aload_nN F rfl e_X9_part_6 ?_
    refine m_ifnullN F e_X9_part_7 ?_
    refine m_ldc2 F kc_X9_184 e_X9_part_22 ?_
    exact m_lret F hQ e_X9_part_25 (⟨(h2555.mono (M' := M + 1) (Z' := Z) (by omega) (by intro e; first | rfl | assumption | omega)), _, rfl⟩)
  · subst en2558
    refine m_astore_n F (lv' := [(3, .ref r2559), (0, .ref a), (1, .int (nI n2558)), (2, .int x902)]) e_X9_part_5 (by decide) rfl ?_
    refine m_aload_n F rfl e_X9_part_6 ?_
    refine m_ifnullR F e_X9_part_7 ?_
    refine m_iload_n F rfl e_X9_part_10 ?_
    refine m_iconst F (v := 1) (by decide) e_X9_part_11 ?_
    refine m_icmp_lt F e_X9_part_12 (fun q12 => ?_) (fun q12 => ?_)
    · refine m_ldc2 F kc_X9_184 e_X9_part_22 ?_
      exact m_lret F hQ e_X9_part_25 (⟨(h2555.mono (M' := M + 1) (Z' := Z) (by omega) (by intro e; first | rfl | assumption | omega)), _, rfl⟩)
    · obtain ⟨n2561, hn2561, rfl⟩ := nI_nn (x := x902) (fun e => q12 (Int32.lt_of_lt_of_le e (by decide)))
      have c12 : n2561 ≥ 1 := by have hh := mt (nI_ltI (a := n2561) (b := 1) (by omega) (by omega)).mpr q12; omega
      refine m_iload_n F rfl e_X9_part_15 ?_
      refine m_sipush F (v := 999) (by decide) e_X9_part_16 ?_
      refine m_icmp_le F e_X9_part_19 (fun q19 => ?_) (fun q19 => ?_)
      · have c19 : n2561 ≤ 999 := (nI_leI (a := n2561) (b := 999) (by omega) (by omega)).mp q19
        refine m_aload_n F rfl e_X9_part_26 ?_
        refine t_callV F e_X9_part_27 (s_X9_remember (x_l X) V b M Z T _ _ a  h2555.1 hk  (by omega)) cb_X9_remember ml_X9_97 im_X9_remember se_X9_remember (fun _ => o1) h2555 hk rfl rfl (rest := []) rfl (Nat.le_of_ble_eq_true rfl) ⟨Nat.le_of_ble_eq_true rfl, Nat.le_of_ble_eq_true rfl⟩ ⟨Nat.le_of_ble_eq_true rfl, Nat.le_of_ble_eq_true rfl⟩ (fun r σ2562 hp => ?_)
        obtain ⟨h2564, rfl⟩ := hp
        have h2563 := HK.trans h2555 h2564 (by decide)
        refine m_aload_n F rfl e_X9_part_30 ?_
        refine t_get F e_X9_part_31 fl_X9_16 (fun _ => o1) h2563 hk rfl (fun v hv f2565 => ?_)
        obtain ⟨r2566, k2567, rfl⟩ := hv
        refine m_iload_n F rfl e_X9_part_34 ?_
        refine m_aload_n F rfl e_X9_part_35 ?_
        refine m_iload_n F rfl e_X9_part_36 ?_
        refine m_i2l F e_X9_part_37 ?_
        refine Wm.topl (fun x2568 _ => ?_)
        refine m_iconst F (v := 3) (by decide) e_X9_part_38 ?_
        refine t_callV F e_X9_part_39 (s_X2_giveBack (x_l X) V b M Z T _ _ r2566 (nI n2558) r2559 x2568 3 h2563.1 k2567 k2560 (by omega)) cb_X2_giveBack ml_X9_237 im_X2_giveBack se_X2_giveBack (fun _ => o7) h2563 k2567 rfl rfl (rest := []) rfl (Nat.le_of_ble_eq_true rfl) ⟨Nat.le_of_ble_eq_true rfl, Nat.le_of_ble_eq_true rfl⟩ ⟨Nat.le_of_ble_eq_true rfl, Nat.le_of_ble_eq_true rfl⟩ (fun r σ2569 hp => ?_)
        obtain ⟨h2571, x2572, rfl⟩ := hp
        have h2570 := HK.trans h2563 h2571 (by decide)
        refine m_lstore F (lv' := [(4, .long x2572), (3, .ref r2559), (0, .ref a), (1, .int (nI n2558)), (2, .int (nI n2561))]) e_X9_part_42 (by decide) rfl ?_
        refine m_aload_n F rfl e_X9_part_44 ?_
        refine m_ldc2 F kc_X9_241 e_X9_part_45 ?_
        refine m_iload_n F rfl e_X9_part_48 ?_
        refine m_i2l F e_X9_part_49 ?_
        refine Wm.topl (fun x2573 _ => ?_)
        refine m_lsub F e_X9_part_50 ?_
        refine Wm.topl (fun x2574 _ => ?_)
        refine t_callV F e_X9_part_51 (s_X5_keepPart (x_l X) V b (M + 1) Z T _ _ r2559 x2574 h2570.1 k2560  (by omega)) cb_X5_keepPart ml_X9_243 im_X5_keepPart se_X5_keepPart (fun _ => o15) h2570 k2560 rfl rfl (rest := []) rfl (Nat.le_of_ble_eq_true rfl) ⟨Nat.le_of_ble_eq_true rfl, Nat.le_of_ble_eq_true rfl⟩ ⟨Nat.le_of_ble_eq_true rfl, Nat.le_of_ble_eq_true rfl⟩ (fun r σ2575 hp => ?_)
        obtain ⟨h2577, rfl⟩ := hp
        have h2576 := HK.trans h2570 h2577 (by decide)
        refine m_lload F rfl e_X9_part_54 ?_
        exact m_lret F hQ e_X9_part_56 (⟨h2576, _, rfl⟩)
      · have c19 : n2561 > 999 := by have hh := mt (nI_leI (a := n2561) (b := 999) (by omega) (by omega)).mpr q19; omega
        refine m_ldc2 F kc_X9_184 e_X9_part_22 ?_
        exact m_lret F hQ e_X9_part_25 (⟨(h2555.mono (M' := M + 1) (Z' := Z) (by omega) (by intro e; first | rfl | assumption | omega)), _, rfl⟩)
set_option maxRecDepth 20000 in
theorem s_X9_end (l : Launch) (V : VX) (b M Z T N : Nat) (σ : Mem) (a : Nat) (x901 : Int32) (h0 : HT V (b, M, Z, T) σ) (hk : kA b a = 1) (hM : M + 1 ≤ 1000000000) : Ct l V yX9_end cX9_end 3 (some .long) 5 0 0 N σ [.ref a, .int x901] (fun r τ => HK V (b, M + 1, Z, T) [0, 3] σ τ ∧ ∃ x : Int64, r = some (.long x)) := by
  refine Ct.of (by decide) (Nat.le_of_ble_eq_true rfl) [(0, .ref a), (1, .int x901)] rfl (fun X hX F hQ => ?_)
  have h1 : HK V (b, M, Z, T) [0, 3] σ σ := HK.start h0
  refine m_aload_n F rfl e_X9_end_0 ?_
  refine m_iload_n F rfl e_X9_end_1 ?_
  refine t_callV F e_X9_end_2 (s_X9_runningAt (x_l X) V b M Z T _ _ a x901 h1.1 hk  (by omega)) cb_X9_runningAt ml_X9_203 im_X9_runningAt se_X9_runningAt (fun _ => o1) h1 hk rfl rfl (rest := []) rfl (Nat.le_of_ble_eq_true rfl) ⟨Nat.le_of_ble_eq_true rfl, Nat.le_of_ble_eq_true rfl⟩ ⟨Nat.le_of_ble_eq_true rfl, Nat.le_of_ble_eq_true rfl⟩ (fun r σ2578 hp => ?_)
  obtain ⟨h2580, c2581⟩ := hp
  have h2579 := HK.trans h1 h2580 (by decide)
  rcases c2581 with rfl | ⟨n2582, r2583, hn2582, en2582, k2584, rfl⟩
  · refine m_astore_nN F (lv' := [(2, .null), (0, .ref a), (1, .int x901)]) e_X9_end_5 (by decide) rfl ?_
    refine m_aload_nN F rfl e_X9_end_6 ?_
    refine m_ifnonnullN F e_X9_end_7 ?_
    refine m_ldc2 F kc_X9_184 e_X9_end_10 ?_
    exact m_lret F hQ e_X9_end_13 (⟨(h2579.mono (M' := M + 1) (Z' := Z) (by omega) (by intro e; first | rfl | assumption | omega)), _, rfl⟩)
  · subst en2582
    refine m_astore_n F (lv' := [(2, .ref r2583), (0, .ref a), (1, .int (nI n2582))]) e_X9_end_5 (by decide) rfl ?_
    refine m_aload_n F rfl e_X9_end_6 ?_
    refine m_ifnonnullR F e_X9_end_7 ?_
    refine m_aload_n F rfl e_X9_end_14 ?_
    refine t_callV F e_X9_end_15 (s_X9_remember (x_l X) V b M Z T _ _ a  h2579.1 hk  (by omega)) cb_X9_remember ml_X9_97 im_X9_remember se_X9_remember (fun _ => o1) h2579 hk rfl rfl (rest := []) rfl (Nat.le_of_ble_eq_true rfl) ⟨Nat.le_of_ble_eq_true rfl, Nat.le_of_ble_eq_true rfl⟩ ⟨Nat.le_of_ble_eq_true rfl, Nat.le_of_ble_eq_true rfl⟩ (fun r σ2585 hp => ?_)
    obtain ⟨h2587, rfl⟩ := hp
    have h2586 := HK.trans h2579 h2587 (by decide)
    refine m_aload_n F rfl e_X9_end_18 ?_
    refine m_iconst F (v := 2) (by decide) e_X9_end_19 ?_
    refine t_put F e_X9_end_20 fp_X9_125 (fun _ => o15) h2586 k2584 rfl ⟨_, rfl⟩ rfl rfl (by decide) (fun σ2588 h2589 g2590 g2591 f2592 => ?_)
    refine m_aload_n F rfl e_X9_end_23 ?_
    refine t_get F e_X9_end_24 fl_X9_16 (fun _ => o1) h2589 hk rfl (fun v hv f2593 => ?_)
    obtain ⟨r2594, k2595, rfl⟩ := hv
    refine m_iload_n F rfl e_X9_end_27 ?_
    refine m_aload_n F rfl e_X9_end_28 ?_
    refine m_ldc2 F kc_X9_241 e_X9_end_29 ?_
    refine m_iconst F (v := 4) (by decide) e_X9_end_32 ?_
    refine t_callV F e_X9_end_33 (s_X2_giveBack (x_l X) V b M Z T _ _ r2594 (nI n2582) r2583 1000 4 h2589.1 k2595 k2584 (by omega)) cb_X2_giveBack ml_X9_237 im_X2_giveBack se_X2_giveBack (fun _ => o7) h2589 k2595 rfl rfl (rest := []) rfl (Nat.le_of_ble_eq_true rfl) ⟨Nat.le_of_ble_eq_true rfl, Nat.le_of_ble_eq_true rfl⟩ ⟨Nat.le_of_ble_eq_true rfl, Nat.le_of_ble_eq_true rfl⟩ (fun r σ2596 hp => ?_)
    obtain ⟨h2598, x2599, rfl⟩ := hp
    have h2597 := HK.trans h2589 h2598 (by decide)
    exact m_lret F hQ e_X9_end_36 (⟨h2597, _, rfl⟩)
set_option maxRecDepth 20000 in
theorem s_X9_down (l : Launch) (V : VX) (b M Z T N : Nat) (σ : Mem) (a : Nat) (x901 : Int32) (x902 : Int64) (h0 : HT V (b, M, Z, T) σ) (hk : kA b a = 1) (hM : M + 1 ≤ 1000000000) : Ct l V yX9_down cX9_down 5 (some .long) 5 0 0 N σ [.ref a, .int x901, .long x902] (fun r τ => HK V (b, M + 1, Z, T) [0, 3] σ τ ∧ ∃ x : Int64, r = some (.long x)) := by
  refine Ct.of (by decide) (Nat.le_of_ble_eq_true rfl) [(0, .ref a), (1, .int x901), (2, .long x902)] rfl (fun X hX F hQ => ?_)
  have h1 : HK V (b, M, Z, T) [0, 3] σ σ := HK.start h0
  refine m_aload_n F rfl e_X9_down_0 ?_
  refine m_iload_n F rfl e_X9_down_1 ?_
  refine t_callV F e_X9_down_2 (s_X9_runningAt (x_l X) V b M Z T _ _ a x901 h1.1 hk  (by omega)) cb_X9_runningAt ml_X9_203 im_X9_runningAt se_X9_runningAt (fun _ => o1) h1 hk rfl rfl (rest := []) rfl (Nat.le_of_ble_eq_true rfl) ⟨Nat.le_of_ble_eq_true rfl, Nat.le_of_ble_eq_true rfl⟩ ⟨Nat.le_of_ble_eq_true rfl, Nat.le_of_ble_eq_true rfl⟩ (fun r σ2600 hp => ?_)
  obtain ⟨h2602, c2603⟩ := hp
  have h2601 := HK.trans h1 h2602 (by decide)
  rcases c2603 with rfl | ⟨n2604, r2605, hn2604, en2604, k2606, rfl⟩
  · refine m_astoreN F (lv' := [(4, .null), (0, .ref a), (1, .int x901), (2, .long x902)]) e_X9_down_5 (by decide) rfl ?_
    refine m_aloadN F rfl e_X9_down_7 ?_
    refine m_ifnullN F e_X9_down_9 ?_
    refine m_ldc2 F kc_X9_184 e_X9_down_30 ?_
    exact m_lret F hQ e_X9_down_33 (⟨(h2601.mono (M' := M + 1) (Z' := Z) (by omega) (by intro e; first | rfl | assumption | omega)), _, rfl⟩)
  · subst en2604
    refine m_astore F (lv' := [(4, .ref r2605), (0, .ref a), (1, .int (nI n2604)), (2, .long x902)]) e_X9_down_5 (by decide) rfl ?_
    refine m_aload F rfl e_X9_down_7 ?_
    refine m_ifnullR F e_X9_down_9 ?_
    refine m_lload_n F rfl e_X9_down_12 ?_
    refine m_lconst F (v := 1) (by decide) e_X9_down_13 ?_
    refine m_lcmp F e_X9_down_14 ?_
    refine Wm.top (fun x2607 _ => ?_)
    refine m_if_lt F e_X9_down_15 (fun q15 => ?_) (fun q15 => ?_)
    · refine m_ldc2 F kc_X9_184 e_X9_down_30 ?_
      exact m_lret F hQ e_X9_down_33 (⟨(h2601.mono (M' := M + 1) (Z' := Z) (by omega) (by intro e; first | rfl | assumption | omega)), _, rfl⟩)
    · obtain ⟨n2608, hn2608, rfl⟩ := nI_nn (x := x2607) (fun e => q15 (Int32.lt_of_lt_of_le e (by decide)))
      have c15 : n2608 ≥ 0 := by have hh := mt (nI_ltI (a := n2608) (b := 0) (by omega) (by omega)).mpr q15; omega
      refine m_aload F rfl e_X9_down_18 ?_
      refine t_get F e_X9_down_20 fl_X9_154 (fun _ => o15) h2601 k2606 rfl (fun v hv f2609 => ?_)
      obtain ⟨r2610, k2611, rfl⟩ := hv
      refine m_lload_n F rfl e_X9_down_23 ?_
      refine t_callV F e_X9_down_24 (s_X1_isAtLeast (x_l X) V b M Z T _ _ r2610 x902 h2601.1 k2611  (by omega)) cb_X1_isAtLeast ml_X9_247 im_X1_isAtLeast se_X1_isAtLeast (fun _ => o6) h2601 k2611 rfl rfl (rest := []) rfl (Nat.le_of_ble_eq_true rfl) ⟨Nat.le_of_ble_eq_true rfl, Nat.le_of_ble_eq_true rfl⟩ ⟨Nat.le_of_ble_eq_true rfl, Nat.le_of_ble_eq_true rfl⟩ (fun r σ2612 hp => ?_)
      obtain ⟨h2614, n2615, hn2615, rfl⟩ := hp
      have h2613 := HK.trans h2601 h2614 (by decide)
      refine m_if_ne F e_X9_down_27 (fun q27 => ?_) (fun q27 => ?_)
      · have c27 : n2615 ≠ 0 := by have hh := mt (nI_eq (a := n2615) (b := 0) (by omega) (by omega)).mpr q27; omega
        refine m_aload_n F rfl e_X9_down_34 ?_
        refine t_callV F e_X9_down_35 (s_X9_remember (x_l X) V b M Z T _ _ a  h2613.1 hk  (by omega)) cb_X9_remember ml_X9_97 im_X9_remember se_X9_remember (fun _ => o1) h2613 hk rfl rfl (rest := []) rfl (Nat.le_of_ble_eq_true rfl) ⟨Nat.le_of_ble_eq_true rfl, Nat.le_of_ble_eq_true rfl⟩ ⟨Nat.le_of_ble_eq_true rfl, Nat.le_of_ble_eq_true rfl⟩ (fun r σ2616 hp => ?_)
        obtain ⟨h2618, rfl⟩ := hp
        have h2617 := HK.trans h2613 h2618 (by decide)
        refine m_aload_n F rfl e_X9_down_38 ?_
        refine t_get F e_X9_down_39 fl_X9_16 (fun _ => o1) h2617 hk rfl (fun v hv f2619 => ?_)
        obtain ⟨r2620, k2621, rfl⟩ := hv
        refine m_iload_n F rfl e_X9_down_42 ?_
        refine m_aload F rfl e_X9_down_43 ?_
        refine m_lload_n F rfl e_X9_down_45 ?_
        refine t_callV F e_X9_down_46 (s_X2_writeDown (x_l X) V b M Z T _ _ r2620 (nI n2604) r2605 x902 h2617.1 k2621 k2606 (by omega)) cb_X2_writeDown ml_X9_251 im_X2_writeDown se_X2_writeDown (fun _ => o7) h2617 k2621 rfl rfl (rest := []) rfl (Nat.le_of_ble_eq_true rfl) ⟨Nat.le_of_ble_eq_true rfl, Nat.le_of_ble_eq_true rfl⟩ ⟨Nat.le_of_ble_eq_true rfl, Nat.le_of_ble_eq_true rfl⟩ (fun r σ2622 hp => ?_)
        obtain ⟨h2624, rfl⟩ := hp
        have h2623 := HK.trans h2617 h2624 (by decide)
        refine m_aload F rfl e_X9_down_49 ?_
        refine t_get F e_X9_down_51 fl_X9_154 (fun _ => o15) h2623 k2606 rfl (fun v hv f2625 => ?_)
        obtain ⟨r2626, k2627, rfl⟩ := hv
        refine t_callV F e_X9_down_54 (s_X1_asLong (x_l X) V b (M + 1) Z T _ _ r2626  h2623.1 k2627  (by omega)) cb_X1_asLong ml_X9_157 im_X1_asLong se_X1_asLong (fun _ => o6) h2623 k2627 rfl rfl (rest := []) rfl (Nat.le_of_ble_eq_true rfl) ⟨Nat.le_of_ble_eq_true rfl, Nat.le_of_ble_eq_true rfl⟩ ⟨Nat.le_of_ble_eq_true rfl, Nat.le_of_ble_eq_true rfl⟩ (fun r σ2628 hp => ?_)
        obtain ⟨h2630, x2631, rfl⟩ := hp
        have h2629 := HK.trans h2623 h2630 (by decide)
        exact m_lret F hQ e_X9_down_57 (⟨h2629, _, rfl⟩)
      · have c27 : n2615 = 0 := (nI_eq (a := n2615) (b := 0) (by omega) (by omega)).mp q27
        refine m_ldc2 F kc_X9_184 e_X9_down_30 ?_
        exact m_lret F hQ e_X9_down_33 (⟨(h2613.mono (M' := M + 1) (Z' := Z) (by omega) (by intro e; first | rfl | assumption | omega)), _, rfl⟩)
set_option maxRecDepth 20000 in
theorem s_X9_putOff (l : Launch) (V : VX) (b M Z T N : Nat) (σ : Mem) (a : Nat) (x901 : Int32) (x902 : Int32) (x903 : Int32) (h0 : HT V (b, M, Z, T) σ) (hk : kA b a = 1) (hM : M + 1 ≤ 1000000000) : Ct l V yX9_putOff cX9_putOff 5 (some .long) 5 0 0 N σ [.ref a, .int x901, .int x902, .int x903] (fun r τ => HK V (b, M + 1, Z, T) [0, 3] σ τ ∧ ∃ x : Int64, r = some (.long x)) := by
  refine Ct.of (by decide) (Nat.le_of_ble_eq_true rfl) [(0, .ref a), (1, .int x901), (2, .int x902), (3, .int x903)] rfl (fun X hX F hQ => ?_)
  have h1 : HK V (b, M, Z, T) [0, 3] σ σ := HK.start h0
  refine m_aload_n F rfl e_X9_putOff_0 ?_
  refine m_iload_n F rfl e_X9_putOff_1 ?_
  refine t_callV F e_X9_putOff_2 (s_X9_runningAt (x_l X) V b M Z T _ _ a x901 h1.1 hk  (by omega)) cb_X9_runningAt ml_X9_203 im_X9_runningAt se_X9_runningAt (fun _ => o1) h1 hk rfl rfl (rest := []) rfl (Nat.le_of_ble_eq_true rfl) ⟨Nat.le_of_ble_eq_true rfl, Nat.le_of_ble_eq_true rfl⟩ ⟨Nat.le_of_ble_eq_true rfl, Nat.le_of_ble_eq_true rfl⟩ (fun r σ2632 hp => ?_)
  obtain ⟨h2634, c2635⟩ := hp
  have h2633 := HK.trans h1 h2634 (by decide)
  rcases c2635 with rfl | ⟨n2636, r2637, hn2636, en2636, k2638, rfl⟩
  · refine m_astoreN F (lv' := [(4, .null), (0, .ref a), (1, .int x901), (2, .int x902), (3, .int x903)]) e_X9_putOff_5 (by decide) rfl ?_
    refine m_aloadN F rfl e_X9_putOff_7 ?_
    refine m_ifnullN F e_X9_putOff_9 ?_
    refine m_ldc2 F kc_X9_184 e_X9_putOff_44 ?_
    exact m_lret F hQ e_X9_putOff_47 (⟨(h2633.mono (M' := M + 1) (Z' := Z) (by omega) (by intro e; first | rfl | assumption | omega)), _, rfl⟩)
  · subst en2636
    refine m_astore F (lv' := [(4, .ref r2637), (0, .ref a), (1, .int (nI n2636)), (2, .int x902), (3, .int x903)]) e_X9_putOff_5 (by decide) rfl ?_
    refine m_aload F rfl e_X9_putOff_7 ?_
    refine m_ifnullR F e_X9_putOff_9 ?_
    refine m_iload_n F rfl e_X9_putOff_12 ?_
    refine m_aload F rfl e_X9_putOff_13 ?_
    refine t_get F e_X9_putOff_15 fl_X9_255 (fun _ => o15) h2633 k2638 rfl (fun v hv f2639 => ?_)
    obtain ⟨x2640, rfl⟩ := hv
    refine m_icmp_le F e_X9_putOff_18 (fun q18 => ?_) (fun q18 => ?_)
    · refine m_ldc2 F kc_X9_184 e_X9_putOff_44 ?_
      exact m_lret F hQ e_X9_putOff_47 (⟨(h2633.mono (M' := M + 1) (Z' := Z) (by omega) (by intro e; first | rfl | assumption | omega)), _, rfl⟩)
    · refine m_iload_n F rfl e_X9_putOff_21 ?_
      refine m_iload_n F rfl e_X9_putOff_22 ?_
      refine m_icmp_ge F e_X9_putOff_23 (fun q23 => ?_) (fun q23 => ?_)
      · refine m_ldc2 F kc_X9_184 e_X9_putOff_44 ?_
        exact m_lret F hQ e_X9_putOff_47 (⟨(h2633.mono (M' := M + 1) (Z' := Z) (by omega) (by intro e; first | rfl | assumption | omega)), _, rfl⟩)
      · refine m_aload F rfl e_X9_putOff_26 ?_
        refine m_iload_n F rfl e_X9_putOff_28 ?_
        refine t_callV F e_X9_putOff_29 (s_X5_owns (x_l X) V b M Z T _ _ r2637 x902 h2633.1 k2638  (by omega)) cb_X5_owns ml_X9_161 im_X5_owns se_X5_owns (fun _ => o15) h2633 k2638 rfl rfl (rest := []) rfl (Nat.le_of_ble_eq_true rfl) ⟨Nat.le_of_ble_eq_true rfl, Nat.le_of_ble_eq_true rfl⟩ ⟨Nat.le_of_ble_eq_true rfl, Nat.le_of_ble_eq_true rfl⟩ (fun r σ2641 hp => ?_)
        obtain ⟨h2643, n2644, hn2644, rfl⟩ := hp
        have h2642 := HK.trans h2633 h2643 (by decide)
        refine m_if_eq F e_X9_putOff_32 (fun q32 => ?_) (fun q32 => ?_)
        · have c32 : n2644 = 0 := (nI_eq (a := n2644) (b := 0) (by omega) (by omega)).mp q32
          refine m_ldc2 F kc_X9_184 e_X9_putOff_44 ?_
          exact m_lret F hQ e_X9_putOff_47 (⟨(h2642.mono (M' := M + 1) (Z' := Z) (by omega) (by intro e; first | rfl | assumption | omega)), _, rfl⟩)
        · have c32 : n2644 ≠ 0 := by have hh := mt (nI_eq (a := n2644) (b := 0) (by omega) (by omega)).mpr q32; omega
          refine m_aload F rfl e_X9_putOff_35 ?_
          refine m_iload_n F rfl e_X9_putOff_37 ?_
          refine t_callV F e_X9_putOff_38 (s_X5_owns (x_l X) V b M Z T _ _ r2637 x903 h2642.1 k2638  (by omega)) cb_X5_owns ml_X9_161 im_X5_owns se_X5_owns (fun _ => o15) h2642 k2638 rfl rfl (rest := []) rfl (Nat.le_of_ble_eq_true rfl) ⟨Nat.le_of_ble_eq_true rfl, Nat.le_of_ble_eq_true rfl⟩ ⟨Nat.le_of_ble_eq_true rfl, Nat.le_of_ble_eq_true rfl⟩ (fun r σ2645 hp => ?_)
          obtain ⟨h2647, n2648, hn2648, rfl⟩ := hp
          have h2646 := HK.trans h2642 h2647 (by decide)
          refine m_if_ne F e_X9_putOff_41 (fun q41 => ?_) (fun q41 => ?_)
          · have c41 : n2648 ≠ 0 := by have hh := mt (nI_eq (a := n2648) (b := 0) (by omega) (by omega)).mpr q41; omega
            refine m_aload_n F rfl e_X9_putOff_48 ?_
            refine t_callV F e_X9_putOff_49 (s_X9_remember (x_l X) V b M Z T _ _ a  h2646.1 hk  (by omega)) cb_X9_remember ml_X9_97 im_X9_remember se_X9_remember (fun _ => o1) h2646 hk rfl rfl (rest := []) rfl (Nat.le_of_ble_eq_true rfl) ⟨Nat.le_of_ble_eq_true rfl, Nat.le_of_ble_eq_true rfl⟩ ⟨Nat.le_of_ble_eq_true rfl, Nat.le_of_ble_eq_true rfl⟩ (fun r σ2649 hp => ?_)
            obtain ⟨h2651, rfl⟩ := hp
            have h2650 := HK.trans h2646 h2651 (by decide)
            refine m_aload F rfl e_X9_putOff_52 ?_
            refine m_iload_n F rfl e_X9_putOff_54 ?_
            refine m_iconst F (v := 1) (by decide) e_X9_putOff_55 ?_
            refine m_isub F e_X9_putOff_56 ?_
            refine Wm.top (fun x2652 _ => ?_)
            refine m_iload_n F rfl e_X9_putOff_57 ?_
            refine m_iconst F (v := 1) (by decide) e_X9_putOff_58 ?_
            refine m_isub F e_X9_putOff_59 ?_
            refine Wm.top (fun x2653 _ => ?_)
            refine t_callV F e_X9_putOff_60 (s_X5_movePayment (x_l X) V b M Z T _ _ r2637 x2652 x2653 h2650.1 k2638  (by omega)) cb_X5_movePayment ml_X9_258 im_X5_movePayment se_X5_movePayment (fun _ => o15) h2650 k2638 rfl rfl (rest := []) rfl (Nat.le_of_ble_eq_true rfl) ⟨Nat.le_of_ble_eq_true rfl, Nat.le_of_ble_eq_true rfl⟩ ⟨Nat.le_of_ble_eq_true rfl, Nat.le_of_ble_eq_true rfl⟩ (fun r σ2654 hp => ?_)
            obtain ⟨h2656, rfl⟩ := hp
            have h2655 := HK.trans h2650 h2656 (by decide)
            refine m_aload_n F rfl e_X9_putOff_63 ?_
            refine t_get F e_X9_putOff_64 fl_X9_16 (fun _ => o1) h2655 hk rfl (fun v hv f2657 => ?_)
            obtain ⟨r2658, k2659, rfl⟩ := hv
            refine m_iload_n F rfl e_X9_putOff_67 ?_
            refine m_aload F rfl e_X9_putOff_68 ?_
            refine t_callV F e_X9_putOff_70 (s_X2_remeasure (x_l X) V b M Z T _ _ r2658 (nI n2636) r2637 h2655.1 k2659 k2638 (by omega)) cb_X2_remeasure ml_X9_207 im_X2_remeasure se_X2_remeasure (fun _ => o7) h2655 k2659 rfl rfl (rest := []) rfl (Nat.le_of_ble_eq_true rfl) ⟨Nat.le_of_ble_eq_true rfl, Nat.le_of_ble_eq_true rfl⟩ ⟨Nat.le_of_ble_eq_true rfl, Nat.le_of_ble_eq_true rfl⟩ (fun r σ2660 hp => ?_)
            obtain ⟨h2662, x2663, rfl⟩ := hp
            have h2661 := HK.trans h2655 h2662 (by decide)
            exact m_lret F hQ e_X9_putOff_73 (⟨h2661, _, rfl⟩)
          · have c41 : n2648 = 0 := (nI_eq (a := n2648) (b := 0) (by omega) (by omega)).mp q41
            refine m_ldc2 F kc_X9_184 e_X9_putOff_44 ?_
            exact m_lret F hQ e_X9_putOff_47 (⟨(h2646.mono (M' := M + 1) (Z' := Z) (by omega) (by intro e; first | rfl | assumption | omega)), _, rfl⟩)
set_option maxRecDepth 20000 in
theorem s_X9_become (l : Launch) (V : VX) (b M Z T N : Nat) (σ : Mem) (a : Nat) (x901 : Int32) (h0 : HT V (b, M, Z, T) σ) (hk : kA b a = 1) (hM : M + 0 ≤ 1000000000) : Ct l V yX9_become cX9_become 3 (some .int) 5 0 0 N σ [.ref a, .int x901] (fun r τ => HK V (b, M, Z, T) [0, 3] σ τ ∧ ∃ x : Int32, r = some (.int x)) := by
  refine Ct.of (by decide) (Nat.le_of_ble_eq_true rfl) [(0, .ref a), (1, .int x901)] rfl (fun X hX F hQ => ?_)
  have h1 : HK V (b, M, Z, T) [0, 3] σ σ := HK.start h0
  refine m_iload_n F rfl e_X9_become_0 ?_
  refine m_callS F e_X9_become_1 (s_X9_isIndex (x_l X) V b M Z T _ _ x901 h1.1  (by omega)) cb_X9_isIndex ml_X9_262 sm_X9_isIndex rfl (rest := []) rfl (Nat.le_of_ble_eq_true rfl) ⟨Nat.le_of_ble_eq_true rfl, Nat.le_of_ble_eq_true rfl⟩ ⟨Nat.le_of_ble_eq_true rfl, Nat.le_of_ble_eq_true rfl⟩ (k' := 0) (z' := 0) (N' := N) rfl rfl rfl (fun r σ2664 hp => ?_)
  obtain ⟨h2666, n2667, hn2667, rfl⟩ := hp
  have h2665 := HK.trans h1 h2666 (by decide)
  refine m_if_ne F e_X9_become_4 (fun q4 => ?_) (fun q4 => ?_)
  · have c4 : n2667 ≠ 0 := by have hh := mt (nI_eq (a := n2667) (b := 0) (by omega) (by omega)).mpr q4; omega
    refine m_aload_n F rfl e_X9_become_9 ?_
    refine t_callV F e_X9_become_10 (s_X9_remember (x_l X) V b M Z T _ _ a  h2665.1 hk  (by omega)) cb_X9_remember ml_X9_97 im_X9_remember se_X9_remember (fun _ => o1) h2665 hk rfl rfl (rest := []) rfl (Nat.le_of_ble_eq_true rfl) ⟨Nat.le_of_ble_eq_true rfl, Nat.le_of_ble_eq_true rfl⟩ ⟨Nat.le_of_ble_eq_true rfl, Nat.le_of_ble_eq_true rfl⟩ (fun r σ2668 hp => ?_)
    obtain ⟨h2670, rfl⟩ := hp
    have h2669 := HK.trans h2665 h2670 (by decide)
    refine m_aload_n F rfl e_X9_become_13 ?_
    refine t_get F e_X9_become_14 fl_X9_16 (fun _ => o1) h2669 hk rfl (fun v hv f2671 => ?_)
    obtain ⟨r2672, k2673, rfl⟩ := hv
    refine t_callV F e_X9_become_17 (s_X2_indexNow (x_l X) V b M Z T _ _ r2672  h2669.1 k2673  (by omega)) cb_X2_indexNow ml_X9_265 im_X2_indexNow se_X2_indexNow (fun _ => o7) h2669 k2673 rfl rfl (rest := []) rfl (Nat.le_of_ble_eq_true rfl) ⟨Nat.le_of_ble_eq_true rfl, Nat.le_of_ble_eq_true rfl⟩ ⟨Nat.le_of_ble_eq_true rfl, Nat.le_of_ble_eq_true rfl⟩ (fun r σ2674 hp => ?_)
    obtain ⟨h2676, x2677, rfl⟩ := hp
    have h2675 := HK.trans h2669 h2676 (by decide)
    refine m_istore_n F (lv' := [(2, .int x2677), (0, .ref a), (1, .int x901)]) e_X9_become_20 (by decide) rfl ?_
    refine m_aload_n F rfl e_X9_become_21 ?_
    refine t_getC F e_X9_become_22 fl_X9_16 (fun _ => o1) h2675 hk ((fld_eq (h2676.2 a (by rw [show kA _ a = 1 from hk]; decide))).trans f2671) ?_
    refine m_iload_n F rfl e_X9_become_25 ?_
    refine t_callV F e_X9_become_26 (s_X2_changeIndex (x_l X) V b M Z T _ _ r2672 x901 h2675.1 k2673  (by omega)) cb_X2_changeIndex ml_X9_268 im_X2_changeIndex se_X2_changeIndex (fun _ => o7) h2675 k2673 rfl rfl (rest := []) rfl (Nat.le_of_ble_eq_true rfl) ⟨Nat.le_of_ble_eq_true rfl, Nat.le_of_ble_eq_true rfl⟩ ⟨Nat.le_of_ble_eq_true rfl, Nat.le_of_ble_eq_true rfl⟩ (fun r σ2678 hp => ?_)
    obtain ⟨h2680, rfl⟩ := hp
    have h2679 := HK.trans h2675 h2680 (by decide)
    refine m_iload_n F rfl e_X9_become_29 ?_
    exact m_iret F hQ e_X9_become_30 (⟨h2679, _, rfl⟩)
  · have c4 : n2667 = 0 := (nI_eq (a := n2667) (b := 0) (by omega) (by omega)).mp q4
    refine m_iconst F (v := (-1)) (by decide) e_X9_become_7 ?_
    exact m_iret F hQ e_X9_become_8 (⟨h2665, _, rfl⟩)
set_option maxRecDepth 20000 in
theorem s_X9_plan (l : Launch) (V : VX) (b M Z T N : Nat) (σ : Mem) (a : Nat) (x901 : Int32) (x902 : Int32) (x903 : Int32) (h0 : HT V (b, M, Z, T) σ) (hk : kA b a = 1) (hM : M + 648 ≤ 1000000000) : Ct l V yX9_plan cX9_plan 6 (some .long) 7 0 0 N σ [.ref a, .int x901, .int x902, .int x903] (fun r τ => HK V (b, M + 648, Z, T) [0, 1, 3] σ τ ∧ ∃ x : Int64, r = some (.long x)) := by
  refine Ct.of (by decide) (Nat.le_of_ble_eq_true rfl) [(0, .ref a), (1, .int x901), (2, .int x902), (3, .int x903)] rfl (fun X hX F hQ => ?_)
  have h1 : HK V (b, M, Z, T) [0, 1, 3] σ σ := HK.start h0
  refine m_aload_n F rfl e_X9_plan_0 ?_
  refine m_iload_n F rfl e_X9_plan_1 ?_
  refine t_callV F e_X9_plan_2 (s_X9_leaseAt (x_l X) V b M Z T _ _ a x901 h1.1 hk  (by omega)) cb_X9_leaseAt ml_X9_103 im_X9_leaseAt se_X9_leaseAt (fun _ => o1) h1 hk rfl rfl (rest := []) rfl (Nat.le_of_ble_eq_true rfl) ⟨Nat.le_of_ble_eq_true rfl, Nat.le_of_ble_eq_true rfl⟩ ⟨Nat.le_of_ble_eq_true rfl, Nat.le_of_ble_eq_true rfl⟩ (fun r σ2681 hp => ?_)
  obtain ⟨h2683, c2684⟩ := hp
  have h2682 := HK.trans h1 h2683 (by decide)
  rcases c2684 with rfl | ⟨n2685, r2686, hn2685, en2685, k2687, rfl⟩
  · refine m_astoreN F (lv' := [(4, .null), (0, .ref a), (1, .int x901), (2, .int x902), (3, .int x903)]) e_X9_plan_5 (by decide) rfl ?_
    refine m_aloadN F rfl e_X9_plan_7 ?_
    refine m_ifnullN F e_X9_plan_9 ?_
    refine m_ldc2 F kc_X9_149 e_X9_plan_31 ?_
    exact m_lret F hQ e_X9_plan_34 (⟨(h2682.mono (M' := M + 648) (Z' := Z) (by omega) (by intro e; first | rfl | assumption | omega)), _, rfl⟩)
  · subst en2685
    refine m_astore F (lv' := [(4, .ref r2686), (0, .ref a), (1, .int (nI n2685)), (2, .int x902), (3, .int x903)]) e_X9_plan_5 (by decide) rfl ?_
    refine m_aload F rfl e_X9_plan_7 ?_
    refine m_ifnullR F e_X9_plan_9 ?_
    refine m_iload_n F rfl e_X9_plan_12 ?_
    refine m_if_lt F e_X9_plan_13 (fun q13 => ?_) (fun q13 => ?_)
    · refine m_ldc2 F kc_X9_149 e_X9_plan_31 ?_
      exact m_lret F hQ e_X9_plan_34 (⟨(h2682.mono (M' := M + 648) (Z' := Z) (by omega) (by intro e; first | rfl | assumption | omega)), _, rfl⟩)
    · obtain ⟨n2688, hn2688, rfl⟩ := nI_nn (x := x902) (fun e => q13 (Int32.lt_of_lt_of_le e (by decide)))
      have c13 : n2688 ≥ 0 := by have hh := mt (nI_ltI (a := n2688) (b := 0) (by omega) (by omega)).mpr q13; omega
      refine m_iload_n F rfl e_X9_plan_16 ?_
      refine m_bipush F (v := 72) (by decide) e_X9_plan_17 ?_
      refine m_icmp_gt F e_X9_plan_19 (fun q19 => ?_) (fun q19 => ?_)
      · have c19 : n2688 > 72 := (nI_ltI (a := 72) (b := n2688) (by omega) (by omega)).mp q19
        refine m_ldc2 F kc_X9_149 e_X9_plan_31 ?_
        exact m_lret F hQ e_X9_plan_34 (⟨(h2682.mono (M' := M + 648) (Z' := Z) (by omega) (by intro e; first | rfl | assumption | omega)), _, rfl⟩)
      · have c19 : n2688 ≤ 72 := by have hh := mt (nI_ltI (a := 72) (b := n2688) (by omega) (by omega)).mpr q19; omega
        refine m_iload_n F rfl e_X9_plan_22 ?_
        refine m_if_lt F e_X9_plan_23 (fun q23 => ?_) (fun q23 => ?_)
        · refine m_ldc2 F kc_X9_149 e_X9_plan_31 ?_
          exact m_lret F hQ e_X9_plan_34 (⟨(h2682.mono (M' := M + 648) (Z' := Z) (by omega) (by intro e; first | rfl | assumption | omega)), _, rfl⟩)
        · obtain ⟨n2689, hn2689, rfl⟩ := nI_nn (x := x903) (fun e => q23 (Int32.lt_of_lt_of_le e (by decide)))
          have c23 : n2689 ≥ 0 := by have hh := mt (nI_ltI (a := n2689) (b := 0) (by omega) (by omega)).mpr q23; omega
          refine m_iload_n F rfl e_X9_plan_26 ?_
          refine m_iconst F (v := 3) (by decide) e_X9_plan_27 ?_
          refine m_icmp_le F e_X9_plan_28 (fun q28 => ?_) (fun q28 => ?_)
          · have c28 : n2689 ≤ 3 := (nI_leI (a := n2689) (b := 3) (by omega) (by omega)).mp q28
            refine m_aload_n F rfl e_X9_plan_35 ?_
            refine m_iload_n F rfl e_X9_plan_36 ?_
            refine t_callV F e_X9_plan_37 (s_X9_bookIn (x_l X) V b M Z T _ _ a n2688 h2682.1 hk (by omega) (by omega)) cb_X9_bookIn ml_X9_271 im_X9_bookIn se_X9_bookIn (fun _ => o1) h2682 hk rfl rfl (rest := []) rfl (Nat.le_of_ble_eq_true rfl) ⟨Nat.le_of_ble_eq_true rfl, Nat.le_of_ble_eq_true rfl⟩ ⟨Nat.le_of_ble_eq_true rfl, Nat.le_of_ble_eq_true rfl⟩ (fun r σ2690 hp => ?_)
            obtain ⟨h2692, r2693, k2694, rfl⟩ := hp
            have h2691 := HK.trans h2682 h2692 (by decide)
            refine t_get F e_X9_plan_40 fl_X9_226 (fun _ => o7) h2691 k2694 rfl (fun v hv f2695 => ?_)
            obtain ⟨r2696, k2697, rfl⟩ := hv
            refine m_iload_n F rfl e_X9_plan_43 ?_
            refine t_aald F (len := 4) (j := n2685) e_X9_plan_44 (fun _ => o8) rfl h2691 k2697 (nI_clamp (by omega)) (vp_in_nI (by omega) (by decide)) (fun r2698 k2699 => ?_)
            refine m_astore F (lv' := [(5, .ref r2698), (4, .ref r2686), (0, .ref a), (1, .int (nI n2685)), (2, .int (nI n2688)), (3, .int (nI n2689))]) e_X9_plan_45 (by decide) rfl ?_
            refine m_iload_n F rfl e_X9_plan_47 ?_
            by_cases ho48 : (nI n2689 : Int32).toInt < 0 ∨ 2 < (nI n2689 : Int32).toInt
            · refine m_tableOut F e_X9_plan_48 ho48 (tgt := 110) (by decide) ?_
              refine m_aload F rfl e_X9_plan_110 ?_
              refine t_get F e_X9_plan_112 fl_X9_275 (fun _ => o15) h2691 k2699 rfl (fun v hv f2700 => ?_)
              obtain ⟨r2701, k2702, rfl⟩ := hv
              refine m_iconst F (v := 1) (by decide) e_X9_plan_115 ?_
              refine t_lald F (len := 5) (j := 1) e_X9_plan_116 (fun _ => o18) h2691 k2702 (by decide) (by unfold vp_in; decide) (fun x2703 => ?_)
              refine m_aload F rfl e_X9_plan_117 ?_
              refine t_get F e_X9_plan_119 fl_X9_275 (fun _ => o15) h2691 k2687 rfl (fun v hv f2704 => ?_)
              obtain ⟨r2705, k2706, rfl⟩ := hv
              refine m_iconst F (v := 1) (by decide) e_X9_plan_122 ?_
              refine t_lald F (len := 5) (j := 1) e_X9_plan_123 (fun _ => o18) h2691 k2706 (by decide) (by unfold vp_in; decide) (fun x2707 => ?_)
              refine m_lsub F e_X9_plan_124 ?_
              refine Wm.topl (fun x2708 _ => ?_)
              exact m_lret F hQ e_X9_plan_125 (⟨h2691, _, rfl⟩)
            have hs48 : (nI n2689 : Int32).toInt = 0 ∨ (nI n2689 : Int32).toInt = 1 ∨ (nI n2689 : Int32).toInt = 2 := by omega
            rcases hs48 with hv | hv | hv
            · refine m_tableIn F e_X9_plan_48 (by omega) (by omega) (off := 28) (tgt := 76) (by rw [hv]; rfl) (by decide) ?_
              refine m_aload F rfl e_X9_plan_76 ?_
              refine t_get F e_X9_plan_78 fl_X9_151 (fun _ => o15) h2691 k2699 rfl (fun v hv f2709 => ?_)
              obtain ⟨r2710, k2711, rfl⟩ := hv
              refine t_callV F e_X9_plan_81 (s_X1_asLong (x_l X) V b (M + 648) Z T _ _ r2710  h2691.1 k2711  (by omega)) cb_X1_asLong ml_X9_157 im_X1_asLong se_X1_asLong (fun _ => o6) h2691 k2711 rfl rfl (rest := []) rfl (Nat.le_of_ble_eq_true rfl) ⟨Nat.le_of_ble_eq_true rfl, Nat.le_of_ble_eq_true rfl⟩ ⟨Nat.le_of_ble_eq_true rfl, Nat.le_of_ble_eq_true rfl⟩ (fun r σ2712 hp => ?_)
              obtain ⟨h2714, x2715, rfl⟩ := hp
              have h2713 := HK.trans h2691 h2714 (by decide)
              exact m_lret F hQ e_X9_plan_84 (⟨h2713, _, rfl⟩)
            · refine m_tableIn F e_X9_plan_48 (by omega) (by omega) (off := 37) (tgt := 85) (by rw [hv]; rfl) (by decide) ?_
              refine m_aload F rfl e_X9_plan_85 ?_
              refine t_get F e_X9_plan_87 fl_X9_154 (fun _ => o15) h2691 k2699 rfl (fun v hv f2716 => ?_)
              obtain ⟨r2717, k2718, rfl⟩ := hv
              refine t_callV F e_X9_plan_90 (s_X1_asLong (x_l X) V b (M + 648) Z T _ _ r2717  h2691.1 k2718  (by omega)) cb_X1_asLong ml_X9_157 im_X1_asLong se_X1_asLong (fun _ => o6) h2691 k2718 rfl rfl (rest := []) rfl (Nat.le_of_ble_eq_true rfl) ⟨Nat.le_of_ble_eq_true rfl, Nat.le_of_ble_eq_true rfl⟩ ⟨Nat.le_of_ble_eq_true rfl, Nat.le_of_ble_eq_true rfl⟩ (fun r σ2719 hp => ?_)
              obtain ⟨h2721, x2722, rfl⟩ := hp
              have h2720 := HK.trans h2691 h2721 (by decide)
              exact m_lret F hQ e_X9_plan_93 (⟨h2720, _, rfl⟩)
            · refine m_tableIn F e_X9_plan_48 (by omega) (by omega) (off := 46) (tgt := 94) (by rw [hv]; rfl) (by decide) ?_
              refine m_aload F rfl e_X9_plan_94 ?_
              refine t_get F e_X9_plan_96 fl_X9_275 (fun _ => o15) h2691 k2699 rfl (fun v hv f2723 => ?_)
              obtain ⟨r2724, k2725, rfl⟩ := hv
              refine m_iconst F (v := 2) (by decide) e_X9_plan_99 ?_
              refine t_lald F (len := 5) (j := 2) e_X9_plan_100 (fun _ => o18) h2691 k2725 (by decide) (by unfold vp_in; decide) (fun x2726 => ?_)
              refine m_aload F rfl e_X9_plan_101 ?_
              refine t_get F e_X9_plan_103 fl_X9_275 (fun _ => o15) h2691 k2687 rfl (fun v hv f2727 => ?_)
              obtain ⟨r2728, k2729, rfl⟩ := hv
              refine m_iconst F (v := 2) (by decide) e_X9_plan_106 ?_
              refine t_lald F (len := 5) (j := 2) e_X9_plan_107 (fun _ => o18) h2691 k2729 (by decide) (by unfold vp_in; decide) (fun x2730 => ?_)
              refine m_lsub F e_X9_plan_108 ?_
              refine Wm.topl (fun x2731 _ => ?_)
              exact m_lret F hQ e_X9_plan_109 (⟨h2691, _, rfl⟩)
          · have c28 : n2689 > 3 := by have hh := mt (nI_leI (a := n2689) (b := 3) (by omega) (by omega)).mpr q28; omega
            refine m_ldc2 F kc_X9_149 e_X9_plan_31 ?_
            exact m_lret F hQ e_X9_plan_34 (⟨(h2682.mono (M' := M + 648) (Z' := Z) (by omega) (by intro e; first | rfl | assumption | omega)), _, rfl⟩)
set_option maxRecDepth 20000 in
theorem s_X9_all (l : Launch) (V : VX) (b M Z T N : Nat) (σ : Mem) (a : Nat) (x901 : Int32) (h0 : HT V (b, M, Z, T) σ) (hk : kA b a = 1) (hM : M + 648 ≤ 1000000000) : Ct l V yX9_all cX9_all 2 (some .long) 7 0 0 N σ [.ref a, .int x901] (fun r τ => HK V (b, M + 648, Z, T) [0, 1, 3] σ τ ∧ ∃ x : Int64, r = some (.long x)) := by
  refine Ct.of (by decide) (Nat.le_of_ble_eq_true rfl) [(0, .ref a), (1, .int x901)] rfl (fun X hX F hQ => ?_)
  have h1 : HK V (b, M, Z, T) [0, 1, 3] σ σ := HK.start h0
  refine m_iload_n F rfl e_X9_all_0 ?_
  refine m_if_lt F e_X9_all_1 (fun q1 => ?_) (fun q1 => ?_)
  · refine m_ldc2 F kc_X9_149 e_X9_all_10 ?_
    exact m_lret F hQ e_X9_all_13 (⟨(h1.mono (M' := M + 648) (Z' := Z) (by omega) (by intro e; first | rfl | assumption | omega)), _, rfl⟩)
  · obtain ⟨n2732, hn2732, rfl⟩ := nI_nn (x := x901) (fun e => q1 (Int32.lt_of_lt_of_le e (by decide)))
    have c1 : n2732 ≥ 0 := by have hh := mt (nI_ltI (a := n2732) (b := 0) (by omega) (by omega)).mpr q1; omega
    refine m_iload_n F rfl e_X9_all_4 ?_
    refine m_bipush F (v := 72) (by decide) e_X9_all_5 ?_
    refine m_icmp_le F e_X9_all_7 (fun q7 => ?_) (fun q7 => ?_)
    · have c7 : n2732 ≤ 72 := (nI_leI (a := n2732) (b := 72) (by omega) (by omega)).mp q7
      refine m_aload_n F rfl e_X9_all_14 ?_
      refine m_iload_n F rfl e_X9_all_15 ?_
      refine t_callV F e_X9_all_16 (s_X9_bookIn (x_l X) V b M Z T _ _ a n2732 h1.1 hk (by omega) (by omega)) cb_X9_bookIn ml_X9_271 im_X9_bookIn se_X9_bookIn (fun _ => o1) h1 hk rfl rfl (rest := []) rfl (Nat.le_of_ble_eq_true rfl) ⟨Nat.le_of_ble_eq_true rfl, Nat.le_of_ble_eq_true rfl⟩ ⟨Nat.le_of_ble_eq_true rfl, Nat.le_of_ble_eq_true rfl⟩ (fun r σ2733 hp => ?_)
      obtain ⟨h2735, r2736, k2737, rfl⟩ := hp
      have h2734 := HK.trans h1 h2735 (by decide)
      refine m_aload_n F rfl e_X9_all_19 ?_
      refine t_get F e_X9_all_20 fl_X9_42 (fun _ => o1) h2734 hk rfl (fun v hv f2738 => ?_)
      obtain ⟨r2739, k2740, rfl⟩ := hv
      refine t_callV F e_X9_all_23 (s_X2_countAllOwed (x_l X) V b (M + 648) Z T _ _ r2736 r2739 h2734.1 k2737 k2740 (by omega)) cb_X2_countAllOwed ml_X9_278 im_X2_countAllOwed se_X2_countAllOwed (fun _ => o7) h2734 k2737 rfl rfl (rest := []) rfl (Nat.le_of_ble_eq_true rfl) ⟨Nat.le_of_ble_eq_true rfl, Nat.le_of_ble_eq_true rfl⟩ ⟨Nat.le_of_ble_eq_true rfl, Nat.le_of_ble_eq_true rfl⟩ (fun r σ2741 hp => ?_)
      obtain ⟨h2743, rfl⟩ := hp
      have h2742 := HK.trans h2734 h2743 (by decide)
      refine m_aload_n F rfl e_X9_all_26 ?_
      refine t_getC F e_X9_all_27 fl_X9_42 (fun _ => o1) h2742 hk ((fld_eq (h2743.2 a (by rw [show kA _ a = 1 from hk]; decide))).trans f2738) ?_
      refine t_callV F e_X9_all_30 (s_X1_asLong (x_l X) V b (M + 648) Z T _ _ r2739  h2742.1 k2740  (by omega)) cb_X1_asLong ml_X9_157 im_X1_asLong se_X1_asLong (fun _ => o6) h2742 k2740 rfl rfl (rest := []) rfl (Nat.le_of_ble_eq_true rfl) ⟨Nat.le_of_ble_eq_true rfl, Nat.le_of_ble_eq_true rfl⟩ ⟨Nat.le_of_ble_eq_true rfl, Nat.le_of_ble_eq_true rfl⟩ (fun r σ2744 hp => ?_)
      obtain ⟨h2746, x2747, rfl⟩ := hp
      have h2745 := HK.trans h2742 h2746 (by decide)
      exact m_lret F hQ e_X9_all_33 (⟨h2745, _, rfl⟩)
    · have c7 : n2732 > 72 := by have hh := mt (nI_leI (a := n2732) (b := 72) (by omega) (by omega)).mpr q7; omega
      refine m_ldc2 F kc_X9_149 e_X9_all_10 ?_
      exact m_lret F hQ e_X9_all_13 (⟨(h1.mono (M' := M + 648) (Z' := Z) (by omega) (by intro e; first | rfl | assumption | omega)), _, rfl⟩)
set_option maxRecDepth 20000 in
theorem s_X9_soon (l : Launch) (V : VX) (b M Z T N : Nat) (σ : Mem) (a : Nat) (x901 : Int32) (x902 : Int32) (h0 : HT V (b, M, Z, T) σ) (hk : kA b a = 1) (hM : M + 648 ≤ 1000000000) : Ct l V yX9_soon cX9_soon 6 (some .long) 7 0 0 N σ [.ref a, .int x901, .int x902] (fun r τ => HK V (b, M + 648, Z, T) [0, 1, 3] σ τ ∧ ∃ x : Int64, r = some (.long x)) := by
  refine Ct.of (by decide) (Nat.le_of_ble_eq_true rfl) [(0, .ref a), (1, .int x901), (2, .int x902)] rfl (fun X hX F hQ => ?_)
  have h1 : HK V (b, M, Z, T) [0, 1, 3] σ σ := HK.start h0
  refine m_aload_n F rfl e_X9_soon_0 ?_
  refine m_iload_n F rfl e_X9_soon_1 ?_
  refine t_callV F e_X9_soon_2 (s_X9_leaseAt (x_l X) V b M Z T _ _ a x901 h1.1 hk  (by omega)) cb_X9_leaseAt ml_X9_103 im_X9_leaseAt se_X9_leaseAt (fun _ => o1) h1 hk rfl rfl (rest := []) rfl (Nat.le_of_ble_eq_true rfl) ⟨Nat.le_of_ble_eq_true rfl, Nat.le_of_ble_eq_true rfl⟩ ⟨Nat.le_of_ble_eq_true rfl, Nat.le_of_ble_eq_true rfl⟩ (fun r σ2748 hp => ?_)
  obtain ⟨h2750, c2751⟩ := hp
  have h2749 := HK.trans h1 h2750 (by decide)
  rcases c2751 with rfl | ⟨n2752, r2753, hn2752, en2752, k2754, rfl⟩
  · refine m_astore_nN F (lv' := [(3, .null), (0, .ref a), (1, .int x901), (2, .int x902)]) e_X9_soon_5 (by decide) rfl ?_
    refine m_aload_nN F rfl e_X9_soon_6 ?_
    refine m_ifnullN F e_X9_soon_7 ?_
    refine m_ldc2 F kc_X9_149 e_X9_soon_19 ?_
    exact m_lret F hQ e_X9_soon_22 (⟨(h2749.mono (M' := M + 648) (Z' := Z) (by omega) (by intro e; first | rfl | assumption | omega)), _, rfl⟩)
  · subst en2752
    refine m_astore_n F (lv' := [(3, .ref r2753), (0, .ref a), (1, .int (nI n2752)), (2, .int x902)]) e_X9_soon_5 (by decide) rfl ?_
    refine m_aload_n F rfl e_X9_soon_6 ?_
    refine m_ifnullR F e_X9_soon_7 ?_
    refine m_iload_n F rfl e_X9_soon_10 ?_
    refine m_if_lt F e_X9_soon_11 (fun q11 => ?_) (fun q11 => ?_)
    · refine m_ldc2 F kc_X9_149 e_X9_soon_19 ?_
      exact m_lret F hQ e_X9_soon_22 (⟨(h2749.mono (M' := M + 648) (Z' := Z) (by omega) (by intro e; first | rfl | assumption | omega)), _, rfl⟩)
    · obtain ⟨n2755, hn2755, rfl⟩ := nI_nn (x := x902) (fun e => q11 (Int32.lt_of_lt_of_le e (by decide)))
      have c11 : n2755 ≥ 0 := by have hh := mt (nI_ltI (a := n2755) (b := 0) (by omega) (by omega)).mpr q11; omega
      refine m_iload_n F rfl e_X9_soon_14 ?_
      refine m_iconst F (v := 1) (by decide) e_X9_soon_15 ?_
      refine m_icmp_le F e_X9_soon_16 (fun q16 => ?_) (fun q16 => ?_)
      · have c16 : n2755 ≤ 1 := (nI_leI (a := n2755) (b := 1) (by omega) (by omega)).mp q16
        refine m_aload_n F rfl e_X9_soon_23 ?_
        refine m_bipush F (v := 12) (by decide) e_X9_soon_24 ?_
        refine t_callV F e_X9_soon_26 (s_X9_bookIn (x_l X) V b M Z T _ _ a 12 h2749.1 hk (by omega) (by omega)) cb_X9_bookIn ml_X9_271 im_X9_bookIn se_X9_bookIn (fun _ => o1) h2749 hk rfl rfl (rest := []) rfl (Nat.le_of_ble_eq_true rfl) ⟨Nat.le_of_ble_eq_true rfl, Nat.le_of_ble_eq_true rfl⟩ ⟨Nat.le_of_ble_eq_true rfl, Nat.le_of_ble_eq_true rfl⟩ (fun r σ2756 hp => ?_)
        obtain ⟨h2758, r2759, k2760, rfl⟩ := hp
        have h2757 := HK.trans h2749 h2758 (by decide)
        refine t_get F e_X9_soon_29 fl_X9_226 (fun _ => o7) h2757 k2760 rfl (fun v hv f2761 => ?_)
        obtain ⟨r2762, k2763, rfl⟩ := hv
        refine m_iload_n F rfl e_X9_soon_32 ?_
        refine t_aald F (len := 4) (j := n2752) e_X9_soon_33 (fun _ => o8) rfl h2757 k2763 (nI_clamp (by omega)) (vp_in_nI (by omega) (by decide)) (fun r2764 k2765 => ?_)
        refine t_get F e_X9_soon_34 fl_X9_151 (fun _ => o15) h2757 k2765 rfl (fun v hv f2766 => ?_)
        obtain ⟨r2767, k2768, rfl⟩ := hv
        refine t_callV F e_X9_soon_37 (s_X1_asLong (x_l X) V b (M + 648) Z T _ _ r2767  h2757.1 k2768  (by omega)) cb_X1_asLong ml_X9_157 im_X1_asLong se_X1_asLong (fun _ => o6) h2757 k2768 rfl rfl (rest := []) rfl (Nat.le_of_ble_eq_true rfl) ⟨Nat.le_of_ble_eq_true rfl, Nat.le_of_ble_eq_true rfl⟩ ⟨Nat.le_of_ble_eq_true rfl, Nat.le_of_ble_eq_true rfl⟩ (fun r σ2769 hp => ?_)
        obtain ⟨h2771, x2772, rfl⟩ := hp
        have h2770 := HK.trans h2757 h2771 (by decide)
        refine m_lstore F (lv' := [(4, .long x2772), (3, .ref r2753), (0, .ref a), (1, .int (nI n2752)), (2, .int (nI n2755))]) e_X9_soon_40 (by decide) rfl ?_
        refine m_iload_n F rfl e_X9_soon_42 ?_
        refine m_if_ne F e_X9_soon_43 (fun q43 => ?_) (fun q43 => ?_)
        · have c43 : n2755 ≠ 0 := by have hh := mt (nI_eq (a := n2755) (b := 0) (by omega) (by omega)).mpr q43; omega
          refine m_lload F rfl e_X9_soon_59 ?_
          exact m_lret F hQ e_X9_soon_61 (⟨h2770, _, rfl⟩)
        · have c43 : n2755 = 0 := (nI_eq (a := n2755) (b := 0) (by omega) (by omega)).mp q43
          refine m_aload_n F rfl e_X9_soon_46 ?_
          refine t_get F e_X9_soon_47 fl_X9_151 (fun _ => o15) h2770 k2754 rfl (fun v hv f2773 => ?_)
          obtain ⟨r2774, k2775, rfl⟩ := hv
          refine t_callV F e_X9_soon_50 (s_X1_asLong (x_l X) V b (M + 648) Z T _ _ r2774  h2770.1 k2775  (by omega)) cb_X1_asLong ml_X9_157 im_X1_asLong se_X1_asLong (fun _ => o6) h2770 k2775 rfl rfl (rest := []) rfl (Nat.le_of_ble_eq_true rfl) ⟨Nat.le_of_ble_eq_true rfl, Nat.le_of_ble_eq_true rfl⟩ ⟨Nat.le_of_ble_eq_true rfl, Nat.le_of_ble_eq_true rfl⟩ (fun r σ2776 hp => ?_)
          obtain ⟨h2778, x2779, rfl⟩ := hp
          have h2777 := HK.trans h2770 h2778 (by decide)
          refine m_lload F rfl e_X9_soon_53 ?_
          refine m_lsub F e_X9_soon_55 ?_
          refine Wm.topl (fun x2780 _ => ?_)
          refine m_goto F e_X9_soon_56 ?_
          exact m_lret F hQ e_X9_soon_61 (⟨h2777, _, rfl⟩)
      · have c16 : n2755 > 1 := by have hh := mt (nI_leI (a := n2755) (b := 1) (by omega) (by omega)).mpr q16; omega
        refine m_ldc2 F kc_X9_149 e_X9_soon_19 ?_
        exact m_lret F hQ e_X9_soon_22 (⟨(h2749.mono (M' := M + 648) (Z' := Z) (by omega) (by intro e; first | rfl | assumption | omega)), _, rfl⟩)
