set_option maxRecDepth 20000 in
theorem s_X9_leaseAt (l : Launch) (V : VX) (b M Z T N : Nat) (σ : Mem) (a : Nat) (x901 : Int32) (h0 : HT V (b, M, Z, T) σ) (hk : kA b a = 1) (hM : M + 0 ≤ 1000000000) : Ct l V yX9_leaseAt cX9_leaseAt 2 (some (.object "LeaseLedger$Lease")) 0 0 0 N σ [.ref a, .int x901] (fun r τ => HK V (b, M, Z, T) [0, 1, 2, 3, 4, 5, 6, 7, 8, 9, 10, 11, 12, 13, 14, 15, 16, 17, 18, 19] σ τ ∧ (r = some .null ∨ ∃ n q : Nat, n ≤ 3 ∧ x901 = nI n ∧ kA b q = 15 ∧ r = some (.ref q))) := by
  refine Ct.of (by decide) (Nat.le_of_ble_eq_true rfl) [(0, .ref a), (1, .int x901)] rfl (fun X hX F hQ => ?_)
  have h1 : HK V (b, M, Z, T) [0, 1, 2, 3, 4, 5, 6, 7, 8, 9, 10, 11, 12, 13, 14, 15, 16, 17, 18, 19] σ σ := HK.start h0
  refine m_iload_n F rfl e_X9_leaseAt_0 ?_
  refine m_if_lt F e_X9_leaseAt_1 (fun q1 => ?_) (fun q1 => ?_)
  · refine m_null F e_X9_leaseAt_27 ?_
    exact m_aret F hQ e_X9_leaseAt_28 (Or.inl rfl) (⟨h1, Or.inl rfl⟩)
  · obtain ⟨n1963, hn1963, rfl⟩ := nI_nn (x := x901) (fun e => q1 (Int32.lt_of_lt_of_le e (by decide)))
    have c1 : n1963 ≥ 0 := by have hh := mt (nI_ltI (a := n1963) (b := 0) (by omega) (by omega)).mpr q1; omega
    refine m_iload_n F rfl e_X9_leaseAt_4 ?_
    refine m_aload_n F rfl e_X9_leaseAt_5 ?_
    refine t_get F e_X9_leaseAt_6 fl_X9_16 (fun _ => o1) h1 hk rfl (fun v hv f1964 => ?_)
    obtain ⟨r1965, k1966, rfl⟩ := hv
    refine t_get F e_X9_leaseAt_9 fl_X9_358 (fun _ => o7) h1 k1966 rfl (fun v hv f1967 => ?_)
    obtain ⟨n1968, hn1968, rfl⟩ := hv
    replace hn1968 : n1968 ≤ 4 := hn1968
    refine m_icmp_ge F e_X9_leaseAt_12 (fun q12 => ?_) (fun q12 => ?_)
    · have c12 : n1963 ≥ n1968 := (nI_leI (a := n1968) (b := n1963) (by omega) (by omega)).mp q12
      refine m_null F e_X9_leaseAt_27 ?_
      exact m_aret F hQ e_X9_leaseAt_28 (Or.inl rfl) (⟨h1, Or.inl rfl⟩)
    · have c12 : n1963 < n1968 := by have hh := mt (nI_leI (a := n1968) (b := n1963) (by omega) (by omega)).mpr q12; omega
      refine m_aload_n F rfl e_X9_leaseAt_15 ?_
      refine t_getC F e_X9_leaseAt_16 fl_X9_16 (fun _ => o1) h1 hk (f1964) ?_
      refine t_get F e_X9_leaseAt_19 fl_X9_226 (fun _ => o7) h1 k1966 rfl (fun v hv f1969 => ?_)
      obtain rfl : v = .ref (r1965 + 1) := hv
      refine m_iload_n F rfl e_X9_leaseAt_22 ?_
      refine t_aald8 F (j := n1963) e_X9_leaseAt_23 rfl h1 (kA_7 k1966 (r := 1) (by decide)) (nI_clamp (by omega)) (vp_in_nI (by omega) (by decide)) ?_
      refine m_goto F e_X9_leaseAt_24 ?_
      exact m_aret F hQ e_X9_leaseAt_28 (Or.inr ⟨_, rfl⟩) (⟨h1, Or.inr ⟨n1963, _, by omega, rfl, (kA_8 (kA_7 k1966 (r := 1) (by decide)) (j := n1963) (by omega)), rfl⟩⟩)
set_option maxRecDepth 20000 in
theorem s_X9_runningAt (l : Launch) (V : VX) (b M Z T N : Nat) (σ : Mem) (a : Nat) (x901 : Int32) (h0 : HT V (b, M, Z, T) σ) (hk : kA b a = 1) (hM : M + 0 ≤ 1000000000) : Ct l V yX9_runningAt cX9_runningAt 3 (some (.object "LeaseLedger$Lease")) 1 0 0 N σ [.ref a, .int x901] (fun r τ => HK V (b, M, Z, T) [0, 1, 2, 3, 4, 5, 6, 7, 8, 9, 10, 11, 12, 13, 14, 15, 16, 17, 18, 19] σ τ ∧ (r = some .null ∨ ∃ n q : Nat, n ≤ 3 ∧ x901 = nI n ∧ kA b q = 15 ∧ r = some (.ref q))) := by
  refine Ct.of (by decide) (Nat.le_of_ble_eq_true rfl) [(0, .ref a), (1, .int x901)] rfl (fun X hX F hQ => ?_)
  have h1 : HK V (b, M, Z, T) [0, 1, 2, 3, 4, 5, 6, 7, 8, 9, 10, 11, 12, 13, 14, 15, 16, 17, 18, 19] σ σ := HK.start h0
  refine m_aload_n F rfl e_X9_runningAt_0 ?_
  refine m_iload_n F rfl e_X9_runningAt_1 ?_
  refine t_callV F e_X9_runningAt_2 (s_X9_leaseAt (x_l X) V b M Z T _ _ a x901 h1.1 hk  (by omega)) cb_X9_leaseAt ml_X9_103 im_X9_leaseAt se_X9_leaseAt (fun _ => o1) h1 hk rfl rfl (rest := []) rfl (Nat.le_of_ble_eq_true rfl) ⟨Nat.le_of_ble_eq_true rfl, Nat.le_of_ble_eq_true rfl⟩ ⟨Nat.le_of_ble_eq_true rfl, Nat.le_of_ble_eq_true rfl⟩ (fun r σ1970 hp => ?_)
  obtain ⟨h1972, c1973⟩ := hp
  have h1971 := HK.trans h1 h1972 (by decide)
  rcases c1973 with rfl | ⟨n1974, r1975, hn1974, en1974, k1976, rfl⟩
  · refine m_astore_nN F (lv' := [(2, .null), (0, .ref a), (1, .int x901)]) e_X9_runningAt_5 (by decide) rfl ?_
    refine m_aload_nN F rfl e_X9_runningAt_6 ?_
    refine m_ifnullN F e_X9_runningAt_7 ?_
    refine m_null F e_X9_runningAt_22 ?_
    exact m_aret F hQ e_X9_runningAt_23 (Or.inl rfl) (⟨h1971, Or.inl rfl⟩)
  · subst en1974
    refine m_astore_n F (lv' := [(2, .ref r1975), (0, .ref a), (1, .int (nI n1974))]) e_X9_runningAt_5 (by decide) rfl ?_
    refine m_aload_n F rfl e_X9_runningAt_6 ?_
    refine m_ifnullR F e_X9_runningAt_7 ?_
    refine m_aload_n F rfl e_X9_runningAt_10 ?_
    refine t_get F e_X9_runningAt_11 fl_X9_125 (fun _ => o15) h1971 k1976 rfl (fun v hv f1977 => ?_)
    obtain ⟨x1978, rfl⟩ := hv
    refine m_iconst F (v := 1) (by decide) e_X9_runningAt_14 ?_
    refine m_icmp_ne F e_X9_runningAt_15 (fun q15 => ?_) (fun q15 => ?_)
    · refine m_null F e_X9_runningAt_22 ?_
      exact m_aret F hQ e_X9_runningAt_23 (Or.inl rfl) (⟨h1971, Or.inl rfl⟩)
    · refine m_aload_n F rfl e_X9_runningAt_18 ?_
      refine m_goto F e_X9_runningAt_19 ?_
      exact m_aret F hQ e_X9_runningAt_23 (Or.inr ⟨_, rfl⟩) (⟨h1971, Or.inr ⟨n1974, _, by omega, rfl, k1976, rfl⟩⟩)
set_option maxRecDepth 20000 in
theorem s_X9_coming (l : Launch) (V : VX) (b M Z T N : Nat) (σ : Mem) (a : Nat) (n901 : Nat) (h0 : HT V (b, M, Z, T) σ) (hk : kA b a = 1) (hn901 : n901 ≤ 1000) (hM : M + 0 ≤ 1000000000) : Ct l V yX9_coming cX9_coming 2 (some .int) 1 0 0 N σ [.ref a, .int (nI n901)] (fun r τ => HK V (b, M, Z, T) [0, 1, 2, 3, 4, 5, 6, 7, 8, 9, 10, 11, 12, 13, 14, 15, 16, 17, 18, 19] σ τ ∧ ∃ n : Nat, n ≤ n901 ∧ r = some (.int (nI n))) := by
  refine Ct.of (by decide) (Nat.le_of_ble_eq_true rfl) [(0, .ref a), (1, .int (nI n901))] rfl (fun X hX F hQ => ?_)
  have h1 : HK V (b, M, Z, T) [0, 1, 2, 3, 4, 5, 6, 7, 8, 9, 10, 11, 12, 13, 14, 15, 16, 17, 18, 19] σ σ := HK.start h0
  refine m_iconst F (v := 0) (by decide) e_X9_coming_0 ?_
  refine m_iload_n F rfl e_X9_coming_1 ?_
  refine m_bipush F (v := 99) (by decide) e_X9_coming_2 ?_
  refine m_aload_n F rfl e_X9_coming_4 ?_
  refine t_get F e_X9_coming_5 fl_X9_16 (fun _ => o1) h1 hk rfl (fun v hv f1979 => ?_)
  obtain ⟨r1980, k1981, rfl⟩ := hv
  refine t_get F e_X9_coming_8 fl_X9_94 (fun _ => o7) h1 k1981 rfl (fun v hv f1982 => ?_)
  obtain ⟨n1983, hn1983, rfl⟩ := hv
  replace hn1983 : n1983 ≤ M := hn1983
  refine m_isub F e_X9_coming_11 ?_
  refine Wm.top (fun x1984 _ => ?_)
  refine m_min F e_X9_coming_12 ml_X9_386 sm_min ini_math co_min (Nat.le_of_ble_eq_true rfl) (Nat.le_of_ble_eq_true rfl) (Nat.le_of_ble_eq_true rfl) (Nat.le_of_ble_eq_true rfl) ?_
  refine m_max F e_X9_coming_15 ml_X9_392 sm_max ini_math co_max (Nat.le_of_ble_eq_true rfl) (Nat.le_of_ble_eq_true rfl) (Nat.le_of_ble_eq_true rfl) (Nat.le_of_ble_eq_true rfl) ?_
  obtain ⟨n77, hn77, e77⟩ := clampN (n := n901) (by omega) x1984
  refine Wm.topE (w := nI n77) (e77) ?_
  exact m_iret F hQ e_X9_coming_18 (⟨h1, n77, by omega, rfl⟩)
set_option maxRecDepth 20000 in
theorem lp_X9_bookIn_19 {V : VX} {X : MX} {b M Z T N : Nat} {σ : Mem} {a : Nat} {n901 : Nat}  (F : Fx V X yX9_bookIn cX9_bookIn 4 (some (.object "LeaseLedger$Book")) (rmd 6 0 0)) (hQ : Rt V X 0 0 N (fun r τ => HK V (b, M + 648, Z, T) [0, 1, 2, 3, 4, 5, 8, 9, 16] σ τ ∧ ∃ q : Nat, kA b q = 7 ∧ r = some (.ref q))) (hk : kA b a = 1) (hn901 : n901 ≤ 72) (hM : M + 648 ≤ 1000000000)  : ∀ (fuel : Nat) (i : Nat) (c : Nat) (τ : Mem), HK V (b, M + 9 * i, Z, T) [0, 1, 2, 3, 4, 5, 8, 9, 16] σ τ → i ≤ 72 ∧ c ≤ 72 → 72 - i < fuel → Wm V X 4 N τ 0 0 19 [(3, .int (nI i)), (2, .int (nI c)), (0, .ref a), (1, .int (nI n901))] [] := by
  intro fuel
  induction fuel with
  | zero => intro i c τ h1 hi hm; exact absurd hm (Nat.not_lt_zero _)
  | succ fuel ih =>
    intro i c τ h1 hi hm
    refine m_iload_n F rfl e_X9_bookIn_19 ?_
    refine m_iload_n F rfl e_X9_bookIn_20 ?_
    refine m_icmp_ge F e_X9_bookIn_21 (fun q21 => ?_) (fun q21 => ?_)
    · have c21 : i ≥ c := (nI_leI (a := c) (b := i) (by omega) (by omega)).mp q21
      refine m_aload_n F rfl e_X9_bookIn_37 ?_
      refine t_get F e_X9_bookIn_38 fl_X9_20 (fun _ => o1) h1 hk rfl (fun v hv f1985 => ?_)
      obtain ⟨r1986, k1987, rfl⟩ := hv
      exact m_aret F hQ e_X9_bookIn_41 (Or.inr ⟨_, rfl⟩) (⟨(h1.mono (M' := M + 648) (Z' := Z) (by omega) (by intro e; first | rfl | assumption | omega)), _, k1987, rfl⟩)
    · have c21 : i < c := by have hh := mt (nI_leI (a := c) (b := i) (by omega) (by omega)).mpr q21; omega
      refine m_aload_n F rfl e_X9_bookIn_24 ?_
      refine t_get F e_X9_bookIn_25 fl_X9_20 (fun _ => o1) h1 hk rfl (fun v hv f1988 => ?_)
      obtain ⟨r1989, k1990, rfl⟩ := hv
      refine t_callV F e_X9_bookIn_28 (s_X2_periodGoesBy (x_l X) V b (M + 9 * i) Z T _ _ r1989  h1.1 k1990  (by omega)) cb_X2_periodGoesBy ml_X9_100 im_X2_periodGoesBy se_X2_periodGoesBy (fun _ => o7) h1 k1990 rfl rfl (rest := []) rfl (Nat.le_of_ble_eq_true rfl) ⟨Nat.le_of_ble_eq_true rfl, Nat.le_of_ble_eq_true rfl⟩ ⟨Nat.le_of_ble_eq_true rfl, Nat.le_of_ble_eq_true rfl⟩ (fun r σ1991 hp => ?_)
      obtain ⟨h1993, rfl⟩ := hp
      have h1992 := HK.trans h1 h1993 (by decide)
      refine m_iinc F (v := nI (i + 1)) (lv' := [(3, .int (nI (i + 1))), (2, .int (nI c)), (0, .ref a), (1, .int (nI n901))]) e_X9_bookIn_31 rfl (nI_add i 1) (by decide) rfl ?_
      refine m_goto F e_X9_bookIn_34 ?_
      exact ih (i + 1) c _ (h1992.mono (M' := M + 9 * (i + 1)) (Z' := Z) (by omega) (by intro e9; first | exact e9 | rfl)) (by omega) (by omega)
set_option maxRecDepth 20000 in
theorem s_X9_bookIn (l : Launch) (V : VX) (b M Z T N : Nat) (σ : Mem) (a : Nat) (n901 : Nat) (h0 : HT V (b, M, Z, T) σ) (hk : kA b a = 1) (hn901 : n901 ≤ 72) (hM : M + 648 ≤ 1000000000) : Ct l V yX9_bookIn cX9_bookIn 4 (some (.object "LeaseLedger$Book")) 6 0 0 N σ [.ref a, .int (nI n901)] (fun r τ => HK V (b, M + 648, Z, T) [0, 1, 2, 3, 4, 5, 8, 9, 16] σ τ ∧ ∃ q : Nat, kA b q = 7 ∧ r = some (.ref q)) := by
  refine Ct.of (by decide) (Nat.le_of_ble_eq_true rfl) [(0, .ref a), (1, .int (nI n901))] rfl (fun X hX F hQ => ?_)
  have h1 : HK V (b, M, Z, T) [0, 1, 2, 3, 4, 5, 8, 9, 16] σ σ := HK.start h0
  refine m_aload_n F rfl e_X9_bookIn_0 ?_
  refine t_get F e_X9_bookIn_1 fl_X9_20 (fun _ => o1) h1 hk rfl (fun v hv f1994 => ?_)
  obtain ⟨r1995, k1996, rfl⟩ := hv
  refine m_aload_n F rfl e_X9_bookIn_4 ?_
  refine t_get F e_X9_bookIn_5 fl_X9_16 (fun _ => o1) h1 hk rfl (fun v hv f1997 => ?_)
  obtain ⟨r1998, k1999, rfl⟩ := hv
  refine t_callV F e_X9_bookIn_8 (s_X2_copyFrom (x_l X) V b M Z T _ _ r1995 r1998 h1.1 k1996 k1999 (by omega)) cb_X2_copyFrom ml_X9_374 im_X2_copyFrom se_X2_copyFrom (fun _ => o7) h1 k1996 rfl rfl (rest := []) rfl (Nat.le_of_ble_eq_true rfl) ⟨Nat.le_of_ble_eq_true rfl, Nat.le_of_ble_eq_true rfl⟩ ⟨Nat.le_of_ble_eq_true rfl, Nat.le_of_ble_eq_true rfl⟩ (fun r σ2000 hp => ?_)
  obtain ⟨h2002, rfl⟩ := hp
  have h2001 := HK.trans h1 h2002 (by decide)
  refine m_aload_n F rfl e_X9_bookIn_11 ?_
  refine m_iload_n F rfl e_X9_bookIn_12 ?_
  refine t_callV F e_X9_bookIn_13 (s_X9_coming (x_l X) V b M Z T _ _ a n901 h2001.1 hk (by omega) (by omega)) cb_X9_coming ml_X9_324 im_X9_coming se_X9_coming (fun _ => o1) h2001 hk rfl rfl (rest := []) rfl (Nat.le_of_ble_eq_true rfl) ⟨Nat.le_of_ble_eq_true rfl, Nat.le_of_ble_eq_true rfl⟩ ⟨Nat.le_of_ble_eq_true rfl, Nat.le_of_ble_eq_true rfl⟩ (fun r σ2003 hp => ?_)
  obtain ⟨h2005, n2006, hn2006, rfl⟩ := hp
  have h2004 := HK.trans h2001 h2005 (by decide)
  refine m_istore_n F (lv' := [(2, .int (nI n2006)), (0, .ref a), (1, .int (nI n901))]) e_X9_bookIn_16 (by decide) rfl ?_
  refine m_iconst F (v := 0) (by decide) e_X9_bookIn_17 ?_
  refine m_istore_n F (lv' := [(3, .int 0), (2, .int (nI n2006)), (0, .ref a), (1, .int (nI n901))]) e_X9_bookIn_18 (by decide) rfl ?_
  exact lp_X9_bookIn_19 F hQ hk hn901 hM (72 - 0 + 1) 0 n2006 _ (h2004.mono (M' := M + 9 * 0) (Z' := Z) (by omega) (by intro e9; first | exact e9 | rfl)) (by omega) (Nat.lt_succ_self _)
set_option maxRecDepth 20000 in
theorem s_X9_remember (l : Launch) (V : VX) (b M Z T N : Nat) (σ : Mem) (a : Nat) (h0 : HT V (b, M, Z, T) σ) (hk : kA b a = 1) (hM : M + 0 ≤ 1000000000) : Ct l V yX9_remember cX9_remember 1 none 4 0 0 N σ [.ref a] (fun r τ => HK V (b, M, Z, T) [0, 2, 3, 4, 5, 8, 9, 16] σ τ ∧ r = none) := by
  refine Ct.of (by decide) (Nat.le_of_ble_eq_true rfl) [(0, .ref a)] rfl (fun X hX F hQ => ?_)
  have h1 : HK V (b, M, Z, T) [0, 2, 3, 4, 5, 8, 9, 16] σ σ := HK.start h0
  refine m_aload_n F rfl e_X9_remember_0 ?_
  refine t_get F e_X9_remember_1 fl_X9_35 (fun _ => o1) h1 hk rfl (fun v hv f2007 => ?_)
  obtain ⟨r2008, k2009, rfl⟩ := hv
  refine m_aload_n F rfl e_X9_remember_4 ?_
  refine t_get F e_X9_remember_5 fl_X9_371 (fun _ => o1) h1 hk rfl (fun v hv f2010 => ?_)
  obtain ⟨n2011, hn2011, rfl⟩ := hv
  replace hn2011 : n2011 ≤ 19 := hn2011
  refine m_aload_n F rfl e_X9_remember_8 ?_
  refine t_get F e_X9_remember_9 fl_X9_368 (fun _ => o1) h1 hk rfl (fun v hv f2012 => ?_)
  obtain ⟨n2013, hn2013, rfl⟩ := hv
  replace hn2013 : n2013 ≤ 20 := hn2013
  refine m_iadd F e_X9_remember_12 ?_
  refine Wm.topE (w := nI (n2011 + n2013)) (nI_add n2011 n2013) ?_
  refine m_bipush F (v := 20) (by decide) e_X9_remember_13 ?_
  refine m_irem F (by decide) e_X9_remember_15 ?_
  refine Wm.topE (w := nI ((n2011 + n2013) % 20)) (pk_rem (a := n2011 + n2013) (d := 20) (by omega) (by decide) (by decide)) ?_
  refine t_aald F (len := 20) (j := (n2011 + n2013) % 20) e_X9_remember_16 (fun _ => o5) rfl h1 k2009 (nI_clamp (by omega)) (vp_in_nI (by omega) (by decide)) (fun r2014 k2015 => ?_)
  refine m_aload_n F rfl e_X9_remember_17 ?_
  refine t_get F e_X9_remember_18 fl_X9_16 (fun _ => o1) h1 hk rfl (fun v hv f2016 => ?_)
  obtain ⟨r2017, k2018, rfl⟩ := hv
  refine t_callV F e_X9_remember_21 (s_X2_copyFrom (x_l X) V b M Z T _ _ r2014 r2017 h1.1 k2015 k2018 (by omega)) cb_X2_copyFrom ml_X9_374 im_X2_copyFrom se_X2_copyFrom (fun _ => o7) h1 k2015 rfl rfl (rest := []) rfl (Nat.le_of_ble_eq_true rfl) ⟨Nat.le_of_ble_eq_true rfl, Nat.le_of_ble_eq_true rfl⟩ ⟨Nat.le_of_ble_eq_true rfl, Nat.le_of_ble_eq_true rfl⟩ (fun r σ2019 hp => ?_)
  obtain ⟨h2021, rfl⟩ := hp
  have h2020 := HK.trans h1 h2021 (by decide)
  refine m_aload_n F rfl e_X9_remember_24 ?_
  refine t_getC F e_X9_remember_25 fl_X9_368 (fun _ => o1) h2020 hk ((fld_eq (h2021.2 a (by rw [show kA _ a = 1 from hk]; decide))).trans f2012) ?_
  refine m_bipush F (v := 20) (by decide) e_X9_remember_28 ?_
  refine m_icmp_ge F e_X9_remember_30 (fun q30 => ?_) (fun q30 => ?_)
  · have c30 : n2013 ≥ 20 := (nI_leI (a := 20) (b := n2013) (by omega) (by omega)).mp q30
    refine m_aload_n F rfl e_X9_remember_46 ?_
    refine m_aload_n F rfl e_X9_remember_47 ?_
    refine t_getC F e_X9_remember_48 fl_X9_371 (fun _ => o1) h2020 hk ((fld_eq (h2021.2 a (by rw [show kA _ a = 1 from hk]; decide))).trans f2010) ?_
    refine m_iconst F (v := 1) (by decide) e_X9_remember_51 ?_
    refine m_iadd F e_X9_remember_52 ?_
    refine Wm.topE (w := nI (n2011 + 1)) (nI_add n2011 1) ?_
    refine m_bipush F (v := 20) (by decide) e_X9_remember_53 ?_
    refine m_irem F (by decide) e_X9_remember_55 ?_
    refine Wm.topE (w := nI ((n2011 + 1) % 20)) (pk_rem (a := n2011 + 1) (d := 20) (by omega) (by decide) (by decide)) ?_
    refine t_put F e_X9_remember_56 fp_X9_371 (fun _ => o1) h2020 hk rfl ⟨(n2011 + 1) % 20, (show (n2011 + 1) % 20 ≤ 19 by omega), rfl⟩ rfl rfl (by decide) (fun σ2022 h2023 g2024 g2025 f2026 => ?_)
    exact m_vret F hQ e_X9_remember_59 (⟨h2023, rfl⟩)
  · have c30 : n2013 < 20 := by have hh := mt (nI_leI (a := 20) (b := n2013) (by omega) (by omega)).mpr q30; omega
    refine m_aload_n F rfl e_X9_remember_33 ?_
    refine m_dup F rfl e_X9_remember_34 ?_
    refine t_getC F e_X9_remember_35 fl_X9_368 (fun _ => o1) h2020 hk ((fld_eq (h2021.2 a (by rw [show kA _ a = 1 from hk]; decide))).trans f2012) ?_
    refine m_iconst F (v := 1) (by decide) e_X9_remember_38 ?_
    refine m_iadd F e_X9_remember_39 ?_
    refine Wm.topE (w := nI (n2013 + 1)) (nI_add n2013 1) ?_
    refine t_put F e_X9_remember_40 fp_X9_368 (fun _ => o1) h2020 hk rfl ⟨n2013 + 1, (show n2013 + 1 ≤ 20 by omega), rfl⟩ rfl rfl (by decide) (fun σ2027 h2028 g2029 g2030 f2031 => ?_)
    refine m_goto F e_X9_remember_43 ?_
    exact m_vret F hQ e_X9_remember_59 (⟨h2028, rfl⟩)
set_option maxRecDepth 20000 in
theorem s_X9_forgetPast (l : Launch) (V : VX) (b M Z T N : Nat) (σ : Mem) (a : Nat) (h0 : HT V (b, M, Z, T) σ) (hk : kA b a = 1) (hM : M + 0 ≤ 1000000000) : Ct l V yX9_forgetPast cX9_forgetPast 1 none 0 0 0 N σ [.ref a] (fun r τ => HK V (b, M, Z, T) [0, 2, 3, 4, 5, 6, 7, 8, 9, 10, 11, 12, 13, 14, 15, 16, 17, 18, 19] σ τ ∧ r = none) := by
  refine Ct.of (by decide) (Nat.le_of_ble_eq_true rfl) [(0, .ref a)] rfl (fun X hX F hQ => ?_)
  have h1 : HK V (b, M, Z, T) [0, 2, 3, 4, 5, 6, 7, 8, 9, 10, 11, 12, 13, 14, 15, 16, 17, 18, 19] σ σ := HK.start h0
  refine m_aload_n F rfl e_X9_forgetPast_0 ?_
  refine m_iconst F (v := 0) (by decide) e_X9_forgetPast_1 ?_
  refine t_put F e_X9_forgetPast_2 fp_X9_371 (fun _ => o1) h1 hk rfl ⟨0, (show 0 ≤ 19 by omega), rfl⟩ rfl rfl (by decide) (fun σ2032 h2033 g2034 g2035 f2036 => ?_)
  refine m_aload_n F rfl e_X9_forgetPast_5 ?_
  refine m_iconst F (v := 0) (by decide) e_X9_forgetPast_6 ?_
  refine t_put F e_X9_forgetPast_7 fp_X9_368 (fun _ => o1) h2033 hk rfl ⟨0, (show 0 ≤ 20 by omega), rfl⟩ rfl rfl (by decide) (fun σ2037 h2038 g2039 g2040 f2041 => ?_)
  exact m_vret F hQ e_X9_forgetPast_10 (⟨h2038, rfl⟩)
set_option maxRecDepth 20000 in
theorem s_X9_isIndex (l : Launch) (V : VX) (b M Z T N : Nat) (σ : Mem) (x901 : Int32) (h0 : HT V (b, M, Z, T) σ)  (hM : M + 0 ≤ 1000000000) : Ct l V yX9_isIndex cX9_isIndex 1 (some .boolean) 0 0 0 N σ [.int x901] (fun r τ => HK V (b, M, Z, T) [0, 1, 2, 3, 4, 5, 6, 7, 8, 9, 10, 11, 12, 13, 14, 15, 16, 17, 18, 19] σ τ ∧ ∃ n : Nat, n ≤ 1 ∧ r = some (.int (nI n))) := by
  refine Ct.of (by decide) (Nat.le_of_ble_eq_true rfl) [(0, .int x901)] rfl (fun X hX F hQ => ?_)
  have h1 : HK V (b, M, Z, T) [0, 1, 2, 3, 4, 5, 6, 7, 8, 9, 10, 11, 12, 13, 14, 15, 16, 17, 18, 19] σ σ := HK.start h0
  refine m_iload_n F rfl e_X9_isIndex_0 ?_
  refine m_sipush F (v := 500) (by decide) e_X9_isIndex_1 ?_
  refine m_icmp_lt F e_X9_isIndex_4 (fun q4 => ?_) (fun q4 => ?_)
  · refine m_iconst F (v := 0) (by decide) e_X9_isIndex_18 ?_
    exact m_zret F hQ e_X9_isIndex_19 (by decide) (⟨h1, 0, by omega, rfl⟩)
  · obtain ⟨n2042, hn2042, rfl⟩ := nI_nn (x := x901) (fun e => q4 (Int32.lt_of_lt_of_le e (by decide)))
    have c4 : n2042 ≥ 500 := by have hh := mt (nI_ltI (a := n2042) (b := 500) (by omega) (by omega)).mpr q4; omega
    refine m_iload_n F rfl e_X9_isIndex_7 ?_
    refine m_sipush F (v := 2000) (by decide) e_X9_isIndex_8 ?_
    refine m_icmp_gt F e_X9_isIndex_11 (fun q11 => ?_) (fun q11 => ?_)
    · have c11 : n2042 > 2000 := (nI_ltI (a := 2000) (b := n2042) (by omega) (by omega)).mp q11
      refine m_iconst F (v := 0) (by decide) e_X9_isIndex_18 ?_
      exact m_zret F hQ e_X9_isIndex_19 (by decide) (⟨h1, 0, by omega, rfl⟩)
    · have c11 : n2042 ≤ 2000 := by have hh := mt (nI_ltI (a := 2000) (b := n2042) (by omega) (by omega)).mpr q11; omega
      refine m_iconst F (v := 1) (by decide) e_X9_isIndex_14 ?_
      refine m_goto F e_X9_isIndex_15 ?_
      exact m_zret F hQ e_X9_isIndex_19 (by decide) (⟨h1, 1, by omega, rfl⟩)
set_option maxRecDepth 20000 in
theorem s_X9_isSort (l : Launch) (V : VX) (b M Z T N : Nat) (σ : Mem) (x901 : Int32) (h0 : HT V (b, M, Z, T) σ)  (hM : M + 0 ≤ 1000000000) : Ct l V yX9_isSort cX9_isSort 1 (some .boolean) 0 0 0 N σ [.int x901] (fun r τ => HK V (b, M, Z, T) [0, 1, 2, 3, 4, 5, 6, 7, 8, 9, 10, 11, 12, 13, 14, 15, 16, 17, 18, 19] σ τ ∧ ∃ n : Nat, n ≤ 1 ∧ r = some (.int (nI n))) := by
  refine Ct.of (by decide) (Nat.le_of_ble_eq_true rfl) [(0, .int x901)] rfl (fun X hX F hQ => ?_)
  have h1 : HK V (b, M, Z, T) [0, 1, 2, 3, 4, 5, 6, 7, 8, 9, 10, 11, 12, 13, 14, 15, 16, 17, 18, 19] σ σ := HK.start h0
  refine m_iload_n F rfl e_X9_isSort_0 ?_
  refine m_if_lt F e_X9_isSort_1 (fun q1 => ?_) (fun q1 => ?_)
  · refine m_iconst F (v := 0) (by decide) e_X9_isSort_14 ?_
    exact m_zret F hQ e_X9_isSort_15 (by decide) (⟨h1, 0, by omega, rfl⟩)
  · obtain ⟨n2043, hn2043, rfl⟩ := nI_nn (x := x901) (fun e => q1 (Int32.lt_of_lt_of_le e (by decide)))
    have c1 : n2043 ≥ 0 := by have hh := mt (nI_ltI (a := n2043) (b := 0) (by omega) (by omega)).mpr q1; omega
    refine m_iload_n F rfl e_X9_isSort_4 ?_
    refine m_bipush F (v := 6) (by decide) e_X9_isSort_5 ?_
    refine m_icmp_ge F e_X9_isSort_7 (fun q7 => ?_) (fun q7 => ?_)
    · have c7 : n2043 ≥ 6 := (nI_leI (a := 6) (b := n2043) (by omega) (by omega)).mp q7
      refine m_iconst F (v := 0) (by decide) e_X9_isSort_14 ?_
      exact m_zret F hQ e_X9_isSort_15 (by decide) (⟨h1, 0, by omega, rfl⟩)
    · have c7 : n2043 < 6 := by have hh := mt (nI_leI (a := 6) (b := n2043) (by omega) (by omega)).mpr q7; omega
      refine m_iconst F (v := 1) (by decide) e_X9_isSort_10 ?_
      refine m_goto F e_X9_isSort_11 ?_
      exact m_zret F hQ e_X9_isSort_15 (by decide) (⟨h1, 1, by omega, rfl⟩)
set_option maxRecDepth 20000 in
theorem s_X9_isWorth (l : Launch) (V : VX) (b M Z T N : Nat) (σ : Mem) (x901 : Int64) (h0 : HT V (b, M, Z, T) σ)  (hM : M + 0 ≤ 1000000000) : Ct l V yX9_isWorth cX9_isWorth 2 (some .boolean) 0 0 0 N σ [.long x901] (fun r τ => HK V (b, M, Z, T) [0, 1, 2, 3, 4, 5, 6, 7, 8, 9, 10, 11, 12, 13, 14, 15, 16, 17, 18, 19] σ τ ∧ ∃ n : Nat, n ≤ 1 ∧ r = some (.int (nI n))) := by
  refine Ct.of (by decide) (Nat.le_of_ble_eq_true rfl) [(0, .long x901)] rfl (fun X hX F hQ => ?_)
  have h1 : HK V (b, M, Z, T) [0, 1, 2, 3, 4, 5, 6, 7, 8, 9, 10, 11, 12, 13, 14, 15, 16, 17, 18, 19] σ σ := HK.start h0
  refine m_lload_n F rfl e_X9_isWorth_0 ?_
  refine m_lconst F (v := 1) (by decide) e_X9_isWorth_1 ?_
  refine m_lcmp F e_X9_isWorth_2 ?_
  refine Wm.top (fun x2044 _ => ?_)
  refine m_if_lt F e_X9_isWorth_3 (fun q3 => ?_) (fun q3 => ?_)
  · refine m_iconst F (v := 0) (by decide) e_X9_isWorth_18 ?_
    exact m_zret F hQ e_X9_isWorth_19 (by decide) (⟨h1, 0, by omega, rfl⟩)
  · obtain ⟨n2045, hn2045, rfl⟩ := nI_nn (x := x2044) (fun e => q3 (Int32.lt_of_lt_of_le e (by decide)))
    have c3 : n2045 ≥ 0 := by have hh := mt (nI_ltI (a := n2045) (b := 0) (by omega) (by omega)).mpr q3; omega
    refine m_lload_n F rfl e_X9_isWorth_6 ?_
    refine m_ldc2 F kc_X9_395 e_X9_isWorth_7 ?_
    refine m_lcmp F e_X9_isWorth_10 ?_
    refine Wm.top (fun x2046 _ => ?_)
    refine m_if_gt F e_X9_isWorth_11 (fun q11 => ?_) (fun q11 => ?_)
    · obtain ⟨n2047, hn2047, rfl⟩ := nI_nn (x := x2046) (fun e => Int32.lt_irrefl (Int32.lt_trans e (Int32.lt_of_le_of_lt (by decide) q11)))
      have c11 : n2047 > 0 := (nI_ltI (a := 0) (b := n2047) (by omega) (by omega)).mp q11
      refine m_iconst F (v := 0) (by decide) e_X9_isWorth_18 ?_
      exact m_zret F hQ e_X9_isWorth_19 (by decide) (⟨h1, 0, by omega, rfl⟩)
    · refine m_iconst F (v := 1) (by decide) e_X9_isWorth_14 ?_
      refine m_goto F e_X9_isWorth_15 ?_
      exact m_zret F hQ e_X9_isWorth_19 (by decide) (⟨h1, 1, by omega, rfl⟩)
set_option maxRecDepth 20000 in
theorem lp_X9_leastTerm_30 {V : VX} {X : MX} {b M Z T N : Nat} {σ : Mem}  {r901 : Nat} {r902 : Nat} {n903 : Nat}  (F : Fx V X yX9_leastTerm cX9_leastTerm 13 (some .long) (rmd 1 0 0)) (hQ : Rt V X 0 0 N (fun r τ => HK V (b, M, Z, T) [0, 1, 2, 3, 4, 5, 7, 8, 9, 10, 11, 12, 13, 14, 15, 16, 17, 18, 19] σ τ ∧ ∃ x : Int64, r = some (.long x))) (k901 : kA b r901 = 6) (k902 : kA b r902 = 6) (hn903 : n903 ≤ 1) (hM : M + 0 ≤ 1000000000)  : ∀ (fuel : Nat) (i : Nat) (q1 : Nat) (q2 : Nat) (u1 : Int64) (u2 : Int64) (τ : Mem), HK V (b, M, Z, T) [0, 1, 2, 3, 4, 5, 7, 8, 9, 10, 11, 12, 13, 14, 15, 16, 17, 18, 19] σ τ → kA b q1 = 6 ∧ kA b q2 = 6 ∧ i ≤ 200 → 200 - i < fuel → Wm V X 13 N τ 0 0 30 [(9, .int (nI i)), (3, .ref q1), (4, .ref q2), (5, .long u1), (7, .long u2)] [] := by
  intro fuel
  induction fuel with
  | zero => intro i q1 q2 u1 u2 τ h1 hi hm; exact absurd hm (Nat.not_lt_zero _)
  | succ fuel ih =>
    intro i q1 q2 u1 u2 τ h1 hi hm
    obtain ⟨kq1, kq2, hi⟩ := hi
    refine m_iload F rfl e_X9_leastTerm_30 ?_
    refine m_sipush F (v := 200) (by decide) e_X9_leastTerm_32 ?_
    refine m_icmp_ge F e_X9_leastTerm_35 (fun q35 => ?_) (fun q35 => ?_)
    · have c35 : i ≥ 200 := (nI_leI (a := 200) (b := i) (by omega) (by omega)).mp q35
      refine m_lload F rfl e_X9_leastTerm_84 ?_
      exact m_lret F hQ e_X9_leastTerm_86 (⟨h1, _, rfl⟩)
    · have c35 : i < 200 := by have hh := mt (nI_leI (a := 200) (b := i) (by omega) (by omega)).mpr q35; omega
      refine m_aload F rfl e_X9_leastTerm_38 ?_
      refine t_callV F e_X9_leastTerm_40 (s_X1_isZero (x_l X) V b M Z T _ _ q2  h1.1 kq2  (by omega)) cb_X1_isZero ml_X9_314 im_X1_isZero se_X1_isZero (fun _ => o6) h1 kq2 rfl rfl (rest := []) rfl (Nat.le_of_ble_eq_true rfl) ⟨Nat.le_of_ble_eq_true rfl, Nat.le_of_ble_eq_true rfl⟩ ⟨Nat.le_of_ble_eq_true rfl, Nat.le_of_ble_eq_true rfl⟩ (fun r σ2048 hp => ?_)
      obtain ⟨h2050, n2051, hn2051, rfl⟩ := hp
      have h2049 := HK.trans h1 h2050 (by decide)
      refine m_if_ne F e_X9_leastTerm_43 (fun q43 => ?_) (fun q43 => ?_)
      · have c43 : n2051 ≠ 0 := by have hh := mt (nI_eq (a := n2051) (b := 0) (by omega) (by omega)).mpr q43; omega
        refine m_lload F rfl e_X9_leastTerm_84 ?_
        exact m_lret F hQ e_X9_leastTerm_86 (⟨h2049, _, rfl⟩)
      · have c43 : n2051 = 0 := (nI_eq (a := n2051) (b := 0) (by omega) (by omega)).mp q43
        refine m_aload_n F rfl e_X9_leastTerm_46 ?_
        refine m_aload F rfl e_X9_leastTerm_47 ?_
        refine t_callV F e_X9_leastTerm_49 (s_X1_takeOut (x_l X) V b M Z T _ _ q1 q2 h2049.1 kq1 kq2 (by omega)) cb_X1_takeOut ml_X9_397 im_X1_takeOut se_X1_takeOut (fun _ => o6) h2049 kq1 rfl rfl (rest := []) rfl (Nat.le_of_ble_eq_true rfl) ⟨Nat.le_of_ble_eq_true rfl, Nat.le_of_ble_eq_true rfl⟩ ⟨Nat.le_of_ble_eq_true rfl, Nat.le_of_ble_eq_true rfl⟩ (fun r σ2052 hp => ?_)
        obtain ⟨h2054, x2055, rfl⟩ := hp
        have h2053 := HK.trans h2049 h2054 (by decide)
        refine m_lload F rfl e_X9_leastTerm_52 ?_
        refine m_lmul F e_X9_leastTerm_54 ?_
        refine Wm.topl (fun x2056 _ => ?_)
        refine m_lload F rfl e_X9_leastTerm_55 ?_
        refine m_ladd F e_X9_leastTerm_57 ?_
        refine Wm.topl (fun x2057 _ => ?_)
        refine m_lstore F (lv' := [(10, .long x2057), (9, .int (nI i)), (3, .ref q1), (4, .ref q2), (5, .long u1), (7, .long u2)]) e_X9_leastTerm_58 (by decide) rfl ?_
        refine m_lload F rfl e_X9_leastTerm_60 ?_
        refine m_lstore F (lv' := [(5, .long u2), (10, .long x2057), (9, .int (nI i)), (3, .ref q1), (4, .ref q2), (7, .long u2)]) e_X9_leastTerm_62 (by decide) rfl ?_
        refine m_lload F rfl e_X9_leastTerm_64 ?_
        refine m_lstore F (lv' := [(7, .long x2057), (5, .long u2), (10, .long x2057), (9, .int (nI i)), (3, .ref q1), (4, .ref q2)]) e_X9_leastTerm_66 (by decide) rfl ?_
        refine m_aload_n F rfl e_X9_leastTerm_68 ?_
        refine m_astore F (lv' := [(12, .ref q1), (7, .long x2057), (5, .long u2), (10, .long x2057), (9, .int (nI i)), (3, .ref q1), (4, .ref q2)]) e_X9_leastTerm_69 (by decide) rfl ?_
        refine m_aload F rfl e_X9_leastTerm_71 ?_
        refine m_astore_n F (lv' := [(3, .ref q2), (12, .ref q1), (7, .long x2057), (5, .long u2), (10, .long x2057), (9, .int (nI i)), (4, .ref q2)]) e_X9_leastTerm_73 (by decide) rfl ?_
        refine m_aload F rfl e_X9_leastTerm_74 ?_
        refine m_astore F (lv' := [(4, .ref q1), (3, .ref q2), (12, .ref q1), (7, .long x2057), (5, .long u2), (10, .long x2057), (9, .int (nI i))]) e_X9_leastTerm_76 (by decide) rfl ?_
        refine m_iinc F (v := nI (i + 1)) (lv' := [(9, .int (nI (i + 1))), (4, .ref q1), (3, .ref q2), (12, .ref q1), (7, .long x2057), (5, .long u2), (10, .long x2057)]) e_X9_leastTerm_78 rfl (nI_add i 1) (by decide) rfl ?_
        refine m_goto F e_X9_leastTerm_81 ?_
        refine Wm.lvsub (lv' := [(9, .int (nI (i + 1))), (3, .ref q2), (4, .ref q1), (5, .long u2), (7, .long x2057)]) ?_ [0, 2, 1, 5, 4] rfl
        exact ih (i + 1) q2 q1 u2 x2057 _ h2053 ⟨kq2, kq1, (by omega)⟩ (by omega)
set_option maxRecDepth 20000 in
theorem s_X9_leastTerm (l : Launch) (V : VX) (b M Z T N : Nat) (σ : Mem) (r901 : Nat) (r902 : Nat) (n903 : Nat) (h0 : HT V (b, M, Z, T) σ) (k901 : kA b r901 = 6) (k902 : kA b r902 = 6) (hn903 : n903 ≤ 1) (hM : M + 0 ≤ 1000000000) : Ct l V yX9_leastTerm cX9_leastTerm 13 (some .long) 1 0 0 N σ [.ref r901, .ref r902, .int (nI n903)] (fun r τ => HK V (b, M, Z, T) [0, 1, 2, 3, 4, 5, 7, 8, 9, 10, 11, 12, 13, 14, 15, 16, 17, 18, 19] σ τ ∧ ∃ x : Int64, r = some (.long x)) := by
  refine Ct.of (by decide) (Nat.le_of_ble_eq_true rfl) [(0, .ref r901), (1, .ref r902), (2, .int (nI n903))] rfl (fun X hX F hQ => ?_)
  have h1 : HK V (b, M, Z, T) [0, 1, 2, 3, 4, 5, 7, 8, 9, 10, 11, 12, 13, 14, 15, 16, 17, 18, 19] σ σ := HK.start h0
  refine m_aload_n F rfl e_X9_leastTerm_0 ?_
  refine m_astore_n F (lv' := [(3, .ref r901), (0, .ref r901), (1, .ref r902), (2, .int (nI n903))]) e_X9_leastTerm_1 (by decide) rfl ?_
  refine m_aload_n F rfl e_X9_leastTerm_2 ?_
  refine m_astore F (lv' := [(4, .ref r902), (3, .ref r901), (0, .ref r901), (1, .ref r902), (2, .int (nI n903))]) e_X9_leastTerm_3 (by decide) rfl ?_
  refine m_iload_n F rfl e_X9_leastTerm_5 ?_
  refine m_if_eq F e_X9_leastTerm_6 (fun q6 => ?_) (fun q6 => ?_)
  · have c6 : n903 = 0 := (nI_eq (a := n903) (b := 0) (by omega) (by omega)).mp q6
    refine m_lconst F (v := 0) (by decide) e_X9_leastTerm_13 ?_
    refine m_lstore F (lv' := [(5, .long 0), (4, .ref r902), (3, .ref r901), (0, .ref r901), (1, .ref r902), (2, .int (nI n903))]) e_X9_leastTerm_14 (by decide) rfl ?_
    refine m_iload_n F rfl e_X9_leastTerm_16 ?_
    refine m_if_eq F e_X9_leastTerm_17 (fun q17 => ?_) (fun q17 => ?_)
    · have c17 : n903 = 0 := (nI_eq (a := n903) (b := 0) (by omega) (by omega)).mp q17
      refine m_lconst F (v := 1) (by decide) e_X9_leastTerm_24 ?_
      refine m_lstore F (lv' := [(7, .long 1), (5, .long 0), (4, .ref r902), (3, .ref r901), (0, .ref r901), (1, .ref r902), (2, .int (nI n903))]) e_X9_leastTerm_25 (by decide) rfl ?_
      refine m_iconst F (v := 0) (by decide) e_X9_leastTerm_27 ?_
      refine m_istore F (lv' := [(9, .int 0), (7, .long 1), (5, .long 0), (4, .ref r902), (3, .ref r901), (0, .ref r901), (1, .ref r902), (2, .int (nI n903))]) e_X9_leastTerm_28 (by decide) rfl ?_
      refine Wm.lvsub (lv' := [(9, .int 0), (3, .ref r901), (4, .ref r902), (5, .long 0), (7, .long 1)]) ?_ [0, 4, 3, 2, 1] rfl
      exact lp_X9_leastTerm_30 F hQ k901 k902 hn903 hM (200 - 0 + 1) 0 r901 r902 0 1 _ h1 ⟨k901, k902, (by omega)⟩ (Nat.lt_succ_self _)
    · have c17 : n903 ≠ 0 := by have hh := mt (nI_eq (a := n903) (b := 0) (by omega) (by omega)).mpr q17; omega
      refine m_lconst F (v := 0) (by decide) e_X9_leastTerm_20 ?_
      refine m_goto F e_X9_leastTerm_21 ?_
      refine m_lstore F (lv' := [(7, .long 0), (5, .long 0), (4, .ref r902), (3, .ref r901), (0, .ref r901), (1, .ref r902), (2, .int (nI n903))]) e_X9_leastTerm_25 (by decide) rfl ?_
      refine m_iconst F (v := 0) (by decide) e_X9_leastTerm_27 ?_
      refine m_istore F (lv' := [(9, .int 0), (7, .long 0), (5, .long 0), (4, .ref r902), (3, .ref r901), (0, .ref r901), (1, .ref r902), (2, .int (nI n903))]) e_X9_leastTerm_28 (by decide) rfl ?_
      refine Wm.lvsub (lv' := [(9, .int 0), (3, .ref r901), (4, .ref r902), (5, .long 0), (7, .long 0)]) ?_ [0, 4, 3, 2, 1] rfl
      exact lp_X9_leastTerm_30 F hQ k901 k902 hn903 hM (200 - 0 + 1) 0 r901 r902 0 0 _ h1 ⟨k901, k902, (by omega)⟩ (Nat.lt_succ_self _)
  · have c6 : n903 ≠ 0 := by have hh := mt (nI_eq (a := n903) (b := 0) (by omega) (by omega)).mpr q6; omega
    refine m_lconst F (v := 1) (by decide) e_X9_leastTerm_9 ?_
    refine m_goto F e_X9_leastTerm_10 ?_
    refine m_lstore F (lv' := [(5, .long 1), (4, .ref r902), (3, .ref r901), (0, .ref r901), (1, .ref r902), (2, .int (nI n903))]) e_X9_leastTerm_14 (by decide) rfl ?_
    refine m_iload_n F rfl e_X9_leastTerm_16 ?_
    refine m_if_eq F e_X9_leastTerm_17 (fun q17 => ?_) (fun q17 => ?_)
    · have c17 : n903 = 0 := (nI_eq (a := n903) (b := 0) (by omega) (by omega)).mp q17
      refine m_lconst F (v := 1) (by decide) e_X9_leastTerm_24 ?_
      refine m_lstore F (lv' := [(7, .long 1), (5, .long 1), (4, .ref r902), (3, .ref r901), (0, .ref r901), (1, .ref r902), (2, .int (nI n903))]) e_X9_leastTerm_25 (by decide) rfl ?_
      refine m_iconst F (v := 0) (by decide) e_X9_leastTerm_27 ?_
      refine m_istore F (lv' := [(9, .int 0), (7, .long 1), (5, .long 1), (4, .ref r902), (3, .ref r901), (0, .ref r901), (1, .ref r902), (2, .int (nI n903))]) e_X9_leastTerm_28 (by decide) rfl ?_
      refine Wm.lvsub (lv' := [(9, .int 0), (3, .ref r901), (4, .ref r902), (5, .long 1), (7, .long 1)]) ?_ [0, 4, 3, 2, 1] rfl
      exact lp_X9_leastTerm_30 F hQ k901 k902 hn903 hM (200 - 0 + 1) 0 r901 r902 1 1 _ h1 ⟨k901, k902, (by omega)⟩ (Nat.lt_succ_self _)
    · have c17 : n903 ≠ 0 := by have hh := mt (nI_eq (a := n903) (b := 0) (by omega) (by omega)).mpr q17; omega
      refine m_lconst F (v := 0) (by decide) e_X9_leastTerm_20 ?_
      refine m_goto F e_X9_leastTerm_21 ?_
      refine m_lstore F (lv' := [(7, .long 0), (5, .long 1), (4, .ref r902), (3, .ref r901), (0, .ref r901), (1, .ref r902), (2, .int (nI n903))]) e_X9_leastTerm_25 (by decide) rfl ?_
      refine m_iconst F (v := 0) (by decide) e_X9_leastTerm_27 ?_
      refine m_istore F (lv' := [(9, .int 0), (7, .long 0), (5, .long 1), (4, .ref r902), (3, .ref r901), (0, .ref r901), (1, .ref r902), (2, .int (nI n903))]) e_X9_leastTerm_28 (by decide) rfl ?_
      refine Wm.lvsub (lv' := [(9, .int 0), (3, .ref r901), (4, .ref r902), (5, .long 1), (7, .long 0)]) ?_ [0, 4, 3, 2, 1] rfl
      exact lp_X9_leastTerm_30 F hQ k901 k902 hn903 hM (200 - 0 + 1) 0 r901 r902 1 0 _ h1 ⟨k901, k902, (by omega)⟩ (Nat.lt_succ_self _)
set_option maxRecDepth 20000 in
theorem s_X9_named (l : Launch) (V : VX) (b M Z T N : Nat) (σ : Mem) (a : Nat) (x901 : Int32) (h0 : HT V (b, M, Z, T) σ) (hk : kA b a = 1) (hM : M + 0 ≤ 1000000000) : Ct l V yX9_named cX9_named 2 (some .int) 1 0 0 N σ [.ref a, .int x901] (fun r τ => HK V (b, M, Z, T) [0, 1, 2, 3, 4, 5, 6, 7, 8, 9, 10, 11, 12, 13, 14, 15, 16, 17, 18, 19] σ τ ∧ ∃ x : Int32, r = some (.int x)) := by
  refine Ct.of (by decide) (Nat.le_of_ble_eq_true rfl) [(0, .ref a), (1, .int x901)] rfl (fun X hX F hQ => ?_)
  have h1 : HK V (b, M, Z, T) [0, 1, 2, 3, 4, 5, 6, 7, 8, 9, 10, 11, 12, 13, 14, 15, 16, 17, 18, 19] σ σ := HK.start h0
  refine m_aload_n F rfl e_X9_named_0 ?_
  refine t_get F e_X9_named_1 fl_X9_16 (fun _ => o1) h1 hk rfl (fun v hv f2058 => ?_)
  obtain ⟨r2059, k2060, rfl⟩ := hv
  refine m_iload_n F rfl e_X9_named_4 ?_
  refine t_callV F e_X9_named_5 (s_X2_leaseNamed (x_l X) V b M Z T _ _ r2059 x901 h1.1 k2060  (by omega)) cb_X2_leaseNamed ml_X9_90 im_X2_leaseNamed se_X2_leaseNamed (fun _ => o7) h1 k2060 rfl rfl (rest := []) rfl (Nat.le_of_ble_eq_true rfl) ⟨Nat.le_of_ble_eq_true rfl, Nat.le_of_ble_eq_true rfl⟩ ⟨Nat.le_of_ble_eq_true rfl, Nat.le_of_ble_eq_true rfl⟩ (fun r σ2061 hp => ?_)
  obtain ⟨h2063, c2064⟩ := hp
  have h2062 := HK.trans h1 h2063 (by decide)
  rcases c2064 with ⟨n2065, hn2065, rfl⟩ | rfl
  · exact m_iret F hQ e_X9_named_8 (⟨h2062, _, rfl⟩)
  · exact m_iret F hQ e_X9_named_8 (⟨h2062, _, rfl⟩)
set_option maxRecDepth 20000 in
theorem lp_X9_go_32 {V : VX} {X : MX} {b M Z T N : Nat} {σ : Mem} {a : Nat}   (F : Fx V X yX9_go cX9_go 3 (some .int) (rmd 6 0 0)) (hQ : Rt V X 0 0 N (fun r τ => HK V (b, M + 108, Z, T) [0, 2, 3, 4, 5, 8, 9, 16] σ τ ∧ ∃ x : Int32, r = some (.int x))) (hk : kA b a = 1) (hM : M + 108 ≤ 1000000000)  : ∀ (fuel : Nat) (i : Nat) (c : Nat) (τ : Mem), HK V (b, M + 9 * i, Z, T) [0, 2, 3, 4, 5, 8, 9, 16] σ τ → i ≤ 12 ∧ c ≤ 12 → 12 - i < fuel → Wm V X 3 N τ 0 0 32 [(2, .int (nI i)), (0, .ref a), (1, .int (nI c))] [] := by
  intro fuel
  induction fuel with
  | zero => intro i c τ h1 hi hm; exact absurd hm (Nat.not_lt_zero _)
  | succ fuel ih =>
    intro i c τ h1 hi hm
    refine m_iload_n F rfl e_X9_go_32 ?_
    refine m_iload_n F rfl e_X9_go_33 ?_
    refine m_icmp_ge F e_X9_go_34 (fun q34 => ?_) (fun q34 => ?_)
    · have c34 : i ≥ c := (nI_leI (a := c) (b := i) (by omega) (by omega)).mp q34
      refine m_aload_n F rfl e_X9_go_54 ?_
      refine t_get F e_X9_go_55 fl_X9_16 (fun _ => o1) h1 hk rfl (fun v hv f2066 => ?_)
      obtain ⟨r2067, k2068, rfl⟩ := hv
      refine t_get F e_X9_go_58 fl_X9_94 (fun _ => o7) h1 k2068 rfl (fun v hv f2069 => ?_)
      obtain ⟨n2070, hn2070, rfl⟩ := hv
      replace hn2070 : n2070 ≤ M + 9 * i := hn2070
      exact m_iret F hQ e_X9_go_61 (⟨(h1.mono (M' := M + 108) (Z' := Z) (by omega) (by intro e; first | rfl | assumption | omega)), _, rfl⟩)
    · have c34 : i < c := by have hh := mt (nI_leI (a := c) (b := i) (by omega) (by omega)).mpr q34; omega
      refine m_aload_n F rfl e_X9_go_37 ?_
      refine t_callV F e_X9_go_38 (s_X9_remember (x_l X) V b (M + 9 * i) Z T _ _ a  h1.1 hk  (by omega)) cb_X9_remember ml_X9_97 im_X9_remember se_X9_remember (fun _ => o1) h1 hk rfl rfl (rest := []) rfl (Nat.le_of_ble_eq_true rfl) ⟨Nat.le_of_ble_eq_true rfl, Nat.le_of_ble_eq_true rfl⟩ ⟨Nat.le_of_ble_eq_true rfl, Nat.le_of_ble_eq_true rfl⟩ (fun r σ2071 hp => ?_)
      obtain ⟨h2073, rfl⟩ := hp
      have h2072 := HK.trans h1 h2073 (by decide)
      refine m_aload_n F rfl e_X9_go_41 ?_
      refine t_get F e_X9_go_42 fl_X9_16 (fun _ => o1) h2072 hk rfl (fun v hv f2074 => ?_)
      obtain ⟨r2075, k2076, rfl⟩ := hv
      refine t_callV F e_X9_go_45 (s_X2_periodGoesBy (x_l X) V b (M + 9 * i) Z T _ _ r2075  h2072.1 k2076  (by omega)) cb_X2_periodGoesBy ml_X9_100 im_X2_periodGoesBy se_X2_periodGoesBy (fun _ => o7) h2072 k2076 rfl rfl (rest := []) rfl (Nat.le_of_ble_eq_true rfl) ⟨Nat.le_of_ble_eq_true rfl, Nat.le_of_ble_eq_true rfl⟩ ⟨Nat.le_of_ble_eq_true rfl, Nat.le_of_ble_eq_true rfl⟩ (fun r σ2077 hp => ?_)
      obtain ⟨h2079, rfl⟩ := hp
      have h2078 := HK.trans h2072 h2079 (by decide)
      refine m_iinc F (v := nI (i + 1)) (lv' := [(2, .int (nI (i + 1))), (0, .ref a), (1, .int (nI c))]) e_X9_go_48 rfl (nI_add i 1) (by decide) rfl ?_
      refine m_goto F e_X9_go_51 ?_
      exact ih (i + 1) c _ (h2078.mono (M' := M + 9 * (i + 1)) (Z' := Z) (by omega) (by intro e9; first | exact e9 | rfl)) (by omega) (by omega)
set_option maxRecDepth 20000 in
theorem s_X9_go (l : Launch) (V : VX) (b M Z T N : Nat) (σ : Mem) (a : Nat) (x901 : Int32) (h0 : HT V (b, M, Z, T) σ) (hk : kA b a = 1) (hM : M + 108 ≤ 1000000000) : Ct l V yX9_go cX9_go 3 (some .int) 6 0 0 N σ [.ref a, .int x901] (fun r τ => HK V (b, M + 108, Z, T) [0, 2, 3, 4, 5, 8, 9, 16] σ τ ∧ ∃ x : Int32, r = some (.int x)) := by
  refine Ct.of (by decide) (Nat.le_of_ble_eq_true rfl) [(0, .ref a), (1, .int x901)] rfl (fun X hX F hQ => ?_)
  have h1 : HK V (b, M, Z, T) [0, 2, 3, 4, 5, 8, 9, 16] σ σ := HK.start h0
  refine m_iload_n F rfl e_X9_go_0 ?_
  refine m_iconst F (v := 1) (by decide) e_X9_go_1 ?_
  refine m_icmp_lt F e_X9_go_2 (fun q2 => ?_) (fun q2 => ?_)
  · refine m_iconst F (v := (-1)) (by decide) e_X9_go_11 ?_
    exact m_iret F hQ e_X9_go_12 (⟨(h1.mono (M' := M + 108) (Z' := Z) (by omega) (by intro e; first | rfl | assumption | omega)), _, rfl⟩)
  · obtain ⟨n2080, hn2080, rfl⟩ := nI_nn (x := x901) (fun e => q2 (Int32.lt_of_lt_of_le e (by decide)))
    have c2 : n2080 ≥ 1 := by have hh := mt (nI_ltI (a := n2080) (b := 1) (by omega) (by omega)).mpr q2; omega
    refine m_iload_n F rfl e_X9_go_5 ?_
    refine m_bipush F (v := 12) (by decide) e_X9_go_6 ?_
    refine m_icmp_le F e_X9_go_8 (fun q8 => ?_) (fun q8 => ?_)
    · have c8 : n2080 ≤ 12 := (nI_leI (a := n2080) (b := 12) (by omega) (by omega)).mp q8
      refine m_aload_n F rfl e_X9_go_13 ?_
      refine t_get F e_X9_go_14 fl_X9_16 (fun _ => o1) h1 hk rfl (fun v hv f2081 => ?_)
      obtain ⟨r2082, k2083, rfl⟩ := hv
      refine t_get F e_X9_go_17 fl_X9_94 (fun _ => o7) h1 k2083 rfl (fun v hv f2084 => ?_)
      obtain ⟨n2085, hn2085, rfl⟩ := hv
      replace hn2085 : n2085 ≤ M := hn2085
      refine m_iload_n F rfl e_X9_go_20 ?_
      refine m_iadd F e_X9_go_21 ?_
      refine Wm.topE (w := nI (n2085 + n2080)) (nI_add n2085 n2080) ?_
      refine m_bipush F (v := 99) (by decide) e_X9_go_22 ?_
      refine m_icmp_le F e_X9_go_24 (fun q24 => ?_) (fun q24 => ?_)
      · have c24 : (n2085 + n2080) ≤ 99 := (nI_leI (a := (n2085 + n2080)) (b := 99) (by omega) (by omega)).mp q24
        refine m_iconst F (v := 0) (by decide) e_X9_go_30 ?_
        refine m_istore_n F (lv' := [(2, .int 0), (0, .ref a), (1, .int (nI n2080))]) e_X9_go_31 (by decide) rfl ?_
        exact lp_X9_go_32 F hQ hk hM (12 - 0 + 1) 0 n2080 _ (h1.mono (M' := M + 9 * 0) (Z' := Z) (by omega) (by intro e9; first | exact e9 | rfl)) (by omega) (Nat.lt_succ_self _)
      · have c24 : (n2085 + n2080) > 99 := by have hh := mt (nI_leI (a := (n2085 + n2080)) (b := 99) (by omega) (by omega)).mpr q24; omega
        refine m_bipush F (v := (-2)) (by decide) e_X9_go_27 ?_
        exact m_iret F hQ e_X9_go_29 (⟨(h1.mono (M' := M + 108) (Z' := Z) (by omega) (by intro e; first | rfl | assumption | omega)), _, rfl⟩)
    · have c8 : n2080 > 12 := by have hh := mt (nI_leI (a := n2080) (b := 12) (by omega) (by omega)).mpr q8; omega
      refine m_iconst F (v := (-1)) (by decide) e_X9_go_11 ?_
      exact m_iret F hQ e_X9_go_12 (⟨(h1.mono (M' := M + 108) (Z' := Z) (by omega) (by intro e; first | rfl | assumption | omega)), _, rfl⟩)
set_option maxRecDepth 20000 in
theorem s_X9_amount (l : Launch) (V : VX) (b M Z T N : Nat) (σ : Mem) (a : Nat) (x901 : Int32) (x902 : Int32) (h0 : HT V (b, M, Z, T) σ) (hk : kA b a = 1) (hM : M + 0 ≤ 1000000000) : Ct l V yX9_amount cX9_amount 4 (some .long) 1 0 0 N σ [.ref a, .int x901, .int x902] (fun r τ => HK V (b, M, Z, T) [0, 1, 2, 3, 4, 5, 6, 7, 8, 9, 10, 11, 12, 13, 14, 15, 16, 17, 18, 19] σ τ ∧ ∃ x : Int64, r = some (.long x)) := by
  refine Ct.of (by decide) (Nat.le_of_ble_eq_true rfl) [(0, .ref a), (1, .int x901), (2, .int x902)] rfl (fun X hX F hQ => ?_)
  have h1 : HK V (b, M, Z, T) [0, 1, 2, 3, 4, 5, 6, 7, 8, 9, 10, 11, 12, 13, 14, 15, 16, 17, 18, 19] σ σ := HK.start h0
  refine m_aload_n F rfl e_X9_amount_0 ?_
  refine m_iload_n F rfl e_X9_amount_1 ?_
  refine t_callV F e_X9_amount_2 (s_X9_leaseAt (x_l X) V b M Z T _ _ a x901 h1.1 hk  (by omega)) cb_X9_leaseAt ml_X9_103 im_X9_leaseAt se_X9_leaseAt (fun _ => o1) h1 hk rfl rfl (rest := []) rfl (Nat.le_of_ble_eq_true rfl) ⟨Nat.le_of_ble_eq_true rfl, Nat.le_of_ble_eq_true rfl⟩ ⟨Nat.le_of_ble_eq_true rfl, Nat.le_of_ble_eq_true rfl⟩ (fun r σ2086 hp => ?_)
  obtain ⟨h2088, c2089⟩ := hp
  have h2087 := HK.trans h1 h2088 (by decide)
  rcases c2089 with rfl | ⟨n2090, r2091, hn2090, en2090, k2092, rfl⟩
  · refine m_astore_nN F (lv' := [(3, .null), (0, .ref a), (1, .int x901), (2, .int x902)]) e_X9_amount_5 (by decide) rfl ?_
    refine m_aload_nN F rfl e_X9_amount_6 ?_
    refine m_ifnullN F e_X9_amount_7 ?_
    refine m_ldc2 F kc_X9_149 e_X9_amount_19 ?_
    exact m_lret F hQ e_X9_amount_22 (⟨h2087, _, rfl⟩)
  · subst en2090
    refine m_astore_n F (lv' := [(3, .ref r2091), (0, .ref a), (1, .int (nI n2090)), (2, .int x902)]) e_X9_amount_5 (by decide) rfl ?_
    refine m_aload_n F rfl e_X9_amount_6 ?_
    refine m_ifnullR F e_X9_amount_7 ?_
    refine m_iload_n F rfl e_X9_amount_10 ?_
    refine m_if_lt F e_X9_amount_11 (fun q11 => ?_) (fun q11 => ?_)
    · refine m_ldc2 F kc_X9_149 e_X9_amount_19 ?_
      exact m_lret F hQ e_X9_amount_22 (⟨h2087, _, rfl⟩)
    · obtain ⟨n2093, hn2093, rfl⟩ := nI_nn (x := x902) (fun e => q11 (Int32.lt_of_lt_of_le e (by decide)))
      have c11 : n2093 ≥ 0 := by have hh := mt (nI_ltI (a := n2093) (b := 0) (by omega) (by omega)).mpr q11; omega
      refine m_iload_n F rfl e_X9_amount_14 ?_
      refine m_iconst F (v := 1) (by decide) e_X9_amount_15 ?_
      refine m_icmp_le F e_X9_amount_16 (fun q16 => ?_) (fun q16 => ?_)
      · have c16 : n2093 ≤ 1 := (nI_leI (a := n2093) (b := 1) (by omega) (by omega)).mp q16
        refine m_iload_n F rfl e_X9_amount_23 ?_
        refine m_if_ne F e_X9_amount_24 (fun q24 => ?_) (fun q24 => ?_)
        · have c24 : n2093 ≠ 0 := by have hh := mt (nI_eq (a := n2093) (b := 0) (by omega) (by omega)).mpr q24; omega
          refine m_aload_n F rfl e_X9_amount_34 ?_
          refine t_get F e_X9_amount_35 fl_X9_154 (fun _ => o15) h2087 k2092 rfl (fun v hv f2094 => ?_)
          obtain ⟨r2095, k2096, rfl⟩ := hv
          refine t_callV F e_X9_amount_38 (s_X1_asLong (x_l X) V b M Z T _ _ r2095  h2087.1 k2096  (by omega)) cb_X1_asLong ml_X9_157 im_X1_asLong se_X1_asLong (fun _ => o6) h2087 k2096 rfl rfl (rest := []) rfl (Nat.le_of_ble_eq_true rfl) ⟨Nat.le_of_ble_eq_true rfl, Nat.le_of_ble_eq_true rfl⟩ ⟨Nat.le_of_ble_eq_true rfl, Nat.le_of_ble_eq_true rfl⟩ (fun r σ2097 hp => ?_)
          obtain ⟨h2099, x2100, rfl⟩ := hp
          have h2098 := HK.trans h2087 h2099 (by decide)
          exact m_lret F hQ e_X9_amount_41 (⟨h2098, _, rfl⟩)
        · have c24 : n2093 = 0 := (nI_eq (a := n2093) (b := 0) (by omega) (by omega)).mp q24
          refine m_aload_n F rfl e_X9_amount_27 ?_
          refine t_get F e_X9_amount_28 fl_X9_151 (fun _ => o15) h2087 k2092 rfl (fun v hv f2101 => ?_)
          obtain ⟨r2102, k2103, rfl⟩ := hv
          refine m_goto F e_X9_amount_31 ?_
          refine t_callV F e_X9_amount_38 (s_X1_asLong (x_l X) V b M Z T _ _ r2102  h2087.1 k2103  (by omega)) cb_X1_asLong ml_X9_157 im_X1_asLong se_X1_asLong (fun _ => o6) h2087 k2103 rfl rfl (rest := []) rfl (Nat.le_of_ble_eq_true rfl) ⟨Nat.le_of_ble_eq_true rfl, Nat.le_of_ble_eq_true rfl⟩ ⟨Nat.le_of_ble_eq_true rfl, Nat.le_of_ble_eq_true rfl⟩ (fun r σ2104 hp => ?_)
          obtain ⟨h2106, x2107, rfl⟩ := hp
          have h2105 := HK.trans h2087 h2106 (by decide)
          exact m_lret F hQ e_X9_amount_41 (⟨h2105, _, rfl⟩)
      · have c16 : n2093 > 1 := by have hh := mt (nI_leI (a := n2093) (b := 1) (by omega) (by omega)).mpr q16; omega
        refine m_ldc2 F kc_X9_149 e_X9_amount_19 ?_
        exact m_lret F hQ e_X9_amount_22 (⟨h2087, _, rfl⟩)
set_option maxRecDepth 20000 in
theorem s_X9_due (l : Launch) (V : VX) (b M Z T N : Nat) (σ : Mem) (a : Nat) (x901 : Int32) (x902 : Int32) (h0 : HT V (b, M, Z, T) σ) (hk : kA b a = 1) (hM : M + 0 ≤ 1000000000) : Ct l V yX9_due cX9_due 4 (some .long) 1 0 0 N σ [.ref a, .int x901, .int x902] (fun r τ => HK V (b, M, Z, T) [0, 1, 2, 3, 4, 5, 7, 8, 9, 10, 11, 12, 13, 14, 15, 16, 17, 18, 19] σ τ ∧ ∃ x : Int64, r = some (.long x)) := by
  refine Ct.of (by decide) (Nat.le_of_ble_eq_true rfl) [(0, .ref a), (1, .int x901), (2, .int x902)] rfl (fun X hX F hQ => ?_)
  have h1 : HK V (b, M, Z, T) [0, 1, 2, 3, 4, 5, 7, 8, 9, 10, 11, 12, 13, 14, 15, 16, 17, 18, 19] σ σ := HK.start h0
  refine m_aload_n F rfl e_X9_due_0 ?_
  refine m_iload_n F rfl e_X9_due_1 ?_
  refine t_callV F e_X9_due_2 (s_X9_leaseAt (x_l X) V b M Z T _ _ a x901 h1.1 hk  (by omega)) cb_X9_leaseAt ml_X9_103 im_X9_leaseAt se_X9_leaseAt (fun _ => o1) h1 hk rfl rfl (rest := []) rfl (Nat.le_of_ble_eq_true rfl) ⟨Nat.le_of_ble_eq_true rfl, Nat.le_of_ble_eq_true rfl⟩ ⟨Nat.le_of_ble_eq_true rfl, Nat.le_of_ble_eq_true rfl⟩ (fun r σ2108 hp => ?_)
  obtain ⟨h2110, c2111⟩ := hp
  have h2109 := HK.trans h1 h2110 (by decide)
  rcases c2111 with rfl | ⟨n2112, r2113, hn2112, en2112, k2114, rfl⟩
  · refine m_astore_nN F (lv' := [(3, .null), (0, .ref a), (1, .int x901), (2, .int x902)]) e_X9_due_5 (by decide) rfl ?_
    refine m_aload_nN F rfl e_X9_due_6 ?_
    refine m_ifnullN F e_X9_due_7 ?_
    refine m_ldc2 F kc_X9_149 e_X9_due_18 ?_
    exact m_lret F hQ e_X9_due_21 (⟨h2109, _, rfl⟩)
  · subst en2112
    refine m_astore_n F (lv' := [(3, .ref r2113), (0, .ref a), (1, .int (nI n2112)), (2, .int x902)]) e_X9_due_5 (by decide) rfl ?_
    refine m_aload_n F rfl e_X9_due_6 ?_
    refine m_ifnullR F e_X9_due_7 ?_
    refine m_aload_n F rfl e_X9_due_10 ?_
    refine m_iload_n F rfl e_X9_due_11 ?_
    refine t_callV F e_X9_due_12 (s_X5_owns (x_l X) V b M Z T _ _ r2113 x902 h2109.1 k2114  (by omega)) cb_X5_owns ml_X9_161 im_X5_owns se_X5_owns (fun _ => o15) h2109 k2114 rfl rfl (rest := []) rfl (Nat.le_of_ble_eq_true rfl) ⟨Nat.le_of_ble_eq_true rfl, Nat.le_of_ble_eq_true rfl⟩ ⟨Nat.le_of_ble_eq_true rfl, Nat.le_of_ble_eq_true rfl⟩ (fun r σ2115 hp => ?_)
    obtain ⟨h2117, n2118, hn2118, rfl⟩ := hp
    have h2116 := HK.trans h2109 h2117 (by decide)
    refine m_if_ne F e_X9_due_15 (fun q15 => ?_) (fun q15 => ?_)
    · have c15 : n2118 ≠ 0 := by have hh := mt (nI_eq (a := n2118) (b := 0) (by omega) (by omega)).mpr q15; omega
      refine m_aload_n F rfl e_X9_due_22 ?_
      refine t_get F e_X9_due_23 fl_X9_165 (fun _ => o15) h2116 k2114 rfl (fun v hv f2119 => ?_)
      obtain ⟨r2120, k2121, rfl⟩ := hv
      refine m_iload_n F rfl e_X9_due_26 ?_
      refine m_iconst F (v := 1) (by decide) e_X9_due_27 ?_
      refine m_isub F e_X9_due_28 ?_
      refine Wm.top (fun x2122 _ => ?_)
      refine m_aload_n F rfl e_X9_due_29 ?_
      refine t_get F e_X9_due_30 fl_X9_42 (fun _ => o1) h2116 hk rfl (fun v hv f2123 => ?_)
      obtain ⟨r2124, k2125, rfl⟩ := hv
      refine t_callV F e_X9_due_33 (s_X8_copyTo (x_l X) V b M Z T _ _ r2120 x2122 r2124 h2116.1 k2121 k2125 (by omega)) cb_X8_copyTo ml_X9_169 im_X8_copyTo se_X8_copyTo (fun _ => o16) h2116 k2121 rfl rfl (rest := []) rfl (Nat.le_of_ble_eq_true rfl) ⟨Nat.le_of_ble_eq_true rfl, Nat.le_of_ble_eq_true rfl⟩ ⟨Nat.le_of_ble_eq_true rfl, Nat.le_of_ble_eq_true rfl⟩ (fun r σ2126 hp => ?_)
      obtain ⟨h2128, rfl⟩ := hp
      have h2127 := HK.trans h2116 h2128 (by decide)
      refine m_aload_n F rfl e_X9_due_36 ?_
      refine t_getC F e_X9_due_37 fl_X9_42 (fun _ => o1) h2127 hk ((fld_eq (h2128.2 a (by rw [show kA _ a = 1 from hk]; decide))).trans f2123) ?_
      refine t_callV F e_X9_due_40 (s_X1_asLong (x_l X) V b M Z T _ _ r2124  h2127.1 k2125  (by omega)) cb_X1_asLong ml_X9_157 im_X1_asLong se_X1_asLong (fun _ => o6) h2127 k2125 rfl rfl (rest := []) rfl (Nat.le_of_ble_eq_true rfl) ⟨Nat.le_of_ble_eq_true rfl, Nat.le_of_ble_eq_true rfl⟩ ⟨Nat.le_of_ble_eq_true rfl, Nat.le_of_ble_eq_true rfl⟩ (fun r σ2129 hp => ?_)
      obtain ⟨h2131, x2132, rfl⟩ := hp
      have h2130 := HK.trans h2127 h2131 (by decide)
      exact m_lret F hQ e_X9_due_43 (⟨h2130, _, rfl⟩)
    · have c15 : n2118 = 0 := (nI_eq (a := n2118) (b := 0) (by omega) (by omega)).mp q15
      refine m_ldc2 F kc_X9_149 e_X9_due_18 ?_
      exact m_lret F hQ e_X9_due_21 (⟨h2116, _, rfl⟩)
set_option maxRecDepth 20000 in
theorem s_X9_worth (l : Launch) (V : VX) (b M Z T N : Nat) (σ : Mem) (a : Nat) (x901 : Int32) (x902 : Int32) (x903 : Int32) (h0 : HT V (b, M, Z, T) σ) (hk : kA b a = 1) (hM : M + 0 ≤ 1000000000) : Ct l V yX9_worth cX9_worth 5 (some .long) 3 0 0 N σ [.ref a, .int x901, .int x902, .int x903] (fun r τ => HK V (b, M, Z, T) [0, 1, 2, 3, 4, 5, 7, 8, 9, 10, 11, 12, 13, 14, 15, 16, 17, 18, 19] σ τ ∧ ∃ x : Int64, r = some (.long x)) := by
  refine Ct.of (by decide) (Nat.le_of_ble_eq_true rfl) [(0, .ref a), (1, .int x901), (2, .int x902), (3, .int x903)] rfl (fun X hX F hQ => ?_)
  have h1 : HK V (b, M, Z, T) [0, 1, 2, 3, 4, 5, 7, 8, 9, 10, 11, 12, 13, 14, 15, 16, 17, 18, 19] σ σ := HK.start h0
  refine m_aload_n F rfl e_X9_worth_0 ?_
  refine m_iload_n F rfl e_X9_worth_1 ?_
  refine t_callV F e_X9_worth_2 (s_X9_leaseAt (x_l X) V b M Z T _ _ a x901 h1.1 hk  (by omega)) cb_X9_leaseAt ml_X9_103 im_X9_leaseAt se_X9_leaseAt (fun _ => o1) h1 hk rfl rfl (rest := []) rfl (Nat.le_of_ble_eq_true rfl) ⟨Nat.le_of_ble_eq_true rfl, Nat.le_of_ble_eq_true rfl⟩ ⟨Nat.le_of_ble_eq_true rfl, Nat.le_of_ble_eq_true rfl⟩ (fun r σ2133 hp => ?_)
  obtain ⟨h2135, c2136⟩ := hp
  have h2134 := HK.trans h1 h2135 (by decide)
  rcases c2136 with rfl | ⟨n2137, r2138, hn2137, en2137, k2139, rfl⟩
  · refine m_astoreN F (lv' := [(4, .null), (0, .ref a), (1, .int x901), (2, .int x902), (3, .int x903)]) e_X9_worth_5 (by decide) rfl ?_
    refine m_aloadN F rfl e_X9_worth_7 ?_
    refine m_ifnullN F e_X9_worth_9 ?_
    refine m_ldc2 F kc_X9_149 e_X9_worth_31 ?_
    exact m_lret F hQ e_X9_worth_34 (⟨h2134, _, rfl⟩)
  · subst en2137
    refine m_astore F (lv' := [(4, .ref r2138), (0, .ref a), (1, .int (nI n2137)), (2, .int x902), (3, .int x903)]) e_X9_worth_5 (by decide) rfl ?_
    refine m_aload F rfl e_X9_worth_7 ?_
    refine m_ifnullR F e_X9_worth_9 ?_
    refine m_aload F rfl e_X9_worth_12 ?_
    refine m_iload_n F rfl e_X9_worth_14 ?_
    refine t_callV F e_X9_worth_15 (s_X5_owns (x_l X) V b M Z T _ _ r2138 x902 h2134.1 k2139  (by omega)) cb_X5_owns ml_X9_161 im_X5_owns se_X5_owns (fun _ => o15) h2134 k2139 rfl rfl (rest := []) rfl (Nat.le_of_ble_eq_true rfl) ⟨Nat.le_of_ble_eq_true rfl, Nat.le_of_ble_eq_true rfl⟩ ⟨Nat.le_of_ble_eq_true rfl, Nat.le_of_ble_eq_true rfl⟩ (fun r σ2140 hp => ?_)
    obtain ⟨h2142, n2143, hn2143, rfl⟩ := hp
    have h2141 := HK.trans h2134 h2142 (by decide)
    refine m_if_eq F e_X9_worth_18 (fun q18 => ?_) (fun q18 => ?_)
    · have c18 : n2143 = 0 := (nI_eq (a := n2143) (b := 0) (by omega) (by omega)).mp q18
      refine m_ldc2 F kc_X9_149 e_X9_worth_31 ?_
      exact m_lret F hQ e_X9_worth_34 (⟨h2141, _, rfl⟩)
    · have c18 : n2143 ≠ 0 := by have hh := mt (nI_eq (a := n2143) (b := 0) (by omega) (by omega)).mpr q18; omega
      refine m_iload_n F rfl e_X9_worth_21 ?_
      refine m_if_lt F e_X9_worth_22 (fun q22 => ?_) (fun q22 => ?_)
      · refine m_ldc2 F kc_X9_149 e_X9_worth_31 ?_
        exact m_lret F hQ e_X9_worth_34 (⟨h2141, _, rfl⟩)
      · obtain ⟨n2144, hn2144, rfl⟩ := nI_nn (x := x903) (fun e => q22 (Int32.lt_of_lt_of_le e (by decide)))
        have c22 : n2144 ≥ 0 := by have hh := mt (nI_ltI (a := n2144) (b := 0) (by omega) (by omega)).mpr q22; omega
        refine m_iload_n F rfl e_X9_worth_25 ?_
        refine m_ldc F kc_X9_175 e_X9_worth_26 ?_
        refine m_icmp_le F e_X9_worth_28 (fun q28 => ?_) (fun q28 => ?_)
        · have c28 : n2144 ≤ 1000000 := (nI_leI (a := n2144) (b := 1000000) (by omega) (by omega)).mp q28
          refine m_aload F rfl e_X9_worth_35 ?_
          refine m_iload_n F rfl e_X9_worth_37 ?_
          refine m_iconst F (v := 1) (by decide) e_X9_worth_38 ?_
          refine m_isub F e_X9_worth_39 ?_
          refine Wm.top (fun x2145 _ => ?_)
          refine m_iload_n F rfl e_X9_worth_40 ?_
          refine m_aload_n F rfl e_X9_worth_41 ?_
          refine t_get F e_X9_worth_42 fl_X9_42 (fun _ => o1) h2141 hk rfl (fun v hv f2146 => ?_)
          obtain ⟨r2147, k2148, rfl⟩ := hv
          refine t_callV F e_X9_worth_45 (s_X5_worthFrom (x_l X) V b M Z T _ _ r2138 x2145 (nI n2144) r2147 h2141.1 k2139 k2148 (by omega)) cb_X5_worthFrom ml_X9_176 im_X5_worthFrom se_X5_worthFrom (fun _ => o15) h2141 k2139 rfl rfl (rest := []) rfl (Nat.le_of_ble_eq_true rfl) ⟨Nat.le_of_ble_eq_true rfl, Nat.le_of_ble_eq_true rfl⟩ ⟨Nat.le_of_ble_eq_true rfl, Nat.le_of_ble_eq_true rfl⟩ (fun r σ2149 hp => ?_)
          obtain ⟨h2151, rfl⟩ := hp
          have h2150 := HK.trans h2141 h2151 (by decide)
          refine m_aload_n F rfl e_X9_worth_48 ?_
          refine t_getC F e_X9_worth_49 fl_X9_42 (fun _ => o1) h2150 hk ((fld_eq (h2151.2 a (by rw [show kA _ a = 1 from hk]; decide))).trans f2146) ?_
          refine t_callV F e_X9_worth_52 (s_X1_asLong (x_l X) V b M Z T _ _ r2147  h2150.1 k2148  (by omega)) cb_X1_asLong ml_X9_157 im_X1_asLong se_X1_asLong (fun _ => o6) h2150 k2148 rfl rfl (rest := []) rfl (Nat.le_of_ble_eq_true rfl) ⟨Nat.le_of_ble_eq_true rfl, Nat.le_of_ble_eq_true rfl⟩ ⟨Nat.le_of_ble_eq_true rfl, Nat.le_of_ble_eq_true rfl⟩ (fun r σ2152 hp => ?_)
          obtain ⟨h2154, x2155, rfl⟩ := hp
          have h2153 := HK.trans h2150 h2154 (by decide)
          exact m_lret F hQ e_X9_worth_55 (⟨h2153, _, rfl⟩)
        · have c28 : n2144 > 1000000 := by have hh := mt (nI_leI (a := n2144) (b := 1000000) (by omega) (by omega)).mpr q28; omega
          refine m_ldc2 F kc_X9_149 e_X9_worth_31 ?_
          exact m_lret F hQ e_X9_worth_34 (⟨h2141, _, rfl⟩)
set_option maxRecDepth 20000 in
theorem s_X9_index (l : Launch) (V : VX) (b M Z T N : Nat) (σ : Mem) (a : Nat) (x901 : Int32) (h0 : HT V (b, M, Z, T) σ) (hk : kA b a = 1) (hM : M + 0 ≤ 1000000000) : Ct l V yX9_index cX9_index 2 (some .int) 0 0 0 N σ [.ref a, .int x901] (fun r τ => HK V (b, M, Z, T) [0, 1, 2, 3, 4, 5, 6, 7, 8, 9, 10, 11, 12, 13, 14, 15, 16, 17, 18, 19] σ τ ∧ ∃ x : Int32, r = some (.int x)) := by
  refine Ct.of (by decide) (Nat.le_of_ble_eq_true rfl) [(0, .ref a), (1, .int x901)] rfl (fun X hX F hQ => ?_)
  have h1 : HK V (b, M, Z, T) [0, 1, 2, 3, 4, 5, 6, 7, 8, 9, 10, 11, 12, 13, 14, 15, 16, 17, 18, 19] σ σ := HK.start h0
  refine m_iload_n F rfl e_X9_index_0 ?_
  refine m_if_lt F e_X9_index_1 (fun q1 => ?_) (fun q1 => ?_)
  · refine m_iconst F (v := (-1)) (by decide) e_X9_index_10 ?_
    exact m_iret F hQ e_X9_index_11 (⟨h1, _, rfl⟩)
  · obtain ⟨n2156, hn2156, rfl⟩ := nI_nn (x := x901) (fun e => q1 (Int32.lt_of_lt_of_le e (by decide)))
    have c1 : n2156 ≥ 0 := by have hh := mt (nI_ltI (a := n2156) (b := 0) (by omega) (by omega)).mpr q1; omega
    refine m_iload_n F rfl e_X9_index_4 ?_
    refine m_bipush F (v := 99) (by decide) e_X9_index_5 ?_
    refine m_icmp_le F e_X9_index_7 (fun q7 => ?_) (fun q7 => ?_)
    · have c7 : n2156 ≤ 99 := (nI_leI (a := n2156) (b := 99) (by omega) (by omega)).mp q7
      refine m_aload_n F rfl e_X9_index_12 ?_
      refine t_get F e_X9_index_13 fl_X9_16 (fun _ => o1) h1 hk rfl (fun v hv f2157 => ?_)
      obtain ⟨r2158, k2159, rfl⟩ := hv
      refine t_get F e_X9_index_16 fl_X9_180 (fun _ => o7) h1 k2159 rfl (fun v hv f2160 => ?_)
      obtain rfl : v = .ref (r2158 + 3) := hv
      refine m_iload_n F rfl e_X9_index_19 ?_
      refine t_iald F (len := 100) (j := n2156) e_X9_index_20 (fun _ => o10) h1 (kA_7 k2159 (r := 3) (by decide)) (nI_clamp (by omega)) (vp_in_nI (by omega) (by decide)) (fun x2161 => ?_)
      exact m_iret F hQ e_X9_index_21 (⟨h1, _, rfl⟩)
    · have c7 : n2156 > 99 := by have hh := mt (nI_leI (a := n2156) (b := 99) (by omega) (by omega)).mpr q7; omega
      refine m_iconst F (v := (-1)) (by decide) e_X9_index_10 ?_
      exact m_iret F hQ e_X9_index_11 (⟨h1, _, rfl⟩)
set_option maxRecDepth 20000 in
theorem s_X9_account (l : Launch) (V : VX) (b M Z T N : Nat) (σ : Mem) (a : Nat) (x901 : Int32) (h0 : HT V (b, M, Z, T) σ) (hk : kA b a = 1) (hM : M + 0 ≤ 1000000000) : Ct l V yX9_account cX9_account 2 (some .long) 0 0 0 N σ [.ref a, .int x901] (fun r τ => HK V (b, M, Z, T) [0, 1, 2, 3, 4, 5, 6, 7, 8, 9, 10, 11, 12, 13, 14, 15, 16, 17, 18, 19] σ τ ∧ ∃ x : Int64, r = some (.long x)) := by
  refine Ct.of (by decide) (Nat.le_of_ble_eq_true rfl) [(0, .ref a), (1, .int x901)] rfl (fun X hX F hQ => ?_)
  have h1 : HK V (b, M, Z, T) [0, 1, 2, 3, 4, 5, 6, 7, 8, 9, 10, 11, 12, 13, 14, 15, 16, 17, 18, 19] σ σ := HK.start h0
  refine m_iload_n F rfl e_X9_account_0 ?_
  refine m_if_lt F e_X9_account_1 (fun q1 => ?_) (fun q1 => ?_)
  · refine m_ldc2 F kc_X9_184 e_X9_account_10 ?_
    exact m_lret F hQ e_X9_account_13 (⟨h1, _, rfl⟩)
  · obtain ⟨n2162, hn2162, rfl⟩ := nI_nn (x := x901) (fun e => q1 (Int32.lt_of_lt_of_le e (by decide)))
    have c1 : n2162 ≥ 0 := by have hh := mt (nI_ltI (a := n2162) (b := 0) (by omega) (by omega)).mpr q1; omega
    refine m_iload_n F rfl e_X9_account_4 ?_
    refine m_bipush F (v := 6) (by decide) e_X9_account_5 ?_
    refine m_icmp_lt F e_X9_account_7 (fun q7 => ?_) (fun q7 => ?_)
    · have c7 : n2162 < 6 := (nI_ltI (a := n2162) (b := 6) (by omega) (by omega)).mp q7
      refine m_aload_n F rfl e_X9_account_14 ?_
      refine t_get F e_X9_account_15 fl_X9_16 (fun _ => o1) h1 hk rfl (fun v hv f2163 => ?_)
      obtain ⟨r2164, k2165, rfl⟩ := hv
      refine t_get F e_X9_account_18 fl_X9_186 (fun _ => o7) h1 k2165 rfl (fun v hv f2166 => ?_)
      obtain rfl : v = .ref (r2164 + 5) := hv
      refine t_get F e_X9_account_21 fl_X9_190 (fun _ => o12) h1 (kA_7 k2165 (r := 5) (by decide)) rfl (fun v hv f2167 => ?_)
      obtain ⟨r2168, k2169, rfl⟩ := hv
      refine m_iload_n F rfl e_X9_account_24 ?_
      refine t_lald F (len := 6) (j := n2162) e_X9_account_25 (fun _ => o14) h1 k2169 (nI_clamp (by omega)) (vp_in_nI (by omega) (by decide)) (fun x2170 => ?_)
      exact m_lret F hQ e_X9_account_26 (⟨h1, _, rfl⟩)
    · have c7 : n2162 ≥ 6 := by have hh := mt (nI_ltI (a := n2162) (b := 6) (by omega) (by omega)).mpr q7; omega
      refine m_ldc2 F kc_X9_184 e_X9_account_10 ?_
      exact m_lret F hQ e_X9_account_13 (⟨h1, _, rfl⟩)
set_option maxRecDepth 20000 in
theorem s_X9_entry (l : Launch) (V : VX) (b M Z T N : Nat) (σ : Mem) (a : Nat) (x901 : Int32) (x902 : Int32) (h0 : HT V (b, M, Z, T) σ) (hk : kA b a = 1) (hM : M + 0 ≤ 1000000000) : Ct l V yX9_entry cX9_entry 5 (some .long) 3 0 0 N σ [.ref a, .int x901, .int x902] (fun r τ => HK V (b, M, Z, T) [0, 1, 2, 3, 4, 5, 6, 7, 8, 9, 10, 11, 12, 13, 14, 15, 16, 17, 18, 19] σ τ ∧ ∃ x : Int64, r = some (.long x)) := by
  refine Ct.of (by decide) (Nat.le_of_ble_eq_true rfl) [(0, .ref a), (1, .int x901), (2, .int x902)] rfl (fun X hX F hQ => ?_)
  have h1 : HK V (b, M, Z, T) [0, 1, 2, 3, 4, 5, 6, 7, 8, 9, 10, 11, 12, 13, 14, 15, 16, 17, 18, 19] σ σ := HK.start h0
  refine m_iload_n F rfl e_X9_entry_0 ?_
  refine m_if_lt F e_X9_entry_1 (fun q1 => ?_) (fun q1 => ?_)
  · refine m_iconst F (v := 0) (by decide) e_X9_entry_13 ?_
    refine m_istore_n F (lv' := [(3, .int 0), (0, .ref a), (1, .int x901), (2, .int x902)]) e_X9_entry_14 (by decide) rfl ?_
    refine m_iload_n F rfl e_X9_entry_15 ?_
    refine m_bipush F (v := 10) (by decide) e_X9_entry_16 ?_
    refine m_icmp_lt F e_X9_entry_18 (fun q18 => ?_) (fun q18 => ?_)
    · refine m_iconst F (v := 0) (by decide) e_X9_entry_31 ?_
      refine m_istore F (lv' := [(4, .int 0), (3, .int 0), (0, .ref a), (1, .int x901), (2, .int x902)]) e_X9_entry_32 (by decide) rfl ?_
      refine m_iload_n F rfl e_X9_entry_34 ?_
      refine m_if_lt F e_X9_entry_35 (fun q35 => ?_) (fun q35 => ?_)
      · refine m_ldc2 F kc_X9_184 e_X9_entry_61 ?_
        exact m_lret F hQ e_X9_entry_64 (⟨h1, _, rfl⟩)
      · obtain ⟨n2171, hn2171, rfl⟩ := nI_nn (x := x901) (fun e => q35 (Int32.lt_of_lt_of_le e (by decide)))
        have c35 : n2171 ≥ 0 := by have hh := mt (nI_ltI (a := n2171) (b := 0) (by omega) (by omega)).mpr q35; omega
        refine m_iload_n F rfl e_X9_entry_38 ?_
        refine m_aload_n F rfl e_X9_entry_39 ?_
        refine t_get F e_X9_entry_40 fl_X9_16 (fun _ => o1) h1 hk rfl (fun v hv f2172 => ?_)
        obtain ⟨r2173, k2174, rfl⟩ := hv
        refine t_get F e_X9_entry_43 fl_X9_186 (fun _ => o7) h1 k2174 rfl (fun v hv f2175 => ?_)
        obtain rfl : v = .ref (r2173 + 5) := hv
        obtain ⟨v9, ⟨n2176, hn2176, rfl⟩, f2177⟩ := HK.f (j := 2) h1 (fun _ => o12) (kA_7 k2174 (r := 5) (by decide)) rfl
        replace hn2176 : n2176 ≤ M := hn2176
        refine t_callV F e_X9_entry_46 (s_X3_kept (x_l X) V b M Z T _ _ (r2173 + 5) n2176 h1.1 (kA_7 k2174 (r := 5) (by decide)) (f2177) (by omega) (by omega)) cb_X3_kept ml_X9_196 im_X3_kept se_X3_kept (fun _ => o12) h1 (kA_7 k2174 (r := 5) (by decide)) rfl rfl (rest := [.int (nI n2171)]) rfl (Nat.le_of_ble_eq_true rfl) ⟨Nat.le_of_ble_eq_true rfl, Nat.le_of_ble_eq_true rfl⟩ ⟨Nat.le_of_ble_eq_true rfl, Nat.le_of_ble_eq_true rfl⟩ (fun r σ2178 hp => ?_)
        obtain ⟨h2180, n2181, hn2181, gn2181, rfl⟩ := hp
        have h2179 := HK.trans h1 h2180 (by decide)
        refine m_icmp_ge F e_X9_entry_49 (fun q49 => ?_) (fun q49 => ?_)
        · have c49 : n2171 ≥ n2181 := (nI_leI (a := n2181) (b := n2171) (by omega) (by omega)).mp q49
          refine m_ldc2 F kc_X9_184 e_X9_entry_61 ?_
          exact m_lret F hQ e_X9_entry_64 (⟨h2179, _, rfl⟩)
        · have c49 : n2171 < n2181 := by have hh := mt (nI_leI (a := n2181) (b := n2171) (by omega) (by omega)).mpr q49; omega
          refine m_iload_n F rfl e_X9_entry_52 ?_
          refine m_if_ne F e_X9_entry_53 (fun q => absurd (by decide) q) (fun _ => ?_)
          refine m_iload F rfl e_X9_entry_56 ?_
          refine m_if_ne F e_X9_entry_58 (fun q => absurd (by decide) q) (fun _ => ?_)
          refine m_ldc2 F kc_X9_184 e_X9_entry_61 ?_
          exact m_lret F hQ e_X9_entry_64 (⟨h2179, _, rfl⟩)
    · obtain ⟨n2182, hn2182, rfl⟩ := nI_nn (x := x902) (fun e => q18 (Int32.lt_of_lt_of_le e (by decide)))
      have c18 : n2182 ≥ 10 := by have hh := mt (nI_ltI (a := n2182) (b := 10) (by omega) (by omega)).mpr q18; omega
      refine m_iload_n F rfl e_X9_entry_21 ?_
      refine m_bipush F (v := 16) (by decide) e_X9_entry_22 ?_
      refine m_icmp_ge F e_X9_entry_24 (fun q24 => ?_) (fun q24 => ?_)
      · have c24 : n2182 ≥ 16 := (nI_leI (a := 16) (b := n2182) (by omega) (by omega)).mp q24
        refine m_iconst F (v := 0) (by decide) e_X9_entry_31 ?_
        refine m_istore F (lv' := [(4, .int 0), (3, .int 0), (0, .ref a), (1, .int x901), (2, .int (nI n2182))]) e_X9_entry_32 (by decide) rfl ?_
        refine m_iload_n F rfl e_X9_entry_34 ?_
        refine m_if_lt F e_X9_entry_35 (fun q35 => ?_) (fun q35 => ?_)
        · refine m_ldc2 F kc_X9_184 e_X9_entry_61 ?_
          exact m_lret F hQ e_X9_entry_64 (⟨h1, _, rfl⟩)
        · obtain ⟨n2183, hn2183, rfl⟩ := nI_nn (x := x901) (fun e => q35 (Int32.lt_of_lt_of_le e (by decide)))
          have c35 : n2183 ≥ 0 := by have hh := mt (nI_ltI (a := n2183) (b := 0) (by omega) (by omega)).mpr q35; omega
          refine m_iload_n F rfl e_X9_entry_38 ?_
          refine m_aload_n F rfl e_X9_entry_39 ?_
          refine t_get F e_X9_entry_40 fl_X9_16 (fun _ => o1) h1 hk rfl (fun v hv f2184 => ?_)
          obtain ⟨r2185, k2186, rfl⟩ := hv
          refine t_get F e_X9_entry_43 fl_X9_186 (fun _ => o7) h1 k2186 rfl (fun v hv f2187 => ?_)
          obtain rfl : v = .ref (r2185 + 5) := hv
          obtain ⟨v9, ⟨n2188, hn2188, rfl⟩, f2189⟩ := HK.f (j := 2) h1 (fun _ => o12) (kA_7 k2186 (r := 5) (by decide)) rfl
          replace hn2188 : n2188 ≤ M := hn2188
          refine t_callV F e_X9_entry_46 (s_X3_kept (x_l X) V b M Z T _ _ (r2185 + 5) n2188 h1.1 (kA_7 k2186 (r := 5) (by decide)) (f2189) (by omega) (by omega)) cb_X3_kept ml_X9_196 im_X3_kept se_X3_kept (fun _ => o12) h1 (kA_7 k2186 (r := 5) (by decide)) rfl rfl (rest := [.int (nI n2183)]) rfl (Nat.le_of_ble_eq_true rfl) ⟨Nat.le_of_ble_eq_true rfl, Nat.le_of_ble_eq_true rfl⟩ ⟨Nat.le_of_ble_eq_true rfl, Nat.le_of_ble_eq_true rfl⟩ (fun r σ2190 hp => ?_)
          obtain ⟨h2192, n2193, hn2193, gn2193, rfl⟩ := hp
          have h2191 := HK.trans h1 h2192 (by decide)
          refine m_icmp_ge F e_X9_entry_49 (fun q49 => ?_) (fun q49 => ?_)
          · have c49 : n2183 ≥ n2193 := (nI_leI (a := n2193) (b := n2183) (by omega) (by omega)).mp q49
            refine m_ldc2 F kc_X9_184 e_X9_entry_61 ?_
            exact m_lret F hQ e_X9_entry_64 (⟨h2191, _, rfl⟩)
          · have c49 : n2183 < n2193 := by have hh := mt (nI_leI (a := n2193) (b := n2183) (by omega) (by omega)).mpr q49; omega
            refine m_iload_n F rfl e_X9_entry_52 ?_
            refine m_if_ne F e_X9_entry_53 (fun q => absurd (by decide) q) (fun _ => ?_)
            refine m_iload F rfl e_X9_entry_56 ?_
            refine m_if_ne F e_X9_entry_58 (fun q => absurd (by decide) q) (fun _ => ?_)
            refine m_ldc2 F kc_X9_184 e_X9_entry_61 ?_
            exact m_lret F hQ e_X9_entry_64 (⟨h2191, _, rfl⟩)
      · have c24 : n2182 < 16 := by have hh := mt (nI_leI (a := 16) (b := n2182) (by omega) (by omega)).mpr q24; omega
        refine m_iconst F (v := 1) (by decide) e_X9_entry_27 ?_
        refine m_goto F e_X9_entry_28 ?_
        refine m_istore F (lv' := [(4, .int 1), (3, .int 0), (0, .ref a), (1, .int x901), (2, .int (nI n2182))]) e_X9_entry_32 (by decide) rfl ?_
        refine m_iload_n F rfl e_X9_entry_34 ?_
        refine m_if_lt F e_X9_entry_35 (fun q35 => ?_) (fun q35 => ?_)
        · refine m_ldc2 F kc_X9_184 e_X9_entry_61 ?_
          exact m_lret F hQ e_X9_entry_64 (⟨h1, _, rfl⟩)
        · obtain ⟨n2194, hn2194, rfl⟩ := nI_nn (x := x901) (fun e => q35 (Int32.lt_of_lt_of_le e (by decide)))
          have c35 : n2194 ≥ 0 := by have hh := mt (nI_ltI (a := n2194) (b := 0) (by omega) (by omega)).mpr q35; omega
          refine m_iload_n F rfl e_X9_entry_38 ?_
          refine m_aload_n F rfl e_X9_entry_39 ?_
          refine t_get F e_X9_entry_40 fl_X9_16 (fun _ => o1) h1 hk rfl (fun v hv f2195 => ?_)
          obtain ⟨r2196, k2197, rfl⟩ := hv
          refine t_get F e_X9_entry_43 fl_X9_186 (fun _ => o7) h1 k2197 rfl (fun v hv f2198 => ?_)
          obtain rfl : v = .ref (r2196 + 5) := hv
          obtain ⟨v9, ⟨n2199, hn2199, rfl⟩, f2200⟩ := HK.f (j := 2) h1 (fun _ => o12) (kA_7 k2197 (r := 5) (by decide)) rfl
          replace hn2199 : n2199 ≤ M := hn2199
          refine t_callV F e_X9_entry_46 (s_X3_kept (x_l X) V b M Z T _ _ (r2196 + 5) n2199 h1.1 (kA_7 k2197 (r := 5) (by decide)) (f2200) (by omega) (by omega)) cb_X3_kept ml_X9_196 im_X3_kept se_X3_kept (fun _ => o12) h1 (kA_7 k2197 (r := 5) (by decide)) rfl rfl (rest := [.int (nI n2194)]) rfl (Nat.le_of_ble_eq_true rfl) ⟨Nat.le_of_ble_eq_true rfl, Nat.le_of_ble_eq_true rfl⟩ ⟨Nat.le_of_ble_eq_true rfl, Nat.le_of_ble_eq_true rfl⟩ (fun r σ2201 hp => ?_)
          obtain ⟨h2203, n2204, hn2204, gn2204, rfl⟩ := hp
          have h2202 := HK.trans h1 h2203 (by decide)
          refine m_icmp_ge F e_X9_entry_49 (fun q49 => ?_) (fun q49 => ?_)
          · have c49 : n2194 ≥ n2204 := (nI_leI (a := n2204) (b := n2194) (by omega) (by omega)).mp q49
            refine m_ldc2 F kc_X9_184 e_X9_entry_61 ?_
            exact m_lret F hQ e_X9_entry_64 (⟨h2202, _, rfl⟩)
          · have c49 : n2194 < n2204 := by have hh := mt (nI_leI (a := n2204) (b := n2194) (by omega) (by omega)).mpr q49; omega
            refine m_iload_n F rfl e_X9_entry_52 ?_
            refine m_if_ne F e_X9_entry_53 (fun q => absurd (by decide) q) (fun _ => ?_)
            refine m_iload F rfl e_X9_entry_56 ?_
            refine m_if_ne F e_X9_entry_58 (fun _ => ?_) (fun q => absurd q (by decide))
            refine m_aload_n F rfl e_X9_entry_65 ?_
            refine t_getC F e_X9_entry_66 fl_X9_16 (fun _ => o1) h2202 hk ((fld_eq (h2203.2 a (by rw [show kA _ a = 1 from hk]; decide))).trans f2195) ?_
            refine t_getC F e_X9_entry_69 fl_X9_186 (fun _ => o7) h2202 k2197 ((fld_eq (h2203.2 r2196 (by rw [show kA _ r2196 = 7 from k2197]; decide))).trans f2198) ?_
            refine m_iload_n F rfl e_X9_entry_72 ?_
            refine m_iload_n F rfl e_X9_entry_73 ?_
            refine m_if_eq F e_X9_entry_74 (fun _ => ?_) (fun q => absurd (by decide) q)
            refine m_iload_n F rfl e_X9_entry_81 ?_
            refine m_bipush F (v := 10) (by decide) e_X9_entry_82 ?_
            refine m_isub F e_X9_entry_84 ?_
            refine Wm.top (fun x2205 _ => ?_)
            refine m_iconst F (v := 3) (by decide) e_X9_entry_85 ?_
            refine m_iadd F e_X9_entry_86 ?_
            refine Wm.top (fun x2206 _ => ?_)
            refine t_callV F e_X9_entry_87 (s_X3_told (x_l X) V b M Z T _ _ (r2196 + 5) (nI n2194) x2206 h2202.1 (kA_7 k2197 (r := 5) (by decide))  (by omega)) cb_X3_told ml_X9_199 im_X3_told se_X3_told (fun _ => o12) h2202 (kA_7 k2197 (r := 5) (by decide)) rfl rfl (rest := []) rfl (Nat.le_of_ble_eq_true rfl) ⟨Nat.le_of_ble_eq_true rfl, Nat.le_of_ble_eq_true rfl⟩ ⟨Nat.le_of_ble_eq_true rfl, Nat.le_of_ble_eq_true rfl⟩ (fun r σ2207 hp => ?_)
            obtain ⟨h2209, x2210, rfl⟩ := hp
            have h2208 := HK.trans h2202 h2209 (by decide)
            exact m_lret F hQ e_X9_entry_90 (⟨h2208, _, rfl⟩)
  · obtain ⟨n2211, hn2211, rfl⟩ := nI_nn (x := x902) (fun e => q1 (Int32.lt_of_lt_of_le e (by decide)))
    have c1 : n2211 ≥ 0 := by have hh := mt (nI_ltI (a := n2211) (b := 0) (by omega) (by omega)).mpr q1; omega
    refine m_iload_n F rfl e_X9_entry_4 ?_
    refine m_iconst F (v := 3) (by decide) e_X9_entry_5 ?_
    refine m_icmp_ge F e_X9_entry_6 (fun q6 => ?_) (fun q6 => ?_)
    · have c6 : n2211 ≥ 3 := (nI_leI (a := 3) (b := n2211) (by omega) (by omega)).mp q6
      refine m_iconst F (v := 0) (by decide) e_X9_entry_13 ?_
      refine m_istore_n F (lv' := [(3, .int 0), (0, .ref a), (1, .int x901), (2, .int (nI n2211))]) e_X9_entry_14 (by decide) rfl ?_
      refine m_iload_n F rfl e_X9_entry_15 ?_
      refine m_bipush F (v := 10) (by decide) e_X9_entry_16 ?_
      refine m_icmp_lt F e_X9_entry_18 (fun q18 => ?_) (fun q18 => ?_)
      · have c18 : n2211 < 10 := (nI_ltI (a := n2211) (b := 10) (by omega) (by omega)).mp q18
        refine m_iconst F (v := 0) (by decide) e_X9_entry_31 ?_
        refine m_istore F (lv' := [(4, .int 0), (3, .int 0), (0, .ref a), (1, .int x901), (2, .int (nI n2211))]) e_X9_entry_32 (by decide) rfl ?_
        refine m_iload_n F rfl e_X9_entry_34 ?_
        refine m_if_lt F e_X9_entry_35 (fun q35 => ?_) (fun q35 => ?_)
        · refine m_ldc2 F kc_X9_184 e_X9_entry_61 ?_
          exact m_lret F hQ e_X9_entry_64 (⟨h1, _, rfl⟩)
        · obtain ⟨n2212, hn2212, rfl⟩ := nI_nn (x := x901) (fun e => q35 (Int32.lt_of_lt_of_le e (by decide)))
          have c35 : n2212 ≥ 0 := by have hh := mt (nI_ltI (a := n2212) (b := 0) (by omega) (by omega)).mpr q35; omega
          refine m_iload_n F rfl e_X9_entry_38 ?_
          refine m_aload_n F rfl e_X9_entry_39 ?_
          refine t_get F e_X9_entry_40 fl_X9_16 (fun _ => o1) h1 hk rfl (fun v hv f2213 => ?_)
          obtain ⟨r2214, k2215, rfl⟩ := hv
          refine t_get F e_X9_entry_43 fl_X9_186 (fun _ => o7) h1 k2215 rfl (fun v hv f2216 => ?_)
          obtain rfl : v = .ref (r2214 + 5) := hv
          obtain ⟨v9, ⟨n2217, hn2217, rfl⟩, f2218⟩ := HK.f (j := 2) h1 (fun _ => o12) (kA_7 k2215 (r := 5) (by decide)) rfl
          replace hn2217 : n2217 ≤ M := hn2217
          refine t_callV F e_X9_entry_46 (s_X3_kept (x_l X) V b M Z T _ _ (r2214 + 5) n2217 h1.1 (kA_7 k2215 (r := 5) (by decide)) (f2218) (by omega) (by omega)) cb_X3_kept ml_X9_196 im_X3_kept se_X3_kept (fun _ => o12) h1 (kA_7 k2215 (r := 5) (by decide)) rfl rfl (rest := [.int (nI n2212)]) rfl (Nat.le_of_ble_eq_true rfl) ⟨Nat.le_of_ble_eq_true rfl, Nat.le_of_ble_eq_true rfl⟩ ⟨Nat.le_of_ble_eq_true rfl, Nat.le_of_ble_eq_true rfl⟩ (fun r σ2219 hp => ?_)
          obtain ⟨h2221, n2222, hn2222, gn2222, rfl⟩ := hp
          have h2220 := HK.trans h1 h2221 (by decide)
          refine m_icmp_ge F e_X9_entry_49 (fun q49 => ?_) (fun q49 => ?_)
          · have c49 : n2212 ≥ n2222 := (nI_leI (a := n2222) (b := n2212) (by omega) (by omega)).mp q49
            refine m_ldc2 F kc_X9_184 e_X9_entry_61 ?_
            exact m_lret F hQ e_X9_entry_64 (⟨h2220, _, rfl⟩)
          · have c49 : n2212 < n2222 := by have hh := mt (nI_leI (a := n2222) (b := n2212) (by omega) (by omega)).mpr q49; omega
            refine m_iload_n F rfl e_X9_entry_52 ?_
            refine m_if_ne F e_X9_entry_53 (fun q => absurd (by decide) q) (fun _ => ?_)
            refine m_iload F rfl e_X9_entry_56 ?_
            refine m_if_ne F e_X9_entry_58 (fun q => absurd (by decide) q) (fun _ => ?_)
            refine m_ldc2 F kc_X9_184 e_X9_entry_61 ?_
            exact m_lret F hQ e_X9_entry_64 (⟨h2220, _, rfl⟩)
      · have c18 : n2211 ≥ 10 := by have hh := mt (nI_ltI (a := n2211) (b := 10) (by omega) (by omega)).mpr q18; omega
        refine m_iload_n F rfl e_X9_entry_21 ?_
        refine m_bipush F (v := 16) (by decide) e_X9_entry_22 ?_
        refine m_icmp_ge F e_X9_entry_24 (fun q24 => ?_) (fun q24 => ?_)
        · have c24 : n2211 ≥ 16 := (nI_leI (a := 16) (b := n2211) (by omega) (by omega)).mp q24
          refine m_iconst F (v := 0) (by decide) e_X9_entry_31 ?_
          refine m_istore F (lv' := [(4, .int 0), (3, .int 0), (0, .ref a), (1, .int x901), (2, .int (nI n2211))]) e_X9_entry_32 (by decide) rfl ?_
          refine m_iload_n F rfl e_X9_entry_34 ?_
          refine m_if_lt F e_X9_entry_35 (fun q35 => ?_) (fun q35 => ?_)
          · refine m_ldc2 F kc_X9_184 e_X9_entry_61 ?_
            exact m_lret F hQ e_X9_entry_64 (⟨h1, _, rfl⟩)
          · obtain ⟨n2223, hn2223, rfl⟩ := nI_nn (x := x901) (fun e => q35 (Int32.lt_of_lt_of_le e (by decide)))
            have c35 : n2223 ≥ 0 := by have hh := mt (nI_ltI (a := n2223) (b := 0) (by omega) (by omega)).mpr q35; omega
            refine m_iload_n F rfl e_X9_entry_38 ?_
            refine m_aload_n F rfl e_X9_entry_39 ?_
            refine t_get F e_X9_entry_40 fl_X9_16 (fun _ => o1) h1 hk rfl (fun v hv f2224 => ?_)
            obtain ⟨r2225, k2226, rfl⟩ := hv
            refine t_get F e_X9_entry_43 fl_X9_186 (fun _ => o7) h1 k2226 rfl (fun v hv f2227 => ?_)
            obtain rfl : v = .ref (r2225 + 5) := hv
            obtain ⟨v9, ⟨n2228, hn2228, rfl⟩, f2229⟩ := HK.f (j := 2) h1 (fun _ => o12) (kA_7 k2226 (r := 5) (by decide)) rfl
            replace hn2228 : n2228 ≤ M := hn2228
            refine t_callV F e_X9_entry_46 (s_X3_kept (x_l X) V b M Z T _ _ (r2225 + 5) n2228 h1.1 (kA_7 k2226 (r := 5) (by decide)) (f2229) (by omega) (by omega)) cb_X3_kept ml_X9_196 im_X3_kept se_X3_kept (fun _ => o12) h1 (kA_7 k2226 (r := 5) (by decide)) rfl rfl (rest := [.int (nI n2223)]) rfl (Nat.le_of_ble_eq_true rfl) ⟨Nat.le_of_ble_eq_true rfl, Nat.le_of_ble_eq_true rfl⟩ ⟨Nat.le_of_ble_eq_true rfl, Nat.le_of_ble_eq_true rfl⟩ (fun r σ2230 hp => ?_)
            obtain ⟨h2232, n2233, hn2233, gn2233, rfl⟩ := hp
            have h2231 := HK.trans h1 h2232 (by decide)
            refine m_icmp_ge F e_X9_entry_49 (fun q49 => ?_) (fun q49 => ?_)
            · have c49 : n2223 ≥ n2233 := (nI_leI (a := n2233) (b := n2223) (by omega) (by omega)).mp q49
              refine m_ldc2 F kc_X9_184 e_X9_entry_61 ?_
              exact m_lret F hQ e_X9_entry_64 (⟨h2231, _, rfl⟩)
            · have c49 : n2223 < n2233 := by have hh := mt (nI_leI (a := n2233) (b := n2223) (by omega) (by omega)).mpr q49; omega
              refine m_iload_n F rfl e_X9_entry_52 ?_
              refine m_if_ne F e_X9_entry_53 (fun q => absurd (by decide) q) (fun _ => ?_)
              refine m_iload F rfl e_X9_entry_56 ?_
              refine m_if_ne F e_X9_entry_58 (fun q => absurd (by decide) q) (fun _ => ?_)
              refine m_ldc2 F kc_X9_184 e_X9_entry_61 ?_
              exact m_lret F hQ e_X9_entry_64 (⟨h2231, _, rfl⟩)
        · have c24 : n2211 < 16 := by have hh := mt (nI_leI (a := 16) (b := n2211) (by omega) (by omega)).mpr q24; omega
          refine m_iconst F (v := 1) (by decide) e_X9_entry_27 ?_
          refine m_goto F e_X9_entry_28 ?_
          refine m_istore F (lv' := [(4, .int 1), (3, .int 0), (0, .ref a), (1, .int x901), (2, .int (nI n2211))]) e_X9_entry_32 (by decide) rfl ?_
          refine m_iload_n F rfl e_X9_entry_34 ?_
          refine m_if_lt F e_X9_entry_35 (fun q35 => ?_) (fun q35 => ?_)
          · refine m_ldc2 F kc_X9_184 e_X9_entry_61 ?_
            exact m_lret F hQ e_X9_entry_64 (⟨h1, _, rfl⟩)
          · obtain ⟨n2234, hn2234, rfl⟩ := nI_nn (x := x901) (fun e => q35 (Int32.lt_of_lt_of_le e (by decide)))
            have c35 : n2234 ≥ 0 := by have hh := mt (nI_ltI (a := n2234) (b := 0) (by omega) (by omega)).mpr q35; omega
            refine m_iload_n F rfl e_X9_entry_38 ?_
            refine m_aload_n F rfl e_X9_entry_39 ?_
            refine t_get F e_X9_entry_40 fl_X9_16 (fun _ => o1) h1 hk rfl (fun v hv f2235 => ?_)
            obtain ⟨r2236, k2237, rfl⟩ := hv
            refine t_get F e_X9_entry_43 fl_X9_186 (fun _ => o7) h1 k2237 rfl (fun v hv f2238 => ?_)
            obtain rfl : v = .ref (r2236 + 5) := hv
            obtain ⟨v9, ⟨n2239, hn2239, rfl⟩, f2240⟩ := HK.f (j := 2) h1 (fun _ => o12) (kA_7 k2237 (r := 5) (by decide)) rfl
            replace hn2239 : n2239 ≤ M := hn2239
            refine t_callV F e_X9_entry_46 (s_X3_kept (x_l X) V b M Z T _ _ (r2236 + 5) n2239 h1.1 (kA_7 k2237 (r := 5) (by decide)) (f2240) (by omega) (by omega)) cb_X3_kept ml_X9_196 im_X3_kept se_X3_kept (fun _ => o12) h1 (kA_7 k2237 (r := 5) (by decide)) rfl rfl (rest := [.int (nI n2234)]) rfl (Nat.le_of_ble_eq_true rfl) ⟨Nat.le_of_ble_eq_true rfl, Nat.le_of_ble_eq_true rfl⟩ ⟨Nat.le_of_ble_eq_true rfl, Nat.le_of_ble_eq_true rfl⟩ (fun r σ2241 hp => ?_)
            obtain ⟨h2243, n2244, hn2244, gn2244, rfl⟩ := hp
            have h2242 := HK.trans h1 h2243 (by decide)
            refine m_icmp_ge F e_X9_entry_49 (fun q49 => ?_) (fun q49 => ?_)
            · have c49 : n2234 ≥ n2244 := (nI_leI (a := n2244) (b := n2234) (by omega) (by omega)).mp q49
              refine m_ldc2 F kc_X9_184 e_X9_entry_61 ?_
              exact m_lret F hQ e_X9_entry_64 (⟨h2242, _, rfl⟩)
            · have c49 : n2234 < n2244 := by have hh := mt (nI_leI (a := n2244) (b := n2234) (by omega) (by omega)).mpr q49; omega
              refine m_iload_n F rfl e_X9_entry_52 ?_
              refine m_if_ne F e_X9_entry_53 (fun q => absurd (by decide) q) (fun _ => ?_)
              refine m_iload F rfl e_X9_entry_56 ?_
              refine m_if_ne F e_X9_entry_58 (fun _ => ?_) (fun q => absurd q (by decide))
              refine m_aload_n F rfl e_X9_entry_65 ?_
              refine t_getC F e_X9_entry_66 fl_X9_16 (fun _ => o1) h2242 hk ((fld_eq (h2243.2 a (by rw [show kA _ a = 1 from hk]; decide))).trans f2235) ?_
              refine t_getC F e_X9_entry_69 fl_X9_186 (fun _ => o7) h2242 k2237 ((fld_eq (h2243.2 r2236 (by rw [show kA _ r2236 = 7 from k2237]; decide))).trans f2238) ?_
              refine m_iload_n F rfl e_X9_entry_72 ?_
              refine m_iload_n F rfl e_X9_entry_73 ?_
              refine m_if_eq F e_X9_entry_74 (fun _ => ?_) (fun q => absurd (by decide) q)
              refine m_iload_n F rfl e_X9_entry_81 ?_
              refine m_bipush F (v := 10) (by decide) e_X9_entry_82 ?_
              refine m_isub F e_X9_entry_84 ?_
              refine Wm.top (fun x2245 _ => ?_)
              refine m_iconst F (v := 3) (by decide) e_X9_entry_85 ?_
              refine m_iadd F e_X9_entry_86 ?_
              refine Wm.top (fun x2246 _ => ?_)
              refine t_callV F e_X9_entry_87 (s_X3_told (x_l X) V b M Z T _ _ (r2236 + 5) (nI n2234) x2246 h2242.1 (kA_7 k2237 (r := 5) (by decide))  (by omega)) cb_X3_told ml_X9_199 im_X3_told se_X3_told (fun _ => o12) h2242 (kA_7 k2237 (r := 5) (by decide)) rfl rfl (rest := []) rfl (Nat.le_of_ble_eq_true rfl) ⟨Nat.le_of_ble_eq_true rfl, Nat.le_of_ble_eq_true rfl⟩ ⟨Nat.le_of_ble_eq_true rfl, Nat.le_of_ble_eq_true rfl⟩ (fun r σ2247 hp => ?_)
              obtain ⟨h2249, x2250, rfl⟩ := hp
              have h2248 := HK.trans h2242 h2249 (by decide)
              exact m_lret F hQ e_X9_entry_90 (⟨h2248, _, rfl⟩)
    · have c6 : n2211 < 3 := by have hh := mt (nI_leI (a := 3) (b := n2211) (by omega) (by omega)).mpr q6; omega
      refine m_iconst F (v := 1) (by decide) e_X9_entry_9 ?_
      refine m_goto F e_X9_entry_10 ?_
      refine m_istore_n F (lv' := [(3, .int 1), (0, .ref a), (1, .int x901), (2, .int (nI n2211))]) e_X9_entry_14 (by decide) rfl ?_
      refine m_iload_n F rfl e_X9_entry_15 ?_
      refine m_bipush F (v := 10) (by decide) e_X9_entry_16 ?_
      refine m_icmp_lt F e_X9_entry_18 (fun q18 => ?_) (fun q18 => ?_)
      · have c18 : n2211 < 10 := (nI_ltI (a := n2211) (b := 10) (by omega) (by omega)).mp q18
        refine m_iconst F (v := 0) (by decide) e_X9_entry_31 ?_
        refine m_istore F (lv' := [(4, .int 0), (3, .int 1), (0, .ref a), (1, .int x901), (2, .int (nI n2211))]) e_X9_entry_32 (by decide) rfl ?_
        refine m_iload_n F rfl e_X9_entry_34 ?_
        refine m_if_lt F e_X9_entry_35 (fun q35 => ?_) (fun q35 => ?_)
        · refine m_ldc2 F kc_X9_184 e_X9_entry_61 ?_
          exact m_lret F hQ e_X9_entry_64 (⟨h1, _, rfl⟩)
        · obtain ⟨n2251, hn2251, rfl⟩ := nI_nn (x := x901) (fun e => q35 (Int32.lt_of_lt_of_le e (by decide)))
          have c35 : n2251 ≥ 0 := by have hh := mt (nI_ltI (a := n2251) (b := 0) (by omega) (by omega)).mpr q35; omega
          refine m_iload_n F rfl e_X9_entry_38 ?_
          refine m_aload_n F rfl e_X9_entry_39 ?_
          refine t_get F e_X9_entry_40 fl_X9_16 (fun _ => o1) h1 hk rfl (fun v hv f2252 => ?_)
          obtain ⟨r2253, k2254, rfl⟩ := hv
          refine t_get F e_X9_entry_43 fl_X9_186 (fun _ => o7) h1 k2254 rfl (fun v hv f2255 => ?_)
          obtain rfl : v = .ref (r2253 + 5) := hv
          obtain ⟨v9, ⟨n2256, hn2256, rfl⟩, f2257⟩ := HK.f (j := 2) h1 (fun _ => o12) (kA_7 k2254 (r := 5) (by decide)) rfl
          replace hn2256 : n2256 ≤ M := hn2256
          refine t_callV F e_X9_entry_46 (s_X3_kept (x_l X) V b M Z T _ _ (r2253 + 5) n2256 h1.1 (kA_7 k2254 (r := 5) (by decide)) (f2257) (by omega) (by omega)) cb_X3_kept ml_X9_196 im_X3_kept se_X3_kept (fun _ => o12) h1 (kA_7 k2254 (r := 5) (by decide)) rfl rfl (rest := [.int (nI n2251)]) rfl (Nat.le_of_ble_eq_true rfl) ⟨Nat.le_of_ble_eq_true rfl, Nat.le_of_ble_eq_true rfl⟩ ⟨Nat.le_of_ble_eq_true rfl, Nat.le_of_ble_eq_true rfl⟩ (fun r σ2258 hp => ?_)
          obtain ⟨h2260, n2261, hn2261, gn2261, rfl⟩ := hp
          have h2259 := HK.trans h1 h2260 (by decide)
          refine m_icmp_ge F e_X9_entry_49 (fun q49 => ?_) (fun q49 => ?_)
          · have c49 : n2251 ≥ n2261 := (nI_leI (a := n2261) (b := n2251) (by omega) (by omega)).mp q49
            refine m_ldc2 F kc_X9_184 e_X9_entry_61 ?_
            exact m_lret F hQ e_X9_entry_64 (⟨h2259, _, rfl⟩)
          · have c49 : n2251 < n2261 := by have hh := mt (nI_leI (a := n2261) (b := n2251) (by omega) (by omega)).mpr q49; omega
            refine m_iload_n F rfl e_X9_entry_52 ?_
            refine m_if_ne F e_X9_entry_53 (fun _ => ?_) (fun q => absurd q (by decide))
            refine m_aload_n F rfl e_X9_entry_65 ?_
            refine t_getC F e_X9_entry_66 fl_X9_16 (fun _ => o1) h2259 hk ((fld_eq (h2260.2 a (by rw [show kA _ a = 1 from hk]; decide))).trans f2252) ?_
            refine t_getC F e_X9_entry_69 fl_X9_186 (fun _ => o7) h2259 k2254 ((fld_eq (h2260.2 r2253 (by rw [show kA _ r2253 = 7 from k2254]; decide))).trans f2255) ?_
            refine m_iload_n F rfl e_X9_entry_72 ?_
            refine m_iload_n F rfl e_X9_entry_73 ?_
            refine m_if_eq F e_X9_entry_74 (fun q => absurd q (by decide)) (fun _ => ?_)
            refine m_iload_n F rfl e_X9_entry_77 ?_
            refine m_goto F e_X9_entry_78 ?_
            refine t_callV F e_X9_entry_87 (s_X3_told (x_l X) V b M Z T _ _ (r2253 + 5) (nI n2251) (nI n2211) h2259.1 (kA_7 k2254 (r := 5) (by decide))  (by omega)) cb_X3_told ml_X9_199 im_X3_told se_X3_told (fun _ => o12) h2259 (kA_7 k2254 (r := 5) (by decide)) rfl rfl (rest := []) rfl (Nat.le_of_ble_eq_true rfl) ⟨Nat.le_of_ble_eq_true rfl, Nat.le_of_ble_eq_true rfl⟩ ⟨Nat.le_of_ble_eq_true rfl, Nat.le_of_ble_eq_true rfl⟩ (fun r σ2262 hp => ?_)
            obtain ⟨h2264, x2265, rfl⟩ := hp
            have h2263 := HK.trans h2259 h2264 (by decide)
            exact m_lret F hQ e_X9_entry_90 (⟨h2263, _, rfl⟩)
      · have c18 : n2211 ≥ 10 := by have hh := mt (nI_ltI (a := n2211) (b := 10) (by omega) (by omega)).mpr q18; omega
        refine m_iload_n F rfl e_X9_entry_21 ?_
        refine m_bipush F (v := 16) (by decide) e_X9_entry_22 ?_
        refine m_icmp_ge F e_X9_entry_24 (fun q24 => ?_) (fun q24 => ?_)
        · have c24 : n2211 ≥ 16 := (nI_leI (a := 16) (b := n2211) (by omega) (by omega)).mp q24
          refine m_iconst F (v := 0) (by decide) e_X9_entry_31 ?_
          refine m_istore F (lv' := [(4, .int 0), (3, .int 1), (0, .ref a), (1, .int x901), (2, .int (nI n2211))]) e_X9_entry_32 (by decide) rfl ?_
          refine m_iload_n F rfl e_X9_entry_34 ?_
          refine m_if_lt F e_X9_entry_35 (fun q35 => ?_) (fun q35 => ?_)
          · refine m_ldc2 F kc_X9_184 e_X9_entry_61 ?_
            exact m_lret F hQ e_X9_entry_64 (⟨h1, _, rfl⟩)
          · obtain ⟨n2266, hn2266, rfl⟩ := nI_nn (x := x901) (fun e => q35 (Int32.lt_of_lt_of_le e (by decide)))
            have c35 : n2266 ≥ 0 := by have hh := mt (nI_ltI (a := n2266) (b := 0) (by omega) (by omega)).mpr q35; omega
            refine m_iload_n F rfl e_X9_entry_38 ?_
            refine m_aload_n F rfl e_X9_entry_39 ?_
            refine t_get F e_X9_entry_40 fl_X9_16 (fun _ => o1) h1 hk rfl (fun v hv f2267 => ?_)
            obtain ⟨r2268, k2269, rfl⟩ := hv
            refine t_get F e_X9_entry_43 fl_X9_186 (fun _ => o7) h1 k2269 rfl (fun v hv f2270 => ?_)
            obtain rfl : v = .ref (r2268 + 5) := hv
            obtain ⟨v9, ⟨n2271, hn2271, rfl⟩, f2272⟩ := HK.f (j := 2) h1 (fun _ => o12) (kA_7 k2269 (r := 5) (by decide)) rfl
            replace hn2271 : n2271 ≤ M := hn2271
            refine t_callV F e_X9_entry_46 (s_X3_kept (x_l X) V b M Z T _ _ (r2268 + 5) n2271 h1.1 (kA_7 k2269 (r := 5) (by decide)) (f2272) (by omega) (by omega)) cb_X3_kept ml_X9_196 im_X3_kept se_X3_kept (fun _ => o12) h1 (kA_7 k2269 (r := 5) (by decide)) rfl rfl (rest := [.int (nI n2266)]) rfl (Nat.le_of_ble_eq_true rfl) ⟨Nat.le_of_ble_eq_true rfl, Nat.le_of_ble_eq_true rfl⟩ ⟨Nat.le_of_ble_eq_true rfl, Nat.le_of_ble_eq_true rfl⟩ (fun r σ2273 hp => ?_)
            obtain ⟨h2275, n2276, hn2276, gn2276, rfl⟩ := hp
            have h2274 := HK.trans h1 h2275 (by decide)
            refine m_icmp_ge F e_X9_entry_49 (fun q49 => ?_) (fun q49 => ?_)
            · have c49 : n2266 ≥ n2276 := (nI_leI (a := n2276) (b := n2266) (by omega) (by omega)).mp q49
              refine m_ldc2 F kc_X9_184 e_X9_entry_61 ?_
              exact m_lret F hQ e_X9_entry_64 (⟨h2274, _, rfl⟩)
            · have c49 : n2266 < n2276 := by have hh := mt (nI_leI (a := n2276) (b := n2266) (by omega) (by omega)).mpr q49; omega
              refine m_iload_n F rfl e_X9_entry_52 ?_
              refine m_if_ne F e_X9_entry_53 (fun _ => ?_) (fun q => absurd q (by decide))
              refine m_aload_n F rfl e_X9_entry_65 ?_
              refine t_getC F e_X9_entry_66 fl_X9_16 (fun _ => o1) h2274 hk ((fld_eq (h2275.2 a (by rw [show kA _ a = 1 from hk]; decide))).trans f2267) ?_
              refine t_getC F e_X9_entry_69 fl_X9_186 (fun _ => o7) h2274 k2269 ((fld_eq (h2275.2 r2268 (by rw [show kA _ r2268 = 7 from k2269]; decide))).trans f2270) ?_
              refine m_iload_n F rfl e_X9_entry_72 ?_
              refine m_iload_n F rfl e_X9_entry_73 ?_
              refine m_if_eq F e_X9_entry_74 (fun q => absurd q (by decide)) (fun _ => ?_)
              refine m_iload_n F rfl e_X9_entry_77 ?_
              refine m_goto F e_X9_entry_78 ?_
              refine t_callV F e_X9_entry_87 (s_X3_told (x_l X) V b M Z T _ _ (r2268 + 5) (nI n2266) (nI n2211) h2274.1 (kA_7 k2269 (r := 5) (by decide))  (by omega)) cb_X3_told ml_X9_199 im_X3_told se_X3_told (fun _ => o12) h2274 (kA_7 k2269 (r := 5) (by decide)) rfl rfl (rest := []) rfl (Nat.le_of_ble_eq_true rfl) ⟨Nat.le_of_ble_eq_true rfl, Nat.le_of_ble_eq_true rfl⟩ ⟨Nat.le_of_ble_eq_true rfl, Nat.le_of_ble_eq_true rfl⟩ (fun r σ2277 hp => ?_)
              obtain ⟨h2279, x2280, rfl⟩ := hp
              have h2278 := HK.trans h2274 h2279 (by decide)
              exact m_lret F hQ e_X9_entry_90 (⟨h2278, _, rfl⟩)
        · have c24 : n2211 < 16 := by have hh := mt (nI_leI (a := 16) (b := n2211) (by omega) (by omega)).mpr q24; omega
          refine m_iconst F (v := 1) (by decide) e_X9_entry_27 ?_
          refine m_goto F e_X9_entry_28 ?_
          refine m_istore F (lv' := [(4, .int 1), (3, .int 1), (0, .ref a), (1, .int x901), (2, .int (nI n2211))]) e_X9_entry_32 (by decide) rfl ?_
          refine m_iload_n F rfl e_X9_entry_34 ?_
          refine m_if_lt F e_X9_entry_35 (fun q35 => ?_) (fun q35 => ?_)
          · refine m_ldc2 F kc_X9_184 e_X9_entry_61 ?_
            exact m_lret F hQ e_X9_entry_64 (⟨h1, _, rfl⟩)
          · obtain ⟨n2281, hn2281, rfl⟩ := nI_nn (x := x901) (fun e => q35 (Int32.lt_of_lt_of_le e (by decide)))
            have c35 : n2281 ≥ 0 := by have hh := mt (nI_ltI (a := n2281) (b := 0) (by omega) (by omega)).mpr q35; omega
            refine m_iload_n F rfl e_X9_entry_38 ?_
            refine m_aload_n F rfl e_X9_entry_39 ?_
            refine t_get F e_X9_entry_40 fl_X9_16 (fun _ => o1) h1 hk rfl (fun v hv f2282 => ?_)
            obtain ⟨r2283, k2284, rfl⟩ := hv
            refine t_get F e_X9_entry_43 fl_X9_186 (fun _ => o7) h1 k2284 rfl (fun v hv f2285 => ?_)
            obtain rfl : v = .ref (r2283 + 5) := hv
            obtain ⟨v9, ⟨n2286, hn2286, rfl⟩, f2287⟩ := HK.f (j := 2) h1 (fun _ => o12) (kA_7 k2284 (r := 5) (by decide)) rfl
            replace hn2286 : n2286 ≤ M := hn2286
            refine t_callV F e_X9_entry_46 (s_X3_kept (x_l X) V b M Z T _ _ (r2283 + 5) n2286 h1.1 (kA_7 k2284 (r := 5) (by decide)) (f2287) (by omega) (by omega)) cb_X3_kept ml_X9_196 im_X3_kept se_X3_kept (fun _ => o12) h1 (kA_7 k2284 (r := 5) (by decide)) rfl rfl (rest := [.int (nI n2281)]) rfl (Nat.le_of_ble_eq_true rfl) ⟨Nat.le_of_ble_eq_true rfl, Nat.le_of_ble_eq_true rfl⟩ ⟨Nat.le_of_ble_eq_true rfl, Nat.le_of_ble_eq_true rfl⟩ (fun r σ2288 hp => ?_)
            obtain ⟨h2290, n2291, hn2291, gn2291, rfl⟩ := hp
            have h2289 := HK.trans h1 h2290 (by decide)
            refine m_icmp_ge F e_X9_entry_49 (fun q49 => ?_) (fun q49 => ?_)
            · have c49 : n2281 ≥ n2291 := (nI_leI (a := n2291) (b := n2281) (by omega) (by omega)).mp q49
              refine m_ldc2 F kc_X9_184 e_X9_entry_61 ?_
              exact m_lret F hQ e_X9_entry_64 (⟨h2289, _, rfl⟩)
            · have c49 : n2281 < n2291 := by have hh := mt (nI_leI (a := n2291) (b := n2281) (by omega) (by omega)).mpr q49; omega
              refine m_iload_n F rfl e_X9_entry_52 ?_
              refine m_if_ne F e_X9_entry_53 (fun _ => ?_) (fun q => absurd q (by decide))
              refine m_aload_n F rfl e_X9_entry_65 ?_
              refine t_getC F e_X9_entry_66 fl_X9_16 (fun _ => o1) h2289 hk ((fld_eq (h2290.2 a (by rw [show kA _ a = 1 from hk]; decide))).trans f2282) ?_
              refine t_getC F e_X9_entry_69 fl_X9_186 (fun _ => o7) h2289 k2284 ((fld_eq (h2290.2 r2283 (by rw [show kA _ r2283 = 7 from k2284]; decide))).trans f2285) ?_
              refine m_iload_n F rfl e_X9_entry_72 ?_
              refine m_iload_n F rfl e_X9_entry_73 ?_
              refine m_if_eq F e_X9_entry_74 (fun q => absurd q (by decide)) (fun _ => ?_)
              refine m_iload_n F rfl e_X9_entry_77 ?_
              refine m_goto F e_X9_entry_78 ?_
              refine t_callV F e_X9_entry_87 (s_X3_told (x_l X) V b M Z T _ _ (r2283 + 5) (nI n2281) (nI n2211) h2289.1 (kA_7 k2284 (r := 5) (by decide))  (by omega)) cb_X3_told ml_X9_199 im_X3_told se_X3_told (fun _ => o12) h2289 (kA_7 k2284 (r := 5) (by decide)) rfl rfl (rest := []) rfl (Nat.le_of_ble_eq_true rfl) ⟨Nat.le_of_ble_eq_true rfl, Nat.le_of_ble_eq_true rfl⟩ ⟨Nat.le_of_ble_eq_true rfl, Nat.le_of_ble_eq_true rfl⟩ (fun r σ2292 hp => ?_)
              obtain ⟨h2294, x2295, rfl⟩ := hp
              have h2293 := HK.trans h2289 h2294 (by decide)
              exact m_lret F hQ e_X9_entry_90 (⟨h2293, _, rfl⟩)
set_option maxRecDepth 20000 in
theorem s_X9_rate (l : Launch) (V : VX) (b M Z T N : Nat) (σ : Mem) (a : Nat) (x901 : Int32) (x902 : Int32) (h0 : HT V (b, M, Z, T) σ) (hk : kA b a = 1) (hM : M + 1 ≤ 1000000000) : Ct l V yX9_rate cX9_rate 4 (some .long) 5 0 0 N σ [.ref a, .int x901, .int x902] (fun r τ => HK V (b, M + 1, Z, T) [0, 2, 3, 4, 5, 8, 9, 16] σ τ ∧ ∃ x : Int64, r = some (.long x)) := by
  refine Ct.of (by decide) (Nat.le_of_ble_eq_true rfl) [(0, .ref a), (1, .int x901), (2, .int x902)] rfl (fun X hX F hQ => ?_)
  have h1 : HK V (b, M, Z, T) [0, 2, 3, 4, 5, 8, 9, 16] σ σ := HK.start h0
  refine m_aload_n F rfl e_X9_rate_0 ?_
  refine m_iload_n F rfl e_X9_rate_1 ?_
  refine t_callV F e_X9_rate_2 (s_X9_runningAt (x_l X) V b M Z T _ _ a x901 h1.1 hk  (by omega)) cb_X9_runningAt ml_X9_203 im_X9_runningAt se_X9_runningAt (fun _ => o1) h1 hk rfl rfl (rest := []) rfl (Nat.le_of_ble_eq_true rfl) ⟨Nat.le_of_ble_eq_true rfl, Nat.le_of_ble_eq_true rfl⟩ ⟨Nat.le_of_ble_eq_true rfl, Nat.le_of_ble_eq_true rfl⟩ (fun r σ2296 hp => ?_)
  obtain ⟨h2298, c2299⟩ := hp
  have h2297 := HK.trans h1 h2298 (by decide)
  rcases c2299 with rfl | ⟨n2300, r2301, hn2300, en2300, k2302, rfl⟩
  · refine m_astore_nN F (lv' := [(3, .null), (0, .ref a), (1, .int x901), (2, .int x902)]) e_X9_rate_5 (by decide) rfl ?_
    refine m_aload_nN F rfl e_X9_rate_6 ?_
    refine m_ifnullN F e_X9_rate_7 ?_
    refine m_ldc2 F kc_X9_184 e_X9_rate_20 ?_
    exact m_lret F hQ e_X9_rate_23 (⟨(h2297.mono (M' := M + 1) (Z' := Z) (by omega) (by intro e; first | rfl | assumption | omega)), _, rfl⟩)
  · subst en2300
    refine m_astore_n F (lv' := [(3, .ref r2301), (0, .ref a), (1, .int (nI n2300)), (2, .int x902)]) e_X9_rate_5 (by decide) rfl ?_
    refine m_aload_n F rfl e_X9_rate_6 ?_
    refine m_ifnullR F e_X9_rate_7 ?_
    refine m_iload_n F rfl e_X9_rate_10 ?_
    refine m_if_lt F e_X9_rate_11 (fun q11 => ?_) (fun q11 => ?_)
    · refine m_ldc2 F kc_X9_184 e_X9_rate_20 ?_
      exact m_lret F hQ e_X9_rate_23 (⟨(h2297.mono (M' := M + 1) (Z' := Z) (by omega) (by intro e; first | rfl | assumption | omega)), _, rfl⟩)
    · obtain ⟨n2303, hn2303, rfl⟩ := nI_nn (x := x902) (fun e => q11 (Int32.lt_of_lt_of_le e (by decide)))
      have c11 : n2303 ≥ 0 := by have hh := mt (nI_ltI (a := n2303) (b := 0) (by omega) (by omega)).mpr q11; omega
      refine m_iload_n F rfl e_X9_rate_14 ?_
      refine m_ldc F kc_X9_206 e_X9_rate_15 ?_
      refine m_icmp_le F e_X9_rate_17 (fun q17 => ?_) (fun q17 => ?_)
      · have c17 : n2303 ≤ 200000 := (nI_leI (a := n2303) (b := 200000) (by omega) (by omega)).mp q17
        refine m_aload_n F rfl e_X9_rate_24 ?_
        refine t_callV F e_X9_rate_25 (s_X9_remember (x_l X) V b M Z T _ _ a  h2297.1 hk  (by omega)) cb_X9_remember ml_X9_97 im_X9_remember se_X9_remember (fun _ => o1) h2297 hk rfl rfl (rest := []) rfl (Nat.le_of_ble_eq_true rfl) ⟨Nat.le_of_ble_eq_true rfl, Nat.le_of_ble_eq_true rfl⟩ ⟨Nat.le_of_ble_eq_true rfl, Nat.le_of_ble_eq_true rfl⟩ (fun r σ2304 hp => ?_)
        obtain ⟨h2306, rfl⟩ := hp
        have h2305 := HK.trans h2297 h2306 (by decide)
        refine m_aload_n F rfl e_X9_rate_28 ?_
        refine m_iload_n F rfl e_X9_rate_29 ?_
        refine t_put F e_X9_rate_30 fp_X9_122 (fun _ => o15) h2305 k2302 rfl ⟨_, rfl⟩ rfl rfl (by decide) (fun σ2307 h2308 g2309 g2310 f2311 => ?_)
        refine m_aload_n F rfl e_X9_rate_33 ?_
        refine t_get F e_X9_rate_34 fl_X9_16 (fun _ => o1) h2308 hk rfl (fun v hv f2312 => ?_)
        obtain ⟨r2313, k2314, rfl⟩ := hv
        refine m_iload_n F rfl e_X9_rate_37 ?_
        refine m_aload_n F rfl e_X9_rate_38 ?_
        refine t_callV F e_X9_rate_39 (s_X2_remeasure (x_l X) V b M Z T _ _ r2313 (nI n2300) r2301 h2308.1 k2314 k2302 (by omega)) cb_X2_remeasure ml_X9_207 im_X2_remeasure se_X2_remeasure (fun _ => o7) h2308 k2314 rfl rfl (rest := []) rfl (Nat.le_of_ble_eq_true rfl) ⟨Nat.le_of_ble_eq_true rfl, Nat.le_of_ble_eq_true rfl⟩ ⟨Nat.le_of_ble_eq_true rfl, Nat.le_of_ble_eq_true rfl⟩ (fun r σ2315 hp => ?_)
        obtain ⟨h2317, x2318, rfl⟩ := hp
        have h2316 := HK.trans h2308 h2317 (by decide)
        exact m_lret F hQ e_X9_rate_42 (⟨h2316, _, rfl⟩)
      · have c17 : n2303 > 200000 := by have hh := mt (nI_leI (a := n2303) (b := 200000) (by omega) (by omega)).mpr q17; omega
        refine m_ldc2 F kc_X9_184 e_X9_rate_20 ?_
        exact m_lret F hQ e_X9_rate_23 (⟨(h2297.mono (M' := M + 1) (Z' := Z) (by omega) (by intro e; first | rfl | assumption | omega)), _, rfl⟩)
set_option maxRecDepth 20000 in
theorem s_X9_extend (l : Launch) (V : VX) (b M Z T N : Nat) (σ : Mem) (a : Nat) (x901 : Int32) (x902 : Int32) (h0 : HT V (b, M, Z, T) σ) (hk : kA b a = 1) (hM : M + 1 ≤ 1000000000) : Ct l V yX9_extend cX9_extend 4 (some .long) 5 0 0 N σ [.ref a, .int x901, .int x902] (fun r τ => HK V (b, M + 1, Z, T) [0, 2, 3, 4, 5, 8, 9, 16] σ τ ∧ ∃ x : Int64, r = some (.long x)) := by
  refine Ct.of (by decide) (Nat.le_of_ble_eq_true rfl) [(0, .ref a), (1, .int x901), (2, .int x902)] rfl (fun X hX F hQ => ?_)
  have h1 : HK V (b, M, Z, T) [0, 2, 3, 4, 5, 8, 9, 16] σ σ := HK.start h0
  refine m_aload_n F rfl e_X9_extend_0 ?_
  refine m_iload_n F rfl e_X9_extend_1 ?_
  refine t_callV F e_X9_extend_2 (s_X9_runningAt (x_l X) V b M Z T _ _ a x901 h1.1 hk  (by omega)) cb_X9_runningAt ml_X9_203 im_X9_runningAt se_X9_runningAt (fun _ => o1) h1 hk rfl rfl (rest := []) rfl (Nat.le_of_ble_eq_true rfl) ⟨Nat.le_of_ble_eq_true rfl, Nat.le_of_ble_eq_true rfl⟩ ⟨Nat.le_of_ble_eq_true rfl, Nat.le_of_ble_eq_true rfl⟩ (fun r σ2319 hp => ?_)
  obtain ⟨h2321, c2322⟩ := hp
  have h2320 := HK.trans h1 h2321 (by decide)
  rcases c2322 with rfl | ⟨n2323, r2324, hn2323, en2323, k2325, rfl⟩
  · refine m_astore_nN F (lv' := [(3, .null), (0, .ref a), (1, .int x901), (2, .int x902)]) e_X9_extend_5 (by decide) rfl ?_
    refine m_aload_nN F rfl e_X9_extend_6 ?_
    refine m_ifnullN F e_X9_extend_7 ?_
    refine m_ldc2 F kc_X9_184 e_X9_extend_32 ?_
    exact m_lret F hQ e_X9_extend_35 (⟨(h2320.mono (M' := M + 1) (Z' := Z) (by omega) (by intro e; first | rfl | assumption | omega)), _, rfl⟩)
  · subst en2323
    refine m_astore_n F (lv' := [(3, .ref r2324), (0, .ref a), (1, .int (nI n2323)), (2, .int x902)]) e_X9_extend_5 (by decide) rfl ?_
    refine m_aload_n F rfl e_X9_extend_6 ?_
    refine m_ifnullR F e_X9_extend_7 ?_
    refine m_iload_n F rfl e_X9_extend_10 ?_
    refine m_iconst F (v := 1) (by decide) e_X9_extend_11 ?_
    refine m_icmp_lt F e_X9_extend_12 (fun q12 => ?_) (fun q12 => ?_)
    · refine m_ldc2 F kc_X9_184 e_X9_extend_32 ?_
      exact m_lret F hQ e_X9_extend_35 (⟨(h2320.mono (M' := M + 1) (Z' := Z) (by omega) (by intro e; first | rfl | assumption | omega)), _, rfl⟩)
    · obtain ⟨n2326, hn2326, rfl⟩ := nI_nn (x := x902) (fun e => q12 (Int32.lt_of_lt_of_le e (by decide)))
      have c12 : n2326 ≥ 1 := by have hh := mt (nI_ltI (a := n2326) (b := 1) (by omega) (by omega)).mpr q12; omega
      refine m_iload_n F rfl e_X9_extend_15 ?_
      refine m_bipush F (v := 24) (by decide) e_X9_extend_16 ?_
      refine m_icmp_gt F e_X9_extend_18 (fun q18 => ?_) (fun q18 => ?_)
      · have c18 : n2326 > 24 := (nI_ltI (a := 24) (b := n2326) (by omega) (by omega)).mp q18
        refine m_ldc2 F kc_X9_184 e_X9_extend_32 ?_
        exact m_lret F hQ e_X9_extend_35 (⟨(h2320.mono (M' := M + 1) (Z' := Z) (by omega) (by intro e; first | rfl | assumption | omega)), _, rfl⟩)
      · have c18 : n2326 ≤ 24 := by have hh := mt (nI_ltI (a := 24) (b := n2326) (by omega) (by omega)).mpr q18; omega
        refine m_aload_n F rfl e_X9_extend_21 ?_
        refine t_get F e_X9_extend_22 fl_X9_119 (fun _ => o15) h2320 k2325 rfl (fun v hv f2327 => ?_)
        obtain ⟨x2328, rfl⟩ := hv
        refine m_iload_n F rfl e_X9_extend_25 ?_
        refine m_iadd F e_X9_extend_26 ?_
        refine Wm.top (fun x2329 _ => ?_)
        refine m_bipush F (v := 72) (by decide) e_X9_extend_27 ?_
        refine m_icmp_le F e_X9_extend_29 (fun q29 => ?_) (fun q29 => ?_)
        · refine m_aload_n F rfl e_X9_extend_36 ?_
          refine t_callV F e_X9_extend_37 (s_X9_remember (x_l X) V b M Z T _ _ a  h2320.1 hk  (by omega)) cb_X9_remember ml_X9_97 im_X9_remember se_X9_remember (fun _ => o1) h2320 hk rfl rfl (rest := []) rfl (Nat.le_of_ble_eq_true rfl) ⟨Nat.le_of_ble_eq_true rfl, Nat.le_of_ble_eq_true rfl⟩ ⟨Nat.le_of_ble_eq_true rfl, Nat.le_of_ble_eq_true rfl⟩ (fun r σ2330 hp => ?_)
          obtain ⟨h2332, rfl⟩ := hp
          have h2331 := HK.trans h2320 h2332 (by decide)
          refine m_aload_n F rfl e_X9_extend_40 ?_
          refine m_iload_n F rfl e_X9_extend_41 ?_
          refine t_callV F e_X9_extend_42 (s_X5_goOnAsLast (x_l X) V b M Z T _ _ r2324 n2326 h2331.1 k2325 (by omega) (by omega)) cb_X5_goOnAsLast ml_X9_211 im_X5_goOnAsLast se_X5_goOnAsLast (fun _ => o15) h2331 k2325 rfl rfl (rest := []) rfl (Nat.le_of_ble_eq_true rfl) ⟨Nat.le_of_ble_eq_true rfl, Nat.le_of_ble_eq_true rfl⟩ ⟨Nat.le_of_ble_eq_true rfl, Nat.le_of_ble_eq_true rfl⟩ (fun r σ2333 hp => ?_)
          obtain ⟨h2335, rfl⟩ := hp
          have h2334 := HK.trans h2331 h2335 (by decide)
          refine m_aload_n F rfl e_X9_extend_45 ?_
          refine t_get F e_X9_extend_46 fl_X9_16 (fun _ => o1) h2334 hk rfl (fun v hv f2336 => ?_)
          obtain ⟨r2337, k2338, rfl⟩ := hv
          refine m_iload_n F rfl e_X9_extend_49 ?_
          refine m_aload_n F rfl e_X9_extend_50 ?_
          refine t_callV F e_X9_extend_51 (s_X2_remeasure (x_l X) V b M Z T _ _ r2337 (nI n2323) r2324 h2334.1 k2338 k2325 (by omega)) cb_X2_remeasure ml_X9_207 im_X2_remeasure se_X2_remeasure (fun _ => o7) h2334 k2338 rfl rfl (rest := []) rfl (Nat.le_of_ble_eq_true rfl) ⟨Nat.le_of_ble_eq_true rfl, Nat.le_of_ble_eq_true rfl⟩ ⟨Nat.le_of_ble_eq_true rfl, Nat.le_of_ble_eq_true rfl⟩ (fun r σ2339 hp => ?_)
          obtain ⟨h2341, x2342, rfl⟩ := hp
          have h2340 := HK.trans h2334 h2341 (by decide)
          exact m_lret F hQ e_X9_extend_54 (⟨h2340, _, rfl⟩)
        · obtain ⟨n2343, hn2343, rfl⟩ := nI_nn (x := x2329) (fun e => q29 (Int32.le_trans (Int32.le_of_lt e) (by decide)))
          have c29 : n2343 > 72 := by have hh := mt (nI_leI (a := n2343) (b := 72) (by omega) (by omega)).mpr q29; omega
          refine m_ldc2 F kc_X9_184 e_X9_extend_32 ?_
          exact m_lret F hQ e_X9_extend_35 (⟨(h2320.mono (M' := M + 1) (Z' := Z) (by omega) (by intro e; first | rfl | assumption | omega)), _, rfl⟩)
set_option maxRecDepth 20000 in
theorem s_X9_take (l : Launch) (V : VX) (b M Z T N : Nat) (σ : Mem) (a : Nat) (x901 : Int32) (h0 : HT V (b, M, Z, T) σ) (hk : kA b a = 1) (hM : M + 1 ≤ 1000000000) : Ct l V yX9_take cX9_take 4 (some .long) 5 0 0 N σ [.ref a, .int x901] (fun r τ => HK V (b, M + 1, Z, T) [0, 2, 3, 4, 5, 8, 9, 16] σ τ ∧ ∃ x : Int64, r = some (.long x)) := by
  refine Ct.of (by decide) (Nat.le_of_ble_eq_true rfl) [(0, .ref a), (1, .int x901)] rfl (fun X hX F hQ => ?_)
  have h1 : HK V (b, M, Z, T) [0, 2, 3, 4, 5, 8, 9, 16] σ σ := HK.start h0
  refine m_aload_n F rfl e_X9_take_0 ?_
  refine t_get F e_X9_take_1 fl_X9_16 (fun _ => o1) h1 hk rfl (fun v hv f2344 => ?_)
  obtain ⟨r2345, k2346, rfl⟩ := hv
  refine m_iload_n F rfl e_X9_take_4 ?_
  refine t_callV F e_X9_take_5 (s_X2_canTake (x_l X) V b M Z T _ _ r2345 x901 h1.1 k2346  (by omega)) cb_X2_canTake ml_X9_214 im_X2_canTake se_X2_canTake (fun _ => o7) h1 k2346 rfl rfl (rest := []) rfl (Nat.le_of_ble_eq_true rfl) ⟨Nat.le_of_ble_eq_true rfl, Nat.le_of_ble_eq_true rfl⟩ ⟨Nat.le_of_ble_eq_true rfl, Nat.le_of_ble_eq_true rfl⟩ (fun r σ2347 hp => ?_)
  obtain ⟨h2349, c2350⟩ := hp
  have h2348 := HK.trans h1 h2349 (by decide)
  rcases c2350 with rfl | ⟨n2351, hn2351, en2351, rfl⟩
  · refine m_if_ne F e_X9_take_8 (fun q => absurd (by decide) q) (fun _ => ?_)
    refine m_ldc2 F kc_X9_184 e_X9_take_11 ?_
    exact m_lret F hQ e_X9_take_14 (⟨(h2348.mono (M' := M + 1) (Z' := Z) (by omega) (by intro e; first | rfl | assumption | omega)), _, rfl⟩)
  · subst en2351
    refine m_if_ne F e_X9_take_8 (fun _ => ?_) (fun q => absurd q (by decide))
    refine m_aload_n F rfl e_X9_take_15 ?_
    refine t_callV F e_X9_take_16 (s_X9_remember (x_l X) V b M Z T _ _ a  h2348.1 hk  (by omega)) cb_X9_remember ml_X9_97 im_X9_remember se_X9_remember (fun _ => o1) h2348 hk rfl rfl (rest := []) rfl (Nat.le_of_ble_eq_true rfl) ⟨Nat.le_of_ble_eq_true rfl, Nat.le_of_ble_eq_true rfl⟩ ⟨Nat.le_of_ble_eq_true rfl, Nat.le_of_ble_eq_true rfl⟩ (fun r σ2352 hp => ?_)
    obtain ⟨h2354, rfl⟩ := hp
    have h2353 := HK.trans h2348 h2354 (by decide)
    refine m_aload_n F rfl e_X9_take_19 ?_
    refine t_get F e_X9_take_20 fl_X9_16 (fun _ => o1) h2353 hk rfl (fun v hv f2355 => ?_)
    obtain ⟨r2356, k2357, rfl⟩ := hv
    refine t_get F e_X9_take_23 fl_X9_217 (fun _ => o7) h2353 k2357 rfl (fun v hv f2358 => ?_)
    obtain rfl : v = .ref (r2356 + 2) := hv
    refine m_iload_n F rfl e_X9_take_26 ?_
    refine t_aald9 F (j := n2351) e_X9_take_27 rfl h2353 (kA_7 k2357 (r := 2) (by decide)) (nI_clamp (by omega)) (vp_in_nI (by omega) (by decide)) ?_
    refine m_astore_n F (lv' := [(2, .ref ((r2356 + 2) + 57 + n2351)), (0, .ref a), (1, .int (nI n2351))]) e_X9_take_28 (by decide) rfl ?_
    refine m_aload_n F rfl e_X9_take_29 ?_
    refine m_iconst F (v := 1) (by decide) e_X9_take_30 ?_
    refine t_put F e_X9_take_31 fp_X9_221 (fun _ => o19) h2353 (kA_9 (kA_7 k2357 (r := 2) (by decide)) (j := n2351) (by omega)) rfl ⟨1, (show 1 ≤ 1 by omega), rfl⟩ (by decide) rfl (by decide) (fun σ2359 h2360 g2361 g2362 f2363 => ?_)
    refine m_aload_n F rfl e_X9_take_34 ?_
    refine t_getC F e_X9_take_35 fl_X9_16 (fun _ => o1) h2360 hk ((g2361 a 2 (fun e => absurd ((hk).symm.trans e) (by decide))).trans f2355) ?_
    refine t_get F e_X9_take_38 fl_X9_226 (fun _ => o7) h2360 k2357 rfl (fun v hv f2364 => ?_)
    obtain rfl : v = .ref (r2356 + 1) := hv
    refine m_aload_n F rfl e_X9_take_41 ?_
    refine t_get F e_X9_take_42 fl_X9_230 (fun _ => o19) h2360 (kA_9 (kA_7 k2357 (r := 2) (by decide)) (j := n2351) (by omega)) rfl (fun v hv f2365 => ?_)
    obtain ⟨n2366, hn2366, rfl⟩ := hv
    replace hn2366 : n2366 ≤ 3 := hn2366
    refine t_aald8 F (j := n2366) e_X9_take_45 rfl h2360 (kA_7 k2357 (r := 1) (by decide)) (nI_clamp (by omega)) (vp_in_nI (by omega) (by decide)) ?_
    refine m_astore_n F (lv' := [(3, .ref ((r2356 + 1) + 10 + 12 * n2366)), (2, .ref ((r2356 + 2) + 57 + n2351)), (0, .ref a), (1, .int (nI n2351))]) e_X9_take_46 (by decide) rfl ?_
    refine m_aload_n F rfl e_X9_take_47 ?_
    refine t_getC F e_X9_take_48 fl_X9_16 (fun _ => o1) h2360 hk ((g2361 a 2 (fun e => absurd ((hk).symm.trans e) (by decide))).trans f2355) ?_
    refine m_aload_n F rfl e_X9_take_51 ?_
    refine m_aload_n F rfl e_X9_take_52 ?_
    refine t_callV F e_X9_take_53 (s_X2_goOnByOption (x_l X) V b M Z T _ _ r2356 ((r2356 + 1) + 10 + 12 * n2366) ((r2356 + 2) + 57 + n2351) h2360.1 k2357 (kA_8 (kA_7 k2357 (r := 1) (by decide)) (j := n2366) (by omega)) (kA_9 (kA_7 k2357 (r := 2) (by decide)) (j := n2351) (by omega)) (by omega)) cb_X2_goOnByOption ml_X9_233 im_X2_goOnByOption se_X2_goOnByOption (fun _ => o7) h2360 k2357 rfl rfl (rest := []) rfl (Nat.le_of_ble_eq_true rfl) ⟨Nat.le_of_ble_eq_true rfl, Nat.le_of_ble_eq_true rfl⟩ ⟨Nat.le_of_ble_eq_true rfl, Nat.le_of_ble_eq_true rfl⟩ (fun r σ2367 hp => ?_)
    obtain ⟨h2369, rfl⟩ := hp
    have h2368 := HK.trans h2360 h2369 (by decide)
    refine m_aload_n F rfl e_X9_take_56 ?_
    refine t_getC F e_X9_take_57 fl_X9_16 (fun _ => o1) h2368 hk ((fld_eq (h2369.2 a (by rw [show kA _ a = 1 from hk]; decide))).trans ((g2361 a 2 (fun e => absurd ((hk).symm.trans e) (by decide))).trans f2355)) ?_
    refine m_aload_n F rfl e_X9_take_60 ?_
    refine t_getC F e_X9_take_61 fl_X9_230 (fun _ => o19) h2368 (kA_9 (kA_7 k2357 (r := 2) (by decide)) (j := n2351) (by omega)) ((fld_eq (h2369.2 ((r2356 + 2) + 57 + n2351) (by rw [show kA _ ((r2356 + 2) + 57 + n2351) = 19 from (kA_9 (kA_7 k2357 (r := 2) (by decide)) (j := n2351) (by omega))]; decide))).trans f2365) ?_
    refine m_aload_n F rfl e_X9_take_64 ?_
    refine t_callV F e_X9_take_65 (s_X2_remeasure (x_l X) V b M Z T _ _ r2356 (nI n2366) ((r2356 + 1) + 10 + 12 * n2366) h2368.1 k2357 (kA_8 (kA_7 k2357 (r := 1) (by decide)) (j := n2366) (by omega)) (by omega)) cb_X2_remeasure ml_X9_207 im_X2_remeasure se_X2_remeasure (fun _ => o7) h2368 k2357 rfl rfl (rest := []) rfl (Nat.le_of_ble_eq_true rfl) ⟨Nat.le_of_ble_eq_true rfl, Nat.le_of_ble_eq_true rfl⟩ ⟨Nat.le_of_ble_eq_true rfl, Nat.le_of_ble_eq_true rfl⟩ (fun r σ2370 hp => ?_)
    obtain ⟨h2372, x2373, rfl⟩ := hp
    have h2371 := HK.trans h2368 h2372 (by decide)
    exact m_lret F hQ e_X9_take_68 (⟨h2371, _, rfl⟩)
set_option maxRecDepth 20000 in
theorem s_X9_part (l : Launch) (V : VX) (b M Z T N : Nat) (σ : Mem) (a : Nat) (x901 : Int32) (x902 : Int32) (h0 : HT V (b, M, Z, T) σ) (hk : kA b a = 1) (hM : M + 1 ≤ 1000000000) : Ct l V yX9_part cX9_part 6 (some .long) 5 0 0 N σ [.ref a, .int x901, .int x902] (fun r τ => HK V (b, M + 1, Z, T) [0, 2, 3, 4, 5, 8, 9, 16] σ τ ∧ ∃ x : Int64, r = some (.long x)) := by
  refine Ct.of (by decide) (Nat.le_of_ble_eq_true rfl) [(0, .ref a), (1, .int x901), (2, .int x902)] rfl (fun X hX F hQ => ?_)
  have h1 : HK V (b, M, Z, T) [0, 2, 3, 4, 5, 8, 9, 16] σ σ := HK.start h0
  refine m_aload_n F rfl e_X9_part_0 ?_
  refine m_iload_n F rfl e_X9_part_1 ?_
  refine t_callV F e_X9_part_2 (s_X9_runningAt (x_l X) V b M Z T _ _ a x901 h1.1 hk  (by omega)) cb_X9_runningAt ml_X9_203 im_X9_runningAt se_X9_runningAt (fun _ => o1) h1 hk rfl rfl (rest := []) rfl (Nat.le_of_ble_eq_true rfl) ⟨Nat.le_of_ble_eq_true rfl, Nat.le_of_ble_eq_true rfl⟩ ⟨Nat.le_of_ble_eq_true rfl, Nat.le_of_ble_eq_true rfl⟩ (fun r σ2374 hp => ?_)
  obtain ⟨h2376, c2377⟩ := hp
  have h2375 := HK.trans h1 h2376 (by decide)
  rcases c2377 with rfl | ⟨n2378, r2379, hn2378, en2378, k2380, rfl⟩
  · refine m_astore_nN F (lv' := [(3, .null), (0, .ref a), (1, .int x901), (2, .int x902)]) e_X9_part_5 (by decide) rfl ?_
    refine m_aload_nN F rfl e_X9_part_6 ?_
    refine m_ifnullN F e_X9_part_7 ?_
    refine m_ldc2 F kc_X9_184 e_X9_part_22 ?_
    exact m_lret F hQ e_X9_part_25 (⟨(h2375.mono (M' := M + 1) (Z' := Z) (by omega) (by intro e; first | rfl | assumption | omega)), _, rfl⟩)
  · subst en2378
    refine m_astore_n F (lv' := [(3, .ref r2379), (0, .ref a), (1, .int (nI n2378)), (2, .int x902)]) e_X9_part_5 (by decide) rfl ?_
    refine m_aload_n F rfl e_X9_part_6 ?_
    refine m_ifnullR F e_X9_part_7 ?_
    refine m_iload_n F rfl e_X9_part_10 ?_
    refine m_iconst F (v := 1) (by decide) e_X9_part_11 ?_
    refine m_icmp_lt F e_X9_part_12 (fun q12 => ?_) (fun q12 => ?_)
    · refine m_ldc2 F kc_X9_184 e_X9_part_22 ?_
      exact m_lret F hQ e_X9_part_25 (⟨(h2375.mono (M' := M + 1) (Z' := Z) (by omega) (by intro e; first | rfl | assumption | omega)), _, rfl⟩)
    · obtain ⟨n2381, hn2381, rfl⟩ := nI_nn (x := x902) (fun e => q12 (Int32.lt_of_lt_of_le e (by decide)))
      have c12 : n2381 ≥ 1 := by have hh := mt (nI_ltI (a := n2381) (b := 1) (by omega) (by omega)).mpr q12; omega
      refine m_iload_n F rfl e_X9_part_15 ?_
      refine m_sipush F (v := 999) (by decide) e_X9_part_16 ?_
      refine m_icmp_le F e_X9_part_19 (fun q19 => ?_) (fun q19 => ?_)
      · have c19 : n2381 ≤ 999 := (nI_leI (a := n2381) (b := 999) (by omega) (by omega)).mp q19
        refine m_aload_n F rfl e_X9_part_26 ?_
        refine t_callV F e_X9_part_27 (s_X9_remember (x_l X) V b M Z T _ _ a  h2375.1 hk  (by omega)) cb_X9_remember ml_X9_97 im_X9_remember se_X9_remember (fun _ => o1) h2375 hk rfl rfl (rest := []) rfl (Nat.le_of_ble_eq_true rfl) ⟨Nat.le_of_ble_eq_true rfl, Nat.le_of_ble_eq_true rfl⟩ ⟨Nat.le_of_ble_eq_true rfl, Nat.le_of_ble_eq_true rfl⟩ (fun r σ2382 hp => ?_)
        obtain ⟨h2384, rfl⟩ := hp
        have h2383 := HK.trans h2375 h2384 (by decide)
        refine m_aload_n F rfl e_X9_part_30 ?_
        refine t_get F e_X9_part_31 fl_X9_16 (fun _ => o1) h2383 hk rfl (fun v hv f2385 => ?_)
        obtain ⟨r2386, k2387, rfl⟩ := hv
        refine m_iload_n F rfl e_X9_part_34 ?_
        refine m_aload_n F rfl e_X9_part_35 ?_
        refine m_iload_n F rfl e_X9_part_36 ?_
        refine m_i2l F e_X9_part_37 ?_
        refine Wm.topl (fun x2388 _ => ?_)
        refine m_iconst F (v := 3) (by decide) e_X9_part_38 ?_
        refine t_callV F e_X9_part_39 (s_X2_giveBack (x_l X) V b M Z T _ _ r2386 (nI n2378) r2379 x2388 3 h2383.1 k2387 k2380 (by omega)) cb_X2_giveBack ml_X9_237 im_X2_giveBack se_X2_giveBack (fun _ => o7) h2383 k2387 rfl rfl (rest := []) rfl (Nat.le_of_ble_eq_true rfl) ⟨Nat.le_of_ble_eq_true rfl, Nat.le_of_ble_eq_true rfl⟩ ⟨Nat.le_of_ble_eq_true rfl, Nat.le_of_ble_eq_true rfl⟩ (fun r σ2389 hp => ?_)
        obtain ⟨h2391, x2392, rfl⟩ := hp
        have h2390 := HK.trans h2383 h2391 (by decide)
        refine m_lstore F (lv' := [(4, .long x2392), (3, .ref r2379), (0, .ref a), (1, .int (nI n2378)), (2, .int (nI n2381))]) e_X9_part_42 (by decide) rfl ?_
        refine m_aload_n F rfl e_X9_part_44 ?_
        refine m_ldc2 F kc_X9_241 e_X9_part_45 ?_
        refine m_iload_n F rfl e_X9_part_48 ?_
        refine m_i2l F e_X9_part_49 ?_
        refine Wm.topl (fun x2393 _ => ?_)
        refine m_lsub F e_X9_part_50 ?_
        refine Wm.topl (fun x2394 _ => ?_)
        refine t_callV F e_X9_part_51 (s_X5_keepPart (x_l X) V b (M + 1) Z T _ _ r2379 x2394 h2390.1 k2380  (by omega)) cb_X5_keepPart ml_X9_243 im_X5_keepPart se_X5_keepPart (fun _ => o15) h2390 k2380 rfl rfl (rest := []) rfl (Nat.le_of_ble_eq_true rfl) ⟨Nat.le_of_ble_eq_true rfl, Nat.le_of_ble_eq_true rfl⟩ ⟨Nat.le_of_ble_eq_true rfl, Nat.le_of_ble_eq_true rfl⟩ (fun r σ2395 hp => ?_)
        obtain ⟨h2397, rfl⟩ := hp
        have h2396 := HK.trans h2390 h2397 (by decide)
        refine m_lload F rfl e_X9_part_54 ?_
        exact m_lret F hQ e_X9_part_56 (⟨h2396, _, rfl⟩)
      · have c19 : n2381 > 999 := by have hh := mt (nI_leI (a := n2381) (b := 999) (by omega) (by omega)).mpr q19; omega
        refine m_ldc2 F kc_X9_184 e_X9_part_22 ?_
        exact m_lret F hQ e_X9_part_25 (⟨(h2375.mono (M' := M + 1) (Z' := Z) (by omega) (by intro e; first | rfl | assumption | omega)), _, rfl⟩)
set_option maxRecDepth 20000 in
theorem s_X9_end (l : Launch) (V : VX) (b M Z T N : Nat) (σ : Mem) (a : Nat) (x901 : Int32) (h0 : HT V (b, M, Z, T) σ) (hk : kA b a = 1) (hM : M + 1 ≤ 1000000000) : Ct l V yX9_end cX9_end 3 (some .long) 5 0 0 N σ [.ref a, .int x901] (fun r τ => HK V (b, M + 1, Z, T) [0, 2, 3, 4, 5, 8, 9, 16] σ τ ∧ ∃ x : Int64, r = some (.long x)) := by
  refine Ct.of (by decide) (Nat.le_of_ble_eq_true rfl) [(0, .ref a), (1, .int x901)] rfl (fun X hX F hQ => ?_)
  have h1 : HK V (b, M, Z, T) [0, 2, 3, 4, 5, 8, 9, 16] σ σ := HK.start h0
  refine m_aload_n F rfl e_X9_end_0 ?_
  refine m_iload_n F rfl e_X9_end_1 ?_
  refine t_callV F e_X9_end_2 (s_X9_runningAt (x_l X) V b M Z T _ _ a x901 h1.1 hk  (by omega)) cb_X9_runningAt ml_X9_203 im_X9_runningAt se_X9_runningAt (fun _ => o1) h1 hk rfl rfl (rest := []) rfl (Nat.le_of_ble_eq_true rfl) ⟨Nat.le_of_ble_eq_true rfl, Nat.le_of_ble_eq_true rfl⟩ ⟨Nat.le_of_ble_eq_true rfl, Nat.le_of_ble_eq_true rfl⟩ (fun r σ2398 hp => ?_)
  obtain ⟨h2400, c2401⟩ := hp
  have h2399 := HK.trans h1 h2400 (by decide)
  rcases c2401 with rfl | ⟨n2402, r2403, hn2402, en2402, k2404, rfl⟩
  · refine m_astore_nN F (lv' := [(2, .null), (0, .ref a), (1, .int x901)]) e_X9_end_5 (by decide) rfl ?_
    refine m_aload_nN F rfl e_X9_end_6 ?_
    refine m_ifnonnullN F e_X9_end_7 ?_
    refine m_ldc2 F kc_X9_184 e_X9_end_10 ?_
    exact m_lret F hQ e_X9_end_13 (⟨(h2399.mono (M' := M + 1) (Z' := Z) (by omega) (by intro e; first | rfl | assumption | omega)), _, rfl⟩)
  · subst en2402
    refine m_astore_n F (lv' := [(2, .ref r2403), (0, .ref a), (1, .int (nI n2402))]) e_X9_end_5 (by decide) rfl ?_
    refine m_aload_n F rfl e_X9_end_6 ?_
    refine m_ifnonnullR F e_X9_end_7 ?_
    refine m_aload_n F rfl e_X9_end_14 ?_
    refine t_callV F e_X9_end_15 (s_X9_remember (x_l X) V b M Z T _ _ a  h2399.1 hk  (by omega)) cb_X9_remember ml_X9_97 im_X9_remember se_X9_remember (fun _ => o1) h2399 hk rfl rfl (rest := []) rfl (Nat.le_of_ble_eq_true rfl) ⟨Nat.le_of_ble_eq_true rfl, Nat.le_of_ble_eq_true rfl⟩ ⟨Nat.le_of_ble_eq_true rfl, Nat.le_of_ble_eq_true rfl⟩ (fun r σ2405 hp => ?_)
    obtain ⟨h2407, rfl⟩ := hp
    have h2406 := HK.trans h2399 h2407 (by decide)
    refine m_aload_n F rfl e_X9_end_18 ?_
    refine m_iconst F (v := 2) (by decide) e_X9_end_19 ?_
    refine t_put F e_X9_end_20 fp_X9_125 (fun _ => o15) h2406 k2404 rfl ⟨_, rfl⟩ rfl rfl (by decide) (fun σ2408 h2409 g2410 g2411 f2412 => ?_)
    refine m_aload_n F rfl e_X9_end_23 ?_
    refine t_get F e_X9_end_24 fl_X9_16 (fun _ => o1) h2409 hk rfl (fun v hv f2413 => ?_)
    obtain ⟨r2414, k2415, rfl⟩ := hv
    refine m_iload_n F rfl e_X9_end_27 ?_
    refine m_aload_n F rfl e_X9_end_28 ?_
    refine m_ldc2 F kc_X9_241 e_X9_end_29 ?_
    refine m_iconst F (v := 4) (by decide) e_X9_end_32 ?_
    refine t_callV F e_X9_end_33 (s_X2_giveBack (x_l X) V b M Z T _ _ r2414 (nI n2402) r2403 1000 4 h2409.1 k2415 k2404 (by omega)) cb_X2_giveBack ml_X9_237 im_X2_giveBack se_X2_giveBack (fun _ => o7) h2409 k2415 rfl rfl (rest := []) rfl (Nat.le_of_ble_eq_true rfl) ⟨Nat.le_of_ble_eq_true rfl, Nat.le_of_ble_eq_true rfl⟩ ⟨Nat.le_of_ble_eq_true rfl, Nat.le_of_ble_eq_true rfl⟩ (fun r σ2416 hp => ?_)
    obtain ⟨h2418, x2419, rfl⟩ := hp
    have h2417 := HK.trans h2409 h2418 (by decide)
    exact m_lret F hQ e_X9_end_36 (⟨h2417, _, rfl⟩)
set_option maxRecDepth 20000 in
theorem s_X9_down (l : Launch) (V : VX) (b M Z T N : Nat) (σ : Mem) (a : Nat) (x901 : Int32) (x902 : Int64) (h0 : HT V (b, M, Z, T) σ) (hk : kA b a = 1) (hM : M + 1 ≤ 1000000000) : Ct l V yX9_down cX9_down 5 (some .long) 5 0 0 N σ [.ref a, .int x901, .long x902] (fun r τ => HK V (b, M + 1, Z, T) [0, 2, 3, 4, 5, 8, 9, 16] σ τ ∧ ∃ x : Int64, r = some (.long x)) := by
  refine Ct.of (by decide) (Nat.le_of_ble_eq_true rfl) [(0, .ref a), (1, .int x901), (2, .long x902)] rfl (fun X hX F hQ => ?_)
  have h1 : HK V (b, M, Z, T) [0, 2, 3, 4, 5, 8, 9, 16] σ σ := HK.start h0
  refine m_aload_n F rfl e_X9_down_0 ?_
  refine m_iload_n F rfl e_X9_down_1 ?_
  refine t_callV F e_X9_down_2 (s_X9_runningAt (x_l X) V b M Z T _ _ a x901 h1.1 hk  (by omega)) cb_X9_runningAt ml_X9_203 im_X9_runningAt se_X9_runningAt (fun _ => o1) h1 hk rfl rfl (rest := []) rfl (Nat.le_of_ble_eq_true rfl) ⟨Nat.le_of_ble_eq_true rfl, Nat.le_of_ble_eq_true rfl⟩ ⟨Nat.le_of_ble_eq_true rfl, Nat.le_of_ble_eq_true rfl⟩ (fun r σ2420 hp => ?_)
  obtain ⟨h2422, c2423⟩ := hp
  have h2421 := HK.trans h1 h2422 (by decide)
  rcases c2423 with rfl | ⟨n2424, r2425, hn2424, en2424, k2426, rfl⟩
  · refine m_astoreN F (lv' := [(4, .null), (0, .ref a), (1, .int x901), (2, .long x902)]) e_X9_down_5 (by decide) rfl ?_
    refine m_aloadN F rfl e_X9_down_7 ?_
    refine m_ifnullN F e_X9_down_9 ?_
    refine m_ldc2 F kc_X9_184 e_X9_down_30 ?_
    exact m_lret F hQ e_X9_down_33 (⟨(h2421.mono (M' := M + 1) (Z' := Z) (by omega) (by intro e; first | rfl | assumption | omega)), _, rfl⟩)
  · subst en2424
    refine m_astore F (lv' := [(4, .ref r2425), (0, .ref a), (1, .int (nI n2424)), (2, .long x902)]) e_X9_down_5 (by decide) rfl ?_
    refine m_aload F rfl e_X9_down_7 ?_
    refine m_ifnullR F e_X9_down_9 ?_
    refine m_lload_n F rfl e_X9_down_12 ?_
    refine m_lconst F (v := 1) (by decide) e_X9_down_13 ?_
    refine m_lcmp F e_X9_down_14 ?_
    refine Wm.top (fun x2427 _ => ?_)
    refine m_if_lt F e_X9_down_15 (fun q15 => ?_) (fun q15 => ?_)
    · refine m_ldc2 F kc_X9_184 e_X9_down_30 ?_
      exact m_lret F hQ e_X9_down_33 (⟨(h2421.mono (M' := M + 1) (Z' := Z) (by omega) (by intro e; first | rfl | assumption | omega)), _, rfl⟩)
    · obtain ⟨n2428, hn2428, rfl⟩ := nI_nn (x := x2427) (fun e => q15 (Int32.lt_of_lt_of_le e (by decide)))
      have c15 : n2428 ≥ 0 := by have hh := mt (nI_ltI (a := n2428) (b := 0) (by omega) (by omega)).mpr q15; omega
      refine m_aload F rfl e_X9_down_18 ?_
      refine t_get F e_X9_down_20 fl_X9_154 (fun _ => o15) h2421 k2426 rfl (fun v hv f2429 => ?_)
      obtain ⟨r2430, k2431, rfl⟩ := hv
      refine m_lload_n F rfl e_X9_down_23 ?_
      refine t_callV F e_X9_down_24 (s_X1_isAtLeast (x_l X) V b M Z T _ _ r2430 x902 h2421.1 k2431  (by omega)) cb_X1_isAtLeast ml_X9_247 im_X1_isAtLeast se_X1_isAtLeast (fun _ => o6) h2421 k2431 rfl rfl (rest := []) rfl (Nat.le_of_ble_eq_true rfl) ⟨Nat.le_of_ble_eq_true rfl, Nat.le_of_ble_eq_true rfl⟩ ⟨Nat.le_of_ble_eq_true rfl, Nat.le_of_ble_eq_true rfl⟩ (fun r σ2432 hp => ?_)
      obtain ⟨h2434, n2435, hn2435, rfl⟩ := hp
      have h2433 := HK.trans h2421 h2434 (by decide)
      refine m_if_ne F e_X9_down_27 (fun q27 => ?_) (fun q27 => ?_)
      · have c27 : n2435 ≠ 0 := by have hh := mt (nI_eq (a := n2435) (b := 0) (by omega) (by omega)).mpr q27; omega
        refine m_aload_n F rfl e_X9_down_34 ?_
        refine t_callV F e_X9_down_35 (s_X9_remember (x_l X) V b M Z T _ _ a  h2433.1 hk  (by omega)) cb_X9_remember ml_X9_97 im_X9_remember se_X9_remember (fun _ => o1) h2433 hk rfl rfl (rest := []) rfl (Nat.le_of_ble_eq_true rfl) ⟨Nat.le_of_ble_eq_true rfl, Nat.le_of_ble_eq_true rfl⟩ ⟨Nat.le_of_ble_eq_true rfl, Nat.le_of_ble_eq_true rfl⟩ (fun r σ2436 hp => ?_)
        obtain ⟨h2438, rfl⟩ := hp
        have h2437 := HK.trans h2433 h2438 (by decide)
        refine m_aload_n F rfl e_X9_down_38 ?_
        refine t_get F e_X9_down_39 fl_X9_16 (fun _ => o1) h2437 hk rfl (fun v hv f2439 => ?_)
        obtain ⟨r2440, k2441, rfl⟩ := hv
        refine m_iload_n F rfl e_X9_down_42 ?_
        refine m_aload F rfl e_X9_down_43 ?_
        refine m_lload_n F rfl e_X9_down_45 ?_
        refine t_callV F e_X9_down_46 (s_X2_writeDown (x_l X) V b M Z T _ _ r2440 (nI n2424) r2425 x902 h2437.1 k2441 k2426 (by omega)) cb_X2_writeDown ml_X9_251 im_X2_writeDown se_X2_writeDown (fun _ => o7) h2437 k2441 rfl rfl (rest := []) rfl (Nat.le_of_ble_eq_true rfl) ⟨Nat.le_of_ble_eq_true rfl, Nat.le_of_ble_eq_true rfl⟩ ⟨Nat.le_of_ble_eq_true rfl, Nat.le_of_ble_eq_true rfl⟩ (fun r σ2442 hp => ?_)
        obtain ⟨h2444, rfl⟩ := hp
        have h2443 := HK.trans h2437 h2444 (by decide)
        refine m_aload F rfl e_X9_down_49 ?_
        refine t_get F e_X9_down_51 fl_X9_154 (fun _ => o15) h2443 k2426 rfl (fun v hv f2445 => ?_)
        obtain ⟨r2446, k2447, rfl⟩ := hv
        refine t_callV F e_X9_down_54 (s_X1_asLong (x_l X) V b (M + 1) Z T _ _ r2446  h2443.1 k2447  (by omega)) cb_X1_asLong ml_X9_157 im_X1_asLong se_X1_asLong (fun _ => o6) h2443 k2447 rfl rfl (rest := []) rfl (Nat.le_of_ble_eq_true rfl) ⟨Nat.le_of_ble_eq_true rfl, Nat.le_of_ble_eq_true rfl⟩ ⟨Nat.le_of_ble_eq_true rfl, Nat.le_of_ble_eq_true rfl⟩ (fun r σ2448 hp => ?_)
        obtain ⟨h2450, x2451, rfl⟩ := hp
        have h2449 := HK.trans h2443 h2450 (by decide)
        exact m_lret F hQ e_X9_down_57 (⟨h2449, _, rfl⟩)
      · have c27 : n2435 = 0 := (nI_eq (a := n2435) (b := 0) (by omega) (by omega)).mp q27
        refine m_ldc2 F kc_X9_184 e_X9_down_30 ?_
        exact m_lret F hQ e_X9_down_33 (⟨(h2433.mono (M' := M + 1) (Z' := Z) (by omega) (by intro e; first | rfl | assumption | omega)), _, rfl⟩)
set_option maxRecDepth 20000 in
theorem s_X9_putOff (l : Launch) (V : VX) (b M Z T N : Nat) (σ : Mem) (a : Nat) (x901 : Int32) (x902 : Int32) (x903 : Int32) (h0 : HT V (b, M, Z, T) σ) (hk : kA b a = 1) (hM : M + 1 ≤ 1000000000) : Ct l V yX9_putOff cX9_putOff 5 (some .long) 5 0 0 N σ [.ref a, .int x901, .int x902, .int x903] (fun r τ => HK V (b, M + 1, Z, T) [0, 2, 3, 4, 5, 8, 9, 16] σ τ ∧ ∃ x : Int64, r = some (.long x)) := by
  refine Ct.of (by decide) (Nat.le_of_ble_eq_true rfl) [(0, .ref a), (1, .int x901), (2, .int x902), (3, .int x903)] rfl (fun X hX F hQ => ?_)
  have h1 : HK V (b, M, Z, T) [0, 2, 3, 4, 5, 8, 9, 16] σ σ := HK.start h0
  refine m_aload_n F rfl e_X9_putOff_0 ?_
  refine m_iload_n F rfl e_X9_putOff_1 ?_
  refine t_callV F e_X9_putOff_2 (s_X9_runningAt (x_l X) V b M Z T _ _ a x901 h1.1 hk  (by omega)) cb_X9_runningAt ml_X9_203 im_X9_runningAt se_X9_runningAt (fun _ => o1) h1 hk rfl rfl (rest := []) rfl (Nat.le_of_ble_eq_true rfl) ⟨Nat.le_of_ble_eq_true rfl, Nat.le_of_ble_eq_true rfl⟩ ⟨Nat.le_of_ble_eq_true rfl, Nat.le_of_ble_eq_true rfl⟩ (fun r σ2452 hp => ?_)
  obtain ⟨h2454, c2455⟩ := hp
  have h2453 := HK.trans h1 h2454 (by decide)
  rcases c2455 with rfl | ⟨n2456, r2457, hn2456, en2456, k2458, rfl⟩
  · refine m_astoreN F (lv' := [(4, .null), (0, .ref a), (1, .int x901), (2, .int x902), (3, .int x903)]) e_X9_putOff_5 (by decide) rfl ?_
    refine m_aloadN F rfl e_X9_putOff_7 ?_
    refine m_ifnullN F e_X9_putOff_9 ?_
    refine m_ldc2 F kc_X9_184 e_X9_putOff_44 ?_
    exact m_lret F hQ e_X9_putOff_47 (⟨(h2453.mono (M' := M + 1) (Z' := Z) (by omega) (by intro e; first | rfl | assumption | omega)), _, rfl⟩)
  · subst en2456
    refine m_astore F (lv' := [(4, .ref r2457), (0, .ref a), (1, .int (nI n2456)), (2, .int x902), (3, .int x903)]) e_X9_putOff_5 (by decide) rfl ?_
    refine m_aload F rfl e_X9_putOff_7 ?_
    refine m_ifnullR F e_X9_putOff_9 ?_
    refine m_iload_n F rfl e_X9_putOff_12 ?_
    refine m_aload F rfl e_X9_putOff_13 ?_
    refine t_get F e_X9_putOff_15 fl_X9_255 (fun _ => o15) h2453 k2458 rfl (fun v hv f2459 => ?_)
    obtain ⟨x2460, rfl⟩ := hv
    refine m_icmp_le F e_X9_putOff_18 (fun q18 => ?_) (fun q18 => ?_)
    · refine m_ldc2 F kc_X9_184 e_X9_putOff_44 ?_
      exact m_lret F hQ e_X9_putOff_47 (⟨(h2453.mono (M' := M + 1) (Z' := Z) (by omega) (by intro e; first | rfl | assumption | omega)), _, rfl⟩)
    · refine m_iload_n F rfl e_X9_putOff_21 ?_
      refine m_iload_n F rfl e_X9_putOff_22 ?_
      refine m_icmp_ge F e_X9_putOff_23 (fun q23 => ?_) (fun q23 => ?_)
      · refine m_ldc2 F kc_X9_184 e_X9_putOff_44 ?_
        exact m_lret F hQ e_X9_putOff_47 (⟨(h2453.mono (M' := M + 1) (Z' := Z) (by omega) (by intro e; first | rfl | assumption | omega)), _, rfl⟩)
      · refine m_aload F rfl e_X9_putOff_26 ?_
        refine m_iload_n F rfl e_X9_putOff_28 ?_
        refine t_callV F e_X9_putOff_29 (s_X5_owns (x_l X) V b M Z T _ _ r2457 x902 h2453.1 k2458  (by omega)) cb_X5_owns ml_X9_161 im_X5_owns se_X5_owns (fun _ => o15) h2453 k2458 rfl rfl (rest := []) rfl (Nat.le_of_ble_eq_true rfl) ⟨Nat.le_of_ble_eq_true rfl, Nat.le_of_ble_eq_true rfl⟩ ⟨Nat.le_of_ble_eq_true rfl, Nat.le_of_ble_eq_true rfl⟩ (fun r σ2461 hp => ?_)
        obtain ⟨h2463, n2464, hn2464, rfl⟩ := hp
        have h2462 := HK.trans h2453 h2463 (by decide)
        refine m_if_eq F e_X9_putOff_32 (fun q32 => ?_) (fun q32 => ?_)
        · have c32 : n2464 = 0 := (nI_eq (a := n2464) (b := 0) (by omega) (by omega)).mp q32
          refine m_ldc2 F kc_X9_184 e_X9_putOff_44 ?_
          exact m_lret F hQ e_X9_putOff_47 (⟨(h2462.mono (M' := M + 1) (Z' := Z) (by omega) (by intro e; first | rfl | assumption | omega)), _, rfl⟩)
        · have c32 : n2464 ≠ 0 := by have hh := mt (nI_eq (a := n2464) (b := 0) (by omega) (by omega)).mpr q32; omega
          refine m_aload F rfl e_X9_putOff_35 ?_
          refine m_iload_n F rfl e_X9_putOff_37 ?_
          refine t_callV F e_X9_putOff_38 (s_X5_owns (x_l X) V b M Z T _ _ r2457 x903 h2462.1 k2458  (by omega)) cb_X5_owns ml_X9_161 im_X5_owns se_X5_owns (fun _ => o15) h2462 k2458 rfl rfl (rest := []) rfl (Nat.le_of_ble_eq_true rfl) ⟨Nat.le_of_ble_eq_true rfl, Nat.le_of_ble_eq_true rfl⟩ ⟨Nat.le_of_ble_eq_true rfl, Nat.le_of_ble_eq_true rfl⟩ (fun r σ2465 hp => ?_)
          obtain ⟨h2467, n2468, hn2468, rfl⟩ := hp
          have h2466 := HK.trans h2462 h2467 (by decide)
          refine m_if_ne F e_X9_putOff_41 (fun q41 => ?_) (fun q41 => ?_)
          · have c41 : n2468 ≠ 0 := by have hh := mt (nI_eq (a := n2468) (b := 0) (by omega) (by omega)).mpr q41; omega
            refine m_aload_n F rfl e_X9_putOff_48 ?_
            refine t_callV F e_X9_putOff_49 (s_X9_remember (x_l X) V b M Z T _ _ a  h2466.1 hk  (by omega)) cb_X9_remember ml_X9_97 im_X9_remember se_X9_remember (fun _ => o1) h2466 hk rfl rfl (rest := []) rfl (Nat.le_of_ble_eq_true rfl) ⟨Nat.le_of_ble_eq_true rfl, Nat.le_of_ble_eq_true rfl⟩ ⟨Nat.le_of_ble_eq_true rfl, Nat.le_of_ble_eq_true rfl⟩ (fun r σ2469 hp => ?_)
            obtain ⟨h2471, rfl⟩ := hp
            have h2470 := HK.trans h2466 h2471 (by decide)
            refine m_aload F rfl e_X9_putOff_52 ?_
            refine m_iload_n F rfl e_X9_putOff_54 ?_
            refine m_iconst F (v := 1) (by decide) e_X9_putOff_55 ?_
            refine m_isub F e_X9_putOff_56 ?_
            refine Wm.top (fun x2472 _ => ?_)
            refine m_iload_n F rfl e_X9_putOff_57 ?_
            refine m_iconst F (v := 1) (by decide) e_X9_putOff_58 ?_
            refine m_isub F e_X9_putOff_59 ?_
            refine Wm.top (fun x2473 _ => ?_)
            refine t_callV F e_X9_putOff_60 (s_X5_movePayment (x_l X) V b M Z T _ _ r2457 x2472 x2473 h2470.1 k2458  (by omega)) cb_X5_movePayment ml_X9_258 im_X5_movePayment se_X5_movePayment (fun _ => o15) h2470 k2458 rfl rfl (rest := []) rfl (Nat.le_of_ble_eq_true rfl) ⟨Nat.le_of_ble_eq_true rfl, Nat.le_of_ble_eq_true rfl⟩ ⟨Nat.le_of_ble_eq_true rfl, Nat.le_of_ble_eq_true rfl⟩ (fun r σ2474 hp => ?_)
            obtain ⟨h2476, rfl⟩ := hp
            have h2475 := HK.trans h2470 h2476 (by decide)
            refine m_aload_n F rfl e_X9_putOff_63 ?_
            refine t_get F e_X9_putOff_64 fl_X9_16 (fun _ => o1) h2475 hk rfl (fun v hv f2477 => ?_)
            obtain ⟨r2478, k2479, rfl⟩ := hv
            refine m_iload_n F rfl e_X9_putOff_67 ?_
            refine m_aload F rfl e_X9_putOff_68 ?_
            refine t_callV F e_X9_putOff_70 (s_X2_remeasure (x_l X) V b M Z T _ _ r2478 (nI n2456) r2457 h2475.1 k2479 k2458 (by omega)) cb_X2_remeasure ml_X9_207 im_X2_remeasure se_X2_remeasure (fun _ => o7) h2475 k2479 rfl rfl (rest := []) rfl (Nat.le_of_ble_eq_true rfl) ⟨Nat.le_of_ble_eq_true rfl, Nat.le_of_ble_eq_true rfl⟩ ⟨Nat.le_of_ble_eq_true rfl, Nat.le_of_ble_eq_true rfl⟩ (fun r σ2480 hp => ?_)
            obtain ⟨h2482, x2483, rfl⟩ := hp
            have h2481 := HK.trans h2475 h2482 (by decide)
            exact m_lret F hQ e_X9_putOff_73 (⟨h2481, _, rfl⟩)
          · have c41 : n2468 = 0 := (nI_eq (a := n2468) (b := 0) (by omega) (by omega)).mp q41
            refine m_ldc2 F kc_X9_184 e_X9_putOff_44 ?_
            exact m_lret F hQ e_X9_putOff_47 (⟨(h2466.mono (M' := M + 1) (Z' := Z) (by omega) (by intro e; first | rfl | assumption | omega)), _, rfl⟩)
set_option maxRecDepth 20000 in
theorem s_X9_become (l : Launch) (V : VX) (b M Z T N : Nat) (σ : Mem) (a : Nat) (x901 : Int32) (h0 : HT V (b, M, Z, T) σ) (hk : kA b a = 1) (hM : M + 0 ≤ 1000000000) : Ct l V yX9_become cX9_become 3 (some .int) 5 0 0 N σ [.ref a, .int x901] (fun r τ => HK V (b, M, Z, T) [0, 2, 3, 4, 5, 8, 9, 16] σ τ ∧ ∃ x : Int32, r = some (.int x)) := by
  refine Ct.of (by decide) (Nat.le_of_ble_eq_true rfl) [(0, .ref a), (1, .int x901)] rfl (fun X hX F hQ => ?_)
  have h1 : HK V (b, M, Z, T) [0, 2, 3, 4, 5, 8, 9, 16] σ σ := HK.start h0
  refine m_iload_n F rfl e_X9_become_0 ?_
  refine m_callS F e_X9_become_1 (s_X9_isIndex (x_l X) V b M Z T _ _ x901 h1.1  (by omega)) cb_X9_isIndex ml_X9_262 sm_X9_isIndex rfl (rest := []) rfl (Nat.le_of_ble_eq_true rfl) ⟨Nat.le_of_ble_eq_true rfl, Nat.le_of_ble_eq_true rfl⟩ ⟨Nat.le_of_ble_eq_true rfl, Nat.le_of_ble_eq_true rfl⟩ (k' := 0) (z' := 0) (N' := N) rfl rfl rfl (fun r σ2484 hp => ?_)
  obtain ⟨h2486, n2487, hn2487, rfl⟩ := hp
  have h2485 := HK.trans h1 h2486 (by decide)
  refine m_if_ne F e_X9_become_4 (fun q4 => ?_) (fun q4 => ?_)
  · have c4 : n2487 ≠ 0 := by have hh := mt (nI_eq (a := n2487) (b := 0) (by omega) (by omega)).mpr q4; omega
    refine m_aload_n F rfl e_X9_become_9 ?_
    refine t_callV F e_X9_become_10 (s_X9_remember (x_l X) V b M Z T _ _ a  h2485.1 hk  (by omega)) cb_X9_remember ml_X9_97 im_X9_remember se_X9_remember (fun _ => o1) h2485 hk rfl rfl (rest := []) rfl (Nat.le_of_ble_eq_true rfl) ⟨Nat.le_of_ble_eq_true rfl, Nat.le_of_ble_eq_true rfl⟩ ⟨Nat.le_of_ble_eq_true rfl, Nat.le_of_ble_eq_true rfl⟩ (fun r σ2488 hp => ?_)
    obtain ⟨h2490, rfl⟩ := hp
    have h2489 := HK.trans h2485 h2490 (by decide)
    refine m_aload_n F rfl e_X9_become_13 ?_
    refine t_get F e_X9_become_14 fl_X9_16 (fun _ => o1) h2489 hk rfl (fun v hv f2491 => ?_)
    obtain ⟨r2492, k2493, rfl⟩ := hv
    refine t_callV F e_X9_become_17 (s_X2_indexNow (x_l X) V b M Z T _ _ r2492  h2489.1 k2493  (by omega)) cb_X2_indexNow ml_X9_265 im_X2_indexNow se_X2_indexNow (fun _ => o7) h2489 k2493 rfl rfl (rest := []) rfl (Nat.le_of_ble_eq_true rfl) ⟨Nat.le_of_ble_eq_true rfl, Nat.le_of_ble_eq_true rfl⟩ ⟨Nat.le_of_ble_eq_true rfl, Nat.le_of_ble_eq_true rfl⟩ (fun r σ2494 hp => ?_)
    obtain ⟨h2496, x2497, rfl⟩ := hp
    have h2495 := HK.trans h2489 h2496 (by decide)
    refine m_istore_n F (lv' := [(2, .int x2497), (0, .ref a), (1, .int x901)]) e_X9_become_20 (by decide) rfl ?_
    refine m_aload_n F rfl e_X9_become_21 ?_
    refine t_getC F e_X9_become_22 fl_X9_16 (fun _ => o1) h2495 hk ((fld_eq (h2496.2 a (by rw [show kA _ a = 1 from hk]; decide))).trans f2491) ?_
    refine m_iload_n F rfl e_X9_become_25 ?_
    refine t_callV F e_X9_become_26 (s_X2_changeIndex (x_l X) V b M Z T _ _ r2492 x901 h2495.1 k2493  (by omega)) cb_X2_changeIndex ml_X9_268 im_X2_changeIndex se_X2_changeIndex (fun _ => o7) h2495 k2493 rfl rfl (rest := []) rfl (Nat.le_of_ble_eq_true rfl) ⟨Nat.le_of_ble_eq_true rfl, Nat.le_of_ble_eq_true rfl⟩ ⟨Nat.le_of_ble_eq_true rfl, Nat.le_of_ble_eq_true rfl⟩ (fun r σ2498 hp => ?_)
    obtain ⟨h2500, rfl⟩ := hp
    have h2499 := HK.trans h2495 h2500 (by decide)
    refine m_iload_n F rfl e_X9_become_29 ?_
    exact m_iret F hQ e_X9_become_30 (⟨h2499, _, rfl⟩)
  · have c4 : n2487 = 0 := (nI_eq (a := n2487) (b := 0) (by omega) (by omega)).mp q4
    refine m_iconst F (v := (-1)) (by decide) e_X9_become_7 ?_
    exact m_iret F hQ e_X9_become_8 (⟨h2485, _, rfl⟩)
set_option maxRecDepth 20000 in
theorem s_X9_plan (l : Launch) (V : VX) (b M Z T N : Nat) (σ : Mem) (a : Nat) (x901 : Int32) (x902 : Int32) (x903 : Int32) (h0 : HT V (b, M, Z, T) σ) (hk : kA b a = 1) (hM : M + 648 ≤ 1000000000) : Ct l V yX9_plan cX9_plan 6 (some .long) 7 0 0 N σ [.ref a, .int x901, .int x902, .int x903] (fun r τ => HK V (b, M + 648, Z, T) [0, 1, 2, 3, 4, 5, 8, 9, 16] σ τ ∧ ∃ x : Int64, r = some (.long x)) := by
  refine Ct.of (by decide) (Nat.le_of_ble_eq_true rfl) [(0, .ref a), (1, .int x901), (2, .int x902), (3, .int x903)] rfl (fun X hX F hQ => ?_)
  have h1 : HK V (b, M, Z, T) [0, 1, 2, 3, 4, 5, 8, 9, 16] σ σ := HK.start h0
  refine m_aload_n F rfl e_X9_plan_0 ?_
  refine m_iload_n F rfl e_X9_plan_1 ?_
  refine t_callV F e_X9_plan_2 (s_X9_leaseAt (x_l X) V b M Z T _ _ a x901 h1.1 hk  (by omega)) cb_X9_leaseAt ml_X9_103 im_X9_leaseAt se_X9_leaseAt (fun _ => o1) h1 hk rfl rfl (rest := []) rfl (Nat.le_of_ble_eq_true rfl) ⟨Nat.le_of_ble_eq_true rfl, Nat.le_of_ble_eq_true rfl⟩ ⟨Nat.le_of_ble_eq_true rfl, Nat.le_of_ble_eq_true rfl⟩ (fun r σ2501 hp => ?_)
  obtain ⟨h2503, c2504⟩ := hp
  have h2502 := HK.trans h1 h2503 (by decide)
  rcases c2504 with rfl | ⟨n2505, r2506, hn2505, en2505, k2507, rfl⟩
  · refine m_astoreN F (lv' := [(4, .null), (0, .ref a), (1, .int x901), (2, .int x902), (3, .int x903)]) e_X9_plan_5 (by decide) rfl ?_
    refine m_aloadN F rfl e_X9_plan_7 ?_
    refine m_ifnullN F e_X9_plan_9 ?_
    refine m_ldc2 F kc_X9_149 e_X9_plan_31 ?_
    exact m_lret F hQ e_X9_plan_34 (⟨(h2502.mono (M' := M + 648) (Z' := Z) (by omega) (by intro e; first | rfl | assumption | omega)), _, rfl⟩)
  · subst en2505
    refine m_astore F (lv' := [(4, .ref r2506), (0, .ref a), (1, .int (nI n2505)), (2, .int x902), (3, .int x903)]) e_X9_plan_5 (by decide) rfl ?_
    refine m_aload F rfl e_X9_plan_7 ?_
    refine m_ifnullR F e_X9_plan_9 ?_
    refine m_iload_n F rfl e_X9_plan_12 ?_
    refine m_if_lt F e_X9_plan_13 (fun q13 => ?_) (fun q13 => ?_)
    · refine m_ldc2 F kc_X9_149 e_X9_plan_31 ?_
      exact m_lret F hQ e_X9_plan_34 (⟨(h2502.mono (M' := M + 648) (Z' := Z) (by omega) (by intro e; first | rfl | assumption | omega)), _, rfl⟩)
    · obtain ⟨n2508, hn2508, rfl⟩ := nI_nn (x := x902) (fun e => q13 (Int32.lt_of_lt_of_le e (by decide)))
      have c13 : n2508 ≥ 0 := by have hh := mt (nI_ltI (a := n2508) (b := 0) (by omega) (by omega)).mpr q13; omega
      refine m_iload_n F rfl e_X9_plan_16 ?_
      refine m_bipush F (v := 72) (by decide) e_X9_plan_17 ?_
      refine m_icmp_gt F e_X9_plan_19 (fun q19 => ?_) (fun q19 => ?_)
      · have c19 : n2508 > 72 := (nI_ltI (a := 72) (b := n2508) (by omega) (by omega)).mp q19
        refine m_ldc2 F kc_X9_149 e_X9_plan_31 ?_
        exact m_lret F hQ e_X9_plan_34 (⟨(h2502.mono (M' := M + 648) (Z' := Z) (by omega) (by intro e; first | rfl | assumption | omega)), _, rfl⟩)
      · have c19 : n2508 ≤ 72 := by have hh := mt (nI_ltI (a := 72) (b := n2508) (by omega) (by omega)).mpr q19; omega
        refine m_iload_n F rfl e_X9_plan_22 ?_
        refine m_if_lt F e_X9_plan_23 (fun q23 => ?_) (fun q23 => ?_)
        · refine m_ldc2 F kc_X9_149 e_X9_plan_31 ?_
          exact m_lret F hQ e_X9_plan_34 (⟨(h2502.mono (M' := M + 648) (Z' := Z) (by omega) (by intro e; first | rfl | assumption | omega)), _, rfl⟩)
        · obtain ⟨n2509, hn2509, rfl⟩ := nI_nn (x := x903) (fun e => q23 (Int32.lt_of_lt_of_le e (by decide)))
          have c23 : n2509 ≥ 0 := by have hh := mt (nI_ltI (a := n2509) (b := 0) (by omega) (by omega)).mpr q23; omega
          refine m_iload_n F rfl e_X9_plan_26 ?_
          refine m_iconst F (v := 3) (by decide) e_X9_plan_27 ?_
          refine m_icmp_le F e_X9_plan_28 (fun q28 => ?_) (fun q28 => ?_)
          · have c28 : n2509 ≤ 3 := (nI_leI (a := n2509) (b := 3) (by omega) (by omega)).mp q28
            refine m_aload_n F rfl e_X9_plan_35 ?_
            refine m_iload_n F rfl e_X9_plan_36 ?_
            refine t_callV F e_X9_plan_37 (s_X9_bookIn (x_l X) V b M Z T _ _ a n2508 h2502.1 hk (by omega) (by omega)) cb_X9_bookIn ml_X9_271 im_X9_bookIn se_X9_bookIn (fun _ => o1) h2502 hk rfl rfl (rest := []) rfl (Nat.le_of_ble_eq_true rfl) ⟨Nat.le_of_ble_eq_true rfl, Nat.le_of_ble_eq_true rfl⟩ ⟨Nat.le_of_ble_eq_true rfl, Nat.le_of_ble_eq_true rfl⟩ (fun r σ2510 hp => ?_)
            obtain ⟨h2512, r2513, k2514, rfl⟩ := hp
            have h2511 := HK.trans h2502 h2512 (by decide)
            refine t_get F e_X9_plan_40 fl_X9_226 (fun _ => o7) h2511 k2514 rfl (fun v hv f2515 => ?_)
            obtain rfl : v = .ref (r2513 + 1) := hv
            refine m_iload_n F rfl e_X9_plan_43 ?_
            refine t_aald8 F (j := n2505) e_X9_plan_44 rfl h2511 (kA_7 k2514 (r := 1) (by decide)) (nI_clamp (by omega)) (vp_in_nI (by omega) (by decide)) ?_
            refine m_astore F (lv' := [(5, .ref ((r2513 + 1) + 10 + 12 * n2505)), (4, .ref r2506), (0, .ref a), (1, .int (nI n2505)), (2, .int (nI n2508)), (3, .int (nI n2509))]) e_X9_plan_45 (by decide) rfl ?_
            refine m_iload_n F rfl e_X9_plan_47 ?_
            by_cases ho48 : (nI n2509 : Int32).toInt < 0 ∨ 2 < (nI n2509 : Int32).toInt
            · refine m_tableOut F e_X9_plan_48 ho48 (tgt := 110) (by decide) ?_
              refine m_aload F rfl e_X9_plan_110 ?_
              refine t_get F e_X9_plan_112 fl_X9_275 (fun _ => o15) h2511 (kA_8 (kA_7 k2514 (r := 1) (by decide)) (j := n2505) (by omega)) rfl (fun v hv f2516 => ?_)
              obtain ⟨r2517, k2518, rfl⟩ := hv
              refine m_iconst F (v := 1) (by decide) e_X9_plan_115 ?_
              refine t_lald F (len := 5) (j := 1) e_X9_plan_116 (fun _ => o18) h2511 k2518 (by decide) (by unfold vp_in; decide) (fun x2519 => ?_)
              refine m_aload F rfl e_X9_plan_117 ?_
              refine t_get F e_X9_plan_119 fl_X9_275 (fun _ => o15) h2511 k2507 rfl (fun v hv f2520 => ?_)
              obtain ⟨r2521, k2522, rfl⟩ := hv
              refine m_iconst F (v := 1) (by decide) e_X9_plan_122 ?_
              refine t_lald F (len := 5) (j := 1) e_X9_plan_123 (fun _ => o18) h2511 k2522 (by decide) (by unfold vp_in; decide) (fun x2523 => ?_)
              refine m_lsub F e_X9_plan_124 ?_
              refine Wm.topl (fun x2524 _ => ?_)
              exact m_lret F hQ e_X9_plan_125 (⟨h2511, _, rfl⟩)
            have hs48 : (nI n2509 : Int32).toInt = 0 ∨ (nI n2509 : Int32).toInt = 1 ∨ (nI n2509 : Int32).toInt = 2 := by omega
            rcases hs48 with hv | hv | hv
            · refine m_tableIn F e_X9_plan_48 (by omega) (by omega) (off := 28) (tgt := 76) (by rw [hv]; rfl) (by decide) ?_
              refine m_aload F rfl e_X9_plan_76 ?_
              refine t_get F e_X9_plan_78 fl_X9_151 (fun _ => o15) h2511 (kA_8 (kA_7 k2514 (r := 1) (by decide)) (j := n2505) (by omega)) rfl (fun v hv f2525 => ?_)
              obtain ⟨r2526, k2527, rfl⟩ := hv
              refine t_callV F e_X9_plan_81 (s_X1_asLong (x_l X) V b (M + 648) Z T _ _ r2526  h2511.1 k2527  (by omega)) cb_X1_asLong ml_X9_157 im_X1_asLong se_X1_asLong (fun _ => o6) h2511 k2527 rfl rfl (rest := []) rfl (Nat.le_of_ble_eq_true rfl) ⟨Nat.le_of_ble_eq_true rfl, Nat.le_of_ble_eq_true rfl⟩ ⟨Nat.le_of_ble_eq_true rfl, Nat.le_of_ble_eq_true rfl⟩ (fun r σ2528 hp => ?_)
              obtain ⟨h2530, x2531, rfl⟩ := hp
              have h2529 := HK.trans h2511 h2530 (by decide)
              exact m_lret F hQ e_X9_plan_84 (⟨h2529, _, rfl⟩)
            · refine m_tableIn F e_X9_plan_48 (by omega) (by omega) (off := 37) (tgt := 85) (by rw [hv]; rfl) (by decide) ?_
              refine m_aload F rfl e_X9_plan_85 ?_
              refine t_get F e_X9_plan_87 fl_X9_154 (fun _ => o15) h2511 (kA_8 (kA_7 k2514 (r := 1) (by decide)) (j := n2505) (by omega)) rfl (fun v hv f2532 => ?_)
              obtain ⟨r2533, k2534, rfl⟩ := hv
              refine t_callV F e_X9_plan_90 (s_X1_asLong (x_l X) V b (M + 648) Z T _ _ r2533  h2511.1 k2534  (by omega)) cb_X1_asLong ml_X9_157 im_X1_asLong se_X1_asLong (fun _ => o6) h2511 k2534 rfl rfl (rest := []) rfl (Nat.le_of_ble_eq_true rfl) ⟨Nat.le_of_ble_eq_true rfl, Nat.le_of_ble_eq_true rfl⟩ ⟨Nat.le_of_ble_eq_true rfl, Nat.le_of_ble_eq_true rfl⟩ (fun r σ2535 hp => ?_)
              obtain ⟨h2537, x2538, rfl⟩ := hp
              have h2536 := HK.trans h2511 h2537 (by decide)
              exact m_lret F hQ e_X9_plan_93 (⟨h2536, _, rfl⟩)
            · refine m_tableIn F e_X9_plan_48 (by omega) (by omega) (off := 46) (tgt := 94) (by rw [hv]; rfl) (by decide) ?_
              refine m_aload F rfl e_X9_plan_94 ?_
              refine t_get F e_X9_plan_96 fl_X9_275 (fun _ => o15) h2511 (kA_8 (kA_7 k2514 (r := 1) (by decide)) (j := n2505) (by omega)) rfl (fun v hv f2539 => ?_)
              obtain ⟨r2540, k2541, rfl⟩ := hv
              refine m_iconst F (v := 2) (by decide) e_X9_plan_99 ?_
              refine t_lald F (len := 5) (j := 2) e_X9_plan_100 (fun _ => o18) h2511 k2541 (by decide) (by unfold vp_in; decide) (fun x2542 => ?_)
              refine m_aload F rfl e_X9_plan_101 ?_
              refine t_get F e_X9_plan_103 fl_X9_275 (fun _ => o15) h2511 k2507 rfl (fun v hv f2543 => ?_)
              obtain ⟨r2544, k2545, rfl⟩ := hv
              refine m_iconst F (v := 2) (by decide) e_X9_plan_106 ?_
              refine t_lald F (len := 5) (j := 2) e_X9_plan_107 (fun _ => o18) h2511 k2545 (by decide) (by unfold vp_in; decide) (fun x2546 => ?_)
              refine m_lsub F e_X9_plan_108 ?_
              refine Wm.topl (fun x2547 _ => ?_)
              exact m_lret F hQ e_X9_plan_109 (⟨h2511, _, rfl⟩)
          · have c28 : n2509 > 3 := by have hh := mt (nI_leI (a := n2509) (b := 3) (by omega) (by omega)).mpr q28; omega
            refine m_ldc2 F kc_X9_149 e_X9_plan_31 ?_
            exact m_lret F hQ e_X9_plan_34 (⟨(h2502.mono (M' := M + 648) (Z' := Z) (by omega) (by intro e; first | rfl | assumption | omega)), _, rfl⟩)
set_option maxRecDepth 20000 in
theorem s_X9_all (l : Launch) (V : VX) (b M Z T N : Nat) (σ : Mem) (a : Nat) (x901 : Int32) (h0 : HT V (b, M, Z, T) σ) (hk : kA b a = 1) (hM : M + 648 ≤ 1000000000) : Ct l V yX9_all cX9_all 2 (some .long) 7 0 0 N σ [.ref a, .int x901] (fun r τ => HK V (b, M + 648, Z, T) [0, 1, 2, 3, 4, 5, 8, 9, 16] σ τ ∧ ∃ x : Int64, r = some (.long x)) := by
  refine Ct.of (by decide) (Nat.le_of_ble_eq_true rfl) [(0, .ref a), (1, .int x901)] rfl (fun X hX F hQ => ?_)
  have h1 : HK V (b, M, Z, T) [0, 1, 2, 3, 4, 5, 8, 9, 16] σ σ := HK.start h0
  refine m_iload_n F rfl e_X9_all_0 ?_
  refine m_if_lt F e_X9_all_1 (fun q1 => ?_) (fun q1 => ?_)
  · refine m_ldc2 F kc_X9_149 e_X9_all_10 ?_
    exact m_lret F hQ e_X9_all_13 (⟨(h1.mono (M' := M + 648) (Z' := Z) (by omega) (by intro e; first | rfl | assumption | omega)), _, rfl⟩)
  · obtain ⟨n2548, hn2548, rfl⟩ := nI_nn (x := x901) (fun e => q1 (Int32.lt_of_lt_of_le e (by decide)))
    have c1 : n2548 ≥ 0 := by have hh := mt (nI_ltI (a := n2548) (b := 0) (by omega) (by omega)).mpr q1; omega
    refine m_iload_n F rfl e_X9_all_4 ?_
    refine m_bipush F (v := 72) (by decide) e_X9_all_5 ?_
    refine m_icmp_le F e_X9_all_7 (fun q7 => ?_) (fun q7 => ?_)
    · have c7 : n2548 ≤ 72 := (nI_leI (a := n2548) (b := 72) (by omega) (by omega)).mp q7
      refine m_aload_n F rfl e_X9_all_14 ?_
      refine m_iload_n F rfl e_X9_all_15 ?_
      refine t_callV F e_X9_all_16 (s_X9_bookIn (x_l X) V b M Z T _ _ a n2548 h1.1 hk (by omega) (by omega)) cb_X9_bookIn ml_X9_271 im_X9_bookIn se_X9_bookIn (fun _ => o1) h1 hk rfl rfl (rest := []) rfl (Nat.le_of_ble_eq_true rfl) ⟨Nat.le_of_ble_eq_true rfl, Nat.le_of_ble_eq_true rfl⟩ ⟨Nat.le_of_ble_eq_true rfl, Nat.le_of_ble_eq_true rfl⟩ (fun r σ2549 hp => ?_)
      obtain ⟨h2551, r2552, k2553, rfl⟩ := hp
      have h2550 := HK.trans h1 h2551 (by decide)
      refine m_aload_n F rfl e_X9_all_19 ?_
      refine t_get F e_X9_all_20 fl_X9_42 (fun _ => o1) h2550 hk rfl (fun v hv f2554 => ?_)
      obtain ⟨r2555, k2556, rfl⟩ := hv
      refine t_callV F e_X9_all_23 (s_X2_countAllOwed (x_l X) V b (M + 648) Z T _ _ r2552 r2555 h2550.1 k2553 k2556 (by omega)) cb_X2_countAllOwed ml_X9_278 im_X2_countAllOwed se_X2_countAllOwed (fun _ => o7) h2550 k2553 rfl rfl (rest := []) rfl (Nat.le_of_ble_eq_true rfl) ⟨Nat.le_of_ble_eq_true rfl, Nat.le_of_ble_eq_true rfl⟩ ⟨Nat.le_of_ble_eq_true rfl, Nat.le_of_ble_eq_true rfl⟩ (fun r σ2557 hp => ?_)
      obtain ⟨h2559, rfl⟩ := hp
      have h2558 := HK.trans h2550 h2559 (by decide)
      refine m_aload_n F rfl e_X9_all_26 ?_
      refine t_getC F e_X9_all_27 fl_X9_42 (fun _ => o1) h2558 hk ((fld_eq (h2559.2 a (by rw [show kA _ a = 1 from hk]; decide))).trans f2554) ?_
      refine t_callV F e_X9_all_30 (s_X1_asLong (x_l X) V b (M + 648) Z T _ _ r2555  h2558.1 k2556  (by omega)) cb_X1_asLong ml_X9_157 im_X1_asLong se_X1_asLong (fun _ => o6) h2558 k2556 rfl rfl (rest := []) rfl (Nat.le_of_ble_eq_true rfl) ⟨Nat.le_of_ble_eq_true rfl, Nat.le_of_ble_eq_true rfl⟩ ⟨Nat.le_of_ble_eq_true rfl, Nat.le_of_ble_eq_true rfl⟩ (fun r σ2560 hp => ?_)
      obtain ⟨h2562, x2563, rfl⟩ := hp
      have h2561 := HK.trans h2558 h2562 (by decide)
      exact m_lret F hQ e_X9_all_33 (⟨h2561, _, rfl⟩)
    · have c7 : n2548 > 72 := by have hh := mt (nI_leI (a := n2548) (b := 72) (by omega) (by omega)).mpr q7; omega
      refine m_ldc2 F kc_X9_149 e_X9_all_10 ?_
      exact m_lret F hQ e_X9_all_13 (⟨(h1.mono (M' := M + 648) (Z' := Z) (by omega) (by intro e; first | rfl | assumption | omega)), _, rfl⟩)
set_option maxRecDepth 20000 in
theorem s_X9_soon (l : Launch) (V : VX) (b M Z T N : Nat) (σ : Mem) (a : Nat) (x901 : Int32) (x902 : Int32) (h0 : HT V (b, M, Z, T) σ) (hk : kA b a = 1) (hM : M + 648 ≤ 1000000000) : Ct l V yX9_soon cX9_soon 6 (some .long) 7 0 0 N σ [.ref a, .int x901, .int x902] (fun r τ => HK V (b, M + 648, Z, T) [0, 1, 2, 3, 4, 5, 8, 9, 16] σ τ ∧ ∃ x : Int64, r = some (.long x)) := by
  refine Ct.of (by decide) (Nat.le_of_ble_eq_true rfl) [(0, .ref a), (1, .int x901), (2, .int x902)] rfl (fun X hX F hQ => ?_)
  have h1 : HK V (b, M, Z, T) [0, 1, 2, 3, 4, 5, 8, 9, 16] σ σ := HK.start h0
  refine m_aload_n F rfl e_X9_soon_0 ?_
  refine m_iload_n F rfl e_X9_soon_1 ?_
  refine t_callV F e_X9_soon_2 (s_X9_leaseAt (x_l X) V b M Z T _ _ a x901 h1.1 hk  (by omega)) cb_X9_leaseAt ml_X9_103 im_X9_leaseAt se_X9_leaseAt (fun _ => o1) h1 hk rfl rfl (rest := []) rfl (Nat.le_of_ble_eq_true rfl) ⟨Nat.le_of_ble_eq_true rfl, Nat.le_of_ble_eq_true rfl⟩ ⟨Nat.le_of_ble_eq_true rfl, Nat.le_of_ble_eq_true rfl⟩ (fun r σ2564 hp => ?_)
  obtain ⟨h2566, c2567⟩ := hp
  have h2565 := HK.trans h1 h2566 (by decide)
  rcases c2567 with rfl | ⟨n2568, r2569, hn2568, en2568, k2570, rfl⟩
  · refine m_astore_nN F (lv' := [(3, .null), (0, .ref a), (1, .int x901), (2, .int x902)]) e_X9_soon_5 (by decide) rfl ?_
    refine m_aload_nN F rfl e_X9_soon_6 ?_
    refine m_ifnullN F e_X9_soon_7 ?_
    refine m_ldc2 F kc_X9_149 e_X9_soon_19 ?_
    exact m_lret F hQ e_X9_soon_22 (⟨(h2565.mono (M' := M + 648) (Z' := Z) (by omega) (by intro e; first | rfl | assumption | omega)), _, rfl⟩)
  · subst en2568
    refine m_astore_n F (lv' := [(3, .ref r2569), (0, .ref a), (1, .int (nI n2568)), (2, .int x902)]) e_X9_soon_5 (by decide) rfl ?_
    refine m_aload_n F rfl e_X9_soon_6 ?_
    refine m_ifnullR F e_X9_soon_7 ?_
    refine m_iload_n F rfl e_X9_soon_10 ?_
    refine m_if_lt F e_X9_soon_11 (fun q11 => ?_) (fun q11 => ?_)
    · refine m_ldc2 F kc_X9_149 e_X9_soon_19 ?_
      exact m_lret F hQ e_X9_soon_22 (⟨(h2565.mono (M' := M + 648) (Z' := Z) (by omega) (by intro e; first | rfl | assumption | omega)), _, rfl⟩)
    · obtain ⟨n2571, hn2571, rfl⟩ := nI_nn (x := x902) (fun e => q11 (Int32.lt_of_lt_of_le e (by decide)))
      have c11 : n2571 ≥ 0 := by have hh := mt (nI_ltI (a := n2571) (b := 0) (by omega) (by omega)).mpr q11; omega
      refine m_iload_n F rfl e_X9_soon_14 ?_
      refine m_iconst F (v := 1) (by decide) e_X9_soon_15 ?_
      refine m_icmp_le F e_X9_soon_16 (fun q16 => ?_) (fun q16 => ?_)
      · have c16 : n2571 ≤ 1 := (nI_leI (a := n2571) (b := 1) (by omega) (by omega)).mp q16
        refine m_aload_n F rfl e_X9_soon_23 ?_
        refine m_bipush F (v := 12) (by decide) e_X9_soon_24 ?_
        refine t_callV F e_X9_soon_26 (s_X9_bookIn (x_l X) V b M Z T _ _ a 12 h2565.1 hk (by omega) (by omega)) cb_X9_bookIn ml_X9_271 im_X9_bookIn se_X9_bookIn (fun _ => o1) h2565 hk rfl rfl (rest := []) rfl (Nat.le_of_ble_eq_true rfl) ⟨Nat.le_of_ble_eq_true rfl, Nat.le_of_ble_eq_true rfl⟩ ⟨Nat.le_of_ble_eq_true rfl, Nat.le_of_ble_eq_true rfl⟩ (fun r σ2572 hp => ?_)
        obtain ⟨h2574, r2575, k2576, rfl⟩ := hp
        have h2573 := HK.trans h2565 h2574 (by decide)
        refine t_get F e_X9_soon_29 fl_X9_226 (fun _ => o7) h2573 k2576 rfl (fun v hv f2577 => ?_)
        obtain rfl : v = .ref (r2575 + 1) := hv
        refine m_iload_n F rfl e_X9_soon_32 ?_
        refine t_aald8 F (j := n2568) e_X9_soon_33 rfl h2573 (kA_7 k2576 (r := 1) (by decide)) (nI_clamp (by omega)) (vp_in_nI (by omega) (by decide)) ?_
        refine t_get F e_X9_soon_34 fl_X9_151 (fun _ => o15) h2573 (kA_8 (kA_7 k2576 (r := 1) (by decide)) (j := n2568) (by omega)) rfl (fun v hv f2578 => ?_)
        obtain ⟨r2579, k2580, rfl⟩ := hv
        refine t_callV F e_X9_soon_37 (s_X1_asLong (x_l X) V b (M + 648) Z T _ _ r2579  h2573.1 k2580  (by omega)) cb_X1_asLong ml_X9_157 im_X1_asLong se_X1_asLong (fun _ => o6) h2573 k2580 rfl rfl (rest := []) rfl (Nat.le_of_ble_eq_true rfl) ⟨Nat.le_of_ble_eq_true rfl, Nat.le_of_ble_eq_true rfl⟩ ⟨Nat.le_of_ble_eq_true rfl, Nat.le_of_ble_eq_true rfl⟩ (fun r σ2581 hp => ?_)
        obtain ⟨h2583, x2584, rfl⟩ := hp
        have h2582 := HK.trans h2573 h2583 (by decide)
        refine m_lstore F (lv' := [(4, .long x2584), (3, .ref r2569), (0, .ref a), (1, .int (nI n2568)), (2, .int (nI n2571))]) e_X9_soon_40 (by decide) rfl ?_
        refine m_iload_n F rfl e_X9_soon_42 ?_
        refine m_if_ne F e_X9_soon_43 (fun q43 => ?_) (fun q43 => ?_)
        · have c43 : n2571 ≠ 0 := by have hh := mt (nI_eq (a := n2571) (b := 0) (by omega) (by omega)).mpr q43; omega
          refine m_lload F rfl e_X9_soon_59 ?_
          exact m_lret F hQ e_X9_soon_61 (⟨h2582, _, rfl⟩)
        · have c43 : n2571 = 0 := (nI_eq (a := n2571) (b := 0) (by omega) (by omega)).mp q43
          refine m_aload_n F rfl e_X9_soon_46 ?_
          refine t_get F e_X9_soon_47 fl_X9_151 (fun _ => o15) h2582 k2570 rfl (fun v hv f2585 => ?_)
          obtain ⟨r2586, k2587, rfl⟩ := hv
          refine t_callV F e_X9_soon_50 (s_X1_asLong (x_l X) V b (M + 648) Z T _ _ r2586  h2582.1 k2587  (by omega)) cb_X1_asLong ml_X9_157 im_X1_asLong se_X1_asLong (fun _ => o6) h2582 k2587 rfl rfl (rest := []) rfl (Nat.le_of_ble_eq_true rfl) ⟨Nat.le_of_ble_eq_true rfl, Nat.le_of_ble_eq_true rfl⟩ ⟨Nat.le_of_ble_eq_true rfl, Nat.le_of_ble_eq_true rfl⟩ (fun r σ2588 hp => ?_)
          obtain ⟨h2590, x2591, rfl⟩ := hp
          have h2589 := HK.trans h2582 h2590 (by decide)
          refine m_lload F rfl e_X9_soon_53 ?_
          refine m_lsub F e_X9_soon_55 ?_
          refine Wm.topl (fun x2592 _ => ?_)
          refine m_goto F e_X9_soon_56 ?_
          exact m_lret F hQ e_X9_soon_61 (⟨h2589, _, rfl⟩)
      · have c16 : n2571 > 1 := by have hh := mt (nI_leI (a := n2571) (b := 1) (by omega) (by omega)).mpr q16; omega
        refine m_ldc2 F kc_X9_149 e_X9_soon_19 ?_
        exact m_lret F hQ e_X9_soon_22 (⟨(h2565.mono (M' := M + 648) (Z' := Z) (by omega) (by intro e; first | rfl | assumption | omega)), _, rfl⟩)
