set_option maxRecDepth 20000 in
theorem s_X9_leaseAt (l : Launch) (V : VX) (G : GH) (b M Z T N : Nat) (σ : Mem) (a : Nat) (x901 : Int32) (h0 : HT V G (b, M, Z, T) σ) (hk : kA b a = 1) (hG : okG G) (hM : M + 0 ≤ 1000000000) : Ct l V yX9_leaseAt cX9_leaseAt 2 (some (.object "LeaseLedger$Lease")) 0 0 0 N σ [.ref a, .int x901] (fun r τ => HK V G (b, M, Z, T) [0, 1, 2, 3, 4, 5, 6, 7, 8, 9, 10, 11, 12, 13, 14, 15, 16, 17, 18, 19] σ τ ∧ (r = some .null ∨ ∃ n q : Nat, n ≤ 3 ∧ x901 = nI n ∧ kA b q = 15 ∧ r = some (.ref q))) := by
  refine Ct.of (by decide) (Nat.le_of_ble_eq_true rfl) [(0, .ref a), (1, .int x901)] rfl (fun X hX F hQ => ?_)
  have h1 : HK V G (b, M, Z, T) [0, 1, 2, 3, 4, 5, 6, 7, 8, 9, 10, 11, 12, 13, 14, 15, 16, 17, 18, 19] σ σ := HK.start h0
  refine m_iload_n F rfl e_X9_leaseAt_0 ?_
  refine m_if_lt F e_X9_leaseAt_1 (fun q1 => ?_) (fun q1 => ?_)
  · refine m_null F e_X9_leaseAt_27 ?_
    exact m_aret F hQ e_X9_leaseAt_28 (Or.inl rfl) (⟨h1, Or.inl rfl⟩)
  · obtain ⟨n1985, hn1985, rfl⟩ := nI_nn (x := x901) (fun e => q1 (Int32.lt_of_lt_of_le e (by decide)))
    have c1 : n1985 ≥ 0 := by have hh := mt (nI_ltI (a := n1985) (b := 0) (by omega) (by omega)).mpr q1; omega
    refine m_iload_n F rfl e_X9_leaseAt_4 ?_
    refine m_aload_n F rfl e_X9_leaseAt_5 ?_
    refine t_get F e_X9_leaseAt_6 fl_X9_16 (fun _ => o1) h1 hk rfl (fun v hv f1986 => ?_)
    obtain ⟨r1987, ⟨k1988, er1987⟩, rfl⟩ := hv
    replace er1987 : r1987 = b + 2 + 63 * G.bk := er1987
    refine t_get F e_X9_leaseAt_9 fl_X9_358 (fun _ => o7) h1 k1988 rfl (fun v hv f1989 => ?_)
    obtain ⟨n1990, ⟨hn1990, gn1990⟩, rfl⟩ := hv
    replace hn1990 : n1990 ≤ 4 := hn1990
    refine m_icmp_ge F e_X9_leaseAt_12 (fun q12 => ?_) (fun q12 => ?_)
    · have c12 : n1985 ≥ n1990 := (nI_leI (a := n1990) (b := n1985) (by omega) (by omega)).mp q12
      refine m_null F e_X9_leaseAt_27 ?_
      exact m_aret F hQ e_X9_leaseAt_28 (Or.inl rfl) (⟨h1, Or.inl rfl⟩)
    · have c12 : n1985 < n1990 := by have hh := mt (nI_leI (a := n1990) (b := n1985) (by omega) (by omega)).mpr q12; omega
      refine m_aload_n F rfl e_X9_leaseAt_15 ?_
      refine t_getC F e_X9_leaseAt_16 fl_X9_16 (fun _ => o1) h1 hk (f1986) ?_
      refine t_get F e_X9_leaseAt_19 fl_X9_226 (fun _ => o7) h1 k1988 rfl (fun v hv f1991 => ?_)
      obtain rfl : v = .ref (r1987 + 1) := hv
      refine m_iload_n F rfl e_X9_leaseAt_22 ?_
      refine t_aald8 F (j := n1985) e_X9_leaseAt_23 rfl h1 (kA_7 k1988 (r := 1) (by decide)) (nI_clamp (by omega)) (vp_in_nI (by omega) (by decide)) ?_
      refine m_goto F e_X9_leaseAt_24 ?_
      exact m_aret F hQ e_X9_leaseAt_28 (Or.inr ⟨_, rfl⟩) (⟨h1, Or.inr ⟨n1985, _, by omega, rfl, (kA_8 (kA_7 k1988 (r := 1) (by decide)) (j := n1985) (by omega)), rfl⟩⟩)
set_option maxRecDepth 20000 in
theorem s_X9_runningAt (l : Launch) (V : VX) (G : GH) (b M Z T N : Nat) (σ : Mem) (a : Nat) (x901 : Int32) (h0 : HT V G (b, M, Z, T) σ) (hk : kA b a = 1) (hG : okG G) (hM : M + 0 ≤ 1000000000) : Ct l V yX9_runningAt cX9_runningAt 3 (some (.object "LeaseLedger$Lease")) 1 0 0 N σ [.ref a, .int x901] (fun r τ => HK V G (b, M, Z, T) [0, 1, 2, 3, 4, 5, 6, 7, 8, 9, 10, 11, 12, 13, 14, 15, 16, 17, 18, 19] σ τ ∧ (r = some .null ∨ ∃ n q : Nat, n ≤ 3 ∧ x901 = nI n ∧ kA b q = 15 ∧ r = some (.ref q))) := by
  refine Ct.of (by decide) (Nat.le_of_ble_eq_true rfl) [(0, .ref a), (1, .int x901)] rfl (fun X hX F hQ => ?_)
  have h1 : HK V G (b, M, Z, T) [0, 1, 2, 3, 4, 5, 6, 7, 8, 9, 10, 11, 12, 13, 14, 15, 16, 17, 18, 19] σ σ := HK.start h0
  refine m_aload_n F rfl e_X9_runningAt_0 ?_
  refine m_iload_n F rfl e_X9_runningAt_1 ?_
  refine t_callV F e_X9_runningAt_2 (s_X9_leaseAt (x_l X) V G b M Z T _ _ a x901 h1.1 hk hG (by omega)) cb_X9_leaseAt ml_X9_103 im_X9_leaseAt se_X9_leaseAt (fun _ => o1) h1 hk rfl rfl (rest := []) rfl (Nat.le_of_ble_eq_true rfl) ⟨Nat.le_of_ble_eq_true rfl, Nat.le_of_ble_eq_true rfl⟩ ⟨Nat.le_of_ble_eq_true rfl, Nat.le_of_ble_eq_true rfl⟩ (fun r σ1992 hp => ?_)
  obtain ⟨h1994, c1995⟩ := hp
  have h1993 := HK.trans h1 h1994 (by decide)
  rcases c1995 with rfl | ⟨n1996, r1997, hn1996, en1996, k1998, rfl⟩
  · refine m_astore_nN F (lv' := [(2, .null), (0, .ref a), (1, .int x901)]) e_X9_runningAt_5 (by decide) rfl ?_
    refine m_aload_nN F rfl e_X9_runningAt_6 ?_
    refine m_ifnullN F e_X9_runningAt_7 ?_
    refine m_null F e_X9_runningAt_22 ?_
    exact m_aret F hQ e_X9_runningAt_23 (Or.inl rfl) (⟨h1993, Or.inl rfl⟩)
  · subst en1996
    refine m_astore_n F (lv' := [(2, .ref r1997), (0, .ref a), (1, .int (nI n1996))]) e_X9_runningAt_5 (by decide) rfl ?_
    refine m_aload_n F rfl e_X9_runningAt_6 ?_
    refine m_ifnullR F e_X9_runningAt_7 ?_
    refine m_aload_n F rfl e_X9_runningAt_10 ?_
    refine t_get F e_X9_runningAt_11 fl_X9_125 (fun _ => o15) h1993 k1998 rfl (fun v hv f1999 => ?_)
    obtain ⟨x2000, rfl⟩ := hv
    refine m_iconst F (v := 1) (by decide) e_X9_runningAt_14 ?_
    refine m_icmp_ne F e_X9_runningAt_15 (fun q15 => ?_) (fun q15 => ?_)
    · refine m_null F e_X9_runningAt_22 ?_
      exact m_aret F hQ e_X9_runningAt_23 (Or.inl rfl) (⟨h1993, Or.inl rfl⟩)
    · refine m_aload_n F rfl e_X9_runningAt_18 ?_
      refine m_goto F e_X9_runningAt_19 ?_
      exact m_aret F hQ e_X9_runningAt_23 (Or.inr ⟨_, rfl⟩) (⟨h1993, Or.inr ⟨n1996, _, by omega, rfl, k1998, rfl⟩⟩)
set_option maxRecDepth 20000 in
theorem s_X9_coming (l : Launch) (V : VX) (G : GH) (b M Z T N : Nat) (σ : Mem) (a : Nat) (n901 : Nat) (h0 : HT V G (b, M, Z, T) σ) (hk : kA b a = 1) (hn901 : n901 ≤ 1000) (hG : okG G) (hM : M + 0 ≤ 1000000000) : Ct l V yX9_coming cX9_coming 2 (some .int) 1 0 0 N σ [.ref a, .int (nI n901)] (fun r τ => HK V G (b, M, Z, T) [0, 1, 2, 3, 4, 5, 6, 7, 8, 9, 10, 11, 12, 13, 14, 15, 16, 17, 18, 19] σ τ ∧ ∃ n : Nat, n ≤ n901 ∧ r = some (.int (nI n))) := by
  refine Ct.of (by decide) (Nat.le_of_ble_eq_true rfl) [(0, .ref a), (1, .int (nI n901))] rfl (fun X hX F hQ => ?_)
  have h1 : HK V G (b, M, Z, T) [0, 1, 2, 3, 4, 5, 6, 7, 8, 9, 10, 11, 12, 13, 14, 15, 16, 17, 18, 19] σ σ := HK.start h0
  refine m_iconst F (v := 0) (by decide) e_X9_coming_0 ?_
  refine m_iload_n F rfl e_X9_coming_1 ?_
  refine m_bipush F (v := 99) (by decide) e_X9_coming_2 ?_
  refine m_aload_n F rfl e_X9_coming_4 ?_
  refine t_get F e_X9_coming_5 fl_X9_16 (fun _ => o1) h1 hk rfl (fun v hv f2001 => ?_)
  obtain ⟨r2002, ⟨k2003, er2002⟩, rfl⟩ := hv
  replace er2002 : r2002 = b + 2 + 63 * G.bk := er2002
  refine t_get F e_X9_coming_8 fl_X9_94 (fun _ => o7) h1 k2003 rfl (fun v hv f2004 => ?_)
  obtain ⟨n2005, hn2005, rfl⟩ := hv
  replace hn2005 : n2005 ≤ M := hn2005
  refine m_isub F e_X9_coming_11 ?_
  refine Wm.top (fun x2006 _ => ?_)
  refine m_min F e_X9_coming_12 ml_X9_386 sm_min ini_math co_min (Nat.le_of_ble_eq_true rfl) (Nat.le_of_ble_eq_true rfl) (Nat.le_of_ble_eq_true rfl) (Nat.le_of_ble_eq_true rfl) ?_
  refine m_max F e_X9_coming_15 ml_X9_392 sm_max ini_math co_max (Nat.le_of_ble_eq_true rfl) (Nat.le_of_ble_eq_true rfl) (Nat.le_of_ble_eq_true rfl) (Nat.le_of_ble_eq_true rfl) ?_
  obtain ⟨n77, hn77, e77⟩ := clampN (n := n901) (by omega) x2006
  refine Wm.topE (w := nI n77) (e77) ?_
  exact m_iret F hQ e_X9_coming_18 (⟨h1, n77, by omega, rfl⟩)
set_option maxRecDepth 20000 in
theorem lp_X9_bookIn_19 {V : VX} {G : GH} {X : MX} {b M Z T N : Nat} {σ : Mem} {a : Nat} {n901 : Nat}  (F : Fx V X yX9_bookIn cX9_bookIn 4 (some (.object "LeaseLedger$Book")) (rmd 6 0 0)) (hQ : Rt V X 0 0 N (fun r τ => HK V G (b, M + 648, Z, T) [0, 1, 2, 3, 4, 5, 8, 9, 16] σ τ ∧ ∃ q : Nat, kA b q = 7 ∧ r = some (.ref q))) (hk : kA b a = 1) (hn901 : n901 ≤ 72) (hG : okG G) (hM : M + 648 ≤ 1000000000)  : ∀ (fuel : Nat) (i : Nat) (c : Nat) (τ : Mem), HK V G (b, M + 9 * i, Z, T) [0, 1, 2, 3, 4, 5, 8, 9, 16] σ τ → i ≤ 72 ∧ c ≤ 72 → 72 - i < fuel → Wm V X 4 N τ 0 0 19 [(3, .int (nI i)), (2, .int (nI c)), (0, .ref a), (1, .int (nI n901))] [] := by
  intro fuel
  induction fuel with
  | zero => intro i c τ h1 hi hm; exact absurd hm (Nat.not_lt_zero _)
  | succ fuel ih =>
    intro i c τ h1 hi hm
    refine m_iload_n F rfl e_X9_bookIn_19 ?_
    refine m_iload_n F rfl e_X9_bookIn_20 ?_
    refine m_icmp_ge F e_X9_bookIn_21 (fun q21 => ?_) (fun q21 => ?_)
    · have c21 : i ≥ c := (nI_leI (a := c) (b := i) (by omega) (by omega)).mp q21
      refine m_aload_n F rfl e_X9_bookIn_37 ?_
      refine t_get F e_X9_bookIn_38 fl_X9_20 (fun _ => o1) h1 hk rfl (fun v hv f2007 => ?_)
      obtain ⟨r2008, ⟨k2009, er2008⟩, rfl⟩ := hv
      replace er2008 : r2008 = b + 2 + 63 * G.sp := er2008
      exact m_aret F hQ e_X9_bookIn_41 (Or.inr ⟨_, rfl⟩) (⟨(h1.mono (M' := M + 648) (Z' := Z) (by omega) (by intro e; first | rfl | assumption | omega)), _, k2009, rfl⟩)
    · have c21 : i < c := by have hh := mt (nI_leI (a := c) (b := i) (by omega) (by omega)).mpr q21; omega
      refine m_aload_n F rfl e_X9_bookIn_24 ?_
      refine t_get F e_X9_bookIn_25 fl_X9_20 (fun _ => o1) h1 hk rfl (fun v hv f2010 => ?_)
      obtain ⟨r2011, ⟨k2012, er2011⟩, rfl⟩ := hv
      replace er2011 : r2011 = b + 2 + 63 * G.sp := er2011
      refine t_callV F e_X9_bookIn_28 (s_X2_periodGoesBy (x_l X) V G b (M + 9 * i) Z T _ _ r2011  h1.1 k2012  (by omega)) cb_X2_periodGoesBy ml_X9_100 im_X2_periodGoesBy se_X2_periodGoesBy (fun _ => o7) h1 k2012 rfl rfl (rest := []) rfl (Nat.le_of_ble_eq_true rfl) ⟨Nat.le_of_ble_eq_true rfl, Nat.le_of_ble_eq_true rfl⟩ ⟨Nat.le_of_ble_eq_true rfl, Nat.le_of_ble_eq_true rfl⟩ (fun r σ2013 hp => ?_)
      obtain ⟨h2015, rfl⟩ := hp
      have h2014 := HK.trans h1 h2015 (by decide)
      refine m_iinc F (v := nI (i + 1)) (lv' := [(3, .int (nI (i + 1))), (2, .int (nI c)), (0, .ref a), (1, .int (nI n901))]) e_X9_bookIn_31 rfl (nI_add i 1) (by decide) rfl ?_
      refine m_goto F e_X9_bookIn_34 ?_
      exact ih (i + 1) c _ (h2014.mono (M' := M + 9 * (i + 1)) (Z' := Z) (by omega) (by intro e9; first | exact e9 | rfl)) (by omega) (by omega)
set_option maxRecDepth 20000 in
theorem s_X9_bookIn (l : Launch) (V : VX) (G : GH) (b M Z T N : Nat) (σ : Mem) (a : Nat) (n901 : Nat) (h0 : HT V G (b, M, Z, T) σ) (hk : kA b a = 1) (hn901 : n901 ≤ 72) (hG : okG G) (hM : M + 648 ≤ 1000000000) : Ct l V yX9_bookIn cX9_bookIn 4 (some (.object "LeaseLedger$Book")) 6 0 0 N σ [.ref a, .int (nI n901)] (fun r τ => HK V G (b, M + 648, Z, T) [0, 1, 2, 3, 4, 5, 8, 9, 16] σ τ ∧ ∃ q : Nat, kA b q = 7 ∧ r = some (.ref q)) := by
  refine Ct.of (by decide) (Nat.le_of_ble_eq_true rfl) [(0, .ref a), (1, .int (nI n901))] rfl (fun X hX F hQ => ?_)
  have h1 : HK V G (b, M, Z, T) [0, 1, 2, 3, 4, 5, 8, 9, 16] σ σ := HK.start h0
  refine m_aload_n F rfl e_X9_bookIn_0 ?_
  refine t_get F e_X9_bookIn_1 fl_X9_20 (fun _ => o1) h1 hk rfl (fun v hv f2016 => ?_)
  obtain ⟨r2017, ⟨k2018, er2017⟩, rfl⟩ := hv
  replace er2017 : r2017 = b + 2 + 63 * G.sp := er2017
  refine m_aload_n F rfl e_X9_bookIn_4 ?_
  refine t_get F e_X9_bookIn_5 fl_X9_16 (fun _ => o1) h1 hk rfl (fun v hv f2019 => ?_)
  obtain ⟨r2020, ⟨k2021, er2020⟩, rfl⟩ := hv
  replace er2020 : r2020 = b + 2 + 63 * G.bk := er2020
  refine t_callV F e_X9_bookIn_8 (s_X2_copyFrom (x_l X) V G b M Z T _ _ r2017 r2020 h1.1 k2018 k2021 (gd_sp hG er2017) (by omega)) cb_X2_copyFrom ml_X9_374 im_X2_copyFrom se_X2_copyFrom (fun _ => o7) h1 k2018 rfl rfl (rest := []) rfl (Nat.le_of_ble_eq_true rfl) ⟨Nat.le_of_ble_eq_true rfl, Nat.le_of_ble_eq_true rfl⟩ ⟨Nat.le_of_ble_eq_true rfl, Nat.le_of_ble_eq_true rfl⟩ (fun r σ2022 hp => ?_)
  obtain ⟨h2024, bn2025, rfl⟩ := hp
  have h2023 := HK.trans h1 h2024 (by decide)
  refine m_aload_n F rfl e_X9_bookIn_11 ?_
  refine m_iload_n F rfl e_X9_bookIn_12 ?_
  refine t_callV F e_X9_bookIn_13 (s_X9_coming (x_l X) V G b M Z T _ _ a n901 h2023.1 hk (by omega) hG (by omega)) cb_X9_coming ml_X9_324 im_X9_coming se_X9_coming (fun _ => o1) h2023 hk rfl rfl (rest := []) rfl (Nat.le_of_ble_eq_true rfl) ⟨Nat.le_of_ble_eq_true rfl, Nat.le_of_ble_eq_true rfl⟩ ⟨Nat.le_of_ble_eq_true rfl, Nat.le_of_ble_eq_true rfl⟩ (fun r σ2026 hp => ?_)
  obtain ⟨h2028, n2029, hn2029, rfl⟩ := hp
  have h2027 := HK.trans h2023 h2028 (by decide)
  refine m_istore_n F (lv' := [(2, .int (nI n2029)), (0, .ref a), (1, .int (nI n901))]) e_X9_bookIn_16 (by decide) rfl ?_
  refine m_iconst F (v := 0) (by decide) e_X9_bookIn_17 ?_
  refine m_istore_n F (lv' := [(3, .int 0), (2, .int (nI n2029)), (0, .ref a), (1, .int (nI n901))]) e_X9_bookIn_18 (by decide) rfl ?_
  exact lp_X9_bookIn_19 F hQ hk hn901 hG hM (72 - 0 + 1) 0 n2029 _ (h2027.mono (M' := M + 9 * 0) (Z' := Z) (by omega) (by intro e9; first | exact e9 | rfl)) (by omega) (Nat.lt_succ_self _)
set_option maxRecDepth 20000 in
theorem s_X9_remember (l : Launch) (V : VX) (G : GH) (b M Z T N : Nat) (σ : Mem) (a : Nat) (h0 : HT V G (b, M, Z, T) σ) (hk : kA b a = 1) (hG : okG G) (hM : M + 0 ≤ 1000000000) : Ct l V yX9_remember cX9_remember 1 none 4 0 0 N σ [.ref a] (fun r τ => ∃ G9 : GH, GRel G G9 ∧ HK V G9 (b, M, Z, T) [0, 2, 3, 4, 5, 8, 9, 16] σ τ ∧ r = none) := by
  refine Ct.of (by decide) (Nat.le_of_ble_eq_true rfl) [(0, .ref a)] rfl (fun X hX F hQ => ?_)
  have h1 : HK V G (b, M, Z, T) [0, 2, 3, 4, 5, 8, 9, 16] σ σ := HK.start h0
  refine m_aload_n F rfl e_X9_remember_0 ?_
  refine t_get F e_X9_remember_1 fl_X9_35 (fun _ => o1) h1 hk rfl (fun v hv f2030 => ?_)
  obtain ⟨r2031, k2032, rfl⟩ := hv
  refine m_aload_n F rfl e_X9_remember_4 ?_
  refine t_get F e_X9_remember_5 fl_X9_371 (fun _ => o1) h1 hk rfl (fun v hv f2033 => ?_)
  obtain ⟨n2034, ⟨hn2034, gn2034⟩, rfl⟩ := hv
  replace hn2034 : n2034 ≤ 19 := hn2034
  replace gn2034 : n2034 = G.pf := gn2034
  refine m_aload_n F rfl e_X9_remember_8 ?_
  refine t_get F e_X9_remember_9 fl_X9_368 (fun _ => o1) h1 hk rfl (fun v hv f2035 => ?_)
  obtain ⟨n2036, ⟨hn2036, gn2036⟩, rfl⟩ := hv
  replace hn2036 : n2036 ≤ 20 := hn2036
  replace gn2036 : n2036 = G.pc := gn2036
  refine m_iadd F e_X9_remember_12 ?_
  refine Wm.topE (w := nI (n2034 + n2036)) (nI_add n2034 n2036) ?_
  refine m_bipush F (v := 20) (by decide) e_X9_remember_13 ?_
  refine m_irem F (by decide) e_X9_remember_15 ?_
  refine Wm.topE (w := nI ((n2034 + n2036) % 20)) (pk_rem (a := n2034 + n2036) (d := 20) (by omega) (by decide) (by decide)) ?_
  refine t_aald5 F (j := (n2034 + n2036) % 20) e_X9_remember_16 rfl h1 k2032 (nI_clamp (by omega)) (vp_in_nI (by omega) (by decide)) ?_
  refine m_aload_n F rfl e_X9_remember_17 ?_
  refine t_get F e_X9_remember_18 fl_X9_16 (fun _ => o1) h1 hk rfl (fun v hv f2037 => ?_)
  obtain ⟨r2038, ⟨k2039, er2038⟩, rfl⟩ := hv
  replace er2038 : r2038 = b + 2 + 63 * G.bk := er2038
  have h2043 : HK V (setG G (3 + ((n2034 + n2036) % 20)) 0) (b, M, Z, T) [0, 2, 3, 4, 5, 8, 9, 16] _ _ := ⟨h1.1.off hG.1, h1.2⟩
  refine t_callV F e_X9_remember_21 (s_X2_copyFrom (x_l X) V (setG G (3 + ((n2034 + n2036) % 20)) 0) b M Z T _ _ (b + 197 + 63 * ((n2034 + n2036) % 20)) r2038 h2043.1 (kA_p (j := (n2034 + n2036) % 20) (by omega)) k2039 (gd_off (blk_p (by omega))) (by omega)) cb_X2_copyFrom ml_X9_374 im_X2_copyFrom se_X2_copyFrom (fun _ => o7) h2043 (kA_p (j := (n2034 + n2036) % 20) (by omega)) rfl rfl (rest := []) rfl (Nat.le_of_ble_eq_true rfl) ⟨Nat.le_of_ble_eq_true rfl, Nat.le_of_ble_eq_true rfl⟩ ⟨Nat.le_of_ble_eq_true rfl, Nat.le_of_ble_eq_true rfl⟩ (fun r σ2040 hp => ?_)
  obtain ⟨h2042, bn2044, rfl⟩ := hp
  have h2041 := HK.trans h2043 h2042 (by decide)
  have h2045 : HK V (onG G (3 + ((n2034 + n2036) % 20))) (b, M, Z, T) [0, 2, 3, 4, 5, 8, 9, 16] _ _ := ⟨h2041.1.on hG.1 (kA_p (j := (n2034 + n2036) % 20) (by omega)) (blk_p (by omega)) (bn2044 (gd_oth (by rw [er2038, blk_bk (by have h9 := hG.2.1; omega)]; have h9 := hG.2.1; omega) (gd_bk hG er2038))), h2041.2⟩
  refine m_aload_n F rfl e_X9_remember_24 ?_
  refine t_getC F e_X9_remember_25 fl_X9_368 (fun _ => o1) h2045 hk ((fld_eq (h2042.2 a (by rw [show kA _ a = 1 from hk]; decide))).trans f2035) ?_
  refine m_bipush F (v := 20) (by decide) e_X9_remember_28 ?_
  refine m_icmp_ge F e_X9_remember_30 (fun q30 => ?_) (fun q30 => ?_)
  · have c30 : n2036 ≥ 20 := (nI_leI (a := 20) (b := n2036) (by omega) (by omega)).mp q30
    refine m_aload_n F rfl e_X9_remember_46 ?_
    refine m_aload_n F rfl e_X9_remember_47 ?_
    refine t_getC F e_X9_remember_48 fl_X9_371 (fun _ => o1) h2045 hk ((fld_eq (h2042.2 a (by rw [show kA _ a = 1 from hk]; decide))).trans f2033) ?_
    refine m_iconst F (v := 1) (by decide) e_X9_remember_51 ?_
    refine m_iadd F e_X9_remember_52 ?_
    refine Wm.topE (w := nI (n2034 + 1)) (nI_add n2034 1) ?_
    refine m_bipush F (v := 20) (by decide) e_X9_remember_53 ?_
    refine m_irem F (by decide) e_X9_remember_55 ?_
    refine Wm.topE (w := nI ((n2034 + 1) % 20)) (pk_rem (a := n2034 + 1) (d := 20) (by omega) (by decide) (by decide)) ?_
    refine t_putG F (G' := (mkG (onG G (3 + ((n2034 + n2036) % 20))).gd (onG G (3 + ((n2034 + n2036) % 20))).n0 (onG G (3 + ((n2034 + n2036) % 20))).nm (onG G (3 + ((n2034 + n2036) % 20))).bk (onG G (3 + ((n2034 + n2036) % 20))).sp (onG G (3 + ((n2034 + n2036) % 20))).ik ((n2034 + 1) % 20) (onG G (3 + ((n2034 + n2036) % 20))).pc)) (j := 8) e_X9_remember_56 fp_X9_371 h2045 hk (by decide) rfl rfl rfl ⟨(n2034 + 1) % 20, ⟨(show (n2034 + 1) % 20 ≤ 19 by omega), rfl⟩, rfl⟩ (ctlG_pf) rfl rfl (by decide) (fun σ2046 h2047 g2048 g2049 f2050 => ?_)
    exact m_vret F hQ e_X9_remember_59 (⟨(mkG (onG G (3 + ((n2034 + n2036) % 20))).gd (onG G (3 + ((n2034 + n2036) % 20))).n0 (onG G (3 + ((n2034 + n2036) % 20))).nm (onG G (3 + ((n2034 + n2036) % 20))).bk (onG G (3 + ((n2034 + n2036) % 20))).sp (onG G (3 + ((n2034 + n2036) % 20))).ik ((n2034 + 1) % 20) (onG G (3 + ((n2034 + n2036) % 20))).pc), okG.rem2 hG gn2034 gn2036 (by omega), h2047, rfl⟩)
  · have c30 : n2036 < 20 := by have hh := mt (nI_leI (a := 20) (b := n2036) (by omega) (by omega)).mpr q30; omega
    refine m_aload_n F rfl e_X9_remember_33 ?_
    refine m_dup F rfl e_X9_remember_34 ?_
    refine t_getC F e_X9_remember_35 fl_X9_368 (fun _ => o1) h2045 hk ((fld_eq (h2042.2 a (by rw [show kA _ a = 1 from hk]; decide))).trans f2035) ?_
    refine m_iconst F (v := 1) (by decide) e_X9_remember_38 ?_
    refine m_iadd F e_X9_remember_39 ?_
    refine Wm.topE (w := nI (n2036 + 1)) (nI_add n2036 1) ?_
    refine t_putG F (G' := (mkG (onG G (3 + ((n2034 + n2036) % 20))).gd (onG G (3 + ((n2034 + n2036) % 20))).n0 (onG G (3 + ((n2034 + n2036) % 20))).nm (onG G (3 + ((n2034 + n2036) % 20))).bk (onG G (3 + ((n2034 + n2036) % 20))).sp (onG G (3 + ((n2034 + n2036) % 20))).ik (onG G (3 + ((n2034 + n2036) % 20))).pf (n2036 + 1))) (j := 9) e_X9_remember_40 fp_X9_368 h2045 hk (by decide) rfl rfl rfl ⟨n2036 + 1, ⟨(show n2036 + 1 ≤ 20 by omega), rfl⟩, rfl⟩ (ctlG_pc) rfl rfl (by decide) (fun σ2051 h2052 g2053 g2054 f2055 => ?_)
    refine m_goto F e_X9_remember_43 ?_
    exact m_vret F hQ e_X9_remember_59 (⟨(mkG (onG G (3 + ((n2034 + n2036) % 20))).gd (onG G (3 + ((n2034 + n2036) % 20))).n0 (onG G (3 + ((n2034 + n2036) % 20))).nm (onG G (3 + ((n2034 + n2036) % 20))).bk (onG G (3 + ((n2034 + n2036) % 20))).sp (onG G (3 + ((n2034 + n2036) % 20))).ik (onG G (3 + ((n2034 + n2036) % 20))).pf (n2036 + 1)), okG.rem1 hG gn2034 gn2036 (by omega), h2052, rfl⟩)
set_option maxRecDepth 20000 in
theorem s_X9_forgetPast (l : Launch) (V : VX) (G : GH) (b M Z T N : Nat) (σ : Mem) (a : Nat) (h0 : HT V G (b, M, Z, T) σ) (hk : kA b a = 1) (hM : M + 0 ≤ 1000000000) : Ct l V yX9_forgetPast cX9_forgetPast 1 none 0 0 0 N σ [.ref a] (fun r τ => HK V (mkG G.gd G.n0 G.nm G.bk G.sp G.ik 0 0) (b, M, Z, T) [0, 2, 3, 4, 5, 6, 7, 8, 9, 10, 11, 12, 13, 14, 15, 16, 17, 18, 19] σ τ ∧ r = none) := by
  refine Ct.of (by decide) (Nat.le_of_ble_eq_true rfl) [(0, .ref a)] rfl (fun X hX F hQ => ?_)
  have h1 : HK V G (b, M, Z, T) [0, 2, 3, 4, 5, 6, 7, 8, 9, 10, 11, 12, 13, 14, 15, 16, 17, 18, 19] σ σ := HK.start h0
  refine m_aload_n F rfl e_X9_forgetPast_0 ?_
  refine m_iconst F (v := 0) (by decide) e_X9_forgetPast_1 ?_
  refine t_putG F (G' := (mkG G.gd G.n0 G.nm G.bk G.sp G.ik 0 G.pc)) (j := 8) e_X9_forgetPast_2 fp_X9_371 h1 hk (by decide) rfl rfl rfl ⟨0, ⟨(show 0 ≤ 19 by omega), rfl⟩, rfl⟩ (ctlG_pf) rfl rfl (by decide) (fun σ2056 h2057 g2058 g2059 f2060 => ?_)
  refine m_aload_n F rfl e_X9_forgetPast_5 ?_
  refine m_iconst F (v := 0) (by decide) e_X9_forgetPast_6 ?_
  refine t_putG F (G' := (mkG (mkG G.gd G.n0 G.nm G.bk G.sp G.ik 0 G.pc).gd (mkG G.gd G.n0 G.nm G.bk G.sp G.ik 0 G.pc).n0 (mkG G.gd G.n0 G.nm G.bk G.sp G.ik 0 G.pc).nm (mkG G.gd G.n0 G.nm G.bk G.sp G.ik 0 G.pc).bk (mkG G.gd G.n0 G.nm G.bk G.sp G.ik 0 G.pc).sp (mkG G.gd G.n0 G.nm G.bk G.sp G.ik 0 G.pc).ik (mkG G.gd G.n0 G.nm G.bk G.sp G.ik 0 G.pc).pf 0)) (j := 9) e_X9_forgetPast_7 fp_X9_368 h2057 hk (by decide) rfl rfl rfl ⟨0, ⟨(show 0 ≤ 20 by omega), rfl⟩, rfl⟩ (ctlG_pc) rfl rfl (by decide) (fun σ2061 h2062 g2063 g2064 f2065 => ?_)
  exact m_vret F hQ e_X9_forgetPast_10 (⟨h2062, rfl⟩)
set_option maxRecDepth 20000 in
theorem s_X9_isIndex (l : Launch) (V : VX) (G : GH) (b M Z T N : Nat) (σ : Mem) (x901 : Int32) (h0 : HT V G (b, M, Z, T) σ)  (hM : M + 0 ≤ 1000000000) : Ct l V yX9_isIndex cX9_isIndex 1 (some .boolean) 0 0 0 N σ [.int x901] (fun r τ => HK V G (b, M, Z, T) [0, 1, 2, 3, 4, 5, 6, 7, 8, 9, 10, 11, 12, 13, 14, 15, 16, 17, 18, 19] σ τ ∧ ∃ n : Nat, n ≤ 1 ∧ r = some (.int (nI n))) := by
  refine Ct.of (by decide) (Nat.le_of_ble_eq_true rfl) [(0, .int x901)] rfl (fun X hX F hQ => ?_)
  have h1 : HK V G (b, M, Z, T) [0, 1, 2, 3, 4, 5, 6, 7, 8, 9, 10, 11, 12, 13, 14, 15, 16, 17, 18, 19] σ σ := HK.start h0
  refine m_iload_n F rfl e_X9_isIndex_0 ?_
  refine m_sipush F (v := 500) (by decide) e_X9_isIndex_1 ?_
  refine m_icmp_lt F e_X9_isIndex_4 (fun q4 => ?_) (fun q4 => ?_)
  · refine m_iconst F (v := 0) (by decide) e_X9_isIndex_18 ?_
    exact m_zret F hQ e_X9_isIndex_19 (by decide) (⟨h1, 0, by omega, rfl⟩)
  · obtain ⟨n2066, hn2066, rfl⟩ := nI_nn (x := x901) (fun e => q4 (Int32.lt_of_lt_of_le e (by decide)))
    have c4 : n2066 ≥ 500 := by have hh := mt (nI_ltI (a := n2066) (b := 500) (by omega) (by omega)).mpr q4; omega
    refine m_iload_n F rfl e_X9_isIndex_7 ?_
    refine m_sipush F (v := 2000) (by decide) e_X9_isIndex_8 ?_
    refine m_icmp_gt F e_X9_isIndex_11 (fun q11 => ?_) (fun q11 => ?_)
    · have c11 : n2066 > 2000 := (nI_ltI (a := 2000) (b := n2066) (by omega) (by omega)).mp q11
      refine m_iconst F (v := 0) (by decide) e_X9_isIndex_18 ?_
      exact m_zret F hQ e_X9_isIndex_19 (by decide) (⟨h1, 0, by omega, rfl⟩)
    · have c11 : n2066 ≤ 2000 := by have hh := mt (nI_ltI (a := 2000) (b := n2066) (by omega) (by omega)).mpr q11; omega
      refine m_iconst F (v := 1) (by decide) e_X9_isIndex_14 ?_
      refine m_goto F e_X9_isIndex_15 ?_
      exact m_zret F hQ e_X9_isIndex_19 (by decide) (⟨h1, 1, by omega, rfl⟩)
set_option maxRecDepth 20000 in
theorem s_X9_isSort (l : Launch) (V : VX) (G : GH) (b M Z T N : Nat) (σ : Mem) (x901 : Int32) (h0 : HT V G (b, M, Z, T) σ)  (hM : M + 0 ≤ 1000000000) : Ct l V yX9_isSort cX9_isSort 1 (some .boolean) 0 0 0 N σ [.int x901] (fun r τ => HK V G (b, M, Z, T) [0, 1, 2, 3, 4, 5, 6, 7, 8, 9, 10, 11, 12, 13, 14, 15, 16, 17, 18, 19] σ τ ∧ ∃ n : Nat, n ≤ 1 ∧ r = some (.int (nI n))) := by
  refine Ct.of (by decide) (Nat.le_of_ble_eq_true rfl) [(0, .int x901)] rfl (fun X hX F hQ => ?_)
  have h1 : HK V G (b, M, Z, T) [0, 1, 2, 3, 4, 5, 6, 7, 8, 9, 10, 11, 12, 13, 14, 15, 16, 17, 18, 19] σ σ := HK.start h0
  refine m_iload_n F rfl e_X9_isSort_0 ?_
  refine m_if_lt F e_X9_isSort_1 (fun q1 => ?_) (fun q1 => ?_)
  · refine m_iconst F (v := 0) (by decide) e_X9_isSort_14 ?_
    exact m_zret F hQ e_X9_isSort_15 (by decide) (⟨h1, 0, by omega, rfl⟩)
  · obtain ⟨n2067, hn2067, rfl⟩ := nI_nn (x := x901) (fun e => q1 (Int32.lt_of_lt_of_le e (by decide)))
    have c1 : n2067 ≥ 0 := by have hh := mt (nI_ltI (a := n2067) (b := 0) (by omega) (by omega)).mpr q1; omega
    refine m_iload_n F rfl e_X9_isSort_4 ?_
    refine m_bipush F (v := 6) (by decide) e_X9_isSort_5 ?_
    refine m_icmp_ge F e_X9_isSort_7 (fun q7 => ?_) (fun q7 => ?_)
    · have c7 : n2067 ≥ 6 := (nI_leI (a := 6) (b := n2067) (by omega) (by omega)).mp q7
      refine m_iconst F (v := 0) (by decide) e_X9_isSort_14 ?_
      exact m_zret F hQ e_X9_isSort_15 (by decide) (⟨h1, 0, by omega, rfl⟩)
    · have c7 : n2067 < 6 := by have hh := mt (nI_leI (a := 6) (b := n2067) (by omega) (by omega)).mpr q7; omega
      refine m_iconst F (v := 1) (by decide) e_X9_isSort_10 ?_
      refine m_goto F e_X9_isSort_11 ?_
      exact m_zret F hQ e_X9_isSort_15 (by decide) (⟨h1, 1, by omega, rfl⟩)
set_option maxRecDepth 20000 in
theorem s_X9_isWorth (l : Launch) (V : VX) (G : GH) (b M Z T N : Nat) (σ : Mem) (x901 : Int64) (h0 : HT V G (b, M, Z, T) σ)  (hM : M + 0 ≤ 1000000000) : Ct l V yX9_isWorth cX9_isWorth 2 (some .boolean) 0 0 0 N σ [.long x901] (fun r τ => HK V G (b, M, Z, T) [0, 1, 2, 3, 4, 5, 6, 7, 8, 9, 10, 11, 12, 13, 14, 15, 16, 17, 18, 19] σ τ ∧ ∃ n : Nat, n ≤ 1 ∧ r = some (.int (nI n))) := by
  refine Ct.of (by decide) (Nat.le_of_ble_eq_true rfl) [(0, .long x901)] rfl (fun X hX F hQ => ?_)
  have h1 : HK V G (b, M, Z, T) [0, 1, 2, 3, 4, 5, 6, 7, 8, 9, 10, 11, 12, 13, 14, 15, 16, 17, 18, 19] σ σ := HK.start h0
  refine m_lload_n F rfl e_X9_isWorth_0 ?_
  refine m_lconst F (v := 1) (by decide) e_X9_isWorth_1 ?_
  refine m_lcmp F e_X9_isWorth_2 ?_
  refine Wm.top (fun x2068 _ => ?_)
  refine m_if_lt F e_X9_isWorth_3 (fun q3 => ?_) (fun q3 => ?_)
  · refine m_iconst F (v := 0) (by decide) e_X9_isWorth_18 ?_
    exact m_zret F hQ e_X9_isWorth_19 (by decide) (⟨h1, 0, by omega, rfl⟩)
  · obtain ⟨n2069, hn2069, rfl⟩ := nI_nn (x := x2068) (fun e => q3 (Int32.lt_of_lt_of_le e (by decide)))
    have c3 : n2069 ≥ 0 := by have hh := mt (nI_ltI (a := n2069) (b := 0) (by omega) (by omega)).mpr q3; omega
    refine m_lload_n F rfl e_X9_isWorth_6 ?_
    refine m_ldc2 F kc_X9_395 e_X9_isWorth_7 ?_
    refine m_lcmp F e_X9_isWorth_10 ?_
    refine Wm.top (fun x2070 _ => ?_)
    refine m_if_gt F e_X9_isWorth_11 (fun q11 => ?_) (fun q11 => ?_)
    · obtain ⟨n2071, hn2071, rfl⟩ := nI_nn (x := x2070) (fun e => Int32.lt_irrefl (Int32.lt_trans e (Int32.lt_of_le_of_lt (by decide) q11)))
      have c11 : n2071 > 0 := (nI_ltI (a := 0) (b := n2071) (by omega) (by omega)).mp q11
      refine m_iconst F (v := 0) (by decide) e_X9_isWorth_18 ?_
      exact m_zret F hQ e_X9_isWorth_19 (by decide) (⟨h1, 0, by omega, rfl⟩)
    · refine m_iconst F (v := 1) (by decide) e_X9_isWorth_14 ?_
      refine m_goto F e_X9_isWorth_15 ?_
      exact m_zret F hQ e_X9_isWorth_19 (by decide) (⟨h1, 1, by omega, rfl⟩)
set_option maxRecDepth 20000 in
theorem lp_X9_leastTerm_30 {V : VX} {G : GH} {X : MX} {b M Z T N : Nat} {σ : Mem}  {r901 : Nat} {r902 : Nat} {n903 : Nat}  (F : Fx V X yX9_leastTerm cX9_leastTerm 13 (some .long) (rmd 1 0 0)) (hQ : Rt V X 0 0 N (fun r τ => HK V G (b, M, Z, T) [0, 1, 2, 3, 4, 5, 7, 8, 9, 10, 11, 12, 13, 14, 15, 16, 17, 18, 19] σ τ ∧ ∃ x : Int64, r = some (.long x))) (k901 : kA b r901 = 6) (k902 : kA b r902 = 6) (hn903 : n903 ≤ 1) (hM : M + 0 ≤ 1000000000)  : ∀ (fuel : Nat) (i : Nat) (q1 : Nat) (q2 : Nat) (u1 : Int64) (u2 : Int64) (τ : Mem), HK V G (b, M, Z, T) [0, 1, 2, 3, 4, 5, 7, 8, 9, 10, 11, 12, 13, 14, 15, 16, 17, 18, 19] σ τ → kA b q1 = 6 ∧ kA b q2 = 6 ∧ i ≤ 200 → 200 - i < fuel → Wm V X 13 N τ 0 0 30 [(9, .int (nI i)), (3, .ref q1), (4, .ref q2), (5, .long u1), (7, .long u2)] [] := by
  intro fuel
  induction fuel with
  | zero => intro i q1 q2 u1 u2 τ h1 hi hm; exact absurd hm (Nat.not_lt_zero _)
  | succ fuel ih =>
    intro i q1 q2 u1 u2 τ h1 hi hm
    obtain ⟨kq1, kq2, hi⟩ := hi
    refine m_iload F rfl e_X9_leastTerm_30 ?_
    refine m_sipush F (v := 200) (by decide) e_X9_leastTerm_32 ?_
    refine m_icmp_ge F e_X9_leastTerm_35 (fun q35 => ?_) (fun q35 => ?_)
    · have c35 : i ≥ 200 := (nI_leI (a := 200) (b := i) (by omega) (by omega)).mp q35
      refine m_lload F rfl e_X9_leastTerm_84 ?_
      exact m_lret F hQ e_X9_leastTerm_86 (⟨h1, _, rfl⟩)
    · have c35 : i < 200 := by have hh := mt (nI_leI (a := 200) (b := i) (by omega) (by omega)).mpr q35; omega
      refine m_aload F rfl e_X9_leastTerm_38 ?_
      refine t_callV F e_X9_leastTerm_40 (s_X1_isZero (x_l X) V G b M Z T _ _ q2  h1.1 kq2  (by omega)) cb_X1_isZero ml_X9_314 im_X1_isZero se_X1_isZero (fun _ => o6) h1 kq2 rfl rfl (rest := []) rfl (Nat.le_of_ble_eq_true rfl) ⟨Nat.le_of_ble_eq_true rfl, Nat.le_of_ble_eq_true rfl⟩ ⟨Nat.le_of_ble_eq_true rfl, Nat.le_of_ble_eq_true rfl⟩ (fun r σ2072 hp => ?_)
      obtain ⟨h2074, n2075, hn2075, rfl⟩ := hp
      have h2073 := HK.trans h1 h2074 (by decide)
      refine m_if_ne F e_X9_leastTerm_43 (fun q43 => ?_) (fun q43 => ?_)
      · have c43 : n2075 ≠ 0 := by have hh := mt (nI_eq (a := n2075) (b := 0) (by omega) (by omega)).mpr q43; omega
        refine m_lload F rfl e_X9_leastTerm_84 ?_
        exact m_lret F hQ e_X9_leastTerm_86 (⟨h2073, _, rfl⟩)
      · have c43 : n2075 = 0 := (nI_eq (a := n2075) (b := 0) (by omega) (by omega)).mp q43
        refine m_aload_n F rfl e_X9_leastTerm_46 ?_
        refine m_aload F rfl e_X9_leastTerm_47 ?_
        refine t_callV F e_X9_leastTerm_49 (s_X1_takeOut (x_l X) V G b M Z T _ _ q1 q2 h2073.1 kq1 kq2 (by omega)) cb_X1_takeOut ml_X9_397 im_X1_takeOut se_X1_takeOut (fun _ => o6) h2073 kq1 rfl rfl (rest := []) rfl (Nat.le_of_ble_eq_true rfl) ⟨Nat.le_of_ble_eq_true rfl, Nat.le_of_ble_eq_true rfl⟩ ⟨Nat.le_of_ble_eq_true rfl, Nat.le_of_ble_eq_true rfl⟩ (fun r σ2076 hp => ?_)
        obtain ⟨h2078, x2079, rfl⟩ := hp
        have h2077 := HK.trans h2073 h2078 (by decide)
        refine m_lload F rfl e_X9_leastTerm_52 ?_
        refine m_lmul F e_X9_leastTerm_54 ?_
        refine Wm.topl (fun x2080 _ => ?_)
        refine m_lload F rfl e_X9_leastTerm_55 ?_
        refine m_ladd F e_X9_leastTerm_57 ?_
        refine Wm.topl (fun x2081 _ => ?_)
        refine m_lstore F (lv' := [(10, .long x2081), (9, .int (nI i)), (3, .ref q1), (4, .ref q2), (5, .long u1), (7, .long u2)]) e_X9_leastTerm_58 (by decide) rfl ?_
        refine m_lload F rfl e_X9_leastTerm_60 ?_
        refine m_lstore F (lv' := [(5, .long u2), (10, .long x2081), (9, .int (nI i)), (3, .ref q1), (4, .ref q2), (7, .long u2)]) e_X9_leastTerm_62 (by decide) rfl ?_
        refine m_lload F rfl e_X9_leastTerm_64 ?_
        refine m_lstore F (lv' := [(7, .long x2081), (5, .long u2), (10, .long x2081), (9, .int (nI i)), (3, .ref q1), (4, .ref q2)]) e_X9_leastTerm_66 (by decide) rfl ?_
        refine m_aload_n F rfl e_X9_leastTerm_68 ?_
        refine m_astore F (lv' := [(12, .ref q1), (7, .long x2081), (5, .long u2), (10, .long x2081), (9, .int (nI i)), (3, .ref q1), (4, .ref q2)]) e_X9_leastTerm_69 (by decide) rfl ?_
        refine m_aload F rfl e_X9_leastTerm_71 ?_
        refine m_astore_n F (lv' := [(3, .ref q2), (12, .ref q1), (7, .long x2081), (5, .long u2), (10, .long x2081), (9, .int (nI i)), (4, .ref q2)]) e_X9_leastTerm_73 (by decide) rfl ?_
        refine m_aload F rfl e_X9_leastTerm_74 ?_
        refine m_astore F (lv' := [(4, .ref q1), (3, .ref q2), (12, .ref q1), (7, .long x2081), (5, .long u2), (10, .long x2081), (9, .int (nI i))]) e_X9_leastTerm_76 (by decide) rfl ?_
        refine m_iinc F (v := nI (i + 1)) (lv' := [(9, .int (nI (i + 1))), (4, .ref q1), (3, .ref q2), (12, .ref q1), (7, .long x2081), (5, .long u2), (10, .long x2081)]) e_X9_leastTerm_78 rfl (nI_add i 1) (by decide) rfl ?_
        refine m_goto F e_X9_leastTerm_81 ?_
        refine Wm.lvsub (lv' := [(9, .int (nI (i + 1))), (3, .ref q2), (4, .ref q1), (5, .long u2), (7, .long x2081)]) ?_ [0, 2, 1, 5, 4] rfl
        exact ih (i + 1) q2 q1 u2 x2081 _ h2077 ⟨kq2, kq1, (by omega)⟩ (by omega)
set_option maxRecDepth 20000 in
theorem s_X9_leastTerm (l : Launch) (V : VX) (G : GH) (b M Z T N : Nat) (σ : Mem) (r901 : Nat) (r902 : Nat) (n903 : Nat) (h0 : HT V G (b, M, Z, T) σ) (k901 : kA b r901 = 6) (k902 : kA b r902 = 6) (hn903 : n903 ≤ 1) (hM : M + 0 ≤ 1000000000) : Ct l V yX9_leastTerm cX9_leastTerm 13 (some .long) 1 0 0 N σ [.ref r901, .ref r902, .int (nI n903)] (fun r τ => HK V G (b, M, Z, T) [0, 1, 2, 3, 4, 5, 7, 8, 9, 10, 11, 12, 13, 14, 15, 16, 17, 18, 19] σ τ ∧ ∃ x : Int64, r = some (.long x)) := by
  refine Ct.of (by decide) (Nat.le_of_ble_eq_true rfl) [(0, .ref r901), (1, .ref r902), (2, .int (nI n903))] rfl (fun X hX F hQ => ?_)
  have h1 : HK V G (b, M, Z, T) [0, 1, 2, 3, 4, 5, 7, 8, 9, 10, 11, 12, 13, 14, 15, 16, 17, 18, 19] σ σ := HK.start h0
  refine m_aload_n F rfl e_X9_leastTerm_0 ?_
  refine m_astore_n F (lv' := [(3, .ref r901), (0, .ref r901), (1, .ref r902), (2, .int (nI n903))]) e_X9_leastTerm_1 (by decide) rfl ?_
  refine m_aload_n F rfl e_X9_leastTerm_2 ?_
  refine m_astore F (lv' := [(4, .ref r902), (3, .ref r901), (0, .ref r901), (1, .ref r902), (2, .int (nI n903))]) e_X9_leastTerm_3 (by decide) rfl ?_
  refine m_iload_n F rfl e_X9_leastTerm_5 ?_
  refine m_if_eq F e_X9_leastTerm_6 (fun q6 => ?_) (fun q6 => ?_)
  · have c6 : n903 = 0 := (nI_eq (a := n903) (b := 0) (by omega) (by omega)).mp q6
    refine m_lconst F (v := 0) (by decide) e_X9_leastTerm_13 ?_
    refine m_lstore F (lv' := [(5, .long 0), (4, .ref r902), (3, .ref r901), (0, .ref r901), (1, .ref r902), (2, .int (nI n903))]) e_X9_leastTerm_14 (by decide) rfl ?_
    refine m_iload_n F rfl e_X9_leastTerm_16 ?_
    refine m_if_eq F e_X9_leastTerm_17 (fun q17 => ?_) (fun q17 => ?_)
    · have c17 : n903 = 0 := (nI_eq (a := n903) (b := 0) (by omega) (by omega)).mp q17
      refine m_lconst F (v := 1) (by decide) e_X9_leastTerm_24 ?_
      refine m_lstore F (lv' := [(7, .long 1), (5, .long 0), (4, .ref r902), (3, .ref r901), (0, .ref r901), (1, .ref r902), (2, .int (nI n903))]) e_X9_leastTerm_25 (by decide) rfl ?_
      refine m_iconst F (v := 0) (by decide) e_X9_leastTerm_27 ?_
      refine m_istore F (lv' := [(9, .int 0), (7, .long 1), (5, .long 0), (4, .ref r902), (3, .ref r901), (0, .ref r901), (1, .ref r902), (2, .int (nI n903))]) e_X9_leastTerm_28 (by decide) rfl ?_
      refine Wm.lvsub (lv' := [(9, .int 0), (3, .ref r901), (4, .ref r902), (5, .long 0), (7, .long 1)]) ?_ [0, 4, 3, 2, 1] rfl
      exact lp_X9_leastTerm_30 F hQ k901 k902 hn903 hM (200 - 0 + 1) 0 r901 r902 0 1 _ h1 ⟨k901, k902, (by omega)⟩ (Nat.lt_succ_self _)
    · have c17 : n903 ≠ 0 := by have hh := mt (nI_eq (a := n903) (b := 0) (by omega) (by omega)).mpr q17; omega
      refine m_lconst F (v := 0) (by decide) e_X9_leastTerm_20 ?_
      refine m_goto F e_X9_leastTerm_21 ?_
      refine m_lstore F (lv' := [(7, .long 0), (5, .long 0), (4, .ref r902), (3, .ref r901), (0, .ref r901), (1, .ref r902), (2, .int (nI n903))]) e_X9_leastTerm_25 (by decide) rfl ?_
      refine m_iconst F (v := 0) (by decide) e_X9_leastTerm_27 ?_
      refine m_istore F (lv' := [(9, .int 0), (7, .long 0), (5, .long 0), (4, .ref r902), (3, .ref r901), (0, .ref r901), (1, .ref r902), (2, .int (nI n903))]) e_X9_leastTerm_28 (by decide) rfl ?_
      refine Wm.lvsub (lv' := [(9, .int 0), (3, .ref r901), (4, .ref r902), (5, .long 0), (7, .long 0)]) ?_ [0, 4, 3, 2, 1] rfl
      exact lp_X9_leastTerm_30 F hQ k901 k902 hn903 hM (200 - 0 + 1) 0 r901 r902 0 0 _ h1 ⟨k901, k902, (by omega)⟩ (Nat.lt_succ_self _)
  · have c6 : n903 ≠ 0 := by have hh := mt (nI_eq (a := n903) (b := 0) (by omega) (by omega)).mpr q6; omega
    refine m_lconst F (v := 1) (by decide) e_X9_leastTerm_9 ?_
    refine m_goto F e_X9_leastTerm_10 ?_
    refine m_lstore F (lv' := [(5, .long 1), (4, .ref r902), (3, .ref r901), (0, .ref r901), (1, .ref r902), (2, .int (nI n903))]) e_X9_leastTerm_14 (by decide) rfl ?_
    refine m_iload_n F rfl e_X9_leastTerm_16 ?_
    refine m_if_eq F e_X9_leastTerm_17 (fun q17 => ?_) (fun q17 => ?_)
    · have c17 : n903 = 0 := (nI_eq (a := n903) (b := 0) (by omega) (by omega)).mp q17
      refine m_lconst F (v := 1) (by decide) e_X9_leastTerm_24 ?_
      refine m_lstore F (lv' := [(7, .long 1), (5, .long 1), (4, .ref r902), (3, .ref r901), (0, .ref r901), (1, .ref r902), (2, .int (nI n903))]) e_X9_leastTerm_25 (by decide) rfl ?_
      refine m_iconst F (v := 0) (by decide) e_X9_leastTerm_27 ?_
      refine m_istore F (lv' := [(9, .int 0), (7, .long 1), (5, .long 1), (4, .ref r902), (3, .ref r901), (0, .ref r901), (1, .ref r902), (2, .int (nI n903))]) e_X9_leastTerm_28 (by decide) rfl ?_
      refine Wm.lvsub (lv' := [(9, .int 0), (3, .ref r901), (4, .ref r902), (5, .long 1), (7, .long 1)]) ?_ [0, 4, 3, 2, 1] rfl
      exact lp_X9_leastTerm_30 F hQ k901 k902 hn903 hM (200 - 0 + 1) 0 r901 r902 1 1 _ h1 ⟨k901, k902, (by omega)⟩ (Nat.lt_succ_self _)
    · have c17 : n903 ≠ 0 := by have hh := mt (nI_eq (a := n903) (b := 0) (by omega) (by omega)).mpr q17; omega
      refine m_lconst F (v := 0) (by decide) e_X9_leastTerm_20 ?_
      refine m_goto F e_X9_leastTerm_21 ?_
      refine m_lstore F (lv' := [(7, .long 0), (5, .long 1), (4, .ref r902), (3, .ref r901), (0, .ref r901), (1, .ref r902), (2, .int (nI n903))]) e_X9_leastTerm_25 (by decide) rfl ?_
      refine m_iconst F (v := 0) (by decide) e_X9_leastTerm_27 ?_
      refine m_istore F (lv' := [(9, .int 0), (7, .long 0), (5, .long 1), (4, .ref r902), (3, .ref r901), (0, .ref r901), (1, .ref r902), (2, .int (nI n903))]) e_X9_leastTerm_28 (by decide) rfl ?_
      refine Wm.lvsub (lv' := [(9, .int 0), (3, .ref r901), (4, .ref r902), (5, .long 1), (7, .long 0)]) ?_ [0, 4, 3, 2, 1] rfl
      exact lp_X9_leastTerm_30 F hQ k901 k902 hn903 hM (200 - 0 + 1) 0 r901 r902 1 0 _ h1 ⟨k901, k902, (by omega)⟩ (Nat.lt_succ_self _)
set_option maxRecDepth 20000 in
theorem s_X9_named (l : Launch) (V : VX) (G : GH) (b M Z T N : Nat) (σ : Mem) (a : Nat) (x901 : Int32) (h0 : HT V G (b, M, Z, T) σ) (hk : kA b a = 1) (hG : okG G) (hM : M + 0 ≤ 1000000000) : Ct l V yX9_named cX9_named 2 (some .int) 1 0 0 N σ [.ref a, .int x901] (fun r τ => HK V G (b, M, Z, T) [0, 1, 2, 3, 4, 5, 6, 7, 8, 9, 10, 11, 12, 13, 14, 15, 16, 17, 18, 19] σ τ ∧ ∃ x : Int32, r = some (.int x)) := by
  refine Ct.of (by decide) (Nat.le_of_ble_eq_true rfl) [(0, .ref a), (1, .int x901)] rfl (fun X hX F hQ => ?_)
  have h1 : HK V G (b, M, Z, T) [0, 1, 2, 3, 4, 5, 6, 7, 8, 9, 10, 11, 12, 13, 14, 15, 16, 17, 18, 19] σ σ := HK.start h0
  refine m_aload_n F rfl e_X9_named_0 ?_
  refine t_get F e_X9_named_1 fl_X9_16 (fun _ => o1) h1 hk rfl (fun v hv f2082 => ?_)
  obtain ⟨r2083, ⟨k2084, er2083⟩, rfl⟩ := hv
  replace er2083 : r2083 = b + 2 + 63 * G.bk := er2083
  refine m_iload_n F rfl e_X9_named_4 ?_
  refine t_callV F e_X9_named_5 (s_X2_leaseNamed (x_l X) V G b M Z T _ _ r2083 x901 h1.1 k2084  (by omega)) cb_X2_leaseNamed ml_X9_90 im_X2_leaseNamed se_X2_leaseNamed (fun _ => o7) h1 k2084 rfl rfl (rest := []) rfl (Nat.le_of_ble_eq_true rfl) ⟨Nat.le_of_ble_eq_true rfl, Nat.le_of_ble_eq_true rfl⟩ ⟨Nat.le_of_ble_eq_true rfl, Nat.le_of_ble_eq_true rfl⟩ (fun r σ2085 hp => ?_)
  obtain ⟨h2087, c2088⟩ := hp
  have h2086 := HK.trans h1 h2087 (by decide)
  rcases c2088 with ⟨n2089, hn2089, rfl⟩ | rfl
  · exact m_iret F hQ e_X9_named_8 (⟨h2086, _, rfl⟩)
  · exact m_iret F hQ e_X9_named_8 (⟨h2086, _, rfl⟩)
set_option maxRecDepth 20000 in
theorem lp_X9_go_32 {V : VX} {G : GH} {X : MX} {b M Z T N : Nat} {σ : Mem} {a : Nat}   (F : Fx V X yX9_go cX9_go 3 (some .int) (rmd 6 0 0)) (hQ : Rt V X 0 0 N (fun r τ => ∃ G9 : GH, GRel G G9 ∧ HK V G9 (b, M + 108, Z, T) [0, 2, 3, 4, 5, 8, 9, 16] σ τ ∧ ∃ x : Int32, r = some (.int x))) (hk : kA b a = 1) (hG : okG G) (hM : M + 108 ≤ 1000000000)  : ∀ (fuel : Nat) (i : Nat) (c : Nat) (G1 : GH) (τ : Mem), GRel G G1 → HK V G1 (b, M + 9 * i, Z, T) [0, 2, 3, 4, 5, 8, 9, 16] σ τ → i ≤ 12 ∧ c ≤ 12 → 12 - i < fuel → Wm V X 3 N τ 0 0 32 [(2, .int (nI i)), (0, .ref a), (1, .int (nI c))] [] := by
  intro fuel
  induction fuel with
  | zero => intro i c G1 τ hgr h1 hi hm; exact absurd hm (Nat.not_lt_zero _)
  | succ fuel ih =>
    intro i c G1 τ hgr h1 hi hm
    refine m_iload_n F rfl e_X9_go_32 ?_
    refine m_iload_n F rfl e_X9_go_33 ?_
    refine m_icmp_ge F e_X9_go_34 (fun q34 => ?_) (fun q34 => ?_)
    · have c34 : i ≥ c := (nI_leI (a := c) (b := i) (by omega) (by omega)).mp q34
      refine m_aload_n F rfl e_X9_go_54 ?_
      refine t_get F e_X9_go_55 fl_X9_16 (fun _ => o1) h1 hk rfl (fun v hv f2090 => ?_)
      obtain ⟨r2091, ⟨k2092, er2091⟩, rfl⟩ := hv
      replace er2091 : r2091 = b + 2 + 63 * G1.bk := er2091
      refine t_get F e_X9_go_58 fl_X9_94 (fun _ => o7) h1 k2092 rfl (fun v hv f2093 => ?_)
      obtain ⟨n2094, hn2094, rfl⟩ := hv
      replace hn2094 : n2094 ≤ M + 9 * i := hn2094
      exact m_iret F hQ e_X9_go_61 (⟨G1, hgr, (h1.mono (M' := M + 108) (Z' := Z) (by omega) (by intro e; first | rfl | assumption | omega)), _, rfl⟩)
    · have c34 : i < c := by have hh := mt (nI_leI (a := c) (b := i) (by omega) (by omega)).mpr q34; omega
      refine m_aload_n F rfl e_X9_go_37 ?_
      refine t_callV F e_X9_go_38 (s_X9_remember (x_l X) V G1 b (M + 9 * i) Z T _ _ a  h1.1 hk hgr.1 (by omega)) cb_X9_remember ml_X9_97 im_X9_remember se_X9_remember (fun _ => o1) h1 hk rfl rfl (rest := []) rfl (Nat.le_of_ble_eq_true rfl) ⟨Nat.le_of_ble_eq_true rfl, Nat.le_of_ble_eq_true rfl⟩ ⟨Nat.le_of_ble_eq_true rfl, Nat.le_of_ble_eq_true rfl⟩ (fun r σ2095 hp => ?_)
      obtain ⟨G2098, gr2099, h2097, rfl⟩ := hp
      have gr2100 := hgr.trans gr2099
      have h2096 := HK.trans h1 h2097 (by decide)
      refine m_aload_n F rfl e_X9_go_41 ?_
      refine t_get F e_X9_go_42 fl_X9_16 (fun _ => o1) h2096 hk rfl (fun v hv f2101 => ?_)
      obtain ⟨r2102, ⟨k2103, er2102⟩, rfl⟩ := hv
      replace er2102 : r2102 = b + 2 + 63 * G2098.bk := er2102
      refine t_callV F e_X9_go_45 (s_X2_periodGoesBy (x_l X) V G2098 b (M + 9 * i) Z T _ _ r2102  h2096.1 k2103  (by omega)) cb_X2_periodGoesBy ml_X9_100 im_X2_periodGoesBy se_X2_periodGoesBy (fun _ => o7) h2096 k2103 rfl rfl (rest := []) rfl (Nat.le_of_ble_eq_true rfl) ⟨Nat.le_of_ble_eq_true rfl, Nat.le_of_ble_eq_true rfl⟩ ⟨Nat.le_of_ble_eq_true rfl, Nat.le_of_ble_eq_true rfl⟩ (fun r σ2104 hp => ?_)
      obtain ⟨h2106, rfl⟩ := hp
      have h2105 := HK.trans h2096 h2106 (by decide)
      refine m_iinc F (v := nI (i + 1)) (lv' := [(2, .int (nI (i + 1))), (0, .ref a), (1, .int (nI c))]) e_X9_go_48 rfl (nI_add i 1) (by decide) rfl ?_
      refine m_goto F e_X9_go_51 ?_
      exact ih (i + 1) c G2098 _ gr2100 (h2105.mono (M' := M + 9 * (i + 1)) (Z' := Z) (by omega) (by intro e9; first | exact e9 | rfl)) (by omega) (by omega)
set_option maxRecDepth 20000 in
theorem s_X9_go (l : Launch) (V : VX) (G : GH) (b M Z T N : Nat) (σ : Mem) (a : Nat) (x901 : Int32) (h0 : HT V G (b, M, Z, T) σ) (hk : kA b a = 1) (hG : okG G) (hM : M + 108 ≤ 1000000000) : Ct l V yX9_go cX9_go 3 (some .int) 6 0 0 N σ [.ref a, .int x901] (fun r τ => ∃ G9 : GH, GRel G G9 ∧ HK V G9 (b, M + 108, Z, T) [0, 2, 3, 4, 5, 8, 9, 16] σ τ ∧ ∃ x : Int32, r = some (.int x)) := by
  refine Ct.of (by decide) (Nat.le_of_ble_eq_true rfl) [(0, .ref a), (1, .int x901)] rfl (fun X hX F hQ => ?_)
  have h1 : HK V G (b, M, Z, T) [0, 2, 3, 4, 5, 8, 9, 16] σ σ := HK.start h0
  refine m_iload_n F rfl e_X9_go_0 ?_
  refine m_iconst F (v := 1) (by decide) e_X9_go_1 ?_
  refine m_icmp_lt F e_X9_go_2 (fun q2 => ?_) (fun q2 => ?_)
  · refine m_iconst F (v := (-1)) (by decide) e_X9_go_11 ?_
    exact m_iret F hQ e_X9_go_12 (⟨G, (GRel.refl hG), (h1.mono (M' := M + 108) (Z' := Z) (by omega) (by intro e; first | rfl | assumption | omega)), _, rfl⟩)
  · obtain ⟨n2107, hn2107, rfl⟩ := nI_nn (x := x901) (fun e => q2 (Int32.lt_of_lt_of_le e (by decide)))
    have c2 : n2107 ≥ 1 := by have hh := mt (nI_ltI (a := n2107) (b := 1) (by omega) (by omega)).mpr q2; omega
    refine m_iload_n F rfl e_X9_go_5 ?_
    refine m_bipush F (v := 12) (by decide) e_X9_go_6 ?_
    refine m_icmp_le F e_X9_go_8 (fun q8 => ?_) (fun q8 => ?_)
    · have c8 : n2107 ≤ 12 := (nI_leI (a := n2107) (b := 12) (by omega) (by omega)).mp q8
      refine m_aload_n F rfl e_X9_go_13 ?_
      refine t_get F e_X9_go_14 fl_X9_16 (fun _ => o1) h1 hk rfl (fun v hv f2108 => ?_)
      obtain ⟨r2109, ⟨k2110, er2109⟩, rfl⟩ := hv
      replace er2109 : r2109 = b + 2 + 63 * G.bk := er2109
      refine t_get F e_X9_go_17 fl_X9_94 (fun _ => o7) h1 k2110 rfl (fun v hv f2111 => ?_)
      obtain ⟨n2112, hn2112, rfl⟩ := hv
      replace hn2112 : n2112 ≤ M := hn2112
      refine m_iload_n F rfl e_X9_go_20 ?_
      refine m_iadd F e_X9_go_21 ?_
      refine Wm.topE (w := nI (n2112 + n2107)) (nI_add n2112 n2107) ?_
      refine m_bipush F (v := 99) (by decide) e_X9_go_22 ?_
      refine m_icmp_le F e_X9_go_24 (fun q24 => ?_) (fun q24 => ?_)
      · have c24 : (n2112 + n2107) ≤ 99 := (nI_leI (a := (n2112 + n2107)) (b := 99) (by omega) (by omega)).mp q24
        refine m_iconst F (v := 0) (by decide) e_X9_go_30 ?_
        refine m_istore_n F (lv' := [(2, .int 0), (0, .ref a), (1, .int (nI n2107))]) e_X9_go_31 (by decide) rfl ?_
        exact lp_X9_go_32 F hQ hk hG hM (12 - 0 + 1) 0 n2107 G _ (GRel.refl hG) (h1.mono (M' := M + 9 * 0) (Z' := Z) (by omega) (by intro e9; first | exact e9 | rfl)) (by omega) (Nat.lt_succ_self _)
      · have c24 : (n2112 + n2107) > 99 := by have hh := mt (nI_leI (a := (n2112 + n2107)) (b := 99) (by omega) (by omega)).mpr q24; omega
        refine m_bipush F (v := (-2)) (by decide) e_X9_go_27 ?_
        exact m_iret F hQ e_X9_go_29 (⟨G, (GRel.refl hG), (h1.mono (M' := M + 108) (Z' := Z) (by omega) (by intro e; first | rfl | assumption | omega)), _, rfl⟩)
    · have c8 : n2107 > 12 := by have hh := mt (nI_leI (a := n2107) (b := 12) (by omega) (by omega)).mpr q8; omega
      refine m_iconst F (v := (-1)) (by decide) e_X9_go_11 ?_
      exact m_iret F hQ e_X9_go_12 (⟨G, (GRel.refl hG), (h1.mono (M' := M + 108) (Z' := Z) (by omega) (by intro e; first | rfl | assumption | omega)), _, rfl⟩)
set_option maxRecDepth 20000 in
theorem s_X9_amount (l : Launch) (V : VX) (G : GH) (b M Z T N : Nat) (σ : Mem) (a : Nat) (x901 : Int32) (x902 : Int32) (h0 : HT V G (b, M, Z, T) σ) (hk : kA b a = 1) (hG : okG G) (hM : M + 0 ≤ 1000000000) : Ct l V yX9_amount cX9_amount 4 (some .long) 1 0 0 N σ [.ref a, .int x901, .int x902] (fun r τ => HK V G (b, M, Z, T) [0, 1, 2, 3, 4, 5, 6, 7, 8, 9, 10, 11, 12, 13, 14, 15, 16, 17, 18, 19] σ τ ∧ ∃ x : Int64, r = some (.long x)) := by
  refine Ct.of (by decide) (Nat.le_of_ble_eq_true rfl) [(0, .ref a), (1, .int x901), (2, .int x902)] rfl (fun X hX F hQ => ?_)
  have h1 : HK V G (b, M, Z, T) [0, 1, 2, 3, 4, 5, 6, 7, 8, 9, 10, 11, 12, 13, 14, 15, 16, 17, 18, 19] σ σ := HK.start h0
  refine m_aload_n F rfl e_X9_amount_0 ?_
  refine m_iload_n F rfl e_X9_amount_1 ?_
  refine t_callV F e_X9_amount_2 (s_X9_leaseAt (x_l X) V G b M Z T _ _ a x901 h1.1 hk hG (by omega)) cb_X9_leaseAt ml_X9_103 im_X9_leaseAt se_X9_leaseAt (fun _ => o1) h1 hk rfl rfl (rest := []) rfl (Nat.le_of_ble_eq_true rfl) ⟨Nat.le_of_ble_eq_true rfl, Nat.le_of_ble_eq_true rfl⟩ ⟨Nat.le_of_ble_eq_true rfl, Nat.le_of_ble_eq_true rfl⟩ (fun r σ2113 hp => ?_)
  obtain ⟨h2115, c2116⟩ := hp
  have h2114 := HK.trans h1 h2115 (by decide)
  rcases c2116 with rfl | ⟨n2117, r2118, hn2117, en2117, k2119, rfl⟩
  · refine m_astore_nN F (lv' := [(3, .null), (0, .ref a), (1, .int x901), (2, .int x902)]) e_X9_amount_5 (by decide) rfl ?_
    refine m_aload_nN F rfl e_X9_amount_6 ?_
    refine m_ifnullN F e_X9_amount_7 ?_
    refine m_ldc2 F kc_X9_149 e_X9_amount_19 ?_
    exact m_lret F hQ e_X9_amount_22 (⟨h2114, _, rfl⟩)
  · subst en2117
    refine m_astore_n F (lv' := [(3, .ref r2118), (0, .ref a), (1, .int (nI n2117)), (2, .int x902)]) e_X9_amount_5 (by decide) rfl ?_
    refine m_aload_n F rfl e_X9_amount_6 ?_
    refine m_ifnullR F e_X9_amount_7 ?_
    refine m_iload_n F rfl e_X9_amount_10 ?_
    refine m_if_lt F e_X9_amount_11 (fun q11 => ?_) (fun q11 => ?_)
    · refine m_ldc2 F kc_X9_149 e_X9_amount_19 ?_
      exact m_lret F hQ e_X9_amount_22 (⟨h2114, _, rfl⟩)
    · obtain ⟨n2120, hn2120, rfl⟩ := nI_nn (x := x902) (fun e => q11 (Int32.lt_of_lt_of_le e (by decide)))
      have c11 : n2120 ≥ 0 := by have hh := mt (nI_ltI (a := n2120) (b := 0) (by omega) (by omega)).mpr q11; omega
      refine m_iload_n F rfl e_X9_amount_14 ?_
      refine m_iconst F (v := 1) (by decide) e_X9_amount_15 ?_
      refine m_icmp_le F e_X9_amount_16 (fun q16 => ?_) (fun q16 => ?_)
      · have c16 : n2120 ≤ 1 := (nI_leI (a := n2120) (b := 1) (by omega) (by omega)).mp q16
        refine m_iload_n F rfl e_X9_amount_23 ?_
        refine m_if_ne F e_X9_amount_24 (fun q24 => ?_) (fun q24 => ?_)
        · have c24 : n2120 ≠ 0 := by have hh := mt (nI_eq (a := n2120) (b := 0) (by omega) (by omega)).mpr q24; omega
          refine m_aload_n F rfl e_X9_amount_34 ?_
          refine t_get F e_X9_amount_35 fl_X9_154 (fun _ => o15) h2114 k2119 rfl (fun v hv f2121 => ?_)
          obtain ⟨r2122, k2123, rfl⟩ := hv
          refine t_callV F e_X9_amount_38 (s_X1_asLong (x_l X) V G b M Z T _ _ r2122  h2114.1 k2123  (by omega)) cb_X1_asLong ml_X9_157 im_X1_asLong se_X1_asLong (fun _ => o6) h2114 k2123 rfl rfl (rest := []) rfl (Nat.le_of_ble_eq_true rfl) ⟨Nat.le_of_ble_eq_true rfl, Nat.le_of_ble_eq_true rfl⟩ ⟨Nat.le_of_ble_eq_true rfl, Nat.le_of_ble_eq_true rfl⟩ (fun r σ2124 hp => ?_)
          obtain ⟨h2126, x2127, rfl⟩ := hp
          have h2125 := HK.trans h2114 h2126 (by decide)
          exact m_lret F hQ e_X9_amount_41 (⟨h2125, _, rfl⟩)
        · have c24 : n2120 = 0 := (nI_eq (a := n2120) (b := 0) (by omega) (by omega)).mp q24
          refine m_aload_n F rfl e_X9_amount_27 ?_
          refine t_get F e_X9_amount_28 fl_X9_151 (fun _ => o15) h2114 k2119 rfl (fun v hv f2128 => ?_)
          obtain ⟨r2129, k2130, rfl⟩ := hv
          refine m_goto F e_X9_amount_31 ?_
          refine t_callV F e_X9_amount_38 (s_X1_asLong (x_l X) V G b M Z T _ _ r2129  h2114.1 k2130  (by omega)) cb_X1_asLong ml_X9_157 im_X1_asLong se_X1_asLong (fun _ => o6) h2114 k2130 rfl rfl (rest := []) rfl (Nat.le_of_ble_eq_true rfl) ⟨Nat.le_of_ble_eq_true rfl, Nat.le_of_ble_eq_true rfl⟩ ⟨Nat.le_of_ble_eq_true rfl, Nat.le_of_ble_eq_true rfl⟩ (fun r σ2131 hp => ?_)
          obtain ⟨h2133, x2134, rfl⟩ := hp
          have h2132 := HK.trans h2114 h2133 (by decide)
          exact m_lret F hQ e_X9_amount_41 (⟨h2132, _, rfl⟩)
      · have c16 : n2120 > 1 := by have hh := mt (nI_leI (a := n2120) (b := 1) (by omega) (by omega)).mpr q16; omega
        refine m_ldc2 F kc_X9_149 e_X9_amount_19 ?_
        exact m_lret F hQ e_X9_amount_22 (⟨h2114, _, rfl⟩)
set_option maxRecDepth 20000 in
theorem s_X9_due (l : Launch) (V : VX) (G : GH) (b M Z T N : Nat) (σ : Mem) (a : Nat) (x901 : Int32) (x902 : Int32) (h0 : HT V G (b, M, Z, T) σ) (hk : kA b a = 1) (hG : okG G) (hM : M + 0 ≤ 1000000000) : Ct l V yX9_due cX9_due 4 (some .long) 1 0 0 N σ [.ref a, .int x901, .int x902] (fun r τ => HK V G (b, M, Z, T) [0, 1, 2, 3, 4, 5, 7, 8, 9, 10, 11, 12, 13, 14, 15, 16, 17, 18, 19] σ τ ∧ ∃ x : Int64, r = some (.long x)) := by
  refine Ct.of (by decide) (Nat.le_of_ble_eq_true rfl) [(0, .ref a), (1, .int x901), (2, .int x902)] rfl (fun X hX F hQ => ?_)
  have h1 : HK V G (b, M, Z, T) [0, 1, 2, 3, 4, 5, 7, 8, 9, 10, 11, 12, 13, 14, 15, 16, 17, 18, 19] σ σ := HK.start h0
  refine m_aload_n F rfl e_X9_due_0 ?_
  refine m_iload_n F rfl e_X9_due_1 ?_
  refine t_callV F e_X9_due_2 (s_X9_leaseAt (x_l X) V G b M Z T _ _ a x901 h1.1 hk hG (by omega)) cb_X9_leaseAt ml_X9_103 im_X9_leaseAt se_X9_leaseAt (fun _ => o1) h1 hk rfl rfl (rest := []) rfl (Nat.le_of_ble_eq_true rfl) ⟨Nat.le_of_ble_eq_true rfl, Nat.le_of_ble_eq_true rfl⟩ ⟨Nat.le_of_ble_eq_true rfl, Nat.le_of_ble_eq_true rfl⟩ (fun r σ2135 hp => ?_)
  obtain ⟨h2137, c2138⟩ := hp
  have h2136 := HK.trans h1 h2137 (by decide)
  rcases c2138 with rfl | ⟨n2139, r2140, hn2139, en2139, k2141, rfl⟩
  · refine m_astore_nN F (lv' := [(3, .null), (0, .ref a), (1, .int x901), (2, .int x902)]) e_X9_due_5 (by decide) rfl ?_
    refine m_aload_nN F rfl e_X9_due_6 ?_
    refine m_ifnullN F e_X9_due_7 ?_
    refine m_ldc2 F kc_X9_149 e_X9_due_18 ?_
    exact m_lret F hQ e_X9_due_21 (⟨h2136, _, rfl⟩)
  · subst en2139
    refine m_astore_n F (lv' := [(3, .ref r2140), (0, .ref a), (1, .int (nI n2139)), (2, .int x902)]) e_X9_due_5 (by decide) rfl ?_
    refine m_aload_n F rfl e_X9_due_6 ?_
    refine m_ifnullR F e_X9_due_7 ?_
    refine m_aload_n F rfl e_X9_due_10 ?_
    refine m_iload_n F rfl e_X9_due_11 ?_
    refine t_callV F e_X9_due_12 (s_X5_owns (x_l X) V G b M Z T _ _ r2140 x902 h2136.1 k2141  (by omega)) cb_X5_owns ml_X9_161 im_X5_owns se_X5_owns (fun _ => o15) h2136 k2141 rfl rfl (rest := []) rfl (Nat.le_of_ble_eq_true rfl) ⟨Nat.le_of_ble_eq_true rfl, Nat.le_of_ble_eq_true rfl⟩ ⟨Nat.le_of_ble_eq_true rfl, Nat.le_of_ble_eq_true rfl⟩ (fun r σ2142 hp => ?_)
    obtain ⟨h2144, n2145, hn2145, rfl⟩ := hp
    have h2143 := HK.trans h2136 h2144 (by decide)
    refine m_if_ne F e_X9_due_15 (fun q15 => ?_) (fun q15 => ?_)
    · have c15 : n2145 ≠ 0 := by have hh := mt (nI_eq (a := n2145) (b := 0) (by omega) (by omega)).mpr q15; omega
      refine m_aload_n F rfl e_X9_due_22 ?_
      refine t_get F e_X9_due_23 fl_X9_165 (fun _ => o15) h2143 k2141 rfl (fun v hv f2146 => ?_)
      obtain ⟨r2147, k2148, rfl⟩ := hv
      refine m_iload_n F rfl e_X9_due_26 ?_
      refine m_iconst F (v := 1) (by decide) e_X9_due_27 ?_
      refine m_isub F e_X9_due_28 ?_
      refine Wm.top (fun x2149 _ => ?_)
      refine m_aload_n F rfl e_X9_due_29 ?_
      refine t_get F e_X9_due_30 fl_X9_42 (fun _ => o1) h2143 hk rfl (fun v hv f2150 => ?_)
      obtain ⟨r2151, k2152, rfl⟩ := hv
      refine t_callV F e_X9_due_33 (s_X8_copyTo (x_l X) V G b M Z T _ _ r2147 x2149 r2151 h2143.1 k2148 k2152 (by omega)) cb_X8_copyTo ml_X9_169 im_X8_copyTo se_X8_copyTo (fun _ => o16) h2143 k2148 rfl rfl (rest := []) rfl (Nat.le_of_ble_eq_true rfl) ⟨Nat.le_of_ble_eq_true rfl, Nat.le_of_ble_eq_true rfl⟩ ⟨Nat.le_of_ble_eq_true rfl, Nat.le_of_ble_eq_true rfl⟩ (fun r σ2153 hp => ?_)
      obtain ⟨h2155, rfl⟩ := hp
      have h2154 := HK.trans h2143 h2155 (by decide)
      refine m_aload_n F rfl e_X9_due_36 ?_
      refine t_getC F e_X9_due_37 fl_X9_42 (fun _ => o1) h2154 hk ((fld_eq (h2155.2 a (by rw [show kA _ a = 1 from hk]; decide))).trans f2150) ?_
      refine t_callV F e_X9_due_40 (s_X1_asLong (x_l X) V G b M Z T _ _ r2151  h2154.1 k2152  (by omega)) cb_X1_asLong ml_X9_157 im_X1_asLong se_X1_asLong (fun _ => o6) h2154 k2152 rfl rfl (rest := []) rfl (Nat.le_of_ble_eq_true rfl) ⟨Nat.le_of_ble_eq_true rfl, Nat.le_of_ble_eq_true rfl⟩ ⟨Nat.le_of_ble_eq_true rfl, Nat.le_of_ble_eq_true rfl⟩ (fun r σ2156 hp => ?_)
      obtain ⟨h2158, x2159, rfl⟩ := hp
      have h2157 := HK.trans h2154 h2158 (by decide)
      exact m_lret F hQ e_X9_due_43 (⟨h2157, _, rfl⟩)
    · have c15 : n2145 = 0 := (nI_eq (a := n2145) (b := 0) (by omega) (by omega)).mp q15
      refine m_ldc2 F kc_X9_149 e_X9_due_18 ?_
      exact m_lret F hQ e_X9_due_21 (⟨h2143, _, rfl⟩)
set_option maxRecDepth 20000 in
theorem s_X9_worth (l : Launch) (V : VX) (G : GH) (b M Z T N : Nat) (σ : Mem) (a : Nat) (x901 : Int32) (x902 : Int32) (x903 : Int32) (h0 : HT V G (b, M, Z, T) σ) (hk : kA b a = 1) (hG : okG G) (hM : M + 0 ≤ 1000000000) : Ct l V yX9_worth cX9_worth 5 (some .long) 3 0 0 N σ [.ref a, .int x901, .int x902, .int x903] (fun r τ => HK V G (b, M, Z, T) [0, 1, 2, 3, 4, 5, 7, 8, 9, 10, 11, 12, 13, 14, 15, 16, 17, 18, 19] σ τ ∧ ∃ x : Int64, r = some (.long x)) := by
  refine Ct.of (by decide) (Nat.le_of_ble_eq_true rfl) [(0, .ref a), (1, .int x901), (2, .int x902), (3, .int x903)] rfl (fun X hX F hQ => ?_)
  have h1 : HK V G (b, M, Z, T) [0, 1, 2, 3, 4, 5, 7, 8, 9, 10, 11, 12, 13, 14, 15, 16, 17, 18, 19] σ σ := HK.start h0
  refine m_aload_n F rfl e_X9_worth_0 ?_
  refine m_iload_n F rfl e_X9_worth_1 ?_
  refine t_callV F e_X9_worth_2 (s_X9_leaseAt (x_l X) V G b M Z T _ _ a x901 h1.1 hk hG (by omega)) cb_X9_leaseAt ml_X9_103 im_X9_leaseAt se_X9_leaseAt (fun _ => o1) h1 hk rfl rfl (rest := []) rfl (Nat.le_of_ble_eq_true rfl) ⟨Nat.le_of_ble_eq_true rfl, Nat.le_of_ble_eq_true rfl⟩ ⟨Nat.le_of_ble_eq_true rfl, Nat.le_of_ble_eq_true rfl⟩ (fun r σ2160 hp => ?_)
  obtain ⟨h2162, c2163⟩ := hp
  have h2161 := HK.trans h1 h2162 (by decide)
  rcases c2163 with rfl | ⟨n2164, r2165, hn2164, en2164, k2166, rfl⟩
  · refine m_astoreN F (lv' := [(4, .null), (0, .ref a), (1, .int x901), (2, .int x902), (3, .int x903)]) e_X9_worth_5 (by decide) rfl ?_
    refine m_aloadN F rfl e_X9_worth_7 ?_
    refine m_ifnullN F e_X9_worth_9 ?_
    refine m_ldc2 F kc_X9_149 e_X9_worth_31 ?_
    exact m_lret F hQ e_X9_worth_34 (⟨h2161, _, rfl⟩)
  · subst en2164
    refine m_astore F (lv' := [(4, .ref r2165), (0, .ref a), (1, .int (nI n2164)), (2, .int x902), (3, .int x903)]) e_X9_worth_5 (by decide) rfl ?_
    refine m_aload F rfl e_X9_worth_7 ?_
    refine m_ifnullR F e_X9_worth_9 ?_
    refine m_aload F rfl e_X9_worth_12 ?_
    refine m_iload_n F rfl e_X9_worth_14 ?_
    refine t_callV F e_X9_worth_15 (s_X5_owns (x_l X) V G b M Z T _ _ r2165 x902 h2161.1 k2166  (by omega)) cb_X5_owns ml_X9_161 im_X5_owns se_X5_owns (fun _ => o15) h2161 k2166 rfl rfl (rest := []) rfl (Nat.le_of_ble_eq_true rfl) ⟨Nat.le_of_ble_eq_true rfl, Nat.le_of_ble_eq_true rfl⟩ ⟨Nat.le_of_ble_eq_true rfl, Nat.le_of_ble_eq_true rfl⟩ (fun r σ2167 hp => ?_)
    obtain ⟨h2169, n2170, hn2170, rfl⟩ := hp
    have h2168 := HK.trans h2161 h2169 (by decide)
    refine m_if_eq F e_X9_worth_18 (fun q18 => ?_) (fun q18 => ?_)
    · have c18 : n2170 = 0 := (nI_eq (a := n2170) (b := 0) (by omega) (by omega)).mp q18
      refine m_ldc2 F kc_X9_149 e_X9_worth_31 ?_
      exact m_lret F hQ e_X9_worth_34 (⟨h2168, _, rfl⟩)
    · have c18 : n2170 ≠ 0 := by have hh := mt (nI_eq (a := n2170) (b := 0) (by omega) (by omega)).mpr q18; omega
      refine m_iload_n F rfl e_X9_worth_21 ?_
      refine m_if_lt F e_X9_worth_22 (fun q22 => ?_) (fun q22 => ?_)
      · refine m_ldc2 F kc_X9_149 e_X9_worth_31 ?_
        exact m_lret F hQ e_X9_worth_34 (⟨h2168, _, rfl⟩)
      · obtain ⟨n2171, hn2171, rfl⟩ := nI_nn (x := x903) (fun e => q22 (Int32.lt_of_lt_of_le e (by decide)))
        have c22 : n2171 ≥ 0 := by have hh := mt (nI_ltI (a := n2171) (b := 0) (by omega) (by omega)).mpr q22; omega
        refine m_iload_n F rfl e_X9_worth_25 ?_
        refine m_ldc F kc_X9_175 e_X9_worth_26 ?_
        refine m_icmp_le F e_X9_worth_28 (fun q28 => ?_) (fun q28 => ?_)
        · have c28 : n2171 ≤ 1000000 := (nI_leI (a := n2171) (b := 1000000) (by omega) (by omega)).mp q28
          refine m_aload F rfl e_X9_worth_35 ?_
          refine m_iload_n F rfl e_X9_worth_37 ?_
          refine m_iconst F (v := 1) (by decide) e_X9_worth_38 ?_
          refine m_isub F e_X9_worth_39 ?_
          refine Wm.top (fun x2172 _ => ?_)
          refine m_iload_n F rfl e_X9_worth_40 ?_
          refine m_aload_n F rfl e_X9_worth_41 ?_
          refine t_get F e_X9_worth_42 fl_X9_42 (fun _ => o1) h2168 hk rfl (fun v hv f2173 => ?_)
          obtain ⟨r2174, k2175, rfl⟩ := hv
          refine t_callV F e_X9_worth_45 (s_X5_worthFrom (x_l X) V G b M Z T _ _ r2165 x2172 (nI n2171) r2174 h2168.1 k2166 k2175 (by omega)) cb_X5_worthFrom ml_X9_176 im_X5_worthFrom se_X5_worthFrom (fun _ => o15) h2168 k2166 rfl rfl (rest := []) rfl (Nat.le_of_ble_eq_true rfl) ⟨Nat.le_of_ble_eq_true rfl, Nat.le_of_ble_eq_true rfl⟩ ⟨Nat.le_of_ble_eq_true rfl, Nat.le_of_ble_eq_true rfl⟩ (fun r σ2176 hp => ?_)
          obtain ⟨h2178, rfl⟩ := hp
          have h2177 := HK.trans h2168 h2178 (by decide)
          refine m_aload_n F rfl e_X9_worth_48 ?_
          refine t_getC F e_X9_worth_49 fl_X9_42 (fun _ => o1) h2177 hk ((fld_eq (h2178.2 a (by rw [show kA _ a = 1 from hk]; decide))).trans f2173) ?_
          refine t_callV F e_X9_worth_52 (s_X1_asLong (x_l X) V G b M Z T _ _ r2174  h2177.1 k2175  (by omega)) cb_X1_asLong ml_X9_157 im_X1_asLong se_X1_asLong (fun _ => o6) h2177 k2175 rfl rfl (rest := []) rfl (Nat.le_of_ble_eq_true rfl) ⟨Nat.le_of_ble_eq_true rfl, Nat.le_of_ble_eq_true rfl⟩ ⟨Nat.le_of_ble_eq_true rfl, Nat.le_of_ble_eq_true rfl⟩ (fun r σ2179 hp => ?_)
          obtain ⟨h2181, x2182, rfl⟩ := hp
          have h2180 := HK.trans h2177 h2181 (by decide)
          exact m_lret F hQ e_X9_worth_55 (⟨h2180, _, rfl⟩)
        · have c28 : n2171 > 1000000 := by have hh := mt (nI_leI (a := n2171) (b := 1000000) (by omega) (by omega)).mpr q28; omega
          refine m_ldc2 F kc_X9_149 e_X9_worth_31 ?_
          exact m_lret F hQ e_X9_worth_34 (⟨h2168, _, rfl⟩)
set_option maxRecDepth 20000 in
theorem s_X9_index (l : Launch) (V : VX) (G : GH) (b M Z T N : Nat) (σ : Mem) (a : Nat) (x901 : Int32) (h0 : HT V G (b, M, Z, T) σ) (hk : kA b a = 1) (hG : okG G) (hM : M + 0 ≤ 1000000000) : Ct l V yX9_index cX9_index 2 (some .int) 0 0 0 N σ [.ref a, .int x901] (fun r τ => HK V G (b, M, Z, T) [0, 1, 2, 3, 4, 5, 6, 7, 8, 9, 10, 11, 12, 13, 14, 15, 16, 17, 18, 19] σ τ ∧ ∃ x : Int32, r = some (.int x)) := by
  refine Ct.of (by decide) (Nat.le_of_ble_eq_true rfl) [(0, .ref a), (1, .int x901)] rfl (fun X hX F hQ => ?_)
  have h1 : HK V G (b, M, Z, T) [0, 1, 2, 3, 4, 5, 6, 7, 8, 9, 10, 11, 12, 13, 14, 15, 16, 17, 18, 19] σ σ := HK.start h0
  refine m_iload_n F rfl e_X9_index_0 ?_
  refine m_if_lt F e_X9_index_1 (fun q1 => ?_) (fun q1 => ?_)
  · refine m_iconst F (v := (-1)) (by decide) e_X9_index_10 ?_
    exact m_iret F hQ e_X9_index_11 (⟨h1, _, rfl⟩)
  · obtain ⟨n2183, hn2183, rfl⟩ := nI_nn (x := x901) (fun e => q1 (Int32.lt_of_lt_of_le e (by decide)))
    have c1 : n2183 ≥ 0 := by have hh := mt (nI_ltI (a := n2183) (b := 0) (by omega) (by omega)).mpr q1; omega
    refine m_iload_n F rfl e_X9_index_4 ?_
    refine m_bipush F (v := 99) (by decide) e_X9_index_5 ?_
    refine m_icmp_le F e_X9_index_7 (fun q7 => ?_) (fun q7 => ?_)
    · have c7 : n2183 ≤ 99 := (nI_leI (a := n2183) (b := 99) (by omega) (by omega)).mp q7
      refine m_aload_n F rfl e_X9_index_12 ?_
      refine t_get F e_X9_index_13 fl_X9_16 (fun _ => o1) h1 hk rfl (fun v hv f2184 => ?_)
      obtain ⟨r2185, ⟨k2186, er2185⟩, rfl⟩ := hv
      replace er2185 : r2185 = b + 2 + 63 * G.bk := er2185
      refine t_get F e_X9_index_16 fl_X9_180 (fun _ => o7) h1 k2186 rfl (fun v hv f2187 => ?_)
      obtain rfl : v = .ref (r2185 + 3) := hv
      refine m_iload_n F rfl e_X9_index_19 ?_
      refine t_iald F (len := 100) (j := n2183) e_X9_index_20 (fun _ => o10) h1 (kA_7 k2186 (r := 3) (by decide)) (nI_clamp (by omega)) (vp_in_nI (by omega) (by decide)) (fun x2188 => ?_)
      exact m_iret F hQ e_X9_index_21 (⟨h1, _, rfl⟩)
    · have c7 : n2183 > 99 := by have hh := mt (nI_leI (a := n2183) (b := 99) (by omega) (by omega)).mpr q7; omega
      refine m_iconst F (v := (-1)) (by decide) e_X9_index_10 ?_
      exact m_iret F hQ e_X9_index_11 (⟨h1, _, rfl⟩)
set_option maxRecDepth 20000 in
theorem s_X9_account (l : Launch) (V : VX) (G : GH) (b M Z T N : Nat) (σ : Mem) (a : Nat) (x901 : Int32) (h0 : HT V G (b, M, Z, T) σ) (hk : kA b a = 1) (hG : okG G) (hM : M + 0 ≤ 1000000000) : Ct l V yX9_account cX9_account 2 (some .long) 0 0 0 N σ [.ref a, .int x901] (fun r τ => HK V G (b, M, Z, T) [0, 1, 2, 3, 4, 5, 6, 7, 8, 9, 10, 11, 12, 13, 14, 15, 16, 17, 18, 19] σ τ ∧ ∃ x : Int64, r = some (.long x)) := by
  refine Ct.of (by decide) (Nat.le_of_ble_eq_true rfl) [(0, .ref a), (1, .int x901)] rfl (fun X hX F hQ => ?_)
  have h1 : HK V G (b, M, Z, T) [0, 1, 2, 3, 4, 5, 6, 7, 8, 9, 10, 11, 12, 13, 14, 15, 16, 17, 18, 19] σ σ := HK.start h0
  refine m_iload_n F rfl e_X9_account_0 ?_
  refine m_if_lt F e_X9_account_1 (fun q1 => ?_) (fun q1 => ?_)
  · refine m_ldc2 F kc_X9_184 e_X9_account_10 ?_
    exact m_lret F hQ e_X9_account_13 (⟨h1, _, rfl⟩)
  · obtain ⟨n2189, hn2189, rfl⟩ := nI_nn (x := x901) (fun e => q1 (Int32.lt_of_lt_of_le e (by decide)))
    have c1 : n2189 ≥ 0 := by have hh := mt (nI_ltI (a := n2189) (b := 0) (by omega) (by omega)).mpr q1; omega
    refine m_iload_n F rfl e_X9_account_4 ?_
    refine m_bipush F (v := 6) (by decide) e_X9_account_5 ?_
    refine m_icmp_lt F e_X9_account_7 (fun q7 => ?_) (fun q7 => ?_)
    · have c7 : n2189 < 6 := (nI_ltI (a := n2189) (b := 6) (by omega) (by omega)).mp q7
      refine m_aload_n F rfl e_X9_account_14 ?_
      refine t_get F e_X9_account_15 fl_X9_16 (fun _ => o1) h1 hk rfl (fun v hv f2190 => ?_)
      obtain ⟨r2191, ⟨k2192, er2191⟩, rfl⟩ := hv
      replace er2191 : r2191 = b + 2 + 63 * G.bk := er2191
      refine t_get F e_X9_account_18 fl_X9_186 (fun _ => o7) h1 k2192 rfl (fun v hv f2193 => ?_)
      obtain rfl : v = .ref (r2191 + 5) := hv
      refine t_get F e_X9_account_21 fl_X9_190 (fun _ => o12) h1 (kA_7 k2192 (r := 5) (by decide)) rfl (fun v hv f2194 => ?_)
      obtain ⟨r2195, k2196, rfl⟩ := hv
      refine m_iload_n F rfl e_X9_account_24 ?_
      refine t_lald F (len := 6) (j := n2189) e_X9_account_25 (fun _ => o14) h1 k2196 (nI_clamp (by omega)) (vp_in_nI (by omega) (by decide)) (fun x2197 => ?_)
      exact m_lret F hQ e_X9_account_26 (⟨h1, _, rfl⟩)
    · have c7 : n2189 ≥ 6 := by have hh := mt (nI_ltI (a := n2189) (b := 6) (by omega) (by omega)).mpr q7; omega
      refine m_ldc2 F kc_X9_184 e_X9_account_10 ?_
      exact m_lret F hQ e_X9_account_13 (⟨h1, _, rfl⟩)
set_option maxRecDepth 20000 in
theorem s_X9_entry (l : Launch) (V : VX) (G : GH) (b M Z T N : Nat) (σ : Mem) (a : Nat) (x901 : Int32) (x902 : Int32) (h0 : HT V G (b, M, Z, T) σ) (hk : kA b a = 1) (hG : okG G) (hM : M + 0 ≤ 1000000000) : Ct l V yX9_entry cX9_entry 5 (some .long) 3 0 0 N σ [.ref a, .int x901, .int x902] (fun r τ => HK V G (b, M, Z, T) [0, 1, 2, 3, 4, 5, 6, 7, 8, 9, 10, 11, 12, 13, 14, 15, 16, 17, 18, 19] σ τ ∧ ∃ x : Int64, r = some (.long x)) := by
  refine Ct.of (by decide) (Nat.le_of_ble_eq_true rfl) [(0, .ref a), (1, .int x901), (2, .int x902)] rfl (fun X hX F hQ => ?_)
  have h1 : HK V G (b, M, Z, T) [0, 1, 2, 3, 4, 5, 6, 7, 8, 9, 10, 11, 12, 13, 14, 15, 16, 17, 18, 19] σ σ := HK.start h0
  refine m_iload_n F rfl e_X9_entry_0 ?_
  refine m_if_lt F e_X9_entry_1 (fun q1 => ?_) (fun q1 => ?_)
  · refine m_iconst F (v := 0) (by decide) e_X9_entry_13 ?_
    refine m_istore_n F (lv' := [(3, .int 0), (0, .ref a), (1, .int x901), (2, .int x902)]) e_X9_entry_14 (by decide) rfl ?_
    refine m_iload_n F rfl e_X9_entry_15 ?_
    refine m_bipush F (v := 10) (by decide) e_X9_entry_16 ?_
    refine m_icmp_lt F e_X9_entry_18 (fun q18 => ?_) (fun q18 => ?_)
    · refine m_iconst F (v := 0) (by decide) e_X9_entry_31 ?_
      refine m_istore F (lv' := [(4, .int 0), (3, .int 0), (0, .ref a), (1, .int x901), (2, .int x902)]) e_X9_entry_32 (by decide) rfl ?_
      refine m_iload_n F rfl e_X9_entry_34 ?_
      refine m_if_lt F e_X9_entry_35 (fun q35 => ?_) (fun q35 => ?_)
      · refine m_ldc2 F kc_X9_184 e_X9_entry_61 ?_
        exact m_lret F hQ e_X9_entry_64 (⟨h1, _, rfl⟩)
      · obtain ⟨n2198, hn2198, rfl⟩ := nI_nn (x := x901) (fun e => q35 (Int32.lt_of_lt_of_le e (by decide)))
        have c35 : n2198 ≥ 0 := by have hh := mt (nI_ltI (a := n2198) (b := 0) (by omega) (by omega)).mpr q35; omega
        refine m_iload_n F rfl e_X9_entry_38 ?_
        refine m_aload_n F rfl e_X9_entry_39 ?_
        refine t_get F e_X9_entry_40 fl_X9_16 (fun _ => o1) h1 hk rfl (fun v hv f2199 => ?_)
        obtain ⟨r2200, ⟨k2201, er2200⟩, rfl⟩ := hv
        replace er2200 : r2200 = b + 2 + 63 * G.bk := er2200
        refine t_get F e_X9_entry_43 fl_X9_186 (fun _ => o7) h1 k2201 rfl (fun v hv f2202 => ?_)
        obtain rfl : v = .ref (r2200 + 5) := hv
        obtain ⟨v9, ⟨n2203, hn2203, rfl⟩, f2204⟩ := HK.f (j := 2) h1 (fun _ => o12) (kA_7 k2201 (r := 5) (by decide)) rfl
        replace hn2203 : n2203 ≤ M := hn2203
        refine t_callV F e_X9_entry_46 (s_X3_kept (x_l X) V G b M Z T _ _ (r2200 + 5) n2203 h1.1 (kA_7 k2201 (r := 5) (by decide)) (f2204) (by omega) (by omega)) cb_X3_kept ml_X9_196 im_X3_kept se_X3_kept (fun _ => o12) h1 (kA_7 k2201 (r := 5) (by decide)) rfl rfl (rest := [.int (nI n2198)]) rfl (Nat.le_of_ble_eq_true rfl) ⟨Nat.le_of_ble_eq_true rfl, Nat.le_of_ble_eq_true rfl⟩ ⟨Nat.le_of_ble_eq_true rfl, Nat.le_of_ble_eq_true rfl⟩ (fun r σ2205 hp => ?_)
        obtain ⟨h2207, n2208, hn2208, gn2208, rfl⟩ := hp
        have h2206 := HK.trans h1 h2207 (by decide)
        refine m_icmp_ge F e_X9_entry_49 (fun q49 => ?_) (fun q49 => ?_)
        · have c49 : n2198 ≥ n2208 := (nI_leI (a := n2208) (b := n2198) (by omega) (by omega)).mp q49
          refine m_ldc2 F kc_X9_184 e_X9_entry_61 ?_
          exact m_lret F hQ e_X9_entry_64 (⟨h2206, _, rfl⟩)
        · have c49 : n2198 < n2208 := by have hh := mt (nI_leI (a := n2208) (b := n2198) (by omega) (by omega)).mpr q49; omega
          refine m_iload_n F rfl e_X9_entry_52 ?_
          refine m_if_ne F e_X9_entry_53 (fun q => absurd (by decide) q) (fun _ => ?_)
          refine m_iload F rfl e_X9_entry_56 ?_
          refine m_if_ne F e_X9_entry_58 (fun q => absurd (by decide) q) (fun _ => ?_)
          refine m_ldc2 F kc_X9_184 e_X9_entry_61 ?_
          exact m_lret F hQ e_X9_entry_64 (⟨h2206, _, rfl⟩)
    · obtain ⟨n2209, hn2209, rfl⟩ := nI_nn (x := x902) (fun e => q18 (Int32.lt_of_lt_of_le e (by decide)))
      have c18 : n2209 ≥ 10 := by have hh := mt (nI_ltI (a := n2209) (b := 10) (by omega) (by omega)).mpr q18; omega
      refine m_iload_n F rfl e_X9_entry_21 ?_
      refine m_bipush F (v := 16) (by decide) e_X9_entry_22 ?_
      refine m_icmp_ge F e_X9_entry_24 (fun q24 => ?_) (fun q24 => ?_)
      · have c24 : n2209 ≥ 16 := (nI_leI (a := 16) (b := n2209) (by omega) (by omega)).mp q24
        refine m_iconst F (v := 0) (by decide) e_X9_entry_31 ?_
        refine m_istore F (lv' := [(4, .int 0), (3, .int 0), (0, .ref a), (1, .int x901), (2, .int (nI n2209))]) e_X9_entry_32 (by decide) rfl ?_
        refine m_iload_n F rfl e_X9_entry_34 ?_
        refine m_if_lt F e_X9_entry_35 (fun q35 => ?_) (fun q35 => ?_)
        · refine m_ldc2 F kc_X9_184 e_X9_entry_61 ?_
          exact m_lret F hQ e_X9_entry_64 (⟨h1, _, rfl⟩)
        · obtain ⟨n2210, hn2210, rfl⟩ := nI_nn (x := x901) (fun e => q35 (Int32.lt_of_lt_of_le e (by decide)))
          have c35 : n2210 ≥ 0 := by have hh := mt (nI_ltI (a := n2210) (b := 0) (by omega) (by omega)).mpr q35; omega
          refine m_iload_n F rfl e_X9_entry_38 ?_
          refine m_aload_n F rfl e_X9_entry_39 ?_
          refine t_get F e_X9_entry_40 fl_X9_16 (fun _ => o1) h1 hk rfl (fun v hv f2211 => ?_)
          obtain ⟨r2212, ⟨k2213, er2212⟩, rfl⟩ := hv
          replace er2212 : r2212 = b + 2 + 63 * G.bk := er2212
          refine t_get F e_X9_entry_43 fl_X9_186 (fun _ => o7) h1 k2213 rfl (fun v hv f2214 => ?_)
          obtain rfl : v = .ref (r2212 + 5) := hv
          obtain ⟨v9, ⟨n2215, hn2215, rfl⟩, f2216⟩ := HK.f (j := 2) h1 (fun _ => o12) (kA_7 k2213 (r := 5) (by decide)) rfl
          replace hn2215 : n2215 ≤ M := hn2215
          refine t_callV F e_X9_entry_46 (s_X3_kept (x_l X) V G b M Z T _ _ (r2212 + 5) n2215 h1.1 (kA_7 k2213 (r := 5) (by decide)) (f2216) (by omega) (by omega)) cb_X3_kept ml_X9_196 im_X3_kept se_X3_kept (fun _ => o12) h1 (kA_7 k2213 (r := 5) (by decide)) rfl rfl (rest := [.int (nI n2210)]) rfl (Nat.le_of_ble_eq_true rfl) ⟨Nat.le_of_ble_eq_true rfl, Nat.le_of_ble_eq_true rfl⟩ ⟨Nat.le_of_ble_eq_true rfl, Nat.le_of_ble_eq_true rfl⟩ (fun r σ2217 hp => ?_)
          obtain ⟨h2219, n2220, hn2220, gn2220, rfl⟩ := hp
          have h2218 := HK.trans h1 h2219 (by decide)
          refine m_icmp_ge F e_X9_entry_49 (fun q49 => ?_) (fun q49 => ?_)
          · have c49 : n2210 ≥ n2220 := (nI_leI (a := n2220) (b := n2210) (by omega) (by omega)).mp q49
            refine m_ldc2 F kc_X9_184 e_X9_entry_61 ?_
            exact m_lret F hQ e_X9_entry_64 (⟨h2218, _, rfl⟩)
          · have c49 : n2210 < n2220 := by have hh := mt (nI_leI (a := n2220) (b := n2210) (by omega) (by omega)).mpr q49; omega
            refine m_iload_n F rfl e_X9_entry_52 ?_
            refine m_if_ne F e_X9_entry_53 (fun q => absurd (by decide) q) (fun _ => ?_)
            refine m_iload F rfl e_X9_entry_56 ?_
            refine m_if_ne F e_X9_entry_58 (fun q => absurd (by decide) q) (fun _ => ?_)
            refine m_ldc2 F kc_X9_184 e_X9_entry_61 ?_
            exact m_lret F hQ e_X9_entry_64 (⟨h2218, _, rfl⟩)
      · have c24 : n2209 < 16 := by have hh := mt (nI_leI (a := 16) (b := n2209) (by omega) (by omega)).mpr q24; omega
        refine m_iconst F (v := 1) (by decide) e_X9_entry_27 ?_
        refine m_goto F e_X9_entry_28 ?_
        refine m_istore F (lv' := [(4, .int 1), (3, .int 0), (0, .ref a), (1, .int x901), (2, .int (nI n2209))]) e_X9_entry_32 (by decide) rfl ?_
        refine m_iload_n F rfl e_X9_entry_34 ?_
        refine m_if_lt F e_X9_entry_35 (fun q35 => ?_) (fun q35 => ?_)
        · refine m_ldc2 F kc_X9_184 e_X9_entry_61 ?_
          exact m_lret F hQ e_X9_entry_64 (⟨h1, _, rfl⟩)
        · obtain ⟨n2221, hn2221, rfl⟩ := nI_nn (x := x901) (fun e => q35 (Int32.lt_of_lt_of_le e (by decide)))
          have c35 : n2221 ≥ 0 := by have hh := mt (nI_ltI (a := n2221) (b := 0) (by omega) (by omega)).mpr q35; omega
          refine m_iload_n F rfl e_X9_entry_38 ?_
          refine m_aload_n F rfl e_X9_entry_39 ?_
          refine t_get F e_X9_entry_40 fl_X9_16 (fun _ => o1) h1 hk rfl (fun v hv f2222 => ?_)
          obtain ⟨r2223, ⟨k2224, er2223⟩, rfl⟩ := hv
          replace er2223 : r2223 = b + 2 + 63 * G.bk := er2223
          refine t_get F e_X9_entry_43 fl_X9_186 (fun _ => o7) h1 k2224 rfl (fun v hv f2225 => ?_)
          obtain rfl : v = .ref (r2223 + 5) := hv
          obtain ⟨v9, ⟨n2226, hn2226, rfl⟩, f2227⟩ := HK.f (j := 2) h1 (fun _ => o12) (kA_7 k2224 (r := 5) (by decide)) rfl
          replace hn2226 : n2226 ≤ M := hn2226
          refine t_callV F e_X9_entry_46 (s_X3_kept (x_l X) V G b M Z T _ _ (r2223 + 5) n2226 h1.1 (kA_7 k2224 (r := 5) (by decide)) (f2227) (by omega) (by omega)) cb_X3_kept ml_X9_196 im_X3_kept se_X3_kept (fun _ => o12) h1 (kA_7 k2224 (r := 5) (by decide)) rfl rfl (rest := [.int (nI n2221)]) rfl (Nat.le_of_ble_eq_true rfl) ⟨Nat.le_of_ble_eq_true rfl, Nat.le_of_ble_eq_true rfl⟩ ⟨Nat.le_of_ble_eq_true rfl, Nat.le_of_ble_eq_true rfl⟩ (fun r σ2228 hp => ?_)
          obtain ⟨h2230, n2231, hn2231, gn2231, rfl⟩ := hp
          have h2229 := HK.trans h1 h2230 (by decide)
          refine m_icmp_ge F e_X9_entry_49 (fun q49 => ?_) (fun q49 => ?_)
          · have c49 : n2221 ≥ n2231 := (nI_leI (a := n2231) (b := n2221) (by omega) (by omega)).mp q49
            refine m_ldc2 F kc_X9_184 e_X9_entry_61 ?_
            exact m_lret F hQ e_X9_entry_64 (⟨h2229, _, rfl⟩)
          · have c49 : n2221 < n2231 := by have hh := mt (nI_leI (a := n2231) (b := n2221) (by omega) (by omega)).mpr q49; omega
            refine m_iload_n F rfl e_X9_entry_52 ?_
            refine m_if_ne F e_X9_entry_53 (fun q => absurd (by decide) q) (fun _ => ?_)
            refine m_iload F rfl e_X9_entry_56 ?_
            refine m_if_ne F e_X9_entry_58 (fun _ => ?_) (fun q => absurd q (by decide))
            refine m_aload_n F rfl e_X9_entry_65 ?_
            refine t_getC F e_X9_entry_66 fl_X9_16 (fun _ => o1) h2229 hk ((fld_eq (h2230.2 a (by rw [show kA _ a = 1 from hk]; decide))).trans f2222) ?_
            refine t_getC F e_X9_entry_69 fl_X9_186 (fun _ => o7) h2229 k2224 ((fld_eq (h2230.2 r2223 (by rw [show kA _ r2223 = 7 from k2224]; decide))).trans f2225) ?_
            refine m_iload_n F rfl e_X9_entry_72 ?_
            refine m_iload_n F rfl e_X9_entry_73 ?_
            refine m_if_eq F e_X9_entry_74 (fun _ => ?_) (fun q => absurd (by decide) q)
            refine m_iload_n F rfl e_X9_entry_81 ?_
            refine m_bipush F (v := 10) (by decide) e_X9_entry_82 ?_
            refine m_isub F e_X9_entry_84 ?_
            refine Wm.top (fun x2232 _ => ?_)
            refine m_iconst F (v := 3) (by decide) e_X9_entry_85 ?_
            refine m_iadd F e_X9_entry_86 ?_
            refine Wm.top (fun x2233 _ => ?_)
            refine t_callV F e_X9_entry_87 (s_X3_told (x_l X) V G b M Z T _ _ (r2223 + 5) (nI n2221) x2233 h2229.1 (kA_7 k2224 (r := 5) (by decide))  (by omega)) cb_X3_told ml_X9_199 im_X3_told se_X3_told (fun _ => o12) h2229 (kA_7 k2224 (r := 5) (by decide)) rfl rfl (rest := []) rfl (Nat.le_of_ble_eq_true rfl) ⟨Nat.le_of_ble_eq_true rfl, Nat.le_of_ble_eq_true rfl⟩ ⟨Nat.le_of_ble_eq_true rfl, Nat.le_of_ble_eq_true rfl⟩ (fun r σ2234 hp => ?_)
            obtain ⟨h2236, x2237, rfl⟩ := hp
            have h2235 := HK.trans h2229 h2236 (by decide)
            exact m_lret F hQ e_X9_entry_90 (⟨h2235, _, rfl⟩)
  · obtain ⟨n2238, hn2238, rfl⟩ := nI_nn (x := x902) (fun e => q1 (Int32.lt_of_lt_of_le e (by decide)))
    have c1 : n2238 ≥ 0 := by have hh := mt (nI_ltI (a := n2238) (b := 0) (by omega) (by omega)).mpr q1; omega
    refine m_iload_n F rfl e_X9_entry_4 ?_
    refine m_iconst F (v := 3) (by decide) e_X9_entry_5 ?_
    refine m_icmp_ge F e_X9_entry_6 (fun q6 => ?_) (fun q6 => ?_)
    · have c6 : n2238 ≥ 3 := (nI_leI (a := 3) (b := n2238) (by omega) (by omega)).mp q6
      refine m_iconst F (v := 0) (by decide) e_X9_entry_13 ?_
      refine m_istore_n F (lv' := [(3, .int 0), (0, .ref a), (1, .int x901), (2, .int (nI n2238))]) e_X9_entry_14 (by decide) rfl ?_
      refine m_iload_n F rfl e_X9_entry_15 ?_
      refine m_bipush F (v := 10) (by decide) e_X9_entry_16 ?_
      refine m_icmp_lt F e_X9_entry_18 (fun q18 => ?_) (fun q18 => ?_)
      · have c18 : n2238 < 10 := (nI_ltI (a := n2238) (b := 10) (by omega) (by omega)).mp q18
        refine m_iconst F (v := 0) (by decide) e_X9_entry_31 ?_
        refine m_istore F (lv' := [(4, .int 0), (3, .int 0), (0, .ref a), (1, .int x901), (2, .int (nI n2238))]) e_X9_entry_32 (by decide) rfl ?_
        refine m_iload_n F rfl e_X9_entry_34 ?_
        refine m_if_lt F e_X9_entry_35 (fun q35 => ?_) (fun q35 => ?_)
        · refine m_ldc2 F kc_X9_184 e_X9_entry_61 ?_
          exact m_lret F hQ e_X9_entry_64 (⟨h1, _, rfl⟩)
        · obtain ⟨n2239, hn2239, rfl⟩ := nI_nn (x := x901) (fun e => q35 (Int32.lt_of_lt_of_le e (by decide)))
          have c35 : n2239 ≥ 0 := by have hh := mt (nI_ltI (a := n2239) (b := 0) (by omega) (by omega)).mpr q35; omega
          refine m_iload_n F rfl e_X9_entry_38 ?_
          refine m_aload_n F rfl e_X9_entry_39 ?_
          refine t_get F e_X9_entry_40 fl_X9_16 (fun _ => o1) h1 hk rfl (fun v hv f2240 => ?_)
          obtain ⟨r2241, ⟨k2242, er2241⟩, rfl⟩ := hv
          replace er2241 : r2241 = b + 2 + 63 * G.bk := er2241
          refine t_get F e_X9_entry_43 fl_X9_186 (fun _ => o7) h1 k2242 rfl (fun v hv f2243 => ?_)
          obtain rfl : v = .ref (r2241 + 5) := hv
          obtain ⟨v9, ⟨n2244, hn2244, rfl⟩, f2245⟩ := HK.f (j := 2) h1 (fun _ => o12) (kA_7 k2242 (r := 5) (by decide)) rfl
          replace hn2244 : n2244 ≤ M := hn2244
          refine t_callV F e_X9_entry_46 (s_X3_kept (x_l X) V G b M Z T _ _ (r2241 + 5) n2244 h1.1 (kA_7 k2242 (r := 5) (by decide)) (f2245) (by omega) (by omega)) cb_X3_kept ml_X9_196 im_X3_kept se_X3_kept (fun _ => o12) h1 (kA_7 k2242 (r := 5) (by decide)) rfl rfl (rest := [.int (nI n2239)]) rfl (Nat.le_of_ble_eq_true rfl) ⟨Nat.le_of_ble_eq_true rfl, Nat.le_of_ble_eq_true rfl⟩ ⟨Nat.le_of_ble_eq_true rfl, Nat.le_of_ble_eq_true rfl⟩ (fun r σ2246 hp => ?_)
          obtain ⟨h2248, n2249, hn2249, gn2249, rfl⟩ := hp
          have h2247 := HK.trans h1 h2248 (by decide)
          refine m_icmp_ge F e_X9_entry_49 (fun q49 => ?_) (fun q49 => ?_)
          · have c49 : n2239 ≥ n2249 := (nI_leI (a := n2249) (b := n2239) (by omega) (by omega)).mp q49
            refine m_ldc2 F kc_X9_184 e_X9_entry_61 ?_
            exact m_lret F hQ e_X9_entry_64 (⟨h2247, _, rfl⟩)
          · have c49 : n2239 < n2249 := by have hh := mt (nI_leI (a := n2249) (b := n2239) (by omega) (by omega)).mpr q49; omega
            refine m_iload_n F rfl e_X9_entry_52 ?_
            refine m_if_ne F e_X9_entry_53 (fun q => absurd (by decide) q) (fun _ => ?_)
            refine m_iload F rfl e_X9_entry_56 ?_
            refine m_if_ne F e_X9_entry_58 (fun q => absurd (by decide) q) (fun _ => ?_)
            refine m_ldc2 F kc_X9_184 e_X9_entry_61 ?_
            exact m_lret F hQ e_X9_entry_64 (⟨h2247, _, rfl⟩)
      · have c18 : n2238 ≥ 10 := by have hh := mt (nI_ltI (a := n2238) (b := 10) (by omega) (by omega)).mpr q18; omega
        refine m_iload_n F rfl e_X9_entry_21 ?_
        refine m_bipush F (v := 16) (by decide) e_X9_entry_22 ?_
        refine m_icmp_ge F e_X9_entry_24 (fun q24 => ?_) (fun q24 => ?_)
        · have c24 : n2238 ≥ 16 := (nI_leI (a := 16) (b := n2238) (by omega) (by omega)).mp q24
          refine m_iconst F (v := 0) (by decide) e_X9_entry_31 ?_
          refine m_istore F (lv' := [(4, .int 0), (3, .int 0), (0, .ref a), (1, .int x901), (2, .int (nI n2238))]) e_X9_entry_32 (by decide) rfl ?_
          refine m_iload_n F rfl e_X9_entry_34 ?_
          refine m_if_lt F e_X9_entry_35 (fun q35 => ?_) (fun q35 => ?_)
          · refine m_ldc2 F kc_X9_184 e_X9_entry_61 ?_
            exact m_lret F hQ e_X9_entry_64 (⟨h1, _, rfl⟩)
          · obtain ⟨n2250, hn2250, rfl⟩ := nI_nn (x := x901) (fun e => q35 (Int32.lt_of_lt_of_le e (by decide)))
            have c35 : n2250 ≥ 0 := by have hh := mt (nI_ltI (a := n2250) (b := 0) (by omega) (by omega)).mpr q35; omega
            refine m_iload_n F rfl e_X9_entry_38 ?_
            refine m_aload_n F rfl e_X9_entry_39 ?_
            refine t_get F e_X9_entry_40 fl_X9_16 (fun _ => o1) h1 hk rfl (fun v hv f2251 => ?_)
            obtain ⟨r2252, ⟨k2253, er2252⟩, rfl⟩ := hv
            replace er2252 : r2252 = b + 2 + 63 * G.bk := er2252
            refine t_get F e_X9_entry_43 fl_X9_186 (fun _ => o7) h1 k2253 rfl (fun v hv f2254 => ?_)
            obtain rfl : v = .ref (r2252 + 5) := hv
            obtain ⟨v9, ⟨n2255, hn2255, rfl⟩, f2256⟩ := HK.f (j := 2) h1 (fun _ => o12) (kA_7 k2253 (r := 5) (by decide)) rfl
            replace hn2255 : n2255 ≤ M := hn2255
            refine t_callV F e_X9_entry_46 (s_X3_kept (x_l X) V G b M Z T _ _ (r2252 + 5) n2255 h1.1 (kA_7 k2253 (r := 5) (by decide)) (f2256) (by omega) (by omega)) cb_X3_kept ml_X9_196 im_X3_kept se_X3_kept (fun _ => o12) h1 (kA_7 k2253 (r := 5) (by decide)) rfl rfl (rest := [.int (nI n2250)]) rfl (Nat.le_of_ble_eq_true rfl) ⟨Nat.le_of_ble_eq_true rfl, Nat.le_of_ble_eq_true rfl⟩ ⟨Nat.le_of_ble_eq_true rfl, Nat.le_of_ble_eq_true rfl⟩ (fun r σ2257 hp => ?_)
            obtain ⟨h2259, n2260, hn2260, gn2260, rfl⟩ := hp
            have h2258 := HK.trans h1 h2259 (by decide)
            refine m_icmp_ge F e_X9_entry_49 (fun q49 => ?_) (fun q49 => ?_)
            · have c49 : n2250 ≥ n2260 := (nI_leI (a := n2260) (b := n2250) (by omega) (by omega)).mp q49
              refine m_ldc2 F kc_X9_184 e_X9_entry_61 ?_
              exact m_lret F hQ e_X9_entry_64 (⟨h2258, _, rfl⟩)
            · have c49 : n2250 < n2260 := by have hh := mt (nI_leI (a := n2260) (b := n2250) (by omega) (by omega)).mpr q49; omega
              refine m_iload_n F rfl e_X9_entry_52 ?_
              refine m_if_ne F e_X9_entry_53 (fun q => absurd (by decide) q) (fun _ => ?_)
              refine m_iload F rfl e_X9_entry_56 ?_
              refine m_if_ne F e_X9_entry_58 (fun q => absurd (by decide) q) (fun _ => ?_)
              refine m_ldc2 F kc_X9_184 e_X9_entry_61 ?_
              exact m_lret F hQ e_X9_entry_64 (⟨h2258, _, rfl⟩)
        · have c24 : n2238 < 16 := by have hh := mt (nI_leI (a := 16) (b := n2238) (by omega) (by omega)).mpr q24; omega
          refine m_iconst F (v := 1) (by decide) e_X9_entry_27 ?_
          refine m_goto F e_X9_entry_28 ?_
          refine m_istore F (lv' := [(4, .int 1), (3, .int 0), (0, .ref a), (1, .int x901), (2, .int (nI n2238))]) e_X9_entry_32 (by decide) rfl ?_
          refine m_iload_n F rfl e_X9_entry_34 ?_
          refine m_if_lt F e_X9_entry_35 (fun q35 => ?_) (fun q35 => ?_)
          · refine m_ldc2 F kc_X9_184 e_X9_entry_61 ?_
            exact m_lret F hQ e_X9_entry_64 (⟨h1, _, rfl⟩)
          · obtain ⟨n2261, hn2261, rfl⟩ := nI_nn (x := x901) (fun e => q35 (Int32.lt_of_lt_of_le e (by decide)))
            have c35 : n2261 ≥ 0 := by have hh := mt (nI_ltI (a := n2261) (b := 0) (by omega) (by omega)).mpr q35; omega
            refine m_iload_n F rfl e_X9_entry_38 ?_
            refine m_aload_n F rfl e_X9_entry_39 ?_
            refine t_get F e_X9_entry_40 fl_X9_16 (fun _ => o1) h1 hk rfl (fun v hv f2262 => ?_)
            obtain ⟨r2263, ⟨k2264, er2263⟩, rfl⟩ := hv
            replace er2263 : r2263 = b + 2 + 63 * G.bk := er2263
            refine t_get F e_X9_entry_43 fl_X9_186 (fun _ => o7) h1 k2264 rfl (fun v hv f2265 => ?_)
            obtain rfl : v = .ref (r2263 + 5) := hv
            obtain ⟨v9, ⟨n2266, hn2266, rfl⟩, f2267⟩ := HK.f (j := 2) h1 (fun _ => o12) (kA_7 k2264 (r := 5) (by decide)) rfl
            replace hn2266 : n2266 ≤ M := hn2266
            refine t_callV F e_X9_entry_46 (s_X3_kept (x_l X) V G b M Z T _ _ (r2263 + 5) n2266 h1.1 (kA_7 k2264 (r := 5) (by decide)) (f2267) (by omega) (by omega)) cb_X3_kept ml_X9_196 im_X3_kept se_X3_kept (fun _ => o12) h1 (kA_7 k2264 (r := 5) (by decide)) rfl rfl (rest := [.int (nI n2261)]) rfl (Nat.le_of_ble_eq_true rfl) ⟨Nat.le_of_ble_eq_true rfl, Nat.le_of_ble_eq_true rfl⟩ ⟨Nat.le_of_ble_eq_true rfl, Nat.le_of_ble_eq_true rfl⟩ (fun r σ2268 hp => ?_)
            obtain ⟨h2270, n2271, hn2271, gn2271, rfl⟩ := hp
            have h2269 := HK.trans h1 h2270 (by decide)
            refine m_icmp_ge F e_X9_entry_49 (fun q49 => ?_) (fun q49 => ?_)
            · have c49 : n2261 ≥ n2271 := (nI_leI (a := n2271) (b := n2261) (by omega) (by omega)).mp q49
              refine m_ldc2 F kc_X9_184 e_X9_entry_61 ?_
              exact m_lret F hQ e_X9_entry_64 (⟨h2269, _, rfl⟩)
            · have c49 : n2261 < n2271 := by have hh := mt (nI_leI (a := n2271) (b := n2261) (by omega) (by omega)).mpr q49; omega
              refine m_iload_n F rfl e_X9_entry_52 ?_
              refine m_if_ne F e_X9_entry_53 (fun q => absurd (by decide) q) (fun _ => ?_)
              refine m_iload F rfl e_X9_entry_56 ?_
              refine m_if_ne F e_X9_entry_58 (fun _ => ?_) (fun q => absurd q (by decide))
              refine m_aload_n F rfl e_X9_entry_65 ?_
              refine t_getC F e_X9_entry_66 fl_X9_16 (fun _ => o1) h2269 hk ((fld_eq (h2270.2 a (by rw [show kA _ a = 1 from hk]; decide))).trans f2262) ?_
              refine t_getC F e_X9_entry_69 fl_X9_186 (fun _ => o7) h2269 k2264 ((fld_eq (h2270.2 r2263 (by rw [show kA _ r2263 = 7 from k2264]; decide))).trans f2265) ?_
              refine m_iload_n F rfl e_X9_entry_72 ?_
              refine m_iload_n F rfl e_X9_entry_73 ?_
              refine m_if_eq F e_X9_entry_74 (fun _ => ?_) (fun q => absurd (by decide) q)
              refine m_iload_n F rfl e_X9_entry_81 ?_
              refine m_bipush F (v := 10) (by decide) e_X9_entry_82 ?_
              refine m_isub F e_X9_entry_84 ?_
              refine Wm.top (fun x2272 _ => ?_)
              refine m_iconst F (v := 3) (by decide) e_X9_entry_85 ?_
              refine m_iadd F e_X9_entry_86 ?_
              refine Wm.top (fun x2273 _ => ?_)
              refine t_callV F e_X9_entry_87 (s_X3_told (x_l X) V G b M Z T _ _ (r2263 + 5) (nI n2261) x2273 h2269.1 (kA_7 k2264 (r := 5) (by decide))  (by omega)) cb_X3_told ml_X9_199 im_X3_told se_X3_told (fun _ => o12) h2269 (kA_7 k2264 (r := 5) (by decide)) rfl rfl (rest := []) rfl (Nat.le_of_ble_eq_true rfl) ⟨Nat.le_of_ble_eq_true rfl, Nat.le_of_ble_eq_true rfl⟩ ⟨Nat.le_of_ble_eq_true rfl, Nat.le_of_ble_eq_true rfl⟩ (fun r σ2274 hp => ?_)
              obtain ⟨h2276, x2277, rfl⟩ := hp
              have h2275 := HK.trans h2269 h2276 (by decide)
              exact m_lret F hQ e_X9_entry_90 (⟨h2275, _, rfl⟩)
    · have c6 : n2238 < 3 := by have hh := mt (nI_leI (a := 3) (b := n2238) (by omega) (by omega)).mpr q6; omega
      refine m_iconst F (v := 1) (by decide) e_X9_entry_9 ?_
      refine m_goto F e_X9_entry_10 ?_
      refine m_istore_n F (lv' := [(3, .int 1), (0, .ref a), (1, .int x901), (2, .int (nI n2238))]) e_X9_entry_14 (by decide) rfl ?_
      refine m_iload_n F rfl e_X9_entry_15 ?_
      refine m_bipush F (v := 10) (by decide) e_X9_entry_16 ?_
      refine m_icmp_lt F e_X9_entry_18 (fun q18 => ?_) (fun q18 => ?_)
      · have c18 : n2238 < 10 := (nI_ltI (a := n2238) (b := 10) (by omega) (by omega)).mp q18
        refine m_iconst F (v := 0) (by decide) e_X9_entry_31 ?_
        refine m_istore F (lv' := [(4, .int 0), (3, .int 1), (0, .ref a), (1, .int x901), (2, .int (nI n2238))]) e_X9_entry_32 (by decide) rfl ?_
        refine m_iload_n F rfl e_X9_entry_34 ?_
        refine m_if_lt F e_X9_entry_35 (fun q35 => ?_) (fun q35 => ?_)
        · refine m_ldc2 F kc_X9_184 e_X9_entry_61 ?_
          exact m_lret F hQ e_X9_entry_64 (⟨h1, _, rfl⟩)
        · obtain ⟨n2278, hn2278, rfl⟩ := nI_nn (x := x901) (fun e => q35 (Int32.lt_of_lt_of_le e (by decide)))
          have c35 : n2278 ≥ 0 := by have hh := mt (nI_ltI (a := n2278) (b := 0) (by omega) (by omega)).mpr q35; omega
          refine m_iload_n F rfl e_X9_entry_38 ?_
          refine m_aload_n F rfl e_X9_entry_39 ?_
          refine t_get F e_X9_entry_40 fl_X9_16 (fun _ => o1) h1 hk rfl (fun v hv f2279 => ?_)
          obtain ⟨r2280, ⟨k2281, er2280⟩, rfl⟩ := hv
          replace er2280 : r2280 = b + 2 + 63 * G.bk := er2280
          refine t_get F e_X9_entry_43 fl_X9_186 (fun _ => o7) h1 k2281 rfl (fun v hv f2282 => ?_)
          obtain rfl : v = .ref (r2280 + 5) := hv
          obtain ⟨v9, ⟨n2283, hn2283, rfl⟩, f2284⟩ := HK.f (j := 2) h1 (fun _ => o12) (kA_7 k2281 (r := 5) (by decide)) rfl
          replace hn2283 : n2283 ≤ M := hn2283
          refine t_callV F e_X9_entry_46 (s_X3_kept (x_l X) V G b M Z T _ _ (r2280 + 5) n2283 h1.1 (kA_7 k2281 (r := 5) (by decide)) (f2284) (by omega) (by omega)) cb_X3_kept ml_X9_196 im_X3_kept se_X3_kept (fun _ => o12) h1 (kA_7 k2281 (r := 5) (by decide)) rfl rfl (rest := [.int (nI n2278)]) rfl (Nat.le_of_ble_eq_true rfl) ⟨Nat.le_of_ble_eq_true rfl, Nat.le_of_ble_eq_true rfl⟩ ⟨Nat.le_of_ble_eq_true rfl, Nat.le_of_ble_eq_true rfl⟩ (fun r σ2285 hp => ?_)
          obtain ⟨h2287, n2288, hn2288, gn2288, rfl⟩ := hp
          have h2286 := HK.trans h1 h2287 (by decide)
          refine m_icmp_ge F e_X9_entry_49 (fun q49 => ?_) (fun q49 => ?_)
          · have c49 : n2278 ≥ n2288 := (nI_leI (a := n2288) (b := n2278) (by omega) (by omega)).mp q49
            refine m_ldc2 F kc_X9_184 e_X9_entry_61 ?_
            exact m_lret F hQ e_X9_entry_64 (⟨h2286, _, rfl⟩)
          · have c49 : n2278 < n2288 := by have hh := mt (nI_leI (a := n2288) (b := n2278) (by omega) (by omega)).mpr q49; omega
            refine m_iload_n F rfl e_X9_entry_52 ?_
            refine m_if_ne F e_X9_entry_53 (fun _ => ?_) (fun q => absurd q (by decide))
            refine m_aload_n F rfl e_X9_entry_65 ?_
            refine t_getC F e_X9_entry_66 fl_X9_16 (fun _ => o1) h2286 hk ((fld_eq (h2287.2 a (by rw [show kA _ a = 1 from hk]; decide))).trans f2279) ?_
            refine t_getC F e_X9_entry_69 fl_X9_186 (fun _ => o7) h2286 k2281 ((fld_eq (h2287.2 r2280 (by rw [show kA _ r2280 = 7 from k2281]; decide))).trans f2282) ?_
            refine m_iload_n F rfl e_X9_entry_72 ?_
            refine m_iload_n F rfl e_X9_entry_73 ?_
            refine m_if_eq F e_X9_entry_74 (fun q => absurd q (by decide)) (fun _ => ?_)
            refine m_iload_n F rfl e_X9_entry_77 ?_
            refine m_goto F e_X9_entry_78 ?_
            refine t_callV F e_X9_entry_87 (s_X3_told (x_l X) V G b M Z T _ _ (r2280 + 5) (nI n2278) (nI n2238) h2286.1 (kA_7 k2281 (r := 5) (by decide))  (by omega)) cb_X3_told ml_X9_199 im_X3_told se_X3_told (fun _ => o12) h2286 (kA_7 k2281 (r := 5) (by decide)) rfl rfl (rest := []) rfl (Nat.le_of_ble_eq_true rfl) ⟨Nat.le_of_ble_eq_true rfl, Nat.le_of_ble_eq_true rfl⟩ ⟨Nat.le_of_ble_eq_true rfl, Nat.le_of_ble_eq_true rfl⟩ (fun r σ2289 hp => ?_)
            obtain ⟨h2291, x2292, rfl⟩ := hp
            have h2290 := HK.trans h2286 h2291 (by decide)
            exact m_lret F hQ e_X9_entry_90 (⟨h2290, _, rfl⟩)
      · have c18 : n2238 ≥ 10 := by have hh := mt (nI_ltI (a := n2238) (b := 10) (by omega) (by omega)).mpr q18; omega
        refine m_iload_n F rfl e_X9_entry_21 ?_
        refine m_bipush F (v := 16) (by decide) e_X9_entry_22 ?_
        refine m_icmp_ge F e_X9_entry_24 (fun q24 => ?_) (fun q24 => ?_)
        · have c24 : n2238 ≥ 16 := (nI_leI (a := 16) (b := n2238) (by omega) (by omega)).mp q24
          refine m_iconst F (v := 0) (by decide) e_X9_entry_31 ?_
          refine m_istore F (lv' := [(4, .int 0), (3, .int 1), (0, .ref a), (1, .int x901), (2, .int (nI n2238))]) e_X9_entry_32 (by decide) rfl ?_
          refine m_iload_n F rfl e_X9_entry_34 ?_
          refine m_if_lt F e_X9_entry_35 (fun q35 => ?_) (fun q35 => ?_)
          · refine m_ldc2 F kc_X9_184 e_X9_entry_61 ?_
            exact m_lret F hQ e_X9_entry_64 (⟨h1, _, rfl⟩)
          · obtain ⟨n2293, hn2293, rfl⟩ := nI_nn (x := x901) (fun e => q35 (Int32.lt_of_lt_of_le e (by decide)))
            have c35 : n2293 ≥ 0 := by have hh := mt (nI_ltI (a := n2293) (b := 0) (by omega) (by omega)).mpr q35; omega
            refine m_iload_n F rfl e_X9_entry_38 ?_
            refine m_aload_n F rfl e_X9_entry_39 ?_
            refine t_get F e_X9_entry_40 fl_X9_16 (fun _ => o1) h1 hk rfl (fun v hv f2294 => ?_)
            obtain ⟨r2295, ⟨k2296, er2295⟩, rfl⟩ := hv
            replace er2295 : r2295 = b + 2 + 63 * G.bk := er2295
            refine t_get F e_X9_entry_43 fl_X9_186 (fun _ => o7) h1 k2296 rfl (fun v hv f2297 => ?_)
            obtain rfl : v = .ref (r2295 + 5) := hv
            obtain ⟨v9, ⟨n2298, hn2298, rfl⟩, f2299⟩ := HK.f (j := 2) h1 (fun _ => o12) (kA_7 k2296 (r := 5) (by decide)) rfl
            replace hn2298 : n2298 ≤ M := hn2298
            refine t_callV F e_X9_entry_46 (s_X3_kept (x_l X) V G b M Z T _ _ (r2295 + 5) n2298 h1.1 (kA_7 k2296 (r := 5) (by decide)) (f2299) (by omega) (by omega)) cb_X3_kept ml_X9_196 im_X3_kept se_X3_kept (fun _ => o12) h1 (kA_7 k2296 (r := 5) (by decide)) rfl rfl (rest := [.int (nI n2293)]) rfl (Nat.le_of_ble_eq_true rfl) ⟨Nat.le_of_ble_eq_true rfl, Nat.le_of_ble_eq_true rfl⟩ ⟨Nat.le_of_ble_eq_true rfl, Nat.le_of_ble_eq_true rfl⟩ (fun r σ2300 hp => ?_)
            obtain ⟨h2302, n2303, hn2303, gn2303, rfl⟩ := hp
            have h2301 := HK.trans h1 h2302 (by decide)
            refine m_icmp_ge F e_X9_entry_49 (fun q49 => ?_) (fun q49 => ?_)
            · have c49 : n2293 ≥ n2303 := (nI_leI (a := n2303) (b := n2293) (by omega) (by omega)).mp q49
              refine m_ldc2 F kc_X9_184 e_X9_entry_61 ?_
              exact m_lret F hQ e_X9_entry_64 (⟨h2301, _, rfl⟩)
            · have c49 : n2293 < n2303 := by have hh := mt (nI_leI (a := n2303) (b := n2293) (by omega) (by omega)).mpr q49; omega
              refine m_iload_n F rfl e_X9_entry_52 ?_
              refine m_if_ne F e_X9_entry_53 (fun _ => ?_) (fun q => absurd q (by decide))
              refine m_aload_n F rfl e_X9_entry_65 ?_
              refine t_getC F e_X9_entry_66 fl_X9_16 (fun _ => o1) h2301 hk ((fld_eq (h2302.2 a (by rw [show kA _ a = 1 from hk]; decide))).trans f2294) ?_
              refine t_getC F e_X9_entry_69 fl_X9_186 (fun _ => o7) h2301 k2296 ((fld_eq (h2302.2 r2295 (by rw [show kA _ r2295 = 7 from k2296]; decide))).trans f2297) ?_
              refine m_iload_n F rfl e_X9_entry_72 ?_
              refine m_iload_n F rfl e_X9_entry_73 ?_
              refine m_if_eq F e_X9_entry_74 (fun q => absurd q (by decide)) (fun _ => ?_)
              refine m_iload_n F rfl e_X9_entry_77 ?_
              refine m_goto F e_X9_entry_78 ?_
              refine t_callV F e_X9_entry_87 (s_X3_told (x_l X) V G b M Z T _ _ (r2295 + 5) (nI n2293) (nI n2238) h2301.1 (kA_7 k2296 (r := 5) (by decide))  (by omega)) cb_X3_told ml_X9_199 im_X3_told se_X3_told (fun _ => o12) h2301 (kA_7 k2296 (r := 5) (by decide)) rfl rfl (rest := []) rfl (Nat.le_of_ble_eq_true rfl) ⟨Nat.le_of_ble_eq_true rfl, Nat.le_of_ble_eq_true rfl⟩ ⟨Nat.le_of_ble_eq_true rfl, Nat.le_of_ble_eq_true rfl⟩ (fun r σ2304 hp => ?_)
              obtain ⟨h2306, x2307, rfl⟩ := hp
              have h2305 := HK.trans h2301 h2306 (by decide)
              exact m_lret F hQ e_X9_entry_90 (⟨h2305, _, rfl⟩)
        · have c24 : n2238 < 16 := by have hh := mt (nI_leI (a := 16) (b := n2238) (by omega) (by omega)).mpr q24; omega
          refine m_iconst F (v := 1) (by decide) e_X9_entry_27 ?_
          refine m_goto F e_X9_entry_28 ?_
          refine m_istore F (lv' := [(4, .int 1), (3, .int 1), (0, .ref a), (1, .int x901), (2, .int (nI n2238))]) e_X9_entry_32 (by decide) rfl ?_
          refine m_iload_n F rfl e_X9_entry_34 ?_
          refine m_if_lt F e_X9_entry_35 (fun q35 => ?_) (fun q35 => ?_)
          · refine m_ldc2 F kc_X9_184 e_X9_entry_61 ?_
            exact m_lret F hQ e_X9_entry_64 (⟨h1, _, rfl⟩)
          · obtain ⟨n2308, hn2308, rfl⟩ := nI_nn (x := x901) (fun e => q35 (Int32.lt_of_lt_of_le e (by decide)))
            have c35 : n2308 ≥ 0 := by have hh := mt (nI_ltI (a := n2308) (b := 0) (by omega) (by omega)).mpr q35; omega
            refine m_iload_n F rfl e_X9_entry_38 ?_
            refine m_aload_n F rfl e_X9_entry_39 ?_
            refine t_get F e_X9_entry_40 fl_X9_16 (fun _ => o1) h1 hk rfl (fun v hv f2309 => ?_)
            obtain ⟨r2310, ⟨k2311, er2310⟩, rfl⟩ := hv
            replace er2310 : r2310 = b + 2 + 63 * G.bk := er2310
            refine t_get F e_X9_entry_43 fl_X9_186 (fun _ => o7) h1 k2311 rfl (fun v hv f2312 => ?_)
            obtain rfl : v = .ref (r2310 + 5) := hv
            obtain ⟨v9, ⟨n2313, hn2313, rfl⟩, f2314⟩ := HK.f (j := 2) h1 (fun _ => o12) (kA_7 k2311 (r := 5) (by decide)) rfl
            replace hn2313 : n2313 ≤ M := hn2313
            refine t_callV F e_X9_entry_46 (s_X3_kept (x_l X) V G b M Z T _ _ (r2310 + 5) n2313 h1.1 (kA_7 k2311 (r := 5) (by decide)) (f2314) (by omega) (by omega)) cb_X3_kept ml_X9_196 im_X3_kept se_X3_kept (fun _ => o12) h1 (kA_7 k2311 (r := 5) (by decide)) rfl rfl (rest := [.int (nI n2308)]) rfl (Nat.le_of_ble_eq_true rfl) ⟨Nat.le_of_ble_eq_true rfl, Nat.le_of_ble_eq_true rfl⟩ ⟨Nat.le_of_ble_eq_true rfl, Nat.le_of_ble_eq_true rfl⟩ (fun r σ2315 hp => ?_)
            obtain ⟨h2317, n2318, hn2318, gn2318, rfl⟩ := hp
            have h2316 := HK.trans h1 h2317 (by decide)
            refine m_icmp_ge F e_X9_entry_49 (fun q49 => ?_) (fun q49 => ?_)
            · have c49 : n2308 ≥ n2318 := (nI_leI (a := n2318) (b := n2308) (by omega) (by omega)).mp q49
              refine m_ldc2 F kc_X9_184 e_X9_entry_61 ?_
              exact m_lret F hQ e_X9_entry_64 (⟨h2316, _, rfl⟩)
            · have c49 : n2308 < n2318 := by have hh := mt (nI_leI (a := n2318) (b := n2308) (by omega) (by omega)).mpr q49; omega
              refine m_iload_n F rfl e_X9_entry_52 ?_
              refine m_if_ne F e_X9_entry_53 (fun _ => ?_) (fun q => absurd q (by decide))
              refine m_aload_n F rfl e_X9_entry_65 ?_
              refine t_getC F e_X9_entry_66 fl_X9_16 (fun _ => o1) h2316 hk ((fld_eq (h2317.2 a (by rw [show kA _ a = 1 from hk]; decide))).trans f2309) ?_
              refine t_getC F e_X9_entry_69 fl_X9_186 (fun _ => o7) h2316 k2311 ((fld_eq (h2317.2 r2310 (by rw [show kA _ r2310 = 7 from k2311]; decide))).trans f2312) ?_
              refine m_iload_n F rfl e_X9_entry_72 ?_
              refine m_iload_n F rfl e_X9_entry_73 ?_
              refine m_if_eq F e_X9_entry_74 (fun q => absurd q (by decide)) (fun _ => ?_)
              refine m_iload_n F rfl e_X9_entry_77 ?_
              refine m_goto F e_X9_entry_78 ?_
              refine t_callV F e_X9_entry_87 (s_X3_told (x_l X) V G b M Z T _ _ (r2310 + 5) (nI n2308) (nI n2238) h2316.1 (kA_7 k2311 (r := 5) (by decide))  (by omega)) cb_X3_told ml_X9_199 im_X3_told se_X3_told (fun _ => o12) h2316 (kA_7 k2311 (r := 5) (by decide)) rfl rfl (rest := []) rfl (Nat.le_of_ble_eq_true rfl) ⟨Nat.le_of_ble_eq_true rfl, Nat.le_of_ble_eq_true rfl⟩ ⟨Nat.le_of_ble_eq_true rfl, Nat.le_of_ble_eq_true rfl⟩ (fun r σ2319 hp => ?_)
              obtain ⟨h2321, x2322, rfl⟩ := hp
              have h2320 := HK.trans h2316 h2321 (by decide)
              exact m_lret F hQ e_X9_entry_90 (⟨h2320, _, rfl⟩)
set_option maxRecDepth 20000 in
theorem s_X9_rate (l : Launch) (V : VX) (G : GH) (b M Z T N : Nat) (σ : Mem) (a : Nat) (x901 : Int32) (x902 : Int32) (h0 : HT V G (b, M, Z, T) σ) (hk : kA b a = 1) (hG : okG G) (hM : M + 1 ≤ 1000000000) : Ct l V yX9_rate cX9_rate 4 (some .long) 5 0 0 N σ [.ref a, .int x901, .int x902] (fun r τ => ∃ G9 : GH, GRel G G9 ∧ HK V G9 (b, M + 1, Z, T) [0, 2, 3, 4, 5, 8, 9, 16] σ τ ∧ ∃ x : Int64, r = some (.long x)) := by
  refine Ct.of (by decide) (Nat.le_of_ble_eq_true rfl) [(0, .ref a), (1, .int x901), (2, .int x902)] rfl (fun X hX F hQ => ?_)
  have h1 : HK V G (b, M, Z, T) [0, 2, 3, 4, 5, 8, 9, 16] σ σ := HK.start h0
  refine m_aload_n F rfl e_X9_rate_0 ?_
  refine m_iload_n F rfl e_X9_rate_1 ?_
  refine t_callV F e_X9_rate_2 (s_X9_runningAt (x_l X) V G b M Z T _ _ a x901 h1.1 hk hG (by omega)) cb_X9_runningAt ml_X9_203 im_X9_runningAt se_X9_runningAt (fun _ => o1) h1 hk rfl rfl (rest := []) rfl (Nat.le_of_ble_eq_true rfl) ⟨Nat.le_of_ble_eq_true rfl, Nat.le_of_ble_eq_true rfl⟩ ⟨Nat.le_of_ble_eq_true rfl, Nat.le_of_ble_eq_true rfl⟩ (fun r σ2323 hp => ?_)
  obtain ⟨h2325, c2326⟩ := hp
  have h2324 := HK.trans h1 h2325 (by decide)
  rcases c2326 with rfl | ⟨n2327, r2328, hn2327, en2327, k2329, rfl⟩
  · refine m_astore_nN F (lv' := [(3, .null), (0, .ref a), (1, .int x901), (2, .int x902)]) e_X9_rate_5 (by decide) rfl ?_
    refine m_aload_nN F rfl e_X9_rate_6 ?_
    refine m_ifnullN F e_X9_rate_7 ?_
    refine m_ldc2 F kc_X9_184 e_X9_rate_20 ?_
    exact m_lret F hQ e_X9_rate_23 (⟨G, (GRel.refl hG), (h2324.mono (M' := M + 1) (Z' := Z) (by omega) (by intro e; first | rfl | assumption | omega)), _, rfl⟩)
  · subst en2327
    refine m_astore_n F (lv' := [(3, .ref r2328), (0, .ref a), (1, .int (nI n2327)), (2, .int x902)]) e_X9_rate_5 (by decide) rfl ?_
    refine m_aload_n F rfl e_X9_rate_6 ?_
    refine m_ifnullR F e_X9_rate_7 ?_
    refine m_iload_n F rfl e_X9_rate_10 ?_
    refine m_if_lt F e_X9_rate_11 (fun q11 => ?_) (fun q11 => ?_)
    · refine m_ldc2 F kc_X9_184 e_X9_rate_20 ?_
      exact m_lret F hQ e_X9_rate_23 (⟨G, (GRel.refl hG), (h2324.mono (M' := M + 1) (Z' := Z) (by omega) (by intro e; first | rfl | assumption | omega)), _, rfl⟩)
    · obtain ⟨n2330, hn2330, rfl⟩ := nI_nn (x := x902) (fun e => q11 (Int32.lt_of_lt_of_le e (by decide)))
      have c11 : n2330 ≥ 0 := by have hh := mt (nI_ltI (a := n2330) (b := 0) (by omega) (by omega)).mpr q11; omega
      refine m_iload_n F rfl e_X9_rate_14 ?_
      refine m_ldc F kc_X9_206 e_X9_rate_15 ?_
      refine m_icmp_le F e_X9_rate_17 (fun q17 => ?_) (fun q17 => ?_)
      · have c17 : n2330 ≤ 200000 := (nI_leI (a := n2330) (b := 200000) (by omega) (by omega)).mp q17
        refine m_aload_n F rfl e_X9_rate_24 ?_
        refine t_callV F e_X9_rate_25 (s_X9_remember (x_l X) V G b M Z T _ _ a  h2324.1 hk hG (by omega)) cb_X9_remember ml_X9_97 im_X9_remember se_X9_remember (fun _ => o1) h2324 hk rfl rfl (rest := []) rfl (Nat.le_of_ble_eq_true rfl) ⟨Nat.le_of_ble_eq_true rfl, Nat.le_of_ble_eq_true rfl⟩ ⟨Nat.le_of_ble_eq_true rfl, Nat.le_of_ble_eq_true rfl⟩ (fun r σ2331 hp => ?_)
        obtain ⟨G2334, gr2335, h2333, rfl⟩ := hp
        have gr2336 := (GRel.refl hG).trans gr2335
        have h2332 := HK.trans h2324 h2333 (by decide)
        refine m_aload_n F rfl e_X9_rate_28 ?_
        refine m_iload_n F rfl e_X9_rate_29 ?_
        refine t_put F e_X9_rate_30 fp_X9_122 (fun _ => o15) h2332 k2329 rfl ⟨_, rfl⟩ rfl rfl (by decide) (fun σ2337 h2338 g2339 g2340 f2341 => ?_)
        refine m_aload_n F rfl e_X9_rate_33 ?_
        refine t_get F e_X9_rate_34 fl_X9_16 (fun _ => o1) h2338 hk rfl (fun v hv f2342 => ?_)
        obtain ⟨r2343, ⟨k2344, er2343⟩, rfl⟩ := hv
        replace er2343 : r2343 = b + 2 + 63 * G2334.bk := er2343
        refine m_iload_n F rfl e_X9_rate_37 ?_
        refine m_aload_n F rfl e_X9_rate_38 ?_
        refine t_callV F e_X9_rate_39 (s_X2_remeasure (x_l X) V G2334 b M Z T _ _ r2343 (nI n2327) r2328 h2338.1 k2344 k2329 (by omega)) cb_X2_remeasure ml_X9_207 im_X2_remeasure se_X2_remeasure (fun _ => o7) h2338 k2344 rfl rfl (rest := []) rfl (Nat.le_of_ble_eq_true rfl) ⟨Nat.le_of_ble_eq_true rfl, Nat.le_of_ble_eq_true rfl⟩ ⟨Nat.le_of_ble_eq_true rfl, Nat.le_of_ble_eq_true rfl⟩ (fun r σ2345 hp => ?_)
        obtain ⟨h2347, x2348, rfl⟩ := hp
        have h2346 := HK.trans h2338 h2347 (by decide)
        exact m_lret F hQ e_X9_rate_42 (⟨G2334, gr2336, h2346, _, rfl⟩)
      · have c17 : n2330 > 200000 := by have hh := mt (nI_leI (a := n2330) (b := 200000) (by omega) (by omega)).mpr q17; omega
        refine m_ldc2 F kc_X9_184 e_X9_rate_20 ?_
        exact m_lret F hQ e_X9_rate_23 (⟨G, (GRel.refl hG), (h2324.mono (M' := M + 1) (Z' := Z) (by omega) (by intro e; first | rfl | assumption | omega)), _, rfl⟩)
set_option maxRecDepth 20000 in
theorem s_X9_extend (l : Launch) (V : VX) (G : GH) (b M Z T N : Nat) (σ : Mem) (a : Nat) (x901 : Int32) (x902 : Int32) (h0 : HT V G (b, M, Z, T) σ) (hk : kA b a = 1) (hG : okG G) (hM : M + 1 ≤ 1000000000) : Ct l V yX9_extend cX9_extend 4 (some .long) 5 0 0 N σ [.ref a, .int x901, .int x902] (fun r τ => ∃ G9 : GH, GRel G G9 ∧ HK V G9 (b, M + 1, Z, T) [0, 2, 3, 4, 5, 8, 9, 16] σ τ ∧ ∃ x : Int64, r = some (.long x)) := by
  refine Ct.of (by decide) (Nat.le_of_ble_eq_true rfl) [(0, .ref a), (1, .int x901), (2, .int x902)] rfl (fun X hX F hQ => ?_)
  have h1 : HK V G (b, M, Z, T) [0, 2, 3, 4, 5, 8, 9, 16] σ σ := HK.start h0
  refine m_aload_n F rfl e_X9_extend_0 ?_
  refine m_iload_n F rfl e_X9_extend_1 ?_
  refine t_callV F e_X9_extend_2 (s_X9_runningAt (x_l X) V G b M Z T _ _ a x901 h1.1 hk hG (by omega)) cb_X9_runningAt ml_X9_203 im_X9_runningAt se_X9_runningAt (fun _ => o1) h1 hk rfl rfl (rest := []) rfl (Nat.le_of_ble_eq_true rfl) ⟨Nat.le_of_ble_eq_true rfl, Nat.le_of_ble_eq_true rfl⟩ ⟨Nat.le_of_ble_eq_true rfl, Nat.le_of_ble_eq_true rfl⟩ (fun r σ2349 hp => ?_)
  obtain ⟨h2351, c2352⟩ := hp
  have h2350 := HK.trans h1 h2351 (by decide)
  rcases c2352 with rfl | ⟨n2353, r2354, hn2353, en2353, k2355, rfl⟩
  · refine m_astore_nN F (lv' := [(3, .null), (0, .ref a), (1, .int x901), (2, .int x902)]) e_X9_extend_5 (by decide) rfl ?_
    refine m_aload_nN F rfl e_X9_extend_6 ?_
    refine m_ifnullN F e_X9_extend_7 ?_
    refine m_ldc2 F kc_X9_184 e_X9_extend_32 ?_
    exact m_lret F hQ e_X9_extend_35 (⟨G, (GRel.refl hG), (h2350.mono (M' := M + 1) (Z' := Z) (by omega) (by intro e; first | rfl | assumption | omega)), _, rfl⟩)
  · subst en2353
    refine m_astore_n F (lv' := [(3, .ref r2354), (0, .ref a), (1, .int (nI n2353)), (2, .int x902)]) e_X9_extend_5 (by decide) rfl ?_
    refine m_aload_n F rfl e_X9_extend_6 ?_
    refine m_ifnullR F e_X9_extend_7 ?_
    refine m_iload_n F rfl e_X9_extend_10 ?_
    refine m_iconst F (v := 1) (by decide) e_X9_extend_11 ?_
    refine m_icmp_lt F e_X9_extend_12 (fun q12 => ?_) (fun q12 => ?_)
    · refine m_ldc2 F kc_X9_184 e_X9_extend_32 ?_
      exact m_lret F hQ e_X9_extend_35 (⟨G, (GRel.refl hG), (h2350.mono (M' := M + 1) (Z' := Z) (by omega) (by intro e; first | rfl | assumption | omega)), _, rfl⟩)
    · obtain ⟨n2356, hn2356, rfl⟩ := nI_nn (x := x902) (fun e => q12 (Int32.lt_of_lt_of_le e (by decide)))
      have c12 : n2356 ≥ 1 := by have hh := mt (nI_ltI (a := n2356) (b := 1) (by omega) (by omega)).mpr q12; omega
      refine m_iload_n F rfl e_X9_extend_15 ?_
      refine m_bipush F (v := 24) (by decide) e_X9_extend_16 ?_
      refine m_icmp_gt F e_X9_extend_18 (fun q18 => ?_) (fun q18 => ?_)
      · have c18 : n2356 > 24 := (nI_ltI (a := 24) (b := n2356) (by omega) (by omega)).mp q18
        refine m_ldc2 F kc_X9_184 e_X9_extend_32 ?_
        exact m_lret F hQ e_X9_extend_35 (⟨G, (GRel.refl hG), (h2350.mono (M' := M + 1) (Z' := Z) (by omega) (by intro e; first | rfl | assumption | omega)), _, rfl⟩)
      · have c18 : n2356 ≤ 24 := by have hh := mt (nI_ltI (a := 24) (b := n2356) (by omega) (by omega)).mpr q18; omega
        refine m_aload_n F rfl e_X9_extend_21 ?_
        refine t_get F e_X9_extend_22 fl_X9_119 (fun _ => o15) h2350 k2355 rfl (fun v hv f2357 => ?_)
        obtain ⟨x2358, rfl⟩ := hv
        refine m_iload_n F rfl e_X9_extend_25 ?_
        refine m_iadd F e_X9_extend_26 ?_
        refine Wm.top (fun x2359 _ => ?_)
        refine m_bipush F (v := 72) (by decide) e_X9_extend_27 ?_
        refine m_icmp_le F e_X9_extend_29 (fun q29 => ?_) (fun q29 => ?_)
        · refine m_aload_n F rfl e_X9_extend_36 ?_
          refine t_callV F e_X9_extend_37 (s_X9_remember (x_l X) V G b M Z T _ _ a  h2350.1 hk hG (by omega)) cb_X9_remember ml_X9_97 im_X9_remember se_X9_remember (fun _ => o1) h2350 hk rfl rfl (rest := []) rfl (Nat.le_of_ble_eq_true rfl) ⟨Nat.le_of_ble_eq_true rfl, Nat.le_of_ble_eq_true rfl⟩ ⟨Nat.le_of_ble_eq_true rfl, Nat.le_of_ble_eq_true rfl⟩ (fun r σ2360 hp => ?_)
          obtain ⟨G2363, gr2364, h2362, rfl⟩ := hp
          have gr2365 := (GRel.refl hG).trans gr2364
          have h2361 := HK.trans h2350 h2362 (by decide)
          refine m_aload_n F rfl e_X9_extend_40 ?_
          refine m_iload_n F rfl e_X9_extend_41 ?_
          refine t_callV F e_X9_extend_42 (s_X5_goOnAsLast (x_l X) V G2363 b M Z T _ _ r2354 n2356 h2361.1 k2355 (by omega) (by omega)) cb_X5_goOnAsLast ml_X9_211 im_X5_goOnAsLast se_X5_goOnAsLast (fun _ => o15) h2361 k2355 rfl rfl (rest := []) rfl (Nat.le_of_ble_eq_true rfl) ⟨Nat.le_of_ble_eq_true rfl, Nat.le_of_ble_eq_true rfl⟩ ⟨Nat.le_of_ble_eq_true rfl, Nat.le_of_ble_eq_true rfl⟩ (fun r σ2366 hp => ?_)
          obtain ⟨h2368, rfl⟩ := hp
          have h2367 := HK.trans h2361 h2368 (by decide)
          refine m_aload_n F rfl e_X9_extend_45 ?_
          refine t_get F e_X9_extend_46 fl_X9_16 (fun _ => o1) h2367 hk rfl (fun v hv f2369 => ?_)
          obtain ⟨r2370, ⟨k2371, er2370⟩, rfl⟩ := hv
          replace er2370 : r2370 = b + 2 + 63 * G2363.bk := er2370
          refine m_iload_n F rfl e_X9_extend_49 ?_
          refine m_aload_n F rfl e_X9_extend_50 ?_
          refine t_callV F e_X9_extend_51 (s_X2_remeasure (x_l X) V G2363 b M Z T _ _ r2370 (nI n2353) r2354 h2367.1 k2371 k2355 (by omega)) cb_X2_remeasure ml_X9_207 im_X2_remeasure se_X2_remeasure (fun _ => o7) h2367 k2371 rfl rfl (rest := []) rfl (Nat.le_of_ble_eq_true rfl) ⟨Nat.le_of_ble_eq_true rfl, Nat.le_of_ble_eq_true rfl⟩ ⟨Nat.le_of_ble_eq_true rfl, Nat.le_of_ble_eq_true rfl⟩ (fun r σ2372 hp => ?_)
          obtain ⟨h2374, x2375, rfl⟩ := hp
          have h2373 := HK.trans h2367 h2374 (by decide)
          exact m_lret F hQ e_X9_extend_54 (⟨G2363, gr2365, h2373, _, rfl⟩)
        · obtain ⟨n2376, hn2376, rfl⟩ := nI_nn (x := x2359) (fun e => q29 (Int32.le_trans (Int32.le_of_lt e) (by decide)))
          have c29 : n2376 > 72 := by have hh := mt (nI_leI (a := n2376) (b := 72) (by omega) (by omega)).mpr q29; omega
          refine m_ldc2 F kc_X9_184 e_X9_extend_32 ?_
          exact m_lret F hQ e_X9_extend_35 (⟨G, (GRel.refl hG), (h2350.mono (M' := M + 1) (Z' := Z) (by omega) (by intro e; first | rfl | assumption | omega)), _, rfl⟩)
set_option maxRecDepth 20000 in
theorem s_X9_take (l : Launch) (V : VX) (G : GH) (b M Z T N : Nat) (σ : Mem) (a : Nat) (x901 : Int32) (h0 : HT V G (b, M, Z, T) σ) (hk : kA b a = 1) (hG : okG G) (hM : M + 1 ≤ 1000000000) : Ct l V yX9_take cX9_take 4 (some .long) 5 0 0 N σ [.ref a, .int x901] (fun r τ => ∃ G9 : GH, GRel G G9 ∧ HK V G9 (b, M + 1, Z, T) [0, 2, 3, 4, 5, 8, 9, 16] σ τ ∧ ∃ x : Int64, r = some (.long x)) := by
  refine Ct.of (by decide) (Nat.le_of_ble_eq_true rfl) [(0, .ref a), (1, .int x901)] rfl (fun X hX F hQ => ?_)
  have h1 : HK V G (b, M, Z, T) [0, 2, 3, 4, 5, 8, 9, 16] σ σ := HK.start h0
  refine m_aload_n F rfl e_X9_take_0 ?_
  refine t_get F e_X9_take_1 fl_X9_16 (fun _ => o1) h1 hk rfl (fun v hv f2377 => ?_)
  obtain ⟨r2378, ⟨k2379, er2378⟩, rfl⟩ := hv
  replace er2378 : r2378 = b + 2 + 63 * G.bk := er2378
  refine m_iload_n F rfl e_X9_take_4 ?_
  refine t_callV F e_X9_take_5 (s_X2_canTake (x_l X) V G b M Z T _ _ r2378 x901 h1.1 k2379  (by omega)) cb_X2_canTake ml_X9_214 im_X2_canTake se_X2_canTake (fun _ => o7) h1 k2379 rfl rfl (rest := []) rfl (Nat.le_of_ble_eq_true rfl) ⟨Nat.le_of_ble_eq_true rfl, Nat.le_of_ble_eq_true rfl⟩ ⟨Nat.le_of_ble_eq_true rfl, Nat.le_of_ble_eq_true rfl⟩ (fun r σ2380 hp => ?_)
  obtain ⟨h2382, c2383⟩ := hp
  have h2381 := HK.trans h1 h2382 (by decide)
  rcases c2383 with rfl | ⟨n2384, hn2384, en2384, rfl⟩
  · refine m_if_ne F e_X9_take_8 (fun q => absurd (by decide) q) (fun _ => ?_)
    refine m_ldc2 F kc_X9_184 e_X9_take_11 ?_
    exact m_lret F hQ e_X9_take_14 (⟨G, (GRel.refl hG), (h2381.mono (M' := M + 1) (Z' := Z) (by omega) (by intro e; first | rfl | assumption | omega)), _, rfl⟩)
  · subst en2384
    refine m_if_ne F e_X9_take_8 (fun _ => ?_) (fun q => absurd q (by decide))
    refine m_aload_n F rfl e_X9_take_15 ?_
    refine t_callV F e_X9_take_16 (s_X9_remember (x_l X) V G b M Z T _ _ a  h2381.1 hk hG (by omega)) cb_X9_remember ml_X9_97 im_X9_remember se_X9_remember (fun _ => o1) h2381 hk rfl rfl (rest := []) rfl (Nat.le_of_ble_eq_true rfl) ⟨Nat.le_of_ble_eq_true rfl, Nat.le_of_ble_eq_true rfl⟩ ⟨Nat.le_of_ble_eq_true rfl, Nat.le_of_ble_eq_true rfl⟩ (fun r σ2385 hp => ?_)
    obtain ⟨G2388, gr2389, h2387, rfl⟩ := hp
    have gr2390 := (GRel.refl hG).trans gr2389
    have h2386 := HK.trans h2381 h2387 (by decide)
    refine m_aload_n F rfl e_X9_take_19 ?_
    refine t_get F e_X9_take_20 fl_X9_16 (fun _ => o1) h2386 hk rfl (fun v hv f2391 => ?_)
    obtain ⟨r2392, ⟨k2393, er2392⟩, rfl⟩ := hv
    replace er2392 : r2392 = b + 2 + 63 * G2388.bk := er2392
    refine t_get F e_X9_take_23 fl_X9_217 (fun _ => o7) h2386 k2393 rfl (fun v hv f2394 => ?_)
    obtain rfl : v = .ref (r2392 + 2) := hv
    refine m_iload_n F rfl e_X9_take_26 ?_
    refine t_aald9 F (j := n2384) e_X9_take_27 rfl h2386 (kA_7 k2393 (r := 2) (by decide)) (nI_clamp (by omega)) (vp_in_nI (by omega) (by decide)) ?_
    refine m_astore_n F (lv' := [(2, .ref ((r2392 + 2) + 57 + n2384)), (0, .ref a), (1, .int (nI n2384))]) e_X9_take_28 (by decide) rfl ?_
    refine m_aload_n F rfl e_X9_take_29 ?_
    refine m_iconst F (v := 1) (by decide) e_X9_take_30 ?_
    refine t_put F e_X9_take_31 fp_X9_221 (fun _ => o19) h2386 (kA_9 (kA_7 k2393 (r := 2) (by decide)) (j := n2384) (by omega)) rfl ⟨1, (show 1 ≤ 1 by omega), rfl⟩ (by decide) rfl (by decide) (fun σ2395 h2396 g2397 g2398 f2399 => ?_)
    refine m_aload_n F rfl e_X9_take_34 ?_
    refine t_getC F e_X9_take_35 fl_X9_16 (fun _ => o1) h2396 hk ((g2397 a 2 (fun e => absurd ((hk).symm.trans e) (by decide))).trans f2391) ?_
    refine t_get F e_X9_take_38 fl_X9_226 (fun _ => o7) h2396 k2393 rfl (fun v hv f2400 => ?_)
    obtain rfl : v = .ref (r2392 + 1) := hv
    refine m_aload_n F rfl e_X9_take_41 ?_
    refine t_get F e_X9_take_42 fl_X9_230 (fun _ => o19) h2396 (kA_9 (kA_7 k2393 (r := 2) (by decide)) (j := n2384) (by omega)) rfl (fun v hv f2401 => ?_)
    obtain ⟨n2402, hn2402, rfl⟩ := hv
    replace hn2402 : n2402 ≤ 3 := hn2402
    refine t_aald8 F (j := n2402) e_X9_take_45 rfl h2396 (kA_7 k2393 (r := 1) (by decide)) (nI_clamp (by omega)) (vp_in_nI (by omega) (by decide)) ?_
    refine m_astore_n F (lv' := [(3, .ref ((r2392 + 1) + 10 + 12 * n2402)), (2, .ref ((r2392 + 2) + 57 + n2384)), (0, .ref a), (1, .int (nI n2384))]) e_X9_take_46 (by decide) rfl ?_
    refine m_aload_n F rfl e_X9_take_47 ?_
    refine t_getC F e_X9_take_48 fl_X9_16 (fun _ => o1) h2396 hk ((g2397 a 2 (fun e => absurd ((hk).symm.trans e) (by decide))).trans f2391) ?_
    refine m_aload_n F rfl e_X9_take_51 ?_
    refine m_aload_n F rfl e_X9_take_52 ?_
    refine t_callV F e_X9_take_53 (s_X2_goOnByOption (x_l X) V G2388 b M Z T _ _ r2392 ((r2392 + 1) + 10 + 12 * n2402) ((r2392 + 2) + 57 + n2384) h2396.1 k2393 (kA_8 (kA_7 k2393 (r := 1) (by decide)) (j := n2402) (by omega)) (kA_9 (kA_7 k2393 (r := 2) (by decide)) (j := n2384) (by omega)) (by omega)) cb_X2_goOnByOption ml_X9_233 im_X2_goOnByOption se_X2_goOnByOption (fun _ => o7) h2396 k2393 rfl rfl (rest := []) rfl (Nat.le_of_ble_eq_true rfl) ⟨Nat.le_of_ble_eq_true rfl, Nat.le_of_ble_eq_true rfl⟩ ⟨Nat.le_of_ble_eq_true rfl, Nat.le_of_ble_eq_true rfl⟩ (fun r σ2403 hp => ?_)
    obtain ⟨h2405, rfl⟩ := hp
    have h2404 := HK.trans h2396 h2405 (by decide)
    refine m_aload_n F rfl e_X9_take_56 ?_
    refine t_getC F e_X9_take_57 fl_X9_16 (fun _ => o1) h2404 hk ((fld_eq (h2405.2 a (by rw [show kA _ a = 1 from hk]; decide))).trans ((g2397 a 2 (fun e => absurd ((hk).symm.trans e) (by decide))).trans f2391)) ?_
    refine m_aload_n F rfl e_X9_take_60 ?_
    refine t_getC F e_X9_take_61 fl_X9_230 (fun _ => o19) h2404 (kA_9 (kA_7 k2393 (r := 2) (by decide)) (j := n2384) (by omega)) ((fld_eq (h2405.2 ((r2392 + 2) + 57 + n2384) (by rw [show kA _ ((r2392 + 2) + 57 + n2384) = 19 from (kA_9 (kA_7 k2393 (r := 2) (by decide)) (j := n2384) (by omega))]; decide))).trans f2401) ?_
    refine m_aload_n F rfl e_X9_take_64 ?_
    refine t_callV F e_X9_take_65 (s_X2_remeasure (x_l X) V G2388 b M Z T _ _ r2392 (nI n2402) ((r2392 + 1) + 10 + 12 * n2402) h2404.1 k2393 (kA_8 (kA_7 k2393 (r := 1) (by decide)) (j := n2402) (by omega)) (by omega)) cb_X2_remeasure ml_X9_207 im_X2_remeasure se_X2_remeasure (fun _ => o7) h2404 k2393 rfl rfl (rest := []) rfl (Nat.le_of_ble_eq_true rfl) ⟨Nat.le_of_ble_eq_true rfl, Nat.le_of_ble_eq_true rfl⟩ ⟨Nat.le_of_ble_eq_true rfl, Nat.le_of_ble_eq_true rfl⟩ (fun r σ2406 hp => ?_)
    obtain ⟨h2408, x2409, rfl⟩ := hp
    have h2407 := HK.trans h2404 h2408 (by decide)
    exact m_lret F hQ e_X9_take_68 (⟨G2388, gr2390, h2407, _, rfl⟩)
set_option maxRecDepth 20000 in
theorem s_X9_part (l : Launch) (V : VX) (G : GH) (b M Z T N : Nat) (σ : Mem) (a : Nat) (x901 : Int32) (x902 : Int32) (h0 : HT V G (b, M, Z, T) σ) (hk : kA b a = 1) (hG : okG G) (hM : M + 1 ≤ 1000000000) : Ct l V yX9_part cX9_part 6 (some .long) 5 0 0 N σ [.ref a, .int x901, .int x902] (fun r τ => ∃ G9 : GH, GRel G G9 ∧ HK V G9 (b, M + 1, Z, T) [0, 2, 3, 4, 5, 8, 9, 16] σ τ ∧ ∃ x : Int64, r = some (.long x)) := by
  refine Ct.of (by decide) (Nat.le_of_ble_eq_true rfl) [(0, .ref a), (1, .int x901), (2, .int x902)] rfl (fun X hX F hQ => ?_)
  have h1 : HK V G (b, M, Z, T) [0, 2, 3, 4, 5, 8, 9, 16] σ σ := HK.start h0
  refine m_aload_n F rfl e_X9_part_0 ?_
  refine m_iload_n F rfl e_X9_part_1 ?_
  refine t_callV F e_X9_part_2 (s_X9_runningAt (x_l X) V G b M Z T _ _ a x901 h1.1 hk hG (by omega)) cb_X9_runningAt ml_X9_203 im_X9_runningAt se_X9_runningAt (fun _ => o1) h1 hk rfl rfl (rest := []) rfl (Nat.le_of_ble_eq_true rfl) ⟨Nat.le_of_ble_eq_true rfl, Nat.le_of_ble_eq_true rfl⟩ ⟨Nat.le_of_ble_eq_true rfl, Nat.le_of_ble_eq_true rfl⟩ (fun r σ2410 hp => ?_)
  obtain ⟨h2412, c2413⟩ := hp
  have h2411 := HK.trans h1 h2412 (by decide)
  rcases c2413 with rfl | ⟨n2414, r2415, hn2414, en2414, k2416, rfl⟩
  · refine m_astore_nN F (lv' := [(3, .null), (0, .ref a), (1, .int x901), (2, .int x902)]) e_X9_part_5 (by decide) rfl ?_
    refine m_aload_nN F rfl e_X9_part_6 ?_
    refine m_ifnullN F e_X9_part_7 ?_
    refine m_ldc2 F kc_X9_184 e_X9_part_22 ?_
    exact m_lret F hQ e_X9_part_25 (⟨G, (GRel.refl hG), (h2411.mono (M' := M + 1) (Z' := Z) (by omega) (by intro e; first | rfl | assumption | omega)), _, rfl⟩)
  · subst en2414
    refine m_astore_n F (lv' := [(3, .ref r2415), (0, .ref a), (1, .int (nI n2414)), (2, .int x902)]) e_X9_part_5 (by decide) rfl ?_
    refine m_aload_n F rfl e_X9_part_6 ?_
    refine m_ifnullR F e_X9_part_7 ?_
    refine m_iload_n F rfl e_X9_part_10 ?_
    refine m_iconst F (v := 1) (by decide) e_X9_part_11 ?_
    refine m_icmp_lt F e_X9_part_12 (fun q12 => ?_) (fun q12 => ?_)
    · refine m_ldc2 F kc_X9_184 e_X9_part_22 ?_
      exact m_lret F hQ e_X9_part_25 (⟨G, (GRel.refl hG), (h2411.mono (M' := M + 1) (Z' := Z) (by omega) (by intro e; first | rfl | assumption | omega)), _, rfl⟩)
    · obtain ⟨n2417, hn2417, rfl⟩ := nI_nn (x := x902) (fun e => q12 (Int32.lt_of_lt_of_le e (by decide)))
      have c12 : n2417 ≥ 1 := by have hh := mt (nI_ltI (a := n2417) (b := 1) (by omega) (by omega)).mpr q12; omega
      refine m_iload_n F rfl e_X9_part_15 ?_
      refine m_sipush F (v := 999) (by decide) e_X9_part_16 ?_
      refine m_icmp_le F e_X9_part_19 (fun q19 => ?_) (fun q19 => ?_)
      · have c19 : n2417 ≤ 999 := (nI_leI (a := n2417) (b := 999) (by omega) (by omega)).mp q19
        refine m_aload_n F rfl e_X9_part_26 ?_
        refine t_callV F e_X9_part_27 (s_X9_remember (x_l X) V G b M Z T _ _ a  h2411.1 hk hG (by omega)) cb_X9_remember ml_X9_97 im_X9_remember se_X9_remember (fun _ => o1) h2411 hk rfl rfl (rest := []) rfl (Nat.le_of_ble_eq_true rfl) ⟨Nat.le_of_ble_eq_true rfl, Nat.le_of_ble_eq_true rfl⟩ ⟨Nat.le_of_ble_eq_true rfl, Nat.le_of_ble_eq_true rfl⟩ (fun r σ2418 hp => ?_)
        obtain ⟨G2421, gr2422, h2420, rfl⟩ := hp
        have gr2423 := (GRel.refl hG).trans gr2422
        have h2419 := HK.trans h2411 h2420 (by decide)
        refine m_aload_n F rfl e_X9_part_30 ?_
        refine t_get F e_X9_part_31 fl_X9_16 (fun _ => o1) h2419 hk rfl (fun v hv f2424 => ?_)
        obtain ⟨r2425, ⟨k2426, er2425⟩, rfl⟩ := hv
        replace er2425 : r2425 = b + 2 + 63 * G2421.bk := er2425
        refine m_iload_n F rfl e_X9_part_34 ?_
        refine m_aload_n F rfl e_X9_part_35 ?_
        refine m_iload_n F rfl e_X9_part_36 ?_
        refine m_i2l F e_X9_part_37 ?_
        refine Wm.topl (fun x2427 _ => ?_)
        refine m_iconst F (v := 3) (by decide) e_X9_part_38 ?_
        refine t_callV F e_X9_part_39 (s_X2_giveBack (x_l X) V G2421 b M Z T _ _ r2425 (nI n2414) r2415 x2427 3 h2419.1 k2426 k2416 (by omega)) cb_X2_giveBack ml_X9_237 im_X2_giveBack se_X2_giveBack (fun _ => o7) h2419 k2426 rfl rfl (rest := []) rfl (Nat.le_of_ble_eq_true rfl) ⟨Nat.le_of_ble_eq_true rfl, Nat.le_of_ble_eq_true rfl⟩ ⟨Nat.le_of_ble_eq_true rfl, Nat.le_of_ble_eq_true rfl⟩ (fun r σ2428 hp => ?_)
        obtain ⟨h2430, x2431, rfl⟩ := hp
        have h2429 := HK.trans h2419 h2430 (by decide)
        refine m_lstore F (lv' := [(4, .long x2431), (3, .ref r2415), (0, .ref a), (1, .int (nI n2414)), (2, .int (nI n2417))]) e_X9_part_42 (by decide) rfl ?_
        refine m_aload_n F rfl e_X9_part_44 ?_
        refine m_ldc2 F kc_X9_241 e_X9_part_45 ?_
        refine m_iload_n F rfl e_X9_part_48 ?_
        refine m_i2l F e_X9_part_49 ?_
        refine Wm.topl (fun x2432 _ => ?_)
        refine m_lsub F e_X9_part_50 ?_
        refine Wm.topl (fun x2433 _ => ?_)
        refine t_callV F e_X9_part_51 (s_X5_keepPart (x_l X) V G2421 b (M + 1) Z T _ _ r2415 x2433 h2429.1 k2416  (by omega)) cb_X5_keepPart ml_X9_243 im_X5_keepPart se_X5_keepPart (fun _ => o15) h2429 k2416 rfl rfl (rest := []) rfl (Nat.le_of_ble_eq_true rfl) ⟨Nat.le_of_ble_eq_true rfl, Nat.le_of_ble_eq_true rfl⟩ ⟨Nat.le_of_ble_eq_true rfl, Nat.le_of_ble_eq_true rfl⟩ (fun r σ2434 hp => ?_)
        obtain ⟨h2436, rfl⟩ := hp
        have h2435 := HK.trans h2429 h2436 (by decide)
        refine m_lload F rfl e_X9_part_54 ?_
        exact m_lret F hQ e_X9_part_56 (⟨G2421, gr2423, h2435, _, rfl⟩)
      · have c19 : n2417 > 999 := by have hh := mt (nI_leI (a := n2417) (b := 999) (by omega) (by omega)).mpr q19; omega
        refine m_ldc2 F kc_X9_184 e_X9_part_22 ?_
        exact m_lret F hQ e_X9_part_25 (⟨G, (GRel.refl hG), (h2411.mono (M' := M + 1) (Z' := Z) (by omega) (by intro e; first | rfl | assumption | omega)), _, rfl⟩)
set_option maxRecDepth 20000 in
theorem s_X9_end (l : Launch) (V : VX) (G : GH) (b M Z T N : Nat) (σ : Mem) (a : Nat) (x901 : Int32) (h0 : HT V G (b, M, Z, T) σ) (hk : kA b a = 1) (hG : okG G) (hM : M + 1 ≤ 1000000000) : Ct l V yX9_end cX9_end 3 (some .long) 5 0 0 N σ [.ref a, .int x901] (fun r τ => ∃ G9 : GH, GRel G G9 ∧ HK V G9 (b, M + 1, Z, T) [0, 2, 3, 4, 5, 8, 9, 16] σ τ ∧ ∃ x : Int64, r = some (.long x)) := by
  refine Ct.of (by decide) (Nat.le_of_ble_eq_true rfl) [(0, .ref a), (1, .int x901)] rfl (fun X hX F hQ => ?_)
  have h1 : HK V G (b, M, Z, T) [0, 2, 3, 4, 5, 8, 9, 16] σ σ := HK.start h0
  refine m_aload_n F rfl e_X9_end_0 ?_
  refine m_iload_n F rfl e_X9_end_1 ?_
  refine t_callV F e_X9_end_2 (s_X9_runningAt (x_l X) V G b M Z T _ _ a x901 h1.1 hk hG (by omega)) cb_X9_runningAt ml_X9_203 im_X9_runningAt se_X9_runningAt (fun _ => o1) h1 hk rfl rfl (rest := []) rfl (Nat.le_of_ble_eq_true rfl) ⟨Nat.le_of_ble_eq_true rfl, Nat.le_of_ble_eq_true rfl⟩ ⟨Nat.le_of_ble_eq_true rfl, Nat.le_of_ble_eq_true rfl⟩ (fun r σ2437 hp => ?_)
  obtain ⟨h2439, c2440⟩ := hp
  have h2438 := HK.trans h1 h2439 (by decide)
  rcases c2440 with rfl | ⟨n2441, r2442, hn2441, en2441, k2443, rfl⟩
  · refine m_astore_nN F (lv' := [(2, .null), (0, .ref a), (1, .int x901)]) e_X9_end_5 (by decide) rfl ?_
    refine m_aload_nN F rfl e_X9_end_6 ?_
    refine m_ifnonnullN F e_X9_end_7 ?_
    refine m_ldc2 F kc_X9_184 e_X9_end_10 ?_
    exact m_lret F hQ e_X9_end_13 (⟨G, (GRel.refl hG), (h2438.mono (M' := M + 1) (Z' := Z) (by omega) (by intro e; first | rfl | assumption | omega)), _, rfl⟩)
  · subst en2441
    refine m_astore_n F (lv' := [(2, .ref r2442), (0, .ref a), (1, .int (nI n2441))]) e_X9_end_5 (by decide) rfl ?_
    refine m_aload_n F rfl e_X9_end_6 ?_
    refine m_ifnonnullR F e_X9_end_7 ?_
    refine m_aload_n F rfl e_X9_end_14 ?_
    refine t_callV F e_X9_end_15 (s_X9_remember (x_l X) V G b M Z T _ _ a  h2438.1 hk hG (by omega)) cb_X9_remember ml_X9_97 im_X9_remember se_X9_remember (fun _ => o1) h2438 hk rfl rfl (rest := []) rfl (Nat.le_of_ble_eq_true rfl) ⟨Nat.le_of_ble_eq_true rfl, Nat.le_of_ble_eq_true rfl⟩ ⟨Nat.le_of_ble_eq_true rfl, Nat.le_of_ble_eq_true rfl⟩ (fun r σ2444 hp => ?_)
    obtain ⟨G2447, gr2448, h2446, rfl⟩ := hp
    have gr2449 := (GRel.refl hG).trans gr2448
    have h2445 := HK.trans h2438 h2446 (by decide)
    refine m_aload_n F rfl e_X9_end_18 ?_
    refine m_iconst F (v := 2) (by decide) e_X9_end_19 ?_
    refine t_put F e_X9_end_20 fp_X9_125 (fun _ => o15) h2445 k2443 rfl ⟨_, rfl⟩ rfl rfl (by decide) (fun σ2450 h2451 g2452 g2453 f2454 => ?_)
    refine m_aload_n F rfl e_X9_end_23 ?_
    refine t_get F e_X9_end_24 fl_X9_16 (fun _ => o1) h2451 hk rfl (fun v hv f2455 => ?_)
    obtain ⟨r2456, ⟨k2457, er2456⟩, rfl⟩ := hv
    replace er2456 : r2456 = b + 2 + 63 * G2447.bk := er2456
    refine m_iload_n F rfl e_X9_end_27 ?_
    refine m_aload_n F rfl e_X9_end_28 ?_
    refine m_ldc2 F kc_X9_241 e_X9_end_29 ?_
    refine m_iconst F (v := 4) (by decide) e_X9_end_32 ?_
    refine t_callV F e_X9_end_33 (s_X2_giveBack (x_l X) V G2447 b M Z T _ _ r2456 (nI n2441) r2442 1000 4 h2451.1 k2457 k2443 (by omega)) cb_X2_giveBack ml_X9_237 im_X2_giveBack se_X2_giveBack (fun _ => o7) h2451 k2457 rfl rfl (rest := []) rfl (Nat.le_of_ble_eq_true rfl) ⟨Nat.le_of_ble_eq_true rfl, Nat.le_of_ble_eq_true rfl⟩ ⟨Nat.le_of_ble_eq_true rfl, Nat.le_of_ble_eq_true rfl⟩ (fun r σ2458 hp => ?_)
    obtain ⟨h2460, x2461, rfl⟩ := hp
    have h2459 := HK.trans h2451 h2460 (by decide)
    exact m_lret F hQ e_X9_end_36 (⟨G2447, gr2449, h2459, _, rfl⟩)
set_option maxRecDepth 20000 in
theorem s_X9_down (l : Launch) (V : VX) (G : GH) (b M Z T N : Nat) (σ : Mem) (a : Nat) (x901 : Int32) (x902 : Int64) (h0 : HT V G (b, M, Z, T) σ) (hk : kA b a = 1) (hG : okG G) (hM : M + 1 ≤ 1000000000) : Ct l V yX9_down cX9_down 5 (some .long) 5 0 0 N σ [.ref a, .int x901, .long x902] (fun r τ => ∃ G9 : GH, GRel G G9 ∧ HK V G9 (b, M + 1, Z, T) [0, 2, 3, 4, 5, 8, 9, 16] σ τ ∧ ∃ x : Int64, r = some (.long x)) := by
  refine Ct.of (by decide) (Nat.le_of_ble_eq_true rfl) [(0, .ref a), (1, .int x901), (2, .long x902)] rfl (fun X hX F hQ => ?_)
  have h1 : HK V G (b, M, Z, T) [0, 2, 3, 4, 5, 8, 9, 16] σ σ := HK.start h0
  refine m_aload_n F rfl e_X9_down_0 ?_
  refine m_iload_n F rfl e_X9_down_1 ?_
  refine t_callV F e_X9_down_2 (s_X9_runningAt (x_l X) V G b M Z T _ _ a x901 h1.1 hk hG (by omega)) cb_X9_runningAt ml_X9_203 im_X9_runningAt se_X9_runningAt (fun _ => o1) h1 hk rfl rfl (rest := []) rfl (Nat.le_of_ble_eq_true rfl) ⟨Nat.le_of_ble_eq_true rfl, Nat.le_of_ble_eq_true rfl⟩ ⟨Nat.le_of_ble_eq_true rfl, Nat.le_of_ble_eq_true rfl⟩ (fun r σ2462 hp => ?_)
  obtain ⟨h2464, c2465⟩ := hp
  have h2463 := HK.trans h1 h2464 (by decide)
  rcases c2465 with rfl | ⟨n2466, r2467, hn2466, en2466, k2468, rfl⟩
  · refine m_astoreN F (lv' := [(4, .null), (0, .ref a), (1, .int x901), (2, .long x902)]) e_X9_down_5 (by decide) rfl ?_
    refine m_aloadN F rfl e_X9_down_7 ?_
    refine m_ifnullN F e_X9_down_9 ?_
    refine m_ldc2 F kc_X9_184 e_X9_down_30 ?_
    exact m_lret F hQ e_X9_down_33 (⟨G, (GRel.refl hG), (h2463.mono (M' := M + 1) (Z' := Z) (by omega) (by intro e; first | rfl | assumption | omega)), _, rfl⟩)
  · subst en2466
    refine m_astore F (lv' := [(4, .ref r2467), (0, .ref a), (1, .int (nI n2466)), (2, .long x902)]) e_X9_down_5 (by decide) rfl ?_
    refine m_aload F rfl e_X9_down_7 ?_
    refine m_ifnullR F e_X9_down_9 ?_
    refine m_lload_n F rfl e_X9_down_12 ?_
    refine m_lconst F (v := 1) (by decide) e_X9_down_13 ?_
    refine m_lcmp F e_X9_down_14 ?_
    refine Wm.top (fun x2469 _ => ?_)
    refine m_if_lt F e_X9_down_15 (fun q15 => ?_) (fun q15 => ?_)
    · refine m_ldc2 F kc_X9_184 e_X9_down_30 ?_
      exact m_lret F hQ e_X9_down_33 (⟨G, (GRel.refl hG), (h2463.mono (M' := M + 1) (Z' := Z) (by omega) (by intro e; first | rfl | assumption | omega)), _, rfl⟩)
    · obtain ⟨n2470, hn2470, rfl⟩ := nI_nn (x := x2469) (fun e => q15 (Int32.lt_of_lt_of_le e (by decide)))
      have c15 : n2470 ≥ 0 := by have hh := mt (nI_ltI (a := n2470) (b := 0) (by omega) (by omega)).mpr q15; omega
      refine m_aload F rfl e_X9_down_18 ?_
      refine t_get F e_X9_down_20 fl_X9_154 (fun _ => o15) h2463 k2468 rfl (fun v hv f2471 => ?_)
      obtain ⟨r2472, k2473, rfl⟩ := hv
      refine m_lload_n F rfl e_X9_down_23 ?_
      refine t_callV F e_X9_down_24 (s_X1_isAtLeast (x_l X) V G b M Z T _ _ r2472 x902 h2463.1 k2473  (by omega)) cb_X1_isAtLeast ml_X9_247 im_X1_isAtLeast se_X1_isAtLeast (fun _ => o6) h2463 k2473 rfl rfl (rest := []) rfl (Nat.le_of_ble_eq_true rfl) ⟨Nat.le_of_ble_eq_true rfl, Nat.le_of_ble_eq_true rfl⟩ ⟨Nat.le_of_ble_eq_true rfl, Nat.le_of_ble_eq_true rfl⟩ (fun r σ2474 hp => ?_)
      obtain ⟨h2476, n2477, hn2477, rfl⟩ := hp
      have h2475 := HK.trans h2463 h2476 (by decide)
      refine m_if_ne F e_X9_down_27 (fun q27 => ?_) (fun q27 => ?_)
      · have c27 : n2477 ≠ 0 := by have hh := mt (nI_eq (a := n2477) (b := 0) (by omega) (by omega)).mpr q27; omega
        refine m_aload_n F rfl e_X9_down_34 ?_
        refine t_callV F e_X9_down_35 (s_X9_remember (x_l X) V G b M Z T _ _ a  h2475.1 hk hG (by omega)) cb_X9_remember ml_X9_97 im_X9_remember se_X9_remember (fun _ => o1) h2475 hk rfl rfl (rest := []) rfl (Nat.le_of_ble_eq_true rfl) ⟨Nat.le_of_ble_eq_true rfl, Nat.le_of_ble_eq_true rfl⟩ ⟨Nat.le_of_ble_eq_true rfl, Nat.le_of_ble_eq_true rfl⟩ (fun r σ2478 hp => ?_)
        obtain ⟨G2481, gr2482, h2480, rfl⟩ := hp
        have gr2483 := (GRel.refl hG).trans gr2482
        have h2479 := HK.trans h2475 h2480 (by decide)
        refine m_aload_n F rfl e_X9_down_38 ?_
        refine t_get F e_X9_down_39 fl_X9_16 (fun _ => o1) h2479 hk rfl (fun v hv f2484 => ?_)
        obtain ⟨r2485, ⟨k2486, er2485⟩, rfl⟩ := hv
        replace er2485 : r2485 = b + 2 + 63 * G2481.bk := er2485
        refine m_iload_n F rfl e_X9_down_42 ?_
        refine m_aload F rfl e_X9_down_43 ?_
        refine m_lload_n F rfl e_X9_down_45 ?_
        refine t_callV F e_X9_down_46 (s_X2_writeDown (x_l X) V G2481 b M Z T _ _ r2485 (nI n2466) r2467 x902 h2479.1 k2486 k2468 (by omega)) cb_X2_writeDown ml_X9_251 im_X2_writeDown se_X2_writeDown (fun _ => o7) h2479 k2486 rfl rfl (rest := []) rfl (Nat.le_of_ble_eq_true rfl) ⟨Nat.le_of_ble_eq_true rfl, Nat.le_of_ble_eq_true rfl⟩ ⟨Nat.le_of_ble_eq_true rfl, Nat.le_of_ble_eq_true rfl⟩ (fun r σ2487 hp => ?_)
        obtain ⟨h2489, rfl⟩ := hp
        have h2488 := HK.trans h2479 h2489 (by decide)
        refine m_aload F rfl e_X9_down_49 ?_
        refine t_get F e_X9_down_51 fl_X9_154 (fun _ => o15) h2488 k2468 rfl (fun v hv f2490 => ?_)
        obtain ⟨r2491, k2492, rfl⟩ := hv
        refine t_callV F e_X9_down_54 (s_X1_asLong (x_l X) V G2481 b (M + 1) Z T _ _ r2491  h2488.1 k2492  (by omega)) cb_X1_asLong ml_X9_157 im_X1_asLong se_X1_asLong (fun _ => o6) h2488 k2492 rfl rfl (rest := []) rfl (Nat.le_of_ble_eq_true rfl) ⟨Nat.le_of_ble_eq_true rfl, Nat.le_of_ble_eq_true rfl⟩ ⟨Nat.le_of_ble_eq_true rfl, Nat.le_of_ble_eq_true rfl⟩ (fun r σ2493 hp => ?_)
        obtain ⟨h2495, x2496, rfl⟩ := hp
        have h2494 := HK.trans h2488 h2495 (by decide)
        exact m_lret F hQ e_X9_down_57 (⟨G2481, gr2483, h2494, _, rfl⟩)
      · have c27 : n2477 = 0 := (nI_eq (a := n2477) (b := 0) (by omega) (by omega)).mp q27
        refine m_ldc2 F kc_X9_184 e_X9_down_30 ?_
        exact m_lret F hQ e_X9_down_33 (⟨G, (GRel.refl hG), (h2475.mono (M' := M + 1) (Z' := Z) (by omega) (by intro e; first | rfl | assumption | omega)), _, rfl⟩)
set_option maxRecDepth 20000 in
theorem s_X9_putOff (l : Launch) (V : VX) (G : GH) (b M Z T N : Nat) (σ : Mem) (a : Nat) (x901 : Int32) (x902 : Int32) (x903 : Int32) (h0 : HT V G (b, M, Z, T) σ) (hk : kA b a = 1) (hG : okG G) (hM : M + 1 ≤ 1000000000) : Ct l V yX9_putOff cX9_putOff 5 (some .long) 5 0 0 N σ [.ref a, .int x901, .int x902, .int x903] (fun r τ => ∃ G9 : GH, GRel G G9 ∧ HK V G9 (b, M + 1, Z, T) [0, 2, 3, 4, 5, 8, 9, 16] σ τ ∧ ∃ x : Int64, r = some (.long x)) := by
  refine Ct.of (by decide) (Nat.le_of_ble_eq_true rfl) [(0, .ref a), (1, .int x901), (2, .int x902), (3, .int x903)] rfl (fun X hX F hQ => ?_)
  have h1 : HK V G (b, M, Z, T) [0, 2, 3, 4, 5, 8, 9, 16] σ σ := HK.start h0
  refine m_aload_n F rfl e_X9_putOff_0 ?_
  refine m_iload_n F rfl e_X9_putOff_1 ?_
  refine t_callV F e_X9_putOff_2 (s_X9_runningAt (x_l X) V G b M Z T _ _ a x901 h1.1 hk hG (by omega)) cb_X9_runningAt ml_X9_203 im_X9_runningAt se_X9_runningAt (fun _ => o1) h1 hk rfl rfl (rest := []) rfl (Nat.le_of_ble_eq_true rfl) ⟨Nat.le_of_ble_eq_true rfl, Nat.le_of_ble_eq_true rfl⟩ ⟨Nat.le_of_ble_eq_true rfl, Nat.le_of_ble_eq_true rfl⟩ (fun r σ2497 hp => ?_)
  obtain ⟨h2499, c2500⟩ := hp
  have h2498 := HK.trans h1 h2499 (by decide)
  rcases c2500 with rfl | ⟨n2501, r2502, hn2501, en2501, k2503, rfl⟩
  · refine m_astoreN F (lv' := [(4, .null), (0, .ref a), (1, .int x901), (2, .int x902), (3, .int x903)]) e_X9_putOff_5 (by decide) rfl ?_
    refine m_aloadN F rfl e_X9_putOff_7 ?_
    refine m_ifnullN F e_X9_putOff_9 ?_
    refine m_ldc2 F kc_X9_184 e_X9_putOff_44 ?_
    exact m_lret F hQ e_X9_putOff_47 (⟨G, (GRel.refl hG), (h2498.mono (M' := M + 1) (Z' := Z) (by omega) (by intro e; first | rfl | assumption | omega)), _, rfl⟩)
  · subst en2501
    refine m_astore F (lv' := [(4, .ref r2502), (0, .ref a), (1, .int (nI n2501)), (2, .int x902), (3, .int x903)]) e_X9_putOff_5 (by decide) rfl ?_
    refine m_aload F rfl e_X9_putOff_7 ?_
    refine m_ifnullR F e_X9_putOff_9 ?_
    refine m_iload_n F rfl e_X9_putOff_12 ?_
    refine m_aload F rfl e_X9_putOff_13 ?_
    refine t_get F e_X9_putOff_15 fl_X9_255 (fun _ => o15) h2498 k2503 rfl (fun v hv f2504 => ?_)
    obtain ⟨x2505, rfl⟩ := hv
    refine m_icmp_le F e_X9_putOff_18 (fun q18 => ?_) (fun q18 => ?_)
    · refine m_ldc2 F kc_X9_184 e_X9_putOff_44 ?_
      exact m_lret F hQ e_X9_putOff_47 (⟨G, (GRel.refl hG), (h2498.mono (M' := M + 1) (Z' := Z) (by omega) (by intro e; first | rfl | assumption | omega)), _, rfl⟩)
    · refine m_iload_n F rfl e_X9_putOff_21 ?_
      refine m_iload_n F rfl e_X9_putOff_22 ?_
      refine m_icmp_ge F e_X9_putOff_23 (fun q23 => ?_) (fun q23 => ?_)
      · refine m_ldc2 F kc_X9_184 e_X9_putOff_44 ?_
        exact m_lret F hQ e_X9_putOff_47 (⟨G, (GRel.refl hG), (h2498.mono (M' := M + 1) (Z' := Z) (by omega) (by intro e; first | rfl | assumption | omega)), _, rfl⟩)
      · refine m_aload F rfl e_X9_putOff_26 ?_
        refine m_iload_n F rfl e_X9_putOff_28 ?_
        refine t_callV F e_X9_putOff_29 (s_X5_owns (x_l X) V G b M Z T _ _ r2502 x902 h2498.1 k2503  (by omega)) cb_X5_owns ml_X9_161 im_X5_owns se_X5_owns (fun _ => o15) h2498 k2503 rfl rfl (rest := []) rfl (Nat.le_of_ble_eq_true rfl) ⟨Nat.le_of_ble_eq_true rfl, Nat.le_of_ble_eq_true rfl⟩ ⟨Nat.le_of_ble_eq_true rfl, Nat.le_of_ble_eq_true rfl⟩ (fun r σ2506 hp => ?_)
        obtain ⟨h2508, n2509, hn2509, rfl⟩ := hp
        have h2507 := HK.trans h2498 h2508 (by decide)
        refine m_if_eq F e_X9_putOff_32 (fun q32 => ?_) (fun q32 => ?_)
        · have c32 : n2509 = 0 := (nI_eq (a := n2509) (b := 0) (by omega) (by omega)).mp q32
          refine m_ldc2 F kc_X9_184 e_X9_putOff_44 ?_
          exact m_lret F hQ e_X9_putOff_47 (⟨G, (GRel.refl hG), (h2507.mono (M' := M + 1) (Z' := Z) (by omega) (by intro e; first | rfl | assumption | omega)), _, rfl⟩)
        · have c32 : n2509 ≠ 0 := by have hh := mt (nI_eq (a := n2509) (b := 0) (by omega) (by omega)).mpr q32; omega
          refine m_aload F rfl e_X9_putOff_35 ?_
          refine m_iload_n F rfl e_X9_putOff_37 ?_
          refine t_callV F e_X9_putOff_38 (s_X5_owns (x_l X) V G b M Z T _ _ r2502 x903 h2507.1 k2503  (by omega)) cb_X5_owns ml_X9_161 im_X5_owns se_X5_owns (fun _ => o15) h2507 k2503 rfl rfl (rest := []) rfl (Nat.le_of_ble_eq_true rfl) ⟨Nat.le_of_ble_eq_true rfl, Nat.le_of_ble_eq_true rfl⟩ ⟨Nat.le_of_ble_eq_true rfl, Nat.le_of_ble_eq_true rfl⟩ (fun r σ2510 hp => ?_)
          obtain ⟨h2512, n2513, hn2513, rfl⟩ := hp
          have h2511 := HK.trans h2507 h2512 (by decide)
          refine m_if_ne F e_X9_putOff_41 (fun q41 => ?_) (fun q41 => ?_)
          · have c41 : n2513 ≠ 0 := by have hh := mt (nI_eq (a := n2513) (b := 0) (by omega) (by omega)).mpr q41; omega
            refine m_aload_n F rfl e_X9_putOff_48 ?_
            refine t_callV F e_X9_putOff_49 (s_X9_remember (x_l X) V G b M Z T _ _ a  h2511.1 hk hG (by omega)) cb_X9_remember ml_X9_97 im_X9_remember se_X9_remember (fun _ => o1) h2511 hk rfl rfl (rest := []) rfl (Nat.le_of_ble_eq_true rfl) ⟨Nat.le_of_ble_eq_true rfl, Nat.le_of_ble_eq_true rfl⟩ ⟨Nat.le_of_ble_eq_true rfl, Nat.le_of_ble_eq_true rfl⟩ (fun r σ2514 hp => ?_)
            obtain ⟨G2517, gr2518, h2516, rfl⟩ := hp
            have gr2519 := (GRel.refl hG).trans gr2518
            have h2515 := HK.trans h2511 h2516 (by decide)
            refine m_aload F rfl e_X9_putOff_52 ?_
            refine m_iload_n F rfl e_X9_putOff_54 ?_
            refine m_iconst F (v := 1) (by decide) e_X9_putOff_55 ?_
            refine m_isub F e_X9_putOff_56 ?_
            refine Wm.top (fun x2520 _ => ?_)
            refine m_iload_n F rfl e_X9_putOff_57 ?_
            refine m_iconst F (v := 1) (by decide) e_X9_putOff_58 ?_
            refine m_isub F e_X9_putOff_59 ?_
            refine Wm.top (fun x2521 _ => ?_)
            refine t_callV F e_X9_putOff_60 (s_X5_movePayment (x_l X) V G2517 b M Z T _ _ r2502 x2520 x2521 h2515.1 k2503  (by omega)) cb_X5_movePayment ml_X9_258 im_X5_movePayment se_X5_movePayment (fun _ => o15) h2515 k2503 rfl rfl (rest := []) rfl (Nat.le_of_ble_eq_true rfl) ⟨Nat.le_of_ble_eq_true rfl, Nat.le_of_ble_eq_true rfl⟩ ⟨Nat.le_of_ble_eq_true rfl, Nat.le_of_ble_eq_true rfl⟩ (fun r σ2522 hp => ?_)
            obtain ⟨h2524, rfl⟩ := hp
            have h2523 := HK.trans h2515 h2524 (by decide)
            refine m_aload_n F rfl e_X9_putOff_63 ?_
            refine t_get F e_X9_putOff_64 fl_X9_16 (fun _ => o1) h2523 hk rfl (fun v hv f2525 => ?_)
            obtain ⟨r2526, ⟨k2527, er2526⟩, rfl⟩ := hv
            replace er2526 : r2526 = b + 2 + 63 * G2517.bk := er2526
            refine m_iload_n F rfl e_X9_putOff_67 ?_
            refine m_aload F rfl e_X9_putOff_68 ?_
            refine t_callV F e_X9_putOff_70 (s_X2_remeasure (x_l X) V G2517 b M Z T _ _ r2526 (nI n2501) r2502 h2523.1 k2527 k2503 (by omega)) cb_X2_remeasure ml_X9_207 im_X2_remeasure se_X2_remeasure (fun _ => o7) h2523 k2527 rfl rfl (rest := []) rfl (Nat.le_of_ble_eq_true rfl) ⟨Nat.le_of_ble_eq_true rfl, Nat.le_of_ble_eq_true rfl⟩ ⟨Nat.le_of_ble_eq_true rfl, Nat.le_of_ble_eq_true rfl⟩ (fun r σ2528 hp => ?_)
            obtain ⟨h2530, x2531, rfl⟩ := hp
            have h2529 := HK.trans h2523 h2530 (by decide)
            exact m_lret F hQ e_X9_putOff_73 (⟨G2517, gr2519, h2529, _, rfl⟩)
          · have c41 : n2513 = 0 := (nI_eq (a := n2513) (b := 0) (by omega) (by omega)).mp q41
            refine m_ldc2 F kc_X9_184 e_X9_putOff_44 ?_
            exact m_lret F hQ e_X9_putOff_47 (⟨G, (GRel.refl hG), (h2511.mono (M' := M + 1) (Z' := Z) (by omega) (by intro e; first | rfl | assumption | omega)), _, rfl⟩)
set_option maxRecDepth 20000 in
theorem s_X9_become (l : Launch) (V : VX) (G : GH) (b M Z T N : Nat) (σ : Mem) (a : Nat) (x901 : Int32) (h0 : HT V G (b, M, Z, T) σ) (hk : kA b a = 1) (hG : okG G) (hM : M + 0 ≤ 1000000000) : Ct l V yX9_become cX9_become 3 (some .int) 5 0 0 N σ [.ref a, .int x901] (fun r τ => ∃ G9 : GH, GRel G G9 ∧ HK V G9 (b, M, Z, T) [0, 2, 3, 4, 5, 8, 9, 16] σ τ ∧ ∃ x : Int32, r = some (.int x)) := by
  refine Ct.of (by decide) (Nat.le_of_ble_eq_true rfl) [(0, .ref a), (1, .int x901)] rfl (fun X hX F hQ => ?_)
  have h1 : HK V G (b, M, Z, T) [0, 2, 3, 4, 5, 8, 9, 16] σ σ := HK.start h0
  refine m_iload_n F rfl e_X9_become_0 ?_
  refine m_callS F e_X9_become_1 (s_X9_isIndex (x_l X) V G b M Z T _ _ x901 h1.1  (by omega)) cb_X9_isIndex ml_X9_262 sm_X9_isIndex rfl (rest := []) rfl (Nat.le_of_ble_eq_true rfl) ⟨Nat.le_of_ble_eq_true rfl, Nat.le_of_ble_eq_true rfl⟩ ⟨Nat.le_of_ble_eq_true rfl, Nat.le_of_ble_eq_true rfl⟩ (k' := 0) (z' := 0) (N' := N) rfl rfl rfl (fun r σ2532 hp => ?_)
  obtain ⟨h2534, n2535, hn2535, rfl⟩ := hp
  have h2533 := HK.trans h1 h2534 (by decide)
  refine m_if_ne F e_X9_become_4 (fun q4 => ?_) (fun q4 => ?_)
  · have c4 : n2535 ≠ 0 := by have hh := mt (nI_eq (a := n2535) (b := 0) (by omega) (by omega)).mpr q4; omega
    refine m_aload_n F rfl e_X9_become_9 ?_
    refine t_callV F e_X9_become_10 (s_X9_remember (x_l X) V G b M Z T _ _ a  h2533.1 hk hG (by omega)) cb_X9_remember ml_X9_97 im_X9_remember se_X9_remember (fun _ => o1) h2533 hk rfl rfl (rest := []) rfl (Nat.le_of_ble_eq_true rfl) ⟨Nat.le_of_ble_eq_true rfl, Nat.le_of_ble_eq_true rfl⟩ ⟨Nat.le_of_ble_eq_true rfl, Nat.le_of_ble_eq_true rfl⟩ (fun r σ2536 hp => ?_)
    obtain ⟨G2539, gr2540, h2538, rfl⟩ := hp
    have gr2541 := (GRel.refl hG).trans gr2540
    have h2537 := HK.trans h2533 h2538 (by decide)
    refine m_aload_n F rfl e_X9_become_13 ?_
    refine t_get F e_X9_become_14 fl_X9_16 (fun _ => o1) h2537 hk rfl (fun v hv f2542 => ?_)
    obtain ⟨r2543, ⟨k2544, er2543⟩, rfl⟩ := hv
    replace er2543 : r2543 = b + 2 + 63 * G2539.bk := er2543
    refine t_callV F e_X9_become_17 (s_X2_indexNow (x_l X) V G2539 b M Z T _ _ r2543  h2537.1 k2544  (by omega)) cb_X2_indexNow ml_X9_265 im_X2_indexNow se_X2_indexNow (fun _ => o7) h2537 k2544 rfl rfl (rest := []) rfl (Nat.le_of_ble_eq_true rfl) ⟨Nat.le_of_ble_eq_true rfl, Nat.le_of_ble_eq_true rfl⟩ ⟨Nat.le_of_ble_eq_true rfl, Nat.le_of_ble_eq_true rfl⟩ (fun r σ2545 hp => ?_)
    obtain ⟨h2547, x2548, rfl⟩ := hp
    have h2546 := HK.trans h2537 h2547 (by decide)
    refine m_istore_n F (lv' := [(2, .int x2548), (0, .ref a), (1, .int x901)]) e_X9_become_20 (by decide) rfl ?_
    refine m_aload_n F rfl e_X9_become_21 ?_
    refine t_getC F e_X9_become_22 fl_X9_16 (fun _ => o1) h2546 hk ((fld_eq (h2547.2 a (by rw [show kA _ a = 1 from hk]; decide))).trans f2542) ?_
    refine m_iload_n F rfl e_X9_become_25 ?_
    refine t_callV F e_X9_become_26 (s_X2_changeIndex (x_l X) V G2539 b M Z T _ _ r2543 x901 h2546.1 k2544  (by omega)) cb_X2_changeIndex ml_X9_268 im_X2_changeIndex se_X2_changeIndex (fun _ => o7) h2546 k2544 rfl rfl (rest := []) rfl (Nat.le_of_ble_eq_true rfl) ⟨Nat.le_of_ble_eq_true rfl, Nat.le_of_ble_eq_true rfl⟩ ⟨Nat.le_of_ble_eq_true rfl, Nat.le_of_ble_eq_true rfl⟩ (fun r σ2549 hp => ?_)
    obtain ⟨h2551, rfl⟩ := hp
    have h2550 := HK.trans h2546 h2551 (by decide)
    refine m_iload_n F rfl e_X9_become_29 ?_
    exact m_iret F hQ e_X9_become_30 (⟨G2539, gr2541, h2550, _, rfl⟩)
  · have c4 : n2535 = 0 := (nI_eq (a := n2535) (b := 0) (by omega) (by omega)).mp q4
    refine m_iconst F (v := (-1)) (by decide) e_X9_become_7 ?_
    exact m_iret F hQ e_X9_become_8 (⟨G, (GRel.refl hG), h2533, _, rfl⟩)
set_option maxRecDepth 20000 in
theorem s_X9_plan (l : Launch) (V : VX) (G : GH) (b M Z T N : Nat) (σ : Mem) (a : Nat) (x901 : Int32) (x902 : Int32) (x903 : Int32) (h0 : HT V G (b, M, Z, T) σ) (hk : kA b a = 1) (hG : okG G) (hM : M + 648 ≤ 1000000000) : Ct l V yX9_plan cX9_plan 6 (some .long) 7 0 0 N σ [.ref a, .int x901, .int x902, .int x903] (fun r τ => HK V G (b, M + 648, Z, T) [0, 1, 2, 3, 4, 5, 8, 9, 16] σ τ ∧ ∃ x : Int64, r = some (.long x)) := by
  refine Ct.of (by decide) (Nat.le_of_ble_eq_true rfl) [(0, .ref a), (1, .int x901), (2, .int x902), (3, .int x903)] rfl (fun X hX F hQ => ?_)
  have h1 : HK V G (b, M, Z, T) [0, 1, 2, 3, 4, 5, 8, 9, 16] σ σ := HK.start h0
  refine m_aload_n F rfl e_X9_plan_0 ?_
  refine m_iload_n F rfl e_X9_plan_1 ?_
  refine t_callV F e_X9_plan_2 (s_X9_leaseAt (x_l X) V G b M Z T _ _ a x901 h1.1 hk hG (by omega)) cb_X9_leaseAt ml_X9_103 im_X9_leaseAt se_X9_leaseAt (fun _ => o1) h1 hk rfl rfl (rest := []) rfl (Nat.le_of_ble_eq_true rfl) ⟨Nat.le_of_ble_eq_true rfl, Nat.le_of_ble_eq_true rfl⟩ ⟨Nat.le_of_ble_eq_true rfl, Nat.le_of_ble_eq_true rfl⟩ (fun r σ2552 hp => ?_)
  obtain ⟨h2554, c2555⟩ := hp
  have h2553 := HK.trans h1 h2554 (by decide)
  rcases c2555 with rfl | ⟨n2556, r2557, hn2556, en2556, k2558, rfl⟩
  · refine m_astoreN F (lv' := [(4, .null), (0, .ref a), (1, .int x901), (2, .int x902), (3, .int x903)]) e_X9_plan_5 (by decide) rfl ?_
    refine m_aloadN F rfl e_X9_plan_7 ?_
    refine m_ifnullN F e_X9_plan_9 ?_
    refine m_ldc2 F kc_X9_149 e_X9_plan_31 ?_
    exact m_lret F hQ e_X9_plan_34 (⟨(h2553.mono (M' := M + 648) (Z' := Z) (by omega) (by intro e; first | rfl | assumption | omega)), _, rfl⟩)
  · subst en2556
    refine m_astore F (lv' := [(4, .ref r2557), (0, .ref a), (1, .int (nI n2556)), (2, .int x902), (3, .int x903)]) e_X9_plan_5 (by decide) rfl ?_
    refine m_aload F rfl e_X9_plan_7 ?_
    refine m_ifnullR F e_X9_plan_9 ?_
    refine m_iload_n F rfl e_X9_plan_12 ?_
    refine m_if_lt F e_X9_plan_13 (fun q13 => ?_) (fun q13 => ?_)
    · refine m_ldc2 F kc_X9_149 e_X9_plan_31 ?_
      exact m_lret F hQ e_X9_plan_34 (⟨(h2553.mono (M' := M + 648) (Z' := Z) (by omega) (by intro e; first | rfl | assumption | omega)), _, rfl⟩)
    · obtain ⟨n2559, hn2559, rfl⟩ := nI_nn (x := x902) (fun e => q13 (Int32.lt_of_lt_of_le e (by decide)))
      have c13 : n2559 ≥ 0 := by have hh := mt (nI_ltI (a := n2559) (b := 0) (by omega) (by omega)).mpr q13; omega
      refine m_iload_n F rfl e_X9_plan_16 ?_
      refine m_bipush F (v := 72) (by decide) e_X9_plan_17 ?_
      refine m_icmp_gt F e_X9_plan_19 (fun q19 => ?_) (fun q19 => ?_)
      · have c19 : n2559 > 72 := (nI_ltI (a := 72) (b := n2559) (by omega) (by omega)).mp q19
        refine m_ldc2 F kc_X9_149 e_X9_plan_31 ?_
        exact m_lret F hQ e_X9_plan_34 (⟨(h2553.mono (M' := M + 648) (Z' := Z) (by omega) (by intro e; first | rfl | assumption | omega)), _, rfl⟩)
      · have c19 : n2559 ≤ 72 := by have hh := mt (nI_ltI (a := 72) (b := n2559) (by omega) (by omega)).mpr q19; omega
        refine m_iload_n F rfl e_X9_plan_22 ?_
        refine m_if_lt F e_X9_plan_23 (fun q23 => ?_) (fun q23 => ?_)
        · refine m_ldc2 F kc_X9_149 e_X9_plan_31 ?_
          exact m_lret F hQ e_X9_plan_34 (⟨(h2553.mono (M' := M + 648) (Z' := Z) (by omega) (by intro e; first | rfl | assumption | omega)), _, rfl⟩)
        · obtain ⟨n2560, hn2560, rfl⟩ := nI_nn (x := x903) (fun e => q23 (Int32.lt_of_lt_of_le e (by decide)))
          have c23 : n2560 ≥ 0 := by have hh := mt (nI_ltI (a := n2560) (b := 0) (by omega) (by omega)).mpr q23; omega
          refine m_iload_n F rfl e_X9_plan_26 ?_
          refine m_iconst F (v := 3) (by decide) e_X9_plan_27 ?_
          refine m_icmp_le F e_X9_plan_28 (fun q28 => ?_) (fun q28 => ?_)
          · have c28 : n2560 ≤ 3 := (nI_leI (a := n2560) (b := 3) (by omega) (by omega)).mp q28
            refine m_aload_n F rfl e_X9_plan_35 ?_
            refine m_iload_n F rfl e_X9_plan_36 ?_
            refine t_callV F e_X9_plan_37 (s_X9_bookIn (x_l X) V G b M Z T _ _ a n2559 h2553.1 hk (by omega) hG (by omega)) cb_X9_bookIn ml_X9_271 im_X9_bookIn se_X9_bookIn (fun _ => o1) h2553 hk rfl rfl (rest := []) rfl (Nat.le_of_ble_eq_true rfl) ⟨Nat.le_of_ble_eq_true rfl, Nat.le_of_ble_eq_true rfl⟩ ⟨Nat.le_of_ble_eq_true rfl, Nat.le_of_ble_eq_true rfl⟩ (fun r σ2561 hp => ?_)
            obtain ⟨h2563, r2564, k2565, rfl⟩ := hp
            have h2562 := HK.trans h2553 h2563 (by decide)
            refine t_get F e_X9_plan_40 fl_X9_226 (fun _ => o7) h2562 k2565 rfl (fun v hv f2566 => ?_)
            obtain rfl : v = .ref (r2564 + 1) := hv
            refine m_iload_n F rfl e_X9_plan_43 ?_
            refine t_aald8 F (j := n2556) e_X9_plan_44 rfl h2562 (kA_7 k2565 (r := 1) (by decide)) (nI_clamp (by omega)) (vp_in_nI (by omega) (by decide)) ?_
            refine m_astore F (lv' := [(5, .ref ((r2564 + 1) + 10 + 12 * n2556)), (4, .ref r2557), (0, .ref a), (1, .int (nI n2556)), (2, .int (nI n2559)), (3, .int (nI n2560))]) e_X9_plan_45 (by decide) rfl ?_
            refine m_iload_n F rfl e_X9_plan_47 ?_
            by_cases ho48 : (nI n2560 : Int32).toInt < 0 ∨ 2 < (nI n2560 : Int32).toInt
            · refine m_tableOut F e_X9_plan_48 ho48 (tgt := 110) (by decide) ?_
              refine m_aload F rfl e_X9_plan_110 ?_
              refine t_get F e_X9_plan_112 fl_X9_275 (fun _ => o15) h2562 (kA_8 (kA_7 k2565 (r := 1) (by decide)) (j := n2556) (by omega)) rfl (fun v hv f2567 => ?_)
              obtain ⟨r2568, k2569, rfl⟩ := hv
              refine m_iconst F (v := 1) (by decide) e_X9_plan_115 ?_
              refine t_lald F (len := 5) (j := 1) e_X9_plan_116 (fun _ => o18) h2562 k2569 (by decide) (by unfold vp_in; decide) (fun x2570 => ?_)
              refine m_aload F rfl e_X9_plan_117 ?_
              refine t_get F e_X9_plan_119 fl_X9_275 (fun _ => o15) h2562 k2558 rfl (fun v hv f2571 => ?_)
              obtain ⟨r2572, k2573, rfl⟩ := hv
              refine m_iconst F (v := 1) (by decide) e_X9_plan_122 ?_
              refine t_lald F (len := 5) (j := 1) e_X9_plan_123 (fun _ => o18) h2562 k2573 (by decide) (by unfold vp_in; decide) (fun x2574 => ?_)
              refine m_lsub F e_X9_plan_124 ?_
              refine Wm.topl (fun x2575 _ => ?_)
              exact m_lret F hQ e_X9_plan_125 (⟨h2562, _, rfl⟩)
            have hs48 : (nI n2560 : Int32).toInt = 0 ∨ (nI n2560 : Int32).toInt = 1 ∨ (nI n2560 : Int32).toInt = 2 := by omega
            rcases hs48 with hv | hv | hv
            · refine m_tableIn F e_X9_plan_48 (by omega) (by omega) (off := 28) (tgt := 76) (by rw [hv]; rfl) (by decide) ?_
              refine m_aload F rfl e_X9_plan_76 ?_
              refine t_get F e_X9_plan_78 fl_X9_151 (fun _ => o15) h2562 (kA_8 (kA_7 k2565 (r := 1) (by decide)) (j := n2556) (by omega)) rfl (fun v hv f2576 => ?_)
              obtain ⟨r2577, k2578, rfl⟩ := hv
              refine t_callV F e_X9_plan_81 (s_X1_asLong (x_l X) V G b (M + 648) Z T _ _ r2577  h2562.1 k2578  (by omega)) cb_X1_asLong ml_X9_157 im_X1_asLong se_X1_asLong (fun _ => o6) h2562 k2578 rfl rfl (rest := []) rfl (Nat.le_of_ble_eq_true rfl) ⟨Nat.le_of_ble_eq_true rfl, Nat.le_of_ble_eq_true rfl⟩ ⟨Nat.le_of_ble_eq_true rfl, Nat.le_of_ble_eq_true rfl⟩ (fun r σ2579 hp => ?_)
              obtain ⟨h2581, x2582, rfl⟩ := hp
              have h2580 := HK.trans h2562 h2581 (by decide)
              exact m_lret F hQ e_X9_plan_84 (⟨h2580, _, rfl⟩)
            · refine m_tableIn F e_X9_plan_48 (by omega) (by omega) (off := 37) (tgt := 85) (by rw [hv]; rfl) (by decide) ?_
              refine m_aload F rfl e_X9_plan_85 ?_
              refine t_get F e_X9_plan_87 fl_X9_154 (fun _ => o15) h2562 (kA_8 (kA_7 k2565 (r := 1) (by decide)) (j := n2556) (by omega)) rfl (fun v hv f2583 => ?_)
              obtain ⟨r2584, k2585, rfl⟩ := hv
              refine t_callV F e_X9_plan_90 (s_X1_asLong (x_l X) V G b (M + 648) Z T _ _ r2584  h2562.1 k2585  (by omega)) cb_X1_asLong ml_X9_157 im_X1_asLong se_X1_asLong (fun _ => o6) h2562 k2585 rfl rfl (rest := []) rfl (Nat.le_of_ble_eq_true rfl) ⟨Nat.le_of_ble_eq_true rfl, Nat.le_of_ble_eq_true rfl⟩ ⟨Nat.le_of_ble_eq_true rfl, Nat.le_of_ble_eq_true rfl⟩ (fun r σ2586 hp => ?_)
              obtain ⟨h2588, x2589, rfl⟩ := hp
              have h2587 := HK.trans h2562 h2588 (by decide)
              exact m_lret F hQ e_X9_plan_93 (⟨h2587, _, rfl⟩)
            · refine m_tableIn F e_X9_plan_48 (by omega) (by omega) (off := 46) (tgt := 94) (by rw [hv]; rfl) (by decide) ?_
              refine m_aload F rfl e_X9_plan_94 ?_
              refine t_get F e_X9_plan_96 fl_X9_275 (fun _ => o15) h2562 (kA_8 (kA_7 k2565 (r := 1) (by decide)) (j := n2556) (by omega)) rfl (fun v hv f2590 => ?_)
              obtain ⟨r2591, k2592, rfl⟩ := hv
              refine m_iconst F (v := 2) (by decide) e_X9_plan_99 ?_
              refine t_lald F (len := 5) (j := 2) e_X9_plan_100 (fun _ => o18) h2562 k2592 (by decide) (by unfold vp_in; decide) (fun x2593 => ?_)
              refine m_aload F rfl e_X9_plan_101 ?_
              refine t_get F e_X9_plan_103 fl_X9_275 (fun _ => o15) h2562 k2558 rfl (fun v hv f2594 => ?_)
              obtain ⟨r2595, k2596, rfl⟩ := hv
              refine m_iconst F (v := 2) (by decide) e_X9_plan_106 ?_
              refine t_lald F (len := 5) (j := 2) e_X9_plan_107 (fun _ => o18) h2562 k2596 (by decide) (by unfold vp_in; decide) (fun x2597 => ?_)
              refine m_lsub F e_X9_plan_108 ?_
              refine Wm.topl (fun x2598 _ => ?_)
              exact m_lret F hQ e_X9_plan_109 (⟨h2562, _, rfl⟩)
          · have c28 : n2560 > 3 := by have hh := mt (nI_leI (a := n2560) (b := 3) (by omega) (by omega)).mpr q28; omega
            refine m_ldc2 F kc_X9_149 e_X9_plan_31 ?_
            exact m_lret F hQ e_X9_plan_34 (⟨(h2553.mono (M' := M + 648) (Z' := Z) (by omega) (by intro e; first | rfl | assumption | omega)), _, rfl⟩)
set_option maxRecDepth 20000 in
theorem s_X9_all (l : Launch) (V : VX) (G : GH) (b M Z T N : Nat) (σ : Mem) (a : Nat) (x901 : Int32) (h0 : HT V G (b, M, Z, T) σ) (hk : kA b a = 1) (hG : okG G) (hM : M + 648 ≤ 1000000000) : Ct l V yX9_all cX9_all 2 (some .long) 7 0 0 N σ [.ref a, .int x901] (fun r τ => HK V G (b, M + 648, Z, T) [0, 1, 2, 3, 4, 5, 8, 9, 16] σ τ ∧ ∃ x : Int64, r = some (.long x)) := by
  refine Ct.of (by decide) (Nat.le_of_ble_eq_true rfl) [(0, .ref a), (1, .int x901)] rfl (fun X hX F hQ => ?_)
  have h1 : HK V G (b, M, Z, T) [0, 1, 2, 3, 4, 5, 8, 9, 16] σ σ := HK.start h0
  refine m_iload_n F rfl e_X9_all_0 ?_
  refine m_if_lt F e_X9_all_1 (fun q1 => ?_) (fun q1 => ?_)
  · refine m_ldc2 F kc_X9_149 e_X9_all_10 ?_
    exact m_lret F hQ e_X9_all_13 (⟨(h1.mono (M' := M + 648) (Z' := Z) (by omega) (by intro e; first | rfl | assumption | omega)), _, rfl⟩)
  · obtain ⟨n2599, hn2599, rfl⟩ := nI_nn (x := x901) (fun e => q1 (Int32.lt_of_lt_of_le e (by decide)))
    have c1 : n2599 ≥ 0 := by have hh := mt (nI_ltI (a := n2599) (b := 0) (by omega) (by omega)).mpr q1; omega
    refine m_iload_n F rfl e_X9_all_4 ?_
    refine m_bipush F (v := 72) (by decide) e_X9_all_5 ?_
    refine m_icmp_le F e_X9_all_7 (fun q7 => ?_) (fun q7 => ?_)
    · have c7 : n2599 ≤ 72 := (nI_leI (a := n2599) (b := 72) (by omega) (by omega)).mp q7
      refine m_aload_n F rfl e_X9_all_14 ?_
      refine m_iload_n F rfl e_X9_all_15 ?_
      refine t_callV F e_X9_all_16 (s_X9_bookIn (x_l X) V G b M Z T _ _ a n2599 h1.1 hk (by omega) hG (by omega)) cb_X9_bookIn ml_X9_271 im_X9_bookIn se_X9_bookIn (fun _ => o1) h1 hk rfl rfl (rest := []) rfl (Nat.le_of_ble_eq_true rfl) ⟨Nat.le_of_ble_eq_true rfl, Nat.le_of_ble_eq_true rfl⟩ ⟨Nat.le_of_ble_eq_true rfl, Nat.le_of_ble_eq_true rfl⟩ (fun r σ2600 hp => ?_)
      obtain ⟨h2602, r2603, k2604, rfl⟩ := hp
      have h2601 := HK.trans h1 h2602 (by decide)
      refine m_aload_n F rfl e_X9_all_19 ?_
      refine t_get F e_X9_all_20 fl_X9_42 (fun _ => o1) h2601 hk rfl (fun v hv f2605 => ?_)
      obtain ⟨r2606, k2607, rfl⟩ := hv
      refine t_callV F e_X9_all_23 (s_X2_countAllOwed (x_l X) V G b (M + 648) Z T _ _ r2603 r2606 h2601.1 k2604 k2607 (by omega)) cb_X2_countAllOwed ml_X9_278 im_X2_countAllOwed se_X2_countAllOwed (fun _ => o7) h2601 k2604 rfl rfl (rest := []) rfl (Nat.le_of_ble_eq_true rfl) ⟨Nat.le_of_ble_eq_true rfl, Nat.le_of_ble_eq_true rfl⟩ ⟨Nat.le_of_ble_eq_true rfl, Nat.le_of_ble_eq_true rfl⟩ (fun r σ2608 hp => ?_)
      obtain ⟨h2610, rfl⟩ := hp
      have h2609 := HK.trans h2601 h2610 (by decide)
      refine m_aload_n F rfl e_X9_all_26 ?_
      refine t_getC F e_X9_all_27 fl_X9_42 (fun _ => o1) h2609 hk ((fld_eq (h2610.2 a (by rw [show kA _ a = 1 from hk]; decide))).trans f2605) ?_
      refine t_callV F e_X9_all_30 (s_X1_asLong (x_l X) V G b (M + 648) Z T _ _ r2606  h2609.1 k2607  (by omega)) cb_X1_asLong ml_X9_157 im_X1_asLong se_X1_asLong (fun _ => o6) h2609 k2607 rfl rfl (rest := []) rfl (Nat.le_of_ble_eq_true rfl) ⟨Nat.le_of_ble_eq_true rfl, Nat.le_of_ble_eq_true rfl⟩ ⟨Nat.le_of_ble_eq_true rfl, Nat.le_of_ble_eq_true rfl⟩ (fun r σ2611 hp => ?_)
      obtain ⟨h2613, x2614, rfl⟩ := hp
      have h2612 := HK.trans h2609 h2613 (by decide)
      exact m_lret F hQ e_X9_all_33 (⟨h2612, _, rfl⟩)
    · have c7 : n2599 > 72 := by have hh := mt (nI_leI (a := n2599) (b := 72) (by omega) (by omega)).mpr q7; omega
      refine m_ldc2 F kc_X9_149 e_X9_all_10 ?_
      exact m_lret F hQ e_X9_all_13 (⟨(h1.mono (M' := M + 648) (Z' := Z) (by omega) (by intro e; first | rfl | assumption | omega)), _, rfl⟩)
set_option maxRecDepth 20000 in
theorem s_X9_soon (l : Launch) (V : VX) (G : GH) (b M Z T N : Nat) (σ : Mem) (a : Nat) (x901 : Int32) (x902 : Int32) (h0 : HT V G (b, M, Z, T) σ) (hk : kA b a = 1) (hG : okG G) (hM : M + 648 ≤ 1000000000) : Ct l V yX9_soon cX9_soon 6 (some .long) 7 0 0 N σ [.ref a, .int x901, .int x902] (fun r τ => HK V G (b, M + 648, Z, T) [0, 1, 2, 3, 4, 5, 8, 9, 16] σ τ ∧ ∃ x : Int64, r = some (.long x)) := by
  refine Ct.of (by decide) (Nat.le_of_ble_eq_true rfl) [(0, .ref a), (1, .int x901), (2, .int x902)] rfl (fun X hX F hQ => ?_)
  have h1 : HK V G (b, M, Z, T) [0, 1, 2, 3, 4, 5, 8, 9, 16] σ σ := HK.start h0
  refine m_aload_n F rfl e_X9_soon_0 ?_
  refine m_iload_n F rfl e_X9_soon_1 ?_
  refine t_callV F e_X9_soon_2 (s_X9_leaseAt (x_l X) V G b M Z T _ _ a x901 h1.1 hk hG (by omega)) cb_X9_leaseAt ml_X9_103 im_X9_leaseAt se_X9_leaseAt (fun _ => o1) h1 hk rfl rfl (rest := []) rfl (Nat.le_of_ble_eq_true rfl) ⟨Nat.le_of_ble_eq_true rfl, Nat.le_of_ble_eq_true rfl⟩ ⟨Nat.le_of_ble_eq_true rfl, Nat.le_of_ble_eq_true rfl⟩ (fun r σ2615 hp => ?_)
  obtain ⟨h2617, c2618⟩ := hp
  have h2616 := HK.trans h1 h2617 (by decide)
  rcases c2618 with rfl | ⟨n2619, r2620, hn2619, en2619, k2621, rfl⟩
  · refine m_astore_nN F (lv' := [(3, .null), (0, .ref a), (1, .int x901), (2, .int x902)]) e_X9_soon_5 (by decide) rfl ?_
    refine m_aload_nN F rfl e_X9_soon_6 ?_
    refine m_ifnullN F e_X9_soon_7 ?_
    refine m_ldc2 F kc_X9_149 e_X9_soon_19 ?_
    exact m_lret F hQ e_X9_soon_22 (⟨(h2616.mono (M' := M + 648) (Z' := Z) (by omega) (by intro e; first | rfl | assumption | omega)), _, rfl⟩)
  · subst en2619
    refine m_astore_n F (lv' := [(3, .ref r2620), (0, .ref a), (1, .int (nI n2619)), (2, .int x902)]) e_X9_soon_5 (by decide) rfl ?_
    refine m_aload_n F rfl e_X9_soon_6 ?_
    refine m_ifnullR F e_X9_soon_7 ?_
    refine m_iload_n F rfl e_X9_soon_10 ?_
    refine m_if_lt F e_X9_soon_11 (fun q11 => ?_) (fun q11 => ?_)
    · refine m_ldc2 F kc_X9_149 e_X9_soon_19 ?_
      exact m_lret F hQ e_X9_soon_22 (⟨(h2616.mono (M' := M + 648) (Z' := Z) (by omega) (by intro e; first | rfl | assumption | omega)), _, rfl⟩)
    · obtain ⟨n2622, hn2622, rfl⟩ := nI_nn (x := x902) (fun e => q11 (Int32.lt_of_lt_of_le e (by decide)))
      have c11 : n2622 ≥ 0 := by have hh := mt (nI_ltI (a := n2622) (b := 0) (by omega) (by omega)).mpr q11; omega
      refine m_iload_n F rfl e_X9_soon_14 ?_
      refine m_iconst F (v := 1) (by decide) e_X9_soon_15 ?_
      refine m_icmp_le F e_X9_soon_16 (fun q16 => ?_) (fun q16 => ?_)
      · have c16 : n2622 ≤ 1 := (nI_leI (a := n2622) (b := 1) (by omega) (by omega)).mp q16
        refine m_aload_n F rfl e_X9_soon_23 ?_
        refine m_bipush F (v := 12) (by decide) e_X9_soon_24 ?_
        refine t_callV F e_X9_soon_26 (s_X9_bookIn (x_l X) V G b M Z T _ _ a 12 h2616.1 hk (by omega) hG (by omega)) cb_X9_bookIn ml_X9_271 im_X9_bookIn se_X9_bookIn (fun _ => o1) h2616 hk rfl rfl (rest := []) rfl (Nat.le_of_ble_eq_true rfl) ⟨Nat.le_of_ble_eq_true rfl, Nat.le_of_ble_eq_true rfl⟩ ⟨Nat.le_of_ble_eq_true rfl, Nat.le_of_ble_eq_true rfl⟩ (fun r σ2623 hp => ?_)
        obtain ⟨h2625, r2626, k2627, rfl⟩ := hp
        have h2624 := HK.trans h2616 h2625 (by decide)
        refine t_get F e_X9_soon_29 fl_X9_226 (fun _ => o7) h2624 k2627 rfl (fun v hv f2628 => ?_)
        obtain rfl : v = .ref (r2626 + 1) := hv
        refine m_iload_n F rfl e_X9_soon_32 ?_
        refine t_aald8 F (j := n2619) e_X9_soon_33 rfl h2624 (kA_7 k2627 (r := 1) (by decide)) (nI_clamp (by omega)) (vp_in_nI (by omega) (by decide)) ?_
        refine t_get F e_X9_soon_34 fl_X9_151 (fun _ => o15) h2624 (kA_8 (kA_7 k2627 (r := 1) (by decide)) (j := n2619) (by omega)) rfl (fun v hv f2629 => ?_)
        obtain ⟨r2630, k2631, rfl⟩ := hv
        refine t_callV F e_X9_soon_37 (s_X1_asLong (x_l X) V G b (M + 648) Z T _ _ r2630  h2624.1 k2631  (by omega)) cb_X1_asLong ml_X9_157 im_X1_asLong se_X1_asLong (fun _ => o6) h2624 k2631 rfl rfl (rest := []) rfl (Nat.le_of_ble_eq_true rfl) ⟨Nat.le_of_ble_eq_true rfl, Nat.le_of_ble_eq_true rfl⟩ ⟨Nat.le_of_ble_eq_true rfl, Nat.le_of_ble_eq_true rfl⟩ (fun r σ2632 hp => ?_)
        obtain ⟨h2634, x2635, rfl⟩ := hp
        have h2633 := HK.trans h2624 h2634 (by decide)
        refine m_lstore F (lv' := [(4, .long x2635), (3, .ref r2620), (0, .ref a), (1, .int (nI n2619)), (2, .int (nI n2622))]) e_X9_soon_40 (by decide) rfl ?_
        refine m_iload_n F rfl e_X9_soon_42 ?_
        refine m_if_ne F e_X9_soon_43 (fun q43 => ?_) (fun q43 => ?_)
        · have c43 : n2622 ≠ 0 := by have hh := mt (nI_eq (a := n2622) (b := 0) (by omega) (by omega)).mpr q43; omega
          refine m_lload F rfl e_X9_soon_59 ?_
          exact m_lret F hQ e_X9_soon_61 (⟨h2633, _, rfl⟩)
        · have c43 : n2622 = 0 := (nI_eq (a := n2622) (b := 0) (by omega) (by omega)).mp q43
          refine m_aload_n F rfl e_X9_soon_46 ?_
          refine t_get F e_X9_soon_47 fl_X9_151 (fun _ => o15) h2633 k2621 rfl (fun v hv f2636 => ?_)
          obtain ⟨r2637, k2638, rfl⟩ := hv
          refine t_callV F e_X9_soon_50 (s_X1_asLong (x_l X) V G b (M + 648) Z T _ _ r2637  h2633.1 k2638  (by omega)) cb_X1_asLong ml_X9_157 im_X1_asLong se_X1_asLong (fun _ => o6) h2633 k2638 rfl rfl (rest := []) rfl (Nat.le_of_ble_eq_true rfl) ⟨Nat.le_of_ble_eq_true rfl, Nat.le_of_ble_eq_true rfl⟩ ⟨Nat.le_of_ble_eq_true rfl, Nat.le_of_ble_eq_true rfl⟩ (fun r σ2639 hp => ?_)
          obtain ⟨h2641, x2642, rfl⟩ := hp
          have h2640 := HK.trans h2633 h2641 (by decide)
          refine m_lload F rfl e_X9_soon_53 ?_
          refine m_lsub F e_X9_soon_55 ?_
          refine Wm.topl (fun x2643 _ => ?_)
          refine m_goto F e_X9_soon_56 ?_
          exact m_lret F hQ e_X9_soon_61 (⟨h2640, _, rfl⟩)
      · have c16 : n2622 > 1 := by have hh := mt (nI_leI (a := n2622) (b := 1) (by omega) (by omega)).mpr q16; omega
        refine m_ldc2 F kc_X9_149 e_X9_soon_19 ?_
        exact m_lret F hQ e_X9_soon_22 (⟨(h2616.mono (M' := M + 648) (Z' := Z) (by omega) (by intro e; first | rfl | assumption | omega)), _, rfl⟩)
