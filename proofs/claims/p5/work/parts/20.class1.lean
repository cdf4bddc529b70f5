set_option maxRecDepth 20000 in
theorem s_J7_rangeCheck_23922 (l : Launch) (V : VX) (G : GH) (b M Z T N : Nat) (σ : Mem) (n901 : Nat) (n902 : Nat) (n903 : Nat) (h0 : HT V G (b, M, Z, T) σ) (hn901 : n901 ≤ 2147483647) (hn902 : n902 ≤ 2147483647) (hn903 : n903 ≤ 2147483647) (hp0 : n902 ≤ n903) (hp1 : n903 ≤ n901) (hM : M + 0 ≤ 1000000000) : Ct l V yJ7_rangeCheck_23922 cJ7_rangeCheck_23922 3 none 1 0 0 N σ [.int (nI n901), .int (nI n902), .int (nI n903)] (fun r τ => HK V G (b, M, Z, T) [0, 1, 2, 3, 4, 5, 6, 7, 8, 9, 10, 11, 12, 13, 14, 15, 16, 17, 18, 19] σ τ ∧ r = none) := by
  refine Ct.of (by decide) (Nat.le_of_ble_eq_true rfl) [(0, .int (nI n901)), (1, .int (nI n902)), (2, .int (nI n903))] rfl (fun X hX F hQ => ?_)
  have h1 : HK V G (b, M, Z, T) [0, 1, 2, 3, 4, 5, 6, 7, 8, 9, 10, 11, 12, 13, 14, 15, 16, 17, 18, 19] σ σ := HK.start h0
  refine m_iload_n F rfl e_J7_rangeCheck_23922_0 ?_
  refine m_iload_n F rfl e_J7_rangeCheck_23922_1 ?_
  refine m_icmp_le F e_J7_rangeCheck_23922_2 (fun q2 => ?_) (fun q2 => ?_)
  · have c2 : n902 ≤ n903 := (nI_leI (a := n902) (b := n903) (by omega) (by omega)).mp q2
    refine m_iload_n F rfl e_J7_rangeCheck_23922_46 ?_
    refine m_if_ge F e_J7_rangeCheck_23922_47 (fun q47 => ?_) (fun q47 => ?_)
    · have c47 : n902 ≥ 0 := (nI_leI (a := 0) (b := n902) (by omega) (by omega)).mp q47
      refine m_iload_n F rfl e_J7_rangeCheck_23922_59 ?_
      refine m_iload_n F rfl e_J7_rangeCheck_23922_60 ?_
      refine m_icmp_le F e_J7_rangeCheck_23922_61 (fun q61 => ?_) (fun q61 => ?_)
      · have c61 : n903 ≤ n901 := (nI_leI (a := n903) (b := n901) (by omega) (by omega)).mp q61
        exact m_vret F hQ e_J7_rangeCheck_23922_73 (⟨h1, rfl⟩)
      · have c61 : n903 > n901 := by have hh := mt (nI_leI (a := n903) (b := n901) (by omega) (by omega)).mpr q61; omega
        exfalso; omega
    · have c47 : n902 < 0 := by have hh := mt (nI_leI (a := 0) (b := n902) (by omega) (by omega)).mpr q47; omega
      exfalso; omega
  · have c2 : n902 > n903 := by have hh := mt (nI_leI (a := n902) (b := n903) (by omega) (by omega)).mpr q2; omega
    exfalso; omega
set_option maxRecDepth 20000 in
theorem lp_J7_fill_bad5a_13_10 {V : VX} {G : GH} {X : MX} {b M Z T N : Nat} {σ : Mem}  {r901 : Nat} {n902 : Nat} {n903 : Nat} {x904 : Int64}  (F : Fx V X yJ7_fill_bad5a cJ7_fill_bad5a 6 none (rmd 2 0 0)) (hQ : Rt V X 0 0 N (fun r τ => HK V G (b, M, Z, T) [0, 1, 2, 3, 4, 5, 6, 7, 8, 9, 10, 11, 12, 14, 15, 16, 17, 18, 19] σ τ ∧ r = none)) (k901 : kA b r901 = 13) (hn902 : n902 ≤ 2147483647) (hn903 : n903 ≤ 2147483647) (hp0 : n902 ≤ n903) (hp1 : n903 ≤ 360) (hM : M + 0 ≤ 1000000000)  : ∀ (fuel : Nat) (i : Nat) (τ : Mem), HK V G (b, M, Z, T) [0, 1, 2, 3, 4, 5, 6, 7, 8, 9, 10, 11, 12, 14, 15, 16, 17, 18, 19] σ τ → i ≤ n903 → n903 - i < fuel → Wm V X 6 N τ 0 0 10 [(5, .int (nI i)), (0, .ref r901), (1, .int (nI n902)), (2, .int (nI n903)), (3, .long x904)] [] := by
  intro fuel
  induction fuel with
  | zero => intro i τ h1 hi hm; exact absurd hm (Nat.not_lt_zero _)
  | succ fuel ih =>
    intro i τ h1 hi hm
    refine m_iload F rfl e_J7_fill_bad5a_10 ?_
    refine m_iload_n F rfl e_J7_fill_bad5a_12 ?_
    refine m_icmp_ge F e_J7_fill_bad5a_13 (fun q13 => ?_) (fun q13 => ?_)
    · have c13 : i ≥ n903 := (nI_leI (a := n903) (b := i) (by omega) (by omega)).mp q13
      exact m_vret F hQ e_J7_fill_bad5a_27 (⟨h1, rfl⟩)
    · have c13 : i < n903 := by have hh := mt (nI_leI (a := n903) (b := i) (by omega) (by omega)).mpr q13; omega
      refine m_aload_n F rfl e_J7_fill_bad5a_16 ?_
      refine m_iload F rfl e_J7_fill_bad5a_17 ?_
      refine m_lload_n F rfl e_J7_fill_bad5a_19 ?_
      refine t_last F (len := 360) (j := i) e_J7_fill_bad5a_20 (fun _ => o13) h1 k901 (nI_clamp (by omega)) (vp_in_nI (by omega) (by decide)) (by decide) (fun σ1 h2 g3 => ?_)
      refine m_iinc F (v := nI (i + 1)) (lv' := [(5, .int (nI (i + 1))), (0, .ref r901), (1, .int (nI n902)), (2, .int (nI n903)), (3, .long x904)]) e_J7_fill_bad5a_21 rfl (nI_add i 1) (by decide) rfl ?_
      refine m_goto F e_J7_fill_bad5a_24 ?_
      exact ih (i + 1) _ h2 (by omega) (by omega)
set_option maxRecDepth 20000 in
theorem s_J7_fill_bad5a_13 (l : Launch) (V : VX) (G : GH) (b M Z T N : Nat) (σ : Mem) (r901 : Nat) (n902 : Nat) (n903 : Nat) (x904 : Int64) (h0 : HT V G (b, M, Z, T) σ) (k901 : kA b r901 = 13) (hn902 : n902 ≤ 2147483647) (hn903 : n903 ≤ 2147483647) (hp0 : n902 ≤ n903) (hp1 : n903 ≤ 360) (hM : M + 0 ≤ 1000000000) : Ct l V yJ7_fill_bad5a cJ7_fill_bad5a 6 none 2 0 0 N σ [.ref r901, .int (nI n902), .int (nI n903), .long x904] (fun r τ => HK V G (b, M, Z, T) [0, 1, 2, 3, 4, 5, 6, 7, 8, 9, 10, 11, 12, 14, 15, 16, 17, 18, 19] σ τ ∧ r = none) := by
  refine Ct.of (by decide) (Nat.le_of_ble_eq_true rfl) [(0, .ref r901), (1, .int (nI n902)), (2, .int (nI n903)), (3, .long x904)] rfl (fun X hX F hQ => ?_)
  have h1 : HK V G (b, M, Z, T) [0, 1, 2, 3, 4, 5, 6, 7, 8, 9, 10, 11, 12, 14, 15, 16, 17, 18, 19] σ σ := HK.start h0
  refine m_aload_n F rfl e_J7_fill_bad5a_0 ?_
  refine t_alenJ F (len := 360) e_J7_fill_bad5a_1 (fun _ => o13) h1 k901 (v := 360) (by decide) ?_
  refine m_iload_n F rfl e_J7_fill_bad5a_2 ?_
  refine m_iload_n F rfl e_J7_fill_bad5a_3 ?_
  refine m_callS F e_J7_fill_bad5a_4 (s_J7_rangeCheck_23922 (x_l X) V G b M Z T _ _ 360 n902 n903 h1.1 (by omega) (by omega) (by omega) (by first | omega | assumption | decide) (by first | omega | assumption | decide) (by omega)) cb_J7_rangeCheck_23922 ml_J7_13 sm_J7_rangeCheck_23922 rfl (rest := []) rfl (Nat.le_of_ble_eq_true rfl) ⟨Nat.le_of_ble_eq_true rfl, Nat.le_of_ble_eq_true rfl⟩ ⟨Nat.le_of_ble_eq_true rfl, Nat.le_of_ble_eq_true rfl⟩ (k' := 0) (z' := 0) (N' := N) rfl rfl rfl (fun r σ4 hp => ?_)
  obtain ⟨h6, rfl⟩ := hp
  have h5 := HK.trans h1 h6 (by decide)
  refine m_iload_n F rfl e_J7_fill_bad5a_7 ?_
  refine m_istore F (lv' := [(5, .int (nI n902)), (0, .ref r901), (1, .int (nI n902)), (2, .int (nI n903)), (3, .long x904)]) e_J7_fill_bad5a_8 (by decide) rfl ?_
  exact lp_J7_fill_bad5a_13_10 F hQ k901 hn902 hn903 hp0 hp1 hM (n903 - n902 + 1) n902 _ h5 (by omega) (Nat.lt_succ_self _)
set_option maxRecDepth 20000 in
theorem lp_J7_fill_bad5a_17_10 {V : VX} {G : GH} {X : MX} {b M Z T N : Nat} {σ : Mem}  {r901 : Nat} {n902 : Nat} {n903 : Nat} {x904 : Int64}  (F : Fx V X yJ7_fill_bad5a cJ7_fill_bad5a 6 none (rmd 2 0 0)) (hQ : Rt V X 0 0 N (fun r τ => HK V G (b, M, Z, T) [0, 1, 2, 3, 4, 5, 6, 7, 8, 9, 10, 11, 12, 13, 14, 15, 16, 18, 19] σ τ ∧ r = none)) (k901 : kA b r901 = 17) (hn902 : n902 ≤ 2147483647) (hn903 : n903 ≤ 2147483647) (hp0 : n902 ≤ n903) (hp1 : n903 ≤ 72) (hM : M + 0 ≤ 1000000000)  : ∀ (fuel : Nat) (i : Nat) (τ : Mem), HK V G (b, M, Z, T) [0, 1, 2, 3, 4, 5, 6, 7, 8, 9, 10, 11, 12, 13, 14, 15, 16, 18, 19] σ τ → i ≤ n903 → n903 - i < fuel → Wm V X 6 N τ 0 0 10 [(5, .int (nI i)), (0, .ref r901), (1, .int (nI n902)), (2, .int (nI n903)), (3, .long x904)] [] := by
  intro fuel
  induction fuel with
  | zero => intro i τ h1 hi hm; exact absurd hm (Nat.not_lt_zero _)
  | succ fuel ih =>
    intro i τ h1 hi hm
    refine m_iload F rfl e_J7_fill_bad5a_10 ?_
    refine m_iload_n F rfl e_J7_fill_bad5a_12 ?_
    refine m_icmp_ge F e_J7_fill_bad5a_13 (fun q13 => ?_) (fun q13 => ?_)
    · have c13 : i ≥ n903 := (nI_leI (a := n903) (b := i) (by omega) (by omega)).mp q13
      exact m_vret F hQ e_J7_fill_bad5a_27 (⟨h1, rfl⟩)
    · have c13 : i < n903 := by have hh := mt (nI_leI (a := n903) (b := i) (by omega) (by omega)).mpr q13; omega
      refine m_aload_n F rfl e_J7_fill_bad5a_16 ?_
      refine m_iload F rfl e_J7_fill_bad5a_17 ?_
      refine m_lload_n F rfl e_J7_fill_bad5a_19 ?_
      refine t_last F (len := 72) (j := i) e_J7_fill_bad5a_20 (fun _ => o17) h1 k901 (nI_clamp (by omega)) (vp_in_nI (by omega) (by decide)) (by decide) (fun σ7 h8 g9 => ?_)
      refine m_iinc F (v := nI (i + 1)) (lv' := [(5, .int (nI (i + 1))), (0, .ref r901), (1, .int (nI n902)), (2, .int (nI n903)), (3, .long x904)]) e_J7_fill_bad5a_21 rfl (nI_add i 1) (by decide) rfl ?_
      refine m_goto F e_J7_fill_bad5a_24 ?_
      exact ih (i + 1) _ h8 (by omega) (by omega)
set_option maxRecDepth 20000 in
theorem s_J7_fill_bad5a_17 (l : Launch) (V : VX) (G : GH) (b M Z T N : Nat) (σ : Mem) (r901 : Nat) (n902 : Nat) (n903 : Nat) (x904 : Int64) (h0 : HT V G (b, M, Z, T) σ) (k901 : kA b r901 = 17) (hn902 : n902 ≤ 2147483647) (hn903 : n903 ≤ 2147483647) (hp0 : n902 ≤ n903) (hp1 : n903 ≤ 72) (hM : M + 0 ≤ 1000000000) : Ct l V yJ7_fill_bad5a cJ7_fill_bad5a 6 none 2 0 0 N σ [.ref r901, .int (nI n902), .int (nI n903), .long x904] (fun r τ => HK V G (b, M, Z, T) [0, 1, 2, 3, 4, 5, 6, 7, 8, 9, 10, 11, 12, 13, 14, 15, 16, 18, 19] σ τ ∧ r = none) := by
  refine Ct.of (by decide) (Nat.le_of_ble_eq_true rfl) [(0, .ref r901), (1, .int (nI n902)), (2, .int (nI n903)), (3, .long x904)] rfl (fun X hX F hQ => ?_)
  have h1 : HK V G (b, M, Z, T) [0, 1, 2, 3, 4, 5, 6, 7, 8, 9, 10, 11, 12, 13, 14, 15, 16, 18, 19] σ σ := HK.start h0
  refine m_aload_n F rfl e_J7_fill_bad5a_0 ?_
  refine t_alenJ F (len := 72) e_J7_fill_bad5a_1 (fun _ => o17) h1 k901 (v := 72) (by decide) ?_
  refine m_iload_n F rfl e_J7_fill_bad5a_2 ?_
  refine m_iload_n F rfl e_J7_fill_bad5a_3 ?_
  refine m_callS F e_J7_fill_bad5a_4 (s_J7_rangeCheck_23922 (x_l X) V G b M Z T _ _ 72 n902 n903 h1.1 (by omega) (by omega) (by omega) (by first | omega | assumption | decide) (by first | omega | assumption | decide) (by omega)) cb_J7_rangeCheck_23922 ml_J7_13 sm_J7_rangeCheck_23922 rfl (rest := []) rfl (Nat.le_of_ble_eq_true rfl) ⟨Nat.le_of_ble_eq_true rfl, Nat.le_of_ble_eq_true rfl⟩ ⟨Nat.le_of_ble_eq_true rfl, Nat.le_of_ble_eq_true rfl⟩ (k' := 0) (z' := 0) (N' := N) rfl rfl rfl (fun r σ10 hp => ?_)
  obtain ⟨h12, rfl⟩ := hp
  have h11 := HK.trans h1 h12 (by decide)
  refine m_iload_n F rfl e_J7_fill_bad5a_7 ?_
  refine m_istore F (lv' := [(5, .int (nI n902)), (0, .ref r901), (1, .int (nI n902)), (2, .int (nI n903)), (3, .long x904)]) e_J7_fill_bad5a_8 (by decide) rfl ?_
  exact lp_J7_fill_bad5a_17_10 F hQ k901 hn902 hn903 hp0 hp1 hM (n903 - n902 + 1) n902 _ h11 (by omega) (Nat.lt_succ_self _)
set_option maxRecDepth 20000 in
theorem lp_J7_fill_fda19_10_10 {V : VX} {G : GH} {X : MX} {b M Z T N : Nat} {σ : Mem}  {r901 : Nat} {n902 : Nat} {n903 : Nat} {x904 : Int32}  (F : Fx V X yJ7_fill_fda19 cJ7_fill_fda19 5 none (rmd 2 0 0)) (hQ : Rt V X 0 0 N (fun r τ => HK V G (b, M, Z, T) [0, 1, 2, 3, 4, 5, 6, 7, 8, 9, 11, 12, 13, 14, 15, 16, 17, 18, 19] σ τ ∧ r = none)) (k901 : kA b r901 = 10) (hn902 : n902 ≤ 2147483647) (hn903 : n903 ≤ 2147483647) (hp0 : n902 ≤ n903) (hp1 : n903 ≤ 100) (hM : M + 0 ≤ 1000000000)  : ∀ (fuel : Nat) (i : Nat) (τ : Mem), HK V G (b, M, Z, T) [0, 1, 2, 3, 4, 5, 6, 7, 8, 9, 11, 12, 13, 14, 15, 16, 17, 18, 19] σ τ → i ≤ n903 → n903 - i < fuel → Wm V X 5 N τ 0 0 10 [(4, .int (nI i)), (0, .ref r901), (1, .int (nI n902)), (2, .int (nI n903)), (3, .int x904)] [] := by
  intro fuel
  induction fuel with
  | zero => intro i τ h1 hi hm; exact absurd hm (Nat.not_lt_zero _)
  | succ fuel ih =>
    intro i τ h1 hi hm
    refine m_iload F rfl e_J7_fill_fda19_10 ?_
    refine m_iload_n F rfl e_J7_fill_fda19_12 ?_
    refine m_icmp_ge F e_J7_fill_fda19_13 (fun q13 => ?_) (fun q13 => ?_)
    · have c13 : i ≥ n903 := (nI_leI (a := n903) (b := i) (by omega) (by omega)).mp q13
      exact m_vret F hQ e_J7_fill_fda19_27 (⟨h1, rfl⟩)
    · have c13 : i < n903 := by have hh := mt (nI_leI (a := n903) (b := i) (by omega) (by omega)).mpr q13; omega
      refine m_aload_n F rfl e_J7_fill_fda19_16 ?_
      refine m_iload F rfl e_J7_fill_fda19_17 ?_
      refine m_iload_n F rfl e_J7_fill_fda19_19 ?_
      refine t_iast F (len := 100) (j := i) e_J7_fill_fda19_20 (fun _ => o10) h1 k901 (nI_clamp (by omega)) (vp_in_nI (by omega) (by decide)) (by decide) (fun σ13 h14 g15 => ?_)
      refine m_iinc F (v := nI (i + 1)) (lv' := [(4, .int (nI (i + 1))), (0, .ref r901), (1, .int (nI n902)), (2, .int (nI n903)), (3, .int x904)]) e_J7_fill_fda19_21 rfl (nI_add i 1) (by decide) rfl ?_
      refine m_goto F e_J7_fill_fda19_24 ?_
      exact ih (i + 1) _ h14 (by omega) (by omega)
set_option maxRecDepth 20000 in
theorem s_J7_fill_fda19_10 (l : Launch) (V : VX) (G : GH) (b M Z T N : Nat) (σ : Mem) (r901 : Nat) (n902 : Nat) (n903 : Nat) (x904 : Int32) (h0 : HT V G (b, M, Z, T) σ) (k901 : kA b r901 = 10) (hn902 : n902 ≤ 2147483647) (hn903 : n903 ≤ 2147483647) (hp0 : n902 ≤ n903) (hp1 : n903 ≤ 100) (hM : M + 0 ≤ 1000000000) : Ct l V yJ7_fill_fda19 cJ7_fill_fda19 5 none 2 0 0 N σ [.ref r901, .int (nI n902), .int (nI n903), .int x904] (fun r τ => HK V G (b, M, Z, T) [0, 1, 2, 3, 4, 5, 6, 7, 8, 9, 11, 12, 13, 14, 15, 16, 17, 18, 19] σ τ ∧ r = none) := by
  refine Ct.of (by decide) (Nat.le_of_ble_eq_true rfl) [(0, .ref r901), (1, .int (nI n902)), (2, .int (nI n903)), (3, .int x904)] rfl (fun X hX F hQ => ?_)
  have h1 : HK V G (b, M, Z, T) [0, 1, 2, 3, 4, 5, 6, 7, 8, 9, 11, 12, 13, 14, 15, 16, 17, 18, 19] σ σ := HK.start h0
  refine m_aload_n F rfl e_J7_fill_fda19_0 ?_
  refine t_alenI F (len := 100) e_J7_fill_fda19_1 (fun _ => o10) h1 k901 (v := 100) (by decide) ?_
  refine m_iload_n F rfl e_J7_fill_fda19_2 ?_
  refine m_iload_n F rfl e_J7_fill_fda19_3 ?_
  refine m_callS F e_J7_fill_fda19_4 (s_J7_rangeCheck_23922 (x_l X) V G b M Z T _ _ 100 n902 n903 h1.1 (by omega) (by omega) (by omega) (by first | omega | assumption | decide) (by first | omega | assumption | decide) (by omega)) cb_J7_rangeCheck_23922 ml_J7_13 sm_J7_rangeCheck_23922 rfl (rest := []) rfl (Nat.le_of_ble_eq_true rfl) ⟨Nat.le_of_ble_eq_true rfl, Nat.le_of_ble_eq_true rfl⟩ ⟨Nat.le_of_ble_eq_true rfl, Nat.le_of_ble_eq_true rfl⟩ (k' := 0) (z' := 0) (N' := N) rfl rfl rfl (fun r σ16 hp => ?_)
  obtain ⟨h18, rfl⟩ := hp
  have h17 := HK.trans h1 h18 (by decide)
  refine m_iload_n F rfl e_J7_fill_fda19_7 ?_
  refine m_istore F (lv' := [(4, .int (nI n902)), (0, .ref r901), (1, .int (nI n902)), (2, .int (nI n903)), (3, .int x904)]) e_J7_fill_fda19_8 (by decide) rfl ?_
  exact lp_J7_fill_fda19_10_10 F hQ k901 hn902 hn903 hp0 hp1 hM (n903 - n902 + 1) n902 _ h17 (by omega) (Nat.lt_succ_self _)
set_option maxRecDepth 20000 in
theorem lp_J7_fill_d0a16_14_6 {V : VX} {G : GH} {X : MX} {b M Z T N : Nat} {σ : Mem}  {r901 : Nat} {x902 : Int64}  (F : Fx V X yJ7_fill_d0a16 cJ7_fill_d0a16 5 none (rmd 0 0 0)) (hQ : Rt V X 0 0 N (fun r τ => HK V G (b, M, Z, T) [0, 1, 2, 3, 4, 5, 6, 7, 8, 9, 10, 11, 12, 13, 15, 16, 17, 18, 19] σ τ ∧ r = none)) (k901 : kA b r901 = 14) (hM : M + 0 ≤ 1000000000)  : ∀ (fuel : Nat) (i : Nat) (τ : Mem), HK V G (b, M, Z, T) [0, 1, 2, 3, 4, 5, 6, 7, 8, 9, 10, 11, 12, 13, 15, 16, 17, 18, 19] σ τ → i ≤ 6 → 6 - i < fuel → Wm V X 5 N τ 0 0 6 [(3, .int (nI i)), (4, .int 6), (0, .ref r901), (1, .long x902)] [] := by
  intro fuel
  induction fuel with
  | zero => intro i τ h1 hi hm; exact absurd hm (Nat.not_lt_zero _)
  | succ fuel ih =>
    intro i τ h1 hi hm
    refine m_iload_n F rfl e_J7_fill_d0a16_6 ?_
    refine m_iload F rfl e_J7_fill_d0a16_7 ?_
    refine m_icmp_ge F e_J7_fill_d0a16_9 (fun q9 => ?_) (fun q9 => ?_)
    · have c9 : i ≥ 6 := (nI_leI (a := 6) (b := i) (by omega) (by omega)).mp q9
      exact m_vret F hQ e_J7_fill_d0a16_22 (⟨h1, rfl⟩)
    · have c9 : i < 6 := by have hh := mt (nI_leI (a := 6) (b := i) (by omega) (by omega)).mpr q9; omega
      refine m_aload_n F rfl e_J7_fill_d0a16_12 ?_
      refine m_iload_n F rfl e_J7_fill_d0a16_13 ?_
      refine m_lload_n F rfl e_J7_fill_d0a16_14 ?_
      refine t_last F (len := 6) (j := i) e_J7_fill_d0a16_15 (fun _ => o14) h1 k901 (nI_clamp (by omega)) (vp_in_nI (by omega) (by decide)) (by decide) (fun σ19 h20 g21 => ?_)
      refine m_iinc F (v := nI (i + 1)) (lv' := [(3, .int (nI (i + 1))), (4, .int 6), (0, .ref r901), (1, .long x902)]) e_J7_fill_d0a16_16 rfl (nI_add i 1) (by decide) rfl ?_
      refine m_goto F e_J7_fill_d0a16_19 ?_
      exact ih (i + 1) _ h20 (by omega) (by omega)
set_option maxRecDepth 20000 in
theorem s_J7_fill_d0a16_14 (l : Launch) (V : VX) (G : GH) (b M Z T N : Nat) (σ : Mem) (r901 : Nat) (x902 : Int64) (h0 : HT V G (b, M, Z, T) σ) (k901 : kA b r901 = 14) (hM : M + 0 ≤ 1000000000) : Ct l V yJ7_fill_d0a16 cJ7_fill_d0a16 5 none 0 0 0 N σ [.ref r901, .long x902] (fun r τ => HK V G (b, M, Z, T) [0, 1, 2, 3, 4, 5, 6, 7, 8, 9, 10, 11, 12, 13, 15, 16, 17, 18, 19] σ τ ∧ r = none) := by
  refine Ct.of (by decide) (Nat.le_of_ble_eq_true rfl) [(0, .ref r901), (1, .long x902)] rfl (fun X hX F hQ => ?_)
  have h1 : HK V G (b, M, Z, T) [0, 1, 2, 3, 4, 5, 6, 7, 8, 9, 10, 11, 12, 13, 15, 16, 17, 18, 19] σ σ := HK.start h0
  refine m_iconst F (v := 0) (by decide) e_J7_fill_d0a16_0 ?_
  refine m_istore_n F (lv' := [(3, .int 0), (0, .ref r901), (1, .long x902)]) e_J7_fill_d0a16_1 (by decide) rfl ?_
  refine m_aload_n F rfl e_J7_fill_d0a16_2 ?_
  refine t_alenJ F (len := 6) e_J7_fill_d0a16_3 (fun _ => o14) h1 k901 (v := 6) (by decide) ?_
  refine m_istore F (lv' := [(4, .int 6), (3, .int 0), (0, .ref r901), (1, .long x902)]) e_J7_fill_d0a16_4 (by decide) rfl ?_
  refine Wm.lvsub (lv' := [(3, .int 0), (4, .int 6), (0, .ref r901), (1, .long x902)]) ?_ [1, 0, 2, 3] rfl
  exact lp_J7_fill_d0a16_14_6 F hQ k901 hM (6 - 0 + 1) 0 _ h1 (by omega) (Nat.lt_succ_self _)
set_option maxRecDepth 20000 in
theorem lp_J7_fill_d0a16_18_6 {V : VX} {G : GH} {X : MX} {b M Z T N : Nat} {σ : Mem}  {r901 : Nat} {x902 : Int64}  (F : Fx V X yJ7_fill_d0a16 cJ7_fill_d0a16 5 none (rmd 0 0 0)) (hQ : Rt V X 0 0 N (fun r τ => HK V G (b, M, Z, T) [0, 1, 2, 3, 4, 5, 6, 7, 8, 9, 10, 11, 12, 13, 14, 15, 16, 17, 19] σ τ ∧ r = none)) (k901 : kA b r901 = 18) (hM : M + 0 ≤ 1000000000)  : ∀ (fuel : Nat) (i : Nat) (τ : Mem), HK V G (b, M, Z, T) [0, 1, 2, 3, 4, 5, 6, 7, 8, 9, 10, 11, 12, 13, 14, 15, 16, 17, 19] σ τ → i ≤ 5 → 5 - i < fuel → Wm V X 5 N τ 0 0 6 [(3, .int (nI i)), (4, .int 5), (0, .ref r901), (1, .long x902)] [] := by
  intro fuel
  induction fuel with
  | zero => intro i τ h1 hi hm; exact absurd hm (Nat.not_lt_zero _)
  | succ fuel ih =>
    intro i τ h1 hi hm
    refine m_iload_n F rfl e_J7_fill_d0a16_6 ?_
    refine m_iload F rfl e_J7_fill_d0a16_7 ?_
    refine m_icmp_ge F e_J7_fill_d0a16_9 (fun q9 => ?_) (fun q9 => ?_)
    · have c9 : i ≥ 5 := (nI_leI (a := 5) (b := i) (by omega) (by omega)).mp q9
      exact m_vret F hQ e_J7_fill_d0a16_22 (⟨h1, rfl⟩)
    · have c9 : i < 5 := by have hh := mt (nI_leI (a := 5) (b := i) (by omega) (by omega)).mpr q9; omega
      refine m_aload_n F rfl e_J7_fill_d0a16_12 ?_
      refine m_iload_n F rfl e_J7_fill_d0a16_13 ?_
      refine m_lload_n F rfl e_J7_fill_d0a16_14 ?_
      refine t_last F (len := 5) (j := i) e_J7_fill_d0a16_15 (fun _ => o18) h1 k901 (nI_clamp (by omega)) (vp_in_nI (by omega) (by decide)) (by decide) (fun σ22 h23 g24 => ?_)
      refine m_iinc F (v := nI (i + 1)) (lv' := [(3, .int (nI (i + 1))), (4, .int 5), (0, .ref r901), (1, .long x902)]) e_J7_fill_d0a16_16 rfl (nI_add i 1) (by decide) rfl ?_
      refine m_goto F e_J7_fill_d0a16_19 ?_
      exact ih (i + 1) _ h23 (by omega) (by omega)
set_option maxRecDepth 20000 in
theorem s_J7_fill_d0a16_18 (l : Launch) (V : VX) (G : GH) (b M Z T N : Nat) (σ : Mem) (r901 : Nat) (x902 : Int64) (h0 : HT V G (b, M, Z, T) σ) (k901 : kA b r901 = 18) (hM : M + 0 ≤ 1000000000) : Ct l V yJ7_fill_d0a16 cJ7_fill_d0a16 5 none 0 0 0 N σ [.ref r901, .long x902] (fun r τ => HK V G (b, M, Z, T) [0, 1, 2, 3, 4, 5, 6, 7, 8, 9, 10, 11, 12, 13, 14, 15, 16, 17, 19] σ τ ∧ r = none) := by
  refine Ct.of (by decide) (Nat.le_of_ble_eq_true rfl) [(0, .ref r901), (1, .long x902)] rfl (fun X hX F hQ => ?_)
  have h1 : HK V G (b, M, Z, T) [0, 1, 2, 3, 4, 5, 6, 7, 8, 9, 10, 11, 12, 13, 14, 15, 16, 17, 19] σ σ := HK.start h0
  refine m_iconst F (v := 0) (by decide) e_J7_fill_d0a16_0 ?_
  refine m_istore_n F (lv' := [(3, .int 0), (0, .ref r901), (1, .long x902)]) e_J7_fill_d0a16_1 (by decide) rfl ?_
  refine m_aload_n F rfl e_J7_fill_d0a16_2 ?_
  refine t_alenJ F (len := 5) e_J7_fill_d0a16_3 (fun _ => o18) h1 k901 (v := 5) (by decide) ?_
  refine m_istore F (lv' := [(4, .int 5), (3, .int 0), (0, .ref r901), (1, .long x902)]) e_J7_fill_d0a16_4 (by decide) rfl ?_
  refine Wm.lvsub (lv' := [(3, .int 0), (4, .int 5), (0, .ref r901), (1, .long x902)]) ?_ [1, 0, 2, 3] rfl
  exact lp_J7_fill_d0a16_18_6 F hQ k901 hM (5 - 0 + 1) 0 _ h1 (by omega) (Nat.lt_succ_self _)
set_option maxRecDepth 20000 in
theorem lp_J7_fill_53178_4_5 {V : VX} {G : GH} {X : MX} {b M Z T N : Nat} {σ : Mem}  {r901 : Nat} {x902 : Int32}  (F : Fx V X yJ7_fill_53178 cJ7_fill_53178 4 none (rmd 0 0 0)) (hQ : Rt V X 0 0 N (fun r τ => HK V G (b, M, Z, T) [0, 1, 2, 3, 5, 6, 7, 8, 9, 10, 11, 12, 13, 14, 15, 16, 17, 18, 19] σ τ ∧ r = none)) (k901 : kA b r901 = 4) (hM : M + 0 ≤ 1000000000)  : ∀ (fuel : Nat) (i : Nat) (τ : Mem), HK V G (b, M, Z, T) [0, 1, 2, 3, 5, 6, 7, 8, 9, 10, 11, 12, 13, 14, 15, 16, 17, 18, 19] σ τ → i ≤ 4 → 4 - i < fuel → Wm V X 4 N τ 0 0 5 [(2, .int (nI i)), (3, .int 4), (0, .ref r901), (1, .int x902)] [] := by
  intro fuel
  induction fuel with
  | zero => intro i τ h1 hi hm; exact absurd hm (Nat.not_lt_zero _)
  | succ fuel ih =>
    intro i τ h1 hi hm
    refine m_iload_n F rfl e_J7_fill_53178_5 ?_
    refine m_iload_n F rfl e_J7_fill_53178_6 ?_
    refine m_icmp_ge F e_J7_fill_53178_7 (fun q7 => ?_) (fun q7 => ?_)
    · have c7 : i ≥ 4 := (nI_leI (a := 4) (b := i) (by omega) (by omega)).mp q7
      exact m_vret F hQ e_J7_fill_53178_20 (⟨h1, rfl⟩)
    · have c7 : i < 4 := by have hh := mt (nI_leI (a := 4) (b := i) (by omega) (by omega)).mpr q7; omega
      refine m_aload_n F rfl e_J7_fill_53178_10 ?_
      refine m_iload_n F rfl e_J7_fill_53178_11 ?_
      refine m_iload_n F rfl e_J7_fill_53178_12 ?_
      refine t_iast F (len := 4) (j := i) e_J7_fill_53178_13 (fun _ => o4) h1 k901 (nI_clamp (by omega)) (vp_in_nI (by omega) (by decide)) (by decide) (fun σ25 h26 g27 => ?_)
      refine m_iinc F (v := nI (i + 1)) (lv' := [(2, .int (nI (i + 1))), (3, .int 4), (0, .ref r901), (1, .int x902)]) e_J7_fill_53178_14 rfl (nI_add i 1) (by decide) rfl ?_
      refine m_goto F e_J7_fill_53178_17 ?_
      exact ih (i + 1) _ h26 (by omega) (by omega)
set_option maxRecDepth 20000 in
theorem s_J7_fill_53178_4 (l : Launch) (V : VX) (G : GH) (b M Z T N : Nat) (σ : Mem) (r901 : Nat) (x902 : Int32) (h0 : HT V G (b, M, Z, T) σ) (k901 : kA b r901 = 4) (hM : M + 0 ≤ 1000000000) : Ct l V yJ7_fill_53178 cJ7_fill_53178 4 none 0 0 0 N σ [.ref r901, .int x902] (fun r τ => HK V G (b, M, Z, T) [0, 1, 2, 3, 5, 6, 7, 8, 9, 10, 11, 12, 13, 14, 15, 16, 17, 18, 19] σ τ ∧ r = none) := by
  refine Ct.of (by decide) (Nat.le_of_ble_eq_true rfl) [(0, .ref r901), (1, .int x902)] rfl (fun X hX F hQ => ?_)
  have h1 : HK V G (b, M, Z, T) [0, 1, 2, 3, 5, 6, 7, 8, 9, 10, 11, 12, 13, 14, 15, 16, 17, 18, 19] σ σ := HK.start h0
  refine m_iconst F (v := 0) (by decide) e_J7_fill_53178_0 ?_
  refine m_istore_n F (lv' := [(2, .int 0), (0, .ref r901), (1, .int x902)]) e_J7_fill_53178_1 (by decide) rfl ?_
  refine m_aload_n F rfl e_J7_fill_53178_2 ?_
  refine t_alenI F (len := 4) e_J7_fill_53178_3 (fun _ => o4) h1 k901 (v := 4) (by decide) ?_
  refine m_istore_n F (lv' := [(3, .int 4), (2, .int 0), (0, .ref r901), (1, .int x902)]) e_J7_fill_53178_4 (by decide) rfl ?_
  refine Wm.lvsub (lv' := [(2, .int 0), (3, .int 4), (0, .ref r901), (1, .int x902)]) ?_ [1, 0, 2, 3] rfl
  exact lp_J7_fill_53178_4_5 F hQ k901 hM (4 - 0 + 1) 0 _ h1 (by omega) (Nat.lt_succ_self _)
set_option maxRecDepth 20000 in
theorem lp_J7_fill_53178_10_5 {V : VX} {G : GH} {X : MX} {b M Z T N : Nat} {σ : Mem}  {r901 : Nat} {x902 : Int32}  (F : Fx V X yJ7_fill_53178 cJ7_fill_53178 4 none (rmd 0 0 0)) (hQ : Rt V X 0 0 N (fun r τ => HK V G (b, M, Z, T) [0, 1, 2, 3, 4, 5, 6, 7, 8, 9, 11, 12, 13, 14, 15, 16, 17, 18, 19] σ τ ∧ r = none)) (k901 : kA b r901 = 10) (hM : M + 0 ≤ 1000000000)  : ∀ (fuel : Nat) (i : Nat) (τ : Mem), HK V G (b, M, Z, T) [0, 1, 2, 3, 4, 5, 6, 7, 8, 9, 11, 12, 13, 14, 15, 16, 17, 18, 19] σ τ → i ≤ 100 → 100 - i < fuel → Wm V X 4 N τ 0 0 5 [(2, .int (nI i)), (3, .int 100), (0, .ref r901), (1, .int x902)] [] := by
  intro fuel
  induction fuel with
  | zero => intro i τ h1 hi hm; exact absurd hm (Nat.not_lt_zero _)
  | succ fuel ih =>
    intro i τ h1 hi hm
    refine m_iload_n F rfl e_J7_fill_53178_5 ?_
    refine m_iload_n F rfl e_J7_fill_53178_6 ?_
    refine m_icmp_ge F e_J7_fill_53178_7 (fun q7 => ?_) (fun q7 => ?_)
    · have c7 : i ≥ 100 := (nI_leI (a := 100) (b := i) (by omega) (by omega)).mp q7
      exact m_vret F hQ e_J7_fill_53178_20 (⟨h1, rfl⟩)
    · have c7 : i < 100 := by have hh := mt (nI_leI (a := 100) (b := i) (by omega) (by omega)).mpr q7; omega
      refine m_aload_n F rfl e_J7_fill_53178_10 ?_
      refine m_iload_n F rfl e_J7_fill_53178_11 ?_
      refine m_iload_n F rfl e_J7_fill_53178_12 ?_
      refine t_iast F (len := 100) (j := i) e_J7_fill_53178_13 (fun _ => o10) h1 k901 (nI_clamp (by omega)) (vp_in_nI (by omega) (by decide)) (by decide) (fun σ28 h29 g30 => ?_)
      refine m_iinc F (v := nI (i + 1)) (lv' := [(2, .int (nI (i + 1))), (3, .int 100), (0, .ref r901), (1, .int x902)]) e_J7_fill_53178_14 rfl (nI_add i 1) (by decide) rfl ?_
      refine m_goto F e_J7_fill_53178_17 ?_
      exact ih (i + 1) _ h29 (by omega) (by omega)
set_option maxRecDepth 20000 in
theorem s_J7_fill_53178_10 (l : Launch) (V : VX) (G : GH) (b M Z T N : Nat) (σ : Mem) (r901 : Nat) (x902 : Int32) (h0 : HT V G (b, M, Z, T) σ) (k901 : kA b r901 = 10) (hM : M + 0 ≤ 1000000000) : Ct l V yJ7_fill_53178 cJ7_fill_53178 4 none 0 0 0 N σ [.ref r901, .int x902] (fun r τ => HK V G (b, M, Z, T) [0, 1, 2, 3, 4, 5, 6, 7, 8, 9, 11, 12, 13, 14, 15, 16, 17, 18, 19] σ τ ∧ r = none) := by
  refine Ct.of (by decide) (Nat.le_of_ble_eq_true rfl) [(0, .ref r901), (1, .int x902)] rfl (fun X hX F hQ => ?_)
  have h1 : HK V G (b, M, Z, T) [0, 1, 2, 3, 4, 5, 6, 7, 8, 9, 11, 12, 13, 14, 15, 16, 17, 18, 19] σ σ := HK.start h0
  refine m_iconst F (v := 0) (by decide) e_J7_fill_53178_0 ?_
  refine m_istore_n F (lv' := [(2, .int 0), (0, .ref r901), (1, .int x902)]) e_J7_fill_53178_1 (by decide) rfl ?_
  refine m_aload_n F rfl e_J7_fill_53178_2 ?_
  refine t_alenI F (len := 100) e_J7_fill_53178_3 (fun _ => o10) h1 k901 (v := 100) (by decide) ?_
  refine m_istore_n F (lv' := [(3, .int 100), (2, .int 0), (0, .ref r901), (1, .int x902)]) e_J7_fill_53178_4 (by decide) rfl ?_
  refine Wm.lvsub (lv' := [(2, .int 0), (3, .int 100), (0, .ref r901), (1, .int x902)]) ?_ [1, 0, 2, 3] rfl
  exact lp_J7_fill_53178_10_5 F hQ k901 hM (100 - 0 + 1) 0 _ h1 (by omega) (Nat.lt_succ_self _)
set_option maxRecDepth 20000 in
theorem s_X1_set (l : Launch) (V : VX) (G : GH) (b M Z T N : Nat) (σ : Mem) (a : Nat) (x901 : Int64) (h0 : HT V G (b, M, Z, T) σ) (hk : kA b a = 6) (hM : M + 0 ≤ 1000000000) : Ct l V yX1_set cX1_set 3 none 0 0 0 N σ [.ref a, .long x901] (fun r τ => HK V G (b, M, Z, T) [0, 1, 2, 3, 4, 5, 7, 8, 9, 10, 11, 12, 13, 14, 15, 16, 17, 18, 19] σ τ ∧ r = none) := by
  refine Ct.of (by decide) (Nat.le_of_ble_eq_true rfl) [(0, .ref a), (1, .long x901)] rfl (fun X hX F hQ => ?_)
  have h1 : HK V G (b, M, Z, T) [0, 1, 2, 3, 4, 5, 7, 8, 9, 10, 11, 12, 13, 14, 15, 16, 17, 18, 19] σ σ := HK.start h0
  refine m_aload_n F rfl e_X1_set_0 ?_
  refine m_lload_n F rfl e_X1_set_1 ?_
  refine m_bipush F (v := 42) (by decide) e_X1_set_2 ?_
  refine m_lshr F e_X1_set_4 ?_
  refine Wm.topl (fun x31 _ => ?_)
  refine t_put F e_X1_set_5 fp_X1_9 (fun _ => o6) h1 hk rfl ⟨_, rfl⟩ rfl rfl (by decide) (fun σ32 h33 g34 g35 f36 => ?_)
  refine m_aload_n F rfl e_X1_set_8 ?_
  refine m_lload_n F rfl e_X1_set_9 ?_
  refine m_ldc2 F kc_X1_13 e_X1_set_10 ?_
  refine m_land F e_X1_set_13 ?_
  refine Wm.topl (fun x37 _ => ?_)
  refine t_put F e_X1_set_14 fp_X1_15 (fun _ => o6) h33 hk rfl ⟨_, rfl⟩ rfl rfl (by decide) (fun σ38 h39 g40 g41 f42 => ?_)
  exact m_vret F hQ e_X1_set_17 (⟨h39, rfl⟩)
set_option maxRecDepth 20000 in
theorem s_X1_copyFrom (l : Launch) (V : VX) (G : GH) (b M Z T N : Nat) (σ : Mem) (a : Nat) (r901 : Nat) (h0 : HT V G (b, M, Z, T) σ) (hk : kA b a = 6) (k901 : kA b r901 = 6) (hM : M + 0 ≤ 1000000000) : Ct l V yX1_copyFrom cX1_copyFrom 2 none 0 0 0 N σ [.ref a, .ref r901] (fun r τ => HK V G (b, M, Z, T) [0, 1, 2, 3, 4, 5, 7, 8, 9, 10, 11, 12, 13, 14, 15, 16, 17, 18, 19] σ τ ∧ r = none) := by
  refine Ct.of (by decide) (Nat.le_of_ble_eq_true rfl) [(0, .ref a), (1, .ref r901)] rfl (fun X hX F hQ => ?_)
  have h1 : HK V G (b, M, Z, T) [0, 1, 2, 3, 4, 5, 7, 8, 9, 10, 11, 12, 13, 14, 15, 16, 17, 18, 19] σ σ := HK.start h0
  refine m_aload_n F rfl e_X1_copyFrom_0 ?_
  refine m_aload_n F rfl e_X1_copyFrom_1 ?_
  refine t_get F e_X1_copyFrom_2 fl_X1_9 (fun _ => o6) h1 k901 rfl (fun v hv f43 => ?_)
  obtain ⟨x44, rfl⟩ := hv
  refine t_put F e_X1_copyFrom_5 fp_X1_9 (fun _ => o6) h1 hk rfl ⟨_, rfl⟩ rfl rfl (by decide) (fun σ45 h46 g47 g48 f49 => ?_)
  refine m_aload_n F rfl e_X1_copyFrom_8 ?_
  refine m_aload_n F rfl e_X1_copyFrom_9 ?_
  refine t_get F e_X1_copyFrom_10 fl_X1_15 (fun _ => o6) h46 k901 rfl (fun v hv f50 => ?_)
  obtain ⟨x51, rfl⟩ := hv
  refine t_put F e_X1_copyFrom_13 fp_X1_15 (fun _ => o6) h46 hk rfl ⟨_, rfl⟩ rfl rfl (by decide) (fun σ52 h53 g54 g55 f56 => ?_)
  exact m_vret F hQ e_X1_copyFrom_16 (⟨h53, rfl⟩)
set_option maxRecDepth 20000 in
theorem s_X1_asLong (l : Launch) (V : VX) (G : GH) (b M Z T N : Nat) (σ : Mem) (a : Nat) (h0 : HT V G (b, M, Z, T) σ) (hk : kA b a = 6) (hM : M + 0 ≤ 1000000000) : Ct l V yX1_asLong cX1_asLong 1 (some .long) 0 0 0 N σ [.ref a] (fun r τ => HK V G (b, M, Z, T) [0, 1, 2, 3, 4, 5, 6, 7, 8, 9, 10, 11, 12, 13, 14, 15, 16, 17, 18, 19] σ τ ∧ ∃ x : Int64, r = some (.long x)) := by
  refine Ct.of (by decide) (Nat.le_of_ble_eq_true rfl) [(0, .ref a)] rfl (fun X hX F hQ => ?_)
  have h1 : HK V G (b, M, Z, T) [0, 1, 2, 3, 4, 5, 6, 7, 8, 9, 10, 11, 12, 13, 14, 15, 16, 17, 18, 19] σ σ := HK.start h0
  refine m_aload_n F rfl e_X1_asLong_0 ?_
  refine t_get F e_X1_asLong_1 fl_X1_9 (fun _ => o6) h1 hk rfl (fun v hv f57 => ?_)
  obtain ⟨x58, rfl⟩ := hv
  refine m_bipush F (v := 42) (by decide) e_X1_asLong_4 ?_
  refine m_lshl F e_X1_asLong_6 ?_
  refine Wm.topl (fun x59 _ => ?_)
  refine m_aload_n F rfl e_X1_asLong_7 ?_
  refine t_get F e_X1_asLong_8 fl_X1_15 (fun _ => o6) h1 hk rfl (fun v hv f60 => ?_)
  obtain ⟨x61, rfl⟩ := hv
  refine m_ladd F e_X1_asLong_11 ?_
  refine Wm.topl (fun x62 _ => ?_)
  exact m_lret F hQ e_X1_asLong_12 (⟨h1, _, rfl⟩)
set_option maxRecDepth 20000 in
theorem s_X1_isZero (l : Launch) (V : VX) (G : GH) (b M Z T N : Nat) (σ : Mem) (a : Nat) (h0 : HT V G (b, M, Z, T) σ) (hk : kA b a = 6) (hM : M + 0 ≤ 1000000000) : Ct l V yX1_isZero cX1_isZero 1 (some .boolean) 0 0 0 N σ [.ref a] (fun r τ => HK V G (b, M, Z, T) [0, 1, 2, 3, 4, 5, 6, 7, 8, 9, 10, 11, 12, 13, 14, 15, 16, 17, 18, 19] σ τ ∧ ∃ n : Nat, n ≤ 1 ∧ r = some (.int (nI n))) := by
  refine Ct.of (by decide) (Nat.le_of_ble_eq_true rfl) [(0, .ref a)] rfl (fun X hX F hQ => ?_)
  have h1 : HK V G (b, M, Z, T) [0, 1, 2, 3, 4, 5, 6, 7, 8, 9, 10, 11, 12, 13, 14, 15, 16, 17, 18, 19] σ σ := HK.start h0
  refine m_aload_n F rfl e_X1_isZero_0 ?_
  refine t_get F e_X1_isZero_1 fl_X1_9 (fun _ => o6) h1 hk rfl (fun v hv f63 => ?_)
  obtain ⟨x64, rfl⟩ := hv
  refine m_lconst F (v := 0) (by decide) e_X1_isZero_4 ?_
  refine m_lcmp F e_X1_isZero_5 ?_
  refine Wm.top (fun x65 _ => ?_)
  refine m_if_ne F e_X1_isZero_6 (fun q6 => ?_) (fun q6 => ?_)
  · refine m_iconst F (v := 0) (by decide) e_X1_isZero_22 ?_
    exact m_zret F hQ e_X1_isZero_23 (by decide) (⟨h1, 0, by omega, rfl⟩)
  · refine m_aload_n F rfl e_X1_isZero_9 ?_
    refine t_get F e_X1_isZero_10 fl_X1_15 (fun _ => o6) h1 hk rfl (fun v hv f66 => ?_)
    obtain ⟨x67, rfl⟩ := hv
    refine m_lconst F (v := 0) (by decide) e_X1_isZero_13 ?_
    refine m_lcmp F e_X1_isZero_14 ?_
    refine Wm.top (fun x68 _ => ?_)
    refine m_if_ne F e_X1_isZero_15 (fun q15 => ?_) (fun q15 => ?_)
    · refine m_iconst F (v := 0) (by decide) e_X1_isZero_22 ?_
      exact m_zret F hQ e_X1_isZero_23 (by decide) (⟨h1, 0, by omega, rfl⟩)
    · refine m_iconst F (v := 1) (by decide) e_X1_isZero_18 ?_
      refine m_goto F e_X1_isZero_19 ?_
      exact m_zret F hQ e_X1_isZero_23 (by decide) (⟨h1, 1, by omega, rfl⟩)
set_option maxRecDepth 20000 in
theorem s_X1_isAtLeast (l : Launch) (V : VX) (G : GH) (b M Z T N : Nat) (σ : Mem) (a : Nat) (x901 : Int64) (h0 : HT V G (b, M, Z, T) σ) (hk : kA b a = 6) (hM : M + 0 ≤ 1000000000) : Ct l V yX1_isAtLeast cX1_isAtLeast 5 (some .boolean) 0 0 0 N σ [.ref a, .long x901] (fun r τ => HK V G (b, M, Z, T) [0, 1, 2, 3, 4, 5, 6, 7, 8, 9, 10, 11, 12, 13, 14, 15, 16, 17, 18, 19] σ τ ∧ ∃ n : Nat, n ≤ 1 ∧ r = some (.int (nI n))) := by
  refine Ct.of (by decide) (Nat.le_of_ble_eq_true rfl) [(0, .ref a), (1, .long x901)] rfl (fun X hX F hQ => ?_)
  have h1 : HK V G (b, M, Z, T) [0, 1, 2, 3, 4, 5, 6, 7, 8, 9, 10, 11, 12, 13, 14, 15, 16, 17, 18, 19] σ σ := HK.start h0
  refine m_lload_n F rfl e_X1_isAtLeast_0 ?_
  refine m_bipush F (v := 42) (by decide) e_X1_isAtLeast_1 ?_
  refine m_lshr F e_X1_isAtLeast_3 ?_
  refine Wm.topl (fun x69 _ => ?_)
  refine m_lstore_n F (lv' := [(3, .long x69), (0, .ref a), (1, .long x901)]) e_X1_isAtLeast_4 (by decide) rfl ?_
  refine m_aload_n F rfl e_X1_isAtLeast_5 ?_
  refine t_get F e_X1_isAtLeast_6 fl_X1_9 (fun _ => o6) h1 hk rfl (fun v hv f70 => ?_)
  obtain ⟨x71, rfl⟩ := hv
  refine m_lload_n F rfl e_X1_isAtLeast_9 ?_
  refine m_lcmp F e_X1_isAtLeast_10 ?_
  refine Wm.top (fun x72 _ => ?_)
  refine m_if_gt F e_X1_isAtLeast_11 (fun q11 => ?_) (fun q11 => ?_)
  · obtain ⟨n73, hn73, rfl⟩ := nI_nn (x := x72) (fun e => Int32.lt_irrefl (Int32.lt_trans e (Int32.lt_of_le_of_lt (by decide) q11)))
    have c11 : n73 > 0 := (nI_ltI (a := 0) (b := n73) (by omega) (by omega)).mp q11
    refine m_iconst F (v := 1) (by decide) e_X1_isAtLeast_36 ?_
    refine m_goto F e_X1_isAtLeast_37 ?_
    exact m_zret F hQ e_X1_isAtLeast_41 (by decide) (⟨h1, 1, by omega, rfl⟩)
  · refine m_aload_n F rfl e_X1_isAtLeast_14 ?_
    refine t_getC F e_X1_isAtLeast_15 fl_X1_9 (fun _ => o6) h1 hk (f70) ?_
    refine m_lload_n F rfl e_X1_isAtLeast_18 ?_
    refine m_lcmp F e_X1_isAtLeast_19 ?_
    refine Wm.top (fun x74 _ => ?_)
    refine m_if_ne F e_X1_isAtLeast_20 (fun q20 => ?_) (fun q20 => ?_)
    · refine m_iconst F (v := 0) (by decide) e_X1_isAtLeast_40 ?_
      exact m_zret F hQ e_X1_isAtLeast_41 (by decide) (⟨h1, 0, by omega, rfl⟩)
    · refine m_aload_n F rfl e_X1_isAtLeast_23 ?_
      refine t_get F e_X1_isAtLeast_24 fl_X1_15 (fun _ => o6) h1 hk rfl (fun v hv f75 => ?_)
      obtain ⟨x76, rfl⟩ := hv
      refine m_lload_n F rfl e_X1_isAtLeast_27 ?_
      refine m_ldc2 F kc_X1_13 e_X1_isAtLeast_28 ?_
      refine m_land F e_X1_isAtLeast_31 ?_
      refine Wm.topl (fun x77 _ => ?_)
      refine m_lcmp F e_X1_isAtLeast_32 ?_
      refine Wm.top (fun x78 _ => ?_)
      refine m_if_lt F e_X1_isAtLeast_33 (fun q33 => ?_) (fun q33 => ?_)
      · refine m_iconst F (v := 0) (by decide) e_X1_isAtLeast_40 ?_
        exact m_zret F hQ e_X1_isAtLeast_41 (by decide) (⟨h1, 0, by omega, rfl⟩)
      · obtain ⟨n79, hn79, rfl⟩ := nI_nn (x := x78) (fun e => q33 (Int32.lt_of_lt_of_le e (by decide)))
        have c33 : n79 ≥ 0 := by have hh := mt (nI_ltI (a := n79) (b := 0) (by omega) (by omega)).mpr q33; omega
        refine m_iconst F (v := 1) (by decide) e_X1_isAtLeast_36 ?_
        refine m_goto F e_X1_isAtLeast_37 ?_
        exact m_zret F hQ e_X1_isAtLeast_41 (by decide) (⟨h1, 1, by omega, rfl⟩)
set_option maxRecDepth 20000 in
theorem s_X1_isGreaterShare (l : Launch) (V : VX) (G : GH) (b M Z T N : Nat) (σ : Mem) (a : Nat) (x901 : Int32) (r902 : Nat) (x903 : Int32) (h0 : HT V G (b, M, Z, T) σ) (hk : kA b a = 6) (k902 : kA b r902 = 6) (hM : M + 0 ≤ 1000000000) : Ct l V yX1_isGreaterShare cX1_isGreaterShare 12 (some .boolean) 0 0 0 N σ [.ref a, .int x901, .ref r902, .int x903] (fun r τ => HK V G (b, M, Z, T) [0, 1, 2, 3, 4, 5, 6, 7, 8, 9, 10, 11, 12, 13, 14, 15, 16, 17, 18, 19] σ τ ∧ ∃ n : Nat, n ≤ 1 ∧ r = some (.int (nI n))) := by
  refine Ct.of (by decide) (Nat.le_of_ble_eq_true rfl) [(0, .ref a), (1, .int x901), (2, .ref r902), (3, .int x903)] rfl (fun X hX F hQ => ?_)
  have h1 : HK V G (b, M, Z, T) [0, 1, 2, 3, 4, 5, 6, 7, 8, 9, 10, 11, 12, 13, 14, 15, 16, 17, 18, 19] σ σ := HK.start h0
  refine m_aload_n F rfl e_X1_isGreaterShare_0 ?_
  refine t_get F e_X1_isGreaterShare_1 fl_X1_15 (fun _ => o6) h1 hk rfl (fun v hv f80 => ?_)
  obtain ⟨x81, rfl⟩ := hv
  refine m_iload_n F rfl e_X1_isGreaterShare_4 ?_
  refine m_i2l F e_X1_isGreaterShare_5 ?_
  refine Wm.topl (fun x82 _ => ?_)
  refine m_lmul F e_X1_isGreaterShare_6 ?_
  refine Wm.topl (fun x83 _ => ?_)
  refine m_lstore F (lv' := [(4, .long x83), (0, .ref a), (1, .int x901), (2, .ref r902), (3, .int x903)]) e_X1_isGreaterShare_7 (by decide) rfl ?_
  refine m_aload_n F rfl e_X1_isGreaterShare_9 ?_
  refine t_get F e_X1_isGreaterShare_10 fl_X1_9 (fun _ => o6) h1 hk rfl (fun v hv f84 => ?_)
  obtain ⟨x85, rfl⟩ := hv
  refine m_iload_n F rfl e_X1_isGreaterShare_13 ?_
  refine m_i2l F e_X1_isGreaterShare_14 ?_
  refine Wm.topl (fun x86 _ => ?_)
  refine m_lmul F e_X1_isGreaterShare_15 ?_
  refine Wm.topl (fun x87 _ => ?_)
  refine m_lload F rfl e_X1_isGreaterShare_16 ?_
  refine m_bipush F (v := 42) (by decide) e_X1_isGreaterShare_18 ?_
  refine m_lshr F e_X1_isGreaterShare_20 ?_
  refine Wm.topl (fun x88 _ => ?_)
  refine m_ladd F e_X1_isGreaterShare_21 ?_
  refine Wm.topl (fun x89 _ => ?_)
  refine m_lstore F (lv' := [(6, .long x89), (4, .long x83), (0, .ref a), (1, .int x901), (2, .ref r902), (3, .int x903)]) e_X1_isGreaterShare_22 (by decide) rfl ?_
  refine m_aload_n F rfl e_X1_isGreaterShare_24 ?_
  refine t_get F e_X1_isGreaterShare_25 fl_X1_15 (fun _ => o6) h1 k902 rfl (fun v hv f90 => ?_)
  obtain ⟨x91, rfl⟩ := hv
  refine m_iload_n F rfl e_X1_isGreaterShare_28 ?_
  refine m_i2l F e_X1_isGreaterShare_29 ?_
  refine Wm.topl (fun x92 _ => ?_)
  refine m_lmul F e_X1_isGreaterShare_30 ?_
  refine Wm.topl (fun x93 _ => ?_)
  refine m_lstore F (lv' := [(8, .long x93), (6, .long x89), (4, .long x83), (0, .ref a), (1, .int x901), (2, .ref r902), (3, .int x903)]) e_X1_isGreaterShare_31 (by decide) rfl ?_
  refine m_aload_n F rfl e_X1_isGreaterShare_33 ?_
  refine t_get F e_X1_isGreaterShare_34 fl_X1_9 (fun _ => o6) h1 k902 rfl (fun v hv f94 => ?_)
  obtain ⟨x95, rfl⟩ := hv
  refine m_iload_n F rfl e_X1_isGreaterShare_37 ?_
  refine m_i2l F e_X1_isGreaterShare_38 ?_
  refine Wm.topl (fun x96 _ => ?_)
  refine m_lmul F e_X1_isGreaterShare_39 ?_
  refine Wm.topl (fun x97 _ => ?_)
  refine m_lload F rfl e_X1_isGreaterShare_40 ?_
  refine m_bipush F (v := 42) (by decide) e_X1_isGreaterShare_42 ?_
  refine m_lshr F e_X1_isGreaterShare_44 ?_
  refine Wm.topl (fun x98 _ => ?_)
  refine m_ladd F e_X1_isGreaterShare_45 ?_
  refine Wm.topl (fun x99 _ => ?_)
  refine m_lstore F (lv' := [(10, .long x99), (8, .long x93), (6, .long x89), (4, .long x83), (0, .ref a), (1, .int x901), (2, .ref r902), (3, .int x903)]) e_X1_isGreaterShare_46 (by decide) rfl ?_
  refine m_lload F rfl e_X1_isGreaterShare_48 ?_
  refine m_lload F rfl e_X1_isGreaterShare_50 ?_
  refine m_lcmp F e_X1_isGreaterShare_52 ?_
  refine Wm.top (fun x100 _ => ?_)
  refine m_if_gt F e_X1_isGreaterShare_53 (fun q53 => ?_) (fun q53 => ?_)
  · obtain ⟨n101, hn101, rfl⟩ := nI_nn (x := x100) (fun e => Int32.lt_irrefl (Int32.lt_trans e (Int32.lt_of_le_of_lt (by decide) q53)))
    have c53 : n101 > 0 := (nI_ltI (a := 0) (b := n101) (by omega) (by omega)).mp q53
    refine m_iconst F (v := 1) (by decide) e_X1_isGreaterShare_80 ?_
    refine m_goto F e_X1_isGreaterShare_81 ?_
    exact m_zret F hQ e_X1_isGreaterShare_85 (by decide) (⟨h1, 1, by omega, rfl⟩)
  · refine m_lload F rfl e_X1_isGreaterShare_56 ?_
    refine m_lload F rfl e_X1_isGreaterShare_58 ?_
    refine m_lcmp F e_X1_isGreaterShare_60 ?_
    refine Wm.top (fun x102 _ => ?_)
    refine m_if_ne F e_X1_isGreaterShare_61 (fun q61 => ?_) (fun q61 => ?_)
    · refine m_iconst F (v := 0) (by decide) e_X1_isGreaterShare_84 ?_
      exact m_zret F hQ e_X1_isGreaterShare_85 (by decide) (⟨h1, 0, by omega, rfl⟩)
    · refine m_lload F rfl e_X1_isGreaterShare_64 ?_
      refine m_ldc2 F kc_X1_13 e_X1_isGreaterShare_66 ?_
      refine m_land F e_X1_isGreaterShare_69 ?_
      refine Wm.topl (fun x103 _ => ?_)
      refine m_lload F rfl e_X1_isGreaterShare_70 ?_
      refine m_ldc2 F kc_X1_13 e_X1_isGreaterShare_72 ?_
      refine m_land F e_X1_isGreaterShare_75 ?_
      refine Wm.topl (fun x104 _ => ?_)
      refine m_lcmp F e_X1_isGreaterShare_76 ?_
      refine Wm.top (fun x105 _ => ?_)
      refine m_if_le F e_X1_isGreaterShare_77 (fun q77 => ?_) (fun q77 => ?_)
      · refine m_iconst F (v := 0) (by decide) e_X1_isGreaterShare_84 ?_
        exact m_zret F hQ e_X1_isGreaterShare_85 (by decide) (⟨h1, 0, by omega, rfl⟩)
      · obtain ⟨n106, hn106, rfl⟩ := nI_nn (x := x105) (fun e => q77 (Int32.le_trans (Int32.le_of_lt e) (by decide)))
        have c77 : n106 > 0 := by have hh := mt (nI_leI (a := n106) (b := 0) (by omega) (by omega)).mpr q77; omega
        refine m_iconst F (v := 1) (by decide) e_X1_isGreaterShare_80 ?_
        refine m_goto F e_X1_isGreaterShare_81 ?_
        exact m_zret F hQ e_X1_isGreaterShare_85 (by decide) (⟨h1, 1, by omega, rfl⟩)
set_option maxRecDepth 20000 in
theorem s_X1_isAbove (l : Launch) (V : VX) (G : GH) (b M Z T N : Nat) (σ : Mem) (a : Nat) (r901 : Nat) (h0 : HT V G (b, M, Z, T) σ) (hk : kA b a = 6) (k901 : kA b r901 = 6) (hM : M + 0 ≤ 1000000000) : Ct l V yX1_isAbove cX1_isAbove 2 (some .boolean) 1 0 0 N σ [.ref a, .ref r901] (fun r τ => HK V G (b, M, Z, T) [0, 1, 2, 3, 4, 5, 6, 7, 8, 9, 10, 11, 12, 13, 14, 15, 16, 17, 18, 19] σ τ ∧ ∃ n : Nat, n ≤ 1 ∧ r = some (.int (nI n))) := by
  refine Ct.of (by decide) (Nat.le_of_ble_eq_true rfl) [(0, .ref a), (1, .ref r901)] rfl (fun X hX F hQ => ?_)
  have h1 : HK V G (b, M, Z, T) [0, 1, 2, 3, 4, 5, 6, 7, 8, 9, 10, 11, 12, 13, 14, 15, 16, 17, 18, 19] σ σ := HK.start h0
  refine m_aload_n F rfl e_X1_isAbove_0 ?_
  refine m_iconst F (v := 1) (by decide) e_X1_isAbove_1 ?_
  refine m_aload_n F rfl e_X1_isAbove_2 ?_
  refine m_iconst F (v := 1) (by decide) e_X1_isAbove_3 ?_
  refine t_callV F e_X1_isAbove_4 (s_X1_isGreaterShare (x_l X) V G b M Z T _ _ a 1 r901 1 h1.1 hk k901 (by omega)) cb_X1_isGreaterShare ml_X1_18 im_X1_isGreaterShare se_X1_isGreaterShare (fun _ => o6) h1 hk rfl rfl (rest := []) rfl (Nat.le_of_ble_eq_true rfl) ⟨Nat.le_of_ble_eq_true rfl, Nat.le_of_ble_eq_true rfl⟩ ⟨Nat.le_of_ble_eq_true rfl, Nat.le_of_ble_eq_true rfl⟩ (fun r σ107 hp => ?_)
  obtain ⟨h109, n110, hn110, rfl⟩ := hp
  have h108 := HK.trans h1 h109 (by decide)
  exact m_zret F hQ e_X1_isAbove_7 (nz1 (by omega)) (⟨h108, n110, by omega, rfl⟩)
set_option maxRecDepth 20000 in
theorem s_X1_holdToZero (l : Launch) (V : VX) (G : GH) (b M Z T N : Nat) (σ : Mem) (a : Nat) (h0 : HT V G (b, M, Z, T) σ) (hk : kA b a = 6) (hM : M + 0 ≤ 1000000000) : Ct l V yX1_holdToZero cX1_holdToZero 1 none 1 0 0 N σ [.ref a] (fun r τ => HK V G (b, M, Z, T) [0, 1, 2, 3, 4, 5, 7, 8, 9, 10, 11, 12, 13, 14, 15, 16, 17, 18, 19] σ τ ∧ r = none) := by
  refine Ct.of (by decide) (Nat.le_of_ble_eq_true rfl) [(0, .ref a)] rfl (fun X hX F hQ => ?_)
  have h1 : HK V G (b, M, Z, T) [0, 1, 2, 3, 4, 5, 7, 8, 9, 10, 11, 12, 13, 14, 15, 16, 17, 18, 19] σ σ := HK.start h0
  refine m_aload_n F rfl e_X1_holdToZero_0 ?_
  refine t_get F e_X1_holdToZero_1 fl_X1_9 (fun _ => o6) h1 hk rfl (fun v hv f111 => ?_)
  obtain ⟨x112, rfl⟩ := hv
  refine m_lconst F (v := 0) (by decide) e_X1_holdToZero_4 ?_
  refine m_lcmp F e_X1_holdToZero_5 ?_
  refine Wm.top (fun x113 _ => ?_)
  refine m_if_ge F e_X1_holdToZero_6 (fun q6 => ?_) (fun q6 => ?_)
  · obtain ⟨n114, hn114, rfl⟩ := nI_nn (x := x113) (fun e => Int32.lt_irrefl (Int32.lt_of_lt_of_le e (Int32.le_trans (by decide) q6)))
    have c6 : n114 ≥ 0 := (nI_leI (a := 0) (b := n114) (by omega) (by omega)).mp q6
    exact m_vret F hQ e_X1_holdToZero_14 (⟨h1, rfl⟩)
  · refine m_aload_n F rfl e_X1_holdToZero_9 ?_
    refine m_lconst F (v := 0) (by decide) e_X1_holdToZero_10 ?_
    refine t_callV F e_X1_holdToZero_11 (s_X1_set (x_l X) V G b M Z T _ _ a 0 h1.1 hk  (by omega)) cb_X1_set ml_X1_22 im_X1_set se_X1_set (fun _ => o6) h1 hk rfl rfl (rest := []) rfl (Nat.le_of_ble_eq_true rfl) ⟨Nat.le_of_ble_eq_true rfl, Nat.le_of_ble_eq_true rfl⟩ ⟨Nat.le_of_ble_eq_true rfl, Nat.le_of_ble_eq_true rfl⟩ (fun r σ115 hp => ?_)
    obtain ⟨h117, rfl⟩ := hp
    have h116 := HK.trans h1 h117 (by decide)
    exact m_vret F hQ e_X1_holdToZero_14 (⟨h116, rfl⟩)
set_option maxRecDepth 20000 in
theorem s_X1_addLong (l : Launch) (V : VX) (G : GH) (b M Z T N : Nat) (σ : Mem) (a : Nat) (x901 : Int64) (h0 : HT V G (b, M, Z, T) σ) (hk : kA b a = 6) (hM : M + 0 ≤ 1000000000) : Ct l V yX1_addLong cX1_addLong 3 none 0 0 0 N σ [.ref a, .long x901] (fun r τ => HK V G (b, M, Z, T) [0, 1, 2, 3, 4, 5, 7, 8, 9, 10, 11, 12, 13, 14, 15, 16, 17, 18, 19] σ τ ∧ r = none) := by
  refine Ct.of (by decide) (Nat.le_of_ble_eq_true rfl) [(0, .ref a), (1, .long x901)] rfl (fun X hX F hQ => ?_)
  have h1 : HK V G (b, M, Z, T) [0, 1, 2, 3, 4, 5, 7, 8, 9, 10, 11, 12, 13, 14, 15, 16, 17, 18, 19] σ σ := HK.start h0
  refine m_aload_n F rfl e_X1_addLong_0 ?_
  refine m_dup F rfl e_X1_addLong_1 ?_
  refine t_get F e_X1_addLong_2 fl_X1_15 (fun _ => o6) h1 hk rfl (fun v hv f118 => ?_)
  obtain ⟨x119, rfl⟩ := hv
  refine m_lload_n F rfl e_X1_addLong_5 ?_
  refine m_ldc2 F kc_X1_13 e_X1_addLong_6 ?_
  refine m_land F e_X1_addLong_9 ?_
  refine Wm.topl (fun x120 _ => ?_)
  refine m_ladd F e_X1_addLong_10 ?_
  refine Wm.topl (fun x121 _ => ?_)
  refine t_put F e_X1_addLong_11 fp_X1_15 (fun _ => o6) h1 hk rfl ⟨_, rfl⟩ rfl rfl (by decide) (fun σ122 h123 g124 g125 f126 => ?_)
  refine m_aload_n F rfl e_X1_addLong_14 ?_
  refine m_dup F rfl e_X1_addLong_15 ?_
  refine t_get F e_X1_addLong_16 fl_X1_9 (fun _ => o6) h123 hk rfl (fun v hv f127 => ?_)
  obtain ⟨x128, rfl⟩ := hv
  refine m_lload_n F rfl e_X1_addLong_19 ?_
  refine m_bipush F (v := 42) (by decide) e_X1_addLong_20 ?_
  refine m_lshr F e_X1_addLong_22 ?_
  refine Wm.topl (fun x129 _ => ?_)
  refine m_aload_n F rfl e_X1_addLong_23 ?_
  refine t_getC F e_X1_addLong_24 fl_X1_15 (fun _ => o6) h123 hk (f126) ?_
  refine m_bipush F (v := 42) (by decide) e_X1_addLong_27 ?_
  refine m_lshr F e_X1_addLong_29 ?_
  refine Wm.topl (fun x130 _ => ?_)
  refine m_ladd F e_X1_addLong_30 ?_
  refine Wm.topl (fun x131 _ => ?_)
  refine m_ladd F e_X1_addLong_31 ?_
  refine Wm.topl (fun x132 _ => ?_)
  refine t_put F e_X1_addLong_32 fp_X1_9 (fun _ => o6) h123 hk rfl ⟨_, rfl⟩ rfl rfl (by decide) (fun σ133 h134 g135 g136 f137 => ?_)
  refine m_aload_n F rfl e_X1_addLong_35 ?_
  refine m_dup F rfl e_X1_addLong_36 ?_
  refine t_getC F e_X1_addLong_37 fl_X1_15 (fun _ => o6) h134 hk ((g136 1 (by decide)).trans f126) ?_
  refine m_ldc2 F kc_X1_13 e_X1_addLong_40 ?_
  refine m_land F e_X1_addLong_43 ?_
  refine Wm.topl (fun x138 _ => ?_)
  refine t_put F e_X1_addLong_44 fp_X1_15 (fun _ => o6) h134 hk rfl ⟨_, rfl⟩ rfl rfl (by decide) (fun σ139 h140 g141 g142 f143 => ?_)
  exact m_vret F hQ e_X1_addLong_47 (⟨h140, rfl⟩)
set_option maxRecDepth 20000 in
theorem s_X1_add (l : Launch) (V : VX) (G : GH) (b M Z T N : Nat) (σ : Mem) (a : Nat) (r901 : Nat) (h0 : HT V G (b, M, Z, T) σ) (hk : kA b a = 6) (k901 : kA b r901 = 6) (hM : M + 0 ≤ 1000000000) : Ct l V yX1_add cX1_add 2 none 0 0 0 N σ [.ref a, .ref r901] (fun r τ => HK V G (b, M, Z, T) [0, 1, 2, 3, 4, 5, 7, 8, 9, 10, 11, 12, 13, 14, 15, 16, 17, 18, 19] σ τ ∧ r = none) := by
  refine Ct.of (by decide) (Nat.le_of_ble_eq_true rfl) [(0, .ref a), (1, .ref r901)] rfl (fun X hX F hQ => ?_)
  have h1 : HK V G (b, M, Z, T) [0, 1, 2, 3, 4, 5, 7, 8, 9, 10, 11, 12, 13, 14, 15, 16, 17, 18, 19] σ σ := HK.start h0
  refine m_aload_n F rfl e_X1_add_0 ?_
  refine m_dup F rfl e_X1_add_1 ?_
  refine t_get F e_X1_add_2 fl_X1_15 (fun _ => o6) h1 hk rfl (fun v hv f144 => ?_)
  obtain ⟨x145, rfl⟩ := hv
  refine m_aload_n F rfl e_X1_add_5 ?_
  refine t_get F e_X1_add_6 fl_X1_15 (fun _ => o6) h1 k901 rfl (fun v hv f146 => ?_)
  obtain ⟨x147, rfl⟩ := hv
  refine m_ladd F e_X1_add_9 ?_
  refine Wm.topl (fun x148 _ => ?_)
  refine t_put F e_X1_add_10 fp_X1_15 (fun _ => o6) h1 hk rfl ⟨_, rfl⟩ rfl rfl (by decide) (fun σ149 h150 g151 g152 f153 => ?_)
  refine m_aload_n F rfl e_X1_add_13 ?_
  refine m_dup F rfl e_X1_add_14 ?_
  refine t_get F e_X1_add_15 fl_X1_9 (fun _ => o6) h150 hk rfl (fun v hv f154 => ?_)
  obtain ⟨x155, rfl⟩ := hv
  refine m_aload_n F rfl e_X1_add_18 ?_
  refine t_get F e_X1_add_19 fl_X1_9 (fun _ => o6) h150 k901 rfl (fun v hv f156 => ?_)
  obtain ⟨x157, rfl⟩ := hv
  refine m_aload_n F rfl e_X1_add_22 ?_
  refine t_getC F e_X1_add_23 fl_X1_15 (fun _ => o6) h150 hk (f153) ?_
  refine m_bipush F (v := 42) (by decide) e_X1_add_26 ?_
  refine m_lshr F e_X1_add_28 ?_
  refine Wm.topl (fun x158 _ => ?_)
  refine m_ladd F e_X1_add_29 ?_
  refine Wm.topl (fun x159 _ => ?_)
  refine m_ladd F e_X1_add_30 ?_
  refine Wm.topl (fun x160 _ => ?_)
  refine t_put F e_X1_add_31 fp_X1_9 (fun _ => o6) h150 hk rfl ⟨_, rfl⟩ rfl rfl (by decide) (fun σ161 h162 g163 g164 f165 => ?_)
  refine m_aload_n F rfl e_X1_add_34 ?_
  refine m_dup F rfl e_X1_add_35 ?_
  refine t_getC F e_X1_add_36 fl_X1_15 (fun _ => o6) h162 hk ((g164 1 (by decide)).trans f153) ?_
  refine m_ldc2 F kc_X1_13 e_X1_add_39 ?_
  refine m_land F e_X1_add_42 ?_
  refine Wm.topl (fun x166 _ => ?_)
  refine t_put F e_X1_add_43 fp_X1_15 (fun _ => o6) h162 hk rfl ⟨_, rfl⟩ rfl rfl (by decide) (fun σ167 h168 g169 g170 f171 => ?_)
  exact m_vret F hQ e_X1_add_46 (⟨h168, rfl⟩)
set_option maxRecDepth 20000 in
theorem s_X1_subtract (l : Launch) (V : VX) (G : GH) (b M Z T N : Nat) (σ : Mem) (a : Nat) (r901 : Nat) (h0 : HT V G (b, M, Z, T) σ) (hk : kA b a = 6) (k901 : kA b r901 = 6) (hM : M + 0 ≤ 1000000000) : Ct l V yX1_subtract cX1_subtract 2 none 0 0 0 N σ [.ref a, .ref r901] (fun r τ => HK V G (b, M, Z, T) [0, 1, 2, 3, 4, 5, 7, 8, 9, 10, 11, 12, 13, 14, 15, 16, 17, 18, 19] σ τ ∧ r = none) := by
  refine Ct.of (by decide) (Nat.le_of_ble_eq_true rfl) [(0, .ref a), (1, .ref r901)] rfl (fun X hX F hQ => ?_)
  have h1 : HK V G (b, M, Z, T) [0, 1, 2, 3, 4, 5, 7, 8, 9, 10, 11, 12, 13, 14, 15, 16, 17, 18, 19] σ σ := HK.start h0
  refine m_aload_n F rfl e_X1_subtract_0 ?_
  refine m_dup F rfl e_X1_subtract_1 ?_
  refine t_get F e_X1_subtract_2 fl_X1_15 (fun _ => o6) h1 hk rfl (fun v hv f172 => ?_)
  obtain ⟨x173, rfl⟩ := hv
  refine m_aload_n F rfl e_X1_subtract_5 ?_
  refine t_get F e_X1_subtract_6 fl_X1_15 (fun _ => o6) h1 k901 rfl (fun v hv f174 => ?_)
  obtain ⟨x175, rfl⟩ := hv
  refine m_lsub F e_X1_subtract_9 ?_
  refine Wm.topl (fun x176 _ => ?_)
  refine t_put F e_X1_subtract_10 fp_X1_15 (fun _ => o6) h1 hk rfl ⟨_, rfl⟩ rfl rfl (by decide) (fun σ177 h178 g179 g180 f181 => ?_)
  refine m_aload_n F rfl e_X1_subtract_13 ?_
  refine m_dup F rfl e_X1_subtract_14 ?_
  refine t_get F e_X1_subtract_15 fl_X1_9 (fun _ => o6) h178 hk rfl (fun v hv f182 => ?_)
  obtain ⟨x183, rfl⟩ := hv
  refine m_aload_n F rfl e_X1_subtract_18 ?_
  refine t_getC F e_X1_subtract_19 fl_X1_15 (fun _ => o6) h178 hk (f181) ?_
  refine m_bipush F (v := 42) (by decide) e_X1_subtract_22 ?_
  refine m_lshr F e_X1_subtract_24 ?_
  refine Wm.topl (fun x184 _ => ?_)
  refine m_aload_n F rfl e_X1_subtract_25 ?_
  refine t_get F e_X1_subtract_26 fl_X1_9 (fun _ => o6) h178 k901 rfl (fun v hv f185 => ?_)
  obtain ⟨x186, rfl⟩ := hv
  refine m_lsub F e_X1_subtract_29 ?_
  refine Wm.topl (fun x187 _ => ?_)
  refine m_ladd F e_X1_subtract_30 ?_
  refine Wm.topl (fun x188 _ => ?_)
  refine t_put F e_X1_subtract_31 fp_X1_9 (fun _ => o6) h178 hk rfl ⟨_, rfl⟩ rfl rfl (by decide) (fun σ189 h190 g191 g192 f193 => ?_)
  refine m_aload_n F rfl e_X1_subtract_34 ?_
  refine m_dup F rfl e_X1_subtract_35 ?_
  refine t_getC F e_X1_subtract_36 fl_X1_15 (fun _ => o6) h190 hk ((g192 1 (by decide)).trans f181) ?_
  refine m_ldc2 F kc_X1_13 e_X1_subtract_39 ?_
  refine m_land F e_X1_subtract_42 ?_
  refine Wm.topl (fun x194 _ => ?_)
  refine t_put F e_X1_subtract_43 fp_X1_15 (fun _ => o6) h190 hk rfl ⟨_, rfl⟩ rfl rfl (by decide) (fun σ195 h196 g197 g198 f199 => ?_)
  exact m_vret F hQ e_X1_subtract_46 (⟨h196, rfl⟩)
set_option maxRecDepth 20000 in
theorem s_X1_times (l : Launch) (V : VX) (G : GH) (b M Z T N : Nat) (σ : Mem) (a : Nat) (x901 : Int64) (h0 : HT V G (b, M, Z, T) σ) (hk : kA b a = 6) (hM : M + 0 ≤ 1000000000) : Ct l V yX1_times cX1_times 3 none 0 0 0 N σ [.ref a, .long x901] (fun r τ => HK V G (b, M, Z, T) [0, 1, 2, 3, 4, 5, 7, 8, 9, 10, 11, 12, 13, 14, 15, 16, 17, 18, 19] σ τ ∧ r = none) := by
  refine Ct.of (by decide) (Nat.le_of_ble_eq_true rfl) [(0, .ref a), (1, .long x901)] rfl (fun X hX F hQ => ?_)
  have h1 : HK V G (b, M, Z, T) [0, 1, 2, 3, 4, 5, 7, 8, 9, 10, 11, 12, 13, 14, 15, 16, 17, 18, 19] σ σ := HK.start h0
  refine m_aload_n F rfl e_X1_times_0 ?_
  refine m_dup F rfl e_X1_times_1 ?_
  refine t_get F e_X1_times_2 fl_X1_15 (fun _ => o6) h1 hk rfl (fun v hv f200 => ?_)
  obtain ⟨x201, rfl⟩ := hv
  refine m_lload_n F rfl e_X1_times_5 ?_
  refine m_lmul F e_X1_times_6 ?_
  refine Wm.topl (fun x202 _ => ?_)
  refine t_put F e_X1_times_7 fp_X1_15 (fun _ => o6) h1 hk rfl ⟨_, rfl⟩ rfl rfl (by decide) (fun σ203 h204 g205 g206 f207 => ?_)
  refine m_aload_n F rfl e_X1_times_10 ?_
  refine m_aload_n F rfl e_X1_times_11 ?_
  refine t_get F e_X1_times_12 fl_X1_9 (fun _ => o6) h204 hk rfl (fun v hv f208 => ?_)
  obtain ⟨x209, rfl⟩ := hv
  refine m_lload_n F rfl e_X1_times_15 ?_
  refine m_lmul F e_X1_times_16 ?_
  refine Wm.topl (fun x210 _ => ?_)
  refine m_aload_n F rfl e_X1_times_17 ?_
  refine t_getC F e_X1_times_18 fl_X1_15 (fun _ => o6) h204 hk (f207) ?_
  refine m_bipush F (v := 42) (by decide) e_X1_times_21 ?_
  refine m_lshr F e_X1_times_23 ?_
  refine Wm.topl (fun x211 _ => ?_)
  refine m_ladd F e_X1_times_24 ?_
  refine Wm.topl (fun x212 _ => ?_)
  refine t_put F e_X1_times_25 fp_X1_9 (fun _ => o6) h204 hk rfl ⟨_, rfl⟩ rfl rfl (by decide) (fun σ213 h214 g215 g216 f217 => ?_)
  refine m_aload_n F rfl e_X1_times_28 ?_
  refine m_dup F rfl e_X1_times_29 ?_
  refine t_getC F e_X1_times_30 fl_X1_15 (fun _ => o6) h214 hk ((g216 1 (by decide)).trans f207) ?_
  refine m_ldc2 F kc_X1_13 e_X1_times_33 ?_
  refine m_land F e_X1_times_36 ?_
  refine Wm.topl (fun x218 _ => ?_)
  refine t_put F e_X1_times_37 fp_X1_15 (fun _ => o6) h214 hk rfl ⟨_, rfl⟩ rfl rfl (by decide) (fun σ219 h220 g221 g222 f223 => ?_)
  exact m_vret F hQ e_X1_times_40 (⟨h220, rfl⟩)
set_option maxRecDepth 20000 in
theorem s_X1_share (l : Launch) (V : VX) (G : GH) (b M Z T N : Nat) (σ : Mem) (a : Nat) (x901 : Int64) (x902 : Int64) (x903 : Int64) (h0 : HT V G (b, M, Z, T) σ) (hk : kA b a = 6) (hM : M + 0 ≤ 1000000000) : Ct l V yX1_share cX1_share 9 none 0 0 0 N σ [.ref a, .long x901, .long x902, .long x903] (fun r τ => HK V G (b, M, Z, T) [0, 1, 2, 3, 4, 5, 7, 8, 9, 10, 11, 12, 13, 14, 15, 16, 17, 18, 19] σ τ ∧ r = none) := by
  refine Ct.of (by decide) (Nat.le_of_ble_eq_true rfl) [(0, .ref a), (1, .long x901), (3, .long x902), (5, .long x903)] rfl (fun X hX F hQ => ?_)
  have h1 : HK V G (b, M, Z, T) [0, 1, 2, 3, 4, 5, 7, 8, 9, 10, 11, 12, 13, 14, 15, 16, 17, 18, 19] σ σ := HK.start h0
  refine m_lload_n F rfl e_X1_share_0 ?_
  refine m_lconst F (v := 0) (by decide) e_X1_share_1 ?_
  refine m_lcmp F e_X1_share_2 ?_
  refine m_if_gt F e_X1_share_3 (fun q3 => ?_) (fun q3 => ?_)
  · have hnz : ¬ x902 = 0 := by intro e; rw [e] at q3; revert q3; decide
    refine m_aload_n F rfl e_X1_share_7 ?_
    refine t_get F e_X1_share_8 fl_X1_9 (fun _ => o6) h1 hk rfl (fun v hv f224 => ?_)
    obtain ⟨x225, rfl⟩ := hv
    refine m_lload_n F rfl e_X1_share_11 ?_
    refine m_lrem F hnz e_X1_share_12 ?_
    refine Wm.topl (fun x226 _ => ?_)
    refine m_bipush F (v := 42) (by decide) e_X1_share_13 ?_
    refine m_lshl F e_X1_share_15 ?_
    refine Wm.topl (fun x227 _ => ?_)
    refine m_aload_n F rfl e_X1_share_16 ?_
    refine t_get F e_X1_share_17 fl_X1_15 (fun _ => o6) h1 hk rfl (fun v hv f228 => ?_)
    obtain ⟨x229, rfl⟩ := hv
    refine m_ladd F e_X1_share_20 ?_
    refine Wm.topl (fun x230 _ => ?_)
    refine m_lstore F (lv' := [(7, .long x230), (0, .ref a), (1, .long x901), (3, .long x902), (5, .long x903)]) e_X1_share_21 (by decide) rfl ?_
    refine m_aload_n F rfl e_X1_share_23 ?_
    refine m_lload F rfl e_X1_share_24 ?_
    refine m_lload_n F rfl e_X1_share_26 ?_
    refine m_ldiv F hnz e_X1_share_27 ?_
    refine Wm.topl (fun x231 _ => ?_)
    refine m_lload_n F rfl e_X1_share_28 ?_
    refine m_lmul F e_X1_share_29 ?_
    refine Wm.topl (fun x232 _ => ?_)
    refine m_lload F rfl e_X1_share_30 ?_
    refine m_lload_n F rfl e_X1_share_32 ?_
    refine m_lrem F hnz e_X1_share_33 ?_
    refine Wm.topl (fun x233 _ => ?_)
    refine m_lload_n F rfl e_X1_share_34 ?_
    refine m_lmul F e_X1_share_35 ?_
    refine Wm.topl (fun x234 _ => ?_)
    refine m_lload F rfl e_X1_share_36 ?_
    refine m_ladd F e_X1_share_38 ?_
    refine Wm.topl (fun x235 _ => ?_)
    refine m_lload_n F rfl e_X1_share_39 ?_
    refine m_ldiv F hnz e_X1_share_40 ?_
    refine Wm.topl (fun x236 _ => ?_)
    refine m_ladd F e_X1_share_41 ?_
    refine Wm.topl (fun x237 _ => ?_)
    refine t_put F e_X1_share_42 fp_X1_15 (fun _ => o6) h1 hk rfl ⟨_, rfl⟩ rfl rfl (by decide) (fun σ238 h239 g240 g241 f242 => ?_)
    refine m_aload_n F rfl e_X1_share_45 ?_
    refine m_aload_n F rfl e_X1_share_46 ?_
    refine t_getC F e_X1_share_47 fl_X1_9 (fun _ => o6) h239 hk ((g241 0 (by decide)).trans f224) ?_
    refine m_lload_n F rfl e_X1_share_50 ?_
    refine m_ldiv F hnz e_X1_share_51 ?_
    refine Wm.topl (fun x243 _ => ?_)
    refine m_lload_n F rfl e_X1_share_52 ?_
    refine m_lmul F e_X1_share_53 ?_
    refine Wm.topl (fun x244 _ => ?_)
    refine m_aload_n F rfl e_X1_share_54 ?_
    refine t_getC F e_X1_share_55 fl_X1_15 (fun _ => o6) h239 hk (f242) ?_
    refine m_bipush F (v := 42) (by decide) e_X1_share_58 ?_
    refine m_lshr F e_X1_share_60 ?_
    refine Wm.topl (fun x245 _ => ?_)
    refine m_ladd F e_X1_share_61 ?_
    refine Wm.topl (fun x246 _ => ?_)
    refine t_put F e_X1_share_62 fp_X1_9 (fun _ => o6) h239 hk rfl ⟨_, rfl⟩ rfl rfl (by decide) (fun σ247 h248 g249 g250 f251 => ?_)
    refine m_aload_n F rfl e_X1_share_65 ?_
    refine m_dup F rfl e_X1_share_66 ?_
    refine t_getC F e_X1_share_67 fl_X1_15 (fun _ => o6) h248 hk ((g250 1 (by decide)).trans f242) ?_
    refine m_ldc2 F kc_X1_13 e_X1_share_70 ?_
    refine m_land F e_X1_share_73 ?_
    refine Wm.topl (fun x252 _ => ?_)
    refine t_put F e_X1_share_74 fp_X1_15 (fun _ => o6) h248 hk rfl ⟨_, rfl⟩ rfl rfl (by decide) (fun σ253 h254 g255 g256 f257 => ?_)
    exact m_vret F hQ e_X1_share_77 (⟨h254, rfl⟩)
  · exact m_vret F hQ e_X1_share_6 (⟨h1, rfl⟩)
set_option maxRecDepth 20000 in
theorem s_X1_shareDown (l : Launch) (V : VX) (G : GH) (b M Z T N : Nat) (σ : Mem) (a : Nat) (x901 : Int64) (x902 : Int64) (h0 : HT V G (b, M, Z, T) σ) (hk : kA b a = 6) (hM : M + 0 ≤ 1000000000) : Ct l V yX1_shareDown cX1_shareDown 5 none 1 0 0 N σ [.ref a, .long x901, .long x902] (fun r τ => HK V G (b, M, Z, T) [0, 1, 2, 3, 4, 5, 7, 8, 9, 10, 11, 12, 13, 14, 15, 16, 17, 18, 19] σ τ ∧ r = none) := by
  refine Ct.of (by decide) (Nat.le_of_ble_eq_true rfl) [(0, .ref a), (1, .long x901), (3, .long x902)] rfl (fun X hX F hQ => ?_)
  have h1 : HK V G (b, M, Z, T) [0, 1, 2, 3, 4, 5, 7, 8, 9, 10, 11, 12, 13, 14, 15, 16, 17, 18, 19] σ σ := HK.start h0
  refine m_aload_n F rfl e_X1_shareDown_0 ?_
  refine m_lload_n F rfl e_X1_shareDown_1 ?_
  refine m_lload_n F rfl e_X1_shareDown_2 ?_
  refine m_lconst F (v := 0) (by decide) e_X1_shareDown_3 ?_
  refine t_callV F e_X1_shareDown_4 (s_X1_share (x_l X) V G b M Z T _ _ a x901 x902 0 h1.1 hk  (by omega)) cb_X1_share ml_X1_26 im_X1_share se_X1_share (fun _ => o6) h1 hk rfl rfl (rest := []) rfl (Nat.le_of_ble_eq_true rfl) ⟨Nat.le_of_ble_eq_true rfl, Nat.le_of_ble_eq_true rfl⟩ ⟨Nat.le_of_ble_eq_true rfl, Nat.le_of_ble_eq_true rfl⟩ (fun r σ258 hp => ?_)
  obtain ⟨h260, rfl⟩ := hp
  have h259 := HK.trans h1 h260 (by decide)
  exact m_vret F hQ e_X1_shareDown_7 (⟨h259, rfl⟩)
set_option maxRecDepth 20000 in
theorem s_X1_shareRounded (l : Launch) (V : VX) (G : GH) (b M Z T N : Nat) (σ : Mem) (a : Nat) (x901 : Int64) (x902 : Int64) (h0 : HT V G (b, M, Z, T) σ) (hk : kA b a = 6) (hM : M + 0 ≤ 1000000000) : Ct l V yX1_shareRounded cX1_shareRounded 5 none 1 0 0 N σ [.ref a, .long x901, .long x902] (fun r τ => HK V G (b, M, Z, T) [0, 1, 2, 3, 4, 5, 7, 8, 9, 10, 11, 12, 13, 14, 15, 16, 17, 18, 19] σ τ ∧ r = none) := by
  refine Ct.of (by decide) (Nat.le_of_ble_eq_true rfl) [(0, .ref a), (1, .long x901), (3, .long x902)] rfl (fun X hX F hQ => ?_)
  have h1 : HK V G (b, M, Z, T) [0, 1, 2, 3, 4, 5, 7, 8, 9, 10, 11, 12, 13, 14, 15, 16, 17, 18, 19] σ σ := HK.start h0
  refine m_aload_n F rfl e_X1_shareRounded_0 ?_
  refine m_lload_n F rfl e_X1_shareRounded_1 ?_
  refine m_lload_n F rfl e_X1_shareRounded_2 ?_
  refine m_lload_n F rfl e_X1_shareRounded_3 ?_
  refine m_ldc2 F kc_X1_30 e_X1_shareRounded_4 ?_
  refine m_ldiv F (by decide) e_X1_shareRounded_7 ?_
  refine Wm.topl (fun x261 _ => ?_)
  refine t_callV F e_X1_shareRounded_8 (s_X1_share (x_l X) V G b M Z T _ _ a x901 x902 x261 h1.1 hk  (by omega)) cb_X1_share ml_X1_26 im_X1_share se_X1_share (fun _ => o6) h1 hk rfl rfl (rest := []) rfl (Nat.le_of_ble_eq_true rfl) ⟨Nat.le_of_ble_eq_true rfl, Nat.le_of_ble_eq_true rfl⟩ ⟨Nat.le_of_ble_eq_true rfl, Nat.le_of_ble_eq_true rfl⟩ (fun r σ262 hp => ?_)
  obtain ⟨h264, rfl⟩ := hp
  have h263 := HK.trans h1 h264 (by decide)
  exact m_vret F hQ e_X1_shareRounded_11 (⟨h263, rfl⟩)
set_option maxRecDepth 20000 in
theorem lp_X1_takeOut_64 {V : VX} {G : GH} {X : MX} {b M Z T N : Nat} {σ : Mem} {a : Nat} {r901 : Nat}  (F : Fx V X yX1_takeOut cX1_takeOut 11 (some .long) (rmd 0 0 0)) (hQ : Rt V X 0 0 N (fun r τ => HK V G (b, M, Z, T) [0, 1, 2, 3, 4, 5, 7, 8, 9, 10, 11, 12, 13, 14, 15, 16, 17, 18, 19] σ τ ∧ ∃ x : Int64, r = some (.long x))) (hk : kA b a = 6) (k901 : kA b r901 = 6) (hM : M + 0 ≤ 1000000000)  : ∀ (fuel : Nat) (i : Nat) (u1 : Int64) (u2 : Int64) (u3 : Int64) (τ : Mem), HK V G (b, M, Z, T) [0, 1, 2, 3, 4, 5, 7, 8, 9, 10, 11, 12, 13, 14, 15, 16, 17, 18, 19] σ τ → i ≤ 104 → i < fuel → Wm V X 11 N τ 0 0 64 [(8, .int (nI i)), (0, .ref a), (1, .ref r901), (2, .long u1), (4, .long u2), (6, .long u3)] [] := by
  intro fuel
  induction fuel with
  | zero => intro i u1 u2 u3 τ h1 hi hm; exact absurd hm (Nat.not_lt_zero _)
  | succ fuel ih =>
    intro i u1 u2 u3 τ h1 hi hm
    refine m_iload F rfl e_X1_takeOut_64 ?_
    refine m_if_lt F e_X1_takeOut_66 (fun q66 => ?_) (fun q66 => ?_)
    · have c66 : i < 0 := (nI_ltI (a := i) (b := 0) (by omega) (by omega)).mp q66
      refine m_aload_n F rfl e_X1_takeOut_211 ?_
      refine m_lload F rfl e_X1_takeOut_212 ?_
      refine t_put F e_X1_takeOut_214 fp_X1_9 (fun _ => o6) h1 hk rfl ⟨_, rfl⟩ rfl rfl (by decide) (fun σ265 h266 g267 g268 f269 => ?_)
      refine m_aload_n F rfl e_X1_takeOut_217 ?_
      refine m_lload F rfl e_X1_takeOut_218 ?_
      refine t_put F e_X1_takeOut_220 fp_X1_15 (fun _ => o6) h266 hk rfl ⟨_, rfl⟩ rfl rfl (by decide) (fun σ270 h271 g272 g273 f274 => ?_)
      refine m_lload_n F rfl e_X1_takeOut_223 ?_
      exact m_lret F hQ e_X1_takeOut_224 (⟨h271, _, rfl⟩)
    · have c66 : i ≥ 0 := by have hh := mt (nI_ltI (a := i) (b := 0) (by omega) (by omega)).mpr q66; omega
      refine m_iload F rfl e_X1_takeOut_69 ?_
      refine m_bipush F (v := 42) (by decide) e_X1_takeOut_71 ?_
      refine m_icmp_lt F e_X1_takeOut_73 (fun q73 => ?_) (fun q73 => ?_)
      · have c73 : i < 42 := (nI_ltI (a := i) (b := 42) (by omega) (by omega)).mp q73
        refine m_aload_n F rfl e_X1_takeOut_89 ?_
        refine t_get F e_X1_takeOut_90 fl_X1_15 (fun _ => o6) h1 hk rfl (fun v hv f275 => ?_)
        obtain ⟨x276, rfl⟩ := hv
        refine m_iload F rfl e_X1_takeOut_93 ?_
        refine m_lshr F e_X1_takeOut_95 ?_
        refine Wm.topl (fun x277 _ => ?_)
        refine m_lconst F (v := 1) (by decide) e_X1_takeOut_96 ?_
        refine m_land F e_X1_takeOut_97 ?_
        refine Wm.topl (fun x278 _ => ?_)
        refine m_lstore F (lv' := [(9, .long x278), (8, .int (nI i)), (0, .ref a), (1, .ref r901), (2, .long u1), (4, .long u2), (6, .long u3)]) e_X1_takeOut_98 (by decide) rfl ?_
        refine m_lload F rfl e_X1_takeOut_100 ?_
        refine m_ldc2 F kc_X1_30 e_X1_takeOut_102 ?_
        refine m_lmul F e_X1_takeOut_105 ?_
        refine Wm.topl (fun x279 _ => ?_)
        refine m_lload F rfl e_X1_takeOut_106 ?_
        refine m_ladd F e_X1_takeOut_108 ?_
        refine Wm.topl (fun x280 _ => ?_)
        refine m_lstore F (lv' := [(6, .long x280), (9, .long x278), (8, .int (nI i)), (0, .ref a), (1, .ref r901), (2, .long u1), (4, .long u2)]) e_X1_takeOut_109 (by decide) rfl ?_
        refine m_lload F rfl e_X1_takeOut_111 ?_
        refine m_ldc2 F kc_X1_30 e_X1_takeOut_113 ?_
        refine m_lmul F e_X1_takeOut_116 ?_
        refine Wm.topl (fun x281 _ => ?_)
        refine m_lload F rfl e_X1_takeOut_117 ?_
        refine m_bipush F (v := 42) (by decide) e_X1_takeOut_119 ?_
        refine m_lshr F e_X1_takeOut_121 ?_
        refine Wm.topl (fun x282 _ => ?_)
        refine m_ladd F e_X1_takeOut_122 ?_
        refine Wm.topl (fun x283 _ => ?_)
        refine m_lstore F (lv' := [(4, .long x283), (6, .long x280), (9, .long x278), (8, .int (nI i)), (0, .ref a), (1, .ref r901), (2, .long u1)]) e_X1_takeOut_123 (by decide) rfl ?_
        refine m_lload F rfl e_X1_takeOut_125 ?_
        refine m_ldc2 F kc_X1_13 e_X1_takeOut_127 ?_
        refine m_land F e_X1_takeOut_130 ?_
        refine Wm.topl (fun x284 _ => ?_)
        refine m_lstore F (lv' := [(6, .long x284), (4, .long x283), (9, .long x278), (8, .int (nI i)), (0, .ref a), (1, .ref r901), (2, .long u1)]) e_X1_takeOut_131 (by decide) rfl ?_
        refine m_lload_n F rfl e_X1_takeOut_133 ?_
        refine m_ldc2 F kc_X1_30 e_X1_takeOut_134 ?_
        refine m_lmul F e_X1_takeOut_137 ?_
        refine Wm.topl (fun x285 _ => ?_)
        refine m_lstore_n F (lv' := [(2, .long x285), (6, .long x284), (4, .long x283), (9, .long x278), (8, .int (nI i)), (0, .ref a), (1, .ref r901)]) e_X1_takeOut_138 (by decide) rfl ?_
        refine m_lload F rfl e_X1_takeOut_139 ?_
        refine m_aload_n F rfl e_X1_takeOut_141 ?_
        refine t_get F e_X1_takeOut_142 fl_X1_9 (fun _ => o6) h1 k901 rfl (fun v hv f286 => ?_)
        obtain ⟨x287, rfl⟩ := hv
        refine m_lcmp F e_X1_takeOut_145 ?_
        refine Wm.top (fun x288 _ => ?_)
        refine m_if_gt F e_X1_takeOut_146 (fun q146 => ?_) (fun q146 => ?_)
        · obtain ⟨n289, hn289, rfl⟩ := nI_nn (x := x288) (fun e => Int32.lt_irrefl (Int32.lt_trans e (Int32.lt_of_le_of_lt (by decide) q146)))
          have c146 : n289 > 0 := (nI_ltI (a := 0) (b := n289) (by omega) (by omega)).mp q146
          refine m_lload F rfl e_X1_takeOut_169 ?_
          refine m_aload_n F rfl e_X1_takeOut_171 ?_
          refine t_get F e_X1_takeOut_172 fl_X1_15 (fun _ => o6) h1 k901 rfl (fun v hv f290 => ?_)
          obtain ⟨x291, rfl⟩ := hv
          refine m_lsub F e_X1_takeOut_175 ?_
          refine Wm.topl (fun x292 _ => ?_)
          refine m_lstore F (lv' := [(6, .long x292), (2, .long x285), (4, .long x283), (9, .long x278), (8, .int (nI i)), (0, .ref a), (1, .ref r901)]) e_X1_takeOut_176 (by decide) rfl ?_
          refine m_lload F rfl e_X1_takeOut_178 ?_
          refine m_lload F rfl e_X1_takeOut_180 ?_
          refine m_bipush F (v := 42) (by decide) e_X1_takeOut_182 ?_
          refine m_lshr F e_X1_takeOut_184 ?_
          refine Wm.topl (fun x293 _ => ?_)
          refine m_aload_n F rfl e_X1_takeOut_185 ?_
          refine t_getC F e_X1_takeOut_186 fl_X1_9 (fun _ => o6) h1 k901 (f286) ?_
          refine m_lsub F e_X1_takeOut_189 ?_
          refine Wm.topl (fun x294 _ => ?_)
          refine m_ladd F e_X1_takeOut_190 ?_
          refine Wm.topl (fun x295 _ => ?_)
          refine m_lstore F (lv' := [(4, .long x295), (6, .long x292), (2, .long x285), (9, .long x278), (8, .int (nI i)), (0, .ref a), (1, .ref r901)]) e_X1_takeOut_191 (by decide) rfl ?_
          refine m_lload F rfl e_X1_takeOut_193 ?_
          refine m_ldc2 F kc_X1_13 e_X1_takeOut_195 ?_
          refine m_land F e_X1_takeOut_198 ?_
          refine Wm.topl (fun x296 _ => ?_)
          refine m_lstore F (lv' := [(6, .long x296), (4, .long x295), (2, .long x285), (9, .long x278), (8, .int (nI i)), (0, .ref a), (1, .ref r901)]) e_X1_takeOut_199 (by decide) rfl ?_
          refine m_lload_n F rfl e_X1_takeOut_201 ?_
          refine m_lconst F (v := 1) (by decide) e_X1_takeOut_202 ?_
          refine m_ladd F e_X1_takeOut_203 ?_
          refine Wm.topl (fun x297 _ => ?_)
          refine m_lstore_n F (lv' := [(2, .long x297), (6, .long x296), (4, .long x295), (9, .long x278), (8, .int (nI i)), (0, .ref a), (1, .ref r901)]) e_X1_takeOut_204 (by decide) rfl ?_
          rcases Nat.eq_zero_or_pos (i) with e205 | e205
          · subst e205
            refine m_iinc F (v := -1) (lv' := [(8, .int (-1)), (2, .long x297), (6, .long x296), (4, .long x295), (9, .long x278), (0, .ref a), (1, .ref r901)]) e_X1_takeOut_205 rfl (by decide) (by decide) rfl ?_
            refine m_goto F e_X1_takeOut_208 ?_
            refine Wm.lvsub (lv' := [(8, .int (-1)), (0, .ref a), (1, .ref r901), (2, .long x297), (4, .long x295), (6, .long x296)]) ?_ [0, 5, 6, 1, 3, 2] rfl
            refine m_iload F rfl e_X1_takeOut_64 ?_
            refine m_if_lt F e_X1_takeOut_66 (fun _ => ?_) (fun q => absurd (by decide) q)
            refine m_aload_n F rfl e_X1_takeOut_211 ?_
            refine m_lload F rfl e_X1_takeOut_212 ?_
            refine t_put F e_X1_takeOut_214 fp_X1_9 (fun _ => o6) h1 hk rfl ⟨_, rfl⟩ rfl rfl (by decide) (fun σ298 h299 g300 g301 f302 => ?_)
            refine m_aload_n F rfl e_X1_takeOut_217 ?_
            refine m_lload F rfl e_X1_takeOut_218 ?_
            refine t_put F e_X1_takeOut_220 fp_X1_15 (fun _ => o6) h299 hk rfl ⟨_, rfl⟩ rfl rfl (by decide) (fun σ303 h304 g305 g306 f307 => ?_)
            refine m_lload_n F rfl e_X1_takeOut_223 ?_
            exact m_lret F hQ e_X1_takeOut_224 (⟨h304, _, rfl⟩)
          · refine m_iinc F (v := nI (i - 1)) (lv' := [(8, .int (nI (i - 1))), (2, .long x297), (6, .long x296), (4, .long x295), (9, .long x278), (0, .ref a), (1, .ref r901)]) e_X1_takeOut_205 rfl (nI_dec (by omega)) (by decide) rfl ?_
            refine m_goto F e_X1_takeOut_208 ?_
            refine Wm.lvsub (lv' := [(8, .int (nI (i - 1))), (0, .ref a), (1, .ref r901), (2, .long x297), (4, .long x295), (6, .long x296)]) ?_ [0, 5, 6, 1, 3, 2] rfl
            exact ih (i - 1) x297 x295 x296 _ h1 (by omega) (by omega)
        · refine m_lload F rfl e_X1_takeOut_149 ?_
          refine m_aload_n F rfl e_X1_takeOut_151 ?_
          refine t_getC F e_X1_takeOut_152 fl_X1_9 (fun _ => o6) h1 k901 (f286) ?_
          refine m_lcmp F e_X1_takeOut_155 ?_
          refine Wm.top (fun x308 _ => ?_)
          refine m_if_ne F e_X1_takeOut_156 (fun q156 => ?_) (fun q156 => ?_)
          · rcases Nat.eq_zero_or_pos (i) with e205 | e205
            · subst e205
              refine m_iinc F (v := -1) (lv' := [(8, .int (-1)), (2, .long x285), (6, .long x284), (4, .long x283), (9, .long x278), (0, .ref a), (1, .ref r901)]) e_X1_takeOut_205 rfl (by decide) (by decide) rfl ?_
              refine m_goto F e_X1_takeOut_208 ?_
              refine Wm.lvsub (lv' := [(8, .int (-1)), (0, .ref a), (1, .ref r901), (2, .long x285), (4, .long x283), (6, .long x284)]) ?_ [0, 5, 6, 1, 3, 2] rfl
              refine m_iload F rfl e_X1_takeOut_64 ?_
              refine m_if_lt F e_X1_takeOut_66 (fun _ => ?_) (fun q => absurd (by decide) q)
              refine m_aload_n F rfl e_X1_takeOut_211 ?_
              refine m_lload F rfl e_X1_takeOut_212 ?_
              refine t_put F e_X1_takeOut_214 fp_X1_9 (fun _ => o6) h1 hk rfl ⟨_, rfl⟩ rfl rfl (by decide) (fun σ309 h310 g311 g312 f313 => ?_)
              refine m_aload_n F rfl e_X1_takeOut_217 ?_
              refine m_lload F rfl e_X1_takeOut_218 ?_
              refine t_put F e_X1_takeOut_220 fp_X1_15 (fun _ => o6) h310 hk rfl ⟨_, rfl⟩ rfl rfl (by decide) (fun σ314 h315 g316 g317 f318 => ?_)
              refine m_lload_n F rfl e_X1_takeOut_223 ?_
              exact m_lret F hQ e_X1_takeOut_224 (⟨h315, _, rfl⟩)
            · refine m_iinc F (v := nI (i - 1)) (lv' := [(8, .int (nI (i - 1))), (2, .long x285), (6, .long x284), (4, .long x283), (9, .long x278), (0, .ref a), (1, .ref r901)]) e_X1_takeOut_205 rfl (nI_dec (by omega)) (by decide) rfl ?_
              refine m_goto F e_X1_takeOut_208 ?_
              refine Wm.lvsub (lv' := [(8, .int (nI (i - 1))), (0, .ref a), (1, .ref r901), (2, .long x285), (4, .long x283), (6, .long x284)]) ?_ [0, 5, 6, 1, 3, 2] rfl
              exact ih (i - 1) x285 x283 x284 _ h1 (by omega) (by omega)
          · refine m_lload F rfl e_X1_takeOut_159 ?_
            refine m_aload_n F rfl e_X1_takeOut_161 ?_
            refine t_get F e_X1_takeOut_162 fl_X1_15 (fun _ => o6) h1 k901 rfl (fun v hv f319 => ?_)
            obtain ⟨x320, rfl⟩ := hv
            refine m_lcmp F e_X1_takeOut_165 ?_
            refine Wm.top (fun x321 _ => ?_)
            refine m_if_lt F e_X1_takeOut_166 (fun q166 => ?_) (fun q166 => ?_)
            · rcases Nat.eq_zero_or_pos (i) with e205 | e205
              · subst e205
                refine m_iinc F (v := -1) (lv' := [(8, .int (-1)), (2, .long x285), (6, .long x284), (4, .long x283), (9, .long x278), (0, .ref a), (1, .ref r901)]) e_X1_takeOut_205 rfl (by decide) (by decide) rfl ?_
                refine m_goto F e_X1_takeOut_208 ?_
                refine Wm.lvsub (lv' := [(8, .int (-1)), (0, .ref a), (1, .ref r901), (2, .long x285), (4, .long x283), (6, .long x284)]) ?_ [0, 5, 6, 1, 3, 2] rfl
                refine m_iload F rfl e_X1_takeOut_64 ?_
                refine m_if_lt F e_X1_takeOut_66 (fun _ => ?_) (fun q => absurd (by decide) q)
                refine m_aload_n F rfl e_X1_takeOut_211 ?_
                refine m_lload F rfl e_X1_takeOut_212 ?_
                refine t_put F e_X1_takeOut_214 fp_X1_9 (fun _ => o6) h1 hk rfl ⟨_, rfl⟩ rfl rfl (by decide) (fun σ322 h323 g324 g325 f326 => ?_)
                refine m_aload_n F rfl e_X1_takeOut_217 ?_
                refine m_lload F rfl e_X1_takeOut_218 ?_
                refine t_put F e_X1_takeOut_220 fp_X1_15 (fun _ => o6) h323 hk rfl ⟨_, rfl⟩ rfl rfl (by decide) (fun σ327 h328 g329 g330 f331 => ?_)
                refine m_lload_n F rfl e_X1_takeOut_223 ?_
                exact m_lret F hQ e_X1_takeOut_224 (⟨h328, _, rfl⟩)
              · refine m_iinc F (v := nI (i - 1)) (lv' := [(8, .int (nI (i - 1))), (2, .long x285), (6, .long x284), (4, .long x283), (9, .long x278), (0, .ref a), (1, .ref r901)]) e_X1_takeOut_205 rfl (nI_dec (by omega)) (by decide) rfl ?_
                refine m_goto F e_X1_takeOut_208 ?_
                refine Wm.lvsub (lv' := [(8, .int (nI (i - 1))), (0, .ref a), (1, .ref r901), (2, .long x285), (4, .long x283), (6, .long x284)]) ?_ [0, 5, 6, 1, 3, 2] rfl
                exact ih (i - 1) x285 x283 x284 _ h1 (by omega) (by omega)
            · obtain ⟨n332, hn332, rfl⟩ := nI_nn (x := x321) (fun e => q166 (Int32.lt_of_lt_of_le e (by decide)))
              have c166 : n332 ≥ 0 := by have hh := mt (nI_ltI (a := n332) (b := 0) (by omega) (by omega)).mpr q166; omega
              refine m_lload F rfl e_X1_takeOut_169 ?_
              refine m_aload_n F rfl e_X1_takeOut_171 ?_
              refine t_getC F e_X1_takeOut_172 fl_X1_15 (fun _ => o6) h1 k901 (f319) ?_
              refine m_lsub F e_X1_takeOut_175 ?_
              refine Wm.topl (fun x333 _ => ?_)
              refine m_lstore F (lv' := [(6, .long x333), (2, .long x285), (4, .long x283), (9, .long x278), (8, .int (nI i)), (0, .ref a), (1, .ref r901)]) e_X1_takeOut_176 (by decide) rfl ?_
              refine m_lload F rfl e_X1_takeOut_178 ?_
              refine m_lload F rfl e_X1_takeOut_180 ?_
              refine m_bipush F (v := 42) (by decide) e_X1_takeOut_182 ?_
              refine m_lshr F e_X1_takeOut_184 ?_
              refine Wm.topl (fun x334 _ => ?_)
              refine m_aload_n F rfl e_X1_takeOut_185 ?_
              refine t_getC F e_X1_takeOut_186 fl_X1_9 (fun _ => o6) h1 k901 (f286) ?_
              refine m_lsub F e_X1_takeOut_189 ?_
              refine Wm.topl (fun x335 _ => ?_)
              refine m_ladd F e_X1_takeOut_190 ?_
              refine Wm.topl (fun x336 _ => ?_)
              refine m_lstore F (lv' := [(4, .long x336), (6, .long x333), (2, .long x285), (9, .long x278), (8, .int (nI i)), (0, .ref a), (1, .ref r901)]) e_X1_takeOut_191 (by decide) rfl ?_
              refine m_lload F rfl e_X1_takeOut_193 ?_
              refine m_ldc2 F kc_X1_13 e_X1_takeOut_195 ?_
              refine m_land F e_X1_takeOut_198 ?_
              refine Wm.topl (fun x337 _ => ?_)
              refine m_lstore F (lv' := [(6, .long x337), (4, .long x336), (2, .long x285), (9, .long x278), (8, .int (nI i)), (0, .ref a), (1, .ref r901)]) e_X1_takeOut_199 (by decide) rfl ?_
              refine m_lload_n F rfl e_X1_takeOut_201 ?_
              refine m_lconst F (v := 1) (by decide) e_X1_takeOut_202 ?_
              refine m_ladd F e_X1_takeOut_203 ?_
              refine Wm.topl (fun x338 _ => ?_)
              refine m_lstore_n F (lv' := [(2, .long x338), (6, .long x337), (4, .long x336), (9, .long x278), (8, .int (nI i)), (0, .ref a), (1, .ref r901)]) e_X1_takeOut_204 (by decide) rfl ?_
              rcases Nat.eq_zero_or_pos (i) with e205 | e205
              · subst e205
                refine m_iinc F (v := -1) (lv' := [(8, .int (-1)), (2, .long x338), (6, .long x337), (4, .long x336), (9, .long x278), (0, .ref a), (1, .ref r901)]) e_X1_takeOut_205 rfl (by decide) (by decide) rfl ?_
                refine m_goto F e_X1_takeOut_208 ?_
                refine Wm.lvsub (lv' := [(8, .int (-1)), (0, .ref a), (1, .ref r901), (2, .long x338), (4, .long x336), (6, .long x337)]) ?_ [0, 5, 6, 1, 3, 2] rfl
                refine m_iload F rfl e_X1_takeOut_64 ?_
                refine m_if_lt F e_X1_takeOut_66 (fun _ => ?_) (fun q => absurd (by decide) q)
                refine m_aload_n F rfl e_X1_takeOut_211 ?_
                refine m_lload F rfl e_X1_takeOut_212 ?_
                refine t_put F e_X1_takeOut_214 fp_X1_9 (fun _ => o6) h1 hk rfl ⟨_, rfl⟩ rfl rfl (by decide) (fun σ339 h340 g341 g342 f343 => ?_)
                refine m_aload_n F rfl e_X1_takeOut_217 ?_
                refine m_lload F rfl e_X1_takeOut_218 ?_
                refine t_put F e_X1_takeOut_220 fp_X1_15 (fun _ => o6) h340 hk rfl ⟨_, rfl⟩ rfl rfl (by decide) (fun σ344 h345 g346 g347 f348 => ?_)
                refine m_lload_n F rfl e_X1_takeOut_223 ?_
                exact m_lret F hQ e_X1_takeOut_224 (⟨h345, _, rfl⟩)
              · refine m_iinc F (v := nI (i - 1)) (lv' := [(8, .int (nI (i - 1))), (2, .long x338), (6, .long x337), (4, .long x336), (9, .long x278), (0, .ref a), (1, .ref r901)]) e_X1_takeOut_205 rfl (nI_dec (by omega)) (by decide) rfl ?_
                refine m_goto F e_X1_takeOut_208 ?_
                refine Wm.lvsub (lv' := [(8, .int (nI (i - 1))), (0, .ref a), (1, .ref r901), (2, .long x338), (4, .long x336), (6, .long x337)]) ?_ [0, 5, 6, 1, 3, 2] rfl
                exact ih (i - 1) x338 x336 x337 _ h1 (by omega) (by omega)
      · have c73 : i ≥ 42 := by have hh := mt (nI_ltI (a := i) (b := 42) (by omega) (by omega)).mpr q73; omega
        refine m_aload_n F rfl e_X1_takeOut_76 ?_
        refine t_get F e_X1_takeOut_77 fl_X1_9 (fun _ => o6) h1 hk rfl (fun v hv f349 => ?_)
        obtain ⟨x350, rfl⟩ := hv
        refine m_iload F rfl e_X1_takeOut_80 ?_
        refine m_bipush F (v := 42) (by decide) e_X1_takeOut_82 ?_
        refine m_isub F e_X1_takeOut_84 ?_
        refine Wm.top (fun x351 _ => ?_)
        refine m_lshr F e_X1_takeOut_85 ?_
        refine Wm.topl (fun x352 _ => ?_)
        refine m_goto F e_X1_takeOut_86 ?_
        refine m_lconst F (v := 1) (by decide) e_X1_takeOut_96 ?_
        refine m_land F e_X1_takeOut_97 ?_
        refine Wm.topl (fun x353 _ => ?_)
        refine m_lstore F (lv' := [(9, .long x353), (8, .int (nI i)), (0, .ref a), (1, .ref r901), (2, .long u1), (4, .long u2), (6, .long u3)]) e_X1_takeOut_98 (by decide) rfl ?_
        refine m_lload F rfl e_X1_takeOut_100 ?_
        refine m_ldc2 F kc_X1_30 e_X1_takeOut_102 ?_
        refine m_lmul F e_X1_takeOut_105 ?_
        refine Wm.topl (fun x354 _ => ?_)
        refine m_lload F rfl e_X1_takeOut_106 ?_
        refine m_ladd F e_X1_takeOut_108 ?_
        refine Wm.topl (fun x355 _ => ?_)
        refine m_lstore F (lv' := [(6, .long x355), (9, .long x353), (8, .int (nI i)), (0, .ref a), (1, .ref r901), (2, .long u1), (4, .long u2)]) e_X1_takeOut_109 (by decide) rfl ?_
        refine m_lload F rfl e_X1_takeOut_111 ?_
        refine m_ldc2 F kc_X1_30 e_X1_takeOut_113 ?_
        refine m_lmul F e_X1_takeOut_116 ?_
        refine Wm.topl (fun x356 _ => ?_)
        refine m_lload F rfl e_X1_takeOut_117 ?_
        refine m_bipush F (v := 42) (by decide) e_X1_takeOut_119 ?_
        refine m_lshr F e_X1_takeOut_121 ?_
        refine Wm.topl (fun x357 _ => ?_)
        refine m_ladd F e_X1_takeOut_122 ?_
        refine Wm.topl (fun x358 _ => ?_)
        refine m_lstore F (lv' := [(4, .long x358), (6, .long x355), (9, .long x353), (8, .int (nI i)), (0, .ref a), (1, .ref r901), (2, .long u1)]) e_X1_takeOut_123 (by decide) rfl ?_
        refine m_lload F rfl e_X1_takeOut_125 ?_
        refine m_ldc2 F kc_X1_13 e_X1_takeOut_127 ?_
        refine m_land F e_X1_takeOut_130 ?_
        refine Wm.topl (fun x359 _ => ?_)
        refine m_lstore F (lv' := [(6, .long x359), (4, .long x358), (9, .long x353), (8, .int (nI i)), (0, .ref a), (1, .ref r901), (2, .long u1)]) e_X1_takeOut_131 (by decide) rfl ?_
        refine m_lload_n F rfl e_X1_takeOut_133 ?_
        refine m_ldc2 F kc_X1_30 e_X1_takeOut_134 ?_
        refine m_lmul F e_X1_takeOut_137 ?_
        refine Wm.topl (fun x360 _ => ?_)
        refine m_lstore_n F (lv' := [(2, .long x360), (6, .long x359), (4, .long x358), (9, .long x353), (8, .int (nI i)), (0, .ref a), (1, .ref r901)]) e_X1_takeOut_138 (by decide) rfl ?_
        refine m_lload F rfl e_X1_takeOut_139 ?_
        refine m_aload_n F rfl e_X1_takeOut_141 ?_
        refine t_get F e_X1_takeOut_142 fl_X1_9 (fun _ => o6) h1 k901 rfl (fun v hv f361 => ?_)
        obtain ⟨x362, rfl⟩ := hv
        refine m_lcmp F e_X1_takeOut_145 ?_
        refine Wm.top (fun x363 _ => ?_)
        refine m_if_gt F e_X1_takeOut_146 (fun q146 => ?_) (fun q146 => ?_)
        · obtain ⟨n364, hn364, rfl⟩ := nI_nn (x := x363) (fun e => Int32.lt_irrefl (Int32.lt_trans e (Int32.lt_of_le_of_lt (by decide) q146)))
          have c146 : n364 > 0 := (nI_ltI (a := 0) (b := n364) (by omega) (by omega)).mp q146
          refine m_lload F rfl e_X1_takeOut_169 ?_
          refine m_aload_n F rfl e_X1_takeOut_171 ?_
          refine t_get F e_X1_takeOut_172 fl_X1_15 (fun _ => o6) h1 k901 rfl (fun v hv f365 => ?_)
          obtain ⟨x366, rfl⟩ := hv
          refine m_lsub F e_X1_takeOut_175 ?_
          refine Wm.topl (fun x367 _ => ?_)
          refine m_lstore F (lv' := [(6, .long x367), (2, .long x360), (4, .long x358), (9, .long x353), (8, .int (nI i)), (0, .ref a), (1, .ref r901)]) e_X1_takeOut_176 (by decide) rfl ?_
          refine m_lload F rfl e_X1_takeOut_178 ?_
          refine m_lload F rfl e_X1_takeOut_180 ?_
          refine m_bipush F (v := 42) (by decide) e_X1_takeOut_182 ?_
          refine m_lshr F e_X1_takeOut_184 ?_
          refine Wm.topl (fun x368 _ => ?_)
          refine m_aload_n F rfl e_X1_takeOut_185 ?_
          refine t_getC F e_X1_takeOut_186 fl_X1_9 (fun _ => o6) h1 k901 (f361) ?_
          refine m_lsub F e_X1_takeOut_189 ?_
          refine Wm.topl (fun x369 _ => ?_)
          refine m_ladd F e_X1_takeOut_190 ?_
          refine Wm.topl (fun x370 _ => ?_)
          refine m_lstore F (lv' := [(4, .long x370), (6, .long x367), (2, .long x360), (9, .long x353), (8, .int (nI i)), (0, .ref a), (1, .ref r901)]) e_X1_takeOut_191 (by decide) rfl ?_
          refine m_lload F rfl e_X1_takeOut_193 ?_
          refine m_ldc2 F kc_X1_13 e_X1_takeOut_195 ?_
          refine m_land F e_X1_takeOut_198 ?_
          refine Wm.topl (fun x371 _ => ?_)
          refine m_lstore F (lv' := [(6, .long x371), (4, .long x370), (2, .long x360), (9, .long x353), (8, .int (nI i)), (0, .ref a), (1, .ref r901)]) e_X1_takeOut_199 (by decide) rfl ?_
          refine m_lload_n F rfl e_X1_takeOut_201 ?_
          refine m_lconst F (v := 1) (by decide) e_X1_takeOut_202 ?_
          refine m_ladd F e_X1_takeOut_203 ?_
          refine Wm.topl (fun x372 _ => ?_)
          refine m_lstore_n F (lv' := [(2, .long x372), (6, .long x371), (4, .long x370), (9, .long x353), (8, .int (nI i)), (0, .ref a), (1, .ref r901)]) e_X1_takeOut_204 (by decide) rfl ?_
          rcases Nat.eq_zero_or_pos (i) with e205 | e205
          · subst e205
            refine m_iinc F (v := -1) (lv' := [(8, .int (-1)), (2, .long x372), (6, .long x371), (4, .long x370), (9, .long x353), (0, .ref a), (1, .ref r901)]) e_X1_takeOut_205 rfl (by decide) (by decide) rfl ?_
            refine m_goto F e_X1_takeOut_208 ?_
            refine Wm.lvsub (lv' := [(8, .int (-1)), (0, .ref a), (1, .ref r901), (2, .long x372), (4, .long x370), (6, .long x371)]) ?_ [0, 5, 6, 1, 3, 2] rfl
            refine m_iload F rfl e_X1_takeOut_64 ?_
            refine m_if_lt F e_X1_takeOut_66 (fun _ => ?_) (fun q => absurd (by decide) q)
            refine m_aload_n F rfl e_X1_takeOut_211 ?_
            refine m_lload F rfl e_X1_takeOut_212 ?_
            refine t_put F e_X1_takeOut_214 fp_X1_9 (fun _ => o6) h1 hk rfl ⟨_, rfl⟩ rfl rfl (by decide) (fun σ373 h374 g375 g376 f377 => ?_)
            refine m_aload_n F rfl e_X1_takeOut_217 ?_
            refine m_lload F rfl e_X1_takeOut_218 ?_
            refine t_put F e_X1_takeOut_220 fp_X1_15 (fun _ => o6) h374 hk rfl ⟨_, rfl⟩ rfl rfl (by decide) (fun σ378 h379 g380 g381 f382 => ?_)
            refine m_lload_n F rfl e_X1_takeOut_223 ?_
            exact m_lret F hQ e_X1_takeOut_224 (⟨h379, _, rfl⟩)
          · refine m_iinc F (v := nI (i - 1)) (lv' := [(8, .int (nI (i - 1))), (2, .long x372), (6, .long x371), (4, .long x370), (9, .long x353), (0, .ref a), (1, .ref r901)]) e_X1_takeOut_205 rfl (nI_dec (by omega)) (by decide) rfl ?_
            refine m_goto F e_X1_takeOut_208 ?_
            refine Wm.lvsub (lv' := [(8, .int (nI (i - 1))), (0, .ref a), (1, .ref r901), (2, .long x372), (4, .long x370), (6, .long x371)]) ?_ [0, 5, 6, 1, 3, 2] rfl
            exact ih (i - 1) x372 x370 x371 _ h1 (by omega) (by omega)
        · refine m_lload F rfl e_X1_takeOut_149 ?_
          refine m_aload_n F rfl e_X1_takeOut_151 ?_
          refine t_getC F e_X1_takeOut_152 fl_X1_9 (fun _ => o6) h1 k901 (f361) ?_
          refine m_lcmp F e_X1_takeOut_155 ?_
          refine Wm.top (fun x383 _ => ?_)
          refine m_if_ne F e_X1_takeOut_156 (fun q156 => ?_) (fun q156 => ?_)
          · rcases Nat.eq_zero_or_pos (i) with e205 | e205
            · subst e205
              refine m_iinc F (v := -1) (lv' := [(8, .int (-1)), (2, .long x360), (6, .long x359), (4, .long x358), (9, .long x353), (0, .ref a), (1, .ref r901)]) e_X1_takeOut_205 rfl (by decide) (by decide) rfl ?_
              refine m_goto F e_X1_takeOut_208 ?_
              refine Wm.lvsub (lv' := [(8, .int (-1)), (0, .ref a), (1, .ref r901), (2, .long x360), (4, .long x358), (6, .long x359)]) ?_ [0, 5, 6, 1, 3, 2] rfl
              refine m_iload F rfl e_X1_takeOut_64 ?_
              refine m_if_lt F e_X1_takeOut_66 (fun _ => ?_) (fun q => absurd (by decide) q)
              refine m_aload_n F rfl e_X1_takeOut_211 ?_
              refine m_lload F rfl e_X1_takeOut_212 ?_
              refine t_put F e_X1_takeOut_214 fp_X1_9 (fun _ => o6) h1 hk rfl ⟨_, rfl⟩ rfl rfl (by decide) (fun σ384 h385 g386 g387 f388 => ?_)
              refine m_aload_n F rfl e_X1_takeOut_217 ?_
              refine m_lload F rfl e_X1_takeOut_218 ?_
              refine t_put F e_X1_takeOut_220 fp_X1_15 (fun _ => o6) h385 hk rfl ⟨_, rfl⟩ rfl rfl (by decide) (fun σ389 h390 g391 g392 f393 => ?_)
              refine m_lload_n F rfl e_X1_takeOut_223 ?_
              exact m_lret F hQ e_X1_takeOut_224 (⟨h390, _, rfl⟩)
            · refine m_iinc F (v := nI (i - 1)) (lv' := [(8, .int (nI (i - 1))), (2, .long x360), (6, .long x359), (4, .long x358), (9, .long x353), (0, .ref a), (1, .ref r901)]) e_X1_takeOut_205 rfl (nI_dec (by omega)) (by decide) rfl ?_
              refine m_goto F e_X1_takeOut_208 ?_
              refine Wm.lvsub (lv' := [(8, .int (nI (i - 1))), (0, .ref a), (1, .ref r901), (2, .long x360), (4, .long x358), (6, .long x359)]) ?_ [0, 5, 6, 1, 3, 2] rfl
              exact ih (i - 1) x360 x358 x359 _ h1 (by omega) (by omega)
          · refine m_lload F rfl e_X1_takeOut_159 ?_
            refine m_aload_n F rfl e_X1_takeOut_161 ?_
            refine t_get F e_X1_takeOut_162 fl_X1_15 (fun _ => o6) h1 k901 rfl (fun v hv f394 => ?_)
            obtain ⟨x395, rfl⟩ := hv
            refine m_lcmp F e_X1_takeOut_165 ?_
            refine Wm.top (fun x396 _ => ?_)
            refine m_if_lt F e_X1_takeOut_166 (fun q166 => ?_) (fun q166 => ?_)
            · rcases Nat.eq_zero_or_pos (i) with e205 | e205
              · subst e205
                refine m_iinc F (v := -1) (lv' := [(8, .int (-1)), (2, .long x360), (6, .long x359), (4, .long x358), (9, .long x353), (0, .ref a), (1, .ref r901)]) e_X1_takeOut_205 rfl (by decide) (by decide) rfl ?_
                refine m_goto F e_X1_takeOut_208 ?_
                refine Wm.lvsub (lv' := [(8, .int (-1)), (0, .ref a), (1, .ref r901), (2, .long x360), (4, .long x358), (6, .long x359)]) ?_ [0, 5, 6, 1, 3, 2] rfl
                refine m_iload F rfl e_X1_takeOut_64 ?_
                refine m_if_lt F e_X1_takeOut_66 (fun _ => ?_) (fun q => absurd (by decide) q)
                refine m_aload_n F rfl e_X1_takeOut_211 ?_
                refine m_lload F rfl e_X1_takeOut_212 ?_
                refine t_put F e_X1_takeOut_214 fp_X1_9 (fun _ => o6) h1 hk rfl ⟨_, rfl⟩ rfl rfl (by decide) (fun σ397 h398 g399 g400 f401 => ?_)
                refine m_aload_n F rfl e_X1_takeOut_217 ?_
                refine m_lload F rfl e_X1_takeOut_218 ?_
                refine t_put F e_X1_takeOut_220 fp_X1_15 (fun _ => o6) h398 hk rfl ⟨_, rfl⟩ rfl rfl (by decide) (fun σ402 h403 g404 g405 f406 => ?_)
                refine m_lload_n F rfl e_X1_takeOut_223 ?_
                exact m_lret F hQ e_X1_takeOut_224 (⟨h403, _, rfl⟩)
              · refine m_iinc F (v := nI (i - 1)) (lv' := [(8, .int (nI (i - 1))), (2, .long x360), (6, .long x359), (4, .long x358), (9, .long x353), (0, .ref a), (1, .ref r901)]) e_X1_takeOut_205 rfl (nI_dec (by omega)) (by decide) rfl ?_
                refine m_goto F e_X1_takeOut_208 ?_
                refine Wm.lvsub (lv' := [(8, .int (nI (i - 1))), (0, .ref a), (1, .ref r901), (2, .long x360), (4, .long x358), (6, .long x359)]) ?_ [0, 5, 6, 1, 3, 2] rfl
                exact ih (i - 1) x360 x358 x359 _ h1 (by omega) (by omega)
            · obtain ⟨n407, hn407, rfl⟩ := nI_nn (x := x396) (fun e => q166 (Int32.lt_of_lt_of_le e (by decide)))
              have c166 : n407 ≥ 0 := by have hh := mt (nI_ltI (a := n407) (b := 0) (by omega) (by omega)).mpr q166; omega
              refine m_lload F rfl e_X1_takeOut_169 ?_
              refine m_aload_n F rfl e_X1_takeOut_171 ?_
              refine t_getC F e_X1_takeOut_172 fl_X1_15 (fun _ => o6) h1 k901 (f394) ?_
              refine m_lsub F e_X1_takeOut_175 ?_
              refine Wm.topl (fun x408 _ => ?_)
              refine m_lstore F (lv' := [(6, .long x408), (2, .long x360), (4, .long x358), (9, .long x353), (8, .int (nI i)), (0, .ref a), (1, .ref r901)]) e_X1_takeOut_176 (by decide) rfl ?_
              refine m_lload F rfl e_X1_takeOut_178 ?_
              refine m_lload F rfl e_X1_takeOut_180 ?_
              refine m_bipush F (v := 42) (by decide) e_X1_takeOut_182 ?_
              refine m_lshr F e_X1_takeOut_184 ?_
              refine Wm.topl (fun x409 _ => ?_)
              refine m_aload_n F rfl e_X1_takeOut_185 ?_
              refine t_getC F e_X1_takeOut_186 fl_X1_9 (fun _ => o6) h1 k901 (f361) ?_
              refine m_lsub F e_X1_takeOut_189 ?_
              refine Wm.topl (fun x410 _ => ?_)
              refine m_ladd F e_X1_takeOut_190 ?_
              refine Wm.topl (fun x411 _ => ?_)
              refine m_lstore F (lv' := [(4, .long x411), (6, .long x408), (2, .long x360), (9, .long x353), (8, .int (nI i)), (0, .ref a), (1, .ref r901)]) e_X1_takeOut_191 (by decide) rfl ?_
              refine m_lload F rfl e_X1_takeOut_193 ?_
              refine m_ldc2 F kc_X1_13 e_X1_takeOut_195 ?_
              refine m_land F e_X1_takeOut_198 ?_
              refine Wm.topl (fun x412 _ => ?_)
              refine m_lstore F (lv' := [(6, .long x412), (4, .long x411), (2, .long x360), (9, .long x353), (8, .int (nI i)), (0, .ref a), (1, .ref r901)]) e_X1_takeOut_199 (by decide) rfl ?_
              refine m_lload_n F rfl e_X1_takeOut_201 ?_
              refine m_lconst F (v := 1) (by decide) e_X1_takeOut_202 ?_
              refine m_ladd F e_X1_takeOut_203 ?_
              refine Wm.topl (fun x413 _ => ?_)
              refine m_lstore_n F (lv' := [(2, .long x413), (6, .long x412), (4, .long x411), (9, .long x353), (8, .int (nI i)), (0, .ref a), (1, .ref r901)]) e_X1_takeOut_204 (by decide) rfl ?_
              rcases Nat.eq_zero_or_pos (i) with e205 | e205
              · subst e205
                refine m_iinc F (v := -1) (lv' := [(8, .int (-1)), (2, .long x413), (6, .long x412), (4, .long x411), (9, .long x353), (0, .ref a), (1, .ref r901)]) e_X1_takeOut_205 rfl (by decide) (by decide) rfl ?_
                refine m_goto F e_X1_takeOut_208 ?_
                refine Wm.lvsub (lv' := [(8, .int (-1)), (0, .ref a), (1, .ref r901), (2, .long x413), (4, .long x411), (6, .long x412)]) ?_ [0, 5, 6, 1, 3, 2] rfl
                refine m_iload F rfl e_X1_takeOut_64 ?_
                refine m_if_lt F e_X1_takeOut_66 (fun _ => ?_) (fun q => absurd (by decide) q)
                refine m_aload_n F rfl e_X1_takeOut_211 ?_
                refine m_lload F rfl e_X1_takeOut_212 ?_
                refine t_put F e_X1_takeOut_214 fp_X1_9 (fun _ => o6) h1 hk rfl ⟨_, rfl⟩ rfl rfl (by decide) (fun σ414 h415 g416 g417 f418 => ?_)
                refine m_aload_n F rfl e_X1_takeOut_217 ?_
                refine m_lload F rfl e_X1_takeOut_218 ?_
                refine t_put F e_X1_takeOut_220 fp_X1_15 (fun _ => o6) h415 hk rfl ⟨_, rfl⟩ rfl rfl (by decide) (fun σ419 h420 g421 g422 f423 => ?_)
                refine m_lload_n F rfl e_X1_takeOut_223 ?_
                exact m_lret F hQ e_X1_takeOut_224 (⟨h420, _, rfl⟩)
              · refine m_iinc F (v := nI (i - 1)) (lv' := [(8, .int (nI (i - 1))), (2, .long x413), (6, .long x412), (4, .long x411), (9, .long x353), (0, .ref a), (1, .ref r901)]) e_X1_takeOut_205 rfl (nI_dec (by omega)) (by decide) rfl ?_
                refine m_goto F e_X1_takeOut_208 ?_
                refine Wm.lvsub (lv' := [(8, .int (nI (i - 1))), (0, .ref a), (1, .ref r901), (2, .long x413), (4, .long x411), (6, .long x412)]) ?_ [0, 5, 6, 1, 3, 2] rfl
                exact ih (i - 1) x413 x411 x412 _ h1 (by omega) (by omega)
set_option maxRecDepth 20000 in
theorem s_X1_takeOut (l : Launch) (V : VX) (G : GH) (b M Z T N : Nat) (σ : Mem) (a : Nat) (r901 : Nat) (h0 : HT V G (b, M, Z, T) σ) (hk : kA b a = 6) (k901 : kA b r901 = 6) (hM : M + 0 ≤ 1000000000) : Ct l V yX1_takeOut cX1_takeOut 11 (some .long) 0 0 0 N σ [.ref a, .ref r901] (fun r τ => HK V G (b, M, Z, T) [0, 1, 2, 3, 4, 5, 7, 8, 9, 10, 11, 12, 13, 14, 15, 16, 17, 18, 19] σ τ ∧ ∃ x : Int64, r = some (.long x)) := by
  refine Ct.of (by decide) (Nat.le_of_ble_eq_true rfl) [(0, .ref a), (1, .ref r901)] rfl (fun X hX F hQ => ?_)
  have h1 : HK V G (b, M, Z, T) [0, 1, 2, 3, 4, 5, 7, 8, 9, 10, 11, 12, 13, 14, 15, 16, 17, 18, 19] σ σ := HK.start h0
  refine m_lconst F (v := 0) (by decide) e_X1_takeOut_0 ?_
  refine m_lstore_n F (lv' := [(2, .long 0), (0, .ref a), (1, .ref r901)]) e_X1_takeOut_1 (by decide) rfl ?_
  refine m_aload_n F rfl e_X1_takeOut_2 ?_
  refine t_get F e_X1_takeOut_3 fl_X1_9 (fun _ => o6) h1 hk rfl (fun v hv f424 => ?_)
  obtain ⟨x425, rfl⟩ := hv
  refine m_lconst F (v := 0) (by decide) e_X1_takeOut_6 ?_
  refine m_lcmp F e_X1_takeOut_7 ?_
  refine Wm.top (fun x426 _ => ?_)
  refine m_if_ne F e_X1_takeOut_8 (fun q8 => ?_) (fun q8 => ?_)
  · refine m_lconst F (v := 0) (by decide) e_X1_takeOut_54 ?_
    refine m_lstore F (lv' := [(4, .long 0), (2, .long 0), (0, .ref a), (1, .ref r901)]) e_X1_takeOut_55 (by decide) rfl ?_
    refine m_lconst F (v := 0) (by decide) e_X1_takeOut_57 ?_
    refine m_lstore F (lv' := [(6, .long 0), (4, .long 0), (2, .long 0), (0, .ref a), (1, .ref r901)]) e_X1_takeOut_58 (by decide) rfl ?_
    refine m_bipush F (v := 104) (by decide) e_X1_takeOut_60 ?_
    refine m_istore F (lv' := [(8, .int 104), (6, .long 0), (4, .long 0), (2, .long 0), (0, .ref a), (1, .ref r901)]) e_X1_takeOut_62 (by decide) rfl ?_
    refine Wm.lvsub (lv' := [(8, .int 104), (0, .ref a), (1, .ref r901), (2, .long 0), (4, .long 0), (6, .long 0)]) ?_ [0, 4, 5, 3, 2, 1] rfl
    exact lp_X1_takeOut_64 F hQ hk k901 hM (104 + 1) 104 0 0 0 _ h1 (by omega) (Nat.lt_succ_self _)
  · refine m_aload_n F rfl e_X1_takeOut_11 ?_
    refine t_get F e_X1_takeOut_12 fl_X1_9 (fun _ => o6) h1 k901 rfl (fun v hv f427 => ?_)
    obtain ⟨x428, rfl⟩ := hv
    refine m_lconst F (v := 0) (by decide) e_X1_takeOut_15 ?_
    refine m_lcmp F e_X1_takeOut_16 ?_
    refine Wm.top (fun x429 _ => ?_)
    refine m_if_ne F e_X1_takeOut_17 (fun q17 => ?_) (fun q17 => ?_)
    · refine m_lconst F (v := 0) (by decide) e_X1_takeOut_54 ?_
      refine m_lstore F (lv' := [(4, .long 0), (2, .long 0), (0, .ref a), (1, .ref r901)]) e_X1_takeOut_55 (by decide) rfl ?_
      refine m_lconst F (v := 0) (by decide) e_X1_takeOut_57 ?_
      refine m_lstore F (lv' := [(6, .long 0), (4, .long 0), (2, .long 0), (0, .ref a), (1, .ref r901)]) e_X1_takeOut_58 (by decide) rfl ?_
      refine m_bipush F (v := 104) (by decide) e_X1_takeOut_60 ?_
      refine m_istore F (lv' := [(8, .int 104), (6, .long 0), (4, .long 0), (2, .long 0), (0, .ref a), (1, .ref r901)]) e_X1_takeOut_62 (by decide) rfl ?_
      refine Wm.lvsub (lv' := [(8, .int 104), (0, .ref a), (1, .ref r901), (2, .long 0), (4, .long 0), (6, .long 0)]) ?_ [0, 4, 5, 3, 2, 1] rfl
      exact lp_X1_takeOut_64 F hQ hk k901 hM (104 + 1) 104 0 0 0 _ h1 (by omega) (Nat.lt_succ_self _)
    · refine m_aload_n F rfl e_X1_takeOut_20 ?_
      refine t_get F e_X1_takeOut_21 fl_X1_15 (fun _ => o6) h1 k901 rfl (fun v hv f430 => ?_)
      obtain ⟨x431, rfl⟩ := hv
      refine m_lconst F (v := 0) (by decide) e_X1_takeOut_24 ?_
      refine m_lcmp F e_X1_takeOut_25 ?_
      refine m_if_le F e_X1_takeOut_26 (fun q26 => ?_) (fun q26 => ?_)
      · refine m_lconst F (v := 0) (by decide) e_X1_takeOut_54 ?_
        refine m_lstore F (lv' := [(4, .long 0), (2, .long 0), (0, .ref a), (1, .ref r901)]) e_X1_takeOut_55 (by decide) rfl ?_
        refine m_lconst F (v := 0) (by decide) e_X1_takeOut_57 ?_
        refine m_lstore F (lv' := [(6, .long 0), (4, .long 0), (2, .long 0), (0, .ref a), (1, .ref r901)]) e_X1_takeOut_58 (by decide) rfl ?_
        refine m_bipush F (v := 104) (by decide) e_X1_takeOut_60 ?_
        refine m_istore F (lv' := [(8, .int 104), (6, .long 0), (4, .long 0), (2, .long 0), (0, .ref a), (1, .ref r901)]) e_X1_takeOut_62 (by decide) rfl ?_
        refine Wm.lvsub (lv' := [(8, .int 104), (0, .ref a), (1, .ref r901), (2, .long 0), (4, .long 0), (6, .long 0)]) ?_ [0, 4, 5, 3, 2, 1] rfl
        exact lp_X1_takeOut_64 F hQ hk k901 hM (104 + 1) 104 0 0 0 _ h1 (by omega) (Nat.lt_succ_self _)
      · have hnz : ¬ x431 = 0 := by intro e; rw [e] at q26; revert q26; decide
        refine m_aload_n F rfl e_X1_takeOut_29 ?_
        refine t_get F e_X1_takeOut_30 fl_X1_15 (fun _ => o6) h1 hk rfl (fun v hv f432 => ?_)
        obtain ⟨x433, rfl⟩ := hv
        refine m_aload_n F rfl e_X1_takeOut_33 ?_
        refine t_getC F e_X1_takeOut_34 fl_X1_15 (fun _ => o6) h1 k901 (f430) ?_
        refine m_ldiv F hnz e_X1_takeOut_37 ?_
        refine Wm.topl (fun x434 _ => ?_)
        refine m_lstore_n F (lv' := [(2, .long x434), (0, .ref a), (1, .ref r901)]) e_X1_takeOut_38 (by decide) rfl ?_
        refine m_aload_n F rfl e_X1_takeOut_39 ?_
        refine m_dup F rfl e_X1_takeOut_40 ?_
        refine t_getC F e_X1_takeOut_41 fl_X1_15 (fun _ => o6) h1 hk (f432) ?_
        refine m_aload_n F rfl e_X1_takeOut_44 ?_
        refine t_getC F e_X1_takeOut_45 fl_X1_15 (fun _ => o6) h1 k901 (f430) ?_
        refine m_lrem F hnz e_X1_takeOut_48 ?_
        refine Wm.topl (fun x435 _ => ?_)
        refine t_put F e_X1_takeOut_49 fp_X1_15 (fun _ => o6) h1 hk rfl ⟨_, rfl⟩ rfl rfl (by decide) (fun σ436 h437 g438 g439 f440 => ?_)
        refine m_lload_n F rfl e_X1_takeOut_52 ?_
        exact m_lret F hQ e_X1_takeOut_53 (⟨h437, _, rfl⟩)
