set_option maxRecDepth 20000 in
theorem lp_X5_worthFrom_26 {V : VX} {X : MX} {b M Z T N : Nat} {σ : Mem} {a : Nat} {x901 : Int32} {x902 : Int32} {r903 : Nat}  (F : Fx V X yX5_worthFrom cX5_worthFrom 7 none (rmd 2 0 0)) (hQ : Rt V X 0 0 N (fun r τ => HK V (b, M, Z, T) [0, 1, 3, 7, 12, 15, 19] σ τ ∧ r = none)) (hk : kA b a = 15) (k903 : kA b r903 = 6) (hM : M + 0 ≤ 1000000000)  : ∀ (fuel : Nat) (i1 : Int32) (u1 : Int64) (τ : Mem), HK V (b, M, Z, T) [0, 1, 3, 7, 12, 15, 19] σ τ → True → (i1.toInt + 1).toNat < fuel → Wm V X 7 N τ 0 0 26 [(6, .int i1), (0, .ref a), (1, .int x901), (2, .int x902), (3, .ref r903), (4, .long u1)] [] := by
  intro fuel
  induction fuel with
  | zero => intro i1 u1 τ h1 hi hm; exact absurd hm (Nat.not_lt_zero _)
  | succ fuel ih =>
    intro i1 u1 τ h1 hi hm
    refine m_iload F rfl e_X5_worthFrom_26 ?_
    refine m_iload_n F rfl e_X5_worthFrom_28 ?_
    refine m_icmp_lt F e_X5_worthFrom_29 (fun q29 => ?_) (fun q29 => ?_)
    · exact m_vret F hQ e_X5_worthFrom_86 (⟨h1, rfl⟩)
    · refine m_iload F rfl e_X5_worthFrom_32 ?_
      refine m_if_lt F e_X5_worthFrom_34 (fun q34 => ?_) (fun q34 => ?_)
      · exact m_vret F hQ e_X5_worthFrom_86 (⟨h1, rfl⟩)
      · obtain ⟨n1034, hn1034, rfl⟩ := nI_nn (x := i1) (fun e => q34 (Int32.lt_of_lt_of_le e (by decide)))
        have c34 : n1034 ≥ 0 := by have hh := mt (nI_ltI (a := n1034) (b := 0) (by omega) (by omega)).mpr q34; omega
        refine m_aload_n F rfl e_X5_worthFrom_37 ?_
        refine t_get F e_X5_worthFrom_38 fl_X5_70 (fun _ => o15) h1 hk rfl (fun v hv f1035 => ?_)
        obtain ⟨n1036, hn1036, rfl⟩ := hv
        replace hn1036 : n1036 ≤ 1 := hn1036
        refine m_if_ne F e_X5_worthFrom_41 (fun q41 => ?_) (fun q41 => ?_)
        · have c41 : n1036 ≠ 0 := by have hh := mt (nI_eq (a := n1036) (b := 0) (by omega) (by omega)).mpr q41; omega
          refine m_aload_n F rfl e_X5_worthFrom_54 ?_
          refine m_ldc2 F kc_X5_109 e_X5_worthFrom_55 ?_
          refine m_lload F rfl e_X5_worthFrom_58 ?_
          refine t_callV F e_X5_worthFrom_60 (s_X1_shareRounded (x_l X) V b M Z T _ _ r903 1000000 u1 h1.1 k903  (by omega)) cb_X1_shareRounded ml_X5_121 im_X1_shareRounded se_X1_shareRounded (fun _ => o6) h1 k903 rfl rfl (rest := []) rfl (Nat.le_of_ble_eq_true rfl) ⟨Nat.le_of_ble_eq_true rfl, Nat.le_of_ble_eq_true rfl⟩ ⟨Nat.le_of_ble_eq_true rfl, Nat.le_of_ble_eq_true rfl⟩ (fun r σ1037 hp => ?_)
          obtain ⟨h1039, rfl⟩ := hp
          have h1038 := HK.trans h1 h1039 (by decide)
          refine m_aload_n F rfl e_X5_worthFrom_63 ?_
          refine t_getC F e_X5_worthFrom_64 fl_X5_70 (fun _ => o15) h1038 hk ((fld_eq (h1039.2 a (by rw [show kA _ a = 15 from hk]; decide))).trans f1035) ?_
          refine m_if_eq F e_X5_worthFrom_67 (fun q67 => ?_) (fun q67 => ?_)
          · have c67 : n1036 = 0 := (nI_eq (a := n1036) (b := 0) (by omega) (by omega)).mp q67
            rcases Nat.eq_zero_or_pos (n1034) with e80 | e80
            · subst e80
              refine m_iinc F (v := -1) (lv' := [(6, .int (-1)), (0, .ref a), (1, .int x901), (2, .int x902), (3, .ref r903), (4, .long u1)]) e_X5_worthFrom_80 rfl (by decide) (by decide) rfl ?_
              refine m_goto F e_X5_worthFrom_83 ?_
              exact ih (-1) u1 _ h1038 trivial (by first | exact mdec0 hm | exact mdec (by omega) (by omega) hm)
            · refine m_iinc F (v := nI (n1034 - 1)) (lv' := [(6, .int (nI (n1034 - 1))), (0, .ref a), (1, .int x901), (2, .int x902), (3, .ref r903), (4, .long u1)]) e_X5_worthFrom_80 rfl (nI_dec (by omega)) (by decide) rfl ?_
              refine m_goto F e_X5_worthFrom_83 ?_
              exact ih (nI (n1034 - 1)) u1 _ h1038 trivial (by first | exact mdec0 hm | exact mdec (by omega) (by omega) hm)
          · have c67 : n1036 ≠ 0 := by have hh := mt (nI_eq (a := n1036) (b := 0) (by omega) (by omega)).mpr q67; omega
            refine m_aload_n F rfl e_X5_worthFrom_70 ?_
            refine t_get F e_X5_worthFrom_71 fl_X5_24 (fun _ => o15) h1038 hk rfl (fun v hv f1040 => ?_)
            obtain ⟨r1041, k1042, rfl⟩ := hv
            refine m_iload F rfl e_X5_worthFrom_74 ?_
            refine m_aload_n F rfl e_X5_worthFrom_76 ?_
            refine t_callV F e_X5_worthFrom_77 (s_X8_addTo (x_l X) V b M Z T _ _ r1041 (nI n1034) r903 h1038.1 k1042 k903 (by omega)) cb_X8_addTo ml_X5_117 im_X8_addTo se_X8_addTo (fun _ => o16) h1038 k1042 rfl rfl (rest := []) rfl (Nat.le_of_ble_eq_true rfl) ⟨Nat.le_of_ble_eq_true rfl, Nat.le_of_ble_eq_true rfl⟩ ⟨Nat.le_of_ble_eq_true rfl, Nat.le_of_ble_eq_true rfl⟩ (fun r σ1043 hp => ?_)
            obtain ⟨h1045, rfl⟩ := hp
            have h1044 := HK.trans h1038 h1045 (by decide)
            rcases Nat.eq_zero_or_pos (n1034) with e80 | e80
            · subst e80
              refine m_iinc F (v := -1) (lv' := [(6, .int (-1)), (0, .ref a), (1, .int x901), (2, .int x902), (3, .ref r903), (4, .long u1)]) e_X5_worthFrom_80 rfl (by decide) (by decide) rfl ?_
              refine m_goto F e_X5_worthFrom_83 ?_
              exact ih (-1) u1 _ h1044 trivial (by first | exact mdec0 hm | exact mdec (by omega) (by omega) hm)
            · refine m_iinc F (v := nI (n1034 - 1)) (lv' := [(6, .int (nI (n1034 - 1))), (0, .ref a), (1, .int x901), (2, .int x902), (3, .ref r903), (4, .long u1)]) e_X5_worthFrom_80 rfl (nI_dec (by omega)) (by decide) rfl ?_
              refine m_goto F e_X5_worthFrom_83 ?_
              exact ih (nI (n1034 - 1)) u1 _ h1044 trivial (by first | exact mdec0 hm | exact mdec (by omega) (by omega) hm)
        · have c41 : n1036 = 0 := (nI_eq (a := n1036) (b := 0) (by omega) (by omega)).mp q41
          refine m_aload_n F rfl e_X5_worthFrom_44 ?_
          refine t_get F e_X5_worthFrom_45 fl_X5_24 (fun _ => o15) h1 hk rfl (fun v hv f1046 => ?_)
          obtain ⟨r1047, k1048, rfl⟩ := hv
          refine m_iload F rfl e_X5_worthFrom_48 ?_
          refine m_aload_n F rfl e_X5_worthFrom_50 ?_
          refine t_callV F e_X5_worthFrom_51 (s_X8_addTo (x_l X) V b M Z T _ _ r1047 (nI n1034) r903 h1.1 k1048 k903 (by omega)) cb_X8_addTo ml_X5_117 im_X8_addTo se_X8_addTo (fun _ => o16) h1 k1048 rfl rfl (rest := []) rfl (Nat.le_of_ble_eq_true rfl) ⟨Nat.le_of_ble_eq_true rfl, Nat.le_of_ble_eq_true rfl⟩ ⟨Nat.le_of_ble_eq_true rfl, Nat.le_of_ble_eq_true rfl⟩ (fun r σ1049 hp => ?_)
          obtain ⟨h1051, rfl⟩ := hp
          have h1050 := HK.trans h1 h1051 (by decide)
          refine m_aload_n F rfl e_X5_worthFrom_54 ?_
          refine m_ldc2 F kc_X5_109 e_X5_worthFrom_55 ?_
          refine m_lload F rfl e_X5_worthFrom_58 ?_
          refine t_callV F e_X5_worthFrom_60 (s_X1_shareRounded (x_l X) V b M Z T _ _ r903 1000000 u1 h1050.1 k903  (by omega)) cb_X1_shareRounded ml_X5_121 im_X1_shareRounded se_X1_shareRounded (fun _ => o6) h1050 k903 rfl rfl (rest := []) rfl (Nat.le_of_ble_eq_true rfl) ⟨Nat.le_of_ble_eq_true rfl, Nat.le_of_ble_eq_true rfl⟩ ⟨Nat.le_of_ble_eq_true rfl, Nat.le_of_ble_eq_true rfl⟩ (fun r σ1052 hp => ?_)
          obtain ⟨h1054, rfl⟩ := hp
          have h1053 := HK.trans h1050 h1054 (by decide)
          refine m_aload_n F rfl e_X5_worthFrom_63 ?_
          refine t_getC F e_X5_worthFrom_64 fl_X5_70 (fun _ => o15) h1053 hk ((fld_eq (h1054.2 a (by rw [show kA _ a = 15 from hk]; decide))).trans ((fld_eq (h1051.2 a (by rw [show kA _ a = 15 from hk]; decide))).trans f1035)) ?_
          refine m_if_eq F e_X5_worthFrom_67 (fun q67 => ?_) (fun q67 => ?_)
          · have c67 : n1036 = 0 := (nI_eq (a := n1036) (b := 0) (by omega) (by omega)).mp q67
            rcases Nat.eq_zero_or_pos (n1034) with e80 | e80
            · subst e80
              refine m_iinc F (v := -1) (lv' := [(6, .int (-1)), (0, .ref a), (1, .int x901), (2, .int x902), (3, .ref r903), (4, .long u1)]) e_X5_worthFrom_80 rfl (by decide) (by decide) rfl ?_
              refine m_goto F e_X5_worthFrom_83 ?_
              exact ih (-1) u1 _ h1053 trivial (by first | exact mdec0 hm | exact mdec (by omega) (by omega) hm)
            · refine m_iinc F (v := nI (n1034 - 1)) (lv' := [(6, .int (nI (n1034 - 1))), (0, .ref a), (1, .int x901), (2, .int x902), (3, .ref r903), (4, .long u1)]) e_X5_worthFrom_80 rfl (nI_dec (by omega)) (by decide) rfl ?_
              refine m_goto F e_X5_worthFrom_83 ?_
              exact ih (nI (n1034 - 1)) u1 _ h1053 trivial (by first | exact mdec0 hm | exact mdec (by omega) (by omega) hm)
          · have c67 : n1036 ≠ 0 := by have hh := mt (nI_eq (a := n1036) (b := 0) (by omega) (by omega)).mpr q67; omega
            refine m_aload_n F rfl e_X5_worthFrom_70 ?_
            refine t_getC F e_X5_worthFrom_71 fl_X5_24 (fun _ => o15) h1053 hk ((fld_eq (h1054.2 a (by rw [show kA _ a = 15 from hk]; decide))).trans ((fld_eq (h1051.2 a (by rw [show kA _ a = 15 from hk]; decide))).trans f1046)) ?_
            refine m_iload F rfl e_X5_worthFrom_74 ?_
            refine m_aload_n F rfl e_X5_worthFrom_76 ?_
            refine t_callV F e_X5_worthFrom_77 (s_X8_addTo (x_l X) V b M Z T _ _ r1047 (nI n1034) r903 h1053.1 k1048 k903 (by omega)) cb_X8_addTo ml_X5_117 im_X8_addTo se_X8_addTo (fun _ => o16) h1053 k1048 rfl rfl (rest := []) rfl (Nat.le_of_ble_eq_true rfl) ⟨Nat.le_of_ble_eq_true rfl, Nat.le_of_ble_eq_true rfl⟩ ⟨Nat.le_of_ble_eq_true rfl, Nat.le_of_ble_eq_true rfl⟩ (fun r σ1055 hp => ?_)
            obtain ⟨h1057, rfl⟩ := hp
            have h1056 := HK.trans h1053 h1057 (by decide)
            rcases Nat.eq_zero_or_pos (n1034) with e80 | e80
            · subst e80
              refine m_iinc F (v := -1) (lv' := [(6, .int (-1)), (0, .ref a), (1, .int x901), (2, .int x902), (3, .ref r903), (4, .long u1)]) e_X5_worthFrom_80 rfl (by decide) (by decide) rfl ?_
              refine m_goto F e_X5_worthFrom_83 ?_
              exact ih (-1) u1 _ h1056 trivial (by first | exact mdec0 hm | exact mdec (by omega) (by omega) hm)
            · refine m_iinc F (v := nI (n1034 - 1)) (lv' := [(6, .int (nI (n1034 - 1))), (0, .ref a), (1, .int x901), (2, .int x902), (3, .ref r903), (4, .long u1)]) e_X5_worthFrom_80 rfl (nI_dec (by omega)) (by decide) rfl ?_
              refine m_goto F e_X5_worthFrom_83 ?_
              exact ih (nI (n1034 - 1)) u1 _ h1056 trivial (by first | exact mdec0 hm | exact mdec (by omega) (by omega) hm)
set_option maxRecDepth 20000 in
theorem s_X5_worthFrom (l : Launch) (V : VX) (b M Z T N : Nat) (σ : Mem) (a : Nat) (x901 : Int32) (x902 : Int32) (r903 : Nat) (h0 : HT V (b, M, Z, T) σ) (hk : kA b a = 15) (k903 : kA b r903 = 6) (hM : M + 0 ≤ 1000000000) : Ct l V yX5_worthFrom cX5_worthFrom 7 none 2 0 0 N σ [.ref a, .int x901, .int x902, .ref r903] (fun r τ => HK V (b, M, Z, T) [0, 1, 3, 7, 12, 15, 19] σ τ ∧ r = none) := by
  refine Ct.of (by decide) (Nat.le_of_ble_eq_true rfl) [(0, .ref a), (1, .int x901), (2, .int x902), (3, .ref r903)] rfl (fun X hX F hQ => ?_)
  have h1 : HK V (b, M, Z, T) [0, 1, 3, 7, 12, 15, 19] σ σ := HK.start h0
  refine m_ldc2 F kc_X5_109 e_X5_worthFrom_0 ?_
  refine m_iload_n F rfl e_X5_worthFrom_3 ?_
  refine m_i2l F e_X5_worthFrom_4 ?_
  refine Wm.topl (fun x1058 _ => ?_)
  refine m_ladd F e_X5_worthFrom_5 ?_
  refine Wm.topl (fun x1059 _ => ?_)
  refine m_lstore F (lv' := [(4, .long x1059), (0, .ref a), (1, .int x901), (2, .int x902), (3, .ref r903)]) e_X5_worthFrom_6 (by decide) rfl ?_
  refine m_aload_n F rfl e_X5_worthFrom_8 ?_
  refine m_lconst F (v := 0) (by decide) e_X5_worthFrom_9 ?_
  refine t_callV F e_X5_worthFrom_10 (s_X1_set (x_l X) V b M Z T _ _ r903 0 h1.1 k903  (by omega)) cb_X1_set ml_X5_76 im_X1_set se_X1_set (fun _ => o6) h1 k903 rfl rfl (rest := []) rfl (Nat.le_of_ble_eq_true rfl) ⟨Nat.le_of_ble_eq_true rfl, Nat.le_of_ble_eq_true rfl⟩ ⟨Nat.le_of_ble_eq_true rfl, Nat.le_of_ble_eq_true rfl⟩ (fun r σ1060 hp => ?_)
  obtain ⟨h1062, rfl⟩ := hp
  have h1061 := HK.trans h1 h1062 (by decide)
  refine m_aload_n F rfl e_X5_worthFrom_13 ?_
  refine t_get F e_X5_worthFrom_14 fl_X5_42 (fun _ => o15) h1061 hk rfl (fun v hv f1063 => ?_)
  obtain ⟨x1064, rfl⟩ := hv
  refine m_bipush F (v := 72) (by decide) e_X5_worthFrom_17 ?_
  refine m_min F e_X5_worthFrom_19 ml_X5_111 sm_min ini_math co_min (Nat.le_of_ble_eq_true rfl) (Nat.le_of_ble_eq_true rfl) (Nat.le_of_ble_eq_true rfl) (Nat.le_of_ble_eq_true rfl) ?_
  refine Wm.top (fun x1065 _ => ?_)
  refine m_iconst F (v := 1) (by decide) e_X5_worthFrom_22 ?_
  refine m_isub F e_X5_worthFrom_23 ?_
  refine Wm.top (fun x1066 _ => ?_)
  refine m_istore F (lv' := [(6, .int x1066), (4, .long x1059), (0, .ref a), (1, .int x901), (2, .int x902), (3, .ref r903)]) e_X5_worthFrom_24 (by decide) rfl ?_
  refine Wm.lvsub (lv' := [(6, .int x1066), (0, .ref a), (1, .int x901), (2, .int x902), (3, .ref r903), (4, .long x1059)]) ?_ [0, 2, 3, 4, 5, 1] rfl
  exact lp_X5_worthFrom_26 F hQ hk k903 hM ((x1066.toInt + 1).toNat + 1) x1066 x1059 _ h1061 trivial (Nat.lt_succ_self _)
set_option maxRecDepth 20000 in
theorem s_X5_worthLeft (l : Launch) (V : VX) (b M Z T N : Nat) (σ : Mem) (a : Nat) (r901 : Nat) (h0 : HT V (b, M, Z, T) σ) (hk : kA b a = 15) (k901 : kA b r901 = 6) (hM : M + 0 ≤ 1000000000) : Ct l V yX5_worthLeft cX5_worthLeft 2 none 3 0 0 N σ [.ref a, .ref r901] (fun r τ => HK V (b, M, Z, T) [0, 1, 3, 7, 12, 15, 19] σ τ ∧ r = none) := by
  refine Ct.of (by decide) (Nat.le_of_ble_eq_true rfl) [(0, .ref a), (1, .ref r901)] rfl (fun X hX F hQ => ?_)
  have h1 : HK V (b, M, Z, T) [0, 1, 3, 7, 12, 15, 19] σ σ := HK.start h0
  refine m_aload_n F rfl e_X5_worthLeft_0 ?_
  refine m_aload_n F rfl e_X5_worthLeft_1 ?_
  refine t_get F e_X5_worthLeft_2 fl_X5_60 (fun _ => o15) h1 hk rfl (fun v hv f1067 => ?_)
  obtain ⟨x1068, rfl⟩ := hv
  refine m_aload_n F rfl e_X5_worthLeft_5 ?_
  refine t_get F e_X5_worthLeft_6 fl_X5_45 (fun _ => o15) h1 hk rfl (fun v hv f1069 => ?_)
  obtain ⟨x1070, rfl⟩ := hv
  refine m_aload_n F rfl e_X5_worthLeft_9 ?_
  refine t_callV F e_X5_worthLeft_10 (s_X5_worthFrom (x_l X) V b M Z T _ _ a x1068 x1070 r901 h1.1 hk k901 (by omega)) cb_X5_worthFrom ml_X5_105 im_X5_worthFrom se_X5_worthFrom (fun _ => o15) h1 hk rfl rfl (rest := []) rfl (Nat.le_of_ble_eq_true rfl) ⟨Nat.le_of_ble_eq_true rfl, Nat.le_of_ble_eq_true rfl⟩ ⟨Nat.le_of_ble_eq_true rfl, Nat.le_of_ble_eq_true rfl⟩ (fun r σ1071 hp => ?_)
  obtain ⟨h1073, rfl⟩ := hp
  have h1072 := HK.trans h1 h1073 (by decide)
  exact m_vret F hQ e_X5_worthLeft_13 (⟨h1072, rfl⟩)
set_option maxRecDepth 20000 in
theorem lp_X5_greatestRate_30 {V : VX} {X : MX} {b M Z T N : Nat} {σ : Mem} {a : Nat} {x901 : Int32} {x902 : Int64} {r903 : Nat}  (F : Fx V X yX5_greatestRate cX5_greatestRate 9 (some .int) (rmd 3 0 0)) (hQ : Rt V X 0 0 N (fun r τ => HK V (b, M, Z, T) [0, 1, 3, 7, 12, 15, 19] σ τ ∧ ∃ x : Int32, r = some (.int x))) (hk : kA b a = 15) (k903 : kA b r903 = 6) (hM : M + 0 ≤ 1000000000)  : ∀ (fuel : Nat) (u1 : Int32) (u2 : Int32) (i : Nat) (τ : Mem), HK V (b, M, Z, T) [0, 1, 3, 7, 12, 15, 19] σ τ → i ≤ 32 → 32 - i < fuel → Wm V X 9 N τ 0 0 30 [(5, .int u1), (6, .int u2), (7, .int (nI i)), (0, .ref a), (1, .int x901), (2, .long x902), (4, .ref r903)] [] := by
  intro fuel
  induction fuel with
  | zero => intro u1 u2 i τ h1 hi hm; exact absurd hm (Nat.not_lt_zero _)
  | succ fuel ih =>
    intro u1 u2 i τ h1 hi hm
    refine m_iload F rfl e_X5_greatestRate_30 ?_
    refine m_bipush F (v := 32) (by decide) e_X5_greatestRate_32 ?_
    refine m_icmp_ge F e_X5_greatestRate_34 (fun q34 => ?_) (fun q34 => ?_)
    · have c34 : i ≥ 32 := (nI_leI (a := 32) (b := i) (by omega) (by omega)).mp q34
      refine m_iload F rfl e_X5_greatestRate_92 ?_
      exact m_iret F hQ e_X5_greatestRate_94 (⟨h1, _, rfl⟩)
    · have c34 : i < 32 := by have hh := mt (nI_leI (a := 32) (b := i) (by omega) (by omega)).mpr q34; omega
      refine m_iload F rfl e_X5_greatestRate_37 ?_
      refine m_iload F rfl e_X5_greatestRate_39 ?_
      refine m_icmp_ge F e_X5_greatestRate_41 (fun q41 => ?_) (fun q41 => ?_)
      · refine m_iload F rfl e_X5_greatestRate_92 ?_
        exact m_iret F hQ e_X5_greatestRate_94 (⟨h1, _, rfl⟩)
      · refine m_iload F rfl e_X5_greatestRate_44 ?_
        refine m_iload F rfl e_X5_greatestRate_46 ?_
        refine m_iadd F e_X5_greatestRate_48 ?_
        refine Wm.top (fun x1074 _ => ?_)
        refine m_iconst F (v := 1) (by decide) e_X5_greatestRate_49 ?_
        refine m_iadd F e_X5_greatestRate_50 ?_
        refine Wm.top (fun x1075 _ => ?_)
        refine m_iconst F (v := 2) (by decide) e_X5_greatestRate_51 ?_
        refine m_idiv F (by decide) e_X5_greatestRate_52 ?_
        refine Wm.top (fun x1076 _ => ?_)
        refine m_istore F (lv' := [(8, .int x1076), (5, .int u1), (6, .int u2), (7, .int (nI i)), (0, .ref a), (1, .int x901), (2, .long x902), (4, .ref r903)]) e_X5_greatestRate_53 (by decide) rfl ?_
        refine m_aload_n F rfl e_X5_greatestRate_55 ?_
        refine m_iload_n F rfl e_X5_greatestRate_56 ?_
        refine m_iload F rfl e_X5_greatestRate_57 ?_
        refine m_aload F rfl e_X5_greatestRate_59 ?_
        refine t_callV F e_X5_greatestRate_61 (s_X5_worthFrom (x_l X) V b M Z T _ _ a x901 x1076 r903 h1.1 hk k903 (by omega)) cb_X5_worthFrom ml_X5_105 im_X5_worthFrom se_X5_worthFrom (fun _ => o15) h1 hk rfl rfl (rest := []) rfl (Nat.le_of_ble_eq_true rfl) ⟨Nat.le_of_ble_eq_true rfl, Nat.le_of_ble_eq_true rfl⟩ ⟨Nat.le_of_ble_eq_true rfl, Nat.le_of_ble_eq_true rfl⟩ (fun r σ1077 hp => ?_)
        obtain ⟨h1079, rfl⟩ := hp
        have h1078 := HK.trans h1 h1079 (by decide)
        refine m_aload F rfl e_X5_greatestRate_64 ?_
        refine m_lload_n F rfl e_X5_greatestRate_66 ?_
        refine t_callV F e_X5_greatestRate_67 (s_X1_isAtLeast (x_l X) V b M Z T _ _ r903 x902 h1078.1 k903  (by omega)) cb_X1_isAtLeast ml_X5_125 im_X1_isAtLeast se_X1_isAtLeast (fun _ => o6) h1078 k903 rfl rfl (rest := []) rfl (Nat.le_of_ble_eq_true rfl) ⟨Nat.le_of_ble_eq_true rfl, Nat.le_of_ble_eq_true rfl⟩ ⟨Nat.le_of_ble_eq_true rfl, Nat.le_of_ble_eq_true rfl⟩ (fun r σ1080 hp => ?_)
        obtain ⟨h1082, n1083, hn1083, rfl⟩ := hp
        have h1081 := HK.trans h1078 h1082 (by decide)
        refine m_if_eq F e_X5_greatestRate_70 (fun q70 => ?_) (fun q70 => ?_)
        · have c70 : n1083 = 0 := (nI_eq (a := n1083) (b := 0) (by omega) (by omega)).mp q70
          refine m_iload F rfl e_X5_greatestRate_80 ?_
          refine m_iconst F (v := 1) (by decide) e_X5_greatestRate_82 ?_
          refine m_isub F e_X5_greatestRate_83 ?_
          refine Wm.top (fun x1084 _ => ?_)
          refine m_istore F (lv' := [(6, .int x1084), (8, .int x1076), (5, .int u1), (7, .int (nI i)), (0, .ref a), (1, .int x901), (2, .long x902), (4, .ref r903)]) e_X5_greatestRate_84 (by decide) rfl ?_
          refine m_iinc F (v := nI (i + 1)) (lv' := [(7, .int (nI (i + 1))), (6, .int x1084), (8, .int x1076), (5, .int u1), (0, .ref a), (1, .int x901), (2, .long x902), (4, .ref r903)]) e_X5_greatestRate_86 rfl (nI_add i 1) (by decide) rfl ?_
          refine m_goto F e_X5_greatestRate_89 ?_
          refine Wm.lvsub (lv' := [(5, .int u1), (6, .int x1084), (7, .int (nI (i + 1))), (0, .ref a), (1, .int x901), (2, .long x902), (4, .ref r903)]) ?_ [3, 1, 0, 4, 5, 6, 7] rfl
          exact ih u1 x1084 (i + 1) _ h1081 (by omega) (by omega)
        · have c70 : n1083 ≠ 0 := by have hh := mt (nI_eq (a := n1083) (b := 0) (by omega) (by omega)).mpr q70; omega
          refine m_iload F rfl e_X5_greatestRate_73 ?_
          refine m_istore F (lv' := [(5, .int x1076), (8, .int x1076), (6, .int u2), (7, .int (nI i)), (0, .ref a), (1, .int x901), (2, .long x902), (4, .ref r903)]) e_X5_greatestRate_75 (by decide) rfl ?_
          refine m_goto F e_X5_greatestRate_77 ?_
          refine m_iinc F (v := nI (i + 1)) (lv' := [(7, .int (nI (i + 1))), (5, .int x1076), (8, .int x1076), (6, .int u2), (0, .ref a), (1, .int x901), (2, .long x902), (4, .ref r903)]) e_X5_greatestRate_86 rfl (nI_add i 1) (by decide) rfl ?_
          refine m_goto F e_X5_greatestRate_89 ?_
          refine Wm.lvsub (lv' := [(5, .int x1076), (6, .int u2), (7, .int (nI (i + 1))), (0, .ref a), (1, .int x901), (2, .long x902), (4, .ref r903)]) ?_ [1, 3, 0, 4, 5, 6, 7] rfl
          exact ih x1076 u2 (i + 1) _ h1081 (by omega) (by omega)
set_option maxRecDepth 20000 in
theorem s_X5_greatestRate (l : Launch) (V : VX) (b M Z T N : Nat) (σ : Mem) (a : Nat) (x901 : Int32) (x902 : Int64) (r903 : Nat) (h0 : HT V (b, M, Z, T) σ) (hk : kA b a = 15) (k903 : kA b r903 = 6) (hM : M + 0 ≤ 1000000000) : Ct l V yX5_greatestRate cX5_greatestRate 9 (some .int) 3 0 0 N σ [.ref a, .int x901, .long x902, .ref r903] (fun r τ => HK V (b, M, Z, T) [0, 1, 3, 7, 12, 15, 19] σ τ ∧ ∃ x : Int32, r = some (.int x)) := by
  refine Ct.of (by decide) (Nat.le_of_ble_eq_true rfl) [(0, .ref a), (1, .int x901), (2, .long x902), (4, .ref r903)] rfl (fun X hX F hQ => ?_)
  have h1 : HK V (b, M, Z, T) [0, 1, 3, 7, 12, 15, 19] σ σ := HK.start h0
  refine m_aload_n F rfl e_X5_greatestRate_0 ?_
  refine m_iload_n F rfl e_X5_greatestRate_1 ?_
  refine m_iconst F (v := 0) (by decide) e_X5_greatestRate_2 ?_
  refine m_aload F rfl e_X5_greatestRate_3 ?_
  refine t_callV F e_X5_greatestRate_5 (s_X5_worthFrom (x_l X) V b M Z T _ _ a x901 0 r903 h1.1 hk k903 (by omega)) cb_X5_worthFrom ml_X5_105 im_X5_worthFrom se_X5_worthFrom (fun _ => o15) h1 hk rfl rfl (rest := []) rfl (Nat.le_of_ble_eq_true rfl) ⟨Nat.le_of_ble_eq_true rfl, Nat.le_of_ble_eq_true rfl⟩ ⟨Nat.le_of_ble_eq_true rfl, Nat.le_of_ble_eq_true rfl⟩ (fun r σ1085 hp => ?_)
  obtain ⟨h1087, rfl⟩ := hp
  have h1086 := HK.trans h1 h1087 (by decide)
  refine m_aload F rfl e_X5_greatestRate_8 ?_
  refine m_lload_n F rfl e_X5_greatestRate_10 ?_
  refine t_callV F e_X5_greatestRate_11 (s_X1_isAtLeast (x_l X) V b M Z T _ _ r903 x902 h1086.1 k903  (by omega)) cb_X1_isAtLeast ml_X5_125 im_X1_isAtLeast se_X1_isAtLeast (fun _ => o6) h1086 k903 rfl rfl (rest := []) rfl (Nat.le_of_ble_eq_true rfl) ⟨Nat.le_of_ble_eq_true rfl, Nat.le_of_ble_eq_true rfl⟩ ⟨Nat.le_of_ble_eq_true rfl, Nat.le_of_ble_eq_true rfl⟩ (fun r σ1088 hp => ?_)
  obtain ⟨h1090, n1091, hn1091, rfl⟩ := hp
  have h1089 := HK.trans h1086 h1090 (by decide)
  refine m_if_ne F e_X5_greatestRate_14 (fun q14 => ?_) (fun q14 => ?_)
  · have c14 : n1091 ≠ 0 := by have hh := mt (nI_eq (a := n1091) (b := 0) (by omega) (by omega)).mpr q14; omega
    refine m_iconst F (v := 0) (by decide) e_X5_greatestRate_20 ?_
    refine m_istore F (lv' := [(5, .int 0), (0, .ref a), (1, .int x901), (2, .long x902), (4, .ref r903)]) e_X5_greatestRate_21 (by decide) rfl ?_
    refine m_ldc F kc_X5_129 e_X5_greatestRate_23 ?_
    refine m_istore F (lv' := [(6, .int 200000), (5, .int 0), (0, .ref a), (1, .int x901), (2, .long x902), (4, .ref r903)]) e_X5_greatestRate_25 (by decide) rfl ?_
    refine m_iconst F (v := 0) (by decide) e_X5_greatestRate_27 ?_
    refine m_istore F (lv' := [(7, .int 0), (6, .int 200000), (5, .int 0), (0, .ref a), (1, .int x901), (2, .long x902), (4, .ref r903)]) e_X5_greatestRate_28 (by decide) rfl ?_
    refine Wm.lvsub (lv' := [(5, .int 0), (6, .int 200000), (7, .int 0), (0, .ref a), (1, .int x901), (2, .long x902), (4, .ref r903)]) ?_ [2, 1, 0, 3, 4, 5, 6] rfl
    exact lp_X5_greatestRate_30 F hQ hk k903 hM (32 - 0 + 1) 0 200000 0 _ h1089 (by omega) (Nat.lt_succ_self _)
  · have c14 : n1091 = 0 := (nI_eq (a := n1091) (b := 0) (by omega) (by omega)).mp q14
    refine m_bipush F (v := (-2)) (by decide) e_X5_greatestRate_17 ?_
    exact m_iret F hQ e_X5_greatestRate_19 (⟨h1089, _, rfl⟩)
set_option maxRecDepth 20000 in
theorem s_X5_worthOfLevel (l : Launch) (V : VX) (b M Z T N : Nat) (σ : Mem) (a : Nat) (x901 : Int32) (r902 : Nat) (h0 : HT V (b, M, Z, T) σ) (hk : kA b a = 15) (k902 : kA b r902 = 6) (hM : M + 0 ≤ 1000000000) : Ct l V yX5_worthOfLevel cX5_worthOfLevel 3 none 4 0 0 N σ [.ref a, .int x901, .ref r902] (fun r τ => HK V (b, M, Z, T) [0, 1, 3, 7, 12, 15, 19] σ τ ∧ r = none) := by
  refine Ct.of (by decide) (Nat.le_of_ble_eq_true rfl) [(0, .ref a), (1, .int x901), (2, .ref r902)] rfl (fun X hX F hQ => ?_)
  have h1 : HK V (b, M, Z, T) [0, 1, 3, 7, 12, 15, 19] σ σ := HK.start h0
  refine m_aload_n F rfl e_X5_worthOfLevel_0 ?_
  refine t_get F e_X5_worthOfLevel_1 fl_X5_24 (fun _ => o15) h1 hk rfl (fun v hv f1092 => ?_)
  obtain ⟨r1093, k1094, rfl⟩ := hv
  refine m_aload_n F rfl e_X5_worthOfLevel_4 ?_
  refine t_get F e_X5_worthOfLevel_5 fl_X5_42 (fun _ => o15) h1 hk rfl (fun v hv f1095 => ?_)
  obtain ⟨x1096, rfl⟩ := hv
  refine m_iload_n F rfl e_X5_worthOfLevel_8 ?_
  refine m_i2l F e_X5_worthOfLevel_9 ?_
  refine Wm.topl (fun x1097 _ => ?_)
  refine t_callV F e_X5_worthOfLevel_10 (s_X8_fill (x_l X) V b M Z T _ _ r1093 x1096 x1097 h1.1 k1094  (by omega)) cb_X8_fill ml_X5_80 im_X8_fill se_X8_fill (fun _ => o16) h1 k1094 rfl rfl (rest := []) rfl (Nat.le_of_ble_eq_true rfl) ⟨Nat.le_of_ble_eq_true rfl, Nat.le_of_ble_eq_true rfl⟩ ⟨Nat.le_of_ble_eq_true rfl, Nat.le_of_ble_eq_true rfl⟩ (fun r σ1098 hp => ?_)
  obtain ⟨h1100, rfl⟩ := hp
  have h1099 := HK.trans h1 h1100 (by decide)
  refine m_aload_n F rfl e_X5_worthOfLevel_13 ?_
  refine m_iconst F (v := 0) (by decide) e_X5_worthOfLevel_14 ?_
  refine m_aload_n F rfl e_X5_worthOfLevel_15 ?_
  refine t_get F e_X5_worthOfLevel_16 fl_X5_45 (fun _ => o15) h1099 hk rfl (fun v hv f1101 => ?_)
  obtain ⟨x1102, rfl⟩ := hv
  refine m_aload_n F rfl e_X5_worthOfLevel_19 ?_
  refine t_callV F e_X5_worthOfLevel_20 (s_X5_worthFrom (x_l X) V b M Z T _ _ a 0 x1102 r902 h1099.1 hk k902 (by omega)) cb_X5_worthFrom ml_X5_105 im_X5_worthFrom se_X5_worthFrom (fun _ => o15) h1099 hk rfl rfl (rest := []) rfl (Nat.le_of_ble_eq_true rfl) ⟨Nat.le_of_ble_eq_true rfl, Nat.le_of_ble_eq_true rfl⟩ ⟨Nat.le_of_ble_eq_true rfl, Nat.le_of_ble_eq_true rfl⟩ (fun r σ1103 hp => ?_)
  obtain ⟨h1105, rfl⟩ := hp
  have h1104 := HK.trans h1099 h1105 (by decide)
  exact m_vret F hQ e_X5_worthOfLevel_23 (⟨h1104, rfl⟩)
set_option maxRecDepth 20000 in
theorem lp_X5_leastLevel_28 {V : VX} {X : MX} {b M Z T N : Nat} {σ : Mem} {a : Nat} {x901 : Int64} {r902 : Nat}  (F : Fx V X yX5_leastLevel cX5_leastLevel 8 (some .int) (rmd 5 0 0)) (hQ : Rt V X 0 0 N (fun r τ => HK V (b, M, Z, T) [0, 1, 3, 7, 12, 15, 19] σ τ ∧ ∃ x : Int32, r = some (.int x))) (hk : kA b a = 15) (k902 : kA b r902 = 6) (hM : M + 0 ≤ 1000000000)  : ∀ (fuel : Nat) (u1 : Int32) (u2 : Int32) (i : Nat) (τ : Mem), HK V (b, M, Z, T) [0, 1, 3, 7, 12, 15, 19] σ τ → i ≤ 32 → 32 - i < fuel → Wm V X 8 N τ 0 0 28 [(4, .int u1), (5, .int u2), (6, .int (nI i)), (0, .ref a), (1, .long x901), (3, .ref r902)] [] := by
  intro fuel
  induction fuel with
  | zero => intro u1 u2 i τ h1 hi hm; exact absurd hm (Nat.not_lt_zero _)
  | succ fuel ih =>
    intro u1 u2 i τ h1 hi hm
    refine m_iload F rfl e_X5_leastLevel_28 ?_
    refine m_bipush F (v := 32) (by decide) e_X5_leastLevel_30 ?_
    refine m_icmp_ge F e_X5_leastLevel_32 (fun q32 => ?_) (fun q32 => ?_)
    · have c32 : i ≥ 32 := (nI_leI (a := 32) (b := i) (by omega) (by omega)).mp q32
      refine m_iload F rfl e_X5_leastLevel_85 ?_
      exact m_iret F hQ e_X5_leastLevel_87 (⟨h1, _, rfl⟩)
    · have c32 : i < 32 := by have hh := mt (nI_leI (a := 32) (b := i) (by omega) (by omega)).mpr q32; omega
      refine m_iload F rfl e_X5_leastLevel_35 ?_
      refine m_iload F rfl e_X5_leastLevel_37 ?_
      refine m_icmp_ge F e_X5_leastLevel_39 (fun q39 => ?_) (fun q39 => ?_)
      · refine m_iload F rfl e_X5_leastLevel_85 ?_
        exact m_iret F hQ e_X5_leastLevel_87 (⟨h1, _, rfl⟩)
      · refine m_iload F rfl e_X5_leastLevel_42 ?_
        refine m_iload F rfl e_X5_leastLevel_44 ?_
        refine m_iadd F e_X5_leastLevel_46 ?_
        refine Wm.top (fun x1106 _ => ?_)
        refine m_iconst F (v := 2) (by decide) e_X5_leastLevel_47 ?_
        refine m_idiv F (by decide) e_X5_leastLevel_48 ?_
        refine Wm.top (fun x1107 _ => ?_)
        refine m_istore F (lv' := [(7, .int x1107), (4, .int u1), (5, .int u2), (6, .int (nI i)), (0, .ref a), (1, .long x901), (3, .ref r902)]) e_X5_leastLevel_49 (by decide) rfl ?_
        refine m_aload_n F rfl e_X5_leastLevel_51 ?_
        refine m_iload F rfl e_X5_leastLevel_52 ?_
        refine m_aload_n F rfl e_X5_leastLevel_54 ?_
        refine t_callV F e_X5_leastLevel_55 (s_X5_worthOfLevel (x_l X) V b M Z T _ _ a x1107 r902 h1.1 hk k902 (by omega)) cb_X5_worthOfLevel ml_X5_131 im_X5_worthOfLevel se_X5_worthOfLevel (fun _ => o15) h1 hk rfl rfl (rest := []) rfl (Nat.le_of_ble_eq_true rfl) ⟨Nat.le_of_ble_eq_true rfl, Nat.le_of_ble_eq_true rfl⟩ ⟨Nat.le_of_ble_eq_true rfl, Nat.le_of_ble_eq_true rfl⟩ (fun r σ1108 hp => ?_)
        obtain ⟨h1110, rfl⟩ := hp
        have h1109 := HK.trans h1 h1110 (by decide)
        refine m_aload_n F rfl e_X5_leastLevel_58 ?_
        refine m_lload_n F rfl e_X5_leastLevel_59 ?_
        refine t_callV F e_X5_leastLevel_60 (s_X1_isAtLeast (x_l X) V b M Z T _ _ r902 x901 h1109.1 k902  (by omega)) cb_X1_isAtLeast ml_X5_125 im_X1_isAtLeast se_X1_isAtLeast (fun _ => o6) h1109 k902 rfl rfl (rest := []) rfl (Nat.le_of_ble_eq_true rfl) ⟨Nat.le_of_ble_eq_true rfl, Nat.le_of_ble_eq_true rfl⟩ ⟨Nat.le_of_ble_eq_true rfl, Nat.le_of_ble_eq_true rfl⟩ (fun r σ1111 hp => ?_)
        obtain ⟨h1113, n1114, hn1114, rfl⟩ := hp
        have h1112 := HK.trans h1109 h1113 (by decide)
        refine m_if_eq F e_X5_leastLevel_63 (fun q63 => ?_) (fun q63 => ?_)
        · have c63 : n1114 = 0 := (nI_eq (a := n1114) (b := 0) (by omega) (by omega)).mp q63
          refine m_iload F rfl e_X5_leastLevel_73 ?_
          refine m_iconst F (v := 1) (by decide) e_X5_leastLevel_75 ?_
          refine m_iadd F e_X5_leastLevel_76 ?_
          refine Wm.top (fun x1115 _ => ?_)
          refine m_istore F (lv' := [(4, .int x1115), (7, .int x1107), (5, .int u2), (6, .int (nI i)), (0, .ref a), (1, .long x901), (3, .ref r902)]) e_X5_leastLevel_77 (by decide) rfl ?_
          refine m_iinc F (v := nI (i + 1)) (lv' := [(6, .int (nI (i + 1))), (4, .int x1115), (7, .int x1107), (5, .int u2), (0, .ref a), (1, .long x901), (3, .ref r902)]) e_X5_leastLevel_79 rfl (nI_add i 1) (by decide) rfl ?_
          refine m_goto F e_X5_leastLevel_82 ?_
          refine Wm.lvsub (lv' := [(4, .int x1115), (5, .int u2), (6, .int (nI (i + 1))), (0, .ref a), (1, .long x901), (3, .ref r902)]) ?_ [1, 3, 0, 4, 5, 6] rfl
          exact ih x1115 u2 (i + 1) _ h1112 (by omega) (by omega)
        · have c63 : n1114 ≠ 0 := by have hh := mt (nI_eq (a := n1114) (b := 0) (by omega) (by omega)).mpr q63; omega
          refine m_iload F rfl e_X5_leastLevel_66 ?_
          refine m_istore F (lv' := [(5, .int x1107), (7, .int x1107), (4, .int u1), (6, .int (nI i)), (0, .ref a), (1, .long x901), (3, .ref r902)]) e_X5_leastLevel_68 (by decide) rfl ?_
          refine m_goto F e_X5_leastLevel_70 ?_
          refine m_iinc F (v := nI (i + 1)) (lv' := [(6, .int (nI (i + 1))), (5, .int x1107), (7, .int x1107), (4, .int u1), (0, .ref a), (1, .long x901), (3, .ref r902)]) e_X5_leastLevel_79 rfl (nI_add i 1) (by decide) rfl ?_
          refine m_goto F e_X5_leastLevel_82 ?_
          refine Wm.lvsub (lv' := [(4, .int u1), (5, .int x1107), (6, .int (nI (i + 1))), (0, .ref a), (1, .long x901), (3, .ref r902)]) ?_ [3, 1, 0, 4, 5, 6] rfl
          exact ih u1 x1107 (i + 1) _ h1112 (by omega) (by omega)
set_option maxRecDepth 20000 in
theorem s_X5_leastLevel (l : Launch) (V : VX) (b M Z T N : Nat) (σ : Mem) (a : Nat) (x901 : Int64) (r902 : Nat) (h0 : HT V (b, M, Z, T) σ) (hk : kA b a = 15) (k902 : kA b r902 = 6) (hM : M + 0 ≤ 1000000000) : Ct l V yX5_leastLevel cX5_leastLevel 8 (some .int) 5 0 0 N σ [.ref a, .long x901, .ref r902] (fun r τ => HK V (b, M, Z, T) [0, 1, 3, 7, 12, 15, 19] σ τ ∧ ∃ x : Int32, r = some (.int x)) := by
  refine Ct.of (by decide) (Nat.le_of_ble_eq_true rfl) [(0, .ref a), (1, .long x901), (3, .ref r902)] rfl (fun X hX F hQ => ?_)
  have h1 : HK V (b, M, Z, T) [0, 1, 3, 7, 12, 15, 19] σ σ := HK.start h0
  refine m_aload_n F rfl e_X5_leastLevel_0 ?_
  refine m_ldc F kc_X5_130 e_X5_leastLevel_1 ?_
  refine m_aload_n F rfl e_X5_leastLevel_3 ?_
  refine t_callV F e_X5_leastLevel_4 (s_X5_worthOfLevel (x_l X) V b M Z T _ _ a 9999999 r902 h1.1 hk k902 (by omega)) cb_X5_worthOfLevel ml_X5_131 im_X5_worthOfLevel se_X5_worthOfLevel (fun _ => o15) h1 hk rfl rfl (rest := []) rfl (Nat.le_of_ble_eq_true rfl) ⟨Nat.le_of_ble_eq_true rfl, Nat.le_of_ble_eq_true rfl⟩ ⟨Nat.le_of_ble_eq_true rfl, Nat.le_of_ble_eq_true rfl⟩ (fun r σ1116 hp => ?_)
  obtain ⟨h1118, rfl⟩ := hp
  have h1117 := HK.trans h1 h1118 (by decide)
  refine m_aload_n F rfl e_X5_leastLevel_7 ?_
  refine m_lload_n F rfl e_X5_leastLevel_8 ?_
  refine t_callV F e_X5_leastLevel_9 (s_X1_isAtLeast (x_l X) V b M Z T _ _ r902 x901 h1117.1 k902  (by omega)) cb_X1_isAtLeast ml_X5_125 im_X1_isAtLeast se_X1_isAtLeast (fun _ => o6) h1117 k902 rfl rfl (rest := []) rfl (Nat.le_of_ble_eq_true rfl) ⟨Nat.le_of_ble_eq_true rfl, Nat.le_of_ble_eq_true rfl⟩ ⟨Nat.le_of_ble_eq_true rfl, Nat.le_of_ble_eq_true rfl⟩ (fun r σ1119 hp => ?_)
  obtain ⟨h1121, n1122, hn1122, rfl⟩ := hp
  have h1120 := HK.trans h1117 h1121 (by decide)
  refine m_if_ne F e_X5_leastLevel_12 (fun q12 => ?_) (fun q12 => ?_)
  · have c12 : n1122 ≠ 0 := by have hh := mt (nI_eq (a := n1122) (b := 0) (by omega) (by omega)).mpr q12; omega
    refine m_iconst F (v := 0) (by decide) e_X5_leastLevel_18 ?_
    refine m_istore F (lv' := [(4, .int 0), (0, .ref a), (1, .long x901), (3, .ref r902)]) e_X5_leastLevel_19 (by decide) rfl ?_
    refine m_ldc F kc_X5_130 e_X5_leastLevel_21 ?_
    refine m_istore F (lv' := [(5, .int 9999999), (4, .int 0), (0, .ref a), (1, .long x901), (3, .ref r902)]) e_X5_leastLevel_23 (by decide) rfl ?_
    refine m_iconst F (v := 0) (by decide) e_X5_leastLevel_25 ?_
    refine m_istore F (lv' := [(6, .int 0), (5, .int 9999999), (4, .int 0), (0, .ref a), (1, .long x901), (3, .ref r902)]) e_X5_leastLevel_26 (by decide) rfl ?_
    refine Wm.lvsub (lv' := [(4, .int 0), (5, .int 9999999), (6, .int 0), (0, .ref a), (1, .long x901), (3, .ref r902)]) ?_ [2, 1, 0, 3, 4, 5] rfl
    exact lp_X5_leastLevel_28 F hQ hk k902 hM (32 - 0 + 1) 0 9999999 0 _ h1120 (by omega) (Nat.lt_succ_self _)
  · have c12 : n1122 = 0 := (nI_eq (a := n1122) (b := 0) (by omega) (by omega)).mp q12
    refine m_bipush F (v := (-2)) (by decide) e_X5_leastLevel_15 ?_
    exact m_iret F hQ e_X5_leastLevel_17 (⟨h1120, _, rfl⟩)
set_option maxRecDepth 20000 in
theorem s_X5_followIndex (l : Launch) (V : VX) (b M Z T N : Nat) (σ : Mem) (a : Nat) (x901 : Int32) (h0 : HT V (b, M, Z, T) σ) (hk : kA b a = 15) (hM : M + 0 ≤ 1000000000) : Ct l V yX5_followIndex cX5_followIndex 2 none 3 0 0 N σ [.ref a, .int x901] (fun r τ => HK V (b, M, Z, T) [0, 1, 3, 7, 12, 19] σ τ ∧ r = none) := by
  refine Ct.of (by decide) (Nat.le_of_ble_eq_true rfl) [(0, .ref a), (1, .int x901)] rfl (fun X hX F hQ => ?_)
  have h1 : HK V (b, M, Z, T) [0, 1, 3, 7, 12, 19] σ σ := HK.start h0
  refine m_aload_n F rfl e_X5_followIndex_0 ?_
  refine m_iload_n F rfl e_X5_followIndex_1 ?_
  refine t_put F e_X5_followIndex_2 fp_X5_57 (fun _ => o15) h1 hk rfl ⟨_, rfl⟩ rfl rfl (by decide) (fun σ1123 h1124 g1125 g1126 f1127 => ?_)
  refine m_aload_n F rfl e_X5_followIndex_5 ?_
  refine t_get F e_X5_followIndex_6 fl_X5_24 (fun _ => o15) h1124 hk rfl (fun v hv f1128 => ?_)
  obtain ⟨r1129, k1130, rfl⟩ := hv
  refine m_aload_n F rfl e_X5_followIndex_9 ?_
  refine t_get F e_X5_followIndex_10 fl_X5_28 (fun _ => o15) h1124 hk rfl (fun v hv f1131 => ?_)
  obtain ⟨r1132, k1133, rfl⟩ := hv
  refine m_aload_n F rfl e_X5_followIndex_13 ?_
  refine t_get F e_X5_followIndex_14 fl_X5_60 (fun _ => o15) h1124 hk rfl (fun v hv f1134 => ?_)
  obtain ⟨x1135, rfl⟩ := hv
  refine m_aload_n F rfl e_X5_followIndex_17 ?_
  refine t_get F e_X5_followIndex_18 fl_X5_42 (fun _ => o15) h1124 hk rfl (fun v hv f1136 => ?_)
  obtain ⟨x1137, rfl⟩ := hv
  refine m_iload_n F rfl e_X5_followIndex_21 ?_
  refine m_i2l F e_X5_followIndex_22 ?_
  refine Wm.topl (fun x1138 _ => ?_)
  refine m_aload_n F rfl e_X5_followIndex_23 ?_
  refine t_get F e_X5_followIndex_24 fl_X5_54 (fun _ => o15) h1124 hk rfl (fun v hv f1139 => ?_)
  obtain ⟨x1140, rfl⟩ := hv
  refine m_i2l F e_X5_followIndex_27 ?_
  refine Wm.topl (fun x1141 _ => ?_)
  refine t_callV F e_X5_followIndex_28 (s_X8_shareDownOf (x_l X) V b M Z T _ _ r1129 r1132 x1135 x1137 x1138 x1141 h1124.1 k1130 k1133 (by omega)) cb_X8_shareDownOf ml_X5_134 im_X8_shareDownOf se_X8_shareDownOf (fun _ => o16) h1124 k1130 rfl rfl (rest := []) rfl (Nat.le_of_ble_eq_true rfl) ⟨Nat.le_of_ble_eq_true rfl, Nat.le_of_ble_eq_true rfl⟩ ⟨Nat.le_of_ble_eq_true rfl, Nat.le_of_ble_eq_true rfl⟩ (fun r σ1142 hp => ?_)
  obtain ⟨h1144, rfl⟩ := hp
  have h1143 := HK.trans h1124 h1144 (by decide)
  exact m_vret F hQ e_X5_followIndex_31 (⟨h1143, rfl⟩)
set_option maxRecDepth 20000 in
theorem lp_X5_goOnAsLast_2 {V : VX} {X : MX} {b M Z T N : Nat} {σ : Mem} {a : Nat} {n901 : Nat}  (F : Fx V X yX5_goOnAsLast cX5_goOnAsLast 3 none (rmd 2 0 0)) (hQ : Rt V X 0 0 N (fun r τ => HK V (b, M, Z, T) [0, 1, 3, 7, 12, 19] σ τ ∧ r = none)) (hk : kA b a = 15) (hn901 : n901 ≤ 24) (hM : M + 0 ≤ 1000000000)  : ∀ (fuel : Nat) (i : Nat) (τ : Mem), HK V (b, M, Z, T) [0, 1, 3, 7, 12, 19] σ τ → i ≤ 24 → 24 - i < fuel → Wm V X 3 N τ 0 0 2 [(2, .int (nI i)), (0, .ref a), (1, .int (nI n901))] [] := by
  intro fuel
  induction fuel with
  | zero => intro i τ h1 hi hm; exact absurd hm (Nat.not_lt_zero _)
  | succ fuel ih =>
    intro i τ h1 hi hm
    refine m_iload_n F rfl e_X5_goOnAsLast_2 ?_
    refine m_iload_n F rfl e_X5_goOnAsLast_3 ?_
    refine m_icmp_ge F e_X5_goOnAsLast_4 (fun q4 => ?_) (fun q4 => ?_)
    · have c4 : i ≥ n901 := (nI_leI (a := n901) (b := i) (by omega) (by omega)).mp q4
      exact m_vret F hQ e_X5_goOnAsLast_69 (⟨h1, rfl⟩)
    · have c4 : i < n901 := by have hh := mt (nI_leI (a := n901) (b := i) (by omega) (by omega)).mpr q4; omega
      refine m_aload_n F rfl e_X5_goOnAsLast_7 ?_
      refine m_aload_n F rfl e_X5_goOnAsLast_8 ?_
      refine t_get F e_X5_goOnAsLast_9 fl_X5_42 (fun _ => o15) h1 hk rfl (fun v hv f1145 => ?_)
      obtain ⟨x1146, rfl⟩ := hv
      refine t_callV F e_X5_goOnAsLast_12 (s_X5_owns (x_l X) V b M Z T _ _ a x1146 h1.1 hk  (by omega)) cb_X5_owns ml_X5_138 im_X5_owns se_X5_owns (fun _ => o15) h1 hk rfl rfl (rest := []) rfl (Nat.le_of_ble_eq_true rfl) ⟨Nat.le_of_ble_eq_true rfl, Nat.le_of_ble_eq_true rfl⟩ ⟨Nat.le_of_ble_eq_true rfl, Nat.le_of_ble_eq_true rfl⟩ (fun r σ1147 hp => ?_)
      obtain ⟨h1149, n1150, hn1150, rfl⟩ := hp
      have h1148 := HK.trans h1 h1149 (by decide)
      refine m_if_eq F e_X5_goOnAsLast_15 (fun q15 => ?_) (fun q15 => ?_)
      · have c15 : n1150 = 0 := (nI_eq (a := n1150) (b := 0) (by omega) (by omega)).mp q15
        exact m_vret F hQ e_X5_goOnAsLast_69 (⟨h1148, rfl⟩)
      · have c15 : n1150 ≠ 0 := by have hh := mt (nI_eq (a := n1150) (b := 0) (by omega) (by omega)).mpr q15; omega
        refine m_aload_n F rfl e_X5_goOnAsLast_18 ?_
        refine t_getC F e_X5_goOnAsLast_19 fl_X5_42 (fun _ => o15) h1148 hk ((fld_eq (h1149.2 a (by rw [show kA _ a = 15 from hk]; decide))).trans f1145) ?_
        refine m_bipush F (v := 72) (by decide) e_X5_goOnAsLast_22 ?_
        refine m_icmp_ge F e_X5_goOnAsLast_24 (fun q24 => ?_) (fun q24 => ?_)
        · obtain ⟨n1151, hn1151, rfl⟩ := nI_nn (x := x1146) (fun e => Int32.lt_irrefl (Int32.lt_of_lt_of_le e (Int32.le_trans (by decide) q24)))
          have c24 : n1151 ≥ 72 := (nI_leI (a := 72) (b := n1151) (by omega) (by omega)).mp q24
          exact m_vret F hQ e_X5_goOnAsLast_69 (⟨h1148, rfl⟩)
        · refine m_aload_n F rfl e_X5_goOnAsLast_27 ?_
          refine t_get F e_X5_goOnAsLast_28 fl_X5_24 (fun _ => o15) h1148 hk rfl (fun v hv f1152 => ?_)
          obtain ⟨r1153, k1154, rfl⟩ := hv
          refine m_aload_n F rfl e_X5_goOnAsLast_31 ?_
          refine t_getC F e_X5_goOnAsLast_32 fl_X5_42 (fun _ => o15) h1148 hk ((fld_eq (h1149.2 a (by rw [show kA _ a = 15 from hk]; decide))).trans f1145) ?_
          refine m_iconst F (v := 1) (by decide) e_X5_goOnAsLast_35 ?_
          refine m_isub F e_X5_goOnAsLast_36 ?_
          refine Wm.top (fun x1155 _ => ?_)
          refine t_callV F e_X5_goOnAsLast_37 (s_X8_repeat (x_l X) V b M Z T _ _ r1153 x1155 h1148.1 k1154  (by omega)) cb_X8_repeat ml_X5_142 im_X8_repeat se_X8_repeat (fun _ => o16) h1148 k1154 rfl rfl (rest := []) rfl (Nat.le_of_ble_eq_true rfl) ⟨Nat.le_of_ble_eq_true rfl, Nat.le_of_ble_eq_true rfl⟩ ⟨Nat.le_of_ble_eq_true rfl, Nat.le_of_ble_eq_true rfl⟩ (fun r σ1156 hp => ?_)
          obtain ⟨h1158, rfl⟩ := hp
          have h1157 := HK.trans h1148 h1158 (by decide)
          refine m_aload_n F rfl e_X5_goOnAsLast_40 ?_
          refine t_get F e_X5_goOnAsLast_41 fl_X5_28 (fun _ => o15) h1157 hk rfl (fun v hv f1159 => ?_)
          obtain ⟨r1160, k1161, rfl⟩ := hv
          refine m_aload_n F rfl e_X5_goOnAsLast_44 ?_
          refine t_getC F e_X5_goOnAsLast_45 fl_X5_42 (fun _ => o15) h1157 hk ((fld_eq (h1158.2 a (by rw [show kA _ a = 15 from hk]; decide))).trans ((fld_eq (h1149.2 a (by rw [show kA _ a = 15 from hk]; decide))).trans f1145)) ?_
          refine m_iconst F (v := 1) (by decide) e_X5_goOnAsLast_48 ?_
          refine m_isub F e_X5_goOnAsLast_49 ?_
          refine Wm.top (fun x1162 _ => ?_)
          refine t_callV F e_X5_goOnAsLast_50 (s_X8_repeat (x_l X) V b M Z T _ _ r1160 x1162 h1157.1 k1161  (by omega)) cb_X8_repeat ml_X5_142 im_X8_repeat se_X8_repeat (fun _ => o16) h1157 k1161 rfl rfl (rest := []) rfl (Nat.le_of_ble_eq_true rfl) ⟨Nat.le_of_ble_eq_true rfl, Nat.le_of_ble_eq_true rfl⟩ ⟨Nat.le_of_ble_eq_true rfl, Nat.le_of_ble_eq_true rfl⟩ (fun r σ1163 hp => ?_)
          obtain ⟨h1165, rfl⟩ := hp
          have h1164 := HK.trans h1157 h1165 (by decide)
          refine m_aload_n F rfl e_X5_goOnAsLast_53 ?_
          refine m_dup F rfl e_X5_goOnAsLast_54 ?_
          refine t_getC F e_X5_goOnAsLast_55 fl_X5_42 (fun _ => o15) h1164 hk ((fld_eq (h1165.2 a (by rw [show kA _ a = 15 from hk]; decide))).trans ((fld_eq (h1158.2 a (by rw [show kA _ a = 15 from hk]; decide))).trans ((fld_eq (h1149.2 a (by rw [show kA _ a = 15 from hk]; decide))).trans f1145))) ?_
          refine m_iconst F (v := 1) (by decide) e_X5_goOnAsLast_58 ?_
          refine m_iadd F e_X5_goOnAsLast_59 ?_
          refine Wm.top (fun x1166 _ => ?_)
          refine t_put F e_X5_goOnAsLast_60 fp_X5_42 (fun _ => o15) h1164 hk rfl ⟨_, rfl⟩ rfl rfl (by decide) (fun σ1167 h1168 g1169 g1170 f1171 => ?_)
          refine m_iinc F (v := nI (i + 1)) (lv' := [(2, .int (nI (i + 1))), (0, .ref a), (1, .int (nI n901))]) e_X5_goOnAsLast_63 rfl (nI_add i 1) (by decide) rfl ?_
          refine m_goto F e_X5_goOnAsLast_66 ?_
          exact ih (i + 1) _ h1168 (by omega) (by omega)
set_option maxRecDepth 20000 in
theorem s_X5_goOnAsLast (l : Launch) (V : VX) (b M Z T N : Nat) (σ : Mem) (a : Nat) (n901 : Nat) (h0 : HT V (b, M, Z, T) σ) (hk : kA b a = 15) (hn901 : n901 ≤ 24) (hM : M + 0 ≤ 1000000000) : Ct l V yX5_goOnAsLast cX5_goOnAsLast 3 none 2 0 0 N σ [.ref a, .int (nI n901)] (fun r τ => HK V (b, M, Z, T) [0, 1, 3, 7, 12, 19] σ τ ∧ r = none) := by
  refine Ct.of (by decide) (Nat.le_of_ble_eq_true rfl) [(0, .ref a), (1, .int (nI n901))] rfl (fun X hX F hQ => ?_)
  have h1 : HK V (b, M, Z, T) [0, 1, 3, 7, 12, 19] σ σ := HK.start h0
  refine m_iconst F (v := 0) (by decide) e_X5_goOnAsLast_0 ?_
  refine m_istore_n F (lv' := [(2, .int 0), (0, .ref a), (1, .int (nI n901))]) e_X5_goOnAsLast_1 (by decide) rfl ?_
  exact lp_X5_goOnAsLast_2 F hQ hk hn901 hM (24 - 0 + 1) 0 _ h1 (by omega) (Nat.lt_succ_self _)
set_option maxRecDepth 20000 in
theorem lp_X5_goOn_3 {V : VX} {X : MX} {b M Z T N : Nat} {σ : Mem} {a : Nat} {n901 : Nat} {x902 : Int64}  (F : Fx V X yX5_goOn cX5_goOn 5 none (rmd 2 0 0)) (hQ : Rt V X 0 0 N (fun r τ => HK V (b, M, Z, T) [0, 1, 3, 7, 12, 19] σ τ ∧ r = none)) (hk : kA b a = 15) (hn901 : n901 ≤ 24) (hM : M + 0 ≤ 1000000000)  : ∀ (fuel : Nat) (i : Nat) (τ : Mem), HK V (b, M, Z, T) [0, 1, 3, 7, 12, 19] σ τ → i ≤ 24 → 24 - i < fuel → Wm V X 5 N τ 0 0 3 [(4, .int (nI i)), (0, .ref a), (1, .int (nI n901)), (2, .long x902)] [] := by
  intro fuel
  induction fuel with
  | zero => intro i τ h1 hi hm; exact absurd hm (Nat.not_lt_zero _)
  | succ fuel ih =>
    intro i τ h1 hi hm
    refine m_iload F rfl e_X5_goOn_3 ?_
    refine m_iload_n F rfl e_X5_goOn_5 ?_
    refine m_icmp_ge F e_X5_goOn_6 (fun q6 => ?_) (fun q6 => ?_)
    · have c6 : i ≥ n901 := (nI_leI (a := n901) (b := i) (by omega) (by omega)).mp q6
      exact m_vret F hQ e_X5_goOn_58 (⟨h1, rfl⟩)
    · have c6 : i < n901 := by have hh := mt (nI_leI (a := n901) (b := i) (by omega) (by omega)).mpr q6; omega
      refine m_aload_n F rfl e_X5_goOn_9 ?_
      refine t_get F e_X5_goOn_10 fl_X5_42 (fun _ => o15) h1 hk rfl (fun v hv f1172 => ?_)
      obtain ⟨x1173, rfl⟩ := hv
      refine m_bipush F (v := 72) (by decide) e_X5_goOn_13 ?_
      refine m_icmp_ge F e_X5_goOn_15 (fun q15 => ?_) (fun q15 => ?_)
      · obtain ⟨n1174, hn1174, rfl⟩ := nI_nn (x := x1173) (fun e => Int32.lt_irrefl (Int32.lt_of_lt_of_le e (Int32.le_trans (by decide) q15)))
        have c15 : n1174 ≥ 72 := (nI_leI (a := 72) (b := n1174) (by omega) (by omega)).mp q15
        exact m_vret F hQ e_X5_goOn_58 (⟨h1, rfl⟩)
      · refine m_aload_n F rfl e_X5_goOn_18 ?_
        refine t_get F e_X5_goOn_19 fl_X5_24 (fun _ => o15) h1 hk rfl (fun v hv f1175 => ?_)
        obtain ⟨r1176, k1177, rfl⟩ := hv
        refine m_aload_n F rfl e_X5_goOn_22 ?_
        refine t_getC F e_X5_goOn_23 fl_X5_42 (fun _ => o15) h1 hk (f1172) ?_
        refine m_lload_n F rfl e_X5_goOn_26 ?_
        refine t_callV F e_X5_goOn_27 (s_X8_setAt (x_l X) V b M Z T _ _ r1176 x1173 x902 h1.1 k1177  (by omega)) cb_X8_setAt ml_X5_146 im_X8_setAt se_X8_setAt (fun _ => o16) h1 k1177 rfl rfl (rest := []) rfl (Nat.le_of_ble_eq_true rfl) ⟨Nat.le_of_ble_eq_true rfl, Nat.le_of_ble_eq_true rfl⟩ ⟨Nat.le_of_ble_eq_true rfl, Nat.le_of_ble_eq_true rfl⟩ (fun r σ1178 hp => ?_)
        obtain ⟨h1180, rfl⟩ := hp
        have h1179 := HK.trans h1 h1180 (by decide)
        refine m_aload_n F rfl e_X5_goOn_30 ?_
        refine t_get F e_X5_goOn_31 fl_X5_28 (fun _ => o15) h1179 hk rfl (fun v hv f1181 => ?_)
        obtain ⟨r1182, k1183, rfl⟩ := hv
        refine m_aload_n F rfl e_X5_goOn_34 ?_
        refine t_getC F e_X5_goOn_35 fl_X5_42 (fun _ => o15) h1179 hk ((fld_eq (h1180.2 a (by rw [show kA _ a = 15 from hk]; decide))).trans f1172) ?_
        refine m_lload_n F rfl e_X5_goOn_38 ?_
        refine t_callV F e_X5_goOn_39 (s_X8_setAt (x_l X) V b M Z T _ _ r1182 x1173 x902 h1179.1 k1183  (by omega)) cb_X8_setAt ml_X5_146 im_X8_setAt se_X8_setAt (fun _ => o16) h1179 k1183 rfl rfl (rest := []) rfl (Nat.le_of_ble_eq_true rfl) ⟨Nat.le_of_ble_eq_true rfl, Nat.le_of_ble_eq_true rfl⟩ ⟨Nat.le_of_ble_eq_true rfl, Nat.le_of_ble_eq_true rfl⟩ (fun r σ1184 hp => ?_)
        obtain ⟨h1186, rfl⟩ := hp
        have h1185 := HK.trans h1179 h1186 (by decide)
        refine m_aload_n F rfl e_X5_goOn_42 ?_
        refine m_dup F rfl e_X5_goOn_43 ?_
        refine t_getC F e_X5_goOn_44 fl_X5_42 (fun _ => o15) h1185 hk ((fld_eq (h1186.2 a (by rw [show kA _ a = 15 from hk]; decide))).trans ((fld_eq (h1180.2 a (by rw [show kA _ a = 15 from hk]; decide))).trans f1172)) ?_
        refine m_iconst F (v := 1) (by decide) e_X5_goOn_47 ?_
        refine m_iadd F e_X5_goOn_48 ?_
        refine Wm.top (fun x1187 _ => ?_)
        refine t_put F e_X5_goOn_49 fp_X5_42 (fun _ => o15) h1185 hk rfl ⟨_, rfl⟩ rfl rfl (by decide) (fun σ1188 h1189 g1190 g1191 f1192 => ?_)
        refine m_iinc F (v := nI (i + 1)) (lv' := [(4, .int (nI (i + 1))), (0, .ref a), (1, .int (nI n901)), (2, .long x902)]) e_X5_goOn_52 rfl (nI_add i 1) (by decide) rfl ?_
        refine m_goto F e_X5_goOn_55 ?_
        exact ih (i + 1) _ h1189 (by omega) (by omega)
set_option maxRecDepth 20000 in
theorem s_X5_goOn (l : Launch) (V : VX) (b M Z T N : Nat) (σ : Mem) (a : Nat) (n901 : Nat) (x902 : Int64) (h0 : HT V (b, M, Z, T) σ) (hk : kA b a = 15) (hn901 : n901 ≤ 24) (hM : M + 0 ≤ 1000000000) : Ct l V yX5_goOn cX5_goOn 5 none 2 0 0 N σ [.ref a, .int (nI n901), .long x902] (fun r τ => HK V (b, M, Z, T) [0, 1, 3, 7, 12, 19] σ τ ∧ r = none) := by
  refine Ct.of (by decide) (Nat.le_of_ble_eq_true rfl) [(0, .ref a), (1, .int (nI n901)), (2, .long x902)] rfl (fun X hX F hQ => ?_)
  have h1 : HK V (b, M, Z, T) [0, 1, 3, 7, 12, 19] σ σ := HK.start h0
  refine m_iconst F (v := 0) (by decide) e_X5_goOn_0 ?_
  refine m_istore F (lv' := [(4, .int 0), (0, .ref a), (1, .int (nI n901)), (2, .long x902)]) e_X5_goOn_1 (by decide) rfl ?_
  exact lp_X5_goOn_3 F hQ hk hn901 hM (24 - 0 + 1) 0 _ h1 (by omega) (Nat.lt_succ_self _)
set_option maxRecDepth 20000 in
theorem s_X5_keepPart (l : Launch) (V : VX) (b M Z T N : Nat) (σ : Mem) (a : Nat) (x901 : Int64) (h0 : HT V (b, M, Z, T) σ) (hk : kA b a = 15) (hM : M + 0 ≤ 1000000000) : Ct l V yX5_keepPart cX5_keepPart 3 none 3 0 0 N σ [.ref a, .long x901] (fun r τ => HK V (b, M, Z, T) [0, 1, 3, 7, 12, 15, 19] σ τ ∧ r = none) := by
  refine Ct.of (by decide) (Nat.le_of_ble_eq_true rfl) [(0, .ref a), (1, .long x901)] rfl (fun X hX F hQ => ?_)
  have h1 : HK V (b, M, Z, T) [0, 1, 3, 7, 12, 15, 19] σ σ := HK.start h0
  refine m_aload_n F rfl e_X5_keepPart_0 ?_
  refine t_get F e_X5_keepPart_1 fl_X5_24 (fun _ => o15) h1 hk rfl (fun v hv f1193 => ?_)
  obtain ⟨r1194, k1195, rfl⟩ := hv
  refine m_aload_n F rfl e_X5_keepPart_4 ?_
  refine t_getC F e_X5_keepPart_5 fl_X5_24 (fun _ => o15) h1 hk (f1193) ?_
  refine m_aload_n F rfl e_X5_keepPart_8 ?_
  refine t_get F e_X5_keepPart_9 fl_X5_60 (fun _ => o15) h1 hk rfl (fun v hv f1196 => ?_)
  obtain ⟨x1197, rfl⟩ := hv
  refine m_aload_n F rfl e_X5_keepPart_12 ?_
  refine t_get F e_X5_keepPart_13 fl_X5_42 (fun _ => o15) h1 hk rfl (fun v hv f1198 => ?_)
  obtain ⟨x1199, rfl⟩ := hv
  refine m_lload_n F rfl e_X5_keepPart_16 ?_
  refine m_ldc2 F kc_X5_149 e_X5_keepPart_17 ?_
  refine t_callV F e_X5_keepPart_20 (s_X8_shareDownOf (x_l X) V b M Z T _ _ r1194 r1194 x1197 x1199 x901 1000 h1.1 k1195 k1195 (by omega)) cb_X8_shareDownOf ml_X5_134 im_X8_shareDownOf se_X8_shareDownOf (fun _ => o16) h1 k1195 rfl rfl (rest := []) rfl (Nat.le_of_ble_eq_true rfl) ⟨Nat.le_of_ble_eq_true rfl, Nat.le_of_ble_eq_true rfl⟩ ⟨Nat.le_of_ble_eq_true rfl, Nat.le_of_ble_eq_true rfl⟩ (fun r σ1200 hp => ?_)
  obtain ⟨h1202, rfl⟩ := hp
  have h1201 := HK.trans h1 h1202 (by decide)
  refine m_aload_n F rfl e_X5_keepPart_23 ?_
  refine t_get F e_X5_keepPart_24 fl_X5_28 (fun _ => o15) h1201 hk rfl (fun v hv f1203 => ?_)
  obtain ⟨r1204, k1205, rfl⟩ := hv
  refine m_aload_n F rfl e_X5_keepPart_27 ?_
  refine t_getC F e_X5_keepPart_28 fl_X5_28 (fun _ => o15) h1201 hk (f1203) ?_
  refine m_aload_n F rfl e_X5_keepPart_31 ?_
  refine t_getC F e_X5_keepPart_32 fl_X5_60 (fun _ => o15) h1201 hk ((fld_eq (h1202.2 a (by rw [show kA _ a = 15 from hk]; decide))).trans f1196) ?_
  refine m_aload_n F rfl e_X5_keepPart_35 ?_
  refine t_getC F e_X5_keepPart_36 fl_X5_42 (fun _ => o15) h1201 hk ((fld_eq (h1202.2 a (by rw [show kA _ a = 15 from hk]; decide))).trans f1198) ?_
  refine m_lload_n F rfl e_X5_keepPart_39 ?_
  refine m_ldc2 F kc_X5_149 e_X5_keepPart_40 ?_
  refine t_callV F e_X5_keepPart_43 (s_X8_shareDownOf (x_l X) V b M Z T _ _ r1204 r1204 x1197 x1199 x901 1000 h1201.1 k1205 k1205 (by omega)) cb_X8_shareDownOf ml_X5_134 im_X8_shareDownOf se_X8_shareDownOf (fun _ => o16) h1201 k1205 rfl rfl (rest := []) rfl (Nat.le_of_ble_eq_true rfl) ⟨Nat.le_of_ble_eq_true rfl, Nat.le_of_ble_eq_true rfl⟩ ⟨Nat.le_of_ble_eq_true rfl, Nat.le_of_ble_eq_true rfl⟩ (fun r σ1206 hp => ?_)
  obtain ⟨h1208, rfl⟩ := hp
  have h1207 := HK.trans h1201 h1208 (by decide)
  exact m_vret F hQ e_X5_keepPart_46 (⟨h1207, rfl⟩)
set_option maxRecDepth 20000 in
theorem s_X5_movePayment (l : Launch) (V : VX) (b M Z T N : Nat) (σ : Mem) (a : Nat) (x901 : Int32) (x902 : Int32) (h0 : HT V (b, M, Z, T) σ) (hk : kA b a = 15) (hM : M + 0 ≤ 1000000000) : Ct l V yX5_movePayment cX5_movePayment 3 none 3 0 0 N σ [.ref a, .int x901, .int x902] (fun r τ => HK V (b, M, Z, T) [0, 1, 3, 7, 12, 15, 19] σ τ ∧ r = none) := by
  refine Ct.of (by decide) (Nat.le_of_ble_eq_true rfl) [(0, .ref a), (1, .int x901), (2, .int x902)] rfl (fun X hX F hQ => ?_)
  have h1 : HK V (b, M, Z, T) [0, 1, 3, 7, 12, 15, 19] σ σ := HK.start h0
  refine m_aload_n F rfl e_X5_movePayment_0 ?_
  refine t_get F e_X5_movePayment_1 fl_X5_24 (fun _ => o15) h1 hk rfl (fun v hv f1209 => ?_)
  obtain ⟨r1210, k1211, rfl⟩ := hv
  refine m_iload_n F rfl e_X5_movePayment_4 ?_
  refine m_iload_n F rfl e_X5_movePayment_5 ?_
  refine t_callV F e_X5_movePayment_6 (s_X8_move (x_l X) V b M Z T _ _ r1210 x901 x902 h1.1 k1211  (by omega)) cb_X8_move ml_X5_151 im_X8_move se_X8_move (fun _ => o16) h1 k1211 rfl rfl (rest := []) rfl (Nat.le_of_ble_eq_true rfl) ⟨Nat.le_of_ble_eq_true rfl, Nat.le_of_ble_eq_true rfl⟩ ⟨Nat.le_of_ble_eq_true rfl, Nat.le_of_ble_eq_true rfl⟩ (fun r σ1212 hp => ?_)
  obtain ⟨h1214, rfl⟩ := hp
  have h1213 := HK.trans h1 h1214 (by decide)
  refine m_aload_n F rfl e_X5_movePayment_9 ?_
  refine t_get F e_X5_movePayment_10 fl_X5_28 (fun _ => o15) h1213 hk rfl (fun v hv f1215 => ?_)
  obtain ⟨r1216, k1217, rfl⟩ := hv
  refine m_iload_n F rfl e_X5_movePayment_13 ?_
  refine m_iload_n F rfl e_X5_movePayment_14 ?_
  refine t_callV F e_X5_movePayment_15 (s_X8_move (x_l X) V b M Z T _ _ r1216 x901 x902 h1213.1 k1217  (by omega)) cb_X8_move ml_X5_151 im_X8_move se_X8_move (fun _ => o16) h1213 k1217 rfl rfl (rest := []) rfl (Nat.le_of_ble_eq_true rfl) ⟨Nat.le_of_ble_eq_true rfl, Nat.le_of_ble_eq_true rfl⟩ ⟨Nat.le_of_ble_eq_true rfl, Nat.le_of_ble_eq_true rfl⟩ (fun r σ1218 hp => ?_)
  obtain ⟨h1220, rfl⟩ := hp
  have h1219 := HK.trans h1213 h1220 (by decide)
  exact m_vret F hQ e_X5_movePayment_18 (⟨h1219, rfl⟩)
set_option maxRecDepth 20000 in
theorem s_X5_owedBehind (l : Launch) (V : VX) (b M Z T N : Nat) (σ : Mem) (a : Nat) (r901 : Nat) (r902 : Nat) (h0 : HT V (b, M, Z, T) σ) (hk : kA b a = 15) (k901 : kA b r901 = 6) (k902 : kA b r902 = 6) (hM : M + 0 ≤ 1000000000) : Ct l V yX5_owedBehind cX5_owedBehind 3 none 2 0 0 N σ [.ref a, .ref r901, .ref r902] (fun r τ => HK V (b, M, Z, T) [0, 1, 3, 7, 12, 15, 19] σ τ ∧ r = none) := by
  refine Ct.of (by decide) (Nat.le_of_ble_eq_true rfl) [(0, .ref a), (1, .ref r901), (2, .ref r902)] rfl (fun X hX F hQ => ?_)
  have h1 : HK V (b, M, Z, T) [0, 1, 3, 7, 12, 15, 19] σ σ := HK.start h0
  refine m_aload_n F rfl e_X5_owedBehind_0 ?_
  refine t_callV F e_X5_owedBehind_1 (s_X5_left (x_l X) V b M Z T _ _ a  h1.1 hk  (by omega)) cb_X5_left ml_X5_155 im_X5_left se_X5_left (fun _ => o15) h1 hk rfl rfl (rest := []) rfl (Nat.le_of_ble_eq_true rfl) ⟨Nat.le_of_ble_eq_true rfl, Nat.le_of_ble_eq_true rfl⟩ ⟨Nat.le_of_ble_eq_true rfl, Nat.le_of_ble_eq_true rfl⟩ (fun r σ1221 hp => ?_)
  obtain ⟨h1223, x1224, rfl⟩ := hp
  have h1222 := HK.trans h1 h1223 (by decide)
  refine m_iconst F (v := 1) (by decide) e_X5_owedBehind_4 ?_
  refine m_icmp_gt F e_X5_owedBehind_5 (fun q5 => ?_) (fun q5 => ?_)
  · obtain ⟨n1225, hn1225, rfl⟩ := nI_nn (x := x1224) (fun e => Int32.lt_irrefl (Int32.lt_trans e (Int32.lt_of_le_of_lt (by decide) q5)))
    have c5 : n1225 > 1 := (nI_ltI (a := 1) (b := n1225) (by omega) (by omega)).mp q5
    refine m_aload_n F rfl e_X5_owedBehind_14 ?_
    refine m_aload_n F rfl e_X5_owedBehind_15 ?_
    refine t_get F e_X5_owedBehind_16 fl_X5_12 (fun _ => o15) h1222 hk rfl (fun v hv f1226 => ?_)
    obtain ⟨r1227, k1228, rfl⟩ := hv
    refine t_callV F e_X5_owedBehind_19 (s_X1_copyFrom (x_l X) V b M Z T _ _ r902 r1227 h1222.1 k902 k1228 (by omega)) cb_X1_copyFrom ml_X5_89 im_X1_copyFrom se_X1_copyFrom (fun _ => o6) h1222 k902 rfl rfl (rest := []) rfl (Nat.le_of_ble_eq_true rfl) ⟨Nat.le_of_ble_eq_true rfl, Nat.le_of_ble_eq_true rfl⟩ ⟨Nat.le_of_ble_eq_true rfl, Nat.le_of_ble_eq_true rfl⟩ (fun r σ1229 hp => ?_)
    obtain ⟨h1231, rfl⟩ := hp
    have h1230 := HK.trans h1222 h1231 (by decide)
    refine m_aload_n F rfl e_X5_owedBehind_22 ?_
    refine t_get F e_X5_owedBehind_23 fl_X5_70 (fun _ => o15) h1230 hk rfl (fun v hv f1232 => ?_)
    obtain ⟨n1233, hn1233, rfl⟩ := hv
    replace hn1233 : n1233 ≤ 1 := hn1233
    refine m_if_ne F e_X5_owedBehind_26 (fun q26 => ?_) (fun q26 => ?_)
    · have c26 : n1233 ≠ 0 := by have hh := mt (nI_eq (a := n1233) (b := 0) (by omega) (by omega)).mpr q26; omega
      refine m_aload_n F rfl e_X5_owedBehind_45 ?_
      refine m_aload_n F rfl e_X5_owedBehind_46 ?_
      refine t_callV F e_X5_owedBehind_47 (s_X1_subtract (x_l X) V b M Z T _ _ r902 r901 h1230.1 k902 k901 (by omega)) cb_X1_subtract ml_X5_159 im_X1_subtract se_X1_subtract (fun _ => o6) h1230 k902 rfl rfl (rest := []) rfl (Nat.le_of_ble_eq_true rfl) ⟨Nat.le_of_ble_eq_true rfl, Nat.le_of_ble_eq_true rfl⟩ ⟨Nat.le_of_ble_eq_true rfl, Nat.le_of_ble_eq_true rfl⟩ (fun r σ1234 hp => ?_)
      obtain ⟨h1236, rfl⟩ := hp
      have h1235 := HK.trans h1230 h1236 (by decide)
      refine m_aload_n F rfl e_X5_owedBehind_50 ?_
      refine t_callV F e_X5_owedBehind_51 (s_X1_holdToZero (x_l X) V b M Z T _ _ r902  h1235.1 k902  (by omega)) cb_X1_holdToZero ml_X5_162 im_X1_holdToZero se_X1_holdToZero (fun _ => o6) h1235 k902 rfl rfl (rest := []) rfl (Nat.le_of_ble_eq_true rfl) ⟨Nat.le_of_ble_eq_true rfl, Nat.le_of_ble_eq_true rfl⟩ ⟨Nat.le_of_ble_eq_true rfl, Nat.le_of_ble_eq_true rfl⟩ (fun r σ1237 hp => ?_)
      obtain ⟨h1239, rfl⟩ := hp
      have h1238 := HK.trans h1235 h1239 (by decide)
      refine m_aload_n F rfl e_X5_owedBehind_54 ?_
      refine t_getC F e_X5_owedBehind_55 fl_X5_70 (fun _ => o15) h1238 hk ((fld_eq (h1239.2 a (by rw [show kA _ a = 15 from hk]; decide))).trans ((fld_eq (h1236.2 a (by rw [show kA _ a = 15 from hk]; decide))).trans f1232)) ?_
      refine m_if_eq F e_X5_owedBehind_58 (fun q58 => ?_) (fun q58 => ?_)
      · have c58 : n1233 = 0 := (nI_eq (a := n1233) (b := 0) (by omega) (by omega)).mp q58
        exact m_vret F hQ e_X5_owedBehind_77 (⟨h1238, rfl⟩)
      · have c58 : n1233 ≠ 0 := by have hh := mt (nI_eq (a := n1233) (b := 0) (by omega) (by omega)).mpr q58; omega
        refine m_aload_n F rfl e_X5_owedBehind_61 ?_
        refine m_ldc2 F kc_X5_109 e_X5_owedBehind_62 ?_
        refine m_aload_n F rfl e_X5_owedBehind_65 ?_
        refine t_get F e_X5_owedBehind_66 fl_X5_45 (fun _ => o15) h1238 hk rfl (fun v hv f1240 => ?_)
        obtain ⟨x1241, rfl⟩ := hv
        refine m_i2l F e_X5_owedBehind_69 ?_
        refine Wm.topl (fun x1242 _ => ?_)
        refine m_ladd F e_X5_owedBehind_70 ?_
        refine Wm.topl (fun x1243 _ => ?_)
        refine m_ldc2 F kc_X5_109 e_X5_owedBehind_71 ?_
        refine t_callV F e_X5_owedBehind_74 (s_X1_shareRounded (x_l X) V b M Z T _ _ r902 x1243 1000000 h1238.1 k902  (by omega)) cb_X1_shareRounded ml_X5_121 im_X1_shareRounded se_X1_shareRounded (fun _ => o6) h1238 k902 rfl rfl (rest := []) rfl (Nat.le_of_ble_eq_true rfl) ⟨Nat.le_of_ble_eq_true rfl, Nat.le_of_ble_eq_true rfl⟩ ⟨Nat.le_of_ble_eq_true rfl, Nat.le_of_ble_eq_true rfl⟩ (fun r σ1244 hp => ?_)
        obtain ⟨h1246, rfl⟩ := hp
        have h1245 := HK.trans h1238 h1246 (by decide)
        exact m_vret F hQ e_X5_owedBehind_77 (⟨h1245, rfl⟩)
    · have c26 : n1233 = 0 := (nI_eq (a := n1233) (b := 0) (by omega) (by omega)).mp q26
      refine m_aload_n F rfl e_X5_owedBehind_29 ?_
      refine m_ldc2 F kc_X5_109 e_X5_owedBehind_30 ?_
      refine m_aload_n F rfl e_X5_owedBehind_33 ?_
      refine t_get F e_X5_owedBehind_34 fl_X5_45 (fun _ => o15) h1230 hk rfl (fun v hv f1247 => ?_)
      obtain ⟨x1248, rfl⟩ := hv
      refine m_i2l F e_X5_owedBehind_37 ?_
      refine Wm.topl (fun x1249 _ => ?_)
      refine m_ladd F e_X5_owedBehind_38 ?_
      refine Wm.topl (fun x1250 _ => ?_)
      refine m_ldc2 F kc_X5_109 e_X5_owedBehind_39 ?_
      refine t_callV F e_X5_owedBehind_42 (s_X1_shareRounded (x_l X) V b M Z T _ _ r902 x1250 1000000 h1230.1 k902  (by omega)) cb_X1_shareRounded ml_X5_121 im_X1_shareRounded se_X1_shareRounded (fun _ => o6) h1230 k902 rfl rfl (rest := []) rfl (Nat.le_of_ble_eq_true rfl) ⟨Nat.le_of_ble_eq_true rfl, Nat.le_of_ble_eq_true rfl⟩ ⟨Nat.le_of_ble_eq_true rfl, Nat.le_of_ble_eq_true rfl⟩ (fun r σ1251 hp => ?_)
      obtain ⟨h1253, rfl⟩ := hp
      have h1252 := HK.trans h1230 h1253 (by decide)
      refine m_aload_n F rfl e_X5_owedBehind_45 ?_
      refine m_aload_n F rfl e_X5_owedBehind_46 ?_
      refine t_callV F e_X5_owedBehind_47 (s_X1_subtract (x_l X) V b M Z T _ _ r902 r901 h1252.1 k902 k901 (by omega)) cb_X1_subtract ml_X5_159 im_X1_subtract se_X1_subtract (fun _ => o6) h1252 k902 rfl rfl (rest := []) rfl (Nat.le_of_ble_eq_true rfl) ⟨Nat.le_of_ble_eq_true rfl, Nat.le_of_ble_eq_true rfl⟩ ⟨Nat.le_of_ble_eq_true rfl, Nat.le_of_ble_eq_true rfl⟩ (fun r σ1254 hp => ?_)
      obtain ⟨h1256, rfl⟩ := hp
      have h1255 := HK.trans h1252 h1256 (by decide)
      refine m_aload_n F rfl e_X5_owedBehind_50 ?_
      refine t_callV F e_X5_owedBehind_51 (s_X1_holdToZero (x_l X) V b M Z T _ _ r902  h1255.1 k902  (by omega)) cb_X1_holdToZero ml_X5_162 im_X1_holdToZero se_X1_holdToZero (fun _ => o6) h1255 k902 rfl rfl (rest := []) rfl (Nat.le_of_ble_eq_true rfl) ⟨Nat.le_of_ble_eq_true rfl, Nat.le_of_ble_eq_true rfl⟩ ⟨Nat.le_of_ble_eq_true rfl, Nat.le_of_ble_eq_true rfl⟩ (fun r σ1257 hp => ?_)
      obtain ⟨h1259, rfl⟩ := hp
      have h1258 := HK.trans h1255 h1259 (by decide)
      refine m_aload_n F rfl e_X5_owedBehind_54 ?_
      refine t_getC F e_X5_owedBehind_55 fl_X5_70 (fun _ => o15) h1258 hk ((fld_eq (h1259.2 a (by rw [show kA _ a = 15 from hk]; decide))).trans ((fld_eq (h1256.2 a (by rw [show kA _ a = 15 from hk]; decide))).trans ((fld_eq (h1253.2 a (by rw [show kA _ a = 15 from hk]; decide))).trans f1232))) ?_
      refine m_if_eq F e_X5_owedBehind_58 (fun q58 => ?_) (fun q58 => ?_)
      · have c58 : n1233 = 0 := (nI_eq (a := n1233) (b := 0) (by omega) (by omega)).mp q58
        exact m_vret F hQ e_X5_owedBehind_77 (⟨h1258, rfl⟩)
      · have c58 : n1233 ≠ 0 := by have hh := mt (nI_eq (a := n1233) (b := 0) (by omega) (by omega)).mpr q58; omega
        refine m_aload_n F rfl e_X5_owedBehind_61 ?_
        refine m_ldc2 F kc_X5_109 e_X5_owedBehind_62 ?_
        refine m_aload_n F rfl e_X5_owedBehind_65 ?_
        refine t_getC F e_X5_owedBehind_66 fl_X5_45 (fun _ => o15) h1258 hk ((fld_eq (h1259.2 a (by rw [show kA _ a = 15 from hk]; decide))).trans ((fld_eq (h1256.2 a (by rw [show kA _ a = 15 from hk]; decide))).trans ((fld_eq (h1253.2 a (by rw [show kA _ a = 15 from hk]; decide))).trans f1247))) ?_
        refine m_i2l F e_X5_owedBehind_69 ?_
        refine Wm.topl (fun x1260 _ => ?_)
        refine m_ladd F e_X5_owedBehind_70 ?_
        refine Wm.topl (fun x1261 _ => ?_)
        refine m_ldc2 F kc_X5_109 e_X5_owedBehind_71 ?_
        refine t_callV F e_X5_owedBehind_74 (s_X1_shareRounded (x_l X) V b M Z T _ _ r902 x1261 1000000 h1258.1 k902  (by omega)) cb_X1_shareRounded ml_X5_121 im_X1_shareRounded se_X1_shareRounded (fun _ => o6) h1258 k902 rfl rfl (rest := []) rfl (Nat.le_of_ble_eq_true rfl) ⟨Nat.le_of_ble_eq_true rfl, Nat.le_of_ble_eq_true rfl⟩ ⟨Nat.le_of_ble_eq_true rfl, Nat.le_of_ble_eq_true rfl⟩ (fun r σ1262 hp => ?_)
        obtain ⟨h1264, rfl⟩ := hp
        have h1263 := HK.trans h1258 h1264 (by decide)
        exact m_vret F hQ e_X5_owedBehind_77 (⟨h1263, rfl⟩)
  · refine m_aload_n F rfl e_X5_owedBehind_8 ?_
    refine m_lconst F (v := 0) (by decide) e_X5_owedBehind_9 ?_
    refine t_callV F e_X5_owedBehind_10 (s_X1_set (x_l X) V b M Z T _ _ r902 0 h1222.1 k902  (by omega)) cb_X1_set ml_X5_76 im_X1_set se_X1_set (fun _ => o6) h1222 k902 rfl rfl (rest := []) rfl (Nat.le_of_ble_eq_true rfl) ⟨Nat.le_of_ble_eq_true rfl, Nat.le_of_ble_eq_true rfl⟩ ⟨Nat.le_of_ble_eq_true rfl, Nat.le_of_ble_eq_true rfl⟩ (fun r σ1265 hp => ?_)
    obtain ⟨h1267, rfl⟩ := hp
    have h1266 := HK.trans h1222 h1267 (by decide)
    exact m_vret F hQ e_X5_owedBehind_13 (⟨h1266, rfl⟩)
set_option maxRecDepth 20000 in
theorem s_X2_clear (l : Launch) (V : VX) (b M Z T N : Nat) (σ : Mem) (a : Nat) (h0 : HT V (b, M, Z, T) σ) (hk : kA b a = 7) (hM : M + 0 ≤ 1000000000) : Ct l V yX2_clear cX2_clear 1 none 2 0 0 N σ [.ref a] (fun r τ => HK V (b, M, Z, T) [0, 1, 3, 15, 19] σ τ ∧ r = none) := by
  refine Ct.of (by decide) (Nat.le_of_ble_eq_true rfl) [(0, .ref a)] rfl (fun X hX F hQ => ?_)
  have h1 : HK V (b, M, Z, T) [0, 1, 3, 15, 19] σ σ := HK.start h0
  refine m_aload_n F rfl e_X2_clear_0 ?_
  refine m_iconst F (v := 0) (by decide) e_X2_clear_1 ?_
  refine t_put F e_X2_clear_2 fp_X2_58 (fun _ => o7) h1 hk rfl ⟨0, (show 0 ≤ 4 by omega), rfl⟩ rfl rfl (by decide) (fun σ1268 h1269 g1270 g1271 f1272 => ?_)
  refine m_aload_n F rfl e_X2_clear_5 ?_
  refine m_iconst F (v := 0) (by decide) e_X2_clear_6 ?_
  refine t_put F e_X2_clear_7 fp_X2_62 (fun _ => o7) h1269 hk rfl ⟨0, (show 0 ≤ 4 by omega), rfl⟩ rfl rfl (by decide) (fun σ1273 h1274 g1275 g1276 f1277 => ?_)
  refine m_aload_n F rfl e_X2_clear_10 ?_
  refine m_iconst F (v := 0) (by decide) e_X2_clear_11 ?_
  refine t_put F e_X2_clear_12 fp_X2_65 (fun _ => o7) h1274 hk rfl ⟨0, (show 0 ≤ 8 by omega), rfl⟩ rfl rfl (by decide) (fun σ1278 h1279 g1280 g1281 f1282 => ?_)
  refine m_aload_n F rfl e_X2_clear_15 ?_
  refine m_iconst F (v := 0) (by decide) e_X2_clear_16 ?_
  refine t_put F e_X2_clear_17 fp_X2_68 (fun _ => o7) h1279 hk rfl ⟨0, (show 0 ≤ M by omega), rfl⟩ rfl rfl (by decide) (fun σ1283 h1284 g1285 g1286 f1287 => ?_)
  refine m_aload_n F rfl e_X2_clear_20 ?_
  refine m_iconst F (v := 0) (by decide) e_X2_clear_21 ?_
  refine t_put F e_X2_clear_22 fp_X2_71 (fun _ => o7) h1284 hk rfl ⟨_, rfl⟩ rfl rfl (by decide) (fun σ1288 h1289 g1290 g1291 f1292 => ?_)
  refine m_aload_n F rfl e_X2_clear_25 ?_
  refine t_get F e_X2_clear_26 fl_X2_23 (fun _ => o7) h1289 hk rfl (fun v hv f1293 => ?_)
  obtain ⟨r1294, k1295, rfl⟩ := hv
  refine m_sipush F (v := 1000) (by decide) e_X2_clear_29 ?_
  refine m_callS F e_X2_clear_32 (s_J7_fill_53178_10 (x_l X) V b M Z T _ _ r1294 1000 h1289.1 k1295 (by omega)) cb_J7_fill_53178 ml_X2_52 sm_J7_fill_53178 rfl (rest := []) rfl (Nat.le_of_ble_eq_true rfl) ⟨Nat.le_of_ble_eq_true rfl, Nat.le_of_ble_eq_true rfl⟩ ⟨Nat.le_of_ble_eq_true rfl, Nat.le_of_ble_eq_true rfl⟩ (k' := 0) (z' := 0) (N' := N) rfl rfl rfl (fun r σ1296 hp => ?_)
  obtain ⟨h1298, rfl⟩ := hp
  have h1297 := HK.trans h1289 h1298 (by decide)
  refine m_aload_n F rfl e_X2_clear_35 ?_
  refine t_get F e_X2_clear_36 fl_X2_33 (fun _ => o7) h1297 hk rfl (fun v hv f1299 => ?_)
  obtain ⟨r1300, k1301, rfl⟩ := hv
  refine t_callV F e_X2_clear_39 (s_X3_clear (x_l X) V b M Z T _ _ r1300  h1297.1 k1301  (by omega)) cb_X3_clear ml_X2_74 im_X3_clear se_X3_clear (fun _ => o12) h1297 k1301 rfl rfl (rest := []) rfl (Nat.le_of_ble_eq_true rfl) ⟨Nat.le_of_ble_eq_true rfl, Nat.le_of_ble_eq_true rfl⟩ ⟨Nat.le_of_ble_eq_true rfl, Nat.le_of_ble_eq_true rfl⟩ (fun r σ1302 hp => ?_)
  obtain ⟨h1304, rfl⟩ := hp
  have h1303 := HK.trans h1297 h1304 (by decide)
  exact m_vret F hQ e_X2_clear_42 (⟨h1303, rfl⟩)
set_option maxRecDepth 20000 in
theorem lp_X2_copyFrom_114 {V : VX} {X : MX} {b M Z T N : Nat} {σ : Mem} {a : Nat} {r901 : Nat}  (F : Fx V X yX2_copyFrom cX2_copyFrom 3 none (rmd 3 0 0)) (hQ : Rt V X 0 0 N (fun r τ => HK V (b, M, Z, T) [0, 1, 3] σ τ ∧ r = none)) (hk : kA b a = 7) (k901 : kA b r901 = 7) (hM : M + 0 ≤ 1000000000)  : ∀ (fuel : Nat) (i : Nat) (τ : Mem), HK V (b, M, Z, T) [0, 1, 3] σ τ → i ≤ 4 → 4 - i < fuel → Wm V X 3 N τ 0 0 114 [(2, .int (nI i)), (0, .ref a), (1, .ref r901)] [] := by
  intro fuel
  induction fuel with
  | zero => intro i τ h1 hi hm; exact absurd hm (Nat.not_lt_zero _)
  | succ fuel ih =>
    intro i τ h1 hi hm
    refine m_iload_n F rfl e_X2_copyFrom_114 ?_
    refine m_aload_n F rfl e_X2_copyFrom_115 ?_
    refine t_get F e_X2_copyFrom_116 fl_X2_62 (fun _ => o7) h1 hk rfl (fun v hv f1305 => ?_)
    obtain ⟨n1306, hn1306, rfl⟩ := hv
    replace hn1306 : n1306 ≤ 4 := hn1306
    refine m_icmp_ge F e_X2_copyFrom_119 (fun q119 => ?_) (fun q119 => ?_)
    · have c119 : i ≥ n1306 := (nI_leI (a := n1306) (b := i) (by omega) (by omega)).mp q119
      exact m_vret F hQ e_X2_copyFrom_143 (⟨h1, rfl⟩)
    · have c119 : i < n1306 := by have hh := mt (nI_leI (a := n1306) (b := i) (by omega) (by omega)).mpr q119; omega
      refine m_aload_n F rfl e_X2_copyFrom_122 ?_
      refine t_get F e_X2_copyFrom_123 fl_X2_19 (fun _ => o7) h1 hk rfl (fun v hv f1307 => ?_)
      obtain ⟨r1308, k1309, rfl⟩ := hv
      refine m_iload_n F rfl e_X2_copyFrom_126 ?_
      refine t_aald F (len := 4) (j := i) e_X2_copyFrom_127 (fun _ => o9) rfl h1 k1309 (nI_clamp (by omega)) (vp_in_nI (by omega) (by decide)) (fun r1310 k1311 => ?_)
      refine m_aload_n F rfl e_X2_copyFrom_128 ?_
      refine t_get F e_X2_copyFrom_129 fl_X2_19 (fun _ => o7) h1 k901 rfl (fun v hv f1312 => ?_)
      obtain ⟨r1313, k1314, rfl⟩ := hv
      refine m_iload_n F rfl e_X2_copyFrom_132 ?_
      refine t_aald F (len := 4) (j := i) e_X2_copyFrom_133 (fun _ => o9) rfl h1 k1314 (nI_clamp (by omega)) (vp_in_nI (by omega) (by decide)) (fun r1315 k1316 => ?_)
      refine t_callV F e_X2_copyFrom_134 (s_X6_copyFrom (x_l X) V b M Z T _ _ r1310 r1315 h1.1 k1311 k1316 (by omega)) cb_X6_copyFrom ml_X2_90 im_X6_copyFrom se_X6_copyFrom (fun _ => o19) h1 k1311 rfl rfl (rest := []) rfl (Nat.le_of_ble_eq_true rfl) ⟨Nat.le_of_ble_eq_true rfl, Nat.le_of_ble_eq_true rfl⟩ ⟨Nat.le_of_ble_eq_true rfl, Nat.le_of_ble_eq_true rfl⟩ (fun r σ1317 hp => ?_)
      obtain ⟨h1319, rfl⟩ := hp
      have h1318 := HK.trans h1 h1319 (by decide)
      refine m_iinc F (v := nI (i + 1)) (lv' := [(2, .int (nI (i + 1))), (0, .ref a), (1, .ref r901)]) e_X2_copyFrom_137 rfl (nI_add i 1) (by decide) rfl ?_
      refine m_goto F e_X2_copyFrom_140 ?_
      exact ih (i + 1) _ h1318 (by omega) (by omega)
set_option maxRecDepth 20000 in
theorem lp_X2_copyFrom_83 {V : VX} {X : MX} {b M Z T N : Nat} {σ : Mem} {a : Nat} {r901 : Nat}  (F : Fx V X yX2_copyFrom cX2_copyFrom 3 none (rmd 3 0 0)) (hQ : Rt V X 0 0 N (fun r τ => HK V (b, M, Z, T) [0, 1, 3] σ τ ∧ r = none)) (hk : kA b a = 7) (k901 : kA b r901 = 7) (hM : M + 0 ≤ 1000000000)  : ∀ (fuel : Nat) (i : Nat) (τ : Mem), HK V (b, M, Z, T) [0, 1, 3] σ τ → i ≤ 4 → 4 - i < fuel → Wm V X 3 N τ 0 0 83 [(2, .int (nI i)), (0, .ref a), (1, .ref r901)] [] := by
  intro fuel
  induction fuel with
  | zero => intro i τ h1 hi hm; exact absurd hm (Nat.not_lt_zero _)
  | succ fuel ih =>
    intro i τ h1 hi hm
    refine m_iload_n F rfl e_X2_copyFrom_83 ?_
    refine m_aload_n F rfl e_X2_copyFrom_84 ?_
    refine t_get F e_X2_copyFrom_85 fl_X2_58 (fun _ => o7) h1 hk rfl (fun v hv f1320 => ?_)
    obtain ⟨n1321, hn1321, rfl⟩ := hv
    replace hn1321 : n1321 ≤ 4 := hn1321
    refine m_icmp_ge F e_X2_copyFrom_88 (fun q88 => ?_) (fun q88 => ?_)
    · have c88 : i ≥ n1321 := (nI_leI (a := n1321) (b := i) (by omega) (by omega)).mp q88
      refine m_iconst F (v := 0) (by decide) e_X2_copyFrom_112 ?_
      refine m_istore_n F (lv' := [(2, .int 0), (0, .ref a), (1, .ref r901)]) e_X2_copyFrom_113 (by decide) rfl ?_
      exact lp_X2_copyFrom_114 F hQ hk k901 hM (4 - 0 + 1) 0 _ h1 (by omega) (Nat.lt_succ_self _)
    · have c88 : i < n1321 := by have hh := mt (nI_leI (a := n1321) (b := i) (by omega) (by omega)).mpr q88; omega
      refine m_aload_n F rfl e_X2_copyFrom_91 ?_
      refine t_get F e_X2_copyFrom_92 fl_X2_11 (fun _ => o7) h1 hk rfl (fun v hv f1322 => ?_)
      obtain ⟨r1323, k1324, rfl⟩ := hv
      refine m_iload_n F rfl e_X2_copyFrom_95 ?_
      refine t_aald F (len := 4) (j := i) e_X2_copyFrom_96 (fun _ => o8) rfl h1 k1324 (nI_clamp (by omega)) (vp_in_nI (by omega) (by decide)) (fun r1325 k1326 => ?_)
      refine m_aload_n F rfl e_X2_copyFrom_97 ?_
      refine t_get F e_X2_copyFrom_98 fl_X2_11 (fun _ => o7) h1 k901 rfl (fun v hv f1327 => ?_)
      obtain ⟨r1328, k1329, rfl⟩ := hv
      refine m_iload_n F rfl e_X2_copyFrom_101 ?_
      refine t_aald F (len := 4) (j := i) e_X2_copyFrom_102 (fun _ => o8) rfl h1 k1329 (nI_clamp (by omega)) (vp_in_nI (by omega) (by decide)) (fun r1330 k1331 => ?_)
      refine t_callV F e_X2_copyFrom_103 (s_X5_copyFrom (x_l X) V b M Z T _ _ r1325 r1330 h1.1 k1326 k1331 (by omega)) cb_X5_copyFrom ml_X2_87 im_X5_copyFrom se_X5_copyFrom (fun _ => o15) h1 k1326 rfl rfl (rest := []) rfl (Nat.le_of_ble_eq_true rfl) ⟨Nat.le_of_ble_eq_true rfl, Nat.le_of_ble_eq_true rfl⟩ ⟨Nat.le_of_ble_eq_true rfl, Nat.le_of_ble_eq_true rfl⟩ (fun r σ1332 hp => ?_)
      obtain ⟨h1334, rfl⟩ := hp
      have h1333 := HK.trans h1 h1334 (by decide)
      refine m_iinc F (v := nI (i + 1)) (lv' := [(2, .int (nI (i + 1))), (0, .ref a), (1, .ref r901)]) e_X2_copyFrom_106 rfl (nI_add i 1) (by decide) rfl ?_
      refine m_goto F e_X2_copyFrom_109 ?_
      exact ih (i + 1) _ h1333 (by omega) (by omega)
set_option maxRecDepth 20000 in
theorem s_X2_copyFrom (l : Launch) (V : VX) (b M Z T N : Nat) (σ : Mem) (a : Nat) (r901 : Nat) (h0 : HT V (b, M, Z, T) σ) (hk : kA b a = 7) (k901 : kA b r901 = 7) (hM : M + 0 ≤ 1000000000) : Ct l V yX2_copyFrom cX2_copyFrom 3 none 3 0 0 N σ [.ref a, .ref r901] (fun r τ => HK V (b, M, Z, T) [0, 1, 3] σ τ ∧ r = none) := by
  refine Ct.of (by decide) (Nat.le_of_ble_eq_true rfl) [(0, .ref a), (1, .ref r901)] rfl (fun X hX F hQ => ?_)
  have h1 : HK V (b, M, Z, T) [0, 1, 3] σ σ := HK.start h0
  refine m_aload_n F rfl e_X2_copyFrom_0 ?_
  refine m_aload_n F rfl e_X2_copyFrom_1 ?_
  refine t_get F e_X2_copyFrom_2 fl_X2_58 (fun _ => o7) h1 k901 rfl (fun v hv f1335 => ?_)
  obtain ⟨n1336, hn1336, rfl⟩ := hv
  replace hn1336 : n1336 ≤ 4 := hn1336
  refine t_put F e_X2_copyFrom_5 fp_X2_58 (fun _ => o7) h1 hk rfl ⟨n1336, (show n1336 ≤ 4 by omega), rfl⟩ rfl rfl (by decide) (fun σ1337 h1338 g1339 g1340 f1341 => ?_)
  refine m_aload_n F rfl e_X2_copyFrom_8 ?_
  refine m_aload_n F rfl e_X2_copyFrom_9 ?_
  refine t_get F e_X2_copyFrom_10 fl_X2_62 (fun _ => o7) h1338 k901 rfl (fun v hv f1342 => ?_)
  obtain ⟨n1343, hn1343, rfl⟩ := hv
  replace hn1343 : n1343 ≤ 4 := hn1343
  refine t_put F e_X2_copyFrom_13 fp_X2_62 (fun _ => o7) h1338 hk rfl ⟨n1343, (show n1343 ≤ 4 by omega), rfl⟩ rfl rfl (by decide) (fun σ1344 h1345 g1346 g1347 f1348 => ?_)
  refine m_aload_n F rfl e_X2_copyFrom_16 ?_
  refine m_aload_n F rfl e_X2_copyFrom_17 ?_
  refine t_get F e_X2_copyFrom_18 fl_X2_65 (fun _ => o7) h1345 k901 rfl (fun v hv f1349 => ?_)
  obtain ⟨n1350, hn1350, rfl⟩ := hv
  replace hn1350 : n1350 ≤ 8 := hn1350
  refine t_put F e_X2_copyFrom_21 fp_X2_65 (fun _ => o7) h1345 hk rfl ⟨n1350, (show n1350 ≤ 8 by omega), rfl⟩ rfl rfl (by decide) (fun σ1351 h1352 g1353 g1354 f1355 => ?_)
  refine m_aload_n F rfl e_X2_copyFrom_24 ?_
  refine m_aload_n F rfl e_X2_copyFrom_25 ?_
  refine t_get F e_X2_copyFrom_26 fl_X2_68 (fun _ => o7) h1352 k901 rfl (fun v hv f1356 => ?_)
  obtain ⟨n1357, hn1357, rfl⟩ := hv
  replace hn1357 : n1357 ≤ M := hn1357
  refine t_put F e_X2_copyFrom_29 fp_X2_68 (fun _ => o7) h1352 hk rfl ⟨n1357, (show n1357 ≤ M by omega), rfl⟩ rfl rfl (by decide) (fun σ1358 h1359 g1360 g1361 f1362 => ?_)
  refine m_aload_n F rfl e_X2_copyFrom_32 ?_
  refine m_aload_n F rfl e_X2_copyFrom_33 ?_
  refine t_get F e_X2_copyFrom_34 fl_X2_71 (fun _ => o7) h1359 k901 rfl (fun v hv f1363 => ?_)
  obtain ⟨x1364, rfl⟩ := hv
  refine t_put F e_X2_copyFrom_37 fp_X2_71 (fun _ => o7) h1359 hk rfl ⟨_, rfl⟩ rfl rfl (by decide) (fun σ1365 h1366 g1367 g1368 f1369 => ?_)
  refine m_aload_n F rfl e_X2_copyFrom_40 ?_
  refine t_get F e_X2_copyFrom_41 fl_X2_23 (fun _ => o7) h1366 k901 rfl (fun v hv f1370 => ?_)
  obtain ⟨r1371, k1372, rfl⟩ := hv
  refine m_iconst F (v := 0) (by decide) e_X2_copyFrom_44 ?_
  refine m_aload_n F rfl e_X2_copyFrom_45 ?_
  refine t_get F e_X2_copyFrom_46 fl_X2_23 (fun _ => o7) h1366 hk rfl (fun v hv f1373 => ?_)
  obtain ⟨r1374, k1375, rfl⟩ := hv
  refine m_iconst F (v := 0) (by decide) e_X2_copyFrom_49 ?_
  refine m_bipush F (v := 100) (by decide) e_X2_copyFrom_50 ?_
  refine t_copyI F (len := 100) e_X2_copyFrom_52 ac_X2_77 (fun _ => o10) (fun _ => o10) h1366 k1372 k1375 (by decide) (by decide) (by decide) (by decide) (Nat.le_of_ble_eq_true rfl) (Nat.le_of_ble_eq_true rfl) (by decide) (fun σ1376 h1377 g1378 => ?_)
  refine m_aload_n F rfl e_X2_copyFrom_55 ?_
  refine t_get F e_X2_copyFrom_56 fl_X2_27 (fun _ => o7) h1377 k901 rfl (fun v hv f1379 => ?_)
  obtain ⟨r1380, k1381, rfl⟩ := hv
  refine m_iconst F (v := 0) (by decide) e_X2_copyFrom_59 ?_
  refine m_aload_n F rfl e_X2_copyFrom_60 ?_
  refine t_get F e_X2_copyFrom_61 fl_X2_27 (fun _ => o7) h1377 hk rfl (fun v hv f1382 => ?_)
  obtain ⟨r1383, k1384, rfl⟩ := hv
  refine m_iconst F (v := 0) (by decide) e_X2_copyFrom_64 ?_
  refine m_bipush F (v := 8) (by decide) e_X2_copyFrom_65 ?_
  refine t_copyI F (len := 8) e_X2_copyFrom_67 ac_X2_77 (fun _ => o11) (fun _ => o11) h1377 k1381 k1384 (by decide) (by decide) (by decide) (by decide) (Nat.le_of_ble_eq_true rfl) (Nat.le_of_ble_eq_true rfl) (by decide) (fun σ1385 h1386 g1387 => ?_)
  refine m_aload_n F rfl e_X2_copyFrom_70 ?_
  refine t_get F e_X2_copyFrom_71 fl_X2_33 (fun _ => o7) h1386 hk rfl (fun v hv f1388 => ?_)
  obtain ⟨r1389, k1390, rfl⟩ := hv
  refine m_aload_n F rfl e_X2_copyFrom_74 ?_
  refine t_get F e_X2_copyFrom_75 fl_X2_33 (fun _ => o7) h1386 k901 rfl (fun v hv f1391 => ?_)
  obtain ⟨r1392, k1393, rfl⟩ := hv
  refine t_callV F e_X2_copyFrom_78 (s_X3_copyFrom (x_l X) V b M Z T _ _ r1389 r1392 h1386.1 k1390 k1393 (by omega)) cb_X3_copyFrom ml_X2_83 im_X3_copyFrom se_X3_copyFrom (fun _ => o12) h1386 k1390 rfl rfl (rest := []) rfl (Nat.le_of_ble_eq_true rfl) ⟨Nat.le_of_ble_eq_true rfl, Nat.le_of_ble_eq_true rfl⟩ ⟨Nat.le_of_ble_eq_true rfl, Nat.le_of_ble_eq_true rfl⟩ (fun r σ1394 hp => ?_)
  obtain ⟨h1396, rfl⟩ := hp
  have h1395 := HK.trans h1386 h1396 (by decide)
  refine m_iconst F (v := 0) (by decide) e_X2_copyFrom_81 ?_
  refine m_istore_n F (lv' := [(2, .int 0), (0, .ref a), (1, .ref r901)]) e_X2_copyFrom_82 (by decide) rfl ?_
  exact lp_X2_copyFrom_83 F hQ hk k901 hM (4 - 0 + 1) 0 _ h1395 (by omega) (Nat.lt_succ_self _)
set_option maxRecDepth 20000 in
theorem lp_X2_leaseNamed_2 {V : VX} {X : MX} {b M Z T N : Nat} {σ : Mem} {a : Nat} {x901 : Int32}  (F : Fx V X yX2_leaseNamed cX2_leaseNamed 3 (some .int) (rmd 0 0 0)) (hQ : Rt V X 0 0 N (fun r τ => HK V (b, M, Z, T) [0, 1, 3, 7, 12, 15, 19] σ τ ∧ ((∃ n : Nat, n ≤ 3 ∧ r = some (.int (nI n))) ∨ r = some (.int (-1))))) (hk : kA b a = 7) (hM : M + 0 ≤ 1000000000)  : ∀ (fuel : Nat) (i : Nat) (τ : Mem), HK V (b, M, Z, T) [0, 1, 3, 7, 12, 15, 19] σ τ → i ≤ 4 → 4 - i < fuel → Wm V X 3 N τ 0 0 2 [(2, .int (nI i)), (0, .ref a), (1, .int x901)] [] := by
  intro fuel
  induction fuel with
  | zero => intro i τ h1 hi hm; exact absurd hm (Nat.not_lt_zero _)
  | succ fuel ih =>
    intro i τ h1 hi hm
    refine m_iload_n F rfl e_X2_leaseNamed_2 ?_
    refine m_aload_n F rfl e_X2_leaseNamed_3 ?_
    refine t_get F e_X2_leaseNamed_4 fl_X2_58 (fun _ => o7) h1 hk rfl (fun v hv f1397 => ?_)
    obtain ⟨n1398, hn1398, rfl⟩ := hv
    replace hn1398 : n1398 ≤ 4 := hn1398
    refine m_icmp_ge F e_X2_leaseNamed_7 (fun q7 => ?_) (fun q7 => ?_)
    · have c7 : i ≥ n1398 := (nI_leI (a := n1398) (b := i) (by omega) (by omega)).mp q7
      refine m_iconst F (v := (-1)) (by decide) e_X2_leaseNamed_31 ?_
      exact m_iret F hQ e_X2_leaseNamed_32 (⟨h1, Or.inr rfl⟩)
    · have c7 : i < n1398 := by have hh := mt (nI_leI (a := n1398) (b := i) (by omega) (by omega)).mpr q7; omega
      refine m_aload_n F rfl e_X2_leaseNamed_10 ?_
      refine t_get F e_X2_leaseNamed_11 fl_X2_11 (fun _ => o7) h1 hk rfl (fun v hv f1399 => ?_)
      obtain ⟨r1400, k1401, rfl⟩ := hv
      refine m_iload_n F rfl e_X2_leaseNamed_14 ?_
      refine t_aald F (len := 4) (j := i) e_X2_leaseNamed_15 (fun _ => o8) rfl h1 k1401 (nI_clamp (by omega)) (vp_in_nI (by omega) (by decide)) (fun r1402 k1403 => ?_)
      refine t_get F e_X2_leaseNamed_16 fl_X2_113 (fun _ => o15) h1 k1403 rfl (fun v hv f1404 => ?_)
      obtain ⟨x1405, rfl⟩ := hv
      refine m_iload_n F rfl e_X2_leaseNamed_19 ?_
      refine m_icmp_ne F e_X2_leaseNamed_20 (fun q20 => ?_) (fun q20 => ?_)
      · refine m_iinc F (v := nI (i + 1)) (lv' := [(2, .int (nI (i + 1))), (0, .ref a), (1, .int x901)]) e_X2_leaseNamed_25 rfl (nI_add i 1) (by decide) rfl ?_
        refine m_goto F e_X2_leaseNamed_28 ?_
        exact ih (i + 1) _ h1 (by omega) (by omega)
      · refine m_iload_n F rfl e_X2_leaseNamed_23 ?_
        exact m_iret F hQ e_X2_leaseNamed_24 (⟨h1, Or.inl ⟨i, by omega, rfl⟩⟩)
set_option maxRecDepth 20000 in
theorem s_X2_leaseNamed (l : Launch) (V : VX) (b M Z T N : Nat) (σ : Mem) (a : Nat) (x901 : Int32) (h0 : HT V (b, M, Z, T) σ) (hk : kA b a = 7) (hM : M + 0 ≤ 1000000000) : Ct l V yX2_leaseNamed cX2_leaseNamed 3 (some .int) 0 0 0 N σ [.ref a, .int x901] (fun r τ => HK V (b, M, Z, T) [0, 1, 3, 7, 12, 15, 19] σ τ ∧ ((∃ n : Nat, n ≤ 3 ∧ r = some (.int (nI n))) ∨ r = some (.int (-1)))) := by
  refine Ct.of (by decide) (Nat.le_of_ble_eq_true rfl) [(0, .ref a), (1, .int x901)] rfl (fun X hX F hQ => ?_)
  have h1 : HK V (b, M, Z, T) [0, 1, 3, 7, 12, 15, 19] σ σ := HK.start h0
  refine m_iconst F (v := 0) (by decide) e_X2_leaseNamed_0 ?_
  refine m_istore_n F (lv' := [(2, .int 0), (0, .ref a), (1, .int x901)]) e_X2_leaseNamed_1 (by decide) rfl ?_
  exact lp_X2_leaseNamed_2 F hQ hk hM (4 - 0 + 1) 0 _ h1 (by omega) (Nat.lt_succ_self _)
set_option maxRecDepth 20000 in
theorem lp_X2_findRates_2 {V : VX} {X : MX} {b M Z T N : Nat} {σ : Mem} {a : Nat} {r901 : Nat}  (F : Fx V X yX2_findRates cX2_findRates 5 none (rmd 4 0 0)) (hQ : Rt V X 0 0 N (fun r τ => HK V (b, M, Z, T) [0, 1, 3, 7, 12, 19] σ τ ∧ r = none)) (hk : kA b a = 7) (k901 : kA b r901 = 6) (hM : M + 0 ≤ 1000000000)  : ∀ (fuel : Nat) (i : Nat) (τ : Mem), HK V (b, M, Z, T) [0, 1, 3, 7, 12, 19] σ τ → i ≤ 4 → 4 - i < fuel → Wm V X 5 N τ 0 0 2 [(2, .int (nI i)), (0, .ref a), (1, .ref r901)] [] := by
  intro fuel
  induction fuel with
  | zero => intro i τ h1 hi hm; exact absurd hm (Nat.not_lt_zero _)
  | succ fuel ih =>
    intro i τ h1 hi hm
    refine m_iload_n F rfl e_X2_findRates_2 ?_
    refine m_aload_n F rfl e_X2_findRates_3 ?_
    refine t_get F e_X2_findRates_4 fl_X2_58 (fun _ => o7) h1 hk rfl (fun v hv f1406 => ?_)
    obtain ⟨n1407, hn1407, rfl⟩ := hv
    replace hn1407 : n1407 ≤ 4 := hn1407
    refine m_icmp_ge F e_X2_findRates_7 (fun q7 => ?_) (fun q7 => ?_)
    · have c7 : i ≥ n1407 := (nI_leI (a := n1407) (b := i) (by omega) (by omega)).mp q7
      exact m_vret F hQ e_X2_findRates_64 (⟨h1, rfl⟩)
    · have c7 : i < n1407 := by have hh := mt (nI_leI (a := n1407) (b := i) (by omega) (by omega)).mpr q7; omega
      refine m_aload_n F rfl e_X2_findRates_10 ?_
      refine t_get F e_X2_findRates_11 fl_X2_11 (fun _ => o7) h1 hk rfl (fun v hv f1408 => ?_)
      obtain ⟨r1409, k1410, rfl⟩ := hv
      refine m_iload_n F rfl e_X2_findRates_14 ?_
      refine t_aald F (len := 4) (j := i) e_X2_findRates_15 (fun _ => o8) rfl h1 k1410 (nI_clamp (by omega)) (vp_in_nI (by omega) (by decide)) (fun r1411 k1412 => ?_)
      refine m_astore_n F (lv' := [(3, .ref r1411), (2, .int (nI i)), (0, .ref a), (1, .ref r901)]) e_X2_findRates_16 (by decide) rfl ?_
      refine m_aload_n F rfl e_X2_findRates_17 ?_
      refine t_get F e_X2_findRates_18 fl_X2_116 (fun _ => o15) h1 k1412 rfl (fun v hv f1413 => ?_)
      obtain ⟨x1414, rfl⟩ := hv
      refine m_if_le F e_X2_findRates_21 (fun q21 => ?_) (fun q21 => ?_)
      · refine m_bipush F (v := (-2)) (by decide) e_X2_findRates_38 ?_
        refine m_istore F (lv' := [(4, .int (-2)), (3, .ref r1411), (2, .int (nI i)), (0, .ref a), (1, .ref r901)]) e_X2_findRates_40 (by decide) rfl ?_
        refine m_iload F rfl e_X2_findRates_42 ?_
        refine m_if_lt F e_X2_findRates_44 (fun _ => ?_) (fun q => absurd (by decide) q)
        refine m_iinc F (v := nI (i + 1)) (lv' := [(2, .int (nI (i + 1))), (4, .int (-2)), (3, .ref r1411), (0, .ref a), (1, .ref r901)]) e_X2_findRates_58 rfl (nI_add i 1) (by decide) rfl ?_
        refine m_goto F e_X2_findRates_61 ?_
        refine Wm.lvsub (lv' := [(2, .int (nI (i + 1))), (0, .ref a), (1, .ref r901)]) ?_ [0, 3, 4] rfl
        exact ih (i + 1) _ h1 (by omega) (by omega)
      · obtain ⟨n1415, hn1415, rfl⟩ := nI_nn (x := x1414) (fun e => q21 (Int32.le_trans (Int32.le_of_lt e) (by decide)))
        have c21 : n1415 > 0 := by have hh := mt (nI_leI (a := n1415) (b := 0) (by omega) (by omega)).mpr q21; omega
        refine m_aload_n F rfl e_X2_findRates_24 ?_
        refine m_iconst F (v := 0) (by decide) e_X2_findRates_25 ?_
        refine m_aload_n F rfl e_X2_findRates_26 ?_
        refine t_getC F e_X2_findRates_27 fl_X2_116 (fun _ => o15) h1 k1412 (f1413) ?_
        refine m_i2l F e_X2_findRates_30 ?_
        refine Wm.topl (fun x1416 _ => ?_)
        refine m_aload_n F rfl e_X2_findRates_31 ?_
        refine t_callV F e_X2_findRates_32 (s_X5_greatestRate (x_l X) V b M Z T _ _ r1411 0 x1416 r901 h1.1 k1412 k901 (by omega)) cb_X5_greatestRate ml_X2_119 im_X5_greatestRate se_X5_greatestRate (fun _ => o15) h1 k1412 rfl rfl (rest := []) rfl (Nat.le_of_ble_eq_true rfl) ⟨Nat.le_of_ble_eq_true rfl, Nat.le_of_ble_eq_true rfl⟩ ⟨Nat.le_of_ble_eq_true rfl, Nat.le_of_ble_eq_true rfl⟩ (fun r σ1417 hp => ?_)
        obtain ⟨h1419, x1420, rfl⟩ := hp
        have h1418 := HK.trans h1 h1419 (by decide)
        refine m_goto F e_X2_findRates_35 ?_
        refine m_istore F (lv' := [(4, .int x1420), (3, .ref r1411), (2, .int (nI i)), (0, .ref a), (1, .ref r901)]) e_X2_findRates_40 (by decide) rfl ?_
        refine m_iload F rfl e_X2_findRates_42 ?_
        refine m_if_lt F e_X2_findRates_44 (fun q44 => ?_) (fun q44 => ?_)
        · refine m_iinc F (v := nI (i + 1)) (lv' := [(2, .int (nI (i + 1))), (4, .int x1420), (3, .ref r1411), (0, .ref a), (1, .ref r901)]) e_X2_findRates_58 rfl (nI_add i 1) (by decide) rfl ?_
          refine m_goto F e_X2_findRates_61 ?_
          refine Wm.lvsub (lv' := [(2, .int (nI (i + 1))), (0, .ref a), (1, .ref r901)]) ?_ [0, 3, 4] rfl
          exact ih (i + 1) _ h1418 (by omega) (by omega)
        · obtain ⟨n1421, hn1421, rfl⟩ := nI_nn (x := x1420) (fun e => q44 (Int32.lt_of_lt_of_le e (by decide)))
          have c44 : n1421 ≥ 0 := by have hh := mt (nI_ltI (a := n1421) (b := 0) (by omega) (by omega)).mpr q44; omega
          refine m_aload_n F rfl e_X2_findRates_47 ?_
          refine m_iload F rfl e_X2_findRates_48 ?_
          refine t_put F e_X2_findRates_50 fp_X2_123 (fun _ => o15) h1418 k1412 rfl ⟨_, rfl⟩ rfl rfl (by decide) (fun σ1422 h1423 g1424 g1425 f1426 => ?_)
          refine m_aload_n F rfl e_X2_findRates_53 ?_
          refine m_iconst F (v := 1) (by decide) e_X2_findRates_54 ?_
          refine t_put F e_X2_findRates_55 fp_X2_126 (fun _ => o15) h1423 k1412 rfl ⟨1, (show 1 ≤ 1 by omega), rfl⟩ (by decide) rfl (by decide) (fun σ1427 h1428 g1429 g1430 f1431 => ?_)
          refine m_iinc F (v := nI (i + 1)) (lv' := [(2, .int (nI (i + 1))), (4, .int (nI n1421)), (3, .ref r1411), (0, .ref a), (1, .ref r901)]) e_X2_findRates_58 rfl (nI_add i 1) (by decide) rfl ?_
          refine m_goto F e_X2_findRates_61 ?_
          refine Wm.lvsub (lv' := [(2, .int (nI (i + 1))), (0, .ref a), (1, .ref r901)]) ?_ [0, 3, 4] rfl
          exact ih (i + 1) _ h1428 (by omega) (by omega)
set_option maxRecDepth 20000 in
theorem s_X2_findRates (l : Launch) (V : VX) (b M Z T N : Nat) (σ : Mem) (a : Nat) (r901 : Nat) (h0 : HT V (b, M, Z, T) σ) (hk : kA b a = 7) (k901 : kA b r901 = 6) (hM : M + 0 ≤ 1000000000) : Ct l V yX2_findRates cX2_findRates 5 none 4 0 0 N σ [.ref a, .ref r901] (fun r τ => HK V (b, M, Z, T) [0, 1, 3, 7, 12, 19] σ τ ∧ r = none) := by
  refine Ct.of (by decide) (Nat.le_of_ble_eq_true rfl) [(0, .ref a), (1, .ref r901)] rfl (fun X hX F hQ => ?_)
  have h1 : HK V (b, M, Z, T) [0, 1, 3, 7, 12, 19] σ σ := HK.start h0
  refine m_iconst F (v := 0) (by decide) e_X2_findRates_0 ?_
  refine m_istore_n F (lv' := [(2, .int 0), (0, .ref a), (1, .ref r901)]) e_X2_findRates_1 (by decide) rfl ?_
  exact lp_X2_findRates_2 F hQ hk k901 hM (4 - 0 + 1) 0 _ h1 (by omega) (Nat.lt_succ_self _)
set_option maxRecDepth 20000 in
theorem lp_X2_runningLeases_4 {V : VX} {X : MX} {b M Z T N : Nat} {σ : Mem} {a : Nat}   (F : Fx V X yX2_runningLeases cX2_runningLeases 3 (some .int) (rmd 0 0 0)) (hQ : Rt V X 0 0 N (fun r τ => HK V (b, M, Z, T) [0, 1, 3, 7, 12, 15, 19] σ τ ∧ ∃ x : Int32, r = some (.int x))) (hk : kA b a = 7) (hM : M + 0 ≤ 1000000000)  : ∀ (fuel : Nat) (u1 : Int32) (i : Nat) (τ : Mem), HK V (b, M, Z, T) [0, 1, 3, 7, 12, 15, 19] σ τ → i ≤ 4 → 4 - i < fuel → Wm V X 3 N τ 0 0 4 [(1, .int u1), (2, .int (nI i)), (0, .ref a)] [] := by
  intro fuel
  induction fuel with
  | zero => intro u1 i τ h1 hi hm; exact absurd hm (Nat.not_lt_zero _)
  | succ fuel ih =>
    intro u1 i τ h1 hi hm
    refine m_iload_n F rfl e_X2_runningLeases_4 ?_
    refine m_aload_n F rfl e_X2_runningLeases_5 ?_
    refine t_get F e_X2_runningLeases_6 fl_X2_58 (fun _ => o7) h1 hk rfl (fun v hv f1432 => ?_)
    obtain ⟨n1433, hn1433, rfl⟩ := hv
    replace hn1433 : n1433 ≤ 4 := hn1433
    refine m_icmp_ge F e_X2_runningLeases_9 (fun q9 => ?_) (fun q9 => ?_)
    · have c9 : i ≥ n1433 := (nI_leI (a := n1433) (b := i) (by omega) (by omega)).mp q9
      refine m_iload_n F rfl e_X2_runningLeases_34 ?_
      exact m_iret F hQ e_X2_runningLeases_35 (⟨h1, _, rfl⟩)
    · have c9 : i < n1433 := by have hh := mt (nI_leI (a := n1433) (b := i) (by omega) (by omega)).mpr q9; omega
      refine m_aload_n F rfl e_X2_runningLeases_12 ?_
      refine t_get F e_X2_runningLeases_13 fl_X2_11 (fun _ => o7) h1 hk rfl (fun v hv f1434 => ?_)
      obtain ⟨r1435, k1436, rfl⟩ := hv
      refine m_iload_n F rfl e_X2_runningLeases_16 ?_
      refine t_aald F (len := 4) (j := i) e_X2_runningLeases_17 (fun _ => o8) rfl h1 k1436 (nI_clamp (by omega)) (vp_in_nI (by omega) (by decide)) (fun r1437 k1438 => ?_)
      refine t_get F e_X2_runningLeases_18 fl_X2_129 (fun _ => o15) h1 k1438 rfl (fun v hv f1439 => ?_)
      obtain ⟨x1440, rfl⟩ := hv
      refine m_iconst F (v := 1) (by decide) e_X2_runningLeases_21 ?_
      refine m_icmp_ne F e_X2_runningLeases_22 (fun q22 => ?_) (fun q22 => ?_)
      · refine m_iinc F (v := nI (i + 1)) (lv' := [(2, .int (nI (i + 1))), (1, .int u1), (0, .ref a)]) e_X2_runningLeases_28 rfl (nI_add i 1) (by decide) rfl ?_
        refine m_goto F e_X2_runningLeases_31 ?_
        refine Wm.lvsub (lv' := [(1, .int u1), (2, .int (nI (i + 1))), (0, .ref a)]) ?_ [1, 0, 2] rfl
        exact ih u1 (i + 1) _ h1 (by omega) (by omega)
      · refine m_iinc F (v := (u1 + 1)) (lv' := [(1, .int (u1 + 1)), (2, .int (nI i)), (0, .ref a)]) e_X2_runningLeases_25 rfl rfl (by decide) rfl ?_
        refine m_iinc F (v := nI (i + 1)) (lv' := [(2, .int (nI (i + 1))), (1, .int (u1 + 1)), (0, .ref a)]) e_X2_runningLeases_28 rfl (nI_add i 1) (by decide) rfl ?_
        refine m_goto F e_X2_runningLeases_31 ?_
        refine Wm.lvsub (lv' := [(1, .int (u1 + 1)), (2, .int (nI (i + 1))), (0, .ref a)]) ?_ [1, 0, 2] rfl
        exact ih (u1 + 1) (i + 1) _ h1 (by omega) (by omega)
set_option maxRecDepth 20000 in
theorem s_X2_runningLeases (l : Launch) (V : VX) (b M Z T N : Nat) (σ : Mem) (a : Nat) (h0 : HT V (b, M, Z, T) σ) (hk : kA b a = 7) (hM : M + 0 ≤ 1000000000) : Ct l V yX2_runningLeases cX2_runningLeases 3 (some .int) 0 0 0 N σ [.ref a] (fun r τ => HK V (b, M, Z, T) [0, 1, 3, 7, 12, 15, 19] σ τ ∧ ∃ x : Int32, r = some (.int x)) := by
  refine Ct.of (by decide) (Nat.le_of_ble_eq_true rfl) [(0, .ref a)] rfl (fun X hX F hQ => ?_)
  have h1 : HK V (b, M, Z, T) [0, 1, 3, 7, 12, 15, 19] σ σ := HK.start h0
  refine m_iconst F (v := 0) (by decide) e_X2_runningLeases_0 ?_
  refine m_istore_n F (lv' := [(1, .int 0), (0, .ref a)]) e_X2_runningLeases_1 (by decide) rfl ?_
  refine m_iconst F (v := 0) (by decide) e_X2_runningLeases_2 ?_
  refine m_istore_n F (lv' := [(2, .int 0), (1, .int 0), (0, .ref a)]) e_X2_runningLeases_3 (by decide) rfl ?_
  refine Wm.lvsub (lv' := [(1, .int 0), (2, .int 0), (0, .ref a)]) ?_ [1, 0, 2] rfl
  exact lp_X2_runningLeases_4 F hQ hk hM (4 - 0 + 1) 0 0 _ h1 (by omega) (Nat.lt_succ_self _)
set_option maxRecDepth 20000 in
theorem lp_X2_countAllOwed_7 {V : VX} {X : MX} {b M Z T N : Nat} {σ : Mem} {a : Nat} {r901 : Nat}  (F : Fx V X yX2_countAllOwed cX2_countAllOwed 3 none (rmd 1 0 0)) (hQ : Rt V X 0 0 N (fun r τ => HK V (b, M, Z, T) [0, 1, 3, 7, 12, 15, 19] σ τ ∧ r = none)) (hk : kA b a = 7) (k901 : kA b r901 = 6) (hM : M + 0 ≤ 1000000000)  : ∀ (fuel : Nat) (i : Nat) (τ : Mem), HK V (b, M, Z, T) [0, 1, 3, 7, 12, 15, 19] σ τ → i ≤ 4 → 4 - i < fuel → Wm V X 3 N τ 0 0 7 [(2, .int (nI i)), (0, .ref a), (1, .ref r901)] [] := by
  intro fuel
  induction fuel with
  | zero => intro i τ h1 hi hm; exact absurd hm (Nat.not_lt_zero _)
  | succ fuel ih =>
    intro i τ h1 hi hm
    refine m_iload_n F rfl e_X2_countAllOwed_7 ?_
    refine m_aload_n F rfl e_X2_countAllOwed_8 ?_
    refine t_get F e_X2_countAllOwed_9 fl_X2_58 (fun _ => o7) h1 hk rfl (fun v hv f1441 => ?_)
    obtain ⟨n1442, hn1442, rfl⟩ := hv
    replace hn1442 : n1442 ≤ 4 := hn1442
    refine m_icmp_ge F e_X2_countAllOwed_12 (fun q12 => ?_) (fun q12 => ?_)
    · have c12 : i ≥ n1442 := (nI_leI (a := n1442) (b := i) (by omega) (by omega)).mp q12
      exact m_vret F hQ e_X2_countAllOwed_34 (⟨h1, rfl⟩)
    · have c12 : i < n1442 := by have hh := mt (nI_leI (a := n1442) (b := i) (by omega) (by omega)).mpr q12; omega
      refine m_aload_n F rfl e_X2_countAllOwed_15 ?_
      refine m_aload_n F rfl e_X2_countAllOwed_16 ?_
      refine t_get F e_X2_countAllOwed_17 fl_X2_11 (fun _ => o7) h1 hk rfl (fun v hv f1443 => ?_)
      obtain ⟨r1444, k1445, rfl⟩ := hv
      refine m_iload_n F rfl e_X2_countAllOwed_20 ?_
      refine t_aald F (len := 4) (j := i) e_X2_countAllOwed_21 (fun _ => o8) rfl h1 k1445 (nI_clamp (by omega)) (vp_in_nI (by omega) (by decide)) (fun r1446 k1447 => ?_)
      refine t_get F e_X2_countAllOwed_22 fl_X2_136 (fun _ => o15) h1 k1447 rfl (fun v hv f1448 => ?_)
      obtain ⟨r1449, k1450, rfl⟩ := hv
      refine t_callV F e_X2_countAllOwed_25 (s_X1_add (x_l X) V b M Z T _ _ r901 r1449 h1.1 k901 k1450 (by omega)) cb_X1_add ml_X2_139 im_X1_add se_X1_add (fun _ => o6) h1 k901 rfl rfl (rest := []) rfl (Nat.le_of_ble_eq_true rfl) ⟨Nat.le_of_ble_eq_true rfl, Nat.le_of_ble_eq_true rfl⟩ ⟨Nat.le_of_ble_eq_true rfl, Nat.le_of_ble_eq_true rfl⟩ (fun r σ1451 hp => ?_)
      obtain ⟨h1453, rfl⟩ := hp
      have h1452 := HK.trans h1 h1453 (by decide)
      refine m_iinc F (v := nI (i + 1)) (lv' := [(2, .int (nI (i + 1))), (0, .ref a), (1, .ref r901)]) e_X2_countAllOwed_28 rfl (nI_add i 1) (by decide) rfl ?_
      refine m_goto F e_X2_countAllOwed_31 ?_
      exact ih (i + 1) _ h1452 (by omega) (by omega)
set_option maxRecDepth 20000 in
theorem s_X2_countAllOwed (l : Launch) (V : VX) (b M Z T N : Nat) (σ : Mem) (a : Nat) (r901 : Nat) (h0 : HT V (b, M, Z, T) σ) (hk : kA b a = 7) (k901 : kA b r901 = 6) (hM : M + 0 ≤ 1000000000) : Ct l V yX2_countAllOwed cX2_countAllOwed 3 none 1 0 0 N σ [.ref a, .ref r901] (fun r τ => HK V (b, M, Z, T) [0, 1, 3, 7, 12, 15, 19] σ τ ∧ r = none) := by
  refine Ct.of (by decide) (Nat.le_of_ble_eq_true rfl) [(0, .ref a), (1, .ref r901)] rfl (fun X hX F hQ => ?_)
  have h1 : HK V (b, M, Z, T) [0, 1, 3, 7, 12, 15, 19] σ σ := HK.start h0
  refine m_aload_n F rfl e_X2_countAllOwed_0 ?_
  refine m_lconst F (v := 0) (by decide) e_X2_countAllOwed_1 ?_
  refine t_callV F e_X2_countAllOwed_2 (s_X1_set (x_l X) V b M Z T _ _ r901 0 h1.1 k901  (by omega)) cb_X1_set ml_X2_132 im_X1_set se_X1_set (fun _ => o6) h1 k901 rfl rfl (rest := []) rfl (Nat.le_of_ble_eq_true rfl) ⟨Nat.le_of_ble_eq_true rfl, Nat.le_of_ble_eq_true rfl⟩ ⟨Nat.le_of_ble_eq_true rfl, Nat.le_of_ble_eq_true rfl⟩ (fun r σ1454 hp => ?_)
  obtain ⟨h1456, rfl⟩ := hp
  have h1455 := HK.trans h1 h1456 (by decide)
  refine m_iconst F (v := 0) (by decide) e_X2_countAllOwed_5 ?_
  refine m_istore_n F (lv' := [(2, .int 0), (0, .ref a), (1, .ref r901)]) e_X2_countAllOwed_6 (by decide) rfl ?_
  exact lp_X2_countAllOwed_7 F hQ hk k901 hM (4 - 0 + 1) 0 _ h1455 (by omega) (Nat.lt_succ_self _)
set_option maxRecDepth 20000 in
theorem s_X2_indexNow (l : Launch) (V : VX) (b M Z T N : Nat) (σ : Mem) (a : Nat) (h0 : HT V (b, M, Z, T) σ) (hk : kA b a = 7) (hM : M + 0 ≤ 1000000000) : Ct l V yX2_indexNow cX2_indexNow 1 (some .int) 0 0 0 N σ [.ref a] (fun r τ => HK V (b, M, Z, T) [0, 1, 3, 7, 12, 15, 19] σ τ ∧ ∃ x : Int32, r = some (.int x)) := by
  refine Ct.of (by decide) (Nat.le_of_ble_eq_true rfl) [(0, .ref a)] rfl (fun X hX F hQ => ?_)
  have h1 : HK V (b, M, Z, T) [0, 1, 3, 7, 12, 15, 19] σ σ := HK.start h0
  refine m_aload_n F rfl e_X2_indexNow_0 ?_
  refine t_get F e_X2_indexNow_1 fl_X2_68 (fun _ => o7) h1 hk rfl (fun v hv f1457 => ?_)
  obtain ⟨n1458, hn1458, rfl⟩ := hv
  replace hn1458 : n1458 ≤ M := hn1458
  refine m_if_lt F e_X2_indexNow_4 (fun q4 => ?_) (fun q4 => ?_)
  · have c4 : n1458 < 0 := (nI_ltI (a := n1458) (b := 0) (by omega) (by omega)).mp q4
    refine m_sipush F (v := 1000) (by decide) e_X2_indexNow_28 ?_
    exact m_iret F hQ e_X2_indexNow_31 (⟨h1, _, rfl⟩)
  · have c4 : n1458 ≥ 0 := by have hh := mt (nI_ltI (a := n1458) (b := 0) (by omega) (by omega)).mpr q4; omega
    refine m_aload_n F rfl e_X2_indexNow_7 ?_
    refine t_getC F e_X2_indexNow_8 fl_X2_68 (fun _ => o7) h1 hk (f1457) ?_
    refine m_bipush F (v := 99) (by decide) e_X2_indexNow_11 ?_
    refine m_icmp_gt F e_X2_indexNow_13 (fun q13 => ?_) (fun q13 => ?_)
    · have c13 : n1458 > 99 := (nI_ltI (a := 99) (b := n1458) (by omega) (by omega)).mp q13
      refine m_sipush F (v := 1000) (by decide) e_X2_indexNow_28 ?_
      exact m_iret F hQ e_X2_indexNow_31 (⟨h1, _, rfl⟩)
    · have c13 : n1458 ≤ 99 := by have hh := mt (nI_ltI (a := 99) (b := n1458) (by omega) (by omega)).mpr q13; omega
      refine m_aload_n F rfl e_X2_indexNow_16 ?_
      refine t_get F e_X2_indexNow_17 fl_X2_23 (fun _ => o7) h1 hk rfl (fun v hv f1459 => ?_)
      obtain ⟨r1460, k1461, rfl⟩ := hv
      refine m_aload_n F rfl e_X2_indexNow_20 ?_
      refine t_getC F e_X2_indexNow_21 fl_X2_68 (fun _ => o7) h1 hk (f1457) ?_
      refine t_iald F (len := 100) (j := n1458) e_X2_indexNow_24 (fun _ => o10) h1 k1461 (nI_clamp (by omega)) (vp_in_nI (by omega) (by decide)) (fun x1462 => ?_)
      refine m_goto F e_X2_indexNow_25 ?_
      exact m_iret F hQ e_X2_indexNow_31 (⟨h1, _, rfl⟩)
set_option maxRecDepth 20000 in
theorem lp_X2_changeIndex_45 {V : VX} {X : MX} {b M Z T N : Nat} {σ : Mem} {a : Nat} {x901 : Int32}  (F : Fx V X yX2_changeIndex cX2_changeIndex 4 none (rmd 0 0 0)) (hQ : Rt V X 0 0 N (fun r τ => HK V (b, M, Z, T) [0, 1, 3, 7, 12, 15, 19] σ τ ∧ r = none)) (hk : kA b a = 7) (hM : M + 0 ≤ 1000000000)  : ∀ (fuel : Nat) (i : Nat) (u1 : Int32) (τ : Mem), HK V (b, M, Z, T) [0, 1, 3, 7, 12, 15, 19] σ τ → i ≤ 1000000000 → 1000000000 - i < fuel → Wm V X 4 N τ 0 0 45 [(3, .int (nI i)), (2, .int u1), (0, .ref a), (1, .int x901)] [] := by
  intro fuel
  induction fuel with
  | zero => intro i u1 τ h1 hi hm; exact absurd hm (Nat.not_lt_zero _)
  | succ fuel ih =>
    intro i u1 τ h1 hi hm
    refine m_iload_n F rfl e_X2_changeIndex_45 ?_
    refine m_iload_n F rfl e_X2_changeIndex_46 ?_
    refine m_icmp_ge F e_X2_changeIndex_47 (fun q47 => ?_) (fun q47 => ?_)
    · exact m_vret F hQ e_X2_changeIndex_69 (⟨h1, rfl⟩)
    · refine m_iload_n F rfl e_X2_changeIndex_50 ?_
      refine m_bipush F (v := 99) (by decide) e_X2_changeIndex_51 ?_
      refine m_icmp_gt F e_X2_changeIndex_53 (fun q53 => ?_) (fun q53 => ?_)
      · have c53 : i > 99 := (nI_ltI (a := 99) (b := i) (by omega) (by omega)).mp q53
        exact m_vret F hQ e_X2_changeIndex_69 (⟨h1, rfl⟩)
      · have c53 : i ≤ 99 := by have hh := mt (nI_ltI (a := 99) (b := i) (by omega) (by omega)).mpr q53; omega
        refine m_aload_n F rfl e_X2_changeIndex_56 ?_
        refine t_get F e_X2_changeIndex_57 fl_X2_23 (fun _ => o7) h1 hk rfl (fun v hv f1463 => ?_)
        obtain ⟨r1464, k1465, rfl⟩ := hv
        refine m_iload_n F rfl e_X2_changeIndex_60 ?_
        refine m_iload_n F rfl e_X2_changeIndex_61 ?_
        refine t_iast F (len := 100) (j := i) e_X2_changeIndex_62 (fun _ => o10) h1 k1465 (nI_clamp (by omega)) (vp_in_nI (by omega) (by decide)) (by decide) (fun σ1466 h1467 g1468 => ?_)
        refine m_iinc F (v := nI (i + 1)) (lv' := [(3, .int (nI (i + 1))), (2, .int u1), (0, .ref a), (1, .int x901)]) e_X2_changeIndex_63 rfl (nI_add i 1) (by decide) rfl ?_
        refine m_goto F e_X2_changeIndex_66 ?_
        exact ih (i + 1) u1 _ h1467 (by omega) (by omega)
set_option maxRecDepth 20000 in
theorem lp_X2_changeIndex_10 {V : VX} {X : MX} {b M Z T N : Nat} {σ : Mem} {a : Nat} {x901 : Int32}  (F : Fx V X yX2_changeIndex cX2_changeIndex 4 none (rmd 0 0 0)) (hQ : Rt V X 0 0 N (fun r τ => HK V (b, M, Z, T) [0, 1, 3, 7, 12, 15, 19] σ τ ∧ r = none)) (hk : kA b a = 7) (hM : M + 0 ≤ 1000000000)  : ∀ (fuel : Nat) (i : Nat) (u1 : Int32) (τ : Mem), HK V (b, M, Z, T) [0, 1, 3, 7, 12, 15, 19] σ τ → i ≤ 7 → i < fuel → Wm V X 4 N τ 0 0 10 [(3, .int (nI i)), (2, .int u1), (0, .ref a), (1, .int x901)] [] := by
  intro fuel
  induction fuel with
  | zero => intro i u1 τ h1 hi hm; exact absurd hm (Nat.not_lt_zero _)
  | succ fuel ih =>
    intro i u1 τ h1 hi hm
    refine m_iload_n F rfl e_X2_changeIndex_10 ?_
    refine m_if_lt F e_X2_changeIndex_11 (fun q11 => ?_) (fun q11 => ?_)
    · have c11 : i < 0 := (nI_ltI (a := i) (b := 0) (by omega) (by omega)).mp q11
      refine m_aload_n F rfl e_X2_changeIndex_40 ?_
      refine t_get F e_X2_changeIndex_41 fl_X2_68 (fun _ => o7) h1 hk rfl (fun v hv f1469 => ?_)
      obtain ⟨n1470, hn1470, rfl⟩ := hv
      replace hn1470 : n1470 ≤ M := hn1470
      refine m_istore_n F (lv' := [(3, .int (nI n1470)), (2, .int u1), (0, .ref a), (1, .int x901)]) e_X2_changeIndex_44 (by decide) rfl ?_
      exact lp_X2_changeIndex_45 F hQ hk hM (1000000000 - n1470 + 1) n1470 u1 _ h1 (by omega) (Nat.lt_succ_self _)
    · have c11 : i ≥ 0 := by have hh := mt (nI_ltI (a := i) (b := 0) (by omega) (by omega)).mpr q11; omega
      refine m_aload_n F rfl e_X2_changeIndex_14 ?_
      refine t_get F e_X2_changeIndex_15 fl_X2_27 (fun _ => o7) h1 hk rfl (fun v hv f1471 => ?_)
      obtain ⟨r1472, k1473, rfl⟩ := hv
      refine m_iload_n F rfl e_X2_changeIndex_18 ?_
      refine t_iald F (len := 8) (j := i) e_X2_changeIndex_19 (fun _ => o11) h1 k1473 (nI_clamp (by omega)) (vp_in_nI (by omega) (by decide)) (fun x1474 => ?_)
      refine m_aload_n F rfl e_X2_changeIndex_20 ?_
      refine t_get F e_X2_changeIndex_21 fl_X2_68 (fun _ => o7) h1 hk rfl (fun v hv f1475 => ?_)
      obtain ⟨n1476, hn1476, rfl⟩ := hv
      replace hn1476 : n1476 ≤ M := hn1476
      refine m_icmp_le F e_X2_changeIndex_24 (fun q24 => ?_) (fun q24 => ?_)
      · refine m_aload_n F rfl e_X2_changeIndex_40 ?_
        refine t_getC F e_X2_changeIndex_41 fl_X2_68 (fun _ => o7) h1 hk (f1475) ?_
        refine m_istore_n F (lv' := [(3, .int (nI n1476)), (2, .int u1), (0, .ref a), (1, .int x901)]) e_X2_changeIndex_44 (by decide) rfl ?_
        exact lp_X2_changeIndex_45 F hQ hk hM (1000000000 - n1476 + 1) n1476 u1 _ h1 (by omega) (Nat.lt_succ_self _)
      · refine m_aload_n F rfl e_X2_changeIndex_27 ?_
        refine t_getC F e_X2_changeIndex_28 fl_X2_27 (fun _ => o7) h1 hk (f1471) ?_
        refine m_iload_n F rfl e_X2_changeIndex_31 ?_
        refine t_iald F (len := 8) (j := i) e_X2_changeIndex_32 (fun _ => o11) h1 k1473 (nI_clamp (by omega)) (vp_in_nI (by omega) (by decide)) (fun x1477 => ?_)
        refine m_istore_n F (lv' := [(2, .int x1477), (3, .int (nI i)), (0, .ref a), (1, .int x901)]) e_X2_changeIndex_33 (by decide) rfl ?_
        rcases Nat.eq_zero_or_pos (i) with e34 | e34
        · subst e34
          refine m_iinc F (v := -1) (lv' := [(3, .int (-1)), (2, .int x1477), (0, .ref a), (1, .int x901)]) e_X2_changeIndex_34 rfl (by decide) (by decide) rfl ?_
          refine m_goto F e_X2_changeIndex_37 ?_
          refine m_iload_n F rfl e_X2_changeIndex_10 ?_
          refine m_if_lt F e_X2_changeIndex_11 (fun _ => ?_) (fun q => absurd (by decide) q)
          refine m_aload_n F rfl e_X2_changeIndex_40 ?_
          refine t_getC F e_X2_changeIndex_41 fl_X2_68 (fun _ => o7) h1 hk (f1475) ?_
          refine m_istore_n F (lv' := [(3, .int (nI n1476)), (2, .int x1477), (0, .ref a), (1, .int x901)]) e_X2_changeIndex_44 (by decide) rfl ?_
          exact lp_X2_changeIndex_45 F hQ hk hM (1000000000 - n1476 + 1) n1476 x1477 _ h1 (by omega) (Nat.lt_succ_self _)
        · refine m_iinc F (v := nI (i - 1)) (lv' := [(3, .int (nI (i - 1))), (2, .int x1477), (0, .ref a), (1, .int x901)]) e_X2_changeIndex_34 rfl (nI_dec (by omega)) (by decide) rfl ?_
          refine m_goto F e_X2_changeIndex_37 ?_
          exact ih (i - 1) x1477 _ h1 (by omega) (by omega)
set_option maxRecDepth 20000 in
theorem s_X2_changeIndex (l : Launch) (V : VX) (b M Z T N : Nat) (σ : Mem) (a : Nat) (x901 : Int32) (h0 : HT V (b, M, Z, T) σ) (hk : kA b a = 7) (hM : M + 0 ≤ 1000000000) : Ct l V yX2_changeIndex cX2_changeIndex 4 none 0 0 0 N σ [.ref a, .int x901] (fun r τ => HK V (b, M, Z, T) [0, 1, 3, 7, 12, 15, 19] σ τ ∧ r = none) := by
  refine Ct.of (by decide) (Nat.le_of_ble_eq_true rfl) [(0, .ref a), (1, .int x901)] rfl (fun X hX F hQ => ?_)
  have h1 : HK V (b, M, Z, T) [0, 1, 3, 7, 12, 15, 19] σ σ := HK.start h0
  refine m_bipush F (v := 100) (by decide) e_X2_changeIndex_0 ?_
  refine m_istore_n F (lv' := [(2, .int 100), (0, .ref a), (1, .int x901)]) e_X2_changeIndex_2 (by decide) rfl ?_
  refine m_aload_n F rfl e_X2_changeIndex_3 ?_
  refine t_get F e_X2_changeIndex_4 fl_X2_65 (fun _ => o7) h1 hk rfl (fun v hv f1478 => ?_)
  obtain ⟨n1479, hn1479, rfl⟩ := hv
  replace hn1479 : n1479 ≤ 8 := hn1479
  refine m_iconst F (v := 1) (by decide) e_X2_changeIndex_7 ?_
  refine m_isub F e_X2_changeIndex_8 ?_
  rcases Nat.eq_zero_or_pos (n1479) with e8 | e8
  · rw [e8]
    refine Wm.topE (w := -1) (by decide) ?_
    refine m_istore_n F (lv' := [(3, .int (-1)), (2, .int 100), (0, .ref a), (1, .int x901)]) e_X2_changeIndex_9 (by decide) rfl ?_
    refine m_iload_n F rfl e_X2_changeIndex_10 ?_
    refine m_if_lt F e_X2_changeIndex_11 (fun _ => ?_) (fun q => absurd (by decide) q)
    refine m_aload_n F rfl e_X2_changeIndex_40 ?_
    refine t_get F e_X2_changeIndex_41 fl_X2_68 (fun _ => o7) h1 hk rfl (fun v hv f1480 => ?_)
    obtain ⟨n1481, hn1481, rfl⟩ := hv
    replace hn1481 : n1481 ≤ M := hn1481
    refine m_istore_n F (lv' := [(3, .int (nI n1481)), (2, .int 100), (0, .ref a), (1, .int x901)]) e_X2_changeIndex_44 (by decide) rfl ?_
    exact lp_X2_changeIndex_45 F hQ hk hM (1000000000 - n1481 + 1) n1481 100 _ h1 (by omega) (Nat.lt_succ_self _)
  · refine Wm.topE (w := nI (n1479 - 1)) (pk_sub (a := n1479) (b := 1) (by omega)) ?_
    refine m_istore_n F (lv' := [(3, .int (nI (n1479 - 1))), (2, .int 100), (0, .ref a), (1, .int x901)]) e_X2_changeIndex_9 (by decide) rfl ?_
    exact lp_X2_changeIndex_10 F hQ hk hM ((n1479 - 1) + 1) (n1479 - 1) 100 _ h1 (by omega) (Nat.lt_succ_self _)
set_option maxRecDepth 20000 in
theorem s_X2_begin (l : Launch) (V : VX) (b M Z T N : Nat) (σ : Mem) (a : Nat) (x901 : Int32) (r902 : Nat) (h0 : HT V (b, M, Z, T) σ) (hk : kA b a = 7) (k902 : kA b r902 = 15) (hM : M + 1 ≤ 1000000000) : Ct l V yX2_begin cX2_begin 3 none 4 0 0 N σ [.ref a, .int x901, .ref r902] (fun r τ => HK V (b, M + 1, Z, T) [0, 1, 3, 7, 19] σ τ ∧ r = none) := by
  refine Ct.of (by decide) (Nat.le_of_ble_eq_true rfl) [(0, .ref a), (1, .int x901), (2, .ref r902)] rfl (fun X hX F hQ => ?_)
  have h1 : HK V (b, M, Z, T) [0, 1, 3, 7, 19] σ σ := HK.start h0
  refine m_aload_n F rfl e_X2_begin_0 ?_
  refine m_iconst F (v := 1) (by decide) e_X2_begin_1 ?_
  refine t_put F e_X2_begin_2 fp_X2_129 (fun _ => o15) h1 k902 rfl ⟨_, rfl⟩ rfl rfl (by decide) (fun σ1482 h1483 g1484 g1485 f1486 => ?_)
  refine m_aload_n F rfl e_X2_begin_5 ?_
  refine m_aload_n F rfl e_X2_begin_6 ?_
  refine t_callV F e_X2_begin_7 (s_X2_indexNow (x_l X) V b M Z T _ _ a  h1483.1 hk  (by omega)) cb_X2_indexNow ml_X2_153 im_X2_indexNow se_X2_indexNow (fun _ => o7) h1483 hk rfl rfl (rest := [.ref r902]) rfl (Nat.le_of_ble_eq_true rfl) ⟨Nat.le_of_ble_eq_true rfl, Nat.le_of_ble_eq_true rfl⟩ ⟨Nat.le_of_ble_eq_true rfl, Nat.le_of_ble_eq_true rfl⟩ (fun r σ1487 hp => ?_)
  obtain ⟨h1489, x1490, rfl⟩ := hp
  have h1488 := HK.trans h1483 h1489 (by decide)
  refine t_put F e_X2_begin_10 fp_X2_171 (fun _ => o15) h1488 k902 rfl ⟨_, rfl⟩ rfl rfl (by decide) (fun σ1491 h1492 g1493 g1494 f1495 => ?_)
  refine m_aload_n F rfl e_X2_begin_13 ?_
  refine m_aload_n F rfl e_X2_begin_14 ?_
  refine t_getC F e_X2_begin_15 fl_X2_171 (fun _ => o15) h1492 k902 (f1495) ?_
  refine t_put F e_X2_begin_18 fp_X2_157 (fun _ => o15) h1492 k902 rfl ⟨_, rfl⟩ rfl rfl (by decide) (fun σ1496 h1497 g1498 g1499 f1500 => ?_)
  refine m_aload_n F rfl e_X2_begin_21 ?_
  refine m_iconst F (v := 0) (by decide) e_X2_begin_22 ?_
  refine m_aload_n F rfl e_X2_begin_23 ?_
  refine t_get F e_X2_begin_24 fl_X2_123 (fun _ => o15) h1497 k902 rfl (fun v hv f1501 => ?_)
  obtain ⟨x1502, rfl⟩ := hv
  refine m_aload_n F rfl e_X2_begin_27 ?_
  refine t_get F e_X2_begin_28 fl_X2_136 (fun _ => o15) h1497 k902 rfl (fun v hv f1503 => ?_)
  obtain ⟨r1504, k1505, rfl⟩ := hv
  refine t_callV F e_X2_begin_31 (s_X5_worthFrom (x_l X) V b M Z T _ _ r902 0 x1502 r1504 h1497.1 k902 k1505 (by omega)) cb_X5_worthFrom ml_X2_174 im_X5_worthFrom se_X5_worthFrom (fun _ => o15) h1497 k902 rfl rfl (rest := []) rfl (Nat.le_of_ble_eq_true rfl) ⟨Nat.le_of_ble_eq_true rfl, Nat.le_of_ble_eq_true rfl⟩ ⟨Nat.le_of_ble_eq_true rfl, Nat.le_of_ble_eq_true rfl⟩ (fun r σ1506 hp => ?_)
  obtain ⟨h1508, rfl⟩ := hp
  have h1507 := HK.trans h1497 h1508 (by decide)
  refine m_aload_n F rfl e_X2_begin_34 ?_
  refine t_get F e_X2_begin_35 fl_X2_178 (fun _ => o15) h1507 k902 rfl (fun v hv f1509 => ?_)
  obtain ⟨r1510, k1511, rfl⟩ := hv
  refine m_aload_n F rfl e_X2_begin_38 ?_
  refine t_getC F e_X2_begin_39 fl_X2_136 (fun _ => o15) h1507 k902 ((fld_eq (h1508.2 r902 (by rw [show kA _ r902 = 15 from k902]; decide))).trans f1503) ?_
  refine t_callV F e_X2_begin_42 (s_X1_copyFrom (x_l X) V b M Z T _ _ r1510 r1504 h1507.1 k1511 k1505 (by omega)) cb_X1_copyFrom ml_X2_181 im_X1_copyFrom se_X1_copyFrom (fun _ => o6) h1507 k1511 rfl rfl (rest := []) rfl (Nat.le_of_ble_eq_true rfl) ⟨Nat.le_of_ble_eq_true rfl, Nat.le_of_ble_eq_true rfl⟩ ⟨Nat.le_of_ble_eq_true rfl, Nat.le_of_ble_eq_true rfl⟩ (fun r σ1512 hp => ?_)
  obtain ⟨h1514, rfl⟩ := hp
  have h1513 := HK.trans h1507 h1514 (by decide)
  refine m_aload_n F rfl e_X2_begin_45 ?_
  refine t_getC F e_X2_begin_46 fl_X2_178 (fun _ => o15) h1513 k902 ((fld_eq (h1514.2 r902 (by rw [show kA _ r902 = 15 from k902]; decide))).trans f1509) ?_
  refine m_aload_n F rfl e_X2_begin_49 ?_
  refine t_get F e_X2_begin_50 fl_X2_183 (fun _ => o15) h1513 k902 rfl (fun v hv f1515 => ?_)
  obtain ⟨x1516, rfl⟩ := hv
  refine m_i2l F e_X2_begin_53 ?_
  refine Wm.topl (fun x1517 _ => ?_)
  refine t_callV F e_X2_begin_54 (s_X1_addLong (x_l X) V b M Z T _ _ r1510 x1517 h1513.1 k1511  (by omega)) cb_X1_addLong ml_X2_186 im_X1_addLong se_X1_addLong (fun _ => o6) h1513 k1511 rfl rfl (rest := []) rfl (Nat.le_of_ble_eq_true rfl) ⟨Nat.le_of_ble_eq_true rfl, Nat.le_of_ble_eq_true rfl⟩ ⟨Nat.le_of_ble_eq_true rfl, Nat.le_of_ble_eq_true rfl⟩ (fun r σ1518 hp => ?_)
  obtain ⟨h1520, rfl⟩ := hp
  have h1519 := HK.trans h1513 h1520 (by decide)
  refine m_aload_n F rfl e_X2_begin_57 ?_
  refine t_get F e_X2_begin_58 fl_X2_189 (fun _ => o15) h1519 k902 rfl (fun v hv f1521 => ?_)
  obtain ⟨r1522, k1523, rfl⟩ := hv
  refine m_iconst F (v := 0) (by decide) e_X2_begin_61 ?_
  refine m_aload_n F rfl e_X2_begin_62 ?_
  refine t_getC F e_X2_begin_63 fl_X2_136 (fun _ => o15) h1519 k902 ((fld_eq (h1520.2 r902 (by rw [show kA _ r902 = 15 from k902]; decide))).trans ((fld_eq (h1514.2 r902 (by rw [show kA _ r902 = 15 from k902]; decide))).trans ((fld_eq (h1508.2 r902 (by rw [show kA _ r902 = 15 from k902]; decide))).trans f1503))) ?_
  refine t_callV F e_X2_begin_66 (s_X1_asLong (x_l X) V b M Z T _ _ r1504  h1519.1 k1505  (by omega)) cb_X1_asLong ml_X2_193 im_X1_asLong se_X1_asLong (fun _ => o6) h1519 k1505 rfl rfl (rest := [.int 0, .ref r1522]) rfl (Nat.le_of_ble_eq_true rfl) ⟨Nat.le_of_ble_eq_true rfl, Nat.le_of_ble_eq_true rfl⟩ ⟨Nat.le_of_ble_eq_true rfl, Nat.le_of_ble_eq_true rfl⟩ (fun r σ1524 hp => ?_)
  obtain ⟨h1526, x1527, rfl⟩ := hp
  have h1525 := HK.trans h1519 h1526 (by decide)
  refine t_last F (len := 5) (j := 0) e_X2_begin_69 (fun _ => o18) h1525 k1523 (by decide) (by unfold vp_in; decide) (by decide) (fun σ1528 h1529 g1530 => ?_)
  refine m_aload_n F rfl e_X2_begin_70 ?_
  refine t_get F e_X2_begin_71 fl_X2_33 (fun _ => o7) h1529 hk rfl (fun v hv f1531 => ?_)
  obtain ⟨r1532, k1533, rfl⟩ := hv
  refine m_iconst F (v := 0) (by decide) e_X2_begin_74 ?_
  refine m_aload_n F rfl e_X2_begin_75 ?_
  refine t_get F e_X2_begin_76 fl_X2_68 (fun _ => o7) h1529 hk rfl (fun v hv f1534 => ?_)
  obtain ⟨n1535, hn1535, rfl⟩ := hv
  replace hn1535 : n1535 ≤ M := hn1535
  refine m_iload_n F rfl e_X2_begin_79 ?_
  refine t_callV F e_X2_begin_80 (s_X3_open (x_l X) V b M Z T _ _ r1532 0 (nI n1535) x901 h1529.1 k1533  (by omega)) cb_X3_open ml_X2_197 im_X3_open se_X3_open (fun _ => o12) h1529 k1533 rfl rfl (rest := []) rfl (Nat.le_of_ble_eq_true rfl) ⟨Nat.le_of_ble_eq_true rfl, Nat.le_of_ble_eq_true rfl⟩ ⟨Nat.le_of_ble_eq_true rfl, Nat.le_of_ble_eq_true rfl⟩ (fun r σ1536 hp => ?_)
  obtain ⟨h1538, rfl⟩ := hp
  have h1537 := HK.trans h1529 h1538 (by decide)
  refine m_aload_n F rfl e_X2_begin_83 ?_
  refine t_getC F e_X2_begin_84 fl_X2_33 (fun _ => o7) h1537 hk ((fld_eq (h1538.2 a (by rw [show kA _ a = 7 from hk]; decide))).trans f1531) ?_
  refine m_iconst F (v := 2) (by decide) e_X2_begin_87 ?_
  refine m_aload_n F rfl e_X2_begin_88 ?_
  refine t_getC F e_X2_begin_89 fl_X2_178 (fun _ => o15) h1537 k902 ((fld_eq (h1538.2 r902 (by rw [show kA _ r902 = 15 from k902]; decide))).trans ((g1530 r902 14 (fun e => absurd ((k902).symm.trans e) (by decide))).trans ((fld_eq (h1526.2 r902 (by rw [show kA _ r902 = 15 from k902]; decide))).trans ((fld_eq (h1520.2 r902 (by rw [show kA _ r902 = 15 from k902]; decide))).trans ((fld_eq (h1514.2 r902 (by rw [show kA _ r902 = 15 from k902]; decide))).trans f1509))))) ?_
  refine t_callV F e_X2_begin_92 (s_X1_asLong (x_l X) V b (M + 1) Z T _ _ r1510  h1537.1 k1511  (by omega)) cb_X1_asLong ml_X2_193 im_X1_asLong se_X1_asLong (fun _ => o6) h1537 k1511 rfl rfl (rest := [.int 2, .ref r1532]) rfl (Nat.le_of_ble_eq_true rfl) ⟨Nat.le_of_ble_eq_true rfl, Nat.le_of_ble_eq_true rfl⟩ ⟨Nat.le_of_ble_eq_true rfl, Nat.le_of_ble_eq_true rfl⟩ (fun r σ1539 hp => ?_)
  obtain ⟨h1541, x1542, rfl⟩ := hp
  have h1540 := HK.trans h1537 h1541 (by decide)
  refine t_callV F e_X2_begin_95 (s_X3_put (x_l X) V b (M + 1) Z T _ _ r1532 2 x1542 h1540.1 k1533  (by omega)) cb_X3_put ml_X2_201 im_X3_put se_X3_put (fun _ => o12) h1540 k1533 rfl rfl (rest := []) rfl (Nat.le_of_ble_eq_true rfl) ⟨Nat.le_of_ble_eq_true rfl, Nat.le_of_ble_eq_true rfl⟩ ⟨Nat.le_of_ble_eq_true rfl, Nat.le_of_ble_eq_true rfl⟩ (fun r σ1543 hp => ?_)
  obtain ⟨h1545, rfl⟩ := hp
  have h1544 := HK.trans h1540 h1545 (by decide)
  refine m_aload_n F rfl e_X2_begin_98 ?_
  refine t_getC F e_X2_begin_99 fl_X2_33 (fun _ => o7) h1544 hk ((fld_eq (h1545.2 a (by rw [show kA _ a = 7 from hk]; decide))).trans ((fld_eq (h1541.2 a (by rw [show kA _ a = 7 from hk]; decide))).trans ((fld_eq (h1538.2 a (by rw [show kA _ a = 7 from hk]; decide))).trans f1531))) ?_
  refine m_iconst F (v := 1) (by decide) e_X2_begin_102 ?_
  refine m_aload_n F rfl e_X2_begin_103 ?_
  refine t_getC F e_X2_begin_104 fl_X2_136 (fun _ => o15) h1544 k902 ((fld_eq (h1545.2 r902 (by rw [show kA _ r902 = 15 from k902]; decide))).trans ((fld_eq (h1541.2 r902 (by rw [show kA _ r902 = 15 from k902]; decide))).trans ((fld_eq (h1538.2 r902 (by rw [show kA _ r902 = 15 from k902]; decide))).trans ((g1530 r902 13 (fun e => absurd ((k902).symm.trans e) (by decide))).trans ((fld_eq (h1526.2 r902 (by rw [show kA _ r902 = 15 from k902]; decide))).trans ((fld_eq (h1520.2 r902 (by rw [show kA _ r902 = 15 from k902]; decide))).trans ((fld_eq (h1514.2 r902 (by rw [show kA _ r902 = 15 from k902]; decide))).trans ((fld_eq (h1508.2 r902 (by rw [show kA _ r902 = 15 from k902]; decide))).trans f1503)))))))) ?_
  refine t_callV F e_X2_begin_107 (s_X1_asLong (x_l X) V b (M + 1) Z T _ _ r1504  h1544.1 k1505  (by omega)) cb_X1_asLong ml_X2_193 im_X1_asLong se_X1_asLong (fun _ => o6) h1544 k1505 rfl rfl (rest := [.int 1, .ref r1532]) rfl (Nat.le_of_ble_eq_true rfl) ⟨Nat.le_of_ble_eq_true rfl, Nat.le_of_ble_eq_true rfl⟩ ⟨Nat.le_of_ble_eq_true rfl, Nat.le_of_ble_eq_true rfl⟩ (fun r σ1546 hp => ?_)
  obtain ⟨h1548, x1549, rfl⟩ := hp
  have h1547 := HK.trans h1544 h1548 (by decide)
  refine m_lneg F e_X2_begin_110 ?_
  refine Wm.topl (fun x1550 _ => ?_)
  refine t_callV F e_X2_begin_111 (s_X3_put (x_l X) V b (M + 1) Z T _ _ r1532 1 x1550 h1547.1 k1533  (by omega)) cb_X3_put ml_X2_201 im_X3_put se_X3_put (fun _ => o12) h1547 k1533 rfl rfl (rest := []) rfl (Nat.le_of_ble_eq_true rfl) ⟨Nat.le_of_ble_eq_true rfl, Nat.le_of_ble_eq_true rfl⟩ ⟨Nat.le_of_ble_eq_true rfl, Nat.le_of_ble_eq_true rfl⟩ (fun r σ1551 hp => ?_)
  obtain ⟨h1553, rfl⟩ := hp
  have h1552 := HK.trans h1547 h1553 (by decide)
  refine m_aload_n F rfl e_X2_begin_114 ?_
  refine t_getC F e_X2_begin_115 fl_X2_33 (fun _ => o7) h1552 hk ((fld_eq (h1553.2 a (by rw [show kA _ a = 7 from hk]; decide))).trans ((fld_eq (h1548.2 a (by rw [show kA _ a = 7 from hk]; decide))).trans ((fld_eq (h1545.2 a (by rw [show kA _ a = 7 from hk]; decide))).trans ((fld_eq (h1541.2 a (by rw [show kA _ a = 7 from hk]; decide))).trans ((fld_eq (h1538.2 a (by rw [show kA _ a = 7 from hk]; decide))).trans f1531))))) ?_
  refine m_iconst F (v := 0) (by decide) e_X2_begin_118 ?_
  refine m_aload_n F rfl e_X2_begin_119 ?_
  refine t_getC F e_X2_begin_120 fl_X2_183 (fun _ => o15) h1552 k902 ((fld_eq (h1553.2 r902 (by rw [show kA _ r902 = 15 from k902]; decide))).trans ((fld_eq (h1548.2 r902 (by rw [show kA _ r902 = 15 from k902]; decide))).trans ((fld_eq (h1545.2 r902 (by rw [show kA _ r902 = 15 from k902]; decide))).trans ((fld_eq (h1541.2 r902 (by rw [show kA _ r902 = 15 from k902]; decide))).trans ((fld_eq (h1538.2 r902 (by rw [show kA _ r902 = 15 from k902]; decide))).trans ((g1530 r902 5 (fun e => absurd ((k902).symm.trans e) (by decide))).trans ((fld_eq (h1526.2 r902 (by rw [show kA _ r902 = 15 from k902]; decide))).trans ((fld_eq (h1520.2 r902 (by rw [show kA _ r902 = 15 from k902]; decide))).trans f1515)))))))) ?_
  refine m_ineg F e_X2_begin_123 ?_
  refine Wm.top (fun x1554 _ => ?_)
  refine m_i2l F e_X2_begin_124 ?_
  refine Wm.topl (fun x1555 _ => ?_)
  refine t_callV F e_X2_begin_125 (s_X3_put (x_l X) V b (M + 1) Z T _ _ r1532 0 x1555 h1552.1 k1533  (by omega)) cb_X3_put ml_X2_201 im_X3_put se_X3_put (fun _ => o12) h1552 k1533 rfl rfl (rest := []) rfl (Nat.le_of_ble_eq_true rfl) ⟨Nat.le_of_ble_eq_true rfl, Nat.le_of_ble_eq_true rfl⟩ ⟨Nat.le_of_ble_eq_true rfl, Nat.le_of_ble_eq_true rfl⟩ (fun r σ1556 hp => ?_)
  obtain ⟨h1558, rfl⟩ := hp
  have h1557 := HK.trans h1552 h1558 (by decide)
  exact m_vret F hQ e_X2_begin_128 (⟨h1557, rfl⟩)
set_option maxRecDepth 20000 in
theorem s_X2_payAndWriteOff (l : Launch) (V : VX) (b M Z T N : Nat) (σ : Mem) (a : Nat) (x901 : Int32) (r902 : Nat) (h0 : HT V (b, M, Z, T) σ) (hk : kA b a = 7) (k902 : kA b r902 = 15) (hM : M + 1 ≤ 1000000000) : Ct l V yX2_payAndWriteOff cX2_payAndWriteOff 12 none 4 0 0 N σ [.ref a, .int x901, .ref r902] (fun r τ => HK V (b, M + 1, Z, T) [0, 1, 3, 7, 19] σ τ ∧ r = none) := by
  refine Ct.of (by decide) (Nat.le_of_ble_eq_true rfl) [(0, .ref a), (1, .int x901), (2, .ref r902)] rfl (fun X hX F hQ => ?_)
  have h1 : HK V (b, M, Z, T) [0, 1, 3, 7, 19] σ σ := HK.start h0
  refine m_aload_n F rfl e_X2_payAndWriteOff_0 ?_
  refine t_callV F e_X2_payAndWriteOff_1 (s_X5_left (x_l X) V b M Z T _ _ r902  h1.1 k902  (by omega)) cb_X5_left ml_X2_205 im_X5_left se_X5_left (fun _ => o15) h1 k902 rfl rfl (rest := []) rfl (Nat.le_of_ble_eq_true rfl) ⟨Nat.le_of_ble_eq_true rfl, Nat.le_of_ble_eq_true rfl⟩ ⟨Nat.le_of_ble_eq_true rfl, Nat.le_of_ble_eq_true rfl⟩ (fun r σ1559 hp => ?_)
  obtain ⟨h1561, x1562, rfl⟩ := hp
  have h1560 := HK.trans h1 h1561 (by decide)
  refine m_istore_n F (lv' := [(3, .int x1562), (0, .ref a), (1, .int x901), (2, .ref r902)]) e_X2_payAndWriteOff_4 (by decide) rfl ?_
  refine m_iload_n F rfl e_X2_payAndWriteOff_5 ?_
  refine m_iconst F (v := 1) (by decide) e_X2_payAndWriteOff_6 ?_
  refine m_icmp_ge F e_X2_payAndWriteOff_7 (fun q7 => ?_) (fun q7 => ?_)
  · obtain ⟨n1563, hn1563, rfl⟩ := nI_nn (x := x1562) (fun e => Int32.lt_irrefl (Int32.lt_of_lt_of_le e (Int32.le_trans (by decide) q7)))
    have c7 : n1563 ≥ 1 := (nI_leI (a := 1) (b := n1563) (by omega) (by omega)).mp q7
    refine m_aload_n F rfl e_X2_payAndWriteOff_11 ?_
    refine t_get F e_X2_payAndWriteOff_12 fl_X2_208 (fun _ => o15) h1560 k902 rfl (fun v hv f1564 => ?_)
    obtain ⟨r1565, k1566, rfl⟩ := hv
    refine m_aload_n F rfl e_X2_payAndWriteOff_15 ?_
    refine t_get F e_X2_payAndWriteOff_16 fl_X2_212 (fun _ => o15) h1560 k902 rfl (fun v hv f1567 => ?_)
    obtain ⟨x1568, rfl⟩ := hv
    refine m_aload_n F rfl e_X2_payAndWriteOff_19 ?_
    refine t_get F e_X2_payAndWriteOff_20 fl_X2_44 (fun _ => o7) h1560 hk rfl (fun v hv f1569 => ?_)
    obtain ⟨r1570, k1571, rfl⟩ := hv
    refine t_callV F e_X2_payAndWriteOff_23 (s_X8_copyTo (x_l X) V b M Z T _ _ r1565 x1568 r1570 h1560.1 k1566 k1571 (by omega)) cb_X8_copyTo ml_X2_215 im_X8_copyTo se_X8_copyTo (fun _ => o16) h1560 k1566 rfl rfl (rest := []) rfl (Nat.le_of_ble_eq_true rfl) ⟨Nat.le_of_ble_eq_true rfl, Nat.le_of_ble_eq_true rfl⟩ ⟨Nat.le_of_ble_eq_true rfl, Nat.le_of_ble_eq_true rfl⟩ (fun r σ1572 hp => ?_)
    obtain ⟨h1574, rfl⟩ := hp
    have h1573 := HK.trans h1560 h1574 (by decide)
    refine m_aload_n F rfl e_X2_payAndWriteOff_26 ?_
    refine t_get F e_X2_payAndWriteOff_27 fl_X2_40 (fun _ => o7) h1573 hk rfl (fun v hv f1575 => ?_)
    obtain ⟨r1576, k1577, rfl⟩ := hv
    refine m_aload_n F rfl e_X2_payAndWriteOff_30 ?_
    refine t_getC F e_X2_payAndWriteOff_31 fl_X2_44 (fun _ => o7) h1573 hk ((fld_eq (h1574.2 a (by rw [show kA _ a = 7 from hk]; decide))).trans f1569) ?_
    refine t_callV F e_X2_payAndWriteOff_34 (s_X1_add (x_l X) V b M Z T _ _ r1576 r1570 h1573.1 k1577 k1571 (by omega)) cb_X1_add ml_X2_139 im_X1_add se_X1_add (fun _ => o6) h1573 k1577 rfl rfl (rest := []) rfl (Nat.le_of_ble_eq_true rfl) ⟨Nat.le_of_ble_eq_true rfl, Nat.le_of_ble_eq_true rfl⟩ ⟨Nat.le_of_ble_eq_true rfl, Nat.le_of_ble_eq_true rfl⟩ (fun r σ1578 hp => ?_)
    obtain ⟨h1580, rfl⟩ := hp
    have h1579 := HK.trans h1573 h1580 (by decide)
    refine m_aload_n F rfl e_X2_payAndWriteOff_37 ?_
    refine m_aload_n F rfl e_X2_payAndWriteOff_38 ?_
    refine t_getC F e_X2_payAndWriteOff_39 fl_X2_44 (fun _ => o7) h1579 hk ((fld_eq (h1580.2 a (by rw [show kA _ a = 7 from hk]; decide))).trans ((fld_eq (h1574.2 a (by rw [show kA _ a = 7 from hk]; decide))).trans f1569)) ?_
    refine m_aload_n F rfl e_X2_payAndWriteOff_42 ?_
    refine t_get F e_X2_payAndWriteOff_43 fl_X2_47 (fun _ => o7) h1579 hk rfl (fun v hv f1581 => ?_)
    obtain ⟨r1582, k1583, rfl⟩ := hv
    refine t_callV F e_X2_payAndWriteOff_46 (s_X5_owedBehind (x_l X) V b M Z T _ _ r902 r1570 r1582 h1579.1 k902 k1571 k1583 (by omega)) cb_X5_owedBehind ml_X2_221 im_X5_owedBehind se_X5_owedBehind (fun _ => o15) h1579 k902 rfl rfl (rest := []) rfl (Nat.le_of_ble_eq_true rfl) ⟨Nat.le_of_ble_eq_true rfl, Nat.le_of_ble_eq_true rfl⟩ ⟨Nat.le_of_ble_eq_true rfl, Nat.le_of_ble_eq_true rfl⟩ (fun r σ1584 hp => ?_)
    obtain ⟨h1586, rfl⟩ := hp
    have h1585 := HK.trans h1579 h1586 (by decide)
    refine m_aload_n F rfl e_X2_payAndWriteOff_49 ?_
    refine t_getC F e_X2_payAndWriteOff_50 fl_X2_44 (fun _ => o7) h1585 hk ((fld_eq (h1586.2 a (by rw [show kA _ a = 7 from hk]; decide))).trans ((fld_eq (h1580.2 a (by rw [show kA _ a = 7 from hk]; decide))).trans ((fld_eq (h1574.2 a (by rw [show kA _ a = 7 from hk]; decide))).trans f1569))) ?_
    refine t_callV F e_X2_payAndWriteOff_53 (s_X1_asLong (x_l X) V b M Z T _ _ r1570  h1585.1 k1571  (by omega)) cb_X1_asLong ml_X2_193 im_X1_asLong se_X1_asLong (fun _ => o6) h1585 k1571 rfl rfl (rest := []) rfl (Nat.le_of_ble_eq_true rfl) ⟨Nat.le_of_ble_eq_true rfl, Nat.le_of_ble_eq_true rfl⟩ ⟨Nat.le_of_ble_eq_true rfl, Nat.le_of_ble_eq_true rfl⟩ (fun r σ1587 hp => ?_)
    obtain ⟨h1589, x1590, rfl⟩ := hp
    have h1588 := HK.trans h1585 h1589 (by decide)
    refine m_lstore F (lv' := [(4, .long x1590), (3, .int (nI n1563)), (0, .ref a), (1, .int x901), (2, .ref r902)]) e_X2_payAndWriteOff_56 (by decide) rfl ?_
    refine m_aload_n F rfl e_X2_payAndWriteOff_58 ?_
    refine t_get F e_X2_payAndWriteOff_59 fl_X2_136 (fun _ => o15) h1588 k902 rfl (fun v hv f1591 => ?_)
    obtain ⟨r1592, k1593, rfl⟩ := hv
    refine t_callV F e_X2_payAndWriteOff_62 (s_X1_asLong (x_l X) V b M Z T _ _ r1592  h1588.1 k1593  (by omega)) cb_X1_asLong ml_X2_193 im_X1_asLong se_X1_asLong (fun _ => o6) h1588 k1593 rfl rfl (rest := []) rfl (Nat.le_of_ble_eq_true rfl) ⟨Nat.le_of_ble_eq_true rfl, Nat.le_of_ble_eq_true rfl⟩ ⟨Nat.le_of_ble_eq_true rfl, Nat.le_of_ble_eq_true rfl⟩ (fun r σ1594 hp => ?_)
    obtain ⟨h1596, x1597, rfl⟩ := hp
    have h1595 := HK.trans h1588 h1596 (by decide)
    refine m_aload_n F rfl e_X2_payAndWriteOff_65 ?_
    refine t_getC F e_X2_payAndWriteOff_66 fl_X2_47 (fun _ => o7) h1595 hk ((fld_eq (h1596.2 a (by rw [show kA _ a = 7 from hk]; decide))).trans ((fld_eq (h1589.2 a (by rw [show kA _ a = 7 from hk]; decide))).trans ((fld_eq (h1586.2 a (by rw [show kA _ a = 7 from hk]; decide))).trans f1581))) ?_
    refine t_callV F e_X2_payAndWriteOff_69 (s_X1_asLong (x_l X) V b M Z T _ _ r1582  h1595.1 k1583  (by omega)) cb_X1_asLong ml_X2_193 im_X1_asLong se_X1_asLong (fun _ => o6) h1595 k1583 rfl rfl (rest := [.long x1597]) rfl (Nat.le_of_ble_eq_true rfl) ⟨Nat.le_of_ble_eq_true rfl, Nat.le_of_ble_eq_true rfl⟩ ⟨Nat.le_of_ble_eq_true rfl, Nat.le_of_ble_eq_true rfl⟩ (fun r σ1598 hp => ?_)
    obtain ⟨h1600, x1601, rfl⟩ := hp
    have h1599 := HK.trans h1595 h1600 (by decide)
    refine m_lsub F e_X2_payAndWriteOff_72 ?_
    refine Wm.topl (fun x1602 _ => ?_)
    refine m_lstore F (lv' := [(6, .long x1602), (4, .long x1590), (3, .int (nI n1563)), (0, .ref a), (1, .int x901), (2, .ref r902)]) e_X2_payAndWriteOff_73 (by decide) rfl ?_
    refine m_lload F rfl e_X2_payAndWriteOff_75 ?_
    refine m_lload F rfl e_X2_payAndWriteOff_77 ?_
    refine m_lsub F e_X2_payAndWriteOff_79 ?_
    refine Wm.topl (fun x1603 _ => ?_)
    refine m_lstore F (lv' := [(8, .long x1603), (6, .long x1602), (4, .long x1590), (3, .int (nI n1563)), (0, .ref a), (1, .int x901), (2, .ref r902)]) e_X2_payAndWriteOff_80 (by decide) rfl ?_
    refine m_aload_n F rfl e_X2_payAndWriteOff_82 ?_
    refine t_getC F e_X2_payAndWriteOff_83 fl_X2_136 (fun _ => o15) h1599 k902 ((fld_eq (h1600.2 r902 (by rw [show kA _ r902 = 15 from k902]; decide))).trans ((fld_eq (h1596.2 r902 (by rw [show kA _ r902 = 15 from k902]; decide))).trans f1591)) ?_
    refine m_aload_n F rfl e_X2_payAndWriteOff_86 ?_
    refine t_getC F e_X2_payAndWriteOff_87 fl_X2_47 (fun _ => o7) h1599 hk ((fld_eq (h1600.2 a (by rw [show kA _ a = 7 from hk]; decide))).trans ((fld_eq (h1596.2 a (by rw [show kA _ a = 7 from hk]; decide))).trans ((fld_eq (h1589.2 a (by rw [show kA _ a = 7 from hk]; decide))).trans ((fld_eq (h1586.2 a (by rw [show kA _ a = 7 from hk]; decide))).trans f1581)))) ?_
    refine t_callV F e_X2_payAndWriteOff_90 (s_X1_copyFrom (x_l X) V b M Z T _ _ r1592 r1582 h1599.1 k1593 k1583 (by omega)) cb_X1_copyFrom ml_X2_181 im_X1_copyFrom se_X1_copyFrom (fun _ => o6) h1599 k1593 rfl rfl (rest := []) rfl (Nat.le_of_ble_eq_true rfl) ⟨Nat.le_of_ble_eq_true rfl, Nat.le_of_ble_eq_true rfl⟩ ⟨Nat.le_of_ble_eq_true rfl, Nat.le_of_ble_eq_true rfl⟩ (fun r σ1604 hp => ?_)
    obtain ⟨h1606, rfl⟩ := hp
    have h1605 := HK.trans h1599 h1606 (by decide)
    refine m_aload_n F rfl e_X2_payAndWriteOff_93 ?_
    refine t_getC F e_X2_payAndWriteOff_94 fl_X2_47 (fun _ => o7) h1605 hk ((fld_eq (h1606.2 a (by rw [show kA _ a = 7 from hk]; decide))).trans ((fld_eq (h1600.2 a (by rw [show kA _ a = 7 from hk]; decide))).trans ((fld_eq (h1596.2 a (by rw [show kA _ a = 7 from hk]; decide))).trans ((fld_eq (h1589.2 a (by rw [show kA _ a = 7 from hk]; decide))).trans ((fld_eq (h1586.2 a (by rw [show kA _ a = 7 from hk]; decide))).trans f1581))))) ?_
    refine m_aload_n F rfl e_X2_payAndWriteOff_97 ?_
    refine t_get F e_X2_payAndWriteOff_98 fl_X2_178 (fun _ => o15) h1605 k902 rfl (fun v hv f1607 => ?_)
    obtain ⟨r1608, k1609, rfl⟩ := hv
    refine t_callV F e_X2_payAndWriteOff_101 (s_X1_copyFrom (x_l X) V b M Z T _ _ r1582 r1608 h1605.1 k1583 k1609 (by omega)) cb_X1_copyFrom ml_X2_181 im_X1_copyFrom se_X1_copyFrom (fun _ => o6) h1605 k1583 rfl rfl (rest := []) rfl (Nat.le_of_ble_eq_true rfl) ⟨Nat.le_of_ble_eq_true rfl, Nat.le_of_ble_eq_true rfl⟩ ⟨Nat.le_of_ble_eq_true rfl, Nat.le_of_ble_eq_true rfl⟩ (fun r σ1610 hp => ?_)
    obtain ⟨h1612, rfl⟩ := hp
    have h1611 := HK.trans h1605 h1612 (by decide)
    refine m_aload_n F rfl e_X2_payAndWriteOff_104 ?_
    refine t_getC F e_X2_payAndWriteOff_105 fl_X2_47 (fun _ => o7) h1611 hk ((fld_eq (h1612.2 a (by rw [show kA _ a = 7 from hk]; decide))).trans ((fld_eq (h1606.2 a (by rw [show kA _ a = 7 from hk]; decide))).trans ((fld_eq (h1600.2 a (by rw [show kA _ a = 7 from hk]; decide))).trans ((fld_eq (h1596.2 a (by rw [show kA _ a = 7 from hk]; decide))).trans ((fld_eq (h1589.2 a (by rw [show kA _ a = 7 from hk]; decide))).trans ((fld_eq (h1586.2 a (by rw [show kA _ a = 7 from hk]; decide))).trans f1581)))))) ?_
    refine m_lconst F (v := 1) (by decide) e_X2_payAndWriteOff_108 ?_
    refine m_iload_n F rfl e_X2_payAndWriteOff_109 ?_
    refine m_i2l F e_X2_payAndWriteOff_110 ?_
    refine Wm.topl (fun x1613 _ => ?_)
    refine t_callV F e_X2_payAndWriteOff_111 (s_X1_shareDown (x_l X) V b M Z T _ _ r1582 1 x1613 h1611.1 k1583  (by omega)) cb_X1_shareDown ml_X2_225 im_X1_shareDown se_X1_shareDown (fun _ => o6) h1611 k1583 rfl rfl (rest := []) rfl (Nat.le_of_ble_eq_true rfl) ⟨Nat.le_of_ble_eq_true rfl, Nat.le_of_ble_eq_true rfl⟩ ⟨Nat.le_of_ble_eq_true rfl, Nat.le_of_ble_eq_true rfl⟩ (fun r σ1614 hp => ?_)
    obtain ⟨h1616, rfl⟩ := hp
    have h1615 := HK.trans h1611 h1616 (by decide)
    refine m_aload_n F rfl e_X2_payAndWriteOff_114 ?_
    refine t_getC F e_X2_payAndWriteOff_115 fl_X2_47 (fun _ => o7) h1615 hk ((fld_eq (h1616.2 a (by rw [show kA _ a = 7 from hk]; decide))).trans ((fld_eq (h1612.2 a (by rw [show kA _ a = 7 from hk]; decide))).trans ((fld_eq (h1606.2 a (by rw [show kA _ a = 7 from hk]; decide))).trans ((fld_eq (h1600.2 a (by rw [show kA _ a = 7 from hk]; decide))).trans ((fld_eq (h1596.2 a (by rw [show kA _ a = 7 from hk]; decide))).trans ((fld_eq (h1589.2 a (by rw [show kA _ a = 7 from hk]; decide))).trans ((fld_eq (h1586.2 a (by rw [show kA _ a = 7 from hk]; decide))).trans f1581))))))) ?_
    refine t_callV F e_X2_payAndWriteOff_118 (s_X1_asLong (x_l X) V b M Z T _ _ r1582  h1615.1 k1583  (by omega)) cb_X1_asLong ml_X2_193 im_X1_asLong se_X1_asLong (fun _ => o6) h1615 k1583 rfl rfl (rest := []) rfl (Nat.le_of_ble_eq_true rfl) ⟨Nat.le_of_ble_eq_true rfl, Nat.le_of_ble_eq_true rfl⟩ ⟨Nat.le_of_ble_eq_true rfl, Nat.le_of_ble_eq_true rfl⟩ (fun r σ1617 hp => ?_)
    obtain ⟨h1619, x1620, rfl⟩ := hp
    have h1618 := HK.trans h1615 h1619 (by decide)
    refine m_lstore F (lv' := [(10, .long x1620), (8, .long x1603), (6, .long x1602), (4, .long x1590), (3, .int (nI n1563)), (0, .ref a), (1, .int x901), (2, .ref r902)]) e_X2_payAndWriteOff_121 (by decide) rfl ?_
    refine m_aload_n F rfl e_X2_payAndWriteOff_123 ?_
    refine t_getC F e_X2_payAndWriteOff_124 fl_X2_178 (fun _ => o15) h1618 k902 ((fld_eq (h1619.2 r902 (by rw [show kA _ r902 = 15 from k902]; decide))).trans ((fld_eq (h1616.2 r902 (by rw [show kA _ r902 = 15 from k902]; decide))).trans ((fld_eq (h1612.2 r902 (by rw [show kA _ r902 = 15 from k902]; decide))).trans f1607))) ?_
    refine m_aload_n F rfl e_X2_payAndWriteOff_127 ?_
    refine t_getC F e_X2_payAndWriteOff_128 fl_X2_47 (fun _ => o7) h1618 hk ((fld_eq (h1619.2 a (by rw [show kA _ a = 7 from hk]; decide))).trans ((fld_eq (h1616.2 a (by rw [show kA _ a = 7 from hk]; decide))).trans ((fld_eq (h1612.2 a (by rw [show kA _ a = 7 from hk]; decide))).trans ((fld_eq (h1606.2 a (by rw [show kA _ a = 7 from hk]; decide))).trans ((fld_eq (h1600.2 a (by rw [show kA _ a = 7 from hk]; decide))).trans ((fld_eq (h1596.2 a (by rw [show kA _ a = 7 from hk]; decide))).trans ((fld_eq (h1589.2 a (by rw [show kA _ a = 7 from hk]; decide))).trans ((fld_eq (h1586.2 a (by rw [show kA _ a = 7 from hk]; decide))).trans f1581)))))))) ?_
    refine t_callV F e_X2_payAndWriteOff_131 (s_X1_subtract (x_l X) V b M Z T _ _ r1608 r1582 h1618.1 k1609 k1583 (by omega)) cb_X1_subtract ml_X2_229 im_X1_subtract se_X1_subtract (fun _ => o6) h1618 k1609 rfl rfl (rest := []) rfl (Nat.le_of_ble_eq_true rfl) ⟨Nat.le_of_ble_eq_true rfl, Nat.le_of_ble_eq_true rfl⟩ ⟨Nat.le_of_ble_eq_true rfl, Nat.le_of_ble_eq_true rfl⟩ (fun r σ1621 hp => ?_)
    obtain ⟨h1623, rfl⟩ := hp
    have h1622 := HK.trans h1618 h1623 (by decide)
    refine m_aload_n F rfl e_X2_payAndWriteOff_134 ?_
    refine t_get F e_X2_payAndWriteOff_135 fl_X2_33 (fun _ => o7) h1622 hk rfl (fun v hv f1624 => ?_)
    obtain ⟨r1625, k1626, rfl⟩ := hv
    refine m_iconst F (v := 1) (by decide) e_X2_payAndWriteOff_138 ?_
    refine m_aload_n F rfl e_X2_payAndWriteOff_139 ?_
    refine t_get F e_X2_payAndWriteOff_140 fl_X2_68 (fun _ => o7) h1622 hk rfl (fun v hv f1627 => ?_)
    obtain ⟨n1628, hn1628, rfl⟩ := hv
    replace hn1628 : n1628 ≤ M := hn1628
    refine m_iload_n F rfl e_X2_payAndWriteOff_143 ?_
    refine t_callV F e_X2_payAndWriteOff_144 (s_X3_open (x_l X) V b M Z T _ _ r1625 1 (nI n1628) x901 h1622.1 k1626  (by omega)) cb_X3_open ml_X2_197 im_X3_open se_X3_open (fun _ => o12) h1622 k1626 rfl rfl (rest := []) rfl (Nat.le_of_ble_eq_true rfl) ⟨Nat.le_of_ble_eq_true rfl, Nat.le_of_ble_eq_true rfl⟩ ⟨Nat.le_of_ble_eq_true rfl, Nat.le_of_ble_eq_true rfl⟩ (fun r σ1629 hp => ?_)
    obtain ⟨h1631, rfl⟩ := hp
    have h1630 := HK.trans h1622 h1631 (by decide)
    refine m_aload_n F rfl e_X2_payAndWriteOff_147 ?_
    refine t_getC F e_X2_payAndWriteOff_148 fl_X2_33 (fun _ => o7) h1630 hk ((fld_eq (h1631.2 a (by rw [show kA _ a = 7 from hk]; decide))).trans f1624) ?_
    refine m_iconst F (v := 0) (by decide) e_X2_payAndWriteOff_151 ?_
    refine m_lload F rfl e_X2_payAndWriteOff_152 ?_
    refine m_lneg F e_X2_payAndWriteOff_154 ?_
    refine Wm.topl (fun x1632 _ => ?_)
    refine t_callV F e_X2_payAndWriteOff_155 (s_X3_put (x_l X) V b (M + 1) Z T _ _ r1625 0 x1632 h1630.1 k1626  (by omega)) cb_X3_put ml_X2_201 im_X3_put se_X3_put (fun _ => o12) h1630 k1626 rfl rfl (rest := []) rfl (Nat.le_of_ble_eq_true rfl) ⟨Nat.le_of_ble_eq_true rfl, Nat.le_of_ble_eq_true rfl⟩ ⟨Nat.le_of_ble_eq_true rfl, Nat.le_of_ble_eq_true rfl⟩ (fun r σ1633 hp => ?_)
    obtain ⟨h1635, rfl⟩ := hp
    have h1634 := HK.trans h1630 h1635 (by decide)
    refine m_aload_n F rfl e_X2_payAndWriteOff_158 ?_
    refine t_getC F e_X2_payAndWriteOff_159 fl_X2_33 (fun _ => o7) h1634 hk ((fld_eq (h1635.2 a (by rw [show kA _ a = 7 from hk]; decide))).trans ((fld_eq (h1631.2 a (by rw [show kA _ a = 7 from hk]; decide))).trans f1624)) ?_
    refine m_iconst F (v := 1) (by decide) e_X2_payAndWriteOff_162 ?_
    refine m_lload F rfl e_X2_payAndWriteOff_163 ?_
    refine t_callV F e_X2_payAndWriteOff_165 (s_X3_put (x_l X) V b (M + 1) Z T _ _ r1625 1 x1602 h1634.1 k1626  (by omega)) cb_X3_put ml_X2_201 im_X3_put se_X3_put (fun _ => o12) h1634 k1626 rfl rfl (rest := []) rfl (Nat.le_of_ble_eq_true rfl) ⟨Nat.le_of_ble_eq_true rfl, Nat.le_of_ble_eq_true rfl⟩ ⟨Nat.le_of_ble_eq_true rfl, Nat.le_of_ble_eq_true rfl⟩ (fun r σ1636 hp => ?_)
    obtain ⟨h1638, rfl⟩ := hp
    have h1637 := HK.trans h1634 h1638 (by decide)
    refine m_aload_n F rfl e_X2_payAndWriteOff_168 ?_
    refine t_getC F e_X2_payAndWriteOff_169 fl_X2_33 (fun _ => o7) h1637 hk ((fld_eq (h1638.2 a (by rw [show kA _ a = 7 from hk]; decide))).trans ((fld_eq (h1635.2 a (by rw [show kA _ a = 7 from hk]; decide))).trans ((fld_eq (h1631.2 a (by rw [show kA _ a = 7 from hk]; decide))).trans f1624))) ?_
    refine m_iconst F (v := 2) (by decide) e_X2_payAndWriteOff_172 ?_
    refine m_lload F rfl e_X2_payAndWriteOff_173 ?_
    refine m_lneg F e_X2_payAndWriteOff_175 ?_
    refine Wm.topl (fun x1639 _ => ?_)
    refine t_callV F e_X2_payAndWriteOff_176 (s_X3_put (x_l X) V b (M + 1) Z T _ _ r1625 2 x1639 h1637.1 k1626  (by omega)) cb_X3_put ml_X2_201 im_X3_put se_X3_put (fun _ => o12) h1637 k1626 rfl rfl (rest := []) rfl (Nat.le_of_ble_eq_true rfl) ⟨Nat.le_of_ble_eq_true rfl, Nat.le_of_ble_eq_true rfl⟩ ⟨Nat.le_of_ble_eq_true rfl, Nat.le_of_ble_eq_true rfl⟩ (fun r σ1640 hp => ?_)
    obtain ⟨h1642, rfl⟩ := hp
    have h1641 := HK.trans h1637 h1642 (by decide)
    refine m_aload_n F rfl e_X2_payAndWriteOff_179 ?_
    refine t_getC F e_X2_payAndWriteOff_180 fl_X2_33 (fun _ => o7) h1641 hk ((fld_eq (h1642.2 a (by rw [show kA _ a = 7 from hk]; decide))).trans ((fld_eq (h1638.2 a (by rw [show kA _ a = 7 from hk]; decide))).trans ((fld_eq (h1635.2 a (by rw [show kA _ a = 7 from hk]; decide))).trans ((fld_eq (h1631.2 a (by rw [show kA _ a = 7 from hk]; decide))).trans f1624)))) ?_
    refine m_iconst F (v := 3) (by decide) e_X2_payAndWriteOff_183 ?_
    refine m_lload F rfl e_X2_payAndWriteOff_184 ?_
    refine t_callV F e_X2_payAndWriteOff_186 (s_X3_put (x_l X) V b (M + 1) Z T _ _ r1625 3 x1603 h1641.1 k1626  (by omega)) cb_X3_put ml_X2_201 im_X3_put se_X3_put (fun _ => o12) h1641 k1626 rfl rfl (rest := []) rfl (Nat.le_of_ble_eq_true rfl) ⟨Nat.le_of_ble_eq_true rfl, Nat.le_of_ble_eq_true rfl⟩ ⟨Nat.le_of_ble_eq_true rfl, Nat.le_of_ble_eq_true rfl⟩ (fun r σ1643 hp => ?_)
    obtain ⟨h1645, rfl⟩ := hp
    have h1644 := HK.trans h1641 h1645 (by decide)
    refine m_aload_n F rfl e_X2_payAndWriteOff_189 ?_
    refine t_getC F e_X2_payAndWriteOff_190 fl_X2_33 (fun _ => o7) h1644 hk ((fld_eq (h1645.2 a (by rw [show kA _ a = 7 from hk]; decide))).trans ((fld_eq (h1642.2 a (by rw [show kA _ a = 7 from hk]; decide))).trans ((fld_eq (h1638.2 a (by rw [show kA _ a = 7 from hk]; decide))).trans ((fld_eq (h1635.2 a (by rw [show kA _ a = 7 from hk]; decide))).trans ((fld_eq (h1631.2 a (by rw [show kA _ a = 7 from hk]; decide))).trans f1624))))) ?_
    refine m_iconst F (v := 4) (by decide) e_X2_payAndWriteOff_193 ?_
    refine m_lload F rfl e_X2_payAndWriteOff_194 ?_
    refine t_callV F e_X2_payAndWriteOff_196 (s_X3_put (x_l X) V b (M + 1) Z T _ _ r1625 4 x1620 h1644.1 k1626  (by omega)) cb_X3_put ml_X2_201 im_X3_put se_X3_put (fun _ => o12) h1644 k1626 rfl rfl (rest := []) rfl (Nat.le_of_ble_eq_true rfl) ⟨Nat.le_of_ble_eq_true rfl, Nat.le_of_ble_eq_true rfl⟩ ⟨Nat.le_of_ble_eq_true rfl, Nat.le_of_ble_eq_true rfl⟩ (fun r σ1646 hp => ?_)
    obtain ⟨h1648, rfl⟩ := hp
    have h1647 := HK.trans h1644 h1648 (by decide)
    refine m_aload_n F rfl e_X2_payAndWriteOff_199 ?_
    refine t_get F e_X2_payAndWriteOff_200 fl_X2_189 (fun _ => o15) h1647 k902 rfl (fun v hv f1649 => ?_)
    obtain ⟨r1650, k1651, rfl⟩ := hv
    refine m_iconst F (v := 1) (by decide) e_X2_payAndWriteOff_203 ?_
    refine m_dup2_11 F rfl rfl e_X2_payAndWriteOff_204 ?_
    refine t_lald F (len := 5) (j := 1) e_X2_payAndWriteOff_205 (fun _ => o18) h1647 k1651 (by decide) (by unfold vp_in; decide) (fun x1652 => ?_)
    refine m_lload F rfl e_X2_payAndWriteOff_206 ?_
    refine m_ladd F e_X2_payAndWriteOff_208 ?_
    refine Wm.topl (fun x1653 _ => ?_)
    refine t_last F (len := 5) (j := 1) e_X2_payAndWriteOff_209 (fun _ => o18) h1647 k1651 (by decide) (by unfold vp_in; decide) (by decide) (fun σ1654 h1655 g1656 => ?_)
    refine m_aload_n F rfl e_X2_payAndWriteOff_210 ?_
    refine t_getC F e_X2_payAndWriteOff_211 fl_X2_189 (fun _ => o15) h1655 k902 ((g1656 r902 17 (fun e => absurd ((k902).symm.trans e) (by decide))).trans f1649) ?_
    refine m_iconst F (v := 2) (by decide) e_X2_payAndWriteOff_214 ?_
    refine m_dup2_11 F rfl rfl e_X2_payAndWriteOff_215 ?_
    refine t_lald F (len := 5) (j := 2) e_X2_payAndWriteOff_216 (fun _ => o18) h1655 k1651 (by decide) (by unfold vp_in; decide) (fun x1657 => ?_)
    refine m_lload F rfl e_X2_payAndWriteOff_217 ?_
    refine m_ladd F e_X2_payAndWriteOff_219 ?_
    refine Wm.topl (fun x1658 _ => ?_)
    refine t_last F (len := 5) (j := 2) e_X2_payAndWriteOff_220 (fun _ => o18) h1655 k1651 (by decide) (by unfold vp_in; decide) (by decide) (fun σ1659 h1660 g1661 => ?_)
    refine m_aload_n F rfl e_X2_payAndWriteOff_221 ?_
    refine m_dup F rfl e_X2_payAndWriteOff_222 ?_
    refine t_getC F e_X2_payAndWriteOff_223 fl_X2_212 (fun _ => o15) h1660 k902 ((g1661 r902 8 (fun e => absurd ((k902).symm.trans e) (by decide))).trans ((g1656 r902 8 (fun e => absurd ((k902).symm.trans e) (by decide))).trans ((fld_eq (h1648.2 r902 (by rw [show kA _ r902 = 15 from k902]; decide))).trans ((fld_eq (h1645.2 r902 (by rw [show kA _ r902 = 15 from k902]; decide))).trans ((fld_eq (h1642.2 r902 (by rw [show kA _ r902 = 15 from k902]; decide))).trans ((fld_eq (h1638.2 r902 (by rw [show kA _ r902 = 15 from k902]; decide))).trans ((fld_eq (h1635.2 r902 (by rw [show kA _ r902 = 15 from k902]; decide))).trans ((fld_eq (h1631.2 r902 (by rw [show kA _ r902 = 15 from k902]; decide))).trans ((fld_eq (h1623.2 r902 (by rw [show kA _ r902 = 15 from k902]; decide))).trans ((fld_eq (h1619.2 r902 (by rw [show kA _ r902 = 15 from k902]; decide))).trans ((fld_eq (h1616.2 r902 (by rw [show kA _ r902 = 15 from k902]; decide))).trans ((fld_eq (h1612.2 r902 (by rw [show kA _ r902 = 15 from k902]; decide))).trans ((fld_eq (h1606.2 r902 (by rw [show kA _ r902 = 15 from k902]; decide))).trans ((fld_eq (h1600.2 r902 (by rw [show kA _ r902 = 15 from k902]; decide))).trans ((fld_eq (h1596.2 r902 (by rw [show kA _ r902 = 15 from k902]; decide))).trans ((fld_eq (h1589.2 r902 (by rw [show kA _ r902 = 15 from k902]; decide))).trans ((fld_eq (h1586.2 r902 (by rw [show kA _ r902 = 15 from k902]; decide))).trans ((fld_eq (h1580.2 r902 (by rw [show kA _ r902 = 15 from k902]; decide))).trans ((fld_eq (h1574.2 r902 (by rw [show kA _ r902 = 15 from k902]; decide))).trans f1567))))))))))))))))))) ?_
    refine m_iconst F (v := 1) (by decide) e_X2_payAndWriteOff_226 ?_
    refine m_iadd F e_X2_payAndWriteOff_227 ?_
    refine Wm.top (fun x1662 _ => ?_)
    refine t_put F e_X2_payAndWriteOff_228 fp_X2_212 (fun _ => o15) h1660 k902 rfl ⟨_, rfl⟩ rfl rfl (by decide) (fun σ1663 h1664 g1665 g1666 f1667 => ?_)
    refine m_aload_n F rfl e_X2_payAndWriteOff_231 ?_
    refine t_getC F e_X2_payAndWriteOff_232 fl_X2_212 (fun _ => o15) h1664 k902 (f1667) ?_
    refine m_aload_n F rfl e_X2_payAndWriteOff_235 ?_
    refine t_get F e_X2_payAndWriteOff_236 fl_X2_232 (fun _ => o15) h1664 k902 rfl (fun v hv f1668 => ?_)
    obtain ⟨x1669, rfl⟩ := hv
    refine m_icmp_lt F e_X2_payAndWriteOff_239 (fun q239 => ?_) (fun q239 => ?_)
    · exact m_vret F hQ e_X2_payAndWriteOff_247 (⟨h1664, rfl⟩)
    · refine m_aload_n F rfl e_X2_payAndWriteOff_242 ?_
      refine m_iconst F (v := 2) (by decide) e_X2_payAndWriteOff_243 ?_
      refine t_put F e_X2_payAndWriteOff_244 fp_X2_129 (fun _ => o15) h1664 k902 rfl ⟨_, rfl⟩ rfl rfl (by decide) (fun σ1670 h1671 g1672 g1673 f1674 => ?_)
      exact m_vret F hQ e_X2_payAndWriteOff_247 (⟨h1671, rfl⟩)
  · exact m_vret F hQ e_X2_payAndWriteOff_10 (⟨(h1560.mono (M' := M + 1) (Z' := Z) (by omega) (by intro e; first | rfl | assumption | omega)), rfl⟩)
set_option maxRecDepth 20000 in
theorem s_X2_remeasure (l : Launch) (V : VX) (b M Z T N : Nat) (σ : Mem) (a : Nat) (x901 : Int32) (r902 : Nat) (h0 : HT V (b, M, Z, T) σ) (hk : kA b a = 7) (k902 : kA b r902 = 15) (hM : M + 1 ≤ 1000000000) : Ct l V yX2_remeasure cX2_remeasure 7 (some .long) 4 0 0 N σ [.ref a, .int x901, .ref r902] (fun r τ => HK V (b, M + 1, Z, T) [0, 1, 3, 7, 15, 19] σ τ ∧ ∃ x : Int64, r = some (.long x)) := by
  refine Ct.of (by decide) (Nat.le_of_ble_eq_true rfl) [(0, .ref a), (1, .int x901), (2, .ref r902)] rfl (fun X hX F hQ => ?_)
  have h1 : HK V (b, M, Z, T) [0, 1, 3, 7, 15, 19] σ σ := HK.start h0
  refine m_aload_n F rfl e_X2_remeasure_0 ?_
  refine m_aload_n F rfl e_X2_remeasure_1 ?_
  refine t_get F e_X2_remeasure_2 fl_X2_212 (fun _ => o15) h1 k902 rfl (fun v hv f1675 => ?_)
  obtain ⟨x1676, rfl⟩ := hv
  refine m_aload_n F rfl e_X2_remeasure_5 ?_
  refine t_get F e_X2_remeasure_6 fl_X2_123 (fun _ => o15) h1 k902 rfl (fun v hv f1677 => ?_)
  obtain ⟨x1678, rfl⟩ := hv
  refine m_aload_n F rfl e_X2_remeasure_9 ?_
  refine t_get F e_X2_remeasure_10 fl_X2_47 (fun _ => o7) h1 hk rfl (fun v hv f1679 => ?_)
  obtain ⟨r1680, k1681, rfl⟩ := hv
  refine t_callV F e_X2_remeasure_13 (s_X5_worthFrom (x_l X) V b M Z T _ _ r902 x1676 x1678 r1680 h1.1 k902 k1681 (by omega)) cb_X5_worthFrom ml_X2_174 im_X5_worthFrom se_X5_worthFrom (fun _ => o15) h1 k902 rfl rfl (rest := []) rfl (Nat.le_of_ble_eq_true rfl) ⟨Nat.le_of_ble_eq_true rfl, Nat.le_of_ble_eq_true rfl⟩ ⟨Nat.le_of_ble_eq_true rfl, Nat.le_of_ble_eq_true rfl⟩ (fun r σ1682 hp => ?_)
  obtain ⟨h1684, rfl⟩ := hp
  have h1683 := HK.trans h1 h1684 (by decide)
  refine m_aload_n F rfl e_X2_remeasure_16 ?_
  refine t_getC F e_X2_remeasure_17 fl_X2_47 (fun _ => o7) h1683 hk ((fld_eq (h1684.2 a (by rw [show kA _ a = 7 from hk]; decide))).trans f1679) ?_
  refine t_callV F e_X2_remeasure_20 (s_X1_asLong (x_l X) V b M Z T _ _ r1680  h1683.1 k1681  (by omega)) cb_X1_asLong ml_X2_193 im_X1_asLong se_X1_asLong (fun _ => o6) h1683 k1681 rfl rfl (rest := []) rfl (Nat.le_of_ble_eq_true rfl) ⟨Nat.le_of_ble_eq_true rfl, Nat.le_of_ble_eq_true rfl⟩ ⟨Nat.le_of_ble_eq_true rfl, Nat.le_of_ble_eq_true rfl⟩ (fun r σ1685 hp => ?_)
  obtain ⟨h1687, x1688, rfl⟩ := hp
  have h1686 := HK.trans h1683 h1687 (by decide)
  refine m_aload_n F rfl e_X2_remeasure_23 ?_
  refine t_get F e_X2_remeasure_24 fl_X2_136 (fun _ => o15) h1686 k902 rfl (fun v hv f1689 => ?_)
  obtain ⟨r1690, k1691, rfl⟩ := hv
  refine t_callV F e_X2_remeasure_27 (s_X1_asLong (x_l X) V b M Z T _ _ r1690  h1686.1 k1691  (by omega)) cb_X1_asLong ml_X2_193 im_X1_asLong se_X1_asLong (fun _ => o6) h1686 k1691 rfl rfl (rest := [.long x1688]) rfl (Nat.le_of_ble_eq_true rfl) ⟨Nat.le_of_ble_eq_true rfl, Nat.le_of_ble_eq_true rfl⟩ ⟨Nat.le_of_ble_eq_true rfl, Nat.le_of_ble_eq_true rfl⟩ (fun r σ1692 hp => ?_)
  obtain ⟨h1694, x1695, rfl⟩ := hp
  have h1693 := HK.trans h1686 h1694 (by decide)
  refine m_lsub F e_X2_remeasure_30 ?_
  refine Wm.topl (fun x1696 _ => ?_)
  refine m_lstore_n F (lv' := [(3, .long x1696), (0, .ref a), (1, .int x901), (2, .ref r902)]) e_X2_remeasure_31 (by decide) rfl ?_
  refine m_aload_n F rfl e_X2_remeasure_32 ?_
  refine t_get F e_X2_remeasure_33 fl_X2_178 (fun _ => o15) h1693 k902 rfl (fun v hv f1697 => ?_)
  obtain ⟨r1698, k1699, rfl⟩ := hv
  refine t_callV F e_X2_remeasure_36 (s_X1_asLong (x_l X) V b M Z T _ _ r1698  h1693.1 k1699  (by omega)) cb_X1_asLong ml_X2_193 im_X1_asLong se_X1_asLong (fun _ => o6) h1693 k1699 rfl rfl (rest := []) rfl (Nat.le_of_ble_eq_true rfl) ⟨Nat.le_of_ble_eq_true rfl, Nat.le_of_ble_eq_true rfl⟩ ⟨Nat.le_of_ble_eq_true rfl, Nat.le_of_ble_eq_true rfl⟩ (fun r σ1700 hp => ?_)
  obtain ⟨h1702, x1703, rfl⟩ := hp
  have h1701 := HK.trans h1693 h1702 (by decide)
  refine m_lneg F e_X2_remeasure_39 ?_
  refine Wm.topl (fun x1704 _ => ?_)
  refine m_lstore F (lv' := [(5, .long x1704), (3, .long x1696), (0, .ref a), (1, .int x901), (2, .ref r902)]) e_X2_remeasure_40 (by decide) rfl ?_
  refine m_aload_n F rfl e_X2_remeasure_42 ?_
  refine t_getC F e_X2_remeasure_43 fl_X2_178 (fun _ => o15) h1701 k902 ((fld_eq (h1702.2 r902 (by rw [show kA _ r902 = 15 from k902]; decide))).trans f1697) ?_
  refine m_aload_n F rfl e_X2_remeasure_46 ?_
  refine t_getC F e_X2_remeasure_47 fl_X2_47 (fun _ => o7) h1701 hk ((fld_eq (h1702.2 a (by rw [show kA _ a = 7 from hk]; decide))).trans ((fld_eq (h1694.2 a (by rw [show kA _ a = 7 from hk]; decide))).trans ((fld_eq (h1687.2 a (by rw [show kA _ a = 7 from hk]; decide))).trans ((fld_eq (h1684.2 a (by rw [show kA _ a = 7 from hk]; decide))).trans f1679)))) ?_
  refine t_callV F e_X2_remeasure_50 (s_X1_add (x_l X) V b M Z T _ _ r1698 r1680 h1701.1 k1699 k1681 (by omega)) cb_X1_add ml_X2_139 im_X1_add se_X1_add (fun _ => o6) h1701 k1699 rfl rfl (rest := []) rfl (Nat.le_of_ble_eq_true rfl) ⟨Nat.le_of_ble_eq_true rfl, Nat.le_of_ble_eq_true rfl⟩ ⟨Nat.le_of_ble_eq_true rfl, Nat.le_of_ble_eq_true rfl⟩ (fun r σ1705 hp => ?_)
  obtain ⟨h1707, rfl⟩ := hp
  have h1706 := HK.trans h1701 h1707 (by decide)
  refine m_aload_n F rfl e_X2_remeasure_53 ?_
  refine t_getC F e_X2_remeasure_54 fl_X2_178 (fun _ => o15) h1706 k902 ((fld_eq (h1707.2 r902 (by rw [show kA _ r902 = 15 from k902]; decide))).trans ((fld_eq (h1702.2 r902 (by rw [show kA _ r902 = 15 from k902]; decide))).trans f1697)) ?_
  refine m_aload_n F rfl e_X2_remeasure_57 ?_
  refine t_getC F e_X2_remeasure_58 fl_X2_136 (fun _ => o15) h1706 k902 ((fld_eq (h1707.2 r902 (by rw [show kA _ r902 = 15 from k902]; decide))).trans ((fld_eq (h1702.2 r902 (by rw [show kA _ r902 = 15 from k902]; decide))).trans ((fld_eq (h1694.2 r902 (by rw [show kA _ r902 = 15 from k902]; decide))).trans f1689))) ?_
  refine t_callV F e_X2_remeasure_61 (s_X1_subtract (x_l X) V b M Z T _ _ r1698 r1690 h1706.1 k1699 k1691 (by omega)) cb_X1_subtract ml_X2_229 im_X1_subtract se_X1_subtract (fun _ => o6) h1706 k1699 rfl rfl (rest := []) rfl (Nat.le_of_ble_eq_true rfl) ⟨Nat.le_of_ble_eq_true rfl, Nat.le_of_ble_eq_true rfl⟩ ⟨Nat.le_of_ble_eq_true rfl, Nat.le_of_ble_eq_true rfl⟩ (fun r σ1708 hp => ?_)
  obtain ⟨h1710, rfl⟩ := hp
  have h1709 := HK.trans h1706 h1710 (by decide)
  refine m_aload_n F rfl e_X2_remeasure_64 ?_
  refine t_getC F e_X2_remeasure_65 fl_X2_178 (fun _ => o15) h1709 k902 ((fld_eq (h1710.2 r902 (by rw [show kA _ r902 = 15 from k902]; decide))).trans ((fld_eq (h1707.2 r902 (by rw [show kA _ r902 = 15 from k902]; decide))).trans ((fld_eq (h1702.2 r902 (by rw [show kA _ r902 = 15 from k902]; decide))).trans f1697))) ?_
  refine t_callV F e_X2_remeasure_68 (s_X1_holdToZero (x_l X) V b M Z T _ _ r1698  h1709.1 k1699  (by omega)) cb_X1_holdToZero ml_X2_235 im_X1_holdToZero se_X1_holdToZero (fun _ => o6) h1709 k1699 rfl rfl (rest := []) rfl (Nat.le_of_ble_eq_true rfl) ⟨Nat.le_of_ble_eq_true rfl, Nat.le_of_ble_eq_true rfl⟩ ⟨Nat.le_of_ble_eq_true rfl, Nat.le_of_ble_eq_true rfl⟩ (fun r σ1711 hp => ?_)
  obtain ⟨h1713, rfl⟩ := hp
  have h1712 := HK.trans h1709 h1713 (by decide)
  refine m_lload F rfl e_X2_remeasure_71 ?_
  refine m_aload_n F rfl e_X2_remeasure_73 ?_
  refine t_getC F e_X2_remeasure_74 fl_X2_178 (fun _ => o15) h1712 k902 ((fld_eq (h1713.2 r902 (by rw [show kA _ r902 = 15 from k902]; decide))).trans ((fld_eq (h1710.2 r902 (by rw [show kA _ r902 = 15 from k902]; decide))).trans ((fld_eq (h1707.2 r902 (by rw [show kA _ r902 = 15 from k902]; decide))).trans ((fld_eq (h1702.2 r902 (by rw [show kA _ r902 = 15 from k902]; decide))).trans f1697)))) ?_
  refine t_callV F e_X2_remeasure_77 (s_X1_asLong (x_l X) V b M Z T _ _ r1698  h1712.1 k1699  (by omega)) cb_X1_asLong ml_X2_193 im_X1_asLong se_X1_asLong (fun _ => o6) h1712 k1699 rfl rfl (rest := [.long x1704]) rfl (Nat.le_of_ble_eq_true rfl) ⟨Nat.le_of_ble_eq_true rfl, Nat.le_of_ble_eq_true rfl⟩ ⟨Nat.le_of_ble_eq_true rfl, Nat.le_of_ble_eq_true rfl⟩ (fun r σ1714 hp => ?_)
  obtain ⟨h1716, x1717, rfl⟩ := hp
  have h1715 := HK.trans h1712 h1716 (by decide)
  refine m_ladd F e_X2_remeasure_80 ?_
  refine Wm.topl (fun x1718 _ => ?_)
  refine m_lstore F (lv' := [(5, .long x1718), (3, .long x1696), (0, .ref a), (1, .int x901), (2, .ref r902)]) e_X2_remeasure_81 (by decide) rfl ?_
  refine m_aload_n F rfl e_X2_remeasure_83 ?_
  refine t_getC F e_X2_remeasure_84 fl_X2_136 (fun _ => o15) h1715 k902 ((fld_eq (h1716.2 r902 (by rw [show kA _ r902 = 15 from k902]; decide))).trans ((fld_eq (h1713.2 r902 (by rw [show kA _ r902 = 15 from k902]; decide))).trans ((fld_eq (h1710.2 r902 (by rw [show kA _ r902 = 15 from k902]; decide))).trans ((fld_eq (h1707.2 r902 (by rw [show kA _ r902 = 15 from k902]; decide))).trans ((fld_eq (h1702.2 r902 (by rw [show kA _ r902 = 15 from k902]; decide))).trans ((fld_eq (h1694.2 r902 (by rw [show kA _ r902 = 15 from k902]; decide))).trans f1689)))))) ?_
  refine m_aload_n F rfl e_X2_remeasure_87 ?_
  refine t_getC F e_X2_remeasure_88 fl_X2_47 (fun _ => o7) h1715 hk ((fld_eq (h1716.2 a (by rw [show kA _ a = 7 from hk]; decide))).trans ((fld_eq (h1713.2 a (by rw [show kA _ a = 7 from hk]; decide))).trans ((fld_eq (h1710.2 a (by rw [show kA _ a = 7 from hk]; decide))).trans ((fld_eq (h1707.2 a (by rw [show kA _ a = 7 from hk]; decide))).trans ((fld_eq (h1702.2 a (by rw [show kA _ a = 7 from hk]; decide))).trans ((fld_eq (h1694.2 a (by rw [show kA _ a = 7 from hk]; decide))).trans ((fld_eq (h1687.2 a (by rw [show kA _ a = 7 from hk]; decide))).trans ((fld_eq (h1684.2 a (by rw [show kA _ a = 7 from hk]; decide))).trans f1679)))))))) ?_
  refine t_callV F e_X2_remeasure_91 (s_X1_copyFrom (x_l X) V b M Z T _ _ r1690 r1680 h1715.1 k1691 k1681 (by omega)) cb_X1_copyFrom ml_X2_181 im_X1_copyFrom se_X1_copyFrom (fun _ => o6) h1715 k1691 rfl rfl (rest := []) rfl (Nat.le_of_ble_eq_true rfl) ⟨Nat.le_of_ble_eq_true rfl, Nat.le_of_ble_eq_true rfl⟩ ⟨Nat.le_of_ble_eq_true rfl, Nat.le_of_ble_eq_true rfl⟩ (fun r σ1719 hp => ?_)
  obtain ⟨h1721, rfl⟩ := hp
  have h1720 := HK.trans h1715 h1721 (by decide)
  refine m_aload_n F rfl e_X2_remeasure_94 ?_
  refine t_get F e_X2_remeasure_95 fl_X2_33 (fun _ => o7) h1720 hk rfl (fun v hv f1722 => ?_)
  obtain ⟨r1723, k1724, rfl⟩ := hv
  refine m_iconst F (v := 2) (by decide) e_X2_remeasure_98 ?_
  refine m_aload_n F rfl e_X2_remeasure_99 ?_
  refine t_get F e_X2_remeasure_100 fl_X2_68 (fun _ => o7) h1720 hk rfl (fun v hv f1725 => ?_)
  obtain ⟨n1726, hn1726, rfl⟩ := hv
  replace hn1726 : n1726 ≤ M := hn1726
  refine m_iload_n F rfl e_X2_remeasure_103 ?_
  refine t_callV F e_X2_remeasure_104 (s_X3_open (x_l X) V b M Z T _ _ r1723 2 (nI n1726) x901 h1720.1 k1724  (by omega)) cb_X3_open ml_X2_197 im_X3_open se_X3_open (fun _ => o12) h1720 k1724 rfl rfl (rest := []) rfl (Nat.le_of_ble_eq_true rfl) ⟨Nat.le_of_ble_eq_true rfl, Nat.le_of_ble_eq_true rfl⟩ ⟨Nat.le_of_ble_eq_true rfl, Nat.le_of_ble_eq_true rfl⟩ (fun r σ1727 hp => ?_)
  obtain ⟨h1729, rfl⟩ := hp
  have h1728 := HK.trans h1720 h1729 (by decide)
  refine m_aload_n F rfl e_X2_remeasure_107 ?_
  refine t_getC F e_X2_remeasure_108 fl_X2_33 (fun _ => o7) h1728 hk ((fld_eq (h1729.2 a (by rw [show kA _ a = 7 from hk]; decide))).trans f1722) ?_
  refine m_iconst F (v := 1) (by decide) e_X2_remeasure_111 ?_
  refine m_lload_n F rfl e_X2_remeasure_112 ?_
  refine m_lneg F e_X2_remeasure_113 ?_
  refine Wm.topl (fun x1730 _ => ?_)
  refine t_callV F e_X2_remeasure_114 (s_X3_put (x_l X) V b (M + 1) Z T _ _ r1723 1 x1730 h1728.1 k1724  (by omega)) cb_X3_put ml_X2_201 im_X3_put se_X3_put (fun _ => o12) h1728 k1724 rfl rfl (rest := []) rfl (Nat.le_of_ble_eq_true rfl) ⟨Nat.le_of_ble_eq_true rfl, Nat.le_of_ble_eq_true rfl⟩ ⟨Nat.le_of_ble_eq_true rfl, Nat.le_of_ble_eq_true rfl⟩ (fun r σ1731 hp => ?_)
  obtain ⟨h1733, rfl⟩ := hp
  have h1732 := HK.trans h1728 h1733 (by decide)
  refine m_aload_n F rfl e_X2_remeasure_117 ?_
  refine t_getC F e_X2_remeasure_118 fl_X2_33 (fun _ => o7) h1732 hk ((fld_eq (h1733.2 a (by rw [show kA _ a = 7 from hk]; decide))).trans ((fld_eq (h1729.2 a (by rw [show kA _ a = 7 from hk]; decide))).trans f1722)) ?_
  refine m_iconst F (v := 2) (by decide) e_X2_remeasure_121 ?_
  refine m_lload F rfl e_X2_remeasure_122 ?_
  refine t_callV F e_X2_remeasure_124 (s_X3_put (x_l X) V b (M + 1) Z T _ _ r1723 2 x1718 h1732.1 k1724  (by omega)) cb_X3_put ml_X2_201 im_X3_put se_X3_put (fun _ => o12) h1732 k1724 rfl rfl (rest := []) rfl (Nat.le_of_ble_eq_true rfl) ⟨Nat.le_of_ble_eq_true rfl, Nat.le_of_ble_eq_true rfl⟩ ⟨Nat.le_of_ble_eq_true rfl, Nat.le_of_ble_eq_true rfl⟩ (fun r σ1734 hp => ?_)
  obtain ⟨h1736, rfl⟩ := hp
  have h1735 := HK.trans h1732 h1736 (by decide)
  refine m_aload_n F rfl e_X2_remeasure_127 ?_
  refine t_getC F e_X2_remeasure_128 fl_X2_33 (fun _ => o7) h1735 hk ((fld_eq (h1736.2 a (by rw [show kA _ a = 7 from hk]; decide))).trans ((fld_eq (h1733.2 a (by rw [show kA _ a = 7 from hk]; decide))).trans ((fld_eq (h1729.2 a (by rw [show kA _ a = 7 from hk]; decide))).trans f1722))) ?_
  refine m_iconst F (v := 5) (by decide) e_X2_remeasure_131 ?_
  refine m_lload_n F rfl e_X2_remeasure_132 ?_
  refine m_lload F rfl e_X2_remeasure_133 ?_
  refine m_lsub F e_X2_remeasure_135 ?_
  refine Wm.topl (fun x1737 _ => ?_)
  refine t_callV F e_X2_remeasure_136 (s_X3_put (x_l X) V b (M + 1) Z T _ _ r1723 5 x1737 h1735.1 k1724  (by omega)) cb_X3_put ml_X2_201 im_X3_put se_X3_put (fun _ => o12) h1735 k1724 rfl rfl (rest := []) rfl (Nat.le_of_ble_eq_true rfl) ⟨Nat.le_of_ble_eq_true rfl, Nat.le_of_ble_eq_true rfl⟩ ⟨Nat.le_of_ble_eq_true rfl, Nat.le_of_ble_eq_true rfl⟩ (fun r σ1738 hp => ?_)
  obtain ⟨h1740, rfl⟩ := hp
  have h1739 := HK.trans h1735 h1740 (by decide)
  refine m_aload_n F rfl e_X2_remeasure_139 ?_
  refine t_get F e_X2_remeasure_140 fl_X2_189 (fun _ => o15) h1739 k902 rfl (fun v hv f1741 => ?_)
  obtain ⟨r1742, k1743, rfl⟩ := hv
  refine m_iconst F (v := 3) (by decide) e_X2_remeasure_143 ?_
  refine m_dup2_11 F rfl rfl e_X2_remeasure_144 ?_
  refine t_lald F (len := 5) (j := 3) e_X2_remeasure_145 (fun _ => o18) h1739 k1743 (by decide) (by unfold vp_in; decide) (fun x1744 => ?_)
  refine m_lload_n F rfl e_X2_remeasure_146 ?_
  refine m_ladd F e_X2_remeasure_147 ?_
  refine Wm.topl (fun x1745 _ => ?_)
  refine t_last F (len := 5) (j := 3) e_X2_remeasure_148 (fun _ => o18) h1739 k1743 (by decide) (by unfold vp_in; decide) (by decide) (fun σ1746 h1747 g1748 => ?_)
  refine m_lload_n F rfl e_X2_remeasure_149 ?_
  exact m_lret F hQ e_X2_remeasure_150 (⟨h1747, _, rfl⟩)
set_option maxRecDepth 20000 in
theorem s_X2_giveBack (l : Launch) (V : VX) (b M Z T N : Nat) (σ : Mem) (a : Nat) (x901 : Int32) (r902 : Nat) (x903 : Int64) (x904 : Int32) (h0 : HT V (b, M, Z, T) σ) (hk : kA b a = 7) (k902 : kA b r902 = 15) (hM : M + 1 ≤ 1000000000) : Ct l V yX2_giveBack cX2_giveBack 12 (some .long) 4 0 0 N σ [.ref a, .int x901, .ref r902, .long x903, .int x904] (fun r τ => HK V (b, M + 1, Z, T) [0, 1, 3, 7, 15, 19] σ τ ∧ ∃ x : Int64, r = some (.long x)) := by
  refine Ct.of (by decide) (Nat.le_of_ble_eq_true rfl) [(0, .ref a), (1, .int x901), (2, .ref r902), (3, .long x903), (5, .int x904)] rfl (fun X hX F hQ => ?_)
  have h1 : HK V (b, M, Z, T) [0, 1, 3, 7, 15, 19] σ σ := HK.start h0
  refine m_aload_n F rfl e_X2_giveBack_0 ?_
  refine t_get F e_X2_giveBack_1 fl_X2_47 (fun _ => o7) h1 hk rfl (fun v hv f1749 => ?_)
  obtain ⟨r1750, k1751, rfl⟩ := hv
  refine m_aload_n F rfl e_X2_giveBack_4 ?_
  refine t_get F e_X2_giveBack_5 fl_X2_136 (fun _ => o15) h1 k902 rfl (fun v hv f1752 => ?_)
  obtain ⟨r1753, k1754, rfl⟩ := hv
  refine t_callV F e_X2_giveBack_8 (s_X1_copyFrom (x_l X) V b M Z T _ _ r1750 r1753 h1.1 k1751 k1754 (by omega)) cb_X1_copyFrom ml_X2_181 im_X1_copyFrom se_X1_copyFrom (fun _ => o6) h1 k1751 rfl rfl (rest := []) rfl (Nat.le_of_ble_eq_true rfl) ⟨Nat.le_of_ble_eq_true rfl, Nat.le_of_ble_eq_true rfl⟩ ⟨Nat.le_of_ble_eq_true rfl, Nat.le_of_ble_eq_true rfl⟩ (fun r σ1755 hp => ?_)
  obtain ⟨h1757, rfl⟩ := hp
  have h1756 := HK.trans h1 h1757 (by decide)
  refine m_aload_n F rfl e_X2_giveBack_11 ?_
  refine t_getC F e_X2_giveBack_12 fl_X2_47 (fun _ => o7) h1756 hk ((fld_eq (h1757.2 a (by rw [show kA _ a = 7 from hk]; decide))).trans f1749) ?_
  refine m_lload_n F rfl e_X2_giveBack_15 ?_
  refine m_ldc2 F kc_X2_238 e_X2_giveBack_16 ?_
  refine t_callV F e_X2_giveBack_19 (s_X1_shareDown (x_l X) V b M Z T _ _ r1750 x903 1000 h1756.1 k1751  (by omega)) cb_X1_shareDown ml_X2_225 im_X1_shareDown se_X1_shareDown (fun _ => o6) h1756 k1751 rfl rfl (rest := []) rfl (Nat.le_of_ble_eq_true rfl) ⟨Nat.le_of_ble_eq_true rfl, Nat.le_of_ble_eq_true rfl⟩ ⟨Nat.le_of_ble_eq_true rfl, Nat.le_of_ble_eq_true rfl⟩ (fun r σ1758 hp => ?_)
  obtain ⟨h1760, rfl⟩ := hp
  have h1759 := HK.trans h1756 h1760 (by decide)
  refine m_aload_n F rfl e_X2_giveBack_22 ?_
  refine t_getC F e_X2_giveBack_23 fl_X2_136 (fun _ => o15) h1759 k902 ((fld_eq (h1760.2 r902 (by rw [show kA _ r902 = 15 from k902]; decide))).trans ((fld_eq (h1757.2 r902 (by rw [show kA _ r902 = 15 from k902]; decide))).trans f1752)) ?_
  refine m_aload_n F rfl e_X2_giveBack_26 ?_
  refine t_getC F e_X2_giveBack_27 fl_X2_47 (fun _ => o7) h1759 hk ((fld_eq (h1760.2 a (by rw [show kA _ a = 7 from hk]; decide))).trans ((fld_eq (h1757.2 a (by rw [show kA _ a = 7 from hk]; decide))).trans f1749)) ?_
  refine t_callV F e_X2_giveBack_30 (s_X1_subtract (x_l X) V b M Z T _ _ r1753 r1750 h1759.1 k1754 k1751 (by omega)) cb_X1_subtract ml_X2_229 im_X1_subtract se_X1_subtract (fun _ => o6) h1759 k1754 rfl rfl (rest := []) rfl (Nat.le_of_ble_eq_true rfl) ⟨Nat.le_of_ble_eq_true rfl, Nat.le_of_ble_eq_true rfl⟩ ⟨Nat.le_of_ble_eq_true rfl, Nat.le_of_ble_eq_true rfl⟩ (fun r σ1761 hp => ?_)
  obtain ⟨h1763, rfl⟩ := hp
  have h1762 := HK.trans h1759 h1763 (by decide)
  refine m_aload_n F rfl e_X2_giveBack_33 ?_
  refine t_getC F e_X2_giveBack_34 fl_X2_47 (fun _ => o7) h1762 hk ((fld_eq (h1763.2 a (by rw [show kA _ a = 7 from hk]; decide))).trans ((fld_eq (h1760.2 a (by rw [show kA _ a = 7 from hk]; decide))).trans ((fld_eq (h1757.2 a (by rw [show kA _ a = 7 from hk]; decide))).trans f1749))) ?_
  refine t_callV F e_X2_giveBack_37 (s_X1_asLong (x_l X) V b M Z T _ _ r1750  h1762.1 k1751  (by omega)) cb_X1_asLong ml_X2_193 im_X1_asLong se_X1_asLong (fun _ => o6) h1762 k1751 rfl rfl (rest := []) rfl (Nat.le_of_ble_eq_true rfl) ⟨Nat.le_of_ble_eq_true rfl, Nat.le_of_ble_eq_true rfl⟩ ⟨Nat.le_of_ble_eq_true rfl, Nat.le_of_ble_eq_true rfl⟩ (fun r σ1764 hp => ?_)
  obtain ⟨h1766, x1767, rfl⟩ := hp
  have h1765 := HK.trans h1762 h1766 (by decide)
  refine m_lstore F (lv' := [(6, .long x1767), (0, .ref a), (1, .int x901), (2, .ref r902), (3, .long x903), (5, .int x904)]) e_X2_giveBack_40 (by decide) rfl ?_
  refine m_aload_n F rfl e_X2_giveBack_42 ?_
  refine t_getC F e_X2_giveBack_43 fl_X2_47 (fun _ => o7) h1765 hk ((fld_eq (h1766.2 a (by rw [show kA _ a = 7 from hk]; decide))).trans ((fld_eq (h1763.2 a (by rw [show kA _ a = 7 from hk]; decide))).trans ((fld_eq (h1760.2 a (by rw [show kA _ a = 7 from hk]; decide))).trans ((fld_eq (h1757.2 a (by rw [show kA _ a = 7 from hk]; decide))).trans f1749)))) ?_
  refine m_aload_n F rfl e_X2_giveBack_46 ?_
  refine t_get F e_X2_giveBack_47 fl_X2_178 (fun _ => o15) h1765 k902 rfl (fun v hv f1768 => ?_)
  obtain ⟨r1769, k1770, rfl⟩ := hv
  refine t_callV F e_X2_giveBack_50 (s_X1_copyFrom (x_l X) V b M Z T _ _ r1750 r1769 h1765.1 k1751 k1770 (by omega)) cb_X1_copyFrom ml_X2_181 im_X1_copyFrom se_X1_copyFrom (fun _ => o6) h1765 k1751 rfl rfl (rest := []) rfl (Nat.le_of_ble_eq_true rfl) ⟨Nat.le_of_ble_eq_true rfl, Nat.le_of_ble_eq_true rfl⟩ ⟨Nat.le_of_ble_eq_true rfl, Nat.le_of_ble_eq_true rfl⟩ (fun r σ1771 hp => ?_)
  obtain ⟨h1773, rfl⟩ := hp
  have h1772 := HK.trans h1765 h1773 (by decide)
  refine m_aload_n F rfl e_X2_giveBack_53 ?_
  refine t_getC F e_X2_giveBack_54 fl_X2_47 (fun _ => o7) h1772 hk ((fld_eq (h1773.2 a (by rw [show kA _ a = 7 from hk]; decide))).trans ((fld_eq (h1766.2 a (by rw [show kA _ a = 7 from hk]; decide))).trans ((fld_eq (h1763.2 a (by rw [show kA _ a = 7 from hk]; decide))).trans ((fld_eq (h1760.2 a (by rw [show kA _ a = 7 from hk]; decide))).trans ((fld_eq (h1757.2 a (by rw [show kA _ a = 7 from hk]; decide))).trans f1749))))) ?_
  refine m_lload_n F rfl e_X2_giveBack_57 ?_
  refine m_ldc2 F kc_X2_238 e_X2_giveBack_58 ?_
  refine t_callV F e_X2_giveBack_61 (s_X1_shareDown (x_l X) V b M Z T _ _ r1750 x903 1000 h1772.1 k1751  (by omega)) cb_X1_shareDown ml_X2_225 im_X1_shareDown se_X1_shareDown (fun _ => o6) h1772 k1751 rfl rfl (rest := []) rfl (Nat.le_of_ble_eq_true rfl) ⟨Nat.le_of_ble_eq_true rfl, Nat.le_of_ble_eq_true rfl⟩ ⟨Nat.le_of_ble_eq_true rfl, Nat.le_of_ble_eq_true rfl⟩ (fun r σ1774 hp => ?_)
  obtain ⟨h1776, rfl⟩ := hp
  have h1775 := HK.trans h1772 h1776 (by decide)
  refine m_aload_n F rfl e_X2_giveBack_64 ?_
  refine t_getC F e_X2_giveBack_65 fl_X2_178 (fun _ => o15) h1775 k902 ((fld_eq (h1776.2 r902 (by rw [show kA _ r902 = 15 from k902]; decide))).trans ((fld_eq (h1773.2 r902 (by rw [show kA _ r902 = 15 from k902]; decide))).trans f1768)) ?_
  refine m_aload_n F rfl e_X2_giveBack_68 ?_
  refine t_getC F e_X2_giveBack_69 fl_X2_47 (fun _ => o7) h1775 hk ((fld_eq (h1776.2 a (by rw [show kA _ a = 7 from hk]; decide))).trans ((fld_eq (h1773.2 a (by rw [show kA _ a = 7 from hk]; decide))).trans ((fld_eq (h1766.2 a (by rw [show kA _ a = 7 from hk]; decide))).trans ((fld_eq (h1763.2 a (by rw [show kA _ a = 7 from hk]; decide))).trans ((fld_eq (h1760.2 a (by rw [show kA _ a = 7 from hk]; decide))).trans ((fld_eq (h1757.2 a (by rw [show kA _ a = 7 from hk]; decide))).trans f1749)))))) ?_
  refine t_callV F e_X2_giveBack_72 (s_X1_subtract (x_l X) V b M Z T _ _ r1769 r1750 h1775.1 k1770 k1751 (by omega)) cb_X1_subtract ml_X2_229 im_X1_subtract se_X1_subtract (fun _ => o6) h1775 k1770 rfl rfl (rest := []) rfl (Nat.le_of_ble_eq_true rfl) ⟨Nat.le_of_ble_eq_true rfl, Nat.le_of_ble_eq_true rfl⟩ ⟨Nat.le_of_ble_eq_true rfl, Nat.le_of_ble_eq_true rfl⟩ (fun r σ1777 hp => ?_)
  obtain ⟨h1779, rfl⟩ := hp
  have h1778 := HK.trans h1775 h1779 (by decide)
  refine m_aload_n F rfl e_X2_giveBack_75 ?_
  refine t_getC F e_X2_giveBack_76 fl_X2_47 (fun _ => o7) h1778 hk ((fld_eq (h1779.2 a (by rw [show kA _ a = 7 from hk]; decide))).trans ((fld_eq (h1776.2 a (by rw [show kA _ a = 7 from hk]; decide))).trans ((fld_eq (h1773.2 a (by rw [show kA _ a = 7 from hk]; decide))).trans ((fld_eq (h1766.2 a (by rw [show kA _ a = 7 from hk]; decide))).trans ((fld_eq (h1763.2 a (by rw [show kA _ a = 7 from hk]; decide))).trans ((fld_eq (h1760.2 a (by rw [show kA _ a = 7 from hk]; decide))).trans ((fld_eq (h1757.2 a (by rw [show kA _ a = 7 from hk]; decide))).trans f1749))))))) ?_
  refine t_callV F e_X2_giveBack_79 (s_X1_asLong (x_l X) V b M Z T _ _ r1750  h1778.1 k1751  (by omega)) cb_X1_asLong ml_X2_193 im_X1_asLong se_X1_asLong (fun _ => o6) h1778 k1751 rfl rfl (rest := []) rfl (Nat.le_of_ble_eq_true rfl) ⟨Nat.le_of_ble_eq_true rfl, Nat.le_of_ble_eq_true rfl⟩ ⟨Nat.le_of_ble_eq_true rfl, Nat.le_of_ble_eq_true rfl⟩ (fun r σ1780 hp => ?_)
  obtain ⟨h1782, x1783, rfl⟩ := hp
  have h1781 := HK.trans h1778 h1782 (by decide)
  refine m_lstore F (lv' := [(8, .long x1783), (6, .long x1767), (0, .ref a), (1, .int x901), (2, .ref r902), (3, .long x903), (5, .int x904)]) e_X2_giveBack_82 (by decide) rfl ?_
  refine m_lload F rfl e_X2_giveBack_84 ?_
  refine m_lload F rfl e_X2_giveBack_86 ?_
  refine m_lsub F e_X2_giveBack_88 ?_
  refine Wm.topl (fun x1784 _ => ?_)
  refine m_lstore F (lv' := [(10, .long x1784), (8, .long x1783), (6, .long x1767), (0, .ref a), (1, .int x901), (2, .ref r902), (3, .long x903), (5, .int x904)]) e_X2_giveBack_89 (by decide) rfl ?_
  refine m_aload_n F rfl e_X2_giveBack_91 ?_
  refine t_get F e_X2_giveBack_92 fl_X2_33 (fun _ => o7) h1781 hk rfl (fun v hv f1785 => ?_)
  obtain ⟨r1786, k1787, rfl⟩ := hv
  refine m_iload F rfl e_X2_giveBack_95 ?_
  refine m_aload_n F rfl e_X2_giveBack_97 ?_
  refine t_get F e_X2_giveBack_98 fl_X2_68 (fun _ => o7) h1781 hk rfl (fun v hv f1788 => ?_)
  obtain ⟨n1789, hn1789, rfl⟩ := hv
  replace hn1789 : n1789 ≤ M := hn1789
  refine m_iload_n F rfl e_X2_giveBack_101 ?_
  refine t_callV F e_X2_giveBack_102 (s_X3_open (x_l X) V b M Z T _ _ r1786 x904 (nI n1789) x901 h1781.1 k1787  (by omega)) cb_X3_open ml_X2_197 im_X3_open se_X3_open (fun _ => o12) h1781 k1787 rfl rfl (rest := []) rfl (Nat.le_of_ble_eq_true rfl) ⟨Nat.le_of_ble_eq_true rfl, Nat.le_of_ble_eq_true rfl⟩ ⟨Nat.le_of_ble_eq_true rfl, Nat.le_of_ble_eq_true rfl⟩ (fun r σ1790 hp => ?_)
  obtain ⟨h1792, rfl⟩ := hp
  have h1791 := HK.trans h1781 h1792 (by decide)
  refine m_aload_n F rfl e_X2_giveBack_105 ?_
  refine t_getC F e_X2_giveBack_106 fl_X2_33 (fun _ => o7) h1791 hk ((fld_eq (h1792.2 a (by rw [show kA _ a = 7 from hk]; decide))).trans f1785) ?_
  refine m_iconst F (v := 1) (by decide) e_X2_giveBack_109 ?_
  refine m_lload F rfl e_X2_giveBack_110 ?_
  refine t_callV F e_X2_giveBack_112 (s_X3_put (x_l X) V b (M + 1) Z T _ _ r1786 1 x1767 h1791.1 k1787  (by omega)) cb_X3_put ml_X2_201 im_X3_put se_X3_put (fun _ => o12) h1791 k1787 rfl rfl (rest := []) rfl (Nat.le_of_ble_eq_true rfl) ⟨Nat.le_of_ble_eq_true rfl, Nat.le_of_ble_eq_true rfl⟩ ⟨Nat.le_of_ble_eq_true rfl, Nat.le_of_ble_eq_true rfl⟩ (fun r σ1793 hp => ?_)
  obtain ⟨h1795, rfl⟩ := hp
  have h1794 := HK.trans h1791 h1795 (by decide)
  refine m_aload_n F rfl e_X2_giveBack_115 ?_
  refine t_getC F e_X2_giveBack_116 fl_X2_33 (fun _ => o7) h1794 hk ((fld_eq (h1795.2 a (by rw [show kA _ a = 7 from hk]; decide))).trans ((fld_eq (h1792.2 a (by rw [show kA _ a = 7 from hk]; decide))).trans f1785)) ?_
  refine m_iconst F (v := 2) (by decide) e_X2_giveBack_119 ?_
  refine m_lload F rfl e_X2_giveBack_120 ?_
  refine m_lneg F e_X2_giveBack_122 ?_
  refine Wm.topl (fun x1796 _ => ?_)
  refine t_callV F e_X2_giveBack_123 (s_X3_put (x_l X) V b (M + 1) Z T _ _ r1786 2 x1796 h1794.1 k1787  (by omega)) cb_X3_put ml_X2_201 im_X3_put se_X3_put (fun _ => o12) h1794 k1787 rfl rfl (rest := []) rfl (Nat.le_of_ble_eq_true rfl) ⟨Nat.le_of_ble_eq_true rfl, Nat.le_of_ble_eq_true rfl⟩ ⟨Nat.le_of_ble_eq_true rfl, Nat.le_of_ble_eq_true rfl⟩ (fun r σ1797 hp => ?_)
  obtain ⟨h1799, rfl⟩ := hp
  have h1798 := HK.trans h1794 h1799 (by decide)
  refine m_aload_n F rfl e_X2_giveBack_126 ?_
  refine t_getC F e_X2_giveBack_127 fl_X2_33 (fun _ => o7) h1798 hk ((fld_eq (h1799.2 a (by rw [show kA _ a = 7 from hk]; decide))).trans ((fld_eq (h1795.2 a (by rw [show kA _ a = 7 from hk]; decide))).trans ((fld_eq (h1792.2 a (by rw [show kA _ a = 7 from hk]; decide))).trans f1785))) ?_
  refine m_iconst F (v := 5) (by decide) e_X2_giveBack_130 ?_
  refine m_lload F rfl e_X2_giveBack_131 ?_
  refine m_lneg F e_X2_giveBack_133 ?_
  refine Wm.topl (fun x1800 _ => ?_)
  refine t_callV F e_X2_giveBack_134 (s_X3_put (x_l X) V b (M + 1) Z T _ _ r1786 5 x1800 h1798.1 k1787  (by omega)) cb_X3_put ml_X2_201 im_X3_put se_X3_put (fun _ => o12) h1798 k1787 rfl rfl (rest := []) rfl (Nat.le_of_ble_eq_true rfl) ⟨Nat.le_of_ble_eq_true rfl, Nat.le_of_ble_eq_true rfl⟩ ⟨Nat.le_of_ble_eq_true rfl, Nat.le_of_ble_eq_true rfl⟩ (fun r σ1801 hp => ?_)
  obtain ⟨h1803, rfl⟩ := hp
  have h1802 := HK.trans h1798 h1803 (by decide)
  refine m_aload_n F rfl e_X2_giveBack_137 ?_
  refine t_get F e_X2_giveBack_138 fl_X2_189 (fun _ => o15) h1802 k902 rfl (fun v hv f1804 => ?_)
  obtain ⟨r1805, k1806, rfl⟩ := hv
  refine m_iconst F (v := 4) (by decide) e_X2_giveBack_141 ?_
  refine m_dup2_11 F rfl rfl e_X2_giveBack_142 ?_
  refine t_lald F (len := 5) (j := 4) e_X2_giveBack_143 (fun _ => o18) h1802 k1806 (by decide) (by unfold vp_in; decide) (fun x1807 => ?_)
  refine m_lload F rfl e_X2_giveBack_144 ?_
  refine m_ladd F e_X2_giveBack_146 ?_
  refine Wm.topl (fun x1808 _ => ?_)
  refine t_last F (len := 5) (j := 4) e_X2_giveBack_147 (fun _ => o18) h1802 k1806 (by decide) (by unfold vp_in; decide) (by decide) (fun σ1809 h1810 g1811 => ?_)
  refine m_lload F rfl e_X2_giveBack_148 ?_
  exact m_lret F hQ e_X2_giveBack_150 (⟨h1810, _, rfl⟩)
set_option maxRecDepth 20000 in
theorem s_X2_writeDown (l : Launch) (V : VX) (b M Z T N : Nat) (σ : Mem) (a : Nat) (x901 : Int32) (r902 : Nat) (x903 : Int64) (h0 : HT V (b, M, Z, T) σ) (hk : kA b a = 7) (k902 : kA b r902 = 15) (hM : M + 1 ≤ 1000000000) : Ct l V yX2_writeDown cX2_writeDown 5 none 4 0 0 N σ [.ref a, .int x901, .ref r902, .long x903] (fun r τ => HK V (b, M + 1, Z, T) [0, 1, 3, 7, 15, 19] σ τ ∧ r = none) := by
  refine Ct.of (by decide) (Nat.le_of_ble_eq_true rfl) [(0, .ref a), (1, .int x901), (2, .ref r902), (3, .long x903)] rfl (fun X hX F hQ => ?_)
  have h1 : HK V (b, M, Z, T) [0, 1, 3, 7, 15, 19] σ σ := HK.start h0
  refine m_aload_n F rfl e_X2_writeDown_0 ?_
  refine t_get F e_X2_writeDown_1 fl_X2_178 (fun _ => o15) h1 k902 rfl (fun v hv f1812 => ?_)
  obtain ⟨r1813, k1814, rfl⟩ := hv
  refine m_lload_n F rfl e_X2_writeDown_4 ?_
  refine m_lneg F e_X2_writeDown_5 ?_
  refine Wm.topl (fun x1815 _ => ?_)
  refine t_callV F e_X2_writeDown_6 (s_X1_addLong (x_l X) V b M Z T _ _ r1813 x1815 h1.1 k1814  (by omega)) cb_X1_addLong ml_X2_186 im_X1_addLong se_X1_addLong (fun _ => o6) h1 k1814 rfl rfl (rest := []) rfl (Nat.le_of_ble_eq_true rfl) ⟨Nat.le_of_ble_eq_true rfl, Nat.le_of_ble_eq_true rfl⟩ ⟨Nat.le_of_ble_eq_true rfl, Nat.le_of_ble_eq_true rfl⟩ (fun r σ1816 hp => ?_)
  obtain ⟨h1818, rfl⟩ := hp
  have h1817 := HK.trans h1 h1818 (by decide)
  refine m_aload_n F rfl e_X2_writeDown_9 ?_
  refine t_get F e_X2_writeDown_10 fl_X2_33 (fun _ => o7) h1817 hk rfl (fun v hv f1819 => ?_)
  obtain ⟨r1820, k1821, rfl⟩ := hv
  refine m_iconst F (v := 5) (by decide) e_X2_writeDown_13 ?_
  refine m_aload_n F rfl e_X2_writeDown_14 ?_
  refine t_get F e_X2_writeDown_15 fl_X2_68 (fun _ => o7) h1817 hk rfl (fun v hv f1822 => ?_)
  obtain ⟨n1823, hn1823, rfl⟩ := hv
  replace hn1823 : n1823 ≤ M := hn1823
  refine m_iload_n F rfl e_X2_writeDown_18 ?_
  refine t_callV F e_X2_writeDown_19 (s_X3_open (x_l X) V b M Z T _ _ r1820 5 (nI n1823) x901 h1817.1 k1821  (by omega)) cb_X3_open ml_X2_197 im_X3_open se_X3_open (fun _ => o12) h1817 k1821 rfl rfl (rest := []) rfl (Nat.le_of_ble_eq_true rfl) ⟨Nat.le_of_ble_eq_true rfl, Nat.le_of_ble_eq_true rfl⟩ ⟨Nat.le_of_ble_eq_true rfl, Nat.le_of_ble_eq_true rfl⟩ (fun r σ1824 hp => ?_)
  obtain ⟨h1826, rfl⟩ := hp
  have h1825 := HK.trans h1817 h1826 (by decide)
  refine m_aload_n F rfl e_X2_writeDown_22 ?_
  refine t_getC F e_X2_writeDown_23 fl_X2_33 (fun _ => o7) h1825 hk ((fld_eq (h1826.2 a (by rw [show kA _ a = 7 from hk]; decide))).trans f1819) ?_
  refine m_iconst F (v := 2) (by decide) e_X2_writeDown_26 ?_
  refine m_lload_n F rfl e_X2_writeDown_27 ?_
  refine m_lneg F e_X2_writeDown_28 ?_
  refine Wm.topl (fun x1827 _ => ?_)
  refine t_callV F e_X2_writeDown_29 (s_X3_put (x_l X) V b (M + 1) Z T _ _ r1820 2 x1827 h1825.1 k1821  (by omega)) cb_X3_put ml_X2_201 im_X3_put se_X3_put (fun _ => o12) h1825 k1821 rfl rfl (rest := []) rfl (Nat.le_of_ble_eq_true rfl) ⟨Nat.le_of_ble_eq_true rfl, Nat.le_of_ble_eq_true rfl⟩ ⟨Nat.le_of_ble_eq_true rfl, Nat.le_of_ble_eq_true rfl⟩ (fun r σ1828 hp => ?_)
  obtain ⟨h1830, rfl⟩ := hp
  have h1829 := HK.trans h1825 h1830 (by decide)
  refine m_aload_n F rfl e_X2_writeDown_32 ?_
  refine t_getC F e_X2_writeDown_33 fl_X2_33 (fun _ => o7) h1829 hk ((fld_eq (h1830.2 a (by rw [show kA _ a = 7 from hk]; decide))).trans ((fld_eq (h1826.2 a (by rw [show kA _ a = 7 from hk]; decide))).trans f1819)) ?_
  refine m_iconst F (v := 5) (by decide) e_X2_writeDown_36 ?_
  refine m_lload_n F rfl e_X2_writeDown_37 ?_
  refine t_callV F e_X2_writeDown_38 (s_X3_put (x_l X) V b (M + 1) Z T _ _ r1820 5 x903 h1829.1 k1821  (by omega)) cb_X3_put ml_X2_201 im_X3_put se_X3_put (fun _ => o12) h1829 k1821 rfl rfl (rest := []) rfl (Nat.le_of_ble_eq_true rfl) ⟨Nat.le_of_ble_eq_true rfl, Nat.le_of_ble_eq_true rfl⟩ ⟨Nat.le_of_ble_eq_true rfl, Nat.le_of_ble_eq_true rfl⟩ (fun r σ1831 hp => ?_)
  obtain ⟨h1833, rfl⟩ := hp
  have h1832 := HK.trans h1829 h1833 (by decide)
  exact m_vret F hQ e_X2_writeDown_41 (⟨h1832, rfl⟩)
set_option maxRecDepth 20000 in
theorem lp_X2_periodGoesBy_20 {V : VX} {X : MX} {b M Z T N : Nat} {σ : Mem} {a : Nat}   (F : Fx V X yX2_periodGoesBy cX2_periodGoesBy 3 none (rmd 5 0 0)) (hQ : Rt V X 0 0 N (fun r τ => HK V (b, M + 9, Z, T) [0, 1, 3, 19] σ τ ∧ r = none)) (hk : kA b a = 7) (hM : M + 9 ≤ 1000000000)  : ∀ (fuel : Nat) (i : Nat) (τ : Mem), HK V (b, M + 2 * i, Z, T) [0, 1, 3, 19] σ τ → i ≤ 4 → 4 - i < fuel → Wm V X 3 N τ 0 0 20 [(1, .int (nI i)), (0, .ref a)] [] := by
  intro fuel
  induction fuel with
  | zero => intro i τ h1 hi hm; exact absurd hm (Nat.not_lt_zero _)
  | succ fuel ih =>
    intro i τ h1 hi hm
    refine m_iload_n F rfl e_X2_periodGoesBy_20 ?_
    refine m_aload_n F rfl e_X2_periodGoesBy_21 ?_
    refine t_get F e_X2_periodGoesBy_22 fl_X2_58 (fun _ => o7) h1 hk rfl (fun v hv f1834 => ?_)
    obtain ⟨n1835, hn1835, rfl⟩ := hv
    replace hn1835 : n1835 ≤ 4 := hn1835
    refine m_icmp_ge F e_X2_periodGoesBy_25 (fun q25 => ?_) (fun q25 => ?_)
    · have c25 : i ≥ n1835 := (nI_leI (a := n1835) (b := i) (by omega) (by omega)).mp q25
      refine m_aload_n F rfl e_X2_periodGoesBy_123 ?_
      refine m_dup F rfl e_X2_periodGoesBy_124 ?_
      refine t_get F e_X2_periodGoesBy_125 fl_X2_68 (fun _ => o7) h1 hk rfl (fun v hv f1836 => ?_)
      obtain ⟨n1837, hn1837, rfl⟩ := hv
      replace hn1837 : n1837 ≤ M + 2 * i := hn1837
      refine m_iconst F (v := 1) (by decide) e_X2_periodGoesBy_128 ?_
      refine m_iadd F e_X2_periodGoesBy_129 ?_
      refine Wm.topE (w := nI (n1837 + 1)) (nI_add n1837 1) ?_
      have h1843 := h1.mono (M' := M + 2 * i + 1) (Z' := Z) (by omega) id
      refine t_put F e_X2_periodGoesBy_130 fp_X2_68 (fun _ => o7) h1843 hk rfl ⟨n1837 + 1, (show n1837 + 1 ≤ M + 2 * i + 1 by omega), rfl⟩ rfl rfl (by decide) (fun σ1838 h1839 g1840 g1841 f1842 => ?_)
      exact m_vret F hQ e_X2_periodGoesBy_133 (⟨(h1839.mono (M' := M + 9) (Z' := Z) (by omega) (by intro e; first | rfl | assumption | omega)), rfl⟩)
    · have c25 : i < n1835 := by have hh := mt (nI_leI (a := n1835) (b := i) (by omega) (by omega)).mpr q25; omega
      refine m_aload_n F rfl e_X2_periodGoesBy_28 ?_
      refine t_get F e_X2_periodGoesBy_29 fl_X2_11 (fun _ => o7) h1 hk rfl (fun v hv f1844 => ?_)
      obtain ⟨r1845, k1846, rfl⟩ := hv
      refine m_iload_n F rfl e_X2_periodGoesBy_32 ?_
      refine t_aald F (len := 4) (j := i) e_X2_periodGoesBy_33 (fun _ => o8) rfl h1 k1846 (nI_clamp (by omega)) (vp_in_nI (by omega) (by decide)) (fun r1847 k1848 => ?_)
      refine m_astore_n F (lv' := [(2, .ref r1847), (1, .int (nI i)), (0, .ref a)]) e_X2_periodGoesBy_34 (by decide) rfl ?_
      refine m_aload_n F rfl e_X2_periodGoesBy_35 ?_
      refine t_get F e_X2_periodGoesBy_36 fl_X2_129 (fun _ => o15) h1 k1848 rfl (fun v hv f1849 => ?_)
      obtain ⟨x1850, rfl⟩ := hv
      refine m_if_ne F e_X2_periodGoesBy_39 (fun q39 => ?_) (fun q39 => ?_)
      · refine m_aload_n F rfl e_X2_periodGoesBy_62 ?_
        refine t_getC F e_X2_periodGoesBy_63 fl_X2_129 (fun _ => o15) h1 k1848 (f1849) ?_
        refine m_iconst F (v := 1) (by decide) e_X2_periodGoesBy_66 ?_
        refine m_icmp_ne F e_X2_periodGoesBy_67 (fun q67 => ?_) (fun q67 => ?_)
        · refine m_aload_n F rfl e_X2_periodGoesBy_103 ?_
          refine t_getC F e_X2_periodGoesBy_104 fl_X2_129 (fun _ => o15) h1 k1848 (f1849) ?_
          refine m_iconst F (v := 1) (by decide) e_X2_periodGoesBy_107 ?_
          refine m_icmp_ne F e_X2_periodGoesBy_108 (fun q108 => ?_) (fun q108 => ?_)
          · refine m_iinc F (v := nI (i + 1)) (lv' := [(1, .int (nI (i + 1))), (2, .ref r1847), (0, .ref a)]) e_X2_periodGoesBy_117 rfl (nI_add i 1) (by decide) rfl ?_
            refine m_goto F e_X2_periodGoesBy_120 ?_
            refine Wm.lvsub (lv' := [(1, .int (nI (i + 1))), (0, .ref a)]) ?_ [0, 2] rfl
            exact ih (i + 1) _ (h1.mono (M' := M + 2 * (i + 1)) (Z' := Z) (by omega) (by intro e9; first | exact e9 | rfl)) (by omega) (by omega)
          · refine m_aload_n F rfl e_X2_periodGoesBy_111 ?_
            refine m_iload_n F rfl e_X2_periodGoesBy_112 ?_
            refine m_aload_n F rfl e_X2_periodGoesBy_113 ?_
            refine t_callV F e_X2_periodGoesBy_114 (s_X2_payAndWriteOff (x_l X) V b (M + 2 * i) Z T _ _ a (nI i) r1847 h1.1 hk k1848 (by omega)) cb_X2_payAndWriteOff ml_X2_168 im_X2_payAndWriteOff se_X2_payAndWriteOff (fun _ => o7) h1 hk rfl rfl (rest := []) rfl (Nat.le_of_ble_eq_true rfl) ⟨Nat.le_of_ble_eq_true rfl, Nat.le_of_ble_eq_true rfl⟩ ⟨Nat.le_of_ble_eq_true rfl, Nat.le_of_ble_eq_true rfl⟩ (fun r σ1851 hp => ?_)
            obtain ⟨h1853, rfl⟩ := hp
            have h1852 := HK.trans h1 h1853 (by decide)
            refine m_iinc F (v := nI (i + 1)) (lv' := [(1, .int (nI (i + 1))), (2, .ref r1847), (0, .ref a)]) e_X2_periodGoesBy_117 rfl (nI_add i 1) (by decide) rfl ?_
            refine m_goto F e_X2_periodGoesBy_120 ?_
            refine Wm.lvsub (lv' := [(1, .int (nI (i + 1))), (0, .ref a)]) ?_ [0, 2] rfl
            exact ih (i + 1) _ (h1852.mono (M' := M + 2 * (i + 1)) (Z' := Z) (by omega) (by intro e9; first | exact e9 | rfl)) (by omega) (by omega)
        · refine m_aload_n F rfl e_X2_periodGoesBy_70 ?_
          refine t_get F e_X2_periodGoesBy_71 fl_X2_150 (fun _ => o15) h1 k1848 rfl (fun v hv f1854 => ?_)
          obtain ⟨n1855, hn1855, rfl⟩ := hv
          replace hn1855 : n1855 ≤ 1 := hn1855
          refine m_if_eq F e_X2_periodGoesBy_74 (fun q74 => ?_) (fun q74 => ?_)
          · have c74 : n1855 = 0 := (nI_eq (a := n1855) (b := 0) (by omega) (by omega)).mp q74
            refine m_aload_n F rfl e_X2_periodGoesBy_103 ?_
            refine t_getC F e_X2_periodGoesBy_104 fl_X2_129 (fun _ => o15) h1 k1848 (f1849) ?_
            refine m_iconst F (v := 1) (by decide) e_X2_periodGoesBy_107 ?_
            refine m_icmp_ne F e_X2_periodGoesBy_108 (fun q108 => ?_) (fun q108 => ?_)
            · refine m_iinc F (v := nI (i + 1)) (lv' := [(1, .int (nI (i + 1))), (2, .ref r1847), (0, .ref a)]) e_X2_periodGoesBy_117 rfl (nI_add i 1) (by decide) rfl ?_
              refine m_goto F e_X2_periodGoesBy_120 ?_
              refine Wm.lvsub (lv' := [(1, .int (nI (i + 1))), (0, .ref a)]) ?_ [0, 2] rfl
              exact ih (i + 1) _ (h1.mono (M' := M + 2 * (i + 1)) (Z' := Z) (by omega) (by intro e9; first | exact e9 | rfl)) (by omega) (by omega)
            · refine m_aload_n F rfl e_X2_periodGoesBy_111 ?_
              refine m_iload_n F rfl e_X2_periodGoesBy_112 ?_
              refine m_aload_n F rfl e_X2_periodGoesBy_113 ?_
              refine t_callV F e_X2_periodGoesBy_114 (s_X2_payAndWriteOff (x_l X) V b (M + 2 * i) Z T _ _ a (nI i) r1847 h1.1 hk k1848 (by omega)) cb_X2_payAndWriteOff ml_X2_168 im_X2_payAndWriteOff se_X2_payAndWriteOff (fun _ => o7) h1 hk rfl rfl (rest := []) rfl (Nat.le_of_ble_eq_true rfl) ⟨Nat.le_of_ble_eq_true rfl, Nat.le_of_ble_eq_true rfl⟩ ⟨Nat.le_of_ble_eq_true rfl, Nat.le_of_ble_eq_true rfl⟩ (fun r σ1856 hp => ?_)
              obtain ⟨h1858, rfl⟩ := hp
              have h1857 := HK.trans h1 h1858 (by decide)
              refine m_iinc F (v := nI (i + 1)) (lv' := [(1, .int (nI (i + 1))), (2, .ref r1847), (0, .ref a)]) e_X2_periodGoesBy_117 rfl (nI_add i 1) (by decide) rfl ?_
              refine m_goto F e_X2_periodGoesBy_120 ?_
              refine Wm.lvsub (lv' := [(1, .int (nI (i + 1))), (0, .ref a)]) ?_ [0, 2] rfl
              exact ih (i + 1) _ (h1857.mono (M' := M + 2 * (i + 1)) (Z' := Z) (by omega) (by intro e9; first | exact e9 | rfl)) (by omega) (by omega)
          · have c74 : n1855 ≠ 0 := by have hh := mt (nI_eq (a := n1855) (b := 0) (by omega) (by omega)).mpr q74; omega
            refine m_aload_n F rfl e_X2_periodGoesBy_77 ?_
            refine t_callV F e_X2_periodGoesBy_78 (s_X2_indexNow (x_l X) V b (M + 2 * i) Z T _ _ a  h1.1 hk  (by omega)) cb_X2_indexNow ml_X2_153 im_X2_indexNow se_X2_indexNow (fun _ => o7) h1 hk rfl rfl (rest := []) rfl (Nat.le_of_ble_eq_true rfl) ⟨Nat.le_of_ble_eq_true rfl, Nat.le_of_ble_eq_true rfl⟩ ⟨Nat.le_of_ble_eq_true rfl, Nat.le_of_ble_eq_true rfl⟩ (fun r σ1859 hp => ?_)
            obtain ⟨h1861, x1862, rfl⟩ := hp
            have h1860 := HK.trans h1 h1861 (by decide)
            refine m_aload_n F rfl e_X2_periodGoesBy_81 ?_
            refine t_get F e_X2_periodGoesBy_82 fl_X2_157 (fun _ => o15) h1860 k1848 rfl (fun v hv f1863 => ?_)
            obtain ⟨x1864, rfl⟩ := hv
            refine m_icmp_eq F e_X2_periodGoesBy_85 (fun q85 => ?_) (fun q85 => ?_)
            · refine m_aload_n F rfl e_X2_periodGoesBy_103 ?_
              refine t_getC F e_X2_periodGoesBy_104 fl_X2_129 (fun _ => o15) h1860 k1848 ((fld_eq (h1861.2 r1847 (by rw [show kA _ r1847 = 15 from k1848]; decide))).trans f1849) ?_
              refine m_iconst F (v := 1) (by decide) e_X2_periodGoesBy_107 ?_
              refine m_icmp_ne F e_X2_periodGoesBy_108 (fun q108 => ?_) (fun q108 => ?_)
              · refine m_iinc F (v := nI (i + 1)) (lv' := [(1, .int (nI (i + 1))), (2, .ref r1847), (0, .ref a)]) e_X2_periodGoesBy_117 rfl (nI_add i 1) (by decide) rfl ?_
                refine m_goto F e_X2_periodGoesBy_120 ?_
                refine Wm.lvsub (lv' := [(1, .int (nI (i + 1))), (0, .ref a)]) ?_ [0, 2] rfl
                exact ih (i + 1) _ (h1860.mono (M' := M + 2 * (i + 1)) (Z' := Z) (by omega) (by intro e9; first | exact e9 | rfl)) (by omega) (by omega)
              · refine m_aload_n F rfl e_X2_periodGoesBy_111 ?_
                refine m_iload_n F rfl e_X2_periodGoesBy_112 ?_
                refine m_aload_n F rfl e_X2_periodGoesBy_113 ?_
                refine t_callV F e_X2_periodGoesBy_114 (s_X2_payAndWriteOff (x_l X) V b (M + 2 * i) Z T _ _ a (nI i) r1847 h1860.1 hk k1848 (by omega)) cb_X2_payAndWriteOff ml_X2_168 im_X2_payAndWriteOff se_X2_payAndWriteOff (fun _ => o7) h1860 hk rfl rfl (rest := []) rfl (Nat.le_of_ble_eq_true rfl) ⟨Nat.le_of_ble_eq_true rfl, Nat.le_of_ble_eq_true rfl⟩ ⟨Nat.le_of_ble_eq_true rfl, Nat.le_of_ble_eq_true rfl⟩ (fun r σ1865 hp => ?_)
                obtain ⟨h1867, rfl⟩ := hp
                have h1866 := HK.trans h1860 h1867 (by decide)
                refine m_iinc F (v := nI (i + 1)) (lv' := [(1, .int (nI (i + 1))), (2, .ref r1847), (0, .ref a)]) e_X2_periodGoesBy_117 rfl (nI_add i 1) (by decide) rfl ?_
                refine m_goto F e_X2_periodGoesBy_120 ?_
                refine Wm.lvsub (lv' := [(1, .int (nI (i + 1))), (0, .ref a)]) ?_ [0, 2] rfl
                exact ih (i + 1) _ (h1866.mono (M' := M + 2 * (i + 1)) (Z' := Z) (by omega) (by intro e9; first | exact e9 | rfl)) (by omega) (by omega)
            · refine m_aload_n F rfl e_X2_periodGoesBy_88 ?_
              refine m_aload_n F rfl e_X2_periodGoesBy_89 ?_
              refine t_callV F e_X2_periodGoesBy_90 (s_X2_indexNow (x_l X) V b (M + 2 * i) Z T _ _ a  h1860.1 hk  (by omega)) cb_X2_indexNow ml_X2_153 im_X2_indexNow se_X2_indexNow (fun _ => o7) h1860 hk rfl rfl (rest := [.ref r1847]) rfl (Nat.le_of_ble_eq_true rfl) ⟨Nat.le_of_ble_eq_true rfl, Nat.le_of_ble_eq_true rfl⟩ ⟨Nat.le_of_ble_eq_true rfl, Nat.le_of_ble_eq_true rfl⟩ (fun r σ1868 hp => ?_)
              obtain ⟨h1870, x1871, rfl⟩ := hp
              have h1869 := HK.trans h1860 h1870 (by decide)
              refine t_callV F e_X2_periodGoesBy_93 (s_X5_followIndex (x_l X) V b (M + 2 * i) Z T _ _ r1847 x1871 h1869.1 k1848  (by omega)) cb_X5_followIndex ml_X2_160 im_X5_followIndex se_X5_followIndex (fun _ => o15) h1869 k1848 rfl rfl (rest := []) rfl (Nat.le_of_ble_eq_true rfl) ⟨Nat.le_of_ble_eq_true rfl, Nat.le_of_ble_eq_true rfl⟩ ⟨Nat.le_of_ble_eq_true rfl, Nat.le_of_ble_eq_true rfl⟩ (fun r σ1872 hp => ?_)
              obtain ⟨h1874, rfl⟩ := hp
              have h1873 := HK.trans h1869 h1874 (by decide)
              refine m_aload_n F rfl e_X2_periodGoesBy_96 ?_
              refine m_iload_n F rfl e_X2_periodGoesBy_97 ?_
              refine m_aload_n F rfl e_X2_periodGoesBy_98 ?_
              refine t_callV F e_X2_periodGoesBy_99 (s_X2_remeasure (x_l X) V b (M + 2 * i) Z T _ _ a (nI i) r1847 h1873.1 hk k1848 (by omega)) cb_X2_remeasure ml_X2_164 im_X2_remeasure se_X2_remeasure (fun _ => o7) h1873 hk rfl rfl (rest := []) rfl (Nat.le_of_ble_eq_true rfl) ⟨Nat.le_of_ble_eq_true rfl, Nat.le_of_ble_eq_true rfl⟩ ⟨Nat.le_of_ble_eq_true rfl, Nat.le_of_ble_eq_true rfl⟩ (fun r σ1875 hp => ?_)
              obtain ⟨h1877, x1878, rfl⟩ := hp
              have h1876 := HK.trans h1873 h1877 (by decide)
              refine m_pop2_2 F rfl e_X2_periodGoesBy_102 ?_
              refine m_aload_n F rfl e_X2_periodGoesBy_103 ?_
              refine t_get F e_X2_periodGoesBy_104 fl_X2_129 (fun _ => o15) h1876 k1848 rfl (fun v hv f1879 => ?_)
              obtain ⟨x1880, rfl⟩ := hv
              refine m_iconst F (v := 1) (by decide) e_X2_periodGoesBy_107 ?_
              refine m_icmp_ne F e_X2_periodGoesBy_108 (fun q108 => ?_) (fun q108 => ?_)
              · refine m_iinc F (v := nI (i + 1)) (lv' := [(1, .int (nI (i + 1))), (2, .ref r1847), (0, .ref a)]) e_X2_periodGoesBy_117 rfl (nI_add i 1) (by decide) rfl ?_
                refine m_goto F e_X2_periodGoesBy_120 ?_
                refine Wm.lvsub (lv' := [(1, .int (nI (i + 1))), (0, .ref a)]) ?_ [0, 2] rfl
                exact ih (i + 1) _ (h1876.mono (M' := M + 2 * (i + 1)) (Z' := Z) (by omega) (by intro e9; first | exact e9 | rfl)) (by omega) (by omega)
              · refine m_aload_n F rfl e_X2_periodGoesBy_111 ?_
                refine m_iload_n F rfl e_X2_periodGoesBy_112 ?_
                refine m_aload_n F rfl e_X2_periodGoesBy_113 ?_
                refine t_callV F e_X2_periodGoesBy_114 (s_X2_payAndWriteOff (x_l X) V b (M + 2 * i + 1) Z T _ _ a (nI i) r1847 h1876.1 hk k1848 (by omega)) cb_X2_payAndWriteOff ml_X2_168 im_X2_payAndWriteOff se_X2_payAndWriteOff (fun _ => o7) h1876 hk rfl rfl (rest := []) rfl (Nat.le_of_ble_eq_true rfl) ⟨Nat.le_of_ble_eq_true rfl, Nat.le_of_ble_eq_true rfl⟩ ⟨Nat.le_of_ble_eq_true rfl, Nat.le_of_ble_eq_true rfl⟩ (fun r σ1881 hp => ?_)
                obtain ⟨h1883, rfl⟩ := hp
                have h1882 := HK.trans h1876 h1883 (by decide)
                refine m_iinc F (v := nI (i + 1)) (lv' := [(1, .int (nI (i + 1))), (2, .ref r1847), (0, .ref a)]) e_X2_periodGoesBy_117 rfl (nI_add i 1) (by decide) rfl ?_
                refine m_goto F e_X2_periodGoesBy_120 ?_
                refine Wm.lvsub (lv' := [(1, .int (nI (i + 1))), (0, .ref a)]) ?_ [0, 2] rfl
                exact ih (i + 1) _ (h1882.mono (M' := M + 2 * (i + 1)) (Z' := Z) (by omega) (by intro e9; first | exact e9 | rfl)) (by omega) (by omega)
      · refine m_aload_n F rfl e_X2_periodGoesBy_42 ?_
        refine t_get F e_X2_periodGoesBy_43 fl_X2_143 (fun _ => o15) h1 k1848 rfl (fun v hv f1884 => ?_)
        obtain ⟨x1885, rfl⟩ := hv
        refine m_aload_n F rfl e_X2_periodGoesBy_46 ?_
        refine t_get F e_X2_periodGoesBy_47 fl_X2_68 (fun _ => o7) h1 hk rfl (fun v hv f1886 => ?_)
        obtain ⟨n1887, hn1887, rfl⟩ := hv
        replace hn1887 : n1887 ≤ M + 2 * i := hn1887
        refine m_icmp_ne F e_X2_periodGoesBy_50 (fun q50 => ?_) (fun q50 => ?_)
        · refine m_aload_n F rfl e_X2_periodGoesBy_62 ?_
          refine t_getC F e_X2_periodGoesBy_63 fl_X2_129 (fun _ => o15) h1 k1848 (f1849) ?_
          refine m_iconst F (v := 1) (by decide) e_X2_periodGoesBy_66 ?_
          refine m_icmp_ne F e_X2_periodGoesBy_67 (fun q67 => ?_) (fun q67 => ?_)
          · refine m_aload_n F rfl e_X2_periodGoesBy_103 ?_
            refine t_getC F e_X2_periodGoesBy_104 fl_X2_129 (fun _ => o15) h1 k1848 (f1849) ?_
            refine m_iconst F (v := 1) (by decide) e_X2_periodGoesBy_107 ?_
            refine m_icmp_ne F e_X2_periodGoesBy_108 (fun q108 => ?_) (fun q108 => ?_)
            · refine m_iinc F (v := nI (i + 1)) (lv' := [(1, .int (nI (i + 1))), (2, .ref r1847), (0, .ref a)]) e_X2_periodGoesBy_117 rfl (nI_add i 1) (by decide) rfl ?_
              refine m_goto F e_X2_periodGoesBy_120 ?_
              refine Wm.lvsub (lv' := [(1, .int (nI (i + 1))), (0, .ref a)]) ?_ [0, 2] rfl
              exact ih (i + 1) _ (h1.mono (M' := M + 2 * (i + 1)) (Z' := Z) (by omega) (by intro e9; first | exact e9 | rfl)) (by omega) (by omega)
            · refine m_aload_n F rfl e_X2_periodGoesBy_111 ?_
              refine m_iload_n F rfl e_X2_periodGoesBy_112 ?_
              refine m_aload_n F rfl e_X2_periodGoesBy_113 ?_
              refine t_callV F e_X2_periodGoesBy_114 (s_X2_payAndWriteOff (x_l X) V b (M + 2 * i) Z T _ _ a (nI i) r1847 h1.1 hk k1848 (by omega)) cb_X2_payAndWriteOff ml_X2_168 im_X2_payAndWriteOff se_X2_payAndWriteOff (fun _ => o7) h1 hk rfl rfl (rest := []) rfl (Nat.le_of_ble_eq_true rfl) ⟨Nat.le_of_ble_eq_true rfl, Nat.le_of_ble_eq_true rfl⟩ ⟨Nat.le_of_ble_eq_true rfl, Nat.le_of_ble_eq_true rfl⟩ (fun r σ1888 hp => ?_)
              obtain ⟨h1890, rfl⟩ := hp
              have h1889 := HK.trans h1 h1890 (by decide)
              refine m_iinc F (v := nI (i + 1)) (lv' := [(1, .int (nI (i + 1))), (2, .ref r1847), (0, .ref a)]) e_X2_periodGoesBy_117 rfl (nI_add i 1) (by decide) rfl ?_
              refine m_goto F e_X2_periodGoesBy_120 ?_
              refine Wm.lvsub (lv' := [(1, .int (nI (i + 1))), (0, .ref a)]) ?_ [0, 2] rfl
              exact ih (i + 1) _ (h1889.mono (M' := M + 2 * (i + 1)) (Z' := Z) (by omega) (by intro e9; first | exact e9 | rfl)) (by omega) (by omega)
          · refine m_aload_n F rfl e_X2_periodGoesBy_70 ?_
            refine t_get F e_X2_periodGoesBy_71 fl_X2_150 (fun _ => o15) h1 k1848 rfl (fun v hv f1891 => ?_)
            obtain ⟨n1892, hn1892, rfl⟩ := hv
            replace hn1892 : n1892 ≤ 1 := hn1892
            refine m_if_eq F e_X2_periodGoesBy_74 (fun q74 => ?_) (fun q74 => ?_)
            · have c74 : n1892 = 0 := (nI_eq (a := n1892) (b := 0) (by omega) (by omega)).mp q74
              refine m_aload_n F rfl e_X2_periodGoesBy_103 ?_
              refine t_getC F e_X2_periodGoesBy_104 fl_X2_129 (fun _ => o15) h1 k1848 (f1849) ?_
              refine m_iconst F (v := 1) (by decide) e_X2_periodGoesBy_107 ?_
              refine m_icmp_ne F e_X2_periodGoesBy_108 (fun q108 => ?_) (fun q108 => ?_)
              · refine m_iinc F (v := nI (i + 1)) (lv' := [(1, .int (nI (i + 1))), (2, .ref r1847), (0, .ref a)]) e_X2_periodGoesBy_117 rfl (nI_add i 1) (by decide) rfl ?_
                refine m_goto F e_X2_periodGoesBy_120 ?_
                refine Wm.lvsub (lv' := [(1, .int (nI (i + 1))), (0, .ref a)]) ?_ [0, 2] rfl
                exact ih (i + 1) _ (h1.mono (M' := M + 2 * (i + 1)) (Z' := Z) (by omega) (by intro e9; first | exact e9 | rfl)) (by omega) (by omega)
              · refine m_aload_n F rfl e_X2_periodGoesBy_111 ?_
                refine m_iload_n F rfl e_X2_periodGoesBy_112 ?_
                refine m_aload_n F rfl e_X2_periodGoesBy_113 ?_
                refine t_callV F e_X2_periodGoesBy_114 (s_X2_payAndWriteOff (x_l X) V b (M + 2 * i) Z T _ _ a (nI i) r1847 h1.1 hk k1848 (by omega)) cb_X2_payAndWriteOff ml_X2_168 im_X2_payAndWriteOff se_X2_payAndWriteOff (fun _ => o7) h1 hk rfl rfl (rest := []) rfl (Nat.le_of_ble_eq_true rfl) ⟨Nat.le_of_ble_eq_true rfl, Nat.le_of_ble_eq_true rfl⟩ ⟨Nat.le_of_ble_eq_true rfl, Nat.le_of_ble_eq_true rfl⟩ (fun r σ1893 hp => ?_)
                obtain ⟨h1895, rfl⟩ := hp
                have h1894 := HK.trans h1 h1895 (by decide)
                refine m_iinc F (v := nI (i + 1)) (lv' := [(1, .int (nI (i + 1))), (2, .ref r1847), (0, .ref a)]) e_X2_periodGoesBy_117 rfl (nI_add i 1) (by decide) rfl ?_
                refine m_goto F e_X2_periodGoesBy_120 ?_
                refine Wm.lvsub (lv' := [(1, .int (nI (i + 1))), (0, .ref a)]) ?_ [0, 2] rfl
                exact ih (i + 1) _ (h1894.mono (M' := M + 2 * (i + 1)) (Z' := Z) (by omega) (by intro e9; first | exact e9 | rfl)) (by omega) (by omega)
            · have c74 : n1892 ≠ 0 := by have hh := mt (nI_eq (a := n1892) (b := 0) (by omega) (by omega)).mpr q74; omega
              refine m_aload_n F rfl e_X2_periodGoesBy_77 ?_
              refine t_callV F e_X2_periodGoesBy_78 (s_X2_indexNow (x_l X) V b (M + 2 * i) Z T _ _ a  h1.1 hk  (by omega)) cb_X2_indexNow ml_X2_153 im_X2_indexNow se_X2_indexNow (fun _ => o7) h1 hk rfl rfl (rest := []) rfl (Nat.le_of_ble_eq_true rfl) ⟨Nat.le_of_ble_eq_true rfl, Nat.le_of_ble_eq_true rfl⟩ ⟨Nat.le_of_ble_eq_true rfl, Nat.le_of_ble_eq_true rfl⟩ (fun r σ1896 hp => ?_)
              obtain ⟨h1898, x1899, rfl⟩ := hp
              have h1897 := HK.trans h1 h1898 (by decide)
              refine m_aload_n F rfl e_X2_periodGoesBy_81 ?_
              refine t_get F e_X2_periodGoesBy_82 fl_X2_157 (fun _ => o15) h1897 k1848 rfl (fun v hv f1900 => ?_)
              obtain ⟨x1901, rfl⟩ := hv
              refine m_icmp_eq F e_X2_periodGoesBy_85 (fun q85 => ?_) (fun q85 => ?_)
              · refine m_aload_n F rfl e_X2_periodGoesBy_103 ?_
                refine t_getC F e_X2_periodGoesBy_104 fl_X2_129 (fun _ => o15) h1897 k1848 ((fld_eq (h1898.2 r1847 (by rw [show kA _ r1847 = 15 from k1848]; decide))).trans f1849) ?_
                refine m_iconst F (v := 1) (by decide) e_X2_periodGoesBy_107 ?_
                refine m_icmp_ne F e_X2_periodGoesBy_108 (fun q108 => ?_) (fun q108 => ?_)
                · refine m_iinc F (v := nI (i + 1)) (lv' := [(1, .int (nI (i + 1))), (2, .ref r1847), (0, .ref a)]) e_X2_periodGoesBy_117 rfl (nI_add i 1) (by decide) rfl ?_
                  refine m_goto F e_X2_periodGoesBy_120 ?_
                  refine Wm.lvsub (lv' := [(1, .int (nI (i + 1))), (0, .ref a)]) ?_ [0, 2] rfl
                  exact ih (i + 1) _ (h1897.mono (M' := M + 2 * (i + 1)) (Z' := Z) (by omega) (by intro e9; first | exact e9 | rfl)) (by omega) (by omega)
                · refine m_aload_n F rfl e_X2_periodGoesBy_111 ?_
                  refine m_iload_n F rfl e_X2_periodGoesBy_112 ?_
                  refine m_aload_n F rfl e_X2_periodGoesBy_113 ?_
                  refine t_callV F e_X2_periodGoesBy_114 (s_X2_payAndWriteOff (x_l X) V b (M + 2 * i) Z T _ _ a (nI i) r1847 h1897.1 hk k1848 (by omega)) cb_X2_payAndWriteOff ml_X2_168 im_X2_payAndWriteOff se_X2_payAndWriteOff (fun _ => o7) h1897 hk rfl rfl (rest := []) rfl (Nat.le_of_ble_eq_true rfl) ⟨Nat.le_of_ble_eq_true rfl, Nat.le_of_ble_eq_true rfl⟩ ⟨Nat.le_of_ble_eq_true rfl, Nat.le_of_ble_eq_true rfl⟩ (fun r σ1902 hp => ?_)
                  obtain ⟨h1904, rfl⟩ := hp
                  have h1903 := HK.trans h1897 h1904 (by decide)
                  refine m_iinc F (v := nI (i + 1)) (lv' := [(1, .int (nI (i + 1))), (2, .ref r1847), (0, .ref a)]) e_X2_periodGoesBy_117 rfl (nI_add i 1) (by decide) rfl ?_
                  refine m_goto F e_X2_periodGoesBy_120 ?_
                  refine Wm.lvsub (lv' := [(1, .int (nI (i + 1))), (0, .ref a)]) ?_ [0, 2] rfl
                  exact ih (i + 1) _ (h1903.mono (M' := M + 2 * (i + 1)) (Z' := Z) (by omega) (by intro e9; first | exact e9 | rfl)) (by omega) (by omega)
              · refine m_aload_n F rfl e_X2_periodGoesBy_88 ?_
                refine m_aload_n F rfl e_X2_periodGoesBy_89 ?_
                refine t_callV F e_X2_periodGoesBy_90 (s_X2_indexNow (x_l X) V b (M + 2 * i) Z T _ _ a  h1897.1 hk  (by omega)) cb_X2_indexNow ml_X2_153 im_X2_indexNow se_X2_indexNow (fun _ => o7) h1897 hk rfl rfl (rest := [.ref r1847]) rfl (Nat.le_of_ble_eq_true rfl) ⟨Nat.le_of_ble_eq_true rfl, Nat.le_of_ble_eq_true rfl⟩ ⟨Nat.le_of_ble_eq_true rfl, Nat.le_of_ble_eq_true rfl⟩ (fun r σ1905 hp => ?_)
                obtain ⟨h1907, x1908, rfl⟩ := hp
                have h1906 := HK.trans h1897 h1907 (by decide)
                refine t_callV F e_X2_periodGoesBy_93 (s_X5_followIndex (x_l X) V b (M + 2 * i) Z T _ _ r1847 x1908 h1906.1 k1848  (by omega)) cb_X5_followIndex ml_X2_160 im_X5_followIndex se_X5_followIndex (fun _ => o15) h1906 k1848 rfl rfl (rest := []) rfl (Nat.le_of_ble_eq_true rfl) ⟨Nat.le_of_ble_eq_true rfl, Nat.le_of_ble_eq_true rfl⟩ ⟨Nat.le_of_ble_eq_true rfl, Nat.le_of_ble_eq_true rfl⟩ (fun r σ1909 hp => ?_)
                obtain ⟨h1911, rfl⟩ := hp
                have h1910 := HK.trans h1906 h1911 (by decide)
                refine m_aload_n F rfl e_X2_periodGoesBy_96 ?_
                refine m_iload_n F rfl e_X2_periodGoesBy_97 ?_
                refine m_aload_n F rfl e_X2_periodGoesBy_98 ?_
                refine t_callV F e_X2_periodGoesBy_99 (s_X2_remeasure (x_l X) V b (M + 2 * i) Z T _ _ a (nI i) r1847 h1910.1 hk k1848 (by omega)) cb_X2_remeasure ml_X2_164 im_X2_remeasure se_X2_remeasure (fun _ => o7) h1910 hk rfl rfl (rest := []) rfl (Nat.le_of_ble_eq_true rfl) ⟨Nat.le_of_ble_eq_true rfl, Nat.le_of_ble_eq_true rfl⟩ ⟨Nat.le_of_ble_eq_true rfl, Nat.le_of_ble_eq_true rfl⟩ (fun r σ1912 hp => ?_)
                obtain ⟨h1914, x1915, rfl⟩ := hp
                have h1913 := HK.trans h1910 h1914 (by decide)
                refine m_pop2_2 F rfl e_X2_periodGoesBy_102 ?_
                refine m_aload_n F rfl e_X2_periodGoesBy_103 ?_
                refine t_get F e_X2_periodGoesBy_104 fl_X2_129 (fun _ => o15) h1913 k1848 rfl (fun v hv f1916 => ?_)
                obtain ⟨x1917, rfl⟩ := hv
                refine m_iconst F (v := 1) (by decide) e_X2_periodGoesBy_107 ?_
                refine m_icmp_ne F e_X2_periodGoesBy_108 (fun q108 => ?_) (fun q108 => ?_)
                · refine m_iinc F (v := nI (i + 1)) (lv' := [(1, .int (nI (i + 1))), (2, .ref r1847), (0, .ref a)]) e_X2_periodGoesBy_117 rfl (nI_add i 1) (by decide) rfl ?_
                  refine m_goto F e_X2_periodGoesBy_120 ?_
                  refine Wm.lvsub (lv' := [(1, .int (nI (i + 1))), (0, .ref a)]) ?_ [0, 2] rfl
                  exact ih (i + 1) _ (h1913.mono (M' := M + 2 * (i + 1)) (Z' := Z) (by omega) (by intro e9; first | exact e9 | rfl)) (by omega) (by omega)
                · refine m_aload_n F rfl e_X2_periodGoesBy_111 ?_
                  refine m_iload_n F rfl e_X2_periodGoesBy_112 ?_
                  refine m_aload_n F rfl e_X2_periodGoesBy_113 ?_
                  refine t_callV F e_X2_periodGoesBy_114 (s_X2_payAndWriteOff (x_l X) V b (M + 2 * i + 1) Z T _ _ a (nI i) r1847 h1913.1 hk k1848 (by omega)) cb_X2_payAndWriteOff ml_X2_168 im_X2_payAndWriteOff se_X2_payAndWriteOff (fun _ => o7) h1913 hk rfl rfl (rest := []) rfl (Nat.le_of_ble_eq_true rfl) ⟨Nat.le_of_ble_eq_true rfl, Nat.le_of_ble_eq_true rfl⟩ ⟨Nat.le_of_ble_eq_true rfl, Nat.le_of_ble_eq_true rfl⟩ (fun r σ1918 hp => ?_)
                  obtain ⟨h1920, rfl⟩ := hp
                  have h1919 := HK.trans h1913 h1920 (by decide)
                  refine m_iinc F (v := nI (i + 1)) (lv' := [(1, .int (nI (i + 1))), (2, .ref r1847), (0, .ref a)]) e_X2_periodGoesBy_117 rfl (nI_add i 1) (by decide) rfl ?_
                  refine m_goto F e_X2_periodGoesBy_120 ?_
                  refine Wm.lvsub (lv' := [(1, .int (nI (i + 1))), (0, .ref a)]) ?_ [0, 2] rfl
                  exact ih (i + 1) _ (h1919.mono (M' := M + 2 * (i + 1)) (Z' := Z) (by omega) (by intro e9; first | exact e9 | rfl)) (by omega) (by omega)
        · refine m_aload_n F rfl e_X2_periodGoesBy_53 ?_
          refine m_iload_n F rfl e_X2_periodGoesBy_54 ?_
          refine m_aload_n F rfl e_X2_periodGoesBy_55 ?_
          refine t_callV F e_X2_periodGoesBy_56 (s_X2_begin (x_l X) V b (M + 2 * i) Z T _ _ a (nI i) r1847 h1.1 hk k1848 (by omega)) cb_X2_begin ml_X2_146 im_X2_begin se_X2_begin (fun _ => o7) h1 hk rfl rfl (rest := []) rfl (Nat.le_of_ble_eq_true rfl) ⟨Nat.le_of_ble_eq_true rfl, Nat.le_of_ble_eq_true rfl⟩ ⟨Nat.le_of_ble_eq_true rfl, Nat.le_of_ble_eq_true rfl⟩ (fun r σ1921 hp => ?_)
          obtain ⟨h1923, rfl⟩ := hp
          have h1922 := HK.trans h1 h1923 (by decide)
          refine m_goto F e_X2_periodGoesBy_59 ?_
          refine m_aload_n F rfl e_X2_periodGoesBy_103 ?_
          refine t_get F e_X2_periodGoesBy_104 fl_X2_129 (fun _ => o15) h1922 k1848 rfl (fun v hv f1924 => ?_)
          obtain ⟨x1925, rfl⟩ := hv
          refine m_iconst F (v := 1) (by decide) e_X2_periodGoesBy_107 ?_
          refine m_icmp_ne F e_X2_periodGoesBy_108 (fun q108 => ?_) (fun q108 => ?_)
          · refine m_iinc F (v := nI (i + 1)) (lv' := [(1, .int (nI (i + 1))), (2, .ref r1847), (0, .ref a)]) e_X2_periodGoesBy_117 rfl (nI_add i 1) (by decide) rfl ?_
            refine m_goto F e_X2_periodGoesBy_120 ?_
            refine Wm.lvsub (lv' := [(1, .int (nI (i + 1))), (0, .ref a)]) ?_ [0, 2] rfl
            exact ih (i + 1) _ (h1922.mono (M' := M + 2 * (i + 1)) (Z' := Z) (by omega) (by intro e9; first | exact e9 | rfl)) (by omega) (by omega)
          · refine m_aload_n F rfl e_X2_periodGoesBy_111 ?_
            refine m_iload_n F rfl e_X2_periodGoesBy_112 ?_
            refine m_aload_n F rfl e_X2_periodGoesBy_113 ?_
            refine t_callV F e_X2_periodGoesBy_114 (s_X2_payAndWriteOff (x_l X) V b (M + 2 * i + 1) Z T _ _ a (nI i) r1847 h1922.1 hk k1848 (by omega)) cb_X2_payAndWriteOff ml_X2_168 im_X2_payAndWriteOff se_X2_payAndWriteOff (fun _ => o7) h1922 hk rfl rfl (rest := []) rfl (Nat.le_of_ble_eq_true rfl) ⟨Nat.le_of_ble_eq_true rfl, Nat.le_of_ble_eq_true rfl⟩ ⟨Nat.le_of_ble_eq_true rfl, Nat.le_of_ble_eq_true rfl⟩ (fun r σ1926 hp => ?_)
            obtain ⟨h1928, rfl⟩ := hp
            have h1927 := HK.trans h1922 h1928 (by decide)
            refine m_iinc F (v := nI (i + 1)) (lv' := [(1, .int (nI (i + 1))), (2, .ref r1847), (0, .ref a)]) e_X2_periodGoesBy_117 rfl (nI_add i 1) (by decide) rfl ?_
            refine m_goto F e_X2_periodGoesBy_120 ?_
            refine Wm.lvsub (lv' := [(1, .int (nI (i + 1))), (0, .ref a)]) ?_ [0, 2] rfl
            exact ih (i + 1) _ (h1927.mono (M' := M + 2 * (i + 1)) (Z' := Z) (by omega) (by intro e9; first | exact e9 | rfl)) (by omega) (by omega)
set_option maxRecDepth 20000 in
theorem s_X2_periodGoesBy (l : Launch) (V : VX) (b M Z T N : Nat) (σ : Mem) (a : Nat) (h0 : HT V (b, M, Z, T) σ) (hk : kA b a = 7) (hM : M + 9 ≤ 1000000000) : Ct l V yX2_periodGoesBy cX2_periodGoesBy 3 none 5 0 0 N σ [.ref a] (fun r τ => HK V (b, M + 9, Z, T) [0, 1, 3, 19] σ τ ∧ r = none) := by
  refine Ct.of (by decide) (Nat.le_of_ble_eq_true rfl) [(0, .ref a)] rfl (fun X hX F hQ => ?_)
  have h1 : HK V (b, M, Z, T) [0, 1, 3, 19] σ σ := HK.start h0
  refine m_aload_n F rfl e_X2_periodGoesBy_0 ?_
  refine t_get F e_X2_periodGoesBy_1 fl_X2_40 (fun _ => o7) h1 hk rfl (fun v hv f1929 => ?_)
  obtain ⟨r1930, k1931, rfl⟩ := hv
  refine m_lconst F (v := 0) (by decide) e_X2_periodGoesBy_4 ?_
  refine t_callV F e_X2_periodGoesBy_5 (s_X1_set (x_l X) V b M Z T _ _ r1930 0 h1.1 k1931  (by omega)) cb_X1_set ml_X2_132 im_X1_set se_X1_set (fun _ => o6) h1 k1931 rfl rfl (rest := []) rfl (Nat.le_of_ble_eq_true rfl) ⟨Nat.le_of_ble_eq_true rfl, Nat.le_of_ble_eq_true rfl⟩ ⟨Nat.le_of_ble_eq_true rfl, Nat.le_of_ble_eq_true rfl⟩ (fun r σ1932 hp => ?_)
  obtain ⟨h1934, rfl⟩ := hp
  have h1933 := HK.trans h1 h1934 (by decide)
  refine m_aload_n F rfl e_X2_periodGoesBy_8 ?_
  refine t_get F e_X2_periodGoesBy_9 fl_X2_68 (fun _ => o7) h1933 hk rfl (fun v hv f1935 => ?_)
  obtain ⟨n1936, hn1936, rfl⟩ := hv
  replace hn1936 : n1936 ≤ M := hn1936
  refine m_bipush F (v := 99) (by decide) e_X2_periodGoesBy_12 ?_
  refine m_icmp_lt F e_X2_periodGoesBy_14 (fun q14 => ?_) (fun q14 => ?_)
  · have c14 : n1936 < 99 := (nI_ltI (a := n1936) (b := 99) (by omega) (by omega)).mp q14
    refine m_iconst F (v := 0) (by decide) e_X2_periodGoesBy_18 ?_
    refine m_istore_n F (lv' := [(1, .int 0), (0, .ref a)]) e_X2_periodGoesBy_19 (by decide) rfl ?_
    exact lp_X2_periodGoesBy_20 F hQ hk hM (4 - 0 + 1) 0 _ (h1933.mono (M' := M + 2 * 0) (Z' := Z) (by omega) (by intro e9; first | exact e9 | rfl)) (by omega) (Nat.lt_succ_self _)
  · have c14 : n1936 ≥ 99 := by have hh := mt (nI_ltI (a := n1936) (b := 99) (by omega) (by omega)).mpr q14; omega
    exact m_vret F hQ e_X2_periodGoesBy_17 (⟨(h1933.mono (M' := M + 9) (Z' := Z) (by omega) (by intro e; first | rfl | assumption | omega)), rfl⟩)
set_option maxRecDepth 20000 in
theorem lp_X2_canTakeSet_40 {V : VX} {X : MX} {b M Z T N : Nat} {σ : Mem} {a : Nat} {x902 : Int32}  (F : Fx V X yX2_canTakeSet cX2_canTakeSet 5 (some .boolean) (rmd 0 0 0)) (hQ : Rt V X 0 0 N (fun r τ => HK V (b, M, Z, T) [0, 1, 3, 7, 12, 15, 19] σ τ ∧ ∃ n : Nat, n ≤ 1 ∧ r = some (.int (nI n)))) (hk : kA b a = 7) (hM : M + 0 ≤ 1000000000)  : ∀ (fuel : Nat) (i : Nat) (u1 : Int32) (u2 : Int32) (τ : Mem), HK V (b, M, Z, T) [0, 1, 3, 7, 12, 15, 19] σ τ → i ≤ 4 → 4 - i < fuel → Wm V X 5 N τ 0 0 40 [(4, .int (nI i)), (3, .int u1), (0, .ref a), (1, .int u2), (2, .int x902)] [] := by
  intro fuel
  induction fuel with
  | zero => intro i u1 u2 τ h1 hi hm; exact absurd hm (Nat.not_lt_zero _)
  | succ fuel ih =>
    intro i u1 u2 τ h1 hi hm
    refine m_iload F rfl e_X2_canTakeSet_40 ?_
    refine m_iconst F (v := 4) (by decide) e_X2_canTakeSet_42 ?_
    refine m_icmp_ge F e_X2_canTakeSet_43 (fun q43 => ?_) (fun q43 => ?_)
    · have c43 : i ≥ 4 := (nI_leI (a := 4) (b := i) (by omega) (by omega)).mp q43
      refine m_iload_n F rfl e_X2_canTakeSet_115 ?_
      refine m_bipush F (v := 72) (by decide) e_X2_canTakeSet_116 ?_
      refine m_icmp_gt F e_X2_canTakeSet_118 (fun q118 => ?_) (fun q118 => ?_)
      · obtain ⟨n1937, hn1937, rfl⟩ := nI_nn (x := u1) (fun e => Int32.lt_irrefl (Int32.lt_trans e (Int32.lt_of_le_of_lt (by decide) q118)))
        have c118 : n1937 > 72 := (nI_ltI (a := 72) (b := n1937) (by omega) (by omega)).mp q118
        refine m_iconst F (v := 0) (by decide) e_X2_canTakeSet_125 ?_
        exact m_zret F hQ e_X2_canTakeSet_126 (by decide) (⟨h1, 0, by omega, rfl⟩)
      · refine m_iconst F (v := 1) (by decide) e_X2_canTakeSet_121 ?_
        refine m_goto F e_X2_canTakeSet_122 ?_
        exact m_zret F hQ e_X2_canTakeSet_126 (by decide) (⟨h1, 1, by omega, rfl⟩)
    · have c43 : i < 4 := by have hh := mt (nI_leI (a := 4) (b := i) (by omega) (by omega)).mpr q43; omega
      refine m_iload_n F rfl e_X2_canTakeSet_46 ?_
      refine m_iload F rfl e_X2_canTakeSet_47 ?_
      refine m_ishr F e_X2_canTakeSet_49 ?_
      refine Wm.top (fun x1938 _ => ?_)
      refine m_iconst F (v := 1) (by decide) e_X2_canTakeSet_50 ?_
      refine m_iand F e_X2_canTakeSet_51 ?_
      refine Wm.top (fun x1939 _ => ?_)
      refine m_if_ne F e_X2_canTakeSet_52 (fun q52 => ?_) (fun q52 => ?_)
      · refine m_iload F rfl e_X2_canTakeSet_58 ?_
        refine m_aload_n F rfl e_X2_canTakeSet_60 ?_
        refine t_get F e_X2_canTakeSet_61 fl_X2_62 (fun _ => o7) h1 hk rfl (fun v hv f1940 => ?_)
        obtain ⟨n1941, hn1941, rfl⟩ := hv
        replace hn1941 : n1941 ≤ 4 := hn1941
        refine m_icmp_ge F e_X2_canTakeSet_64 (fun q64 => ?_) (fun q64 => ?_)
        · have c64 : i ≥ n1941 := (nI_leI (a := n1941) (b := i) (by omega) (by omega)).mp q64
          refine m_iconst F (v := 0) (by decide) e_X2_canTakeSet_94 ?_
          exact m_zret F hQ e_X2_canTakeSet_95 (by decide) (⟨h1, 0, by omega, rfl⟩)
        · have c64 : i < n1941 := by have hh := mt (nI_leI (a := n1941) (b := i) (by omega) (by omega)).mpr q64; omega
          refine m_aload_n F rfl e_X2_canTakeSet_67 ?_
          refine t_get F e_X2_canTakeSet_68 fl_X2_19 (fun _ => o7) h1 hk rfl (fun v hv f1942 => ?_)
          obtain ⟨r1943, k1944, rfl⟩ := hv
          refine m_iload F rfl e_X2_canTakeSet_71 ?_
          refine t_aald F (len := 4) (j := i) e_X2_canTakeSet_73 (fun _ => o9) rfl h1 k1944 (nI_clamp (by omega)) (vp_in_nI (by omega) (by decide)) (fun r1945 k1946 => ?_)
          refine t_get F e_X2_canTakeSet_74 fl_X2_97 (fun _ => o19) h1 k1946 rfl (fun v hv f1947 => ?_)
          obtain ⟨n1948, hn1948, rfl⟩ := hv
          replace hn1948 : n1948 ≤ 3 := hn1948
          refine m_iload_n F rfl e_X2_canTakeSet_77 ?_
          refine m_icmp_ne F e_X2_canTakeSet_78 (fun q78 => ?_) (fun q78 => ?_)
          · refine m_iconst F (v := 0) (by decide) e_X2_canTakeSet_94 ?_
            exact m_zret F hQ e_X2_canTakeSet_95 (by decide) (⟨h1, 0, by omega, rfl⟩)
          · refine m_aload_n F rfl e_X2_canTakeSet_81 ?_
            refine t_getC F e_X2_canTakeSet_82 fl_X2_19 (fun _ => o7) h1 hk (f1942) ?_
            refine m_iload F rfl e_X2_canTakeSet_85 ?_
            refine t_aald F (len := 4) (j := i) e_X2_canTakeSet_87 (fun _ => o9) rfl h1 k1944 (nI_clamp (by omega)) (vp_in_nI (by omega) (by decide)) (fun r1949 k1950 => ?_)
            refine t_get F e_X2_canTakeSet_88 fl_X2_106 (fun _ => o19) h1 k1950 rfl (fun v hv f1951 => ?_)
            obtain ⟨n1952, hn1952, rfl⟩ := hv
            replace hn1952 : n1952 ≤ 1 := hn1952
            refine m_if_eq F e_X2_canTakeSet_91 (fun q91 => ?_) (fun q91 => ?_)
            · have c91 : n1952 = 0 := (nI_eq (a := n1952) (b := 0) (by omega) (by omega)).mp q91
              refine m_iload_n F rfl e_X2_canTakeSet_96 ?_
              refine m_aload_n F rfl e_X2_canTakeSet_97 ?_
              refine t_getC F e_X2_canTakeSet_98 fl_X2_19 (fun _ => o7) h1 hk (f1942) ?_
              refine m_iload F rfl e_X2_canTakeSet_101 ?_
              refine t_aald F (len := 4) (j := i) e_X2_canTakeSet_103 (fun _ => o9) rfl h1 k1944 (nI_clamp (by omega)) (vp_in_nI (by omega) (by decide)) (fun r1953 k1954 => ?_)
              refine t_get F e_X2_canTakeSet_104 fl_X2_100 (fun _ => o19) h1 k1954 rfl (fun v hv f1955 => ?_)
              obtain ⟨n1956, hn1956, rfl⟩ := hv
              replace hn1956 : n1956 ≤ 24 := hn1956
              refine m_iadd F e_X2_canTakeSet_107 ?_
              refine Wm.top (fun x1957 _ => ?_)
              refine m_istore_n F (lv' := [(3, .int x1957), (4, .int (nI i)), (0, .ref a), (1, .int u2), (2, .int x902)]) e_X2_canTakeSet_108 (by decide) rfl ?_
              refine m_iinc F (v := nI (i + 1)) (lv' := [(4, .int (nI (i + 1))), (3, .int x1957), (0, .ref a), (1, .int u2), (2, .int x902)]) e_X2_canTakeSet_109 rfl (nI_add i 1) (by decide) rfl ?_
              refine m_goto F e_X2_canTakeSet_112 ?_
              exact ih (i + 1) x1957 u2 _ h1 (by omega) (by omega)
            · have c91 : n1952 ≠ 0 := by have hh := mt (nI_eq (a := n1952) (b := 0) (by omega) (by omega)).mpr q91; omega
              refine m_iconst F (v := 0) (by decide) e_X2_canTakeSet_94 ?_
              exact m_zret F hQ e_X2_canTakeSet_95 (by decide) (⟨h1, 0, by omega, rfl⟩)
      · refine m_goto F e_X2_canTakeSet_55 ?_
        refine m_iinc F (v := nI (i + 1)) (lv' := [(4, .int (nI (i + 1))), (3, .int u1), (0, .ref a), (1, .int u2), (2, .int x902)]) e_X2_canTakeSet_109 rfl (nI_add i 1) (by decide) rfl ?_
        refine m_goto F e_X2_canTakeSet_112 ?_
        exact ih (i + 1) u1 u2 _ h1 (by omega) (by omega)
set_option maxRecDepth 20000 in
theorem s_X2_canTakeSet (l : Launch) (V : VX) (b M Z T N : Nat) (σ : Mem) (a : Nat) (x901 : Int32) (x902 : Int32) (h0 : HT V (b, M, Z, T) σ) (hk : kA b a = 7) (hM : M + 0 ≤ 1000000000) : Ct l V yX2_canTakeSet cX2_canTakeSet 5 (some .boolean) 0 0 0 N σ [.ref a, .int x901, .int x902] (fun r τ => HK V (b, M, Z, T) [0, 1, 3, 7, 12, 15, 19] σ τ ∧ ∃ n : Nat, n ≤ 1 ∧ r = some (.int (nI n))) := by
  refine Ct.of (by decide) (Nat.le_of_ble_eq_true rfl) [(0, .ref a), (1, .int x901), (2, .int x902)] rfl (fun X hX F hQ => ?_)
  have h1 : HK V (b, M, Z, T) [0, 1, 3, 7, 12, 15, 19] σ σ := HK.start h0
  refine m_iload_n F rfl e_X2_canTakeSet_0 ?_
  refine m_if_lt F e_X2_canTakeSet_1 (fun q1 => ?_) (fun q1 => ?_)
  · refine m_iconst F (v := 0) (by decide) e_X2_canTakeSet_25 ?_
    exact m_zret F hQ e_X2_canTakeSet_26 (by decide) (⟨h1, 0, by omega, rfl⟩)
  · obtain ⟨n1958, hn1958, rfl⟩ := nI_nn (x := x901) (fun e => q1 (Int32.lt_of_lt_of_le e (by decide)))
    have c1 : n1958 ≥ 0 := by have hh := mt (nI_ltI (a := n1958) (b := 0) (by omega) (by omega)).mpr q1; omega
    refine m_iload_n F rfl e_X2_canTakeSet_4 ?_
    refine m_aload_n F rfl e_X2_canTakeSet_5 ?_
    refine t_get F e_X2_canTakeSet_6 fl_X2_58 (fun _ => o7) h1 hk rfl (fun v hv f1959 => ?_)
    obtain ⟨n1960, hn1960, rfl⟩ := hv
    replace hn1960 : n1960 ≤ 4 := hn1960
    refine m_icmp_ge F e_X2_canTakeSet_9 (fun q9 => ?_) (fun q9 => ?_)
    · have c9 : n1958 ≥ n1960 := (nI_leI (a := n1960) (b := n1958) (by omega) (by omega)).mp q9
      refine m_iconst F (v := 0) (by decide) e_X2_canTakeSet_25 ?_
      exact m_zret F hQ e_X2_canTakeSet_26 (by decide) (⟨h1, 0, by omega, rfl⟩)
    · have c9 : n1958 < n1960 := by have hh := mt (nI_leI (a := n1960) (b := n1958) (by omega) (by omega)).mpr q9; omega
      refine m_aload_n F rfl e_X2_canTakeSet_12 ?_
      refine t_get F e_X2_canTakeSet_13 fl_X2_11 (fun _ => o7) h1 hk rfl (fun v hv f1961 => ?_)
      obtain ⟨r1962, k1963, rfl⟩ := hv
      refine m_iload_n F rfl e_X2_canTakeSet_16 ?_
      refine t_aald F (len := 4) (j := n1958) e_X2_canTakeSet_17 (fun _ => o8) rfl h1 k1963 (nI_clamp (by omega)) (vp_in_nI (by omega) (by decide)) (fun r1964 k1965 => ?_)
      refine t_get F e_X2_canTakeSet_18 fl_X2_129 (fun _ => o15) h1 k1965 rfl (fun v hv f1966 => ?_)
      obtain ⟨x1967, rfl⟩ := hv
      refine m_iconst F (v := 1) (by decide) e_X2_canTakeSet_21 ?_
      refine m_icmp_eq F e_X2_canTakeSet_22 (fun q22 => ?_) (fun q22 => ?_)
      · refine m_aload_n F rfl e_X2_canTakeSet_27 ?_
        refine t_getC F e_X2_canTakeSet_28 fl_X2_11 (fun _ => o7) h1 hk (f1961) ?_
        refine m_iload_n F rfl e_X2_canTakeSet_31 ?_
        refine t_aald F (len := 4) (j := n1958) e_X2_canTakeSet_32 (fun _ => o8) rfl h1 k1963 (nI_clamp (by omega)) (vp_in_nI (by omega) (by decide)) (fun r1968 k1969 => ?_)
        refine t_get F e_X2_canTakeSet_33 fl_X2_232 (fun _ => o15) h1 k1969 rfl (fun v hv f1970 => ?_)
        obtain ⟨x1971, rfl⟩ := hv
        refine m_istore_n F (lv' := [(3, .int x1971), (0, .ref a), (1, .int (nI n1958)), (2, .int x902)]) e_X2_canTakeSet_36 (by decide) rfl ?_
        refine m_iconst F (v := 0) (by decide) e_X2_canTakeSet_37 ?_
        refine m_istore F (lv' := [(4, .int 0), (3, .int x1971), (0, .ref a), (1, .int (nI n1958)), (2, .int x902)]) e_X2_canTakeSet_38 (by decide) rfl ?_
        exact lp_X2_canTakeSet_40 F hQ hk hM (4 - 0 + 1) 0 x1971 (nI n1958) _ h1 (by omega) (Nat.lt_succ_self _)
      · refine m_iconst F (v := 0) (by decide) e_X2_canTakeSet_25 ?_
        exact m_zret F hQ e_X2_canTakeSet_26 (by decide) (⟨h1, 0, by omega, rfl⟩)
set_option maxRecDepth 20000 in
theorem s_X2_canTake (l : Launch) (V : VX) (b M Z T N : Nat) (σ : Mem) (a : Nat) (x901 : Int32) (h0 : HT V (b, M, Z, T) σ) (hk : kA b a = 7) (hM : M + 0 ≤ 1000000000) : Ct l V yX2_canTake cX2_canTake 2 (some .boolean) 1 0 0 N σ [.ref a, .int x901] (fun r τ => HK V (b, M, Z, T) [0, 1, 3, 7, 12, 15, 19] σ τ ∧ (r = some (.int 0) ∨ ∃ n : Nat, n ≤ 3 ∧ x901 = nI n ∧ r = some (.int 1))) := by
  refine Ct.of (by decide) (Nat.le_of_ble_eq_true rfl) [(0, .ref a), (1, .int x901)] rfl (fun X hX F hQ => ?_)
  have h1 : HK V (b, M, Z, T) [0, 1, 3, 7, 12, 15, 19] σ σ := HK.start h0
  refine m_iload_n F rfl e_X2_canTake_0 ?_
  refine m_if_lt F e_X2_canTake_1 (fun q1 => ?_) (fun q1 => ?_)
  · refine m_iconst F (v := 0) (by decide) e_X2_canTake_35 ?_
    exact m_zret F hQ e_X2_canTake_36 (by decide) (⟨h1, Or.inl rfl⟩)
  · obtain ⟨n1972, hn1972, rfl⟩ := nI_nn (x := x901) (fun e => q1 (Int32.lt_of_lt_of_le e (by decide)))
    have c1 : n1972 ≥ 0 := by have hh := mt (nI_ltI (a := n1972) (b := 0) (by omega) (by omega)).mpr q1; omega
    refine m_iload_n F rfl e_X2_canTake_4 ?_
    refine m_aload_n F rfl e_X2_canTake_5 ?_
    refine t_get F e_X2_canTake_6 fl_X2_62 (fun _ => o7) h1 hk rfl (fun v hv f1973 => ?_)
    obtain ⟨n1974, hn1974, rfl⟩ := hv
    replace hn1974 : n1974 ≤ 4 := hn1974
    refine m_icmp_ge F e_X2_canTake_9 (fun q9 => ?_) (fun q9 => ?_)
    · have c9 : n1972 ≥ n1974 := (nI_leI (a := n1974) (b := n1972) (by omega) (by omega)).mp q9
      refine m_iconst F (v := 0) (by decide) e_X2_canTake_35 ?_
      exact m_zret F hQ e_X2_canTake_36 (by decide) (⟨h1, Or.inl rfl⟩)
    · have c9 : n1972 < n1974 := by have hh := mt (nI_leI (a := n1974) (b := n1972) (by omega) (by omega)).mpr q9; omega
      refine m_aload_n F rfl e_X2_canTake_12 ?_
      refine m_aload_n F rfl e_X2_canTake_13 ?_
      refine t_get F e_X2_canTake_14 fl_X2_19 (fun _ => o7) h1 hk rfl (fun v hv f1975 => ?_)
      obtain ⟨r1976, k1977, rfl⟩ := hv
      refine m_iload_n F rfl e_X2_canTake_17 ?_
      refine t_aald F (len := 4) (j := n1972) e_X2_canTake_18 (fun _ => o9) rfl h1 k1977 (nI_clamp (by omega)) (vp_in_nI (by omega) (by decide)) (fun r1978 k1979 => ?_)
      refine t_get F e_X2_canTake_19 fl_X2_97 (fun _ => o19) h1 k1979 rfl (fun v hv f1980 => ?_)
      obtain ⟨n1981, hn1981, rfl⟩ := hv
      replace hn1981 : n1981 ≤ 3 := hn1981
      refine m_iconst F (v := 1) (by decide) e_X2_canTake_22 ?_
      refine m_iload_n F rfl e_X2_canTake_23 ?_
      refine m_ishl F e_X2_canTake_24 ?_
      refine Wm.top (fun x1982 _ => ?_)
      refine t_callV F e_X2_canTake_25 (s_X2_canTakeSet (x_l X) V b M Z T _ _ a (nI n1981) x1982 h1.1 hk  (by omega)) cb_X2_canTakeSet ml_X2_240 im_X2_canTakeSet se_X2_canTakeSet (fun _ => o7) h1 hk rfl rfl (rest := []) rfl (Nat.le_of_ble_eq_true rfl) ⟨Nat.le_of_ble_eq_true rfl, Nat.le_of_ble_eq_true rfl⟩ ⟨Nat.le_of_ble_eq_true rfl, Nat.le_of_ble_eq_true rfl⟩ (fun r σ1983 hp => ?_)
      obtain ⟨h1985, n1986, hn1986, rfl⟩ := hp
      have h1984 := HK.trans h1 h1985 (by decide)
      refine m_if_eq F e_X2_canTake_28 (fun q28 => ?_) (fun q28 => ?_)
      · have c28 : n1986 = 0 := (nI_eq (a := n1986) (b := 0) (by omega) (by omega)).mp q28
        refine m_iconst F (v := 0) (by decide) e_X2_canTake_35 ?_
        exact m_zret F hQ e_X2_canTake_36 (by decide) (⟨h1984, Or.inl rfl⟩)
      · have c28 : n1986 ≠ 0 := by have hh := mt (nI_eq (a := n1986) (b := 0) (by omega) (by omega)).mpr q28; omega
        refine m_iconst F (v := 1) (by decide) e_X2_canTake_31 ?_
        refine m_goto F e_X2_canTake_32 ?_
        exact m_zret F hQ e_X2_canTake_36 (by decide) (⟨h1984, Or.inr ⟨n1972, by omega, rfl, rfl⟩⟩)
set_option maxRecDepth 20000 in
theorem s_X2_goOnByOption (l : Launch) (V : VX) (b M Z T N : Nat) (σ : Mem) (a : Nat) (r901 : Nat) (r902 : Nat) (h0 : HT V (b, M, Z, T) σ) (hk : kA b a = 7) (k901 : kA b r901 = 15) (k902 : kA b r902 = 19) (hM : M + 0 ≤ 1000000000) : Ct l V yX2_goOnByOption cX2_goOnByOption 3 none 4 0 0 N σ [.ref a, .ref r901, .ref r902] (fun r τ => HK V (b, M, Z, T) [0, 1, 3, 7, 12, 19] σ τ ∧ r = none) := by
  refine Ct.of (by decide) (Nat.le_of_ble_eq_true rfl) [(0, .ref a), (1, .ref r901), (2, .ref r902)] rfl (fun X hX F hQ => ?_)
  have h1 : HK V (b, M, Z, T) [0, 1, 3, 7, 12, 19] σ σ := HK.start h0
  refine m_aload_n F rfl e_X2_goOnByOption_0 ?_
  refine m_aload_n F rfl e_X2_goOnByOption_1 ?_
  refine t_get F e_X2_goOnByOption_2 fl_X2_100 (fun _ => o19) h1 k902 rfl (fun v hv f1987 => ?_)
  obtain ⟨n1988, hn1988, rfl⟩ := hv
  replace hn1988 : n1988 ≤ 24 := hn1988
  refine m_aload_n F rfl e_X2_goOnByOption_5 ?_
  refine t_get F e_X2_goOnByOption_6 fl_X2_103 (fun _ => o19) h1 k902 rfl (fun v hv f1989 => ?_)
  obtain ⟨x1990, rfl⟩ := hv
  refine m_i2l F e_X2_goOnByOption_9 ?_
  refine Wm.topl (fun x1991 _ => ?_)
  refine t_callV F e_X2_goOnByOption_10 (s_X5_goOn (x_l X) V b M Z T _ _ r901 n1988 x1991 h1.1 k901 (by omega) (by omega)) cb_X5_goOn ml_X2_248 im_X5_goOn se_X5_goOn (fun _ => o15) h1 k901 rfl rfl (rest := []) rfl (Nat.le_of_ble_eq_true rfl) ⟨Nat.le_of_ble_eq_true rfl, Nat.le_of_ble_eq_true rfl⟩ ⟨Nat.le_of_ble_eq_true rfl, Nat.le_of_ble_eq_true rfl⟩ (fun r σ1992 hp => ?_)
  obtain ⟨h1994, rfl⟩ := hp
  have h1993 := HK.trans h1 h1994 (by decide)
  refine m_aload_n F rfl e_X2_goOnByOption_13 ?_
  refine t_get F e_X2_goOnByOption_14 fl_X2_150 (fun _ => o15) h1993 k901 rfl (fun v hv f1995 => ?_)
  obtain ⟨n1996, hn1996, rfl⟩ := hv
  replace hn1996 : n1996 ≤ 1 := hn1996
  refine m_if_eq F e_X2_goOnByOption_17 (fun q17 => ?_) (fun q17 => ?_)
  · have c17 : n1996 = 0 := (nI_eq (a := n1996) (b := 0) (by omega) (by omega)).mp q17
    exact m_vret F hQ e_X2_goOnByOption_28 (⟨h1993, rfl⟩)
  · have c17 : n1996 ≠ 0 := by have hh := mt (nI_eq (a := n1996) (b := 0) (by omega) (by omega)).mpr q17; omega
    refine m_aload_n F rfl e_X2_goOnByOption_20 ?_
    refine m_aload_n F rfl e_X2_goOnByOption_21 ?_
    refine t_callV F e_X2_goOnByOption_22 (s_X2_indexNow (x_l X) V b M Z T _ _ a  h1993.1 hk  (by omega)) cb_X2_indexNow ml_X2_153 im_X2_indexNow se_X2_indexNow (fun _ => o7) h1993 hk rfl rfl (rest := [.ref r901]) rfl (Nat.le_of_ble_eq_true rfl) ⟨Nat.le_of_ble_eq_true rfl, Nat.le_of_ble_eq_true rfl⟩ ⟨Nat.le_of_ble_eq_true rfl, Nat.le_of_ble_eq_true rfl⟩ (fun r σ1997 hp => ?_)
    obtain ⟨h1999, x2000, rfl⟩ := hp
    have h1998 := HK.trans h1993 h1999 (by decide)
    refine t_callV F e_X2_goOnByOption_25 (s_X5_followIndex (x_l X) V b M Z T _ _ r901 x2000 h1998.1 k901  (by omega)) cb_X5_followIndex ml_X2_160 im_X5_followIndex se_X5_followIndex (fun _ => o15) h1998 k901 rfl rfl (rest := []) rfl (Nat.le_of_ble_eq_true rfl) ⟨Nat.le_of_ble_eq_true rfl, Nat.le_of_ble_eq_true rfl⟩ ⟨Nat.le_of_ble_eq_true rfl, Nat.le_of_ble_eq_true rfl⟩ (fun r σ2001 hp => ?_)
    obtain ⟨h2003, rfl⟩ := hp
    have h2002 := HK.trans h1998 h2003 (by decide)
    exact m_vret F hQ e_X2_goOnByOption_28 (⟨h2002, rfl⟩)
set_option maxRecDepth 20000 in
theorem lp_X2_goOnBySet_2 {V : VX} {X : MX} {b M Z T N : Nat} {σ : Mem} {a : Nat} {r901 : Nat} {x902 : Int32}  (F : Fx V X yX2_goOnBySet cX2_goOnBySet 4 none (rmd 5 0 0)) (hQ : Rt V X 0 0 N (fun r τ => HK V (b, M, Z, T) [0, 1, 3, 7, 12, 19] σ τ ∧ r = none)) (hk : kA b a = 7) (k901 : kA b r901 = 15) (hM : M + 0 ≤ 1000000000)  : ∀ (fuel : Nat) (i : Nat) (τ : Mem), HK V (b, M, Z, T) [0, 1, 3, 7, 12, 19] σ τ → i ≤ 4 → 4 - i < fuel → Wm V X 4 N τ 0 0 2 [(3, .int (nI i)), (0, .ref a), (1, .ref r901), (2, .int x902)] [] := by
  intro fuel
  induction fuel with
  | zero => intro i τ h1 hi hm; exact absurd hm (Nat.not_lt_zero _)
  | succ fuel ih =>
    intro i τ h1 hi hm
    refine m_iload_n F rfl e_X2_goOnBySet_2 ?_
    refine m_aload_n F rfl e_X2_goOnBySet_3 ?_
    refine t_get F e_X2_goOnBySet_4 fl_X2_62 (fun _ => o7) h1 hk rfl (fun v hv f2004 => ?_)
    obtain ⟨n2005, hn2005, rfl⟩ := hv
    replace hn2005 : n2005 ≤ 4 := hn2005
    refine m_icmp_ge F e_X2_goOnBySet_7 (fun q7 => ?_) (fun q7 => ?_)
    · have c7 : i ≥ n2005 := (nI_leI (a := n2005) (b := i) (by omega) (by omega)).mp q7
      exact m_vret F hQ e_X2_goOnBySet_35 (⟨h1, rfl⟩)
    · have c7 : i < n2005 := by have hh := mt (nI_leI (a := n2005) (b := i) (by omega) (by omega)).mpr q7; omega
      refine m_iload_n F rfl e_X2_goOnBySet_10 ?_
      refine m_iload_n F rfl e_X2_goOnBySet_11 ?_
      refine m_ishr F e_X2_goOnBySet_12 ?_
      refine Wm.top (fun x2006 _ => ?_)
      refine m_iconst F (v := 1) (by decide) e_X2_goOnBySet_13 ?_
      refine m_iand F e_X2_goOnBySet_14 ?_
      refine Wm.top (fun x2007 _ => ?_)
      refine m_if_eq F e_X2_goOnBySet_15 (fun q15 => ?_) (fun q15 => ?_)
      · refine m_iinc F (v := nI (i + 1)) (lv' := [(3, .int (nI (i + 1))), (0, .ref a), (1, .ref r901), (2, .int x902)]) e_X2_goOnBySet_29 rfl (nI_add i 1) (by decide) rfl ?_
        refine m_goto F e_X2_goOnBySet_32 ?_
        exact ih (i + 1) _ h1 (by omega) (by omega)
      · refine m_aload_n F rfl e_X2_goOnBySet_18 ?_
        refine m_aload_n F rfl e_X2_goOnBySet_19 ?_
        refine m_aload_n F rfl e_X2_goOnBySet_20 ?_
        refine t_get F e_X2_goOnBySet_21 fl_X2_19 (fun _ => o7) h1 hk rfl (fun v hv f2008 => ?_)
        obtain ⟨r2009, k2010, rfl⟩ := hv
        refine m_iload_n F rfl e_X2_goOnBySet_24 ?_
        refine t_aald F (len := 4) (j := i) e_X2_goOnBySet_25 (fun _ => o9) rfl h1 k2010 (nI_clamp (by omega)) (vp_in_nI (by omega) (by decide)) (fun r2011 k2012 => ?_)
        refine t_callV F e_X2_goOnBySet_26 (s_X2_goOnByOption (x_l X) V b M Z T _ _ a r901 r2011 h1.1 hk k901 k2012 (by omega)) cb_X2_goOnByOption ml_X2_244 im_X2_goOnByOption se_X2_goOnByOption (fun _ => o7) h1 hk rfl rfl (rest := []) rfl (Nat.le_of_ble_eq_true rfl) ⟨Nat.le_of_ble_eq_true rfl, Nat.le_of_ble_eq_true rfl⟩ ⟨Nat.le_of_ble_eq_true rfl, Nat.le_of_ble_eq_true rfl⟩ (fun r σ2013 hp => ?_)
        obtain ⟨h2015, rfl⟩ := hp
        have h2014 := HK.trans h1 h2015 (by decide)
        refine m_iinc F (v := nI (i + 1)) (lv' := [(3, .int (nI (i + 1))), (0, .ref a), (1, .ref r901), (2, .int x902)]) e_X2_goOnBySet_29 rfl (nI_add i 1) (by decide) rfl ?_
        refine m_goto F e_X2_goOnBySet_32 ?_
        exact ih (i + 1) _ h2014 (by omega) (by omega)
set_option maxRecDepth 20000 in
theorem s_X2_goOnBySet (l : Launch) (V : VX) (b M Z T N : Nat) (σ : Mem) (a : Nat) (r901 : Nat) (x902 : Int32) (h0 : HT V (b, M, Z, T) σ) (hk : kA b a = 7) (k901 : kA b r901 = 15) (hM : M + 0 ≤ 1000000000) : Ct l V yX2_goOnBySet cX2_goOnBySet 4 none 5 0 0 N σ [.ref a, .ref r901, .int x902] (fun r τ => HK V (b, M, Z, T) [0, 1, 3, 7, 12, 19] σ τ ∧ r = none) := by
  refine Ct.of (by decide) (Nat.le_of_ble_eq_true rfl) [(0, .ref a), (1, .ref r901), (2, .int x902)] rfl (fun X hX F hQ => ?_)
  have h1 : HK V (b, M, Z, T) [0, 1, 3, 7, 12, 19] σ σ := HK.start h0
  refine m_iconst F (v := 0) (by decide) e_X2_goOnBySet_0 ?_
  refine m_istore_n F (lv' := [(3, .int 0), (0, .ref a), (1, .ref r901), (2, .int x902)]) e_X2_goOnBySet_1 (by decide) rfl ?_
  exact lp_X2_goOnBySet_2 F hQ hk k901 hM (4 - 0 + 1) 0 _ h1 (by omega) (Nat.lt_succ_self _)
set_option maxRecDepth 20000 in
theorem s_X2_addLease (l : Launch) (V : VX) (b M Z T N : Nat) (σ : Mem) (a : Nat) (x901 : Int32) (x902 : Int32) (x903 : Int32) (x904 : Int32) (h0 : HT V (b, M, Z, T) σ) (hk : kA b a = 7) (hM : M + 0 ≤ 1000000000) : Ct l V yX2_addLease cX2_addLease 5 none 5 0 0 N σ [.ref a, .int x901, .int x902, .int x903, .int x904] (fun r τ => HK V (b, M, Z, T) [0, 1, 3, 12, 19] σ τ ∧ r = none) := by
  refine Ct.of (by decide) (Nat.le_of_ble_eq_true rfl) [(0, .ref a), (1, .int x901), (2, .int x902), (3, .int x903), (4, .int x904)] rfl (fun X hX F hQ => ?_)
  have h1 : HK V (b, M, Z, T) [0, 1, 3, 12, 19] σ σ := HK.start h0
  refine m_aload_n F rfl e_X2_addLease_0 ?_
  refine t_get F e_X2_addLease_1 fl_X2_58 (fun _ => o7) h1 hk rfl (fun v hv f2016 => ?_)
  obtain ⟨n2017, hn2017, rfl⟩ := hv
  replace hn2017 : n2017 ≤ 4 := hn2017
  refine m_iconst F (v := 4) (by decide) e_X2_addLease_4 ?_
  refine m_icmp_ge F e_X2_addLease_5 (fun q5 => ?_) (fun q5 => ?_)
  · have c5 : n2017 ≥ 4 := (nI_leI (a := 4) (b := n2017) (by omega) (by omega)).mp q5
    exact m_vret F hQ e_X2_addLease_35 (⟨h1, rfl⟩)
  · have c5 : n2017 < 4 := by have hh := mt (nI_leI (a := 4) (b := n2017) (by omega) (by omega)).mpr q5; omega
    refine m_aload_n F rfl e_X2_addLease_8 ?_
    refine t_get F e_X2_addLease_9 fl_X2_11 (fun _ => o7) h1 hk rfl (fun v hv f2018 => ?_)
    obtain ⟨r2019, k2020, rfl⟩ := hv
    refine m_aload_n F rfl e_X2_addLease_12 ?_
    refine t_getC F e_X2_addLease_13 fl_X2_58 (fun _ => o7) h1 hk (f2016) ?_
    refine t_aald F (len := 4) (j := n2017) e_X2_addLease_16 (fun _ => o8) rfl h1 k2020 (nI_clamp (by omega)) (vp_in_nI (by omega) (by decide)) (fun r2021 k2022 => ?_)
    refine m_iload_n F rfl e_X2_addLease_17 ?_
    refine m_iload_n F rfl e_X2_addLease_18 ?_
    refine m_iload_n F rfl e_X2_addLease_19 ?_
    refine m_iload F rfl e_X2_addLease_20 ?_
    refine t_callV F e_X2_addLease_22 (s_X5_tell (x_l X) V b M Z T _ _ r2021 x901 x902 x903 x904 h1.1 k2022  (by omega)) cb_X5_tell ml_X2_93 im_X5_tell se_X5_tell (fun _ => o15) h1 k2022 rfl rfl (rest := []) rfl (Nat.le_of_ble_eq_true rfl) ⟨Nat.le_of_ble_eq_true rfl, Nat.le_of_ble_eq_true rfl⟩ ⟨Nat.le_of_ble_eq_true rfl, Nat.le_of_ble_eq_true rfl⟩ (fun r σ2023 hp => ?_)
    obtain ⟨h2025, rfl⟩ := hp
    have h2024 := HK.trans h1 h2025 (by decide)
    refine m_aload_n F rfl e_X2_addLease_25 ?_
    refine m_dup F rfl e_X2_addLease_26 ?_
    refine t_getC F e_X2_addLease_27 fl_X2_58 (fun _ => o7) h2024 hk ((fld_eq (h2025.2 a (by rw [show kA _ a = 7 from hk]; decide))).trans f2016) ?_
    refine m_iconst F (v := 1) (by decide) e_X2_addLease_30 ?_
    refine m_iadd F e_X2_addLease_31 ?_
    refine Wm.topE (w := nI (n2017 + 1)) (nI_add n2017 1) ?_
    refine t_put F e_X2_addLease_32 fp_X2_58 (fun _ => o7) h2024 hk rfl ⟨n2017 + 1, (show n2017 + 1 ≤ 4 by omega), rfl⟩ rfl rfl (by decide) (fun σ2026 h2027 g2028 g2029 f2030 => ?_)
    exact m_vret F hQ e_X2_addLease_35 (⟨h2027, rfl⟩)
set_option maxRecDepth 20000 in
theorem s_X2_addOption (l : Launch) (V : VX) (b M Z T N : Nat) (σ : Mem) (a : Nat) (n901 : Nat) (n902 : Nat) (x903 : Int32) (h0 : HT V (b, M, Z, T) σ) (hk : kA b a = 7) (hn901 : n901 ≤ 3) (hn902 : n902 ≤ 24) (hM : M + 0 ≤ 1000000000) : Ct l V yX2_addOption cX2_addOption 5 none 0 0 0 N σ [.ref a, .int (nI n901), .int (nI n902), .int x903] (fun r τ => HK V (b, M, Z, T) [0, 1, 3, 12, 15] σ τ ∧ r = none) := by
  refine Ct.of (by decide) (Nat.le_of_ble_eq_true rfl) [(0, .ref a), (1, .int (nI n901)), (2, .int (nI n902)), (3, .int x903)] rfl (fun X hX F hQ => ?_)
  have h1 : HK V (b, M, Z, T) [0, 1, 3, 12, 15] σ σ := HK.start h0
  refine m_aload_n F rfl e_X2_addOption_0 ?_
  refine t_get F e_X2_addOption_1 fl_X2_62 (fun _ => o7) h1 hk rfl (fun v hv f2031 => ?_)
  obtain ⟨n2032, hn2032, rfl⟩ := hv
  replace hn2032 : n2032 ≤ 4 := hn2032
  refine m_iconst F (v := 4) (by decide) e_X2_addOption_4 ?_
  refine m_icmp_ge F e_X2_addOption_5 (fun q5 => ?_) (fun q5 => ?_)
  · have c5 : n2032 ≥ 4 := (nI_leI (a := 4) (b := n2032) (by omega) (by omega)).mp q5
    exact m_vret F hQ e_X2_addOption_53 (⟨h1, rfl⟩)
  · have c5 : n2032 < 4 := by have hh := mt (nI_leI (a := 4) (b := n2032) (by omega) (by omega)).mpr q5; omega
    refine m_aload_n F rfl e_X2_addOption_8 ?_
    refine t_get F e_X2_addOption_9 fl_X2_19 (fun _ => o7) h1 hk rfl (fun v hv f2033 => ?_)
    obtain ⟨r2034, k2035, rfl⟩ := hv
    refine m_aload_n F rfl e_X2_addOption_12 ?_
    refine t_getC F e_X2_addOption_13 fl_X2_62 (fun _ => o7) h1 hk (f2031) ?_
    refine t_aald F (len := 4) (j := n2032) e_X2_addOption_16 (fun _ => o9) rfl h1 k2035 (nI_clamp (by omega)) (vp_in_nI (by omega) (by decide)) (fun r2036 k2037 => ?_)
    refine m_astore F (lv' := [(4, .ref r2036), (0, .ref a), (1, .int (nI n901)), (2, .int (nI n902)), (3, .int x903)]) e_X2_addOption_17 (by decide) rfl ?_
    refine m_aload F rfl e_X2_addOption_19 ?_
    refine m_iload_n F rfl e_X2_addOption_21 ?_
    refine t_put F e_X2_addOption_22 fp_X2_97 (fun _ => o19) h1 k2037 rfl ⟨n901, (show n901 ≤ 3 by omega), rfl⟩ rfl rfl (by decide) (fun σ2038 h2039 g2040 g2041 f2042 => ?_)
    refine m_aload F rfl e_X2_addOption_25 ?_
    refine m_iload_n F rfl e_X2_addOption_27 ?_
    refine t_put F e_X2_addOption_28 fp_X2_100 (fun _ => o19) h2039 k2037 rfl ⟨n902, (show n902 ≤ 24 by omega), rfl⟩ rfl rfl (by decide) (fun σ2043 h2044 g2045 g2046 f2047 => ?_)
    refine m_aload F rfl e_X2_addOption_31 ?_
    refine m_iload_n F rfl e_X2_addOption_33 ?_
    refine t_put F e_X2_addOption_34 fp_X2_103 (fun _ => o19) h2044 k2037 rfl ⟨_, rfl⟩ rfl rfl (by decide) (fun σ2048 h2049 g2050 g2051 f2052 => ?_)
    refine m_aload F rfl e_X2_addOption_37 ?_
    refine m_iconst F (v := 0) (by decide) e_X2_addOption_39 ?_
    refine t_put F e_X2_addOption_40 fp_X2_106 (fun _ => o19) h2049 k2037 rfl ⟨0, (show 0 ≤ 1 by omega), rfl⟩ (by decide) rfl (by decide) (fun σ2053 h2054 g2055 g2056 f2057 => ?_)
    refine m_aload_n F rfl e_X2_addOption_43 ?_
    refine m_dup F rfl e_X2_addOption_44 ?_
    refine t_getC F e_X2_addOption_45 fl_X2_62 (fun _ => o7) h2054 hk ((g2055 a 9 (fun e => absurd ((hk).symm.trans e) (by decide))).trans ((g2050 a 9 (fun e => absurd ((hk).symm.trans e) (by decide))).trans ((g2045 a 9 (fun e => absurd ((hk).symm.trans e) (by decide))).trans ((g2040 a 9 (fun e => absurd ((hk).symm.trans e) (by decide))).trans f2031)))) ?_
    refine m_iconst F (v := 1) (by decide) e_X2_addOption_48 ?_
    refine m_iadd F e_X2_addOption_49 ?_
    refine Wm.topE (w := nI (n2032 + 1)) (nI_add n2032 1) ?_
    refine t_put F e_X2_addOption_50 fp_X2_62 (fun _ => o7) h2054 hk rfl ⟨n2032 + 1, (show n2032 + 1 ≤ 4 by omega), rfl⟩ rfl rfl (by decide) (fun σ2058 h2059 g2060 g2061 f2062 => ?_)
    exact m_vret F hQ e_X2_addOption_53 (⟨h2059, rfl⟩)
set_option maxRecDepth 20000 in
theorem s_X2_addIndex (l : Launch) (V : VX) (b M Z T N : Nat) (σ : Mem) (a : Nat) (x901 : Int32) (x902 : Int32) (h0 : HT V (b, M, Z, T) σ) (hk : kA b a = 7) (hM : M + 0 ≤ 1000000000) : Ct l V yX2_addIndex cX2_addIndex 3 none 3 0 0 N σ [.ref a, .int x901, .int x902] (fun r τ => HK V (b, M, Z, T) [0, 1, 3, 12, 15, 19] σ τ ∧ r = none) := by
  refine Ct.of (by decide) (Nat.le_of_ble_eq_true rfl) [(0, .ref a), (1, .int x901), (2, .int x902)] rfl (fun X hX F hQ => ?_)
  have h1 : HK V (b, M, Z, T) [0, 1, 3, 12, 15, 19] σ σ := HK.start h0
  refine m_aload_n F rfl e_X2_addIndex_0 ?_
  refine t_get F e_X2_addIndex_1 fl_X2_65 (fun _ => o7) h1 hk rfl (fun v hv f2063 => ?_)
  obtain ⟨n2064, hn2064, rfl⟩ := hv
  replace hn2064 : n2064 ≤ 8 := hn2064
  refine m_bipush F (v := 8) (by decide) e_X2_addIndex_4 ?_
  refine m_icmp_ge F e_X2_addIndex_6 (fun q6 => ?_) (fun q6 => ?_)
  · have c6 : n2064 ≥ 8 := (nI_leI (a := 8) (b := n2064) (by omega) (by omega)).mp q6
    exact m_vret F hQ e_X2_addIndex_50 (⟨h1, rfl⟩)
  · have c6 : n2064 < 8 := by have hh := mt (nI_leI (a := 8) (b := n2064) (by omega) (by omega)).mpr q6; omega
    refine m_iload_n F rfl e_X2_addIndex_9 ?_
    refine m_if_lt F e_X2_addIndex_10 (fun q10 => ?_) (fun q10 => ?_)
    · exact m_vret F hQ e_X2_addIndex_50 (⟨h1, rfl⟩)
    · obtain ⟨n2065, hn2065, rfl⟩ := nI_nn (x := x901) (fun e => q10 (Int32.lt_of_lt_of_le e (by decide)))
      have c10 : n2065 ≥ 0 := by have hh := mt (nI_ltI (a := n2065) (b := 0) (by omega) (by omega)).mpr q10; omega
      refine m_iload_n F rfl e_X2_addIndex_13 ?_
      refine m_bipush F (v := 99) (by decide) e_X2_addIndex_14 ?_
      refine m_icmp_gt F e_X2_addIndex_16 (fun q16 => ?_) (fun q16 => ?_)
      · have c16 : n2065 > 99 := (nI_ltI (a := 99) (b := n2065) (by omega) (by omega)).mp q16
        exact m_vret F hQ e_X2_addIndex_50 (⟨h1, rfl⟩)
      · have c16 : n2065 ≤ 99 := by have hh := mt (nI_ltI (a := 99) (b := n2065) (by omega) (by omega)).mpr q16; omega
        refine m_aload_n F rfl e_X2_addIndex_19 ?_
        refine t_get F e_X2_addIndex_20 fl_X2_27 (fun _ => o7) h1 hk rfl (fun v hv f2066 => ?_)
        obtain ⟨r2067, k2068, rfl⟩ := hv
        refine m_aload_n F rfl e_X2_addIndex_23 ?_
        refine t_getC F e_X2_addIndex_24 fl_X2_65 (fun _ => o7) h1 hk (f2063) ?_
        refine m_iload_n F rfl e_X2_addIndex_27 ?_
        refine t_iast F (len := 8) (j := n2064) e_X2_addIndex_28 (fun _ => o11) h1 k2068 (nI_clamp (by omega)) (vp_in_nI (by omega) (by decide)) (by decide) (fun σ2069 h2070 g2071 => ?_)
        refine m_aload_n F rfl e_X2_addIndex_29 ?_
        refine m_dup F rfl e_X2_addIndex_30 ?_
        refine t_getC F e_X2_addIndex_31 fl_X2_65 (fun _ => o7) h2070 hk ((g2071 a 10 (fun e => absurd ((hk).symm.trans e) (by decide))).trans f2063) ?_
        refine m_iconst F (v := 1) (by decide) e_X2_addIndex_34 ?_
        refine m_iadd F e_X2_addIndex_35 ?_
        refine Wm.topE (w := nI (n2064 + 1)) (nI_add n2064 1) ?_
        refine t_put F e_X2_addIndex_36 fp_X2_65 (fun _ => o7) h2070 hk rfl ⟨n2064 + 1, (show n2064 + 1 ≤ 8 by omega), rfl⟩ rfl rfl (by decide) (fun σ2072 h2073 g2074 g2075 f2076 => ?_)
        refine m_aload_n F rfl e_X2_addIndex_39 ?_
        refine t_get F e_X2_addIndex_40 fl_X2_23 (fun _ => o7) h2073 hk rfl (fun v hv f2077 => ?_)
        obtain ⟨r2078, k2079, rfl⟩ := hv
        refine m_iload_n F rfl e_X2_addIndex_43 ?_
        refine m_bipush F (v := 100) (by decide) e_X2_addIndex_44 ?_
        refine m_iload_n F rfl e_X2_addIndex_46 ?_
        refine m_callS F e_X2_addIndex_47 (s_J7_fill_fda19_10 (x_l X) V b M Z T _ _ r2078 n2065 100 x902 h2073.1 k2079 (by omega) (by omega) (by first | omega | assumption | decide) (by first | omega | assumption | decide) (by omega)) cb_J7_fill_fda19 ml_X2_110 sm_J7_fill_fda19 rfl (rest := []) rfl (Nat.le_of_ble_eq_true rfl) ⟨Nat.le_of_ble_eq_true rfl, Nat.le_of_ble_eq_true rfl⟩ ⟨Nat.le_of_ble_eq_true rfl, Nat.le_of_ble_eq_true rfl⟩ (k' := 0) (z' := 0) (N' := N) rfl rfl rfl (fun r σ2080 hp => ?_)
        obtain ⟨h2082, rfl⟩ := hp
        have h2081 := HK.trans h2073 h2082 (by decide)
        exact m_vret F hQ e_X2_addIndex_50 (⟨h2081, rfl⟩)
set_option maxRecDepth 20000 in
theorem s_X2_lastTold (l : Launch) (V : VX) (b M Z T N : Nat) (σ : Mem) (a : Nat) (h0 : HT V (b, M, Z, T) σ) (hk : kA b a = 7) (hM : M + 0 ≤ 1000000000) : Ct l V yX2_lastTold cX2_lastTold 1 (some .int) 0 0 0 N σ [.ref a] (fun r τ => HK V (b, M, Z, T) [0, 1, 3, 7, 12, 15, 19] σ τ ∧ ∃ x : Int32, r = some (.int x)) := by
  refine Ct.of (by decide) (Nat.le_of_ble_eq_true rfl) [(0, .ref a)] rfl (fun X hX F hQ => ?_)
  have h1 : HK V (b, M, Z, T) [0, 1, 3, 7, 12, 15, 19] σ σ := HK.start h0
  refine m_aload_n F rfl e_X2_lastTold_0 ?_
  refine t_get F e_X2_lastTold_1 fl_X2_65 (fun _ => o7) h1 hk rfl (fun v hv f2083 => ?_)
  obtain ⟨n2084, hn2084, rfl⟩ := hv
  replace hn2084 : n2084 ≤ 8 := hn2084
  refine m_if_le F e_X2_lastTold_4 (fun q4 => ?_) (fun q4 => ?_)
  · have c4 : n2084 ≤ 0 := (nI_leI (a := n2084) (b := 0) (by omega) (by omega)).mp q4
    refine m_iconst F (v := (-1)) (by decide) e_X2_lastTold_21 ?_
    exact m_iret F hQ e_X2_lastTold_22 (⟨h1, _, rfl⟩)
  · have c4 : n2084 > 0 := by have hh := mt (nI_leI (a := n2084) (b := 0) (by omega) (by omega)).mpr q4; omega
    refine m_aload_n F rfl e_X2_lastTold_7 ?_
    refine t_get F e_X2_lastTold_8 fl_X2_27 (fun _ => o7) h1 hk rfl (fun v hv f2085 => ?_)
    obtain ⟨r2086, k2087, rfl⟩ := hv
    refine m_aload_n F rfl e_X2_lastTold_11 ?_
    refine t_getC F e_X2_lastTold_12 fl_X2_65 (fun _ => o7) h1 hk (f2083) ?_
    refine m_iconst F (v := 1) (by decide) e_X2_lastTold_15 ?_
    refine m_isub F e_X2_lastTold_16 ?_
    refine Wm.topE (w := nI (n2084 - 1)) (pk_sub (a := n2084) (b := 1) (by omega)) ?_
    refine t_iald F (len := 8) (j := n2084 - 1) e_X2_lastTold_17 (fun _ => o11) h1 k2087 (nI_clamp (by omega)) (vp_in_nI (by omega) (by decide)) (fun x2088 => ?_)
    refine m_goto F e_X2_lastTold_18 ?_
    exact m_iret F hQ e_X2_lastTold_22 (⟨h1, _, rfl⟩)
set_option maxRecDepth 20000 in
theorem lp_X2_yearByChance_5 {V : VX} {X : MX} {b M Z T N : Nat} {σ : Mem} {a : Nat} {x901 : Int64}  (F : Fx V X yX2_yearByChance cX2_yearByChance 7 (some .long) (rmd 6 0 0)) (hQ : Rt V X 0 0 N (fun r τ => HK V (b, M + 108, Z, T) [0, 1, 3, 19] σ τ ∧ ∃ x : Int64, r = some (.long x))) (hk : kA b a = 7) (hM : M + 108 ≤ 1000000000)  : ∀ (fuel : Nat) (u1 : Int64) (i : Nat) (τ : Mem), HK V (b, M + 9 * i, Z, T) [0, 1, 3, 19] σ τ → i ≤ 12 → 12 - i < fuel → Wm V X 7 N τ 0 0 5 [(3, .long u1), (5, .int (nI i)), (0, .ref a), (1, .long x901)] [] := by
  intro fuel
  induction fuel with
  | zero => intro u1 i τ h1 hi hm; exact absurd hm (Nat.not_lt_zero _)
  | succ fuel ih =>
    intro u1 i τ h1 hi hm
    refine m_iload F rfl e_X2_yearByChance_5 ?_
    refine m_bipush F (v := 12) (by decide) e_X2_yearByChance_7 ?_
    refine m_icmp_ge F e_X2_yearByChance_9 (fun q9 => ?_) (fun q9 => ?_)
    · have c9 : i ≥ 12 := (nI_leI (a := 12) (b := i) (by omega) (by omega)).mp q9
      refine m_lload_n F rfl e_X2_yearByChance_74 ?_
      exact m_lret F hQ e_X2_yearByChance_75 (⟨(h1.mono (M' := M + 108) (Z' := Z) (by omega) (by intro e; first | rfl | assumption | omega)), _, rfl⟩)
    · have c9 : i < 12 := by have hh := mt (nI_leI (a := 12) (b := i) (by omega) (by omega)).mpr q9; omega
      refine m_lload_n F rfl e_X2_yearByChance_12 ?_
      refine m_ldc2 F kc_X2_251 e_X2_yearByChance_13 ?_
      refine m_lmul F e_X2_yearByChance_16 ?_
      refine Wm.topl (fun x2089 _ => ?_)
      refine m_ldc2 F kc_X2_253 e_X2_yearByChance_17 ?_
      refine m_ladd F e_X2_yearByChance_20 ?_
      refine Wm.topl (fun x2090 _ => ?_)
      refine m_ldc2 F kc_X2_255 e_X2_yearByChance_21 ?_
      refine m_land F e_X2_yearByChance_24 ?_
      refine Wm.topl (fun x2091 _ => ?_)
      refine m_lstore_n F (lv' := [(3, .long x2091), (5, .int (nI i)), (0, .ref a), (1, .long x901)]) e_X2_yearByChance_25 (by decide) rfl ?_
      refine m_lload_n F rfl e_X2_yearByChance_26 ?_
      refine m_ldc2 F kc_X2_257 e_X2_yearByChance_27 ?_
      refine m_ldiv F (by decide) e_X2_yearByChance_30 ?_
      refine Wm.topl (fun x2092 _ => ?_)
      refine m_ldc2 F kc_X2_259 e_X2_yearByChance_31 ?_
      refine m_lrem F (by decide) e_X2_yearByChance_34 ?_
      refine Wm.topl (fun x2093 _ => ?_)
      refine m_l2i F e_X2_yearByChance_35 ?_
      refine Wm.top (fun x2094 _ => ?_)
      refine m_bipush F (v := 10) (by decide) e_X2_yearByChance_36 ?_
      refine m_isub F e_X2_yearByChance_38 ?_
      refine Wm.top (fun x2095 _ => ?_)
      refine m_istore F (lv' := [(6, .int x2095), (3, .long x2091), (5, .int (nI i)), (0, .ref a), (1, .long x901)]) e_X2_yearByChance_39 (by decide) rfl ?_
      refine m_aload_n F rfl e_X2_yearByChance_41 ?_
      refine m_sipush F (v := 500) (by decide) e_X2_yearByChance_42 ?_
      refine m_sipush F (v := 2000) (by decide) e_X2_yearByChance_45 ?_
      refine m_aload_n F rfl e_X2_yearByChance_48 ?_
      refine t_callV F e_X2_yearByChance_49 (s_X2_indexNow (x_l X) V b (M + 9 * i) Z T _ _ a  h1.1 hk  (by omega)) cb_X2_indexNow ml_X2_153 im_X2_indexNow se_X2_indexNow (fun _ => o7) h1 hk rfl rfl (rest := [.int 2000, .int 500, .ref a]) rfl (Nat.le_of_ble_eq_true rfl) ⟨Nat.le_of_ble_eq_true rfl, Nat.le_of_ble_eq_true rfl⟩ ⟨Nat.le_of_ble_eq_true rfl, Nat.le_of_ble_eq_true rfl⟩ (fun r σ2096 hp => ?_)
      obtain ⟨h2098, x2099, rfl⟩ := hp
      have h2097 := HK.trans h1 h2098 (by decide)
      refine m_iload F rfl e_X2_yearByChance_52 ?_
      refine m_iadd F e_X2_yearByChance_54 ?_
      refine Wm.top (fun x2100 _ => ?_)
      refine m_min F e_X2_yearByChance_55 ml_X2_261 sm_min ini_math co_min (Nat.le_of_ble_eq_true rfl) (Nat.le_of_ble_eq_true rfl) (Nat.le_of_ble_eq_true rfl) (Nat.le_of_ble_eq_true rfl) ?_
      refine Wm.top (fun x2101 _ => ?_)
      refine m_max F e_X2_yearByChance_58 ml_X2_267 sm_max ini_math co_max (Nat.le_of_ble_eq_true rfl) (Nat.le_of_ble_eq_true rfl) (Nat.le_of_ble_eq_true rfl) (Nat.le_of_ble_eq_true rfl) ?_
      refine Wm.top (fun x2102 _ => ?_)
      refine t_callV F e_X2_yearByChance_61 (s_X2_changeIndex (x_l X) V b (M + 9 * i) Z T _ _ a x2102 h2097.1 hk  (by omega)) cb_X2_changeIndex ml_X2_270 im_X2_changeIndex se_X2_changeIndex (fun _ => o7) h2097 hk rfl rfl (rest := []) rfl (Nat.le_of_ble_eq_true rfl) ⟨Nat.le_of_ble_eq_true rfl, Nat.le_of_ble_eq_true rfl⟩ ⟨Nat.le_of_ble_eq_true rfl, Nat.le_of_ble_eq_true rfl⟩ (fun r σ2103 hp => ?_)
      obtain ⟨h2105, rfl⟩ := hp
      have h2104 := HK.trans h2097 h2105 (by decide)
      refine m_aload_n F rfl e_X2_yearByChance_64 ?_
      refine t_callV F e_X2_yearByChance_65 (s_X2_periodGoesBy (x_l X) V b (M + 9 * i) Z T _ _ a  h2104.1 hk  (by omega)) cb_X2_periodGoesBy ml_X2_273 im_X2_periodGoesBy se_X2_periodGoesBy (fun _ => o7) h2104 hk rfl rfl (rest := []) rfl (Nat.le_of_ble_eq_true rfl) ⟨Nat.le_of_ble_eq_true rfl, Nat.le_of_ble_eq_true rfl⟩ ⟨Nat.le_of_ble_eq_true rfl, Nat.le_of_ble_eq_true rfl⟩ (fun r σ2106 hp => ?_)
      obtain ⟨h2108, rfl⟩ := hp
      have h2107 := HK.trans h2104 h2108 (by decide)
      refine m_iinc F (v := nI (i + 1)) (lv' := [(5, .int (nI (i + 1))), (6, .int x2095), (3, .long x2091), (0, .ref a), (1, .long x901)]) e_X2_yearByChance_68 rfl (nI_add i 1) (by decide) rfl ?_
      refine m_goto F e_X2_yearByChance_71 ?_
      refine Wm.lvsub (lv' := [(3, .long x2091), (5, .int (nI (i + 1))), (0, .ref a), (1, .long x901)]) ?_ [2, 0, 3, 4] rfl
      exact ih x2091 (i + 1) _ (h2107.mono (M' := M + 9 * (i + 1)) (Z' := Z) (by omega) (by intro e9; first | exact e9 | rfl)) (by omega) (by omega)
set_option maxRecDepth 20000 in
theorem s_X2_yearByChance (l : Launch) (V : VX) (b M Z T N : Nat) (σ : Mem) (a : Nat) (x901 : Int64) (h0 : HT V (b, M, Z, T) σ) (hk : kA b a = 7) (hM : M + 108 ≤ 1000000000) : Ct l V yX2_yearByChance cX2_yearByChance 7 (some .long) 6 0 0 N σ [.ref a, .long x901] (fun r τ => HK V (b, M + 108, Z, T) [0, 1, 3, 19] σ τ ∧ ∃ x : Int64, r = some (.long x)) := by
  refine Ct.of (by decide) (Nat.le_of_ble_eq_true rfl) [(0, .ref a), (1, .long x901)] rfl (fun X hX F hQ => ?_)
  have h1 : HK V (b, M, Z, T) [0, 1, 3, 19] σ σ := HK.start h0
  refine m_lload_n F rfl e_X2_yearByChance_0 ?_
  refine m_lstore_n F (lv' := [(3, .long x901), (0, .ref a), (1, .long x901)]) e_X2_yearByChance_1 (by decide) rfl ?_
  refine m_iconst F (v := 0) (by decide) e_X2_yearByChance_2 ?_
  refine m_istore F (lv' := [(5, .int 0), (3, .long x901), (0, .ref a), (1, .long x901)]) e_X2_yearByChance_3 (by decide) rfl ?_
  refine Wm.lvsub (lv' := [(3, .long x901), (5, .int 0), (0, .ref a), (1, .long x901)]) ?_ [1, 0, 2, 3] rfl
  exact lp_X2_yearByChance_5 F hQ hk hM (12 - 0 + 1) x901 0 _ (h1.mono (M' := M + 9 * 0) (Z' := Z) (by omega) (by intro e9; first | exact e9 | rfl)) (by omega) (Nat.lt_succ_self _)
