set_option maxRecDepth 20000 in
theorem lp_X5_worthFrom_26 {V : VX} {G : GH} {X : MX} {b M Z T N : Nat} {σ : Mem} {a : Nat} {x901 : Int32} {x902 : Int32} {r903 : Nat}  (F : Fx V X yX5_worthFrom cX5_worthFrom 7 none (rmd 2 0 0)) (hQ : Rt V X 0 0 N (fun r τ => HK V G (b, M, Z, T) [0, 1, 2, 3, 4, 5, 7, 8, 9, 10, 11, 12, 13, 14, 15, 16, 17, 18, 19] σ τ ∧ r = none)) (hk : kA b a = 15) (k903 : kA b r903 = 6) (hM : M + 0 ≤ 1000000000)  : ∀ (fuel : Nat) (i1 : Int32) (u1 : Int64) (τ : Mem), HK V G (b, M, Z, T) [0, 1, 2, 3, 4, 5, 7, 8, 9, 10, 11, 12, 13, 14, 15, 16, 17, 18, 19] σ τ → True → (i1.toInt + 1).toNat < fuel → Wm V X 7 N τ 0 0 26 [(6, .int i1), (0, .ref a), (1, .int x901), (2, .int x902), (3, .ref r903), (4, .long u1)] [] := by
  intro fuel
  induction fuel with
  | zero => intro i1 u1 τ h1 hi hm; exact absurd hm (Nat.not_lt_zero _)
  | succ fuel ih =>
    intro i1 u1 τ h1 hi hm
    refine m_iload F rfl e_X5_worthFrom_26 ?_
    refine m_iload_n F rfl e_X5_worthFrom_28 ?_
    refine m_icmp_lt F e_X5_worthFrom_29 (fun q29 => ?_) (fun q29 => ?_)
    · exact m_vret F hQ e_X5_worthFrom_86 (⟨h1, rfl⟩)
    · refine m_iload F rfl e_X5_worthFrom_32 ?_
      refine m_if_lt F e_X5_worthFrom_34 (fun q34 => ?_) (fun q34 => ?_)
      · exact m_vret F hQ e_X5_worthFrom_86 (⟨h1, rfl⟩)
      · obtain ⟨n1022, hn1022, rfl⟩ := nI_nn (x := i1) (fun e => q34 (Int32.lt_of_lt_of_le e (by decide)))
        have c34 : n1022 ≥ 0 := by have hh := mt (nI_ltI (a := n1022) (b := 0) (by omega) (by omega)).mpr q34; omega
        refine m_aload_n F rfl e_X5_worthFrom_37 ?_
        refine t_get F e_X5_worthFrom_38 fl_X5_70 (fun _ => o15) h1 hk rfl (fun v hv f1023 => ?_)
        obtain ⟨n1024, hn1024, rfl⟩ := hv
        replace hn1024 : n1024 ≤ 1 := hn1024
        refine m_if_ne F e_X5_worthFrom_41 (fun q41 => ?_) (fun q41 => ?_)
        · have c41 : n1024 ≠ 0 := by have hh := mt (nI_eq (a := n1024) (b := 0) (by omega) (by omega)).mpr q41; omega
          refine m_aload_n F rfl e_X5_worthFrom_54 ?_
          refine m_ldc2 F kc_X5_109 e_X5_worthFrom_55 ?_
          refine m_lload F rfl e_X5_worthFrom_58 ?_
          refine t_callV F e_X5_worthFrom_60 (s_X1_shareRounded (x_l X) V G b M Z T _ _ r903 1000000 u1 h1.1 k903  (by omega)) cb_X1_shareRounded ml_X5_121 im_X1_shareRounded se_X1_shareRounded (fun _ => o6) h1 k903 rfl rfl (rest := []) rfl (Nat.le_of_ble_eq_true rfl) ⟨Nat.le_of_ble_eq_true rfl, Nat.le_of_ble_eq_true rfl⟩ ⟨Nat.le_of_ble_eq_true rfl, Nat.le_of_ble_eq_true rfl⟩ (fun r σ1025 hp => ?_)
          obtain ⟨h1027, rfl⟩ := hp
          have h1026 := HK.trans h1 h1027 (by decide)
          refine m_aload_n F rfl e_X5_worthFrom_63 ?_
          refine t_getC F e_X5_worthFrom_64 fl_X5_70 (fun _ => o15) h1026 hk ((fld_eq (h1027.2 a (by rw [show kA _ a = 15 from hk]; decide))).trans f1023) ?_
          refine m_if_eq F e_X5_worthFrom_67 (fun q67 => ?_) (fun q67 => ?_)
          · have c67 : n1024 = 0 := (nI_eq (a := n1024) (b := 0) (by omega) (by omega)).mp q67
            rcases Nat.eq_zero_or_pos (n1022) with e80 | e80
            · subst e80
              refine m_iinc F (v := -1) (lv' := [(6, .int (-1)), (0, .ref a), (1, .int x901), (2, .int x902), (3, .ref r903), (4, .long u1)]) e_X5_worthFrom_80 rfl (by decide) (by decide) rfl ?_
              refine m_goto F e_X5_worthFrom_83 ?_
              exact ih (-1) u1 _ h1026 trivial (by first | exact mdec0 hm | exact mdec (by omega) (by omega) hm)
            · refine m_iinc F (v := nI (n1022 - 1)) (lv' := [(6, .int (nI (n1022 - 1))), (0, .ref a), (1, .int x901), (2, .int x902), (3, .ref r903), (4, .long u1)]) e_X5_worthFrom_80 rfl (nI_dec (by omega)) (by decide) rfl ?_
              refine m_goto F e_X5_worthFrom_83 ?_
              exact ih (nI (n1022 - 1)) u1 _ h1026 trivial (by first | exact mdec0 hm | exact mdec (by omega) (by omega) hm)
          · have c67 : n1024 ≠ 0 := by have hh := mt (nI_eq (a := n1024) (b := 0) (by omega) (by omega)).mpr q67; omega
            refine m_aload_n F rfl e_X5_worthFrom_70 ?_
            refine t_get F e_X5_worthFrom_71 fl_X5_24 (fun _ => o15) h1026 hk rfl (fun v hv f1028 => ?_)
            obtain ⟨r1029, k1030, rfl⟩ := hv
            refine m_iload F rfl e_X5_worthFrom_74 ?_
            refine m_aload_n F rfl e_X5_worthFrom_76 ?_
            refine t_callV F e_X5_worthFrom_77 (s_X8_addTo (x_l X) V G b M Z T _ _ r1029 (nI n1022) r903 h1026.1 k1030 k903 (by omega)) cb_X8_addTo ml_X5_117 im_X8_addTo se_X8_addTo (fun _ => o16) h1026 k1030 rfl rfl (rest := []) rfl (Nat.le_of_ble_eq_true rfl) ⟨Nat.le_of_ble_eq_true rfl, Nat.le_of_ble_eq_true rfl⟩ ⟨Nat.le_of_ble_eq_true rfl, Nat.le_of_ble_eq_true rfl⟩ (fun r σ1031 hp => ?_)
            obtain ⟨h1033, rfl⟩ := hp
            have h1032 := HK.trans h1026 h1033 (by decide)
            rcases Nat.eq_zero_or_pos (n1022) with e80 | e80
            · subst e80
              refine m_iinc F (v := -1) (lv' := [(6, .int (-1)), (0, .ref a), (1, .int x901), (2, .int x902), (3, .ref r903), (4, .long u1)]) e_X5_worthFrom_80 rfl (by decide) (by decide) rfl ?_
              refine m_goto F e_X5_worthFrom_83 ?_
              exact ih (-1) u1 _ h1032 trivial (by first | exact mdec0 hm | exact mdec (by omega) (by omega) hm)
            · refine m_iinc F (v := nI (n1022 - 1)) (lv' := [(6, .int (nI (n1022 - 1))), (0, .ref a), (1, .int x901), (2, .int x902), (3, .ref r903), (4, .long u1)]) e_X5_worthFrom_80 rfl (nI_dec (by omega)) (by decide) rfl ?_
              refine m_goto F e_X5_worthFrom_83 ?_
              exact ih (nI (n1022 - 1)) u1 _ h1032 trivial (by first | exact mdec0 hm | exact mdec (by omega) (by omega) hm)
        · have c41 : n1024 = 0 := (nI_eq (a := n1024) (b := 0) (by omega) (by omega)).mp q41
          refine m_aload_n F rfl e_X5_worthFrom_44 ?_
          refine t_get F e_X5_worthFrom_45 fl_X5_24 (fun _ => o15) h1 hk rfl (fun v hv f1034 => ?_)
          obtain ⟨r1035, k1036, rfl⟩ := hv
          refine m_iload F rfl e_X5_worthFrom_48 ?_
          refine m_aload_n F rfl e_X5_worthFrom_50 ?_
          refine t_callV F e_X5_worthFrom_51 (s_X8_addTo (x_l X) V G b M Z T _ _ r1035 (nI n1022) r903 h1.1 k1036 k903 (by omega)) cb_X8_addTo ml_X5_117 im_X8_addTo se_X8_addTo (fun _ => o16) h1 k1036 rfl rfl (rest := []) rfl (Nat.le_of_ble_eq_true rfl) ⟨Nat.le_of_ble_eq_true rfl, Nat.le_of_ble_eq_true rfl⟩ ⟨Nat.le_of_ble_eq_true rfl, Nat.le_of_ble_eq_true rfl⟩ (fun r σ1037 hp => ?_)
          obtain ⟨h1039, rfl⟩ := hp
          have h1038 := HK.trans h1 h1039 (by decide)
          refine m_aload_n F rfl e_X5_worthFrom_54 ?_
          refine m_ldc2 F kc_X5_109 e_X5_worthFrom_55 ?_
          refine m_lload F rfl e_X5_worthFrom_58 ?_
          refine t_callV F e_X5_worthFrom_60 (s_X1_shareRounded (x_l X) V G b M Z T _ _ r903 1000000 u1 h1038.1 k903  (by omega)) cb_X1_shareRounded ml_X5_121 im_X1_shareRounded se_X1_shareRounded (fun _ => o6) h1038 k903 rfl rfl (rest := []) rfl (Nat.le_of_ble_eq_true rfl) ⟨Nat.le_of_ble_eq_true rfl, Nat.le_of_ble_eq_true rfl⟩ ⟨Nat.le_of_ble_eq_true rfl, Nat.le_of_ble_eq_true rfl⟩ (fun r σ1040 hp => ?_)
          obtain ⟨h1042, rfl⟩ := hp
          have h1041 := HK.trans h1038 h1042 (by decide)
          refine m_aload_n F rfl e_X5_worthFrom_63 ?_
          refine t_getC F e_X5_worthFrom_64 fl_X5_70 (fun _ => o15) h1041 hk ((fld_eq (h1042.2 a (by rw [show kA _ a = 15 from hk]; decide))).trans ((fld_eq (h1039.2 a (by rw [show kA _ a = 15 from hk]; decide))).trans f1023)) ?_
          refine m_if_eq F e_X5_worthFrom_67 (fun q67 => ?_) (fun q67 => ?_)
          · have c67 : n1024 = 0 := (nI_eq (a := n1024) (b := 0) (by omega) (by omega)).mp q67
            rcases Nat.eq_zero_or_pos (n1022) with e80 | e80
            · subst e80
              refine m_iinc F (v := -1) (lv' := [(6, .int (-1)), (0, .ref a), (1, .int x901), (2, .int x902), (3, .ref r903), (4, .long u1)]) e_X5_worthFrom_80 rfl (by decide) (by decide) rfl ?_
              refine m_goto F e_X5_worthFrom_83 ?_
              exact ih (-1) u1 _ h1041 trivial (by first | exact mdec0 hm | exact mdec (by omega) (by omega) hm)
            · refine m_iinc F (v := nI (n1022 - 1)) (lv' := [(6, .int (nI (n1022 - 1))), (0, .ref a), (1, .int x901), (2, .int x902), (3, .ref r903), (4, .long u1)]) e_X5_worthFrom_80 rfl (nI_dec (by omega)) (by decide) rfl ?_
              refine m_goto F e_X5_worthFrom_83 ?_
              exact ih (nI (n1022 - 1)) u1 _ h1041 trivial (by first | exact mdec0 hm | exact mdec (by omega) (by omega) hm)
          · have c67 : n1024 ≠ 0 := by have hh := mt (nI_eq (a := n1024) (b := 0) (by omega) (by omega)).mpr q67; omega
            refine m_aload_n F rfl e_X5_worthFrom_70 ?_
            refine t_getC F e_X5_worthFrom_71 fl_X5_24 (fun _ => o15) h1041 hk ((fld_eq (h1042.2 a (by rw [show kA _ a = 15 from hk]; decide))).trans ((fld_eq (h1039.2 a (by rw [show kA _ a = 15 from hk]; decide))).trans f1034)) ?_
            refine m_iload F rfl e_X5_worthFrom_74 ?_
            refine m_aload_n F rfl e_X5_worthFrom_76 ?_
            refine t_callV F e_X5_worthFrom_77 (s_X8_addTo (x_l X) V G b M Z T _ _ r1035 (nI n1022) r903 h1041.1 k1036 k903 (by omega)) cb_X8_addTo ml_X5_117 im_X8_addTo se_X8_addTo (fun _ => o16) h1041 k1036 rfl rfl (rest := []) rfl (Nat.le_of_ble_eq_true rfl) ⟨Nat.le_of_ble_eq_true rfl, Nat.le_of_ble_eq_true rfl⟩ ⟨Nat.le_of_ble_eq_true rfl, Nat.le_of_ble_eq_true rfl⟩ (fun r σ1043 hp => ?_)
            obtain ⟨h1045, rfl⟩ := hp
            have h1044 := HK.trans h1041 h1045 (by decide)
            rcases Nat.eq_zero_or_pos (n1022) with e80 | e80
            · subst e80
              refine m_iinc F (v := -1) (lv' := [(6, .int (-1)), (0, .ref a), (1, .int x901), (2, .int x902), (3, .ref r903), (4, .long u1)]) e_X5_worthFrom_80 rfl (by decide) (by decide) rfl ?_
              refine m_goto F e_X5_worthFrom_83 ?_
              exact ih (-1) u1 _ h1044 trivial (by first | exact mdec0 hm | exact mdec (by omega) (by omega) hm)
            · refine m_iinc F (v := nI (n1022 - 1)) (lv' := [(6, .int (nI (n1022 - 1))), (0, .ref a), (1, .int x901), (2, .int x902), (3, .ref r903), (4, .long u1)]) e_X5_worthFrom_80 rfl (nI_dec (by omega)) (by decide) rfl ?_
              refine m_goto F e_X5_worthFrom_83 ?_
              exact ih (nI (n1022 - 1)) u1 _ h1044 trivial (by first | exact mdec0 hm | exact mdec (by omega) (by omega) hm)
set_option maxRecDepth 20000 in
theorem s_X5_worthFrom (l : Launch) (V : VX) (G : GH) (b M Z T N : Nat) (σ : Mem) (a : Nat) (x901 : Int32) (x902 : Int32) (r903 : Nat) (h0 : HT V G (b, M, Z, T) σ) (hk : kA b a = 15) (k903 : kA b r903 = 6) (hM : M + 0 ≤ 1000000000) : Ct l V yX5_worthFrom cX5_worthFrom 7 none 2 0 0 N σ [.ref a, .int x901, .int x902, .ref r903] (fun r τ => HK V G (b, M, Z, T) [0, 1, 2, 3, 4, 5, 7, 8, 9, 10, 11, 12, 13, 14, 15, 16, 17, 18, 19] σ τ ∧ r = none) := by
  refine Ct.of (by decide) (Nat.le_of_ble_eq_true rfl) [(0, .ref a), (1, .int x901), (2, .int x902), (3, .ref r903)] rfl (fun X hX F hQ => ?_)
  have h1 : HK V G (b, M, Z, T) [0, 1, 2, 3, 4, 5, 7, 8, 9, 10, 11, 12, 13, 14, 15, 16, 17, 18, 19] σ σ := HK.start h0
  refine m_ldc2 F kc_X5_109 e_X5_worthFrom_0 ?_
  refine m_iload_n F rfl e_X5_worthFrom_3 ?_
  refine m_i2l F e_X5_worthFrom_4 ?_
  refine Wm.topl (fun x1046 _ => ?_)
  refine m_ladd F e_X5_worthFrom_5 ?_
  refine Wm.topl (fun x1047 _ => ?_)
  refine m_lstore F (lv' := [(4, .long x1047), (0, .ref a), (1, .int x901), (2, .int x902), (3, .ref r903)]) e_X5_worthFrom_6 (by decide) rfl ?_
  refine m_aload_n F rfl e_X5_worthFrom_8 ?_
  refine m_lconst F (v := 0) (by decide) e_X5_worthFrom_9 ?_
  refine t_callV F e_X5_worthFrom_10 (s_X1_set (x_l X) V G b M Z T _ _ r903 0 h1.1 k903  (by omega)) cb_X1_set ml_X5_76 im_X1_set se_X1_set (fun _ => o6) h1 k903 rfl rfl (rest := []) rfl (Nat.le_of_ble_eq_true rfl) ⟨Nat.le_of_ble_eq_true rfl, Nat.le_of_ble_eq_true rfl⟩ ⟨Nat.le_of_ble_eq_true rfl, Nat.le_of_ble_eq_true rfl⟩ (fun r σ1048 hp => ?_)
  obtain ⟨h1050, rfl⟩ := hp
  have h1049 := HK.trans h1 h1050 (by decide)
  refine m_aload_n F rfl e_X5_worthFrom_13 ?_
  refine t_get F e_X5_worthFrom_14 fl_X5_42 (fun _ => o15) h1049 hk rfl (fun v hv f1051 => ?_)
  obtain ⟨x1052, rfl⟩ := hv
  refine m_bipush F (v := 72) (by decide) e_X5_worthFrom_17 ?_
  refine m_min F e_X5_worthFrom_19 ml_X5_111 sm_min ini_math co_min (Nat.le_of_ble_eq_true rfl) (Nat.le_of_ble_eq_true rfl) (Nat.le_of_ble_eq_true rfl) (Nat.le_of_ble_eq_true rfl) ?_
  refine Wm.top (fun x1053 _ => ?_)
  refine m_iconst F (v := 1) (by decide) e_X5_worthFrom_22 ?_
  refine m_isub F e_X5_worthFrom_23 ?_
  refine Wm.top (fun x1054 _ => ?_)
  refine m_istore F (lv' := [(6, .int x1054), (4, .long x1047), (0, .ref a), (1, .int x901), (2, .int x902), (3, .ref r903)]) e_X5_worthFrom_24 (by decide) rfl ?_
  refine Wm.lvsub (lv' := [(6, .int x1054), (0, .ref a), (1, .int x901), (2, .int x902), (3, .ref r903), (4, .long x1047)]) ?_ [0, 2, 3, 4, 5, 1] rfl
  exact lp_X5_worthFrom_26 F hQ hk k903 hM ((x1054.toInt + 1).toNat + 1) x1054 x1047 _ h1049 trivial (Nat.lt_succ_self _)
set_option maxRecDepth 20000 in
theorem s_X5_worthLeft (l : Launch) (V : VX) (G : GH) (b M Z T N : Nat) (σ : Mem) (a : Nat) (r901 : Nat) (h0 : HT V G (b, M, Z, T) σ) (hk : kA b a = 15) (k901 : kA b r901 = 6) (hM : M + 0 ≤ 1000000000) : Ct l V yX5_worthLeft cX5_worthLeft 2 none 3 0 0 N σ [.ref a, .ref r901] (fun r τ => HK V G (b, M, Z, T) [0, 1, 2, 3, 4, 5, 7, 8, 9, 10, 11, 12, 13, 14, 15, 16, 17, 18, 19] σ τ ∧ r = none) := by
  refine Ct.of (by decide) (Nat.le_of_ble_eq_true rfl) [(0, .ref a), (1, .ref r901)] rfl (fun X hX F hQ => ?_)
  have h1 : HK V G (b, M, Z, T) [0, 1, 2, 3, 4, 5, 7, 8, 9, 10, 11, 12, 13, 14, 15, 16, 17, 18, 19] σ σ := HK.start h0
  refine m_aload_n F rfl e_X5_worthLeft_0 ?_
  refine m_aload_n F rfl e_X5_worthLeft_1 ?_
  refine t_get F e_X5_worthLeft_2 fl_X5_60 (fun _ => o15) h1 hk rfl (fun v hv f1055 => ?_)
  obtain ⟨x1056, rfl⟩ := hv
  refine m_aload_n F rfl e_X5_worthLeft_5 ?_
  refine t_get F e_X5_worthLeft_6 fl_X5_45 (fun _ => o15) h1 hk rfl (fun v hv f1057 => ?_)
  obtain ⟨x1058, rfl⟩ := hv
  refine m_aload_n F rfl e_X5_worthLeft_9 ?_
  refine t_callV F e_X5_worthLeft_10 (s_X5_worthFrom (x_l X) V G b M Z T _ _ a x1056 x1058 r901 h1.1 hk k901 (by omega)) cb_X5_worthFrom ml_X5_105 im_X5_worthFrom se_X5_worthFrom (fun _ => o15) h1 hk rfl rfl (rest := []) rfl (Nat.le_of_ble_eq_true rfl) ⟨Nat.le_of_ble_eq_true rfl, Nat.le_of_ble_eq_true rfl⟩ ⟨Nat.le_of_ble_eq_true rfl, Nat.le_of_ble_eq_true rfl⟩ (fun r σ1059 hp => ?_)
  obtain ⟨h1061, rfl⟩ := hp
  have h1060 := HK.trans h1 h1061 (by decide)
  exact m_vret F hQ e_X5_worthLeft_13 (⟨h1060, rfl⟩)
set_option maxRecDepth 20000 in
theorem lp_X5_greatestRate_30 {V : VX} {G : GH} {X : MX} {b M Z T N : Nat} {σ : Mem} {a : Nat} {x901 : Int32} {x902 : Int64} {r903 : Nat}  (F : Fx V X yX5_greatestRate cX5_greatestRate 9 (some .int) (rmd 3 0 0)) (hQ : Rt V X 0 0 N (fun r τ => HK V G (b, M, Z, T) [0, 1, 2, 3, 4, 5, 7, 8, 9, 10, 11, 12, 13, 14, 15, 16, 17, 18, 19] σ τ ∧ ∃ x : Int32, r = some (.int x))) (hk : kA b a = 15) (k903 : kA b r903 = 6) (hM : M + 0 ≤ 1000000000)  : ∀ (fuel : Nat) (u1 : Int32) (u2 : Int32) (i : Nat) (τ : Mem), HK V G (b, M, Z, T) [0, 1, 2, 3, 4, 5, 7, 8, 9, 10, 11, 12, 13, 14, 15, 16, 17, 18, 19] σ τ → i ≤ 32 → 32 - i < fuel → Wm V X 9 N τ 0 0 30 [(5, .int u1), (6, .int u2), (7, .int (nI i)), (0, .ref a), (1, .int x901), (2, .long x902), (4, .ref r903)] [] := by
  intro fuel
  induction fuel with
  | zero => intro u1 u2 i τ h1 hi hm; exact absurd hm (Nat.not_lt_zero _)
  | succ fuel ih =>
    intro u1 u2 i τ h1 hi hm
    refine m_iload F rfl e_X5_greatestRate_30 ?_
    refine m_bipush F (v := 32) (by decide) e_X5_greatestRate_32 ?_
    refine m_icmp_ge F e_X5_greatestRate_34 (fun q34 => ?_) (fun q34 => ?_)
    · have c34 : i ≥ 32 := (nI_leI (a := 32) (b := i) (by omega) (by omega)).mp q34
      refine m_iload F rfl e_X5_greatestRate_92 ?_
      exact m_iret F hQ e_X5_greatestRate_94 (⟨h1, _, rfl⟩)
    · have c34 : i < 32 := by have hh := mt (nI_leI (a := 32) (b := i) (by omega) (by omega)).mpr q34; omega
      refine m_iload F rfl e_X5_greatestRate_37 ?_
      refine m_iload F rfl e_X5_greatestRate_39 ?_
      refine m_icmp_ge F e_X5_greatestRate_41 (fun q41 => ?_) (fun q41 => ?_)
      · refine m_iload F rfl e_X5_greatestRate_92 ?_
        exact m_iret F hQ e_X5_greatestRate_94 (⟨h1, _, rfl⟩)
      · refine m_iload F rfl e_X5_greatestRate_44 ?_
        refine m_iload F rfl e_X5_greatestRate_46 ?_
        refine m_iadd F e_X5_greatestRate_48 ?_
        refine Wm.top (fun x1062 _ => ?_)
        refine m_iconst F (v := 1) (by decide) e_X5_greatestRate_49 ?_
        refine m_iadd F e_X5_greatestRate_50 ?_
        refine Wm.top (fun x1063 _ => ?_)
        refine m_iconst F (v := 2) (by decide) e_X5_greatestRate_51 ?_
        refine m_idiv F (by decide) e_X5_greatestRate_52 ?_
        refine Wm.top (fun x1064 _ => ?_)
        refine m_istore F (lv' := [(8, .int x1064), (5, .int u1), (6, .int u2), (7, .int (nI i)), (0, .ref a), (1, .int x901), (2, .long x902), (4, .ref r903)]) e_X5_greatestRate_53 (by decide) rfl ?_
        refine m_aload_n F rfl e_X5_greatestRate_55 ?_
        refine m_iload_n F rfl e_X5_greatestRate_56 ?_
        refine m_iload F rfl e_X5_greatestRate_57 ?_
        refine m_aload F rfl e_X5_greatestRate_59 ?_
        refine t_callV F e_X5_greatestRate_61 (s_X5_worthFrom (x_l X) V G b M Z T _ _ a x901 x1064 r903 h1.1 hk k903 (by omega)) cb_X5_worthFrom ml_X5_105 im_X5_worthFrom se_X5_worthFrom (fun _ => o15) h1 hk rfl rfl (rest := []) rfl (Nat.le_of_ble_eq_true rfl) ⟨Nat.le_of_ble_eq_true rfl, Nat.le_of_ble_eq_true rfl⟩ ⟨Nat.le_of_ble_eq_true rfl, Nat.le_of_ble_eq_true rfl⟩ (fun r σ1065 hp => ?_)
        obtain ⟨h1067, rfl⟩ := hp
        have h1066 := HK.trans h1 h1067 (by decide)
        refine m_aload F rfl e_X5_greatestRate_64 ?_
        refine m_lload_n F rfl e_X5_greatestRate_66 ?_
        refine t_callV F e_X5_greatestRate_67 (s_X1_isAtLeast (x_l X) V G b M Z T _ _ r903 x902 h1066.1 k903  (by omega)) cb_X1_isAtLeast ml_X5_125 im_X1_isAtLeast se_X1_isAtLeast (fun _ => o6) h1066 k903 rfl rfl (rest := []) rfl (Nat.le_of_ble_eq_true rfl) ⟨Nat.le_of_ble_eq_true rfl, Nat.le_of_ble_eq_true rfl⟩ ⟨Nat.le_of_ble_eq_true rfl, Nat.le_of_ble_eq_true rfl⟩ (fun r σ1068 hp => ?_)
        obtain ⟨h1070, n1071, hn1071, rfl⟩ := hp
        have h1069 := HK.trans h1066 h1070 (by decide)
        refine m_if_eq F e_X5_greatestRate_70 (fun q70 => ?_) (fun q70 => ?_)
        · have c70 : n1071 = 0 := (nI_eq (a := n1071) (b := 0) (by omega) (by omega)).mp q70
          refine m_iload F rfl e_X5_greatestRate_80 ?_
          refine m_iconst F (v := 1) (by decide) e_X5_greatestRate_82 ?_
          refine m_isub F e_X5_greatestRate_83 ?_
          refine Wm.top (fun x1072 _ => ?_)
          refine m_istore F (lv' := [(6, .int x1072), (8, .int x1064), (5, .int u1), (7, .int (nI i)), (0, .ref a), (1, .int x901), (2, .long x902), (4, .ref r903)]) e_X5_greatestRate_84 (by decide) rfl ?_
          refine m_iinc F (v := nI (i + 1)) (lv' := [(7, .int (nI (i + 1))), (6, .int x1072), (8, .int x1064), (5, .int u1), (0, .ref a), (1, .int x901), (2, .long x902), (4, .ref r903)]) e_X5_greatestRate_86 rfl (nI_add i 1) (by decide) rfl ?_
          refine m_goto F e_X5_greatestRate_89 ?_
          refine Wm.lvsub (lv' := [(5, .int u1), (6, .int x1072), (7, .int (nI (i + 1))), (0, .ref a), (1, .int x901), (2, .long x902), (4, .ref r903)]) ?_ [3, 1, 0, 4, 5, 6, 7] rfl
          exact ih u1 x1072 (i + 1) _ h1069 (by omega) (by omega)
        · have c70 : n1071 ≠ 0 := by have hh := mt (nI_eq (a := n1071) (b := 0) (by omega) (by omega)).mpr q70; omega
          refine m_iload F rfl e_X5_greatestRate_73 ?_
          refine m_istore F (lv' := [(5, .int x1064), (8, .int x1064), (6, .int u2), (7, .int (nI i)), (0, .ref a), (1, .int x901), (2, .long x902), (4, .ref r903)]) e_X5_greatestRate_75 (by decide) rfl ?_
          refine m_goto F e_X5_greatestRate_77 ?_
          refine m_iinc F (v := nI (i + 1)) (lv' := [(7, .int (nI (i + 1))), (5, .int x1064), (8, .int x1064), (6, .int u2), (0, .ref a), (1, .int x901), (2, .long x902), (4, .ref r903)]) e_X5_greatestRate_86 rfl (nI_add i 1) (by decide) rfl ?_
          refine m_goto F e_X5_greatestRate_89 ?_
          refine Wm.lvsub (lv' := [(5, .int x1064), (6, .int u2), (7, .int (nI (i + 1))), (0, .ref a), (1, .int x901), (2, .long x902), (4, .ref r903)]) ?_ [1, 3, 0, 4, 5, 6, 7] rfl
          exact ih x1064 u2 (i + 1) _ h1069 (by omega) (by omega)
set_option maxRecDepth 20000 in
theorem s_X5_greatestRate (l : Launch) (V : VX) (G : GH) (b M Z T N : Nat) (σ : Mem) (a : Nat) (x901 : Int32) (x902 : Int64) (r903 : Nat) (h0 : HT V G (b, M, Z, T) σ) (hk : kA b a = 15) (k903 : kA b r903 = 6) (hM : M + 0 ≤ 1000000000) : Ct l V yX5_greatestRate cX5_greatestRate 9 (some .int) 3 0 0 N σ [.ref a, .int x901, .long x902, .ref r903] (fun r τ => HK V G (b, M, Z, T) [0, 1, 2, 3, 4, 5, 7, 8, 9, 10, 11, 12, 13, 14, 15, 16, 17, 18, 19] σ τ ∧ ∃ x : Int32, r = some (.int x)) := by
  refine Ct.of (by decide) (Nat.le_of_ble_eq_true rfl) [(0, .ref a), (1, .int x901), (2, .long x902), (4, .ref r903)] rfl (fun X hX F hQ => ?_)
  have h1 : HK V G (b, M, Z, T) [0, 1, 2, 3, 4, 5, 7, 8, 9, 10, 11, 12, 13, 14, 15, 16, 17, 18, 19] σ σ := HK.start h0
  refine m_aload_n F rfl e_X5_greatestRate_0 ?_
  refine m_iload_n F rfl e_X5_greatestRate_1 ?_
  refine m_iconst F (v := 0) (by decide) e_X5_greatestRate_2 ?_
  refine m_aload F rfl e_X5_greatestRate_3 ?_
  refine t_callV F e_X5_greatestRate_5 (s_X5_worthFrom (x_l X) V G b M Z T _ _ a x901 0 r903 h1.1 hk k903 (by omega)) cb_X5_worthFrom ml_X5_105 im_X5_worthFrom se_X5_worthFrom (fun _ => o15) h1 hk rfl rfl (rest := []) rfl (Nat.le_of_ble_eq_true rfl) ⟨Nat.le_of_ble_eq_true rfl, Nat.le_of_ble_eq_true rfl⟩ ⟨Nat.le_of_ble_eq_true rfl, Nat.le_of_ble_eq_true rfl⟩ (fun r σ1073 hp => ?_)
  obtain ⟨h1075, rfl⟩ := hp
  have h1074 := HK.trans h1 h1075 (by decide)
  refine m_aload F rfl e_X5_greatestRate_8 ?_
  refine m_lload_n F rfl e_X5_greatestRate_10 ?_
  refine t_callV F e_X5_greatestRate_11 (s_X1_isAtLeast (x_l X) V G b M Z T _ _ r903 x902 h1074.1 k903  (by omega)) cb_X1_isAtLeast ml_X5_125 im_X1_isAtLeast se_X1_isAtLeast (fun _ => o6) h1074 k903 rfl rfl (rest := []) rfl (Nat.le_of_ble_eq_true rfl) ⟨Nat.le_of_ble_eq_true rfl, Nat.le_of_ble_eq_true rfl⟩ ⟨Nat.le_of_ble_eq_true rfl, Nat.le_of_ble_eq_true rfl⟩ (fun r σ1076 hp => ?_)
  obtain ⟨h1078, n1079, hn1079, rfl⟩ := hp
  have h1077 := HK.trans h1074 h1078 (by decide)
  refine m_if_ne F e_X5_greatestRate_14 (fun q14 => ?_) (fun q14 => ?_)
  · have c14 : n1079 ≠ 0 := by have hh := mt (nI_eq (a := n1079) (b := 0) (by omega) (by omega)).mpr q14; omega
    refine m_iconst F (v := 0) (by decide) e_X5_greatestRate_20 ?_
    refine m_istore F (lv' := [(5, .int 0), (0, .ref a), (1, .int x901), (2, .long x902), (4, .ref r903)]) e_X5_greatestRate_21 (by decide) rfl ?_
    refine m_ldc F kc_X5_129 e_X5_greatestRate_23 ?_
    refine m_istore F (lv' := [(6, .int 200000), (5, .int 0), (0, .ref a), (1, .int x901), (2, .long x902), (4, .ref r903)]) e_X5_greatestRate_25 (by decide) rfl ?_
    refine m_iconst F (v := 0) (by decide) e_X5_greatestRate_27 ?_
    refine m_istore F (lv' := [(7, .int 0), (6, .int 200000), (5, .int 0), (0, .ref a), (1, .int x901), (2, .long x902), (4, .ref r903)]) e_X5_greatestRate_28 (by decide) rfl ?_
    refine Wm.lvsub (lv' := [(5, .int 0), (6, .int 200000), (7, .int 0), (0, .ref a), (1, .int x901), (2, .long x902), (4, .ref r903)]) ?_ [2, 1, 0, 3, 4, 5, 6] rfl
    exact lp_X5_greatestRate_30 F hQ hk k903 hM (32 - 0 + 1) 0 200000 0 _ h1077 (by omega) (Nat.lt_succ_self _)
  · have c14 : n1079 = 0 := (nI_eq (a := n1079) (b := 0) (by omega) (by omega)).mp q14
    refine m_bipush F (v := (-2)) (by decide) e_X5_greatestRate_17 ?_
    exact m_iret F hQ e_X5_greatestRate_19 (⟨h1077, _, rfl⟩)
set_option maxRecDepth 20000 in
theorem s_X5_worthOfLevel (l : Launch) (V : VX) (G : GH) (b M Z T N : Nat) (σ : Mem) (a : Nat) (x901 : Int32) (r902 : Nat) (h0 : HT V G (b, M, Z, T) σ) (hk : kA b a = 15) (k902 : kA b r902 = 6) (hM : M + 0 ≤ 1000000000) : Ct l V yX5_worthOfLevel cX5_worthOfLevel 3 none 4 0 0 N σ [.ref a, .int x901, .ref r902] (fun r τ => HK V G (b, M, Z, T) [0, 1, 2, 3, 4, 5, 7, 8, 9, 10, 11, 12, 13, 14, 15, 16, 18, 19] σ τ ∧ r = none) := by
  refine Ct.of (by decide) (Nat.le_of_ble_eq_true rfl) [(0, .ref a), (1, .int x901), (2, .ref r902)] rfl (fun X hX F hQ => ?_)
  have h1 : HK V G (b, M, Z, T) [0, 1, 2, 3, 4, 5, 7, 8, 9, 10, 11, 12, 13, 14, 15, 16, 18, 19] σ σ := HK.start h0
  refine m_aload_n F rfl e_X5_worthOfLevel_0 ?_
  refine t_get F e_X5_worthOfLevel_1 fl_X5_24 (fun _ => o15) h1 hk rfl (fun v hv f1080 => ?_)
  obtain ⟨r1081, k1082, rfl⟩ := hv
  refine m_aload_n F rfl e_X5_worthOfLevel_4 ?_
  refine t_get F e_X5_worthOfLevel_5 fl_X5_42 (fun _ => o15) h1 hk rfl (fun v hv f1083 => ?_)
  obtain ⟨x1084, rfl⟩ := hv
  refine m_iload_n F rfl e_X5_worthOfLevel_8 ?_
  refine m_i2l F e_X5_worthOfLevel_9 ?_
  refine Wm.topl (fun x1085 _ => ?_)
  refine t_callV F e_X5_worthOfLevel_10 (s_X8_fill (x_l X) V G b M Z T _ _ r1081 x1084 x1085 h1.1 k1082  (by omega)) cb_X8_fill ml_X5_80 im_X8_fill se_X8_fill (fun _ => o16) h1 k1082 rfl rfl (rest := []) rfl (Nat.le_of_ble_eq_true rfl) ⟨Nat.le_of_ble_eq_true rfl, Nat.le_of_ble_eq_true rfl⟩ ⟨Nat.le_of_ble_eq_true rfl, Nat.le_of_ble_eq_true rfl⟩ (fun r σ1086 hp => ?_)
  obtain ⟨h1088, rfl⟩ := hp
  have h1087 := HK.trans h1 h1088 (by decide)
  refine m_aload_n F rfl e_X5_worthOfLevel_13 ?_
  refine m_iconst F (v := 0) (by decide) e_X5_worthOfLevel_14 ?_
  refine m_aload_n F rfl e_X5_worthOfLevel_15 ?_
  refine t_get F e_X5_worthOfLevel_16 fl_X5_45 (fun _ => o15) h1087 hk rfl (fun v hv f1089 => ?_)
  obtain ⟨x1090, rfl⟩ := hv
  refine m_aload_n F rfl e_X5_worthOfLevel_19 ?_
  refine t_callV F e_X5_worthOfLevel_20 (s_X5_worthFrom (x_l X) V G b M Z T _ _ a 0 x1090 r902 h1087.1 hk k902 (by omega)) cb_X5_worthFrom ml_X5_105 im_X5_worthFrom se_X5_worthFrom (fun _ => o15) h1087 hk rfl rfl (rest := []) rfl (Nat.le_of_ble_eq_true rfl) ⟨Nat.le_of_ble_eq_true rfl, Nat.le_of_ble_eq_true rfl⟩ ⟨Nat.le_of_ble_eq_true rfl, Nat.le_of_ble_eq_true rfl⟩ (fun r σ1091 hp => ?_)
  obtain ⟨h1093, rfl⟩ := hp
  have h1092 := HK.trans h1087 h1093 (by decide)
  exact m_vret F hQ e_X5_worthOfLevel_23 (⟨h1092, rfl⟩)
set_option maxRecDepth 20000 in
theorem lp_X5_leastLevel_28 {V : VX} {G : GH} {X : MX} {b M Z T N : Nat} {σ : Mem} {a : Nat} {x901 : Int64} {r902 : Nat}  (F : Fx V X yX5_leastLevel cX5_leastLevel 8 (some .int) (rmd 5 0 0)) (hQ : Rt V X 0 0 N (fun r τ => HK V G (b, M, Z, T) [0, 1, 2, 3, 4, 5, 7, 8, 9, 10, 11, 12, 13, 14, 15, 16, 18, 19] σ τ ∧ ∃ x : Int32, r = some (.int x))) (hk : kA b a = 15) (k902 : kA b r902 = 6) (hM : M + 0 ≤ 1000000000)  : ∀ (fuel : Nat) (u1 : Int32) (u2 : Int32) (i : Nat) (τ : Mem), HK V G (b, M, Z, T) [0, 1, 2, 3, 4, 5, 7, 8, 9, 10, 11, 12, 13, 14, 15, 16, 18, 19] σ τ → i ≤ 32 → 32 - i < fuel → Wm V X 8 N τ 0 0 28 [(4, .int u1), (5, .int u2), (6, .int (nI i)), (0, .ref a), (1, .long x901), (3, .ref r902)] [] := by
  intro fuel
  induction fuel with
  | zero => intro u1 u2 i τ h1 hi hm; exact absurd hm (Nat.not_lt_zero _)
  | succ fuel ih =>
    intro u1 u2 i τ h1 hi hm
    refine m_iload F rfl e_X5_leastLevel_28 ?_
    refine m_bipush F (v := 32) (by decide) e_X5_leastLevel_30 ?_
    refine m_icmp_ge F e_X5_leastLevel_32 (fun q32 => ?_) (fun q32 => ?_)
    · have c32 : i ≥ 32 := (nI_leI (a := 32) (b := i) (by omega) (by omega)).mp q32
      refine m_iload F rfl e_X5_leastLevel_85 ?_
      exact m_iret F hQ e_X5_leastLevel_87 (⟨h1, _, rfl⟩)
    · have c32 : i < 32 := by have hh := mt (nI_leI (a := 32) (b := i) (by omega) (by omega)).mpr q32; omega
      refine m_iload F rfl e_X5_leastLevel_35 ?_
      refine m_iload F rfl e_X5_leastLevel_37 ?_
      refine m_icmp_ge F e_X5_leastLevel_39 (fun q39 => ?_) (fun q39 => ?_)
      · refine m_iload F rfl e_X5_leastLevel_85 ?_
        exact m_iret F hQ e_X5_leastLevel_87 (⟨h1, _, rfl⟩)
      · refine m_iload F rfl e_X5_leastLevel_42 ?_
        refine m_iload F rfl e_X5_leastLevel_44 ?_
        refine m_iadd F e_X5_leastLevel_46 ?_
        refine Wm.top (fun x1094 _ => ?_)
        refine m_iconst F (v := 2) (by decide) e_X5_leastLevel_47 ?_
        refine m_idiv F (by decide) e_X5_leastLevel_48 ?_
        refine Wm.top (fun x1095 _ => ?_)
        refine m_istore F (lv' := [(7, .int x1095), (4, .int u1), (5, .int u2), (6, .int (nI i)), (0, .ref a), (1, .long x901), (3, .ref r902)]) e_X5_leastLevel_49 (by decide) rfl ?_
        refine m_aload_n F rfl e_X5_leastLevel_51 ?_
        refine m_iload F rfl e_X5_leastLevel_52 ?_
        refine m_aload_n F rfl e_X5_leastLevel_54 ?_
        refine t_callV F e_X5_leastLevel_55 (s_X5_worthOfLevel (x_l X) V G b M Z T _ _ a x1095 r902 h1.1 hk k902 (by omega)) cb_X5_worthOfLevel ml_X5_131 im_X5_worthOfLevel se_X5_worthOfLevel (fun _ => o15) h1 hk rfl rfl (rest := []) rfl (Nat.le_of_ble_eq_true rfl) ⟨Nat.le_of_ble_eq_true rfl, Nat.le_of_ble_eq_true rfl⟩ ⟨Nat.le_of_ble_eq_true rfl, Nat.le_of_ble_eq_true rfl⟩ (fun r σ1096 hp => ?_)
        obtain ⟨h1098, rfl⟩ := hp
        have h1097 := HK.trans h1 h1098 (by decide)
        refine m_aload_n F rfl e_X5_leastLevel_58 ?_
        refine m_lload_n F rfl e_X5_leastLevel_59 ?_
        refine t_callV F e_X5_leastLevel_60 (s_X1_isAtLeast (x_l X) V G b M Z T _ _ r902 x901 h1097.1 k902  (by omega)) cb_X1_isAtLeast ml_X5_125 im_X1_isAtLeast se_X1_isAtLeast (fun _ => o6) h1097 k902 rfl rfl (rest := []) rfl (Nat.le_of_ble_eq_true rfl) ⟨Nat.le_of_ble_eq_true rfl, Nat.le_of_ble_eq_true rfl⟩ ⟨Nat.le_of_ble_eq_true rfl, Nat.le_of_ble_eq_true rfl⟩ (fun r σ1099 hp => ?_)
        obtain ⟨h1101, n1102, hn1102, rfl⟩ := hp
        have h1100 := HK.trans h1097 h1101 (by decide)
        refine m_if_eq F e_X5_leastLevel_63 (fun q63 => ?_) (fun q63 => ?_)
        · have c63 : n1102 = 0 := (nI_eq (a := n1102) (b := 0) (by omega) (by omega)).mp q63
          refine m_iload F rfl e_X5_leastLevel_73 ?_
          refine m_iconst F (v := 1) (by decide) e_X5_leastLevel_75 ?_
          refine m_iadd F e_X5_leastLevel_76 ?_
          refine Wm.top (fun x1103 _ => ?_)
          refine m_istore F (lv' := [(4, .int x1103), (7, .int x1095), (5, .int u2), (6, .int (nI i)), (0, .ref a), (1, .long x901), (3, .ref r902)]) e_X5_leastLevel_77 (by decide) rfl ?_
          refine m_iinc F (v := nI (i + 1)) (lv' := [(6, .int (nI (i + 1))), (4, .int x1103), (7, .int x1095), (5, .int u2), (0, .ref a), (1, .long x901), (3, .ref r902)]) e_X5_leastLevel_79 rfl (nI_add i 1) (by decide) rfl ?_
          refine m_goto F e_X5_leastLevel_82 ?_
          refine Wm.lvsub (lv' := [(4, .int x1103), (5, .int u2), (6, .int (nI (i + 1))), (0, .ref a), (1, .long x901), (3, .ref r902)]) ?_ [1, 3, 0, 4, 5, 6] rfl
          exact ih x1103 u2 (i + 1) _ h1100 (by omega) (by omega)
        · have c63 : n1102 ≠ 0 := by have hh := mt (nI_eq (a := n1102) (b := 0) (by omega) (by omega)).mpr q63; omega
          refine m_iload F rfl e_X5_leastLevel_66 ?_
          refine m_istore F (lv' := [(5, .int x1095), (7, .int x1095), (4, .int u1), (6, .int (nI i)), (0, .ref a), (1, .long x901), (3, .ref r902)]) e_X5_leastLevel_68 (by decide) rfl ?_
          refine m_goto F e_X5_leastLevel_70 ?_
          refine m_iinc F (v := nI (i + 1)) (lv' := [(6, .int (nI (i + 1))), (5, .int x1095), (7, .int x1095), (4, .int u1), (0, .ref a), (1, .long x901), (3, .ref r902)]) e_X5_leastLevel_79 rfl (nI_add i 1) (by decide) rfl ?_
          refine m_goto F e_X5_leastLevel_82 ?_
          refine Wm.lvsub (lv' := [(4, .int u1), (5, .int x1095), (6, .int (nI (i + 1))), (0, .ref a), (1, .long x901), (3, .ref r902)]) ?_ [3, 1, 0, 4, 5, 6] rfl
          exact ih u1 x1095 (i + 1) _ h1100 (by omega) (by omega)
set_option maxRecDepth 20000 in
theorem s_X5_leastLevel (l : Launch) (V : VX) (G : GH) (b M Z T N : Nat) (σ : Mem) (a : Nat) (x901 : Int64) (r902 : Nat) (h0 : HT V G (b, M, Z, T) σ) (hk : kA b a = 15) (k902 : kA b r902 = 6) (hM : M + 0 ≤ 1000000000) : Ct l V yX5_leastLevel cX5_leastLevel 8 (some .int) 5 0 0 N σ [.ref a, .long x901, .ref r902] (fun r τ => HK V G (b, M, Z, T) [0, 1, 2, 3, 4, 5, 7, 8, 9, 10, 11, 12, 13, 14, 15, 16, 18, 19] σ τ ∧ ∃ x : Int32, r = some (.int x)) := by
  refine Ct.of (by decide) (Nat.le_of_ble_eq_true rfl) [(0, .ref a), (1, .long x901), (3, .ref r902)] rfl (fun X hX F hQ => ?_)
  have h1 : HK V G (b, M, Z, T) [0, 1, 2, 3, 4, 5, 7, 8, 9, 10, 11, 12, 13, 14, 15, 16, 18, 19] σ σ := HK.start h0
  refine m_aload_n F rfl e_X5_leastLevel_0 ?_
  refine m_ldc F kc_X5_130 e_X5_leastLevel_1 ?_
  refine m_aload_n F rfl e_X5_leastLevel_3 ?_
  refine t_callV F e_X5_leastLevel_4 (s_X5_worthOfLevel (x_l X) V G b M Z T _ _ a 9999999 r902 h1.1 hk k902 (by omega)) cb_X5_worthOfLevel ml_X5_131 im_X5_worthOfLevel se_X5_worthOfLevel (fun _ => o15) h1 hk rfl rfl (rest := []) rfl (Nat.le_of_ble_eq_true rfl) ⟨Nat.le_of_ble_eq_true rfl, Nat.le_of_ble_eq_true rfl⟩ ⟨Nat.le_of_ble_eq_true rfl, Nat.le_of_ble_eq_true rfl⟩ (fun r σ1104 hp => ?_)
  obtain ⟨h1106, rfl⟩ := hp
  have h1105 := HK.trans h1 h1106 (by decide)
  refine m_aload_n F rfl e_X5_leastLevel_7 ?_
  refine m_lload_n F rfl e_X5_leastLevel_8 ?_
  refine t_callV F e_X5_leastLevel_9 (s_X1_isAtLeast (x_l X) V G b M Z T _ _ r902 x901 h1105.1 k902  (by omega)) cb_X1_isAtLeast ml_X5_125 im_X1_isAtLeast se_X1_isAtLeast (fun _ => o6) h1105 k902 rfl rfl (rest := []) rfl (Nat.le_of_ble_eq_true rfl) ⟨Nat.le_of_ble_eq_true rfl, Nat.le_of_ble_eq_true rfl⟩ ⟨Nat.le_of_ble_eq_true rfl, Nat.le_of_ble_eq_true rfl⟩ (fun r σ1107 hp => ?_)
  obtain ⟨h1109, n1110, hn1110, rfl⟩ := hp
  have h1108 := HK.trans h1105 h1109 (by decide)
  refine m_if_ne F e_X5_leastLevel_12 (fun q12 => ?_) (fun q12 => ?_)
  · have c12 : n1110 ≠ 0 := by have hh := mt (nI_eq (a := n1110) (b := 0) (by omega) (by omega)).mpr q12; omega
    refine m_iconst F (v := 0) (by decide) e_X5_leastLevel_18 ?_
    refine m_istore F (lv' := [(4, .int 0), (0, .ref a), (1, .long x901), (3, .ref r902)]) e_X5_leastLevel_19 (by decide) rfl ?_
    refine m_ldc F kc_X5_130 e_X5_leastLevel_21 ?_
    refine m_istore F (lv' := [(5, .int 9999999), (4, .int 0), (0, .ref a), (1, .long x901), (3, .ref r902)]) e_X5_leastLevel_23 (by decide) rfl ?_
    refine m_iconst F (v := 0) (by decide) e_X5_leastLevel_25 ?_
    refine m_istore F (lv' := [(6, .int 0), (5, .int 9999999), (4, .int 0), (0, .ref a), (1, .long x901), (3, .ref r902)]) e_X5_leastLevel_26 (by decide) rfl ?_
    refine Wm.lvsub (lv' := [(4, .int 0), (5, .int 9999999), (6, .int 0), (0, .ref a), (1, .long x901), (3, .ref r902)]) ?_ [2, 1, 0, 3, 4, 5] rfl
    exact lp_X5_leastLevel_28 F hQ hk k902 hM (32 - 0 + 1) 0 9999999 0 _ h1108 (by omega) (Nat.lt_succ_self _)
  · have c12 : n1110 = 0 := (nI_eq (a := n1110) (b := 0) (by omega) (by omega)).mp q12
    refine m_bipush F (v := (-2)) (by decide) e_X5_leastLevel_15 ?_
    exact m_iret F hQ e_X5_leastLevel_17 (⟨h1108, _, rfl⟩)
set_option maxRecDepth 20000 in
theorem s_X5_followIndex (l : Launch) (V : VX) (G : GH) (b M Z T N : Nat) (σ : Mem) (a : Nat) (x901 : Int32) (h0 : HT V G (b, M, Z, T) σ) (hk : kA b a = 15) (hM : M + 0 ≤ 1000000000) : Ct l V yX5_followIndex cX5_followIndex 2 none 3 0 0 N σ [.ref a, .int x901] (fun r τ => HK V G (b, M, Z, T) [0, 1, 2, 3, 4, 5, 7, 8, 9, 10, 11, 12, 13, 14, 16, 18, 19] σ τ ∧ r = none) := by
  refine Ct.of (by decide) (Nat.le_of_ble_eq_true rfl) [(0, .ref a), (1, .int x901)] rfl (fun X hX F hQ => ?_)
  have h1 : HK V G (b, M, Z, T) [0, 1, 2, 3, 4, 5, 7, 8, 9, 10, 11, 12, 13, 14, 16, 18, 19] σ σ := HK.start h0
  refine m_aload_n F rfl e_X5_followIndex_0 ?_
  refine m_iload_n F rfl e_X5_followIndex_1 ?_
  refine t_put F e_X5_followIndex_2 fp_X5_57 (fun _ => o15) h1 hk rfl ⟨_, rfl⟩ rfl rfl (by decide) (fun σ1111 h1112 g1113 g1114 f1115 => ?_)
  refine m_aload_n F rfl e_X5_followIndex_5 ?_
  refine t_get F e_X5_followIndex_6 fl_X5_24 (fun _ => o15) h1112 hk rfl (fun v hv f1116 => ?_)
  obtain ⟨r1117, k1118, rfl⟩ := hv
  refine m_aload_n F rfl e_X5_followIndex_9 ?_
  refine t_get F e_X5_followIndex_10 fl_X5_28 (fun _ => o15) h1112 hk rfl (fun v hv f1119 => ?_)
  obtain ⟨r1120, k1121, rfl⟩ := hv
  refine m_aload_n F rfl e_X5_followIndex_13 ?_
  refine t_get F e_X5_followIndex_14 fl_X5_60 (fun _ => o15) h1112 hk rfl (fun v hv f1122 => ?_)
  obtain ⟨x1123, rfl⟩ := hv
  refine m_aload_n F rfl e_X5_followIndex_17 ?_
  refine t_get F e_X5_followIndex_18 fl_X5_42 (fun _ => o15) h1112 hk rfl (fun v hv f1124 => ?_)
  obtain ⟨x1125, rfl⟩ := hv
  refine m_iload_n F rfl e_X5_followIndex_21 ?_
  refine m_i2l F e_X5_followIndex_22 ?_
  refine Wm.topl (fun x1126 _ => ?_)
  refine m_aload_n F rfl e_X5_followIndex_23 ?_
  refine t_get F e_X5_followIndex_24 fl_X5_54 (fun _ => o15) h1112 hk rfl (fun v hv f1127 => ?_)
  obtain ⟨x1128, rfl⟩ := hv
  refine m_i2l F e_X5_followIndex_27 ?_
  refine Wm.topl (fun x1129 _ => ?_)
  refine t_callV F e_X5_followIndex_28 (s_X8_shareDownOf (x_l X) V G b M Z T _ _ r1117 r1120 x1123 x1125 x1126 x1129 h1112.1 k1118 k1121 (by omega)) cb_X8_shareDownOf ml_X5_134 im_X8_shareDownOf se_X8_shareDownOf (fun _ => o16) h1112 k1118 rfl rfl (rest := []) rfl (Nat.le_of_ble_eq_true rfl) ⟨Nat.le_of_ble_eq_true rfl, Nat.le_of_ble_eq_true rfl⟩ ⟨Nat.le_of_ble_eq_true rfl, Nat.le_of_ble_eq_true rfl⟩ (fun r σ1130 hp => ?_)
  obtain ⟨h1132, rfl⟩ := hp
  have h1131 := HK.trans h1112 h1132 (by decide)
  exact m_vret F hQ e_X5_followIndex_31 (⟨h1131, rfl⟩)
set_option maxRecDepth 20000 in
theorem lp_X5_goOnAsLast_2 {V : VX} {G : GH} {X : MX} {b M Z T N : Nat} {σ : Mem} {a : Nat} {n901 : Nat}  (F : Fx V X yX5_goOnAsLast cX5_goOnAsLast 3 none (rmd 2 0 0)) (hQ : Rt V X 0 0 N (fun r τ => HK V G (b, M, Z, T) [0, 1, 2, 3, 4, 5, 7, 8, 9, 10, 11, 12, 13, 14, 16, 18, 19] σ τ ∧ r = none)) (hk : kA b a = 15) (hn901 : n901 ≤ 24) (hM : M + 0 ≤ 1000000000)  : ∀ (fuel : Nat) (i : Nat) (τ : Mem), HK V G (b, M, Z, T) [0, 1, 2, 3, 4, 5, 7, 8, 9, 10, 11, 12, 13, 14, 16, 18, 19] σ τ → i ≤ 24 → 24 - i < fuel → Wm V X 3 N τ 0 0 2 [(2, .int (nI i)), (0, .ref a), (1, .int (nI n901))] [] := by
  intro fuel
  induction fuel with
  | zero => intro i τ h1 hi hm; exact absurd hm (Nat.not_lt_zero _)
  | succ fuel ih =>
    intro i τ h1 hi hm
    refine m_iload_n F rfl e_X5_goOnAsLast_2 ?_
    refine m_iload_n F rfl e_X5_goOnAsLast_3 ?_
    refine m_icmp_ge F e_X5_goOnAsLast_4 (fun q4 => ?_) (fun q4 => ?_)
    · have c4 : i ≥ n901 := (nI_leI (a := n901) (b := i) (by omega) (by omega)).mp q4
      exact m_vret F hQ e_X5_goOnAsLast_69 (⟨h1, rfl⟩)
    · have c4 : i < n901 := by have hh := mt (nI_leI (a := n901) (b := i) (by omega) (by omega)).mpr q4; omega
      refine m_aload_n F rfl e_X5_goOnAsLast_7 ?_
      refine m_aload_n F rfl e_X5_goOnAsLast_8 ?_
      refine t_get F e_X5_goOnAsLast_9 fl_X5_42 (fun _ => o15) h1 hk rfl (fun v hv f1133 => ?_)
      obtain ⟨x1134, rfl⟩ := hv
      refine t_callV F e_X5_goOnAsLast_12 (s_X5_owns (x_l X) V G b M Z T _ _ a x1134 h1.1 hk  (by omega)) cb_X5_owns ml_X5_138 im_X5_owns se_X5_owns (fun _ => o15) h1 hk rfl rfl (rest := []) rfl (Nat.le_of_ble_eq_true rfl) ⟨Nat.le_of_ble_eq_true rfl, Nat.le_of_ble_eq_true rfl⟩ ⟨Nat.le_of_ble_eq_true rfl, Nat.le_of_ble_eq_true rfl⟩ (fun r σ1135 hp => ?_)
      obtain ⟨h1137, n1138, hn1138, rfl⟩ := hp
      have h1136 := HK.trans h1 h1137 (by decide)
      refine m_if_eq F e_X5_goOnAsLast_15 (fun q15 => ?_) (fun q15 => ?_)
      · have c15 : n1138 = 0 := (nI_eq (a := n1138) (b := 0) (by omega) (by omega)).mp q15
        exact m_vret F hQ e_X5_goOnAsLast_69 (⟨h1136, rfl⟩)
      · have c15 : n1138 ≠ 0 := by have hh := mt (nI_eq (a := n1138) (b := 0) (by omega) (by omega)).mpr q15; omega
        refine m_aload_n F rfl e_X5_goOnAsLast_18 ?_
        refine t_getC F e_X5_goOnAsLast_19 fl_X5_42 (fun _ => o15) h1136 hk ((fld_eq (h1137.2 a (by rw [show kA _ a = 15 from hk]; decide))).trans f1133) ?_
        refine m_bipush F (v := 72) (by decide) e_X5_goOnAsLast_22 ?_
        refine m_icmp_ge F e_X5_goOnAsLast_24 (fun q24 => ?_) (fun q24 => ?_)
        · obtain ⟨n1139, hn1139, rfl⟩ := nI_nn (x := x1134) (fun e => Int32.lt_irrefl (Int32.lt_of_lt_of_le e (Int32.le_trans (by decide) q24)))
          have c24 : n1139 ≥ 72 := (nI_leI (a := 72) (b := n1139) (by omega) (by omega)).mp q24
          exact m_vret F hQ e_X5_goOnAsLast_69 (⟨h1136, rfl⟩)
        · refine m_aload_n F rfl e_X5_goOnAsLast_27 ?_
          refine t_get F e_X5_goOnAsLast_28 fl_X5_24 (fun _ => o15) h1136 hk rfl (fun v hv f1140 => ?_)
          obtain ⟨r1141, k1142, rfl⟩ := hv
          refine m_aload_n F rfl e_X5_goOnAsLast_31 ?_
          refine t_getC F e_X5_goOnAsLast_32 fl_X5_42 (fun _ => o15) h1136 hk ((fld_eq (h1137.2 a (by rw [show kA _ a = 15 from hk]; decide))).trans f1133) ?_
          refine m_iconst F (v := 1) (by decide) e_X5_goOnAsLast_35 ?_
          refine m_isub F e_X5_goOnAsLast_36 ?_
          refine Wm.top (fun x1143 _ => ?_)
          refine t_callV F e_X5_goOnAsLast_37 (s_X8_repeat (x_l X) V G b M Z T _ _ r1141 x1143 h1136.1 k1142  (by omega)) cb_X8_repeat ml_X5_142 im_X8_repeat se_X8_repeat (fun _ => o16) h1136 k1142 rfl rfl (rest := []) rfl (Nat.le_of_ble_eq_true rfl) ⟨Nat.le_of_ble_eq_true rfl, Nat.le_of_ble_eq_true rfl⟩ ⟨Nat.le_of_ble_eq_true rfl, Nat.le_of_ble_eq_true rfl⟩ (fun r σ1144 hp => ?_)
          obtain ⟨h1146, rfl⟩ := hp
          have h1145 := HK.trans h1136 h1146 (by decide)
          refine m_aload_n F rfl e_X5_goOnAsLast_40 ?_
          refine t_get F e_X5_goOnAsLast_41 fl_X5_28 (fun _ => o15) h1145 hk rfl (fun v hv f1147 => ?_)
          obtain ⟨r1148, k1149, rfl⟩ := hv
          refine m_aload_n F rfl e_X5_goOnAsLast_44 ?_
          refine t_getC F e_X5_goOnAsLast_45 fl_X5_42 (fun _ => o15) h1145 hk ((fld_eq (h1146.2 a (by rw [show kA _ a = 15 from hk]; decide))).trans ((fld_eq (h1137.2 a (by rw [show kA _ a = 15 from hk]; decide))).trans f1133)) ?_
          refine m_iconst F (v := 1) (by decide) e_X5_goOnAsLast_48 ?_
          refine m_isub F e_X5_goOnAsLast_49 ?_
          refine Wm.top (fun x1150 _ => ?_)
          refine t_callV F e_X5_goOnAsLast_50 (s_X8_repeat (x_l X) V G b M Z T _ _ r1148 x1150 h1145.1 k1149  (by omega)) cb_X8_repeat ml_X5_142 im_X8_repeat se_X8_repeat (fun _ => o16) h1145 k1149 rfl rfl (rest := []) rfl (Nat.le_of_ble_eq_true rfl) ⟨Nat.le_of_ble_eq_true rfl, Nat.le_of_ble_eq_true rfl⟩ ⟨Nat.le_of_ble_eq_true rfl, Nat.le_of_ble_eq_true rfl⟩ (fun r σ1151 hp => ?_)
          obtain ⟨h1153, rfl⟩ := hp
          have h1152 := HK.trans h1145 h1153 (by decide)
          refine m_aload_n F rfl e_X5_goOnAsLast_53 ?_
          refine m_dup F rfl e_X5_goOnAsLast_54 ?_
          refine t_getC F e_X5_goOnAsLast_55 fl_X5_42 (fun _ => o15) h1152 hk ((fld_eq (h1153.2 a (by rw [show kA _ a = 15 from hk]; decide))).trans ((fld_eq (h1146.2 a (by rw [show kA _ a = 15 from hk]; decide))).trans ((fld_eq (h1137.2 a (by rw [show kA _ a = 15 from hk]; decide))).trans f1133))) ?_
          refine m_iconst F (v := 1) (by decide) e_X5_goOnAsLast_58 ?_
          refine m_iadd F e_X5_goOnAsLast_59 ?_
          refine Wm.top (fun x1154 _ => ?_)
          refine t_put F e_X5_goOnAsLast_60 fp_X5_42 (fun _ => o15) h1152 hk rfl ⟨_, rfl⟩ rfl rfl (by decide) (fun σ1155 h1156 g1157 g1158 f1159 => ?_)
          refine m_iinc F (v := nI (i + 1)) (lv' := [(2, .int (nI (i + 1))), (0, .ref a), (1, .int (nI n901))]) e_X5_goOnAsLast_63 rfl (nI_add i 1) (by decide) rfl ?_
          refine m_goto F e_X5_goOnAsLast_66 ?_
          exact ih (i + 1) _ h1156 (by omega) (by omega)
set_option maxRecDepth 20000 in
theorem s_X5_goOnAsLast (l : Launch) (V : VX) (G : GH) (b M Z T N : Nat) (σ : Mem) (a : Nat) (n901 : Nat) (h0 : HT V G (b, M, Z, T) σ) (hk : kA b a = 15) (hn901 : n901 ≤ 24) (hM : M + 0 ≤ 1000000000) : Ct l V yX5_goOnAsLast cX5_goOnAsLast 3 none 2 0 0 N σ [.ref a, .int (nI n901)] (fun r τ => HK V G (b, M, Z, T) [0, 1, 2, 3, 4, 5, 7, 8, 9, 10, 11, 12, 13, 14, 16, 18, 19] σ τ ∧ r = none) := by
  refine Ct.of (by decide) (Nat.le_of_ble_eq_true rfl) [(0, .ref a), (1, .int (nI n901))] rfl (fun X hX F hQ => ?_)
  have h1 : HK V G (b, M, Z, T) [0, 1, 2, 3, 4, 5, 7, 8, 9, 10, 11, 12, 13, 14, 16, 18, 19] σ σ := HK.start h0
  refine m_iconst F (v := 0) (by decide) e_X5_goOnAsLast_0 ?_
  refine m_istore_n F (lv' := [(2, .int 0), (0, .ref a), (1, .int (nI n901))]) e_X5_goOnAsLast_1 (by decide) rfl ?_
  exact lp_X5_goOnAsLast_2 F hQ hk hn901 hM (24 - 0 + 1) 0 _ h1 (by omega) (Nat.lt_succ_self _)
set_option maxRecDepth 20000 in
theorem lp_X5_goOn_3 {V : VX} {G : GH} {X : MX} {b M Z T N : Nat} {σ : Mem} {a : Nat} {n901 : Nat} {x902 : Int64}  (F : Fx V X yX5_goOn cX5_goOn 5 none (rmd 2 0 0)) (hQ : Rt V X 0 0 N (fun r τ => HK V G (b, M, Z, T) [0, 1, 2, 3, 4, 5, 7, 8, 9, 10, 11, 12, 13, 14, 16, 18, 19] σ τ ∧ r = none)) (hk : kA b a = 15) (hn901 : n901 ≤ 24) (hM : M + 0 ≤ 1000000000)  : ∀ (fuel : Nat) (i : Nat) (τ : Mem), HK V G (b, M, Z, T) [0, 1, 2, 3, 4, 5, 7, 8, 9, 10, 11, 12, 13, 14, 16, 18, 19] σ τ → i ≤ 24 → 24 - i < fuel → Wm V X 5 N τ 0 0 3 [(4, .int (nI i)), (0, .ref a), (1, .int (nI n901)), (2, .long x902)] [] := by
  intro fuel
  induction fuel with
  | zero => intro i τ h1 hi hm; exact absurd hm (Nat.not_lt_zero _)
  | succ fuel ih =>
    intro i τ h1 hi hm
    refine m_iload F rfl e_X5_goOn_3 ?_
    refine m_iload_n F rfl e_X5_goOn_5 ?_
    refine m_icmp_ge F e_X5_goOn_6 (fun q6 => ?_) (fun q6 => ?_)
    · have c6 : i ≥ n901 := (nI_leI (a := n901) (b := i) (by omega) (by omega)).mp q6
      exact m_vret F hQ e_X5_goOn_58 (⟨h1, rfl⟩)
    · have c6 : i < n901 := by have hh := mt (nI_leI (a := n901) (b := i) (by omega) (by omega)).mpr q6; omega
      refine m_aload_n F rfl e_X5_goOn_9 ?_
      refine t_get F e_X5_goOn_10 fl_X5_42 (fun _ => o15) h1 hk rfl (fun v hv f1160 => ?_)
      obtain ⟨x1161, rfl⟩ := hv
      refine m_bipush F (v := 72) (by decide) e_X5_goOn_13 ?_
      refine m_icmp_ge F e_X5_goOn_15 (fun q15 => ?_) (fun q15 => ?_)
      · obtain ⟨n1162, hn1162, rfl⟩ := nI_nn (x := x1161) (fun e => Int32.lt_irrefl (Int32.lt_of_lt_of_le e (Int32.le_trans (by decide) q15)))
        have c15 : n1162 ≥ 72 := (nI_leI (a := 72) (b := n1162) (by omega) (by omega)).mp q15
        exact m_vret F hQ e_X5_goOn_58 (⟨h1, rfl⟩)
      · refine m_aload_n F rfl e_X5_goOn_18 ?_
        refine t_get F e_X5_goOn_19 fl_X5_24 (fun _ => o15) h1 hk rfl (fun v hv f1163 => ?_)
        obtain ⟨r1164, k1165, rfl⟩ := hv
        refine m_aload_n F rfl e_X5_goOn_22 ?_
        refine t_getC F e_X5_goOn_23 fl_X5_42 (fun _ => o15) h1 hk (f1160) ?_
        refine m_lload_n F rfl e_X5_goOn_26 ?_
        refine t_callV F e_X5_goOn_27 (s_X8_setAt (x_l X) V G b M Z T _ _ r1164 x1161 x902 h1.1 k1165  (by omega)) cb_X8_setAt ml_X5_146 im_X8_setAt se_X8_setAt (fun _ => o16) h1 k1165 rfl rfl (rest := []) rfl (Nat.le_of_ble_eq_true rfl) ⟨Nat.le_of_ble_eq_true rfl, Nat.le_of_ble_eq_true rfl⟩ ⟨Nat.le_of_ble_eq_true rfl, Nat.le_of_ble_eq_true rfl⟩ (fun r σ1166 hp => ?_)
        obtain ⟨h1168, rfl⟩ := hp
        have h1167 := HK.trans h1 h1168 (by decide)
        refine m_aload_n F rfl e_X5_goOn_30 ?_
        refine t_get F e_X5_goOn_31 fl_X5_28 (fun _ => o15) h1167 hk rfl (fun v hv f1169 => ?_)
        obtain ⟨r1170, k1171, rfl⟩ := hv
        refine m_aload_n F rfl e_X5_goOn_34 ?_
        refine t_getC F e_X5_goOn_35 fl_X5_42 (fun _ => o15) h1167 hk ((fld_eq (h1168.2 a (by rw [show kA _ a = 15 from hk]; decide))).trans f1160) ?_
        refine m_lload_n F rfl e_X5_goOn_38 ?_
        refine t_callV F e_X5_goOn_39 (s_X8_setAt (x_l X) V G b M Z T _ _ r1170 x1161 x902 h1167.1 k1171  (by omega)) cb_X8_setAt ml_X5_146 im_X8_setAt se_X8_setAt (fun _ => o16) h1167 k1171 rfl rfl (rest := []) rfl (Nat.le_of_ble_eq_true rfl) ⟨Nat.le_of_ble_eq_true rfl, Nat.le_of_ble_eq_true rfl⟩ ⟨Nat.le_of_ble_eq_true rfl, Nat.le_of_ble_eq_true rfl⟩ (fun r σ1172 hp => ?_)
        obtain ⟨h1174, rfl⟩ := hp
        have h1173 := HK.trans h1167 h1174 (by decide)
        refine m_aload_n F rfl e_X5_goOn_42 ?_
        refine m_dup F rfl e_X5_goOn_43 ?_
        refine t_getC F e_X5_goOn_44 fl_X5_42 (fun _ => o15) h1173 hk ((fld_eq (h1174.2 a (by rw [show kA _ a = 15 from hk]; decide))).trans ((fld_eq (h1168.2 a (by rw [show kA _ a = 15 from hk]; decide))).trans f1160)) ?_
        refine m_iconst F (v := 1) (by decide) e_X5_goOn_47 ?_
        refine m_iadd F e_X5_goOn_48 ?_
        refine Wm.top (fun x1175 _ => ?_)
        refine t_put F e_X5_goOn_49 fp_X5_42 (fun _ => o15) h1173 hk rfl ⟨_, rfl⟩ rfl rfl (by decide) (fun σ1176 h1177 g1178 g1179 f1180 => ?_)
        refine m_iinc F (v := nI (i + 1)) (lv' := [(4, .int (nI (i + 1))), (0, .ref a), (1, .int (nI n901)), (2, .long x902)]) e_X5_goOn_52 rfl (nI_add i 1) (by decide) rfl ?_
        refine m_goto F e_X5_goOn_55 ?_
        exact ih (i + 1) _ h1177 (by omega) (by omega)
set_option maxRecDepth 20000 in
theorem s_X5_goOn (l : Launch) (V : VX) (G : GH) (b M Z T N : Nat) (σ : Mem) (a : Nat) (n901 : Nat) (x902 : Int64) (h0 : HT V G (b, M, Z, T) σ) (hk : kA b a = 15) (hn901 : n901 ≤ 24) (hM : M + 0 ≤ 1000000000) : Ct l V yX5_goOn cX5_goOn 5 none 2 0 0 N σ [.ref a, .int (nI n901), .long x902] (fun r τ => HK V G (b, M, Z, T) [0, 1, 2, 3, 4, 5, 7, 8, 9, 10, 11, 12, 13, 14, 16, 18, 19] σ τ ∧ r = none) := by
  refine Ct.of (by decide) (Nat.le_of_ble_eq_true rfl) [(0, .ref a), (1, .int (nI n901)), (2, .long x902)] rfl (fun X hX F hQ => ?_)
  have h1 : HK V G (b, M, Z, T) [0, 1, 2, 3, 4, 5, 7, 8, 9, 10, 11, 12, 13, 14, 16, 18, 19] σ σ := HK.start h0
  refine m_iconst F (v := 0) (by decide) e_X5_goOn_0 ?_
  refine m_istore F (lv' := [(4, .int 0), (0, .ref a), (1, .int (nI n901)), (2, .long x902)]) e_X5_goOn_1 (by decide) rfl ?_
  exact lp_X5_goOn_3 F hQ hk hn901 hM (24 - 0 + 1) 0 _ h1 (by omega) (Nat.lt_succ_self _)
set_option maxRecDepth 20000 in
theorem s_X5_keepPart (l : Launch) (V : VX) (G : GH) (b M Z T N : Nat) (σ : Mem) (a : Nat) (x901 : Int64) (h0 : HT V G (b, M, Z, T) σ) (hk : kA b a = 15) (hM : M + 0 ≤ 1000000000) : Ct l V yX5_keepPart cX5_keepPart 3 none 3 0 0 N σ [.ref a, .long x901] (fun r τ => HK V G (b, M, Z, T) [0, 1, 2, 3, 4, 5, 7, 8, 9, 10, 11, 12, 13, 14, 15, 16, 18, 19] σ τ ∧ r = none) := by
  refine Ct.of (by decide) (Nat.le_of_ble_eq_true rfl) [(0, .ref a), (1, .long x901)] rfl (fun X hX F hQ => ?_)
  have h1 : HK V G (b, M, Z, T) [0, 1, 2, 3, 4, 5, 7, 8, 9, 10, 11, 12, 13, 14, 15, 16, 18, 19] σ σ := HK.start h0
  refine m_aload_n F rfl e_X5_keepPart_0 ?_
  refine t_get F e_X5_keepPart_1 fl_X5_24 (fun _ => o15) h1 hk rfl (fun v hv f1181 => ?_)
  obtain ⟨r1182, k1183, rfl⟩ := hv
  refine m_aload_n F rfl e_X5_keepPart_4 ?_
  refine t_getC F e_X5_keepPart_5 fl_X5_24 (fun _ => o15) h1 hk (f1181) ?_
  refine m_aload_n F rfl e_X5_keepPart_8 ?_
  refine t_get F e_X5_keepPart_9 fl_X5_60 (fun _ => o15) h1 hk rfl (fun v hv f1184 => ?_)
  obtain ⟨x1185, rfl⟩ := hv
  refine m_aload_n F rfl e_X5_keepPart_12 ?_
  refine t_get F e_X5_keepPart_13 fl_X5_42 (fun _ => o15) h1 hk rfl (fun v hv f1186 => ?_)
  obtain ⟨x1187, rfl⟩ := hv
  refine m_lload_n F rfl e_X5_keepPart_16 ?_
  refine m_ldc2 F kc_X5_149 e_X5_keepPart_17 ?_
  refine t_callV F e_X5_keepPart_20 (s_X8_shareDownOf (x_l X) V G b M Z T _ _ r1182 r1182 x1185 x1187 x901 1000 h1.1 k1183 k1183 (by omega)) cb_X8_shareDownOf ml_X5_134 im_X8_shareDownOf se_X8_shareDownOf (fun _ => o16) h1 k1183 rfl rfl (rest := []) rfl (Nat.le_of_ble_eq_true rfl) ⟨Nat.le_of_ble_eq_true rfl, Nat.le_of_ble_eq_true rfl⟩ ⟨Nat.le_of_ble_eq_true rfl, Nat.le_of_ble_eq_true rfl⟩ (fun r σ1188 hp => ?_)
  obtain ⟨h1190, rfl⟩ := hp
  have h1189 := HK.trans h1 h1190 (by decide)
  refine m_aload_n F rfl e_X5_keepPart_23 ?_
  refine t_get F e_X5_keepPart_24 fl_X5_28 (fun _ => o15) h1189 hk rfl (fun v hv f1191 => ?_)
  obtain ⟨r1192, k1193, rfl⟩ := hv
  refine m_aload_n F rfl e_X5_keepPart_27 ?_
  refine t_getC F e_X5_keepPart_28 fl_X5_28 (fun _ => o15) h1189 hk (f1191) ?_
  refine m_aload_n F rfl e_X5_keepPart_31 ?_
  refine t_getC F e_X5_keepPart_32 fl_X5_60 (fun _ => o15) h1189 hk ((fld_eq (h1190.2 a (by rw [show kA _ a = 15 from hk]; decide))).trans f1184) ?_
  refine m_aload_n F rfl e_X5_keepPart_35 ?_
  refine t_getC F e_X5_keepPart_36 fl_X5_42 (fun _ => o15) h1189 hk ((fld_eq (h1190.2 a (by rw [show kA _ a = 15 from hk]; decide))).trans f1186) ?_
  refine m_lload_n F rfl e_X5_keepPart_39 ?_
  refine m_ldc2 F kc_X5_149 e_X5_keepPart_40 ?_
  refine t_callV F e_X5_keepPart_43 (s_X8_shareDownOf (x_l X) V G b M Z T _ _ r1192 r1192 x1185 x1187 x901 1000 h1189.1 k1193 k1193 (by omega)) cb_X8_shareDownOf ml_X5_134 im_X8_shareDownOf se_X8_shareDownOf (fun _ => o16) h1189 k1193 rfl rfl (rest := []) rfl (Nat.le_of_ble_eq_true rfl) ⟨Nat.le_of_ble_eq_true rfl, Nat.le_of_ble_eq_true rfl⟩ ⟨Nat.le_of_ble_eq_true rfl, Nat.le_of_ble_eq_true rfl⟩ (fun r σ1194 hp => ?_)
  obtain ⟨h1196, rfl⟩ := hp
  have h1195 := HK.trans h1189 h1196 (by decide)
  exact m_vret F hQ e_X5_keepPart_46 (⟨h1195, rfl⟩)
set_option maxRecDepth 20000 in
theorem s_X5_movePayment (l : Launch) (V : VX) (G : GH) (b M Z T N : Nat) (σ : Mem) (a : Nat) (x901 : Int32) (x902 : Int32) (h0 : HT V G (b, M, Z, T) σ) (hk : kA b a = 15) (hM : M + 0 ≤ 1000000000) : Ct l V yX5_movePayment cX5_movePayment 3 none 3 0 0 N σ [.ref a, .int x901, .int x902] (fun r τ => HK V G (b, M, Z, T) [0, 1, 2, 3, 4, 5, 7, 8, 9, 10, 11, 12, 13, 14, 15, 16, 18, 19] σ τ ∧ r = none) := by
  refine Ct.of (by decide) (Nat.le_of_ble_eq_true rfl) [(0, .ref a), (1, .int x901), (2, .int x902)] rfl (fun X hX F hQ => ?_)
  have h1 : HK V G (b, M, Z, T) [0, 1, 2, 3, 4, 5, 7, 8, 9, 10, 11, 12, 13, 14, 15, 16, 18, 19] σ σ := HK.start h0
  refine m_aload_n F rfl e_X5_movePayment_0 ?_
  refine t_get F e_X5_movePayment_1 fl_X5_24 (fun _ => o15) h1 hk rfl (fun v hv f1197 => ?_)
  obtain ⟨r1198, k1199, rfl⟩ := hv
  refine m_iload_n F rfl e_X5_movePayment_4 ?_
  refine m_iload_n F rfl e_X5_movePayment_5 ?_
  refine t_callV F e_X5_movePayment_6 (s_X8_move (x_l X) V G b M Z T _ _ r1198 x901 x902 h1.1 k1199  (by omega)) cb_X8_move ml_X5_151 im_X8_move se_X8_move (fun _ => o16) h1 k1199 rfl rfl (rest := []) rfl (Nat.le_of_ble_eq_true rfl) ⟨Nat.le_of_ble_eq_true rfl, Nat.le_of_ble_eq_true rfl⟩ ⟨Nat.le_of_ble_eq_true rfl, Nat.le_of_ble_eq_true rfl⟩ (fun r σ1200 hp => ?_)
  obtain ⟨h1202, rfl⟩ := hp
  have h1201 := HK.trans h1 h1202 (by decide)
  refine m_aload_n F rfl e_X5_movePayment_9 ?_
  refine t_get F e_X5_movePayment_10 fl_X5_28 (fun _ => o15) h1201 hk rfl (fun v hv f1203 => ?_)
  obtain ⟨r1204, k1205, rfl⟩ := hv
  refine m_iload_n F rfl e_X5_movePayment_13 ?_
  refine m_iload_n F rfl e_X5_movePayment_14 ?_
  refine t_callV F e_X5_movePayment_15 (s_X8_move (x_l X) V G b M Z T _ _ r1204 x901 x902 h1201.1 k1205  (by omega)) cb_X8_move ml_X5_151 im_X8_move se_X8_move (fun _ => o16) h1201 k1205 rfl rfl (rest := []) rfl (Nat.le_of_ble_eq_true rfl) ⟨Nat.le_of_ble_eq_true rfl, Nat.le_of_ble_eq_true rfl⟩ ⟨Nat.le_of_ble_eq_true rfl, Nat.le_of_ble_eq_true rfl⟩ (fun r σ1206 hp => ?_)
  obtain ⟨h1208, rfl⟩ := hp
  have h1207 := HK.trans h1201 h1208 (by decide)
  exact m_vret F hQ e_X5_movePayment_18 (⟨h1207, rfl⟩)
set_option maxRecDepth 20000 in
theorem s_X5_owedBehind (l : Launch) (V : VX) (G : GH) (b M Z T N : Nat) (σ : Mem) (a : Nat) (r901 : Nat) (r902 : Nat) (h0 : HT V G (b, M, Z, T) σ) (hk : kA b a = 15) (k901 : kA b r901 = 6) (k902 : kA b r902 = 6) (hM : M + 0 ≤ 1000000000) : Ct l V yX5_owedBehind cX5_owedBehind 3 none 2 0 0 N σ [.ref a, .ref r901, .ref r902] (fun r τ => HK V G (b, M, Z, T) [0, 1, 2, 3, 4, 5, 7, 8, 9, 10, 11, 12, 13, 14, 15, 16, 17, 18, 19] σ τ ∧ r = none) := by
  refine Ct.of (by decide) (Nat.le_of_ble_eq_true rfl) [(0, .ref a), (1, .ref r901), (2, .ref r902)] rfl (fun X hX F hQ => ?_)
  have h1 : HK V G (b, M, Z, T) [0, 1, 2, 3, 4, 5, 7, 8, 9, 10, 11, 12, 13, 14, 15, 16, 17, 18, 19] σ σ := HK.start h0
  refine m_aload_n F rfl e_X5_owedBehind_0 ?_
  refine t_callV F e_X5_owedBehind_1 (s_X5_left (x_l X) V G b M Z T _ _ a  h1.1 hk  (by omega)) cb_X5_left ml_X5_155 im_X5_left se_X5_left (fun _ => o15) h1 hk rfl rfl (rest := []) rfl (Nat.le_of_ble_eq_true rfl) ⟨Nat.le_of_ble_eq_true rfl, Nat.le_of_ble_eq_true rfl⟩ ⟨Nat.le_of_ble_eq_true rfl, Nat.le_of_ble_eq_true rfl⟩ (fun r σ1209 hp => ?_)
  obtain ⟨h1211, x1212, rfl⟩ := hp
  have h1210 := HK.trans h1 h1211 (by decide)
  refine m_iconst F (v := 1) (by decide) e_X5_owedBehind_4 ?_
  refine m_icmp_gt F e_X5_owedBehind_5 (fun q5 => ?_) (fun q5 => ?_)
  · obtain ⟨n1213, hn1213, rfl⟩ := nI_nn (x := x1212) (fun e => Int32.lt_irrefl (Int32.lt_trans e (Int32.lt_of_le_of_lt (by decide) q5)))
    have c5 : n1213 > 1 := (nI_ltI (a := 1) (b := n1213) (by omega) (by omega)).mp q5
    refine m_aload_n F rfl e_X5_owedBehind_14 ?_
    refine m_aload_n F rfl e_X5_owedBehind_15 ?_
    refine t_get F e_X5_owedBehind_16 fl_X5_12 (fun _ => o15) h1210 hk rfl (fun v hv f1214 => ?_)
    obtain ⟨r1215, k1216, rfl⟩ := hv
    refine t_callV F e_X5_owedBehind_19 (s_X1_copyFrom (x_l X) V G b M Z T _ _ r902 r1215 h1210.1 k902 k1216 (by omega)) cb_X1_copyFrom ml_X5_89 im_X1_copyFrom se_X1_copyFrom (fun _ => o6) h1210 k902 rfl rfl (rest := []) rfl (Nat.le_of_ble_eq_true rfl) ⟨Nat.le_of_ble_eq_true rfl, Nat.le_of_ble_eq_true rfl⟩ ⟨Nat.le_of_ble_eq_true rfl, Nat.le_of_ble_eq_true rfl⟩ (fun r σ1217 hp => ?_)
    obtain ⟨h1219, rfl⟩ := hp
    have h1218 := HK.trans h1210 h1219 (by decide)
    refine m_aload_n F rfl e_X5_owedBehind_22 ?_
    refine t_get F e_X5_owedBehind_23 fl_X5_70 (fun _ => o15) h1218 hk rfl (fun v hv f1220 => ?_)
    obtain ⟨n1221, hn1221, rfl⟩ := hv
    replace hn1221 : n1221 ≤ 1 := hn1221
    refine m_if_ne F e_X5_owedBehind_26 (fun q26 => ?_) (fun q26 => ?_)
    · have c26 : n1221 ≠ 0 := by have hh := mt (nI_eq (a := n1221) (b := 0) (by omega) (by omega)).mpr q26; omega
      refine m_aload_n F rfl e_X5_owedBehind_45 ?_
      refine m_aload_n F rfl e_X5_owedBehind_46 ?_
      refine t_callV F e_X5_owedBehind_47 (s_X1_subtract (x_l X) V G b M Z T _ _ r902 r901 h1218.1 k902 k901 (by omega)) cb_X1_subtract ml_X5_159 im_X1_subtract se_X1_subtract (fun _ => o6) h1218 k902 rfl rfl (rest := []) rfl (Nat.le_of_ble_eq_true rfl) ⟨Nat.le_of_ble_eq_true rfl, Nat.le_of_ble_eq_true rfl⟩ ⟨Nat.le_of_ble_eq_true rfl, Nat.le_of_ble_eq_true rfl⟩ (fun r σ1222 hp => ?_)
      obtain ⟨h1224, rfl⟩ := hp
      have h1223 := HK.trans h1218 h1224 (by decide)
      refine m_aload_n F rfl e_X5_owedBehind_50 ?_
      refine t_callV F e_X5_owedBehind_51 (s_X1_holdToZero (x_l X) V G b M Z T _ _ r902  h1223.1 k902  (by omega)) cb_X1_holdToZero ml_X5_162 im_X1_holdToZero se_X1_holdToZero (fun _ => o6) h1223 k902 rfl rfl (rest := []) rfl (Nat.le_of_ble_eq_true rfl) ⟨Nat.le_of_ble_eq_true rfl, Nat.le_of_ble_eq_true rfl⟩ ⟨Nat.le_of_ble_eq_true rfl, Nat.le_of_ble_eq_true rfl⟩ (fun r σ1225 hp => ?_)
      obtain ⟨h1227, rfl⟩ := hp
      have h1226 := HK.trans h1223 h1227 (by decide)
      refine m_aload_n F rfl e_X5_owedBehind_54 ?_
      refine t_getC F e_X5_owedBehind_55 fl_X5_70 (fun _ => o15) h1226 hk ((fld_eq (h1227.2 a (by rw [show kA _ a = 15 from hk]; decide))).trans ((fld_eq (h1224.2 a (by rw [show kA _ a = 15 from hk]; decide))).trans f1220)) ?_
      refine m_if_eq F e_X5_owedBehind_58 (fun q58 => ?_) (fun q58 => ?_)
      · have c58 : n1221 = 0 := (nI_eq (a := n1221) (b := 0) (by omega) (by omega)).mp q58
        exact m_vret F hQ e_X5_owedBehind_77 (⟨h1226, rfl⟩)
      · have c58 : n1221 ≠ 0 := by have hh := mt (nI_eq (a := n1221) (b := 0) (by omega) (by omega)).mpr q58; omega
        refine m_aload_n F rfl e_X5_owedBehind_61 ?_
        refine m_ldc2 F kc_X5_109 e_X5_owedBehind_62 ?_
        refine m_aload_n F rfl e_X5_owedBehind_65 ?_
        refine t_get F e_X5_owedBehind_66 fl_X5_45 (fun _ => o15) h1226 hk rfl (fun v hv f1228 => ?_)
        obtain ⟨x1229, rfl⟩ := hv
        refine m_i2l F e_X5_owedBehind_69 ?_
        refine Wm.topl (fun x1230 _ => ?_)
        refine m_ladd F e_X5_owedBehind_70 ?_
        refine Wm.topl (fun x1231 _ => ?_)
        refine m_ldc2 F kc_X5_109 e_X5_owedBehind_71 ?_
        refine t_callV F e_X5_owedBehind_74 (s_X1_shareRounded (x_l X) V G b M Z T _ _ r902 x1231 1000000 h1226.1 k902  (by omega)) cb_X1_shareRounded ml_X5_121 im_X1_shareRounded se_X1_shareRounded (fun _ => o6) h1226 k902 rfl rfl (rest := []) rfl (Nat.le_of_ble_eq_true rfl) ⟨Nat.le_of_ble_eq_true rfl, Nat.le_of_ble_eq_true rfl⟩ ⟨Nat.le_of_ble_eq_true rfl, Nat.le_of_ble_eq_true rfl⟩ (fun r σ1232 hp => ?_)
        obtain ⟨h1234, rfl⟩ := hp
        have h1233 := HK.trans h1226 h1234 (by decide)
        exact m_vret F hQ e_X5_owedBehind_77 (⟨h1233, rfl⟩)
    · have c26 : n1221 = 0 := (nI_eq (a := n1221) (b := 0) (by omega) (by omega)).mp q26
      refine m_aload_n F rfl e_X5_owedBehind_29 ?_
      refine m_ldc2 F kc_X5_109 e_X5_owedBehind_30 ?_
      refine m_aload_n F rfl e_X5_owedBehind_33 ?_
      refine t_get F e_X5_owedBehind_34 fl_X5_45 (fun _ => o15) h1218 hk rfl (fun v hv f1235 => ?_)
      obtain ⟨x1236, rfl⟩ := hv
      refine m_i2l F e_X5_owedBehind_37 ?_
      refine Wm.topl (fun x1237 _ => ?_)
      refine m_ladd F e_X5_owedBehind_38 ?_
      refine Wm.topl (fun x1238 _ => ?_)
      refine m_ldc2 F kc_X5_109 e_X5_owedBehind_39 ?_
      refine t_callV F e_X5_owedBehind_42 (s_X1_shareRounded (x_l X) V G b M Z T _ _ r902 x1238 1000000 h1218.1 k902  (by omega)) cb_X1_shareRounded ml_X5_121 im_X1_shareRounded se_X1_shareRounded (fun _ => o6) h1218 k902 rfl rfl (rest := []) rfl (Nat.le_of_ble_eq_true rfl) ⟨Nat.le_of_ble_eq_true rfl, Nat.le_of_ble_eq_true rfl⟩ ⟨Nat.le_of_ble_eq_true rfl, Nat.le_of_ble_eq_true rfl⟩ (fun r σ1239 hp => ?_)
      obtain ⟨h1241, rfl⟩ := hp
      have h1240 := HK.trans h1218 h1241 (by decide)
      refine m_aload_n F rfl e_X5_owedBehind_45 ?_
      refine m_aload_n F rfl e_X5_owedBehind_46 ?_
      refine t_callV F e_X5_owedBehind_47 (s_X1_subtract (x_l X) V G b M Z T _ _ r902 r901 h1240.1 k902 k901 (by omega)) cb_X1_subtract ml_X5_159 im_X1_subtract se_X1_subtract (fun _ => o6) h1240 k902 rfl rfl (rest := []) rfl (Nat.le_of_ble_eq_true rfl) ⟨Nat.le_of_ble_eq_true rfl, Nat.le_of_ble_eq_true rfl⟩ ⟨Nat.le_of_ble_eq_true rfl, Nat.le_of_ble_eq_true rfl⟩ (fun r σ1242 hp => ?_)
      obtain ⟨h1244, rfl⟩ := hp
      have h1243 := HK.trans h1240 h1244 (by decide)
      refine m_aload_n F rfl e_X5_owedBehind_50 ?_
      refine t_callV F e_X5_owedBehind_51 (s_X1_holdToZero (x_l X) V G b M Z T _ _ r902  h1243.1 k902  (by omega)) cb_X1_holdToZero ml_X5_162 im_X1_holdToZero se_X1_holdToZero (fun _ => o6) h1243 k902 rfl rfl (rest := []) rfl (Nat.le_of_ble_eq_true rfl) ⟨Nat.le_of_ble_eq_true rfl, Nat.le_of_ble_eq_true rfl⟩ ⟨Nat.le_of_ble_eq_true rfl, Nat.le_of_ble_eq_true rfl⟩ (fun r σ1245 hp => ?_)
      obtain ⟨h1247, rfl⟩ := hp
      have h1246 := HK.trans h1243 h1247 (by decide)
      refine m_aload_n F rfl e_X5_owedBehind_54 ?_
      refine t_getC F e_X5_owedBehind_55 fl_X5_70 (fun _ => o15) h1246 hk ((fld_eq (h1247.2 a (by rw [show kA _ a = 15 from hk]; decide))).trans ((fld_eq (h1244.2 a (by rw [show kA _ a = 15 from hk]; decide))).trans ((fld_eq (h1241.2 a (by rw [show kA _ a = 15 from hk]; decide))).trans f1220))) ?_
      refine m_if_eq F e_X5_owedBehind_58 (fun q58 => ?_) (fun q58 => ?_)
      · have c58 : n1221 = 0 := (nI_eq (a := n1221) (b := 0) (by omega) (by omega)).mp q58
        exact m_vret F hQ e_X5_owedBehind_77 (⟨h1246, rfl⟩)
      · have c58 : n1221 ≠ 0 := by have hh := mt (nI_eq (a := n1221) (b := 0) (by omega) (by omega)).mpr q58; omega
        refine m_aload_n F rfl e_X5_owedBehind_61 ?_
        refine m_ldc2 F kc_X5_109 e_X5_owedBehind_62 ?_
        refine m_aload_n F rfl e_X5_owedBehind_65 ?_
        refine t_getC F e_X5_owedBehind_66 fl_X5_45 (fun _ => o15) h1246 hk ((fld_eq (h1247.2 a (by rw [show kA _ a = 15 from hk]; decide))).trans ((fld_eq (h1244.2 a (by rw [show kA _ a = 15 from hk]; decide))).trans ((fld_eq (h1241.2 a (by rw [show kA _ a = 15 from hk]; decide))).trans f1235))) ?_
        refine m_i2l F e_X5_owedBehind_69 ?_
        refine Wm.topl (fun x1248 _ => ?_)
        refine m_ladd F e_X5_owedBehind_70 ?_
        refine Wm.topl (fun x1249 _ => ?_)
        refine m_ldc2 F kc_X5_109 e_X5_owedBehind_71 ?_
        refine t_callV F e_X5_owedBehind_74 (s_X1_shareRounded (x_l X) V G b M Z T _ _ r902 x1249 1000000 h1246.1 k902  (by omega)) cb_X1_shareRounded ml_X5_121 im_X1_shareRounded se_X1_shareRounded (fun _ => o6) h1246 k902 rfl rfl (rest := []) rfl (Nat.le_of_ble_eq_true rfl) ⟨Nat.le_of_ble_eq_true rfl, Nat.le_of_ble_eq_true rfl⟩ ⟨Nat.le_of_ble_eq_true rfl, Nat.le_of_ble_eq_true rfl⟩ (fun r σ1250 hp => ?_)
        obtain ⟨h1252, rfl⟩ := hp
        have h1251 := HK.trans h1246 h1252 (by decide)
        exact m_vret F hQ e_X5_owedBehind_77 (⟨h1251, rfl⟩)
  · refine m_aload_n F rfl e_X5_owedBehind_8 ?_
    refine m_lconst F (v := 0) (by decide) e_X5_owedBehind_9 ?_
    refine t_callV F e_X5_owedBehind_10 (s_X1_set (x_l X) V G b M Z T _ _ r902 0 h1210.1 k902  (by omega)) cb_X1_set ml_X5_76 im_X1_set se_X1_set (fun _ => o6) h1210 k902 rfl rfl (rest := []) rfl (Nat.le_of_ble_eq_true rfl) ⟨Nat.le_of_ble_eq_true rfl, Nat.le_of_ble_eq_true rfl⟩ ⟨Nat.le_of_ble_eq_true rfl, Nat.le_of_ble_eq_true rfl⟩ (fun r σ1253 hp => ?_)
    obtain ⟨h1255, rfl⟩ := hp
    have h1254 := HK.trans h1210 h1255 (by decide)
    exact m_vret F hQ e_X5_owedBehind_13 (⟨h1254, rfl⟩)
set_option maxRecDepth 20000 in
theorem s_X2_clear (l : Launch) (V : VX) (G : GH) (b M Z T N : Nat) (σ : Mem) (a : Nat) (h0 : HT V G (b, M, Z, T) σ) (hk : kA b a = 7) (hg : ¬ G.gd (blk (a - b)) = 1) (hM : M + 0 ≤ 1000000000) : Ct l V yX2_clear cX2_clear 1 none 2 0 0 N σ [.ref a] (fun r τ => HK V G (b, M, Z, T) [0, 1, 2, 3, 4, 5, 6, 8, 9, 11, 13, 15, 16, 17, 18, 19] σ τ ∧ r = none) := by
  refine Ct.of (by decide) (Nat.le_of_ble_eq_true rfl) [(0, .ref a)] rfl (fun X hX F hQ => ?_)
  have h1 : HK V G (b, M, Z, T) [0, 1, 2, 3, 4, 5, 6, 8, 9, 11, 13, 15, 16, 17, 18, 19] σ σ := HK.start h0
  refine m_aload_n F rfl e_X2_clear_0 ?_
  refine m_iconst F (v := 0) (by decide) e_X2_clear_1 ?_
  refine t_put F e_X2_clear_2 fp_X2_58 (fun _ => o7) h1 hk rfl ⟨0, ⟨(show 0 ≤ 4 by omega), fun e => absurd e hg⟩, rfl⟩ rfl rfl (by decide) (fun σ1256 h1257 g1258 g1259 f1260 => ?_)
  refine m_aload_n F rfl e_X2_clear_5 ?_
  refine m_iconst F (v := 0) (by decide) e_X2_clear_6 ?_
  refine t_put F e_X2_clear_7 fp_X2_62 (fun _ => o7) h1257 hk rfl ⟨0, (show 0 ≤ 4 by omega), rfl⟩ rfl rfl (by decide) (fun σ1261 h1262 g1263 g1264 f1265 => ?_)
  refine m_aload_n F rfl e_X2_clear_10 ?_
  refine m_iconst F (v := 0) (by decide) e_X2_clear_11 ?_
  refine t_put F e_X2_clear_12 fp_X2_65 (fun _ => o7) h1262 hk rfl ⟨0, (show 0 ≤ 8 by omega), rfl⟩ rfl rfl (by decide) (fun σ1266 h1267 g1268 g1269 f1270 => ?_)
  refine m_aload_n F rfl e_X2_clear_15 ?_
  refine m_iconst F (v := 0) (by decide) e_X2_clear_16 ?_
  refine t_put F e_X2_clear_17 fp_X2_68 (fun _ => o7) h1267 hk rfl ⟨0, (show 0 ≤ M by omega), rfl⟩ rfl rfl (by decide) (fun σ1271 h1272 g1273 g1274 f1275 => ?_)
  refine m_aload_n F rfl e_X2_clear_20 ?_
  refine m_iconst F (v := 0) (by decide) e_X2_clear_21 ?_
  refine t_put F e_X2_clear_22 fp_X2_71 (fun _ => o7) h1272 hk rfl ⟨_, rfl⟩ rfl rfl (by decide) (fun σ1276 h1277 g1278 g1279 f1280 => ?_)
  refine m_aload_n F rfl e_X2_clear_25 ?_
  refine t_get F e_X2_clear_26 fl_X2_23 (fun _ => o7) h1277 hk rfl (fun v hv f1281 => ?_)
  obtain rfl : v = .ref (a + 3) := hv
  refine m_sipush F (v := 1000) (by decide) e_X2_clear_29 ?_
  refine m_callS F e_X2_clear_32 (s_J7_fill_53178_10 (x_l X) V G b M Z T _ _ (a + 3) 1000 h1277.1 (kA_7 hk (r := 3) (by decide)) (by omega)) cb_J7_fill_53178 ml_X2_52 sm_J7_fill_53178 rfl (rest := []) rfl (Nat.le_of_ble_eq_true rfl) ⟨Nat.le_of_ble_eq_true rfl, Nat.le_of_ble_eq_true rfl⟩ ⟨Nat.le_of_ble_eq_true rfl, Nat.le_of_ble_eq_true rfl⟩ (k' := 0) (z' := 0) (N' := N) rfl rfl rfl (fun r σ1282 hp => ?_)
  obtain ⟨h1284, rfl⟩ := hp
  have h1283 := HK.trans h1277 h1284 (by decide)
  refine m_aload_n F rfl e_X2_clear_35 ?_
  refine t_get F e_X2_clear_36 fl_X2_33 (fun _ => o7) h1283 hk rfl (fun v hv f1285 => ?_)
  obtain rfl : v = .ref (a + 5) := hv
  refine t_callV F e_X2_clear_39 (s_X3_clear (x_l X) V G b M Z T _ _ (a + 5)  h1283.1 (kA_7 hk (r := 5) (by decide))  (by omega)) cb_X3_clear ml_X2_74 im_X3_clear se_X3_clear (fun _ => o12) h1283 (kA_7 hk (r := 5) (by decide)) rfl rfl (rest := []) rfl (Nat.le_of_ble_eq_true rfl) ⟨Nat.le_of_ble_eq_true rfl, Nat.le_of_ble_eq_true rfl⟩ ⟨Nat.le_of_ble_eq_true rfl, Nat.le_of_ble_eq_true rfl⟩ (fun r σ1286 hp => ?_)
  obtain ⟨h1288, rfl⟩ := hp
  have h1287 := HK.trans h1283 h1288 (by decide)
  exact m_vret F hQ e_X2_clear_42 (⟨h1287, rfl⟩)
set_option maxRecDepth 20000 in
theorem lp_X2_copyFrom_114 {V : VX} {G : GH} {X : MX} {b M Z T N : Nat} {σ : Mem} {a : Nat} {r901 : Nat}  (F : Fx V X yX2_copyFrom cX2_copyFrom 3 none (rmd 3 0 0)) (hQ : Rt V X 0 0 N (fun r τ => HK V G (b, M, Z, T) [0, 1, 2, 3, 4, 5, 8, 9, 16] σ τ ∧ (G.gd (blk (r901 - b)) = 1 → BN τ G a) ∧ r = none)) (hk : kA b a = 7) (k901 : kA b r901 = 7) (hg : ¬ G.gd (blk (a - b)) = 1) (hM : M + 0 ≤ 1000000000)  : ∀ (fuel : Nat) (i : Nat) (τ : Mem), HK V G (b, M, Z, T) [0, 1, 2, 3, 4, 5, 8, 9, 16] σ τ → i ≤ 4 ∧ (G.gd (blk (r901 - b)) = 1 → BN τ G a) → 4 - i < fuel → Wm V X 3 N τ 0 0 114 [(2, .int (nI i)), (0, .ref a), (1, .ref r901)] [] := by
  intro fuel
  induction fuel with
  | zero => intro i τ h1 hi hm; exact absurd hm (Nat.not_lt_zero _)
  | succ fuel ih =>
    intro i τ h1 hi hm
    obtain ⟨hi0, hi1⟩ := hi
    refine m_iload_n F rfl e_X2_copyFrom_114 ?_
    refine m_aload_n F rfl e_X2_copyFrom_115 ?_
    refine t_get F e_X2_copyFrom_116 fl_X2_62 (fun _ => o7) h1 hk rfl (fun v hv f1289 => ?_)
    obtain ⟨n1290, hn1290, rfl⟩ := hv
    replace hn1290 : n1290 ≤ 4 := hn1290
    refine m_icmp_ge F e_X2_copyFrom_119 (fun q119 => ?_) (fun q119 => ?_)
    · have c119 : i ≥ n1290 := (nI_leI (a := n1290) (b := i) (by omega) (by omega)).mp q119
      exact m_vret F hQ e_X2_copyFrom_143 (⟨h1, hi1, rfl⟩)
    · have c119 : i < n1290 := by have hh := mt (nI_leI (a := n1290) (b := i) (by omega) (by omega)).mpr q119; omega
      refine m_aload_n F rfl e_X2_copyFrom_122 ?_
      refine t_get F e_X2_copyFrom_123 fl_X2_19 (fun _ => o7) h1 hk rfl (fun v hv f1291 => ?_)
      obtain rfl : v = .ref (a + 2) := hv
      refine m_iload_n F rfl e_X2_copyFrom_126 ?_
      refine t_aald9 F (j := i) e_X2_copyFrom_127 rfl h1 (kA_7 hk (r := 2) (by decide)) (nI_clamp (by omega)) (vp_in_nI (by omega) (by decide)) ?_
      refine m_aload_n F rfl e_X2_copyFrom_128 ?_
      refine t_get F e_X2_copyFrom_129 fl_X2_19 (fun _ => o7) h1 k901 rfl (fun v hv f1292 => ?_)
      obtain rfl : v = .ref (r901 + 2) := hv
      refine m_iload_n F rfl e_X2_copyFrom_132 ?_
      refine t_aald9 F (j := i) e_X2_copyFrom_133 rfl h1 (kA_7 k901 (r := 2) (by decide)) (nI_clamp (by omega)) (vp_in_nI (by omega) (by decide)) ?_
      refine t_callV F e_X2_copyFrom_134 (s_X6_copyFrom (x_l X) V G b M Z T _ _ ((a + 2) + 57 + i) ((r901 + 2) + 57 + i) h1.1 (kA_9 (kA_7 hk (r := 2) (by decide)) (j := i) (by omega)) (kA_9 (kA_7 k901 (r := 2) (by decide)) (j := i) (by omega)) (by omega)) cb_X6_copyFrom ml_X2_90 im_X6_copyFrom se_X6_copyFrom (fun _ => o19) h1 (kA_9 (kA_7 hk (r := 2) (by decide)) (j := i) (by omega)) rfl rfl (rest := []) rfl (Nat.le_of_ble_eq_true rfl) ⟨Nat.le_of_ble_eq_true rfl, Nat.le_of_ble_eq_true rfl⟩ ⟨Nat.le_of_ble_eq_true rfl, Nat.le_of_ble_eq_true rfl⟩ (fun r σ1293 hp => ?_)
      obtain ⟨h1295, rfl⟩ := hp
      have nb1296 : G.gd (blk (r901 - b)) = 1 → BN σ1293 G a := fun hq => (hi1 hq).hk (h1.1.bn k901 hq).1 hk h1295 (by decide) (by decide)
      have h1294 := HK.trans h1 h1295 (by decide)
      refine m_iinc F (v := nI (i + 1)) (lv' := [(2, .int (nI (i + 1))), (0, .ref a), (1, .ref r901)]) e_X2_copyFrom_137 rfl (nI_add i 1) (by decide) rfl ?_
      refine m_goto F e_X2_copyFrom_140 ?_
      exact ih (i + 1) _ h1294 ⟨by omega, nb1296⟩ (by omega)
set_option maxRecDepth 20000 in
theorem lp_X2_copyFrom_83 {V : VX} {G : GH} {X : MX} {b M Z T N : Nat} {σ : Mem} {a : Nat} {r901 : Nat}  (F : Fx V X yX2_copyFrom cX2_copyFrom 3 none (rmd 3 0 0)) (hQ : Rt V X 0 0 N (fun r τ => HK V G (b, M, Z, T) [0, 1, 2, 3, 4, 5, 8, 9, 16] σ τ ∧ (G.gd (blk (r901 - b)) = 1 → BN τ G a) ∧ r = none)) (hk : kA b a = 7) (k901 : kA b r901 = 7) (hg : ¬ G.gd (blk (a - b)) = 1) (hM : M + 0 ≤ 1000000000)  : ∀ (fuel : Nat) (i : Nat) (τ : Mem), HK V G (b, M, Z, T) [0, 1, 2, 3, 4, 5, 8, 9, 16] σ τ → i ≤ 4 ∧ (G.gd (blk (r901 - b)) = 1 → fld τ a 8 = some (.int (nI G.n0)) ∧ ∀ j, j < i → j < G.n0 → fld τ (a + 1 + 10 + 12 * j) 0 = some (.int (G.nm j))) → 4 - i < fuel → Wm V X 3 N τ 0 0 83 [(2, .int (nI i)), (0, .ref a), (1, .ref r901)] [] := by
  intro fuel
  induction fuel with
  | zero => intro i τ h1 hi hm; exact absurd hm (Nat.not_lt_zero _)
  | succ fuel ih =>
    intro i τ h1 hi hm
    obtain ⟨hi0, hi1⟩ := hi
    refine m_iload_n F rfl e_X2_copyFrom_83 ?_
    refine m_aload_n F rfl e_X2_copyFrom_84 ?_
    refine t_get F e_X2_copyFrom_85 fl_X2_58 (fun _ => o7) h1 hk rfl (fun v hv f1297 => ?_)
    obtain ⟨n1298, ⟨hn1298, gn1298⟩, rfl⟩ := hv
    replace hn1298 : n1298 ≤ 4 := hn1298
    refine m_icmp_ge F e_X2_copyFrom_88 (fun q88 => ?_) (fun q88 => ?_)
    · have c88 : i ≥ n1298 := (nI_leI (a := n1298) (b := i) (by omega) (by omega)).mp q88
      refine m_iconst F (v := 0) (by decide) e_X2_copyFrom_112 ?_
      refine m_istore_n F (lv' := [(2, .int 0), (0, .ref a), (1, .ref r901)]) e_X2_copyFrom_113 (by decide) rfl ?_
      exact lp_X2_copyFrom_114 F hQ hk k901 hg hM (4 + 1) 0 _ h1 ⟨by omega, fun hq => ⟨(hi1 hq).1, fun j hj => (hi1 hq).2 j (by have e8 := (h1.1.bn k901 hq).1; have e9 := nI_injT (by omega) (by omega) (Value.int.inj (Option.some.inj ((f1297).symm.trans (hi1 hq).1))); omega) hj⟩⟩ (by omega)
    · have c88 : i < n1298 := by have hh := mt (nI_leI (a := n1298) (b := i) (by omega) (by omega)).mpr q88; omega
      refine m_aload_n F rfl e_X2_copyFrom_91 ?_
      refine t_get F e_X2_copyFrom_92 fl_X2_11 (fun _ => o7) h1 hk rfl (fun v hv f1299 => ?_)
      obtain rfl : v = .ref (a + 1) := hv
      refine m_iload_n F rfl e_X2_copyFrom_95 ?_
      refine t_aald8 F (j := i) e_X2_copyFrom_96 rfl h1 (kA_7 hk (r := 1) (by decide)) (nI_clamp (by omega)) (vp_in_nI (by omega) (by decide)) ?_
      refine m_aload_n F rfl e_X2_copyFrom_97 ?_
      refine t_get F e_X2_copyFrom_98 fl_X2_11 (fun _ => o7) h1 k901 rfl (fun v hv f1300 => ?_)
      obtain rfl : v = .ref (r901 + 1) := hv
      refine m_iload_n F rfl e_X2_copyFrom_101 ?_
      refine t_aald8 F (j := i) e_X2_copyFrom_102 rfl h1 (kA_7 k901 (r := 1) (by decide)) (nI_clamp (by omega)) (vp_in_nI (by omega) (by decide)) ?_
      refine t_callV F e_X2_copyFrom_103 (s_X5_copyFrom (x_l X) V G b M Z T _ _ ((a + 1) + 10 + 12 * i) ((r901 + 1) + 10 + 12 * i) h1.1 (kA_8 (kA_7 hk (r := 1) (by decide)) (j := i) (by omega)) (kA_8 (kA_7 k901 (r := 1) (by decide)) (j := i) (by omega)) (gd_le hk (j := i) (by omega) hg) (by omega)) cb_X5_copyFrom ml_X2_87 im_X5_copyFrom se_X5_copyFrom (fun _ => o15) h1 (kA_8 (kA_7 hk (r := 1) (by decide)) (j := i) (by omega)) rfl rfl (rest := []) rfl (Nat.le_of_ble_eq_true rfl) ⟨Nat.le_of_ble_eq_true rfl, Nat.le_of_ble_eq_true rfl⟩ ⟨Nat.le_of_ble_eq_true rfl, Nat.le_of_ble_eq_true rfl⟩ (fun r σ1301 hp => ?_)
      obtain ⟨h1303, ⟨e1305, eo1306⟩, rfl⟩ := hp
      have nb1304 : G.gd (blk (r901 - b)) = 1 → fld σ1301 a 8 = some (.int (nI G.n0)) ∧ ∀ j, j < i + 1 → j < G.n0 → fld σ1301 (a + 1 + 10 + 12 * j) 0 = some (.int (G.nm j)) := fun hq => ⟨(fld_eq (h1303.2 a (by rw [show kA _ a = 7 from hk]; decide))).trans (hi1 hq).1, fun j hj hl => by
        have hb := h1.1.bn k901 hq
        by_cases e : j = i
        · rw [e]; exact e1305.trans (hb.2.2 i (by omega))
        · exact (eo1306 _ (by omega) (kA_8 (kA_7 hk (r := 1) (by decide)) (j := j) (by omega))).trans ((hi1 hq).2 j (by omega) hl)⟩
      have h1302 := HK.trans h1 h1303 (by decide)
      refine m_iinc F (v := nI (i + 1)) (lv' := [(2, .int (nI (i + 1))), (0, .ref a), (1, .ref r901)]) e_X2_copyFrom_106 rfl (nI_add i 1) (by decide) rfl ?_
      refine m_goto F e_X2_copyFrom_109 ?_
      exact ih (i + 1) _ h1302 ⟨by omega, nb1304⟩ (by omega)
set_option maxRecDepth 20000 in
theorem s_X2_copyFrom (l : Launch) (V : VX) (G : GH) (b M Z T N : Nat) (σ : Mem) (a : Nat) (r901 : Nat) (h0 : HT V G (b, M, Z, T) σ) (hk : kA b a = 7) (k901 : kA b r901 = 7) (hg : ¬ G.gd (blk (a - b)) = 1) (hM : M + 0 ≤ 1000000000) : Ct l V yX2_copyFrom cX2_copyFrom 3 none 3 0 0 N σ [.ref a, .ref r901] (fun r τ => HK V G (b, M, Z, T) [0, 1, 2, 3, 4, 5, 8, 9, 16] σ τ ∧ (G.gd (blk (r901 - b)) = 1 → BN τ G a) ∧ r = none) := by
  refine Ct.of (by decide) (Nat.le_of_ble_eq_true rfl) [(0, .ref a), (1, .ref r901)] rfl (fun X hX F hQ => ?_)
  have h1 : HK V G (b, M, Z, T) [0, 1, 2, 3, 4, 5, 8, 9, 16] σ σ := HK.start h0
  refine m_aload_n F rfl e_X2_copyFrom_0 ?_
  refine m_aload_n F rfl e_X2_copyFrom_1 ?_
  refine t_get F e_X2_copyFrom_2 fl_X2_58 (fun _ => o7) h1 k901 rfl (fun v hv f1307 => ?_)
  obtain ⟨n1308, ⟨hn1308, gn1308⟩, rfl⟩ := hv
  replace hn1308 : n1308 ≤ 4 := hn1308
  refine t_put F e_X2_copyFrom_5 fp_X2_58 (fun _ => o7) h1 hk rfl ⟨n1308, ⟨(show n1308 ≤ 4 by omega), fun e => absurd e hg⟩, rfl⟩ rfl rfl (by decide) (fun σ1309 h1310 g1311 g1312 f1313 => ?_)
  refine m_aload_n F rfl e_X2_copyFrom_8 ?_
  refine m_aload_n F rfl e_X2_copyFrom_9 ?_
  refine t_get F e_X2_copyFrom_10 fl_X2_62 (fun _ => o7) h1310 k901 rfl (fun v hv f1314 => ?_)
  obtain ⟨n1315, hn1315, rfl⟩ := hv
  replace hn1315 : n1315 ≤ 4 := hn1315
  refine t_put F e_X2_copyFrom_13 fp_X2_62 (fun _ => o7) h1310 hk rfl ⟨n1315, (show n1315 ≤ 4 by omega), rfl⟩ rfl rfl (by decide) (fun σ1316 h1317 g1318 g1319 f1320 => ?_)
  refine m_aload_n F rfl e_X2_copyFrom_16 ?_
  refine m_aload_n F rfl e_X2_copyFrom_17 ?_
  refine t_get F e_X2_copyFrom_18 fl_X2_65 (fun _ => o7) h1317 k901 rfl (fun v hv f1321 => ?_)
  obtain ⟨n1322, hn1322, rfl⟩ := hv
  replace hn1322 : n1322 ≤ 8 := hn1322
  refine t_put F e_X2_copyFrom_21 fp_X2_65 (fun _ => o7) h1317 hk rfl ⟨n1322, (show n1322 ≤ 8 by omega), rfl⟩ rfl rfl (by decide) (fun σ1323 h1324 g1325 g1326 f1327 => ?_)
  refine m_aload_n F rfl e_X2_copyFrom_24 ?_
  refine m_aload_n F rfl e_X2_copyFrom_25 ?_
  refine t_get F e_X2_copyFrom_26 fl_X2_68 (fun _ => o7) h1324 k901 rfl (fun v hv f1328 => ?_)
  obtain ⟨n1329, hn1329, rfl⟩ := hv
  replace hn1329 : n1329 ≤ M := hn1329
  refine t_put F e_X2_copyFrom_29 fp_X2_68 (fun _ => o7) h1324 hk rfl ⟨n1329, (show n1329 ≤ M by omega), rfl⟩ rfl rfl (by decide) (fun σ1330 h1331 g1332 g1333 f1334 => ?_)
  refine m_aload_n F rfl e_X2_copyFrom_32 ?_
  refine m_aload_n F rfl e_X2_copyFrom_33 ?_
  refine t_get F e_X2_copyFrom_34 fl_X2_71 (fun _ => o7) h1331 k901 rfl (fun v hv f1335 => ?_)
  obtain ⟨x1336, rfl⟩ := hv
  refine t_put F e_X2_copyFrom_37 fp_X2_71 (fun _ => o7) h1331 hk rfl ⟨_, rfl⟩ rfl rfl (by decide) (fun σ1337 h1338 g1339 g1340 f1341 => ?_)
  refine m_aload_n F rfl e_X2_copyFrom_40 ?_
  refine t_get F e_X2_copyFrom_41 fl_X2_23 (fun _ => o7) h1338 k901 rfl (fun v hv f1342 => ?_)
  obtain rfl : v = .ref (r901 + 3) := hv
  refine m_iconst F (v := 0) (by decide) e_X2_copyFrom_44 ?_
  refine m_aload_n F rfl e_X2_copyFrom_45 ?_
  refine t_get F e_X2_copyFrom_46 fl_X2_23 (fun _ => o7) h1338 hk rfl (fun v hv f1343 => ?_)
  obtain rfl : v = .ref (a + 3) := hv
  refine m_iconst F (v := 0) (by decide) e_X2_copyFrom_49 ?_
  refine m_bipush F (v := 100) (by decide) e_X2_copyFrom_50 ?_
  refine t_copyI F (len := 100) e_X2_copyFrom_52 ac_X2_77 (fun _ => o10) (fun _ => o10) h1338 (kA_7 k901 (r := 3) (by decide)) (kA_7 hk (r := 3) (by decide)) (by decide) (by decide) (by decide) (by decide) (Nat.le_of_ble_eq_true rfl) (Nat.le_of_ble_eq_true rfl) (by decide) (fun σ1344 h1345 g1346 => ?_)
  refine m_aload_n F rfl e_X2_copyFrom_55 ?_
  refine t_get F e_X2_copyFrom_56 fl_X2_27 (fun _ => o7) h1345 k901 rfl (fun v hv f1347 => ?_)
  obtain rfl : v = .ref (r901 + 4) := hv
  refine m_iconst F (v := 0) (by decide) e_X2_copyFrom_59 ?_
  refine m_aload_n F rfl e_X2_copyFrom_60 ?_
  refine t_get F e_X2_copyFrom_61 fl_X2_27 (fun _ => o7) h1345 hk rfl (fun v hv f1348 => ?_)
  obtain rfl : v = .ref (a + 4) := hv
  refine m_iconst F (v := 0) (by decide) e_X2_copyFrom_64 ?_
  refine m_bipush F (v := 8) (by decide) e_X2_copyFrom_65 ?_
  refine t_copyI F (len := 8) e_X2_copyFrom_67 ac_X2_77 (fun _ => o11) (fun _ => o11) h1345 (kA_7 k901 (r := 4) (by decide)) (kA_7 hk (r := 4) (by decide)) (by decide) (by decide) (by decide) (by decide) (Nat.le_of_ble_eq_true rfl) (Nat.le_of_ble_eq_true rfl) (by decide) (fun σ1349 h1350 g1351 => ?_)
  refine m_aload_n F rfl e_X2_copyFrom_70 ?_
  refine t_get F e_X2_copyFrom_71 fl_X2_33 (fun _ => o7) h1350 hk rfl (fun v hv f1352 => ?_)
  obtain rfl : v = .ref (a + 5) := hv
  refine m_aload_n F rfl e_X2_copyFrom_74 ?_
  refine t_get F e_X2_copyFrom_75 fl_X2_33 (fun _ => o7) h1350 k901 rfl (fun v hv f1353 => ?_)
  obtain rfl : v = .ref (r901 + 5) := hv
  refine t_callV F e_X2_copyFrom_78 (s_X3_copyFrom (x_l X) V G b M Z T _ _ (a + 5) (r901 + 5) h1350.1 (kA_7 hk (r := 5) (by decide)) (kA_7 k901 (r := 5) (by decide)) (by omega)) cb_X3_copyFrom ml_X2_83 im_X3_copyFrom se_X3_copyFrom (fun _ => o12) h1350 (kA_7 hk (r := 5) (by decide)) rfl rfl (rest := []) rfl (Nat.le_of_ble_eq_true rfl) ⟨Nat.le_of_ble_eq_true rfl, Nat.le_of_ble_eq_true rfl⟩ ⟨Nat.le_of_ble_eq_true rfl, Nat.le_of_ble_eq_true rfl⟩ (fun r σ1354 hp => ?_)
  obtain ⟨h1356, rfl⟩ := hp
  have h1355 := HK.trans h1350 h1356 (by decide)
  refine m_iconst F (v := 0) (by decide) e_X2_copyFrom_81 ?_
  refine m_istore_n F (lv' := [(2, .int 0), (0, .ref a), (1, .ref r901)]) e_X2_copyFrom_82 (by decide) rfl ?_
  exact lp_X2_copyFrom_83 F hQ hk k901 hg hM (4 + 1) 0 _ h1355 ⟨by omega, fun hq => ⟨(by rw [← gn1308 hq]; exact (fld_eq (h1356.2 a (by rw [show kA _ a = 7 from hk]; decide))).trans ((g1351 a 8 (fun e => absurd ((hk).symm.trans e) (by decide))).trans ((g1346 a 8 (fun e => absurd ((hk).symm.trans e) (by decide))).trans ((g1340 8 (by decide)).trans ((g1333 8 (by decide)).trans ((g1326 8 (by decide)).trans ((g1319 8 (by decide)).trans f1313))))))), fun j hj => absurd hj (Nat.not_lt_zero _)⟩⟩ (by omega)
set_option maxRecDepth 20000 in
theorem lp_X2_leaseNamed_2 {V : VX} {G : GH} {X : MX} {b M Z T N : Nat} {σ : Mem} {a : Nat} {x901 : Int32}  (F : Fx V X yX2_leaseNamed cX2_leaseNamed 3 (some .int) (rmd 0 0 0)) (hQ : Rt V X 0 0 N (fun r τ => HK V G (b, M, Z, T) [0, 1, 2, 3, 4, 5, 6, 7, 8, 9, 10, 11, 12, 13, 14, 15, 16, 17, 18, 19] σ τ ∧ ((∃ n : Nat, n ≤ 3 ∧ r = some (.int (nI n))) ∨ r = some (.int (-1))))) (hk : kA b a = 7) (hM : M + 0 ≤ 1000000000)  : ∀ (fuel : Nat) (i : Nat) (τ : Mem), HK V G (b, M, Z, T) [0, 1, 2, 3, 4, 5, 6, 7, 8, 9, 10, 11, 12, 13, 14, 15, 16, 17, 18, 19] σ τ → i ≤ 4 → 4 - i < fuel → Wm V X 3 N τ 0 0 2 [(2, .int (nI i)), (0, .ref a), (1, .int x901)] [] := by
  intro fuel
  induction fuel with
  | zero => intro i τ h1 hi hm; exact absurd hm (Nat.not_lt_zero _)
  | succ fuel ih =>
    intro i τ h1 hi hm
    refine m_iload_n F rfl e_X2_leaseNamed_2 ?_
    refine m_aload_n F rfl e_X2_leaseNamed_3 ?_
    refine t_get F e_X2_leaseNamed_4 fl_X2_58 (fun _ => o7) h1 hk rfl (fun v hv f1357 => ?_)
    obtain ⟨n1358, ⟨hn1358, gn1358⟩, rfl⟩ := hv
    replace hn1358 : n1358 ≤ 4 := hn1358
    refine m_icmp_ge F e_X2_leaseNamed_7 (fun q7 => ?_) (fun q7 => ?_)
    · have c7 : i ≥ n1358 := (nI_leI (a := n1358) (b := i) (by omega) (by omega)).mp q7
      refine m_iconst F (v := (-1)) (by decide) e_X2_leaseNamed_31 ?_
      exact m_iret F hQ e_X2_leaseNamed_32 (⟨h1, Or.inr rfl⟩)
    · have c7 : i < n1358 := by have hh := mt (nI_leI (a := n1358) (b := i) (by omega) (by omega)).mpr q7; omega
      refine m_aload_n F rfl e_X2_leaseNamed_10 ?_
      refine t_get F e_X2_leaseNamed_11 fl_X2_11 (fun _ => o7) h1 hk rfl (fun v hv f1359 => ?_)
      obtain rfl : v = .ref (a + 1) := hv
      refine m_iload_n F rfl e_X2_leaseNamed_14 ?_
      refine t_aald8 F (j := i) e_X2_leaseNamed_15 rfl h1 (kA_7 hk (r := 1) (by decide)) (nI_clamp (by omega)) (vp_in_nI (by omega) (by decide)) ?_
      refine t_get F e_X2_leaseNamed_16 fl_X2_113 (fun _ => o15) h1 (kA_8 (kA_7 hk (r := 1) (by decide)) (j := i) (by omega)) rfl (fun v hv f1360 => ?_)
      obtain ⟨x1361, gx1361, rfl⟩ := hv
      refine m_iload_n F rfl e_X2_leaseNamed_19 ?_
      refine m_icmp_ne F e_X2_leaseNamed_20 (fun q20 => ?_) (fun q20 => ?_)
      · refine m_iinc F (v := nI (i + 1)) (lv' := [(2, .int (nI (i + 1))), (0, .ref a), (1, .int x901)]) e_X2_leaseNamed_25 rfl (nI_add i 1) (by decide) rfl ?_
        refine m_goto F e_X2_leaseNamed_28 ?_
        exact ih (i + 1) _ h1 (by omega) (by omega)
      · refine m_iload_n F rfl e_X2_leaseNamed_23 ?_
        exact m_iret F hQ e_X2_leaseNamed_24 (⟨h1, Or.inl ⟨i, by omega, rfl⟩⟩)
set_option maxRecDepth 20000 in
theorem s_X2_leaseNamed (l : Launch) (V : VX) (G : GH) (b M Z T N : Nat) (σ : Mem) (a : Nat) (x901 : Int32) (h0 : HT V G (b, M, Z, T) σ) (hk : kA b a = 7) (hM : M + 0 ≤ 1000000000) : Ct l V yX2_leaseNamed cX2_leaseNamed 3 (some .int) 0 0 0 N σ [.ref a, .int x901] (fun r τ => HK V G (b, M, Z, T) [0, 1, 2, 3, 4, 5, 6, 7, 8, 9, 10, 11, 12, 13, 14, 15, 16, 17, 18, 19] σ τ ∧ ((∃ n : Nat, n ≤ 3 ∧ r = some (.int (nI n))) ∨ r = some (.int (-1)))) := by
  refine Ct.of (by decide) (Nat.le_of_ble_eq_true rfl) [(0, .ref a), (1, .int x901)] rfl (fun X hX F hQ => ?_)
  have h1 : HK V G (b, M, Z, T) [0, 1, 2, 3, 4, 5, 6, 7, 8, 9, 10, 11, 12, 13, 14, 15, 16, 17, 18, 19] σ σ := HK.start h0
  refine m_iconst F (v := 0) (by decide) e_X2_leaseNamed_0 ?_
  refine m_istore_n F (lv' := [(2, .int 0), (0, .ref a), (1, .int x901)]) e_X2_leaseNamed_1 (by decide) rfl ?_
  exact lp_X2_leaseNamed_2 F hQ hk hM (4 - 0 + 1) 0 _ h1 (by omega) (Nat.lt_succ_self _)
set_option maxRecDepth 20000 in
theorem lp_X2_findRates_2 {V : VX} {G : GH} {X : MX} {b M Z T N : Nat} {σ : Mem} {a : Nat} {r901 : Nat}  (F : Fx V X yX2_findRates cX2_findRates 5 none (rmd 4 0 0)) (hQ : Rt V X 0 0 N (fun r τ => HK V G (b, M, Z, T) [0, 1, 2, 3, 4, 5, 7, 8, 9, 10, 11, 12, 13, 14, 16, 17, 18, 19] σ τ ∧ r = none)) (hk : kA b a = 7) (k901 : kA b r901 = 6) (hM : M + 0 ≤ 1000000000)  : ∀ (fuel : Nat) (i : Nat) (τ : Mem), HK V G (b, M, Z, T) [0, 1, 2, 3, 4, 5, 7, 8, 9, 10, 11, 12, 13, 14, 16, 17, 18, 19] σ τ → i ≤ 4 → 4 - i < fuel → Wm V X 5 N τ 0 0 2 [(2, .int (nI i)), (0, .ref a), (1, .ref r901)] [] := by
  intro fuel
  induction fuel with
  | zero => intro i τ h1 hi hm; exact absurd hm (Nat.not_lt_zero _)
  | succ fuel ih =>
    intro i τ h1 hi hm
    refine m_iload_n F rfl e_X2_findRates_2 ?_
    refine m_aload_n F rfl e_X2_findRates_3 ?_
    refine t_get F e_X2_findRates_4 fl_X2_58 (fun _ => o7) h1 hk rfl (fun v hv f1362 => ?_)
    obtain ⟨n1363, ⟨hn1363, gn1363⟩, rfl⟩ := hv
    replace hn1363 : n1363 ≤ 4 := hn1363
    refine m_icmp_ge F e_X2_findRates_7 (fun q7 => ?_) (fun q7 => ?_)
    · have c7 : i ≥ n1363 := (nI_leI (a := n1363) (b := i) (by omega) (by omega)).mp q7
      exact m_vret F hQ e_X2_findRates_64 (⟨h1, rfl⟩)
    · have c7 : i < n1363 := by have hh := mt (nI_leI (a := n1363) (b := i) (by omega) (by omega)).mpr q7; omega
      refine m_aload_n F rfl e_X2_findRates_10 ?_
      refine t_get F e_X2_findRates_11 fl_X2_11 (fun _ => o7) h1 hk rfl (fun v hv f1364 => ?_)
      obtain rfl : v = .ref (a + 1) := hv
      refine m_iload_n F rfl e_X2_findRates_14 ?_
      refine t_aald8 F (j := i) e_X2_findRates_15 rfl h1 (kA_7 hk (r := 1) (by decide)) (nI_clamp (by omega)) (vp_in_nI (by omega) (by decide)) ?_
      refine m_astore_n F (lv' := [(3, .ref ((a + 1) + 10 + 12 * i)), (2, .int (nI i)), (0, .ref a), (1, .ref r901)]) e_X2_findRates_16 (by decide) rfl ?_
      refine m_aload_n F rfl e_X2_findRates_17 ?_
      refine t_get F e_X2_findRates_18 fl_X2_116 (fun _ => o15) h1 (kA_8 (kA_7 hk (r := 1) (by decide)) (j := i) (by omega)) rfl (fun v hv f1365 => ?_)
      obtain ⟨x1366, rfl⟩ := hv
      refine m_if_le F e_X2_findRates_21 (fun q21 => ?_) (fun q21 => ?_)
      · refine m_bipush F (v := (-2)) (by decide) e_X2_findRates_38 ?_
        refine m_istore F (lv' := [(4, .int (-2)), (3, .ref ((a + 1) + 10 + 12 * i)), (2, .int (nI i)), (0, .ref a), (1, .ref r901)]) e_X2_findRates_40 (by decide) rfl ?_
        refine m_iload F rfl e_X2_findRates_42 ?_
        refine m_if_lt F e_X2_findRates_44 (fun _ => ?_) (fun q => absurd (by decide) q)
        refine m_iinc F (v := nI (i + 1)) (lv' := [(2, .int (nI (i + 1))), (4, .int (-2)), (3, .ref ((a + 1) + 10 + 12 * i)), (0, .ref a), (1, .ref r901)]) e_X2_findRates_58 rfl (nI_add i 1) (by decide) rfl ?_
        refine m_goto F e_X2_findRates_61 ?_
        refine Wm.lvsub (lv' := [(2, .int (nI (i + 1))), (0, .ref a), (1, .ref r901)]) ?_ [0, 3, 4] rfl
        exact ih (i + 1) _ h1 (by omega) (by omega)
      · obtain ⟨n1367, hn1367, rfl⟩ := nI_nn (x := x1366) (fun e => q21 (Int32.le_trans (Int32.le_of_lt e) (by decide)))
        have c21 : n1367 > 0 := by have hh := mt (nI_leI (a := n1367) (b := 0) (by omega) (by omega)).mpr q21; omega
        refine m_aload_n F rfl e_X2_findRates_24 ?_
        refine m_iconst F (v := 0) (by decide) e_X2_findRates_25 ?_
        refine m_aload_n F rfl e_X2_findRates_26 ?_
        refine t_getC F e_X2_findRates_27 fl_X2_116 (fun _ => o15) h1 (kA_8 (kA_7 hk (r := 1) (by decide)) (j := i) (by omega)) (f1365) ?_
        refine m_i2l F e_X2_findRates_30 ?_
        refine Wm.topl (fun x1368 _ => ?_)
        refine m_aload_n F rfl e_X2_findRates_31 ?_
        refine t_callV F e_X2_findRates_32 (s_X5_greatestRate (x_l X) V G b M Z T _ _ ((a + 1) + 10 + 12 * i) 0 x1368 r901 h1.1 (kA_8 (kA_7 hk (r := 1) (by decide)) (j := i) (by omega)) k901 (by omega)) cb_X5_greatestRate ml_X2_119 im_X5_greatestRate se_X5_greatestRate (fun _ => o15) h1 (kA_8 (kA_7 hk (r := 1) (by decide)) (j := i) (by omega)) rfl rfl (rest := []) rfl (Nat.le_of_ble_eq_true rfl) ⟨Nat.le_of_ble_eq_true rfl, Nat.le_of_ble_eq_true rfl⟩ ⟨Nat.le_of_ble_eq_true rfl, Nat.le_of_ble_eq_true rfl⟩ (fun r σ1369 hp => ?_)
        obtain ⟨h1371, x1372, rfl⟩ := hp
        have h1370 := HK.trans h1 h1371 (by decide)
        refine m_goto F e_X2_findRates_35 ?_
        refine m_istore F (lv' := [(4, .int x1372), (3, .ref ((a + 1) + 10 + 12 * i)), (2, .int (nI i)), (0, .ref a), (1, .ref r901)]) e_X2_findRates_40 (by decide) rfl ?_
        refine m_iload F rfl e_X2_findRates_42 ?_
        refine m_if_lt F e_X2_findRates_44 (fun q44 => ?_) (fun q44 => ?_)
        · refine m_iinc F (v := nI (i + 1)) (lv' := [(2, .int (nI (i + 1))), (4, .int x1372), (3, .ref ((a + 1) + 10 + 12 * i)), (0, .ref a), (1, .ref r901)]) e_X2_findRates_58 rfl (nI_add i 1) (by decide) rfl ?_
          refine m_goto F e_X2_findRates_61 ?_
          refine Wm.lvsub (lv' := [(2, .int (nI (i + 1))), (0, .ref a), (1, .ref r901)]) ?_ [0, 3, 4] rfl
          exact ih (i + 1) _ h1370 (by omega) (by omega)
        · obtain ⟨n1373, hn1373, rfl⟩ := nI_nn (x := x1372) (fun e => q44 (Int32.lt_of_lt_of_le e (by decide)))
          have c44 : n1373 ≥ 0 := by have hh := mt (nI_ltI (a := n1373) (b := 0) (by omega) (by omega)).mpr q44; omega
          refine m_aload_n F rfl e_X2_findRates_47 ?_
          refine m_iload F rfl e_X2_findRates_48 ?_
          refine t_put F e_X2_findRates_50 fp_X2_123 (fun _ => o15) h1370 (kA_8 (kA_7 hk (r := 1) (by decide)) (j := i) (by omega)) rfl ⟨_, rfl⟩ rfl rfl (by decide) (fun σ1374 h1375 g1376 g1377 f1378 => ?_)
          refine m_aload_n F rfl e_X2_findRates_53 ?_
          refine m_iconst F (v := 1) (by decide) e_X2_findRates_54 ?_
          refine t_put F e_X2_findRates_55 fp_X2_126 (fun _ => o15) h1375 (kA_8 (kA_7 hk (r := 1) (by decide)) (j := i) (by omega)) rfl ⟨1, (show 1 ≤ 1 by omega), rfl⟩ (by decide) rfl (by decide) (fun σ1379 h1380 g1381 g1382 f1383 => ?_)
          refine m_iinc F (v := nI (i + 1)) (lv' := [(2, .int (nI (i + 1))), (4, .int (nI n1373)), (3, .ref ((a + 1) + 10 + 12 * i)), (0, .ref a), (1, .ref r901)]) e_X2_findRates_58 rfl (nI_add i 1) (by decide) rfl ?_
          refine m_goto F e_X2_findRates_61 ?_
          refine Wm.lvsub (lv' := [(2, .int (nI (i + 1))), (0, .ref a), (1, .ref r901)]) ?_ [0, 3, 4] rfl
          exact ih (i + 1) _ h1380 (by omega) (by omega)
set_option maxRecDepth 20000 in
theorem s_X2_findRates (l : Launch) (V : VX) (G : GH) (b M Z T N : Nat) (σ : Mem) (a : Nat) (r901 : Nat) (h0 : HT V G (b, M, Z, T) σ) (hk : kA b a = 7) (k901 : kA b r901 = 6) (hM : M + 0 ≤ 1000000000) : Ct l V yX2_findRates cX2_findRates 5 none 4 0 0 N σ [.ref a, .ref r901] (fun r τ => HK V G (b, M, Z, T) [0, 1, 2, 3, 4, 5, 7, 8, 9, 10, 11, 12, 13, 14, 16, 17, 18, 19] σ τ ∧ r = none) := by
  refine Ct.of (by decide) (Nat.le_of_ble_eq_true rfl) [(0, .ref a), (1, .ref r901)] rfl (fun X hX F hQ => ?_)
  have h1 : HK V G (b, M, Z, T) [0, 1, 2, 3, 4, 5, 7, 8, 9, 10, 11, 12, 13, 14, 16, 17, 18, 19] σ σ := HK.start h0
  refine m_iconst F (v := 0) (by decide) e_X2_findRates_0 ?_
  refine m_istore_n F (lv' := [(2, .int 0), (0, .ref a), (1, .ref r901)]) e_X2_findRates_1 (by decide) rfl ?_
  exact lp_X2_findRates_2 F hQ hk k901 hM (4 - 0 + 1) 0 _ h1 (by omega) (Nat.lt_succ_self _)
set_option maxRecDepth 20000 in
theorem lp_X2_runningLeases_4 {V : VX} {G : GH} {X : MX} {b M Z T N : Nat} {σ : Mem} {a : Nat}   (F : Fx V X yX2_runningLeases cX2_runningLeases 3 (some .int) (rmd 0 0 0)) (hQ : Rt V X 0 0 N (fun r τ => HK V G (b, M, Z, T) [0, 1, 2, 3, 4, 5, 6, 7, 8, 9, 10, 11, 12, 13, 14, 15, 16, 17, 18, 19] σ τ ∧ ∃ x : Int32, r = some (.int x))) (hk : kA b a = 7) (hM : M + 0 ≤ 1000000000)  : ∀ (fuel : Nat) (u1 : Int32) (i : Nat) (τ : Mem), HK V G (b, M, Z, T) [0, 1, 2, 3, 4, 5, 6, 7, 8, 9, 10, 11, 12, 13, 14, 15, 16, 17, 18, 19] σ τ → i ≤ 4 → 4 - i < fuel → Wm V X 3 N τ 0 0 4 [(1, .int u1), (2, .int (nI i)), (0, .ref a)] [] := by
  intro fuel
  induction fuel with
  | zero => intro u1 i τ h1 hi hm; exact absurd hm (Nat.not_lt_zero _)
  | succ fuel ih =>
    intro u1 i τ h1 hi hm
    refine m_iload_n F rfl e_X2_runningLeases_4 ?_
    refine m_aload_n F rfl e_X2_runningLeases_5 ?_
    refine t_get F e_X2_runningLeases_6 fl_X2_58 (fun _ => o7) h1 hk rfl (fun v hv f1384 => ?_)
    obtain ⟨n1385, ⟨hn1385, gn1385⟩, rfl⟩ := hv
    replace hn1385 : n1385 ≤ 4 := hn1385
    refine m_icmp_ge F e_X2_runningLeases_9 (fun q9 => ?_) (fun q9 => ?_)
    · have c9 : i ≥ n1385 := (nI_leI (a := n1385) (b := i) (by omega) (by omega)).mp q9
      refine m_iload_n F rfl e_X2_runningLeases_34 ?_
      exact m_iret F hQ e_X2_runningLeases_35 (⟨h1, _, rfl⟩)
    · have c9 : i < n1385 := by have hh := mt (nI_leI (a := n1385) (b := i) (by omega) (by omega)).mpr q9; omega
      refine m_aload_n F rfl e_X2_runningLeases_12 ?_
      refine t_get F e_X2_runningLeases_13 fl_X2_11 (fun _ => o7) h1 hk rfl (fun v hv f1386 => ?_)
      obtain rfl : v = .ref (a + 1) := hv
      refine m_iload_n F rfl e_X2_runningLeases_16 ?_
      refine t_aald8 F (j := i) e_X2_runningLeases_17 rfl h1 (kA_7 hk (r := 1) (by decide)) (nI_clamp (by omega)) (vp_in_nI (by omega) (by decide)) ?_
      refine t_get F e_X2_runningLeases_18 fl_X2_129 (fun _ => o15) h1 (kA_8 (kA_7 hk (r := 1) (by decide)) (j := i) (by omega)) rfl (fun v hv f1387 => ?_)
      obtain ⟨x1388, rfl⟩ := hv
      refine m_iconst F (v := 1) (by decide) e_X2_runningLeases_21 ?_
      refine m_icmp_ne F e_X2_runningLeases_22 (fun q22 => ?_) (fun q22 => ?_)
      · refine m_iinc F (v := nI (i + 1)) (lv' := [(2, .int (nI (i + 1))), (1, .int u1), (0, .ref a)]) e_X2_runningLeases_28 rfl (nI_add i 1) (by decide) rfl ?_
        refine m_goto F e_X2_runningLeases_31 ?_
        refine Wm.lvsub (lv' := [(1, .int u1), (2, .int (nI (i + 1))), (0, .ref a)]) ?_ [1, 0, 2] rfl
        exact ih u1 (i + 1) _ h1 (by omega) (by omega)
      · refine m_iinc F (v := (u1 + 1)) (lv' := [(1, .int (u1 + 1)), (2, .int (nI i)), (0, .ref a)]) e_X2_runningLeases_25 rfl rfl (by decide) rfl ?_
        refine m_iinc F (v := nI (i + 1)) (lv' := [(2, .int (nI (i + 1))), (1, .int (u1 + 1)), (0, .ref a)]) e_X2_runningLeases_28 rfl (nI_add i 1) (by decide) rfl ?_
        refine m_goto F e_X2_runningLeases_31 ?_
        refine Wm.lvsub (lv' := [(1, .int (u1 + 1)), (2, .int (nI (i + 1))), (0, .ref a)]) ?_ [1, 0, 2] rfl
        exact ih (u1 + 1) (i + 1) _ h1 (by omega) (by omega)
set_option maxRecDepth 20000 in
theorem s_X2_runningLeases (l : Launch) (V : VX) (G : GH) (b M Z T N : Nat) (σ : Mem) (a : Nat) (h0 : HT V G (b, M, Z, T) σ) (hk : kA b a = 7) (hM : M + 0 ≤ 1000000000) : Ct l V yX2_runningLeases cX2_runningLeases 3 (some .int) 0 0 0 N σ [.ref a] (fun r τ => HK V G (b, M, Z, T) [0, 1, 2, 3, 4, 5, 6, 7, 8, 9, 10, 11, 12, 13, 14, 15, 16, 17, 18, 19] σ τ ∧ ∃ x : Int32, r = some (.int x)) := by
  refine Ct.of (by decide) (Nat.le_of_ble_eq_true rfl) [(0, .ref a)] rfl (fun X hX F hQ => ?_)
  have h1 : HK V G (b, M, Z, T) [0, 1, 2, 3, 4, 5, 6, 7, 8, 9, 10, 11, 12, 13, 14, 15, 16, 17, 18, 19] σ σ := HK.start h0
  refine m_iconst F (v := 0) (by decide) e_X2_runningLeases_0 ?_
  refine m_istore_n F (lv' := [(1, .int 0), (0, .ref a)]) e_X2_runningLeases_1 (by decide) rfl ?_
  refine m_iconst F (v := 0) (by decide) e_X2_runningLeases_2 ?_
  refine m_istore_n F (lv' := [(2, .int 0), (1, .int 0), (0, .ref a)]) e_X2_runningLeases_3 (by decide) rfl ?_
  refine Wm.lvsub (lv' := [(1, .int 0), (2, .int 0), (0, .ref a)]) ?_ [1, 0, 2] rfl
  exact lp_X2_runningLeases_4 F hQ hk hM (4 - 0 + 1) 0 0 _ h1 (by omega) (Nat.lt_succ_self _)
set_option maxRecDepth 20000 in
theorem lp_X2_countAllOwed_7 {V : VX} {G : GH} {X : MX} {b M Z T N : Nat} {σ : Mem} {a : Nat} {r901 : Nat}  (F : Fx V X yX2_countAllOwed cX2_countAllOwed 3 none (rmd 1 0 0)) (hQ : Rt V X 0 0 N (fun r τ => HK V G (b, M, Z, T) [0, 1, 2, 3, 4, 5, 7, 8, 9, 10, 11, 12, 13, 14, 15, 16, 17, 18, 19] σ τ ∧ r = none)) (hk : kA b a = 7) (k901 : kA b r901 = 6) (hM : M + 0 ≤ 1000000000)  : ∀ (fuel : Nat) (i : Nat) (τ : Mem), HK V G (b, M, Z, T) [0, 1, 2, 3, 4, 5, 7, 8, 9, 10, 11, 12, 13, 14, 15, 16, 17, 18, 19] σ τ → i ≤ 4 → 4 - i < fuel → Wm V X 3 N τ 0 0 7 [(2, .int (nI i)), (0, .ref a), (1, .ref r901)] [] := by
  intro fuel
  induction fuel with
  | zero => intro i τ h1 hi hm; exact absurd hm (Nat.not_lt_zero _)
  | succ fuel ih =>
    intro i τ h1 hi hm
    refine m_iload_n F rfl e_X2_countAllOwed_7 ?_
    refine m_aload_n F rfl e_X2_countAllOwed_8 ?_
    refine t_get F e_X2_countAllOwed_9 fl_X2_58 (fun _ => o7) h1 hk rfl (fun v hv f1389 => ?_)
    obtain ⟨n1390, ⟨hn1390, gn1390⟩, rfl⟩ := hv
    replace hn1390 : n1390 ≤ 4 := hn1390
    refine m_icmp_ge F e_X2_countAllOwed_12 (fun q12 => ?_) (fun q12 => ?_)
    · have c12 : i ≥ n1390 := (nI_leI (a := n1390) (b := i) (by omega) (by omega)).mp q12
      exact m_vret F hQ e_X2_countAllOwed_34 (⟨h1, rfl⟩)
    · have c12 : i < n1390 := by have hh := mt (nI_leI (a := n1390) (b := i) (by omega) (by omega)).mpr q12; omega
      refine m_aload_n F rfl e_X2_countAllOwed_15 ?_
      refine m_aload_n F rfl e_X2_countAllOwed_16 ?_
      refine t_get F e_X2_countAllOwed_17 fl_X2_11 (fun _ => o7) h1 hk rfl (fun v hv f1391 => ?_)
      obtain rfl : v = .ref (a + 1) := hv
      refine m_iload_n F rfl e_X2_countAllOwed_20 ?_
      refine t_aald8 F (j := i) e_X2_countAllOwed_21 rfl h1 (kA_7 hk (r := 1) (by decide)) (nI_clamp (by omega)) (vp_in_nI (by omega) (by decide)) ?_
      refine t_get F e_X2_countAllOwed_22 fl_X2_136 (fun _ => o15) h1 (kA_8 (kA_7 hk (r := 1) (by decide)) (j := i) (by omega)) rfl (fun v hv f1392 => ?_)
      obtain ⟨r1393, k1394, rfl⟩ := hv
      refine t_callV F e_X2_countAllOwed_25 (s_X1_add (x_l X) V G b M Z T _ _ r901 r1393 h1.1 k901 k1394 (by omega)) cb_X1_add ml_X2_139 im_X1_add se_X1_add (fun _ => o6) h1 k901 rfl rfl (rest := []) rfl (Nat.le_of_ble_eq_true rfl) ⟨Nat.le_of_ble_eq_true rfl, Nat.le_of_ble_eq_true rfl⟩ ⟨Nat.le_of_ble_eq_true rfl, Nat.le_of_ble_eq_true rfl⟩ (fun r σ1395 hp => ?_)
      obtain ⟨h1397, rfl⟩ := hp
      have h1396 := HK.trans h1 h1397 (by decide)
      refine m_iinc F (v := nI (i + 1)) (lv' := [(2, .int (nI (i + 1))), (0, .ref a), (1, .ref r901)]) e_X2_countAllOwed_28 rfl (nI_add i 1) (by decide) rfl ?_
      refine m_goto F e_X2_countAllOwed_31 ?_
      exact ih (i + 1) _ h1396 (by omega) (by omega)
set_option maxRecDepth 20000 in
theorem s_X2_countAllOwed (l : Launch) (V : VX) (G : GH) (b M Z T N : Nat) (σ : Mem) (a : Nat) (r901 : Nat) (h0 : HT V G (b, M, Z, T) σ) (hk : kA b a = 7) (k901 : kA b r901 = 6) (hM : M + 0 ≤ 1000000000) : Ct l V yX2_countAllOwed cX2_countAllOwed 3 none 1 0 0 N σ [.ref a, .ref r901] (fun r τ => HK V G (b, M, Z, T) [0, 1, 2, 3, 4, 5, 7, 8, 9, 10, 11, 12, 13, 14, 15, 16, 17, 18, 19] σ τ ∧ r = none) := by
  refine Ct.of (by decide) (Nat.le_of_ble_eq_true rfl) [(0, .ref a), (1, .ref r901)] rfl (fun X hX F hQ => ?_)
  have h1 : HK V G (b, M, Z, T) [0, 1, 2, 3, 4, 5, 7, 8, 9, 10, 11, 12, 13, 14, 15, 16, 17, 18, 19] σ σ := HK.start h0
  refine m_aload_n F rfl e_X2_countAllOwed_0 ?_
  refine m_lconst F (v := 0) (by decide) e_X2_countAllOwed_1 ?_
  refine t_callV F e_X2_countAllOwed_2 (s_X1_set (x_l X) V G b M Z T _ _ r901 0 h1.1 k901  (by omega)) cb_X1_set ml_X2_132 im_X1_set se_X1_set (fun _ => o6) h1 k901 rfl rfl (rest := []) rfl (Nat.le_of_ble_eq_true rfl) ⟨Nat.le_of_ble_eq_true rfl, Nat.le_of_ble_eq_true rfl⟩ ⟨Nat.le_of_ble_eq_true rfl, Nat.le_of_ble_eq_true rfl⟩ (fun r σ1398 hp => ?_)
  obtain ⟨h1400, rfl⟩ := hp
  have h1399 := HK.trans h1 h1400 (by decide)
  refine m_iconst F (v := 0) (by decide) e_X2_countAllOwed_5 ?_
  refine m_istore_n F (lv' := [(2, .int 0), (0, .ref a), (1, .ref r901)]) e_X2_countAllOwed_6 (by decide) rfl ?_
  exact lp_X2_countAllOwed_7 F hQ hk k901 hM (4 - 0 + 1) 0 _ h1399 (by omega) (Nat.lt_succ_self _)
set_option maxRecDepth 20000 in
theorem s_X2_indexNow (l : Launch) (V : VX) (G : GH) (b M Z T N : Nat) (σ : Mem) (a : Nat) (h0 : HT V G (b, M, Z, T) σ) (hk : kA b a = 7) (hM : M + 0 ≤ 1000000000) : Ct l V yX2_indexNow cX2_indexNow 1 (some .int) 0 0 0 N σ [.ref a] (fun r τ => HK V G (b, M, Z, T) [0, 1, 2, 3, 4, 5, 6, 7, 8, 9, 10, 11, 12, 13, 14, 15, 16, 17, 18, 19] σ τ ∧ ∃ x : Int32, r = some (.int x)) := by
  refine Ct.of (by decide) (Nat.le_of_ble_eq_true rfl) [(0, .ref a)] rfl (fun X hX F hQ => ?_)
  have h1 : HK V G (b, M, Z, T) [0, 1, 2, 3, 4, 5, 6, 7, 8, 9, 10, 11, 12, 13, 14, 15, 16, 17, 18, 19] σ σ := HK.start h0
  refine m_aload_n F rfl e_X2_indexNow_0 ?_
  refine t_get F e_X2_indexNow_1 fl_X2_68 (fun _ => o7) h1 hk rfl (fun v hv f1401 => ?_)
  obtain ⟨n1402, hn1402, rfl⟩ := hv
  replace hn1402 : n1402 ≤ M := hn1402
  refine m_if_lt F e_X2_indexNow_4 (fun q4 => ?_) (fun q4 => ?_)
  · have c4 : n1402 < 0 := (nI_ltI (a := n1402) (b := 0) (by omega) (by omega)).mp q4
    refine m_sipush F (v := 1000) (by decide) e_X2_indexNow_28 ?_
    exact m_iret F hQ e_X2_indexNow_31 (⟨h1, _, rfl⟩)
  · have c4 : n1402 ≥ 0 := by have hh := mt (nI_ltI (a := n1402) (b := 0) (by omega) (by omega)).mpr q4; omega
    refine m_aload_n F rfl e_X2_indexNow_7 ?_
    refine t_getC F e_X2_indexNow_8 fl_X2_68 (fun _ => o7) h1 hk (f1401) ?_
    refine m_bipush F (v := 99) (by decide) e_X2_indexNow_11 ?_
    refine m_icmp_gt F e_X2_indexNow_13 (fun q13 => ?_) (fun q13 => ?_)
    · have c13 : n1402 > 99 := (nI_ltI (a := 99) (b := n1402) (by omega) (by omega)).mp q13
      refine m_sipush F (v := 1000) (by decide) e_X2_indexNow_28 ?_
      exact m_iret F hQ e_X2_indexNow_31 (⟨h1, _, rfl⟩)
    · have c13 : n1402 ≤ 99 := by have hh := mt (nI_ltI (a := 99) (b := n1402) (by omega) (by omega)).mpr q13; omega
      refine m_aload_n F rfl e_X2_indexNow_16 ?_
      refine t_get F e_X2_indexNow_17 fl_X2_23 (fun _ => o7) h1 hk rfl (fun v hv f1403 => ?_)
      obtain rfl : v = .ref (a + 3) := hv
      refine m_aload_n F rfl e_X2_indexNow_20 ?_
      refine t_getC F e_X2_indexNow_21 fl_X2_68 (fun _ => o7) h1 hk (f1401) ?_
      refine t_iald F (len := 100) (j := n1402) e_X2_indexNow_24 (fun _ => o10) h1 (kA_7 hk (r := 3) (by decide)) (nI_clamp (by omega)) (vp_in_nI (by omega) (by decide)) (fun x1404 => ?_)
      refine m_goto F e_X2_indexNow_25 ?_
      exact m_iret F hQ e_X2_indexNow_31 (⟨h1, _, rfl⟩)
set_option maxRecDepth 20000 in
theorem lp_X2_changeIndex_45 {V : VX} {G : GH} {X : MX} {b M Z T N : Nat} {σ : Mem} {a : Nat} {x901 : Int32}  (F : Fx V X yX2_changeIndex cX2_changeIndex 4 none (rmd 0 0 0)) (hQ : Rt V X 0 0 N (fun r τ => HK V G (b, M, Z, T) [0, 1, 2, 3, 4, 5, 6, 7, 8, 9, 11, 12, 13, 14, 15, 16, 17, 18, 19] σ τ ∧ r = none)) (hk : kA b a = 7) (hM : M + 0 ≤ 1000000000)  : ∀ (fuel : Nat) (i : Nat) (u1 : Int32) (τ : Mem), HK V G (b, M, Z, T) [0, 1, 2, 3, 4, 5, 6, 7, 8, 9, 11, 12, 13, 14, 15, 16, 17, 18, 19] σ τ → i ≤ 1000000000 → 1000000000 - i < fuel → Wm V X 4 N τ 0 0 45 [(3, .int (nI i)), (2, .int u1), (0, .ref a), (1, .int x901)] [] := by
  intro fuel
  induction fuel with
  | zero => intro i u1 τ h1 hi hm; exact absurd hm (Nat.not_lt_zero _)
  | succ fuel ih =>
    intro i u1 τ h1 hi hm
    refine m_iload_n F rfl e_X2_changeIndex_45 ?_
    refine m_iload_n F rfl e_X2_changeIndex_46 ?_
    refine m_icmp_ge F e_X2_changeIndex_47 (fun q47 => ?_) (fun q47 => ?_)
    · exact m_vret F hQ e_X2_changeIndex_69 (⟨h1, rfl⟩)
    · refine m_iload_n F rfl e_X2_changeIndex_50 ?_
      refine m_bipush F (v := 99) (by decide) e_X2_changeIndex_51 ?_
      refine m_icmp_gt F e_X2_changeIndex_53 (fun q53 => ?_) (fun q53 => ?_)
      · have c53 : i > 99 := (nI_ltI (a := 99) (b := i) (by omega) (by omega)).mp q53
        exact m_vret F hQ e_X2_changeIndex_69 (⟨h1, rfl⟩)
      · have c53 : i ≤ 99 := by have hh := mt (nI_ltI (a := 99) (b := i) (by omega) (by omega)).mpr q53; omega
        refine m_aload_n F rfl e_X2_changeIndex_56 ?_
        refine t_get F e_X2_changeIndex_57 fl_X2_23 (fun _ => o7) h1 hk rfl (fun v hv f1405 => ?_)
        obtain rfl : v = .ref (a + 3) := hv
        refine m_iload_n F rfl e_X2_changeIndex_60 ?_
        refine m_iload_n F rfl e_X2_changeIndex_61 ?_
        refine t_iast F (len := 100) (j := i) e_X2_changeIndex_62 (fun _ => o10) h1 (kA_7 hk (r := 3) (by decide)) (nI_clamp (by omega)) (vp_in_nI (by omega) (by decide)) (by decide) (fun σ1406 h1407 g1408 => ?_)
        refine m_iinc F (v := nI (i + 1)) (lv' := [(3, .int (nI (i + 1))), (2, .int u1), (0, .ref a), (1, .int x901)]) e_X2_changeIndex_63 rfl (nI_add i 1) (by decide) rfl ?_
        refine m_goto F e_X2_changeIndex_66 ?_
        exact ih (i + 1) u1 _ h1407 (by omega) (by omega)
set_option maxRecDepth 20000 in
theorem lp_X2_changeIndex_10 {V : VX} {G : GH} {X : MX} {b M Z T N : Nat} {σ : Mem} {a : Nat} {x901 : Int32}  (F : Fx V X yX2_changeIndex cX2_changeIndex 4 none (rmd 0 0 0)) (hQ : Rt V X 0 0 N (fun r τ => HK V G (b, M, Z, T) [0, 1, 2, 3, 4, 5, 6, 7, 8, 9, 11, 12, 13, 14, 15, 16, 17, 18, 19] σ τ ∧ r = none)) (hk : kA b a = 7) (hM : M + 0 ≤ 1000000000)  : ∀ (fuel : Nat) (i : Nat) (u1 : Int32) (τ : Mem), HK V G (b, M, Z, T) [0, 1, 2, 3, 4, 5, 6, 7, 8, 9, 11, 12, 13, 14, 15, 16, 17, 18, 19] σ τ → i ≤ 7 → i < fuel → Wm V X 4 N τ 0 0 10 [(3, .int (nI i)), (2, .int u1), (0, .ref a), (1, .int x901)] [] := by
  intro fuel
  induction fuel with
  | zero => intro i u1 τ h1 hi hm; exact absurd hm (Nat.not_lt_zero _)
  | succ fuel ih =>
    intro i u1 τ h1 hi hm
    refine m_iload_n F rfl e_X2_changeIndex_10 ?_
    refine m_if_lt F e_X2_changeIndex_11 (fun q11 => ?_) (fun q11 => ?_)
    · have c11 : i < 0 := (nI_ltI (a := i) (b := 0) (by omega) (by omega)).mp q11
      refine m_aload_n F rfl e_X2_changeIndex_40 ?_
      refine t_get F e_X2_changeIndex_41 fl_X2_68 (fun _ => o7) h1 hk rfl (fun v hv f1409 => ?_)
      obtain ⟨n1410, hn1410, rfl⟩ := hv
      replace hn1410 : n1410 ≤ M := hn1410
      refine m_istore_n F (lv' := [(3, .int (nI n1410)), (2, .int u1), (0, .ref a), (1, .int x901)]) e_X2_changeIndex_44 (by decide) rfl ?_
      exact lp_X2_changeIndex_45 F hQ hk hM (1000000000 - n1410 + 1) n1410 u1 _ h1 (by omega) (Nat.lt_succ_self _)
    · have c11 : i ≥ 0 := by have hh := mt (nI_ltI (a := i) (b := 0) (by omega) (by omega)).mpr q11; omega
      refine m_aload_n F rfl e_X2_changeIndex_14 ?_
      refine t_get F e_X2_changeIndex_15 fl_X2_27 (fun _ => o7) h1 hk rfl (fun v hv f1411 => ?_)
      obtain rfl : v = .ref (a + 4) := hv
      refine m_iload_n F rfl e_X2_changeIndex_18 ?_
      refine t_iald F (len := 8) (j := i) e_X2_changeIndex_19 (fun _ => o11) h1 (kA_7 hk (r := 4) (by decide)) (nI_clamp (by omega)) (vp_in_nI (by omega) (by decide)) (fun x1412 => ?_)
      refine m_aload_n F rfl e_X2_changeIndex_20 ?_
      refine t_get F e_X2_changeIndex_21 fl_X2_68 (fun _ => o7) h1 hk rfl (fun v hv f1413 => ?_)
      obtain ⟨n1414, hn1414, rfl⟩ := hv
      replace hn1414 : n1414 ≤ M := hn1414
      refine m_icmp_le F e_X2_changeIndex_24 (fun q24 => ?_) (fun q24 => ?_)
      · refine m_aload_n F rfl e_X2_changeIndex_40 ?_
        refine t_getC F e_X2_changeIndex_41 fl_X2_68 (fun _ => o7) h1 hk (f1413) ?_
        refine m_istore_n F (lv' := [(3, .int (nI n1414)), (2, .int u1), (0, .ref a), (1, .int x901)]) e_X2_changeIndex_44 (by decide) rfl ?_
        exact lp_X2_changeIndex_45 F hQ hk hM (1000000000 - n1414 + 1) n1414 u1 _ h1 (by omega) (Nat.lt_succ_self _)
      · refine m_aload_n F rfl e_X2_changeIndex_27 ?_
        refine t_getC F e_X2_changeIndex_28 fl_X2_27 (fun _ => o7) h1 hk (f1411) ?_
        refine m_iload_n F rfl e_X2_changeIndex_31 ?_
        refine t_iald F (len := 8) (j := i) e_X2_changeIndex_32 (fun _ => o11) h1 (kA_7 hk (r := 4) (by decide)) (nI_clamp (by omega)) (vp_in_nI (by omega) (by decide)) (fun x1415 => ?_)
        refine m_istore_n F (lv' := [(2, .int x1415), (3, .int (nI i)), (0, .ref a), (1, .int x901)]) e_X2_changeIndex_33 (by decide) rfl ?_
        rcases Nat.eq_zero_or_pos (i) with e34 | e34
        · subst e34
          refine m_iinc F (v := -1) (lv' := [(3, .int (-1)), (2, .int x1415), (0, .ref a), (1, .int x901)]) e_X2_changeIndex_34 rfl (by decide) (by decide) rfl ?_
          refine m_goto F e_X2_changeIndex_37 ?_
          refine m_iload_n F rfl e_X2_changeIndex_10 ?_
          refine m_if_lt F e_X2_changeIndex_11 (fun _ => ?_) (fun q => absurd (by decide) q)
          refine m_aload_n F rfl e_X2_changeIndex_40 ?_
          refine t_getC F e_X2_changeIndex_41 fl_X2_68 (fun _ => o7) h1 hk (f1413) ?_
          refine m_istore_n F (lv' := [(3, .int (nI n1414)), (2, .int x1415), (0, .ref a), (1, .int x901)]) e_X2_changeIndex_44 (by decide) rfl ?_
          exact lp_X2_changeIndex_45 F hQ hk hM (1000000000 - n1414 + 1) n1414 x1415 _ h1 (by omega) (Nat.lt_succ_self _)
        · refine m_iinc F (v := nI (i - 1)) (lv' := [(3, .int (nI (i - 1))), (2, .int x1415), (0, .ref a), (1, .int x901)]) e_X2_changeIndex_34 rfl (nI_dec (by omega)) (by decide) rfl ?_
          refine m_goto F e_X2_changeIndex_37 ?_
          exact ih (i - 1) x1415 _ h1 (by omega) (by omega)
set_option maxRecDepth 20000 in
theorem s_X2_changeIndex (l : Launch) (V : VX) (G : GH) (b M Z T N : Nat) (σ : Mem) (a : Nat) (x901 : Int32) (h0 : HT V G (b, M, Z, T) σ) (hk : kA b a = 7) (hM : M + 0 ≤ 1000000000) : Ct l V yX2_changeIndex cX2_changeIndex 4 none 0 0 0 N σ [.ref a, .int x901] (fun r τ => HK V G (b, M, Z, T) [0, 1, 2, 3, 4, 5, 6, 7, 8, 9, 11, 12, 13, 14, 15, 16, 17, 18, 19] σ τ ∧ r = none) := by
  refine Ct.of (by decide) (Nat.le_of_ble_eq_true rfl) [(0, .ref a), (1, .int x901)] rfl (fun X hX F hQ => ?_)
  have h1 : HK V G (b, M, Z, T) [0, 1, 2, 3, 4, 5, 6, 7, 8, 9, 11, 12, 13, 14, 15, 16, 17, 18, 19] σ σ := HK.start h0
  refine m_bipush F (v := 100) (by decide) e_X2_changeIndex_0 ?_
  refine m_istore_n F (lv' := [(2, .int 100), (0, .ref a), (1, .int x901)]) e_X2_changeIndex_2 (by decide) rfl ?_
  refine m_aload_n F rfl e_X2_changeIndex_3 ?_
  refine t_get F e_X2_changeIndex_4 fl_X2_65 (fun _ => o7) h1 hk rfl (fun v hv f1416 => ?_)
  obtain ⟨n1417, hn1417, rfl⟩ := hv
  replace hn1417 : n1417 ≤ 8 := hn1417
  refine m_iconst F (v := 1) (by decide) e_X2_changeIndex_7 ?_
  refine m_isub F e_X2_changeIndex_8 ?_
  rcases Nat.eq_zero_or_pos (n1417) with e8 | e8
  · rw [e8]
    refine Wm.topE (w := -1) (by decide) ?_
    refine m_istore_n F (lv' := [(3, .int (-1)), (2, .int 100), (0, .ref a), (1, .int x901)]) e_X2_changeIndex_9 (by decide) rfl ?_
    refine m_iload_n F rfl e_X2_changeIndex_10 ?_
    refine m_if_lt F e_X2_changeIndex_11 (fun _ => ?_) (fun q => absurd (by decide) q)
    refine m_aload_n F rfl e_X2_changeIndex_40 ?_
    refine t_get F e_X2_changeIndex_41 fl_X2_68 (fun _ => o7) h1 hk rfl (fun v hv f1418 => ?_)
    obtain ⟨n1419, hn1419, rfl⟩ := hv
    replace hn1419 : n1419 ≤ M := hn1419
    refine m_istore_n F (lv' := [(3, .int (nI n1419)), (2, .int 100), (0, .ref a), (1, .int x901)]) e_X2_changeIndex_44 (by decide) rfl ?_
    exact lp_X2_changeIndex_45 F hQ hk hM (1000000000 - n1419 + 1) n1419 100 _ h1 (by omega) (Nat.lt_succ_self _)
  · refine Wm.topE (w := nI (n1417 - 1)) (pk_sub (a := n1417) (b := 1) (by omega)) ?_
    refine m_istore_n F (lv' := [(3, .int (nI (n1417 - 1))), (2, .int 100), (0, .ref a), (1, .int x901)]) e_X2_changeIndex_9 (by decide) rfl ?_
    exact lp_X2_changeIndex_10 F hQ hk hM ((n1417 - 1) + 1) (n1417 - 1) 100 _ h1 (by omega) (Nat.lt_succ_self _)
set_option maxRecDepth 20000 in
theorem s_X2_begin (l : Launch) (V : VX) (G : GH) (b M Z T N : Nat) (σ : Mem) (a : Nat) (x901 : Int32) (r902 : Nat) (h0 : HT V G (b, M, Z, T) σ) (hk : kA b a = 7) (k902 : kA b r902 = 15) (hM : M + 1 ≤ 1000000000) : Ct l V yX2_begin cX2_begin 3 none 4 0 0 N σ [.ref a, .int x901, .ref r902] (fun r τ => HK V G (b, M + 1, Z, T) [0, 1, 2, 3, 4, 5, 7, 8, 9, 10, 11, 16, 17, 19] σ τ ∧ r = none) := by
  refine Ct.of (by decide) (Nat.le_of_ble_eq_true rfl) [(0, .ref a), (1, .int x901), (2, .ref r902)] rfl (fun X hX F hQ => ?_)
  have h1 : HK V G (b, M, Z, T) [0, 1, 2, 3, 4, 5, 7, 8, 9, 10, 11, 16, 17, 19] σ σ := HK.start h0
  refine m_aload_n F rfl e_X2_begin_0 ?_
  refine m_iconst F (v := 1) (by decide) e_X2_begin_1 ?_
  refine t_put F e_X2_begin_2 fp_X2_129 (fun _ => o15) h1 k902 rfl ⟨_, rfl⟩ rfl rfl (by decide) (fun σ1420 h1421 g1422 g1423 f1424 => ?_)
  refine m_aload_n F rfl e_X2_begin_5 ?_
  refine m_aload_n F rfl e_X2_begin_6 ?_
  refine t_callV F e_X2_begin_7 (s_X2_indexNow (x_l X) V G b M Z T _ _ a  h1421.1 hk  (by omega)) cb_X2_indexNow ml_X2_153 im_X2_indexNow se_X2_indexNow (fun _ => o7) h1421 hk rfl rfl (rest := [.ref r902]) rfl (Nat.le_of_ble_eq_true rfl) ⟨Nat.le_of_ble_eq_true rfl, Nat.le_of_ble_eq_true rfl⟩ ⟨Nat.le_of_ble_eq_true rfl, Nat.le_of_ble_eq_true rfl⟩ (fun r σ1425 hp => ?_)
  obtain ⟨h1427, x1428, rfl⟩ := hp
  have h1426 := HK.trans h1421 h1427 (by decide)
  refine t_put F e_X2_begin_10 fp_X2_171 (fun _ => o15) h1426 k902 rfl ⟨_, rfl⟩ rfl rfl (by decide) (fun σ1429 h1430 g1431 g1432 f1433 => ?_)
  refine m_aload_n F rfl e_X2_begin_13 ?_
  refine m_aload_n F rfl e_X2_begin_14 ?_
  refine t_getC F e_X2_begin_15 fl_X2_171 (fun _ => o15) h1430 k902 (f1433) ?_
  refine t_put F e_X2_begin_18 fp_X2_157 (fun _ => o15) h1430 k902 rfl ⟨_, rfl⟩ rfl rfl (by decide) (fun σ1434 h1435 g1436 g1437 f1438 => ?_)
  refine m_aload_n F rfl e_X2_begin_21 ?_
  refine m_iconst F (v := 0) (by decide) e_X2_begin_22 ?_
  refine m_aload_n F rfl e_X2_begin_23 ?_
  refine t_get F e_X2_begin_24 fl_X2_123 (fun _ => o15) h1435 k902 rfl (fun v hv f1439 => ?_)
  obtain ⟨x1440, rfl⟩ := hv
  refine m_aload_n F rfl e_X2_begin_27 ?_
  refine t_get F e_X2_begin_28 fl_X2_136 (fun _ => o15) h1435 k902 rfl (fun v hv f1441 => ?_)
  obtain ⟨r1442, k1443, rfl⟩ := hv
  refine t_callV F e_X2_begin_31 (s_X5_worthFrom (x_l X) V G b M Z T _ _ r902 0 x1440 r1442 h1435.1 k902 k1443 (by omega)) cb_X5_worthFrom ml_X2_174 im_X5_worthFrom se_X5_worthFrom (fun _ => o15) h1435 k902 rfl rfl (rest := []) rfl (Nat.le_of_ble_eq_true rfl) ⟨Nat.le_of_ble_eq_true rfl, Nat.le_of_ble_eq_true rfl⟩ ⟨Nat.le_of_ble_eq_true rfl, Nat.le_of_ble_eq_true rfl⟩ (fun r σ1444 hp => ?_)
  obtain ⟨h1446, rfl⟩ := hp
  have h1445 := HK.trans h1435 h1446 (by decide)
  refine m_aload_n F rfl e_X2_begin_34 ?_
  refine t_get F e_X2_begin_35 fl_X2_178 (fun _ => o15) h1445 k902 rfl (fun v hv f1447 => ?_)
  obtain ⟨r1448, k1449, rfl⟩ := hv
  refine m_aload_n F rfl e_X2_begin_38 ?_
  refine t_getC F e_X2_begin_39 fl_X2_136 (fun _ => o15) h1445 k902 ((fld_eq (h1446.2 r902 (by rw [show kA _ r902 = 15 from k902]; decide))).trans f1441) ?_
  refine t_callV F e_X2_begin_42 (s_X1_copyFrom (x_l X) V G b M Z T _ _ r1448 r1442 h1445.1 k1449 k1443 (by omega)) cb_X1_copyFrom ml_X2_181 im_X1_copyFrom se_X1_copyFrom (fun _ => o6) h1445 k1449 rfl rfl (rest := []) rfl (Nat.le_of_ble_eq_true rfl) ⟨Nat.le_of_ble_eq_true rfl, Nat.le_of_ble_eq_true rfl⟩ ⟨Nat.le_of_ble_eq_true rfl, Nat.le_of_ble_eq_true rfl⟩ (fun r σ1450 hp => ?_)
  obtain ⟨h1452, rfl⟩ := hp
  have h1451 := HK.trans h1445 h1452 (by decide)
  refine m_aload_n F rfl e_X2_begin_45 ?_
  refine t_getC F e_X2_begin_46 fl_X2_178 (fun _ => o15) h1451 k902 ((fld_eq (h1452.2 r902 (by rw [show kA _ r902 = 15 from k902]; decide))).trans f1447) ?_
  refine m_aload_n F rfl e_X2_begin_49 ?_
  refine t_get F e_X2_begin_50 fl_X2_183 (fun _ => o15) h1451 k902 rfl (fun v hv f1453 => ?_)
  obtain ⟨x1454, rfl⟩ := hv
  refine m_i2l F e_X2_begin_53 ?_
  refine Wm.topl (fun x1455 _ => ?_)
  refine t_callV F e_X2_begin_54 (s_X1_addLong (x_l X) V G b M Z T _ _ r1448 x1455 h1451.1 k1449  (by omega)) cb_X1_addLong ml_X2_186 im_X1_addLong se_X1_addLong (fun _ => o6) h1451 k1449 rfl rfl (rest := []) rfl (Nat.le_of_ble_eq_true rfl) ⟨Nat.le_of_ble_eq_true rfl, Nat.le_of_ble_eq_true rfl⟩ ⟨Nat.le_of_ble_eq_true rfl, Nat.le_of_ble_eq_true rfl⟩ (fun r σ1456 hp => ?_)
  obtain ⟨h1458, rfl⟩ := hp
  have h1457 := HK.trans h1451 h1458 (by decide)
  refine m_aload_n F rfl e_X2_begin_57 ?_
  refine t_get F e_X2_begin_58 fl_X2_189 (fun _ => o15) h1457 k902 rfl (fun v hv f1459 => ?_)
  obtain ⟨r1460, k1461, rfl⟩ := hv
  refine m_iconst F (v := 0) (by decide) e_X2_begin_61 ?_
  refine m_aload_n F rfl e_X2_begin_62 ?_
  refine t_getC F e_X2_begin_63 fl_X2_136 (fun _ => o15) h1457 k902 ((fld_eq (h1458.2 r902 (by rw [show kA _ r902 = 15 from k902]; decide))).trans ((fld_eq (h1452.2 r902 (by rw [show kA _ r902 = 15 from k902]; decide))).trans ((fld_eq (h1446.2 r902 (by rw [show kA _ r902 = 15 from k902]; decide))).trans f1441))) ?_
  refine t_callV F e_X2_begin_66 (s_X1_asLong (x_l X) V G b M Z T _ _ r1442  h1457.1 k1443  (by omega)) cb_X1_asLong ml_X2_193 im_X1_asLong se_X1_asLong (fun _ => o6) h1457 k1443 rfl rfl (rest := [.int 0, .ref r1460]) rfl (Nat.le_of_ble_eq_true rfl) ⟨Nat.le_of_ble_eq_true rfl, Nat.le_of_ble_eq_true rfl⟩ ⟨Nat.le_of_ble_eq_true rfl, Nat.le_of_ble_eq_true rfl⟩ (fun r σ1462 hp => ?_)
  obtain ⟨h1464, x1465, rfl⟩ := hp
  have h1463 := HK.trans h1457 h1464 (by decide)
  refine t_last F (len := 5) (j := 0) e_X2_begin_69 (fun _ => o18) h1463 k1461 (by decide) (by unfold vp_in; decide) (by decide) (fun σ1466 h1467 g1468 => ?_)
  refine m_aload_n F rfl e_X2_begin_70 ?_
  refine t_get F e_X2_begin_71 fl_X2_33 (fun _ => o7) h1467 hk rfl (fun v hv f1469 => ?_)
  obtain rfl : v = .ref (a + 5) := hv
  refine m_iconst F (v := 0) (by decide) e_X2_begin_74 ?_
  refine m_aload_n F rfl e_X2_begin_75 ?_
  refine t_get F e_X2_begin_76 fl_X2_68 (fun _ => o7) h1467 hk rfl (fun v hv f1470 => ?_)
  obtain ⟨n1471, hn1471, rfl⟩ := hv
  replace hn1471 : n1471 ≤ M := hn1471
  refine m_iload_n F rfl e_X2_begin_79 ?_
  refine t_callV F e_X2_begin_80 (s_X3_open (x_l X) V G b M Z T _ _ (a + 5) 0 (nI n1471) x901 h1467.1 (kA_7 hk (r := 5) (by decide))  (by omega)) cb_X3_open ml_X2_197 im_X3_open se_X3_open (fun _ => o12) h1467 (kA_7 hk (r := 5) (by decide)) rfl rfl (rest := []) rfl (Nat.le_of_ble_eq_true rfl) ⟨Nat.le_of_ble_eq_true rfl, Nat.le_of_ble_eq_true rfl⟩ ⟨Nat.le_of_ble_eq_true rfl, Nat.le_of_ble_eq_true rfl⟩ (fun r σ1472 hp => ?_)
  obtain ⟨h1474, rfl⟩ := hp
  have h1473 := HK.trans h1467 h1474 (by decide)
  refine m_aload_n F rfl e_X2_begin_83 ?_
  refine t_getC F e_X2_begin_84 fl_X2_33 (fun _ => o7) h1473 hk ((fld_eq (h1474.2 a (by rw [show kA _ a = 7 from hk]; decide))).trans f1469) ?_
  refine m_iconst F (v := 2) (by decide) e_X2_begin_87 ?_
  refine m_aload_n F rfl e_X2_begin_88 ?_
  refine t_getC F e_X2_begin_89 fl_X2_178 (fun _ => o15) h1473 k902 ((fld_eq (h1474.2 r902 (by rw [show kA _ r902 = 15 from k902]; decide))).trans ((g1468 r902 14 (fun e => absurd ((k902).symm.trans e) (by decide))).trans ((fld_eq (h1464.2 r902 (by rw [show kA _ r902 = 15 from k902]; decide))).trans ((fld_eq (h1458.2 r902 (by rw [show kA _ r902 = 15 from k902]; decide))).trans ((fld_eq (h1452.2 r902 (by rw [show kA _ r902 = 15 from k902]; decide))).trans f1447))))) ?_
  refine t_callV F e_X2_begin_92 (s_X1_asLong (x_l X) V G b (M + 1) Z T _ _ r1448  h1473.1 k1449  (by omega)) cb_X1_asLong ml_X2_193 im_X1_asLong se_X1_asLong (fun _ => o6) h1473 k1449 rfl rfl (rest := [.int 2, .ref (a + 5)]) rfl (Nat.le_of_ble_eq_true rfl) ⟨Nat.le_of_ble_eq_true rfl, Nat.le_of_ble_eq_true rfl⟩ ⟨Nat.le_of_ble_eq_true rfl, Nat.le_of_ble_eq_true rfl⟩ (fun r σ1475 hp => ?_)
  obtain ⟨h1477, x1478, rfl⟩ := hp
  have h1476 := HK.trans h1473 h1477 (by decide)
  refine t_callV F e_X2_begin_95 (s_X3_put (x_l X) V G b (M + 1) Z T _ _ (a + 5) 2 x1478 h1476.1 (kA_7 hk (r := 5) (by decide))  (by omega)) cb_X3_put ml_X2_201 im_X3_put se_X3_put (fun _ => o12) h1476 (kA_7 hk (r := 5) (by decide)) rfl rfl (rest := []) rfl (Nat.le_of_ble_eq_true rfl) ⟨Nat.le_of_ble_eq_true rfl, Nat.le_of_ble_eq_true rfl⟩ ⟨Nat.le_of_ble_eq_true rfl, Nat.le_of_ble_eq_true rfl⟩ (fun r σ1479 hp => ?_)
  obtain ⟨h1481, rfl⟩ := hp
  have h1480 := HK.trans h1476 h1481 (by decide)
  refine m_aload_n F rfl e_X2_begin_98 ?_
  refine t_getC F e_X2_begin_99 fl_X2_33 (fun _ => o7) h1480 hk ((fld_eq (h1481.2 a (by rw [show kA _ a = 7 from hk]; decide))).trans ((fld_eq (h1477.2 a (by rw [show kA _ a = 7 from hk]; decide))).trans ((fld_eq (h1474.2 a (by rw [show kA _ a = 7 from hk]; decide))).trans f1469))) ?_
  refine m_iconst F (v := 1) (by decide) e_X2_begin_102 ?_
  refine m_aload_n F rfl e_X2_begin_103 ?_
  refine t_getC F e_X2_begin_104 fl_X2_136 (fun _ => o15) h1480 k902 ((fld_eq (h1481.2 r902 (by rw [show kA _ r902 = 15 from k902]; decide))).trans ((fld_eq (h1477.2 r902 (by rw [show kA _ r902 = 15 from k902]; decide))).trans ((fld_eq (h1474.2 r902 (by rw [show kA _ r902 = 15 from k902]; decide))).trans ((g1468 r902 13 (fun e => absurd ((k902).symm.trans e) (by decide))).trans ((fld_eq (h1464.2 r902 (by rw [show kA _ r902 = 15 from k902]; decide))).trans ((fld_eq (h1458.2 r902 (by rw [show kA _ r902 = 15 from k902]; decide))).trans ((fld_eq (h1452.2 r902 (by rw [show kA _ r902 = 15 from k902]; decide))).trans ((fld_eq (h1446.2 r902 (by rw [show kA _ r902 = 15 from k902]; decide))).trans f1441)))))))) ?_
  refine t_callV F e_X2_begin_107 (s_X1_asLong (x_l X) V G b (M + 1) Z T _ _ r1442  h1480.1 k1443  (by omega)) cb_X1_asLong ml_X2_193 im_X1_asLong se_X1_asLong (fun _ => o6) h1480 k1443 rfl rfl (rest := [.int 1, .ref (a + 5)]) rfl (Nat.le_of_ble_eq_true rfl) ⟨Nat.le_of_ble_eq_true rfl, Nat.le_of_ble_eq_true rfl⟩ ⟨Nat.le_of_ble_eq_true rfl, Nat.le_of_ble_eq_true rfl⟩ (fun r σ1482 hp => ?_)
  obtain ⟨h1484, x1485, rfl⟩ := hp
  have h1483 := HK.trans h1480 h1484 (by decide)
  refine m_lneg F e_X2_begin_110 ?_
  refine Wm.topl (fun x1486 _ => ?_)
  refine t_callV F e_X2_begin_111 (s_X3_put (x_l X) V G b (M + 1) Z T _ _ (a + 5) 1 x1486 h1483.1 (kA_7 hk (r := 5) (by decide))  (by omega)) cb_X3_put ml_X2_201 im_X3_put se_X3_put (fun _ => o12) h1483 (kA_7 hk (r := 5) (by decide)) rfl rfl (rest := []) rfl (Nat.le_of_ble_eq_true rfl) ⟨Nat.le_of_ble_eq_true rfl, Nat.le_of_ble_eq_true rfl⟩ ⟨Nat.le_of_ble_eq_true rfl, Nat.le_of_ble_eq_true rfl⟩ (fun r σ1487 hp => ?_)
  obtain ⟨h1489, rfl⟩ := hp
  have h1488 := HK.trans h1483 h1489 (by decide)
  refine m_aload_n F rfl e_X2_begin_114 ?_
  refine t_getC F e_X2_begin_115 fl_X2_33 (fun _ => o7) h1488 hk ((fld_eq (h1489.2 a (by rw [show kA _ a = 7 from hk]; decide))).trans ((fld_eq (h1484.2 a (by rw [show kA _ a = 7 from hk]; decide))).trans ((fld_eq (h1481.2 a (by rw [show kA _ a = 7 from hk]; decide))).trans ((fld_eq (h1477.2 a (by rw [show kA _ a = 7 from hk]; decide))).trans ((fld_eq (h1474.2 a (by rw [show kA _ a = 7 from hk]; decide))).trans f1469))))) ?_
  refine m_iconst F (v := 0) (by decide) e_X2_begin_118 ?_
  refine m_aload_n F rfl e_X2_begin_119 ?_
  refine t_getC F e_X2_begin_120 fl_X2_183 (fun _ => o15) h1488 k902 ((fld_eq (h1489.2 r902 (by rw [show kA _ r902 = 15 from k902]; decide))).trans ((fld_eq (h1484.2 r902 (by rw [show kA _ r902 = 15 from k902]; decide))).trans ((fld_eq (h1481.2 r902 (by rw [show kA _ r902 = 15 from k902]; decide))).trans ((fld_eq (h1477.2 r902 (by rw [show kA _ r902 = 15 from k902]; decide))).trans ((fld_eq (h1474.2 r902 (by rw [show kA _ r902 = 15 from k902]; decide))).trans ((g1468 r902 5 (fun e => absurd ((k902).symm.trans e) (by decide))).trans ((fld_eq (h1464.2 r902 (by rw [show kA _ r902 = 15 from k902]; decide))).trans ((fld_eq (h1458.2 r902 (by rw [show kA _ r902 = 15 from k902]; decide))).trans f1453)))))))) ?_
  refine m_ineg F e_X2_begin_123 ?_
  refine Wm.top (fun x1490 _ => ?_)
  refine m_i2l F e_X2_begin_124 ?_
  refine Wm.topl (fun x1491 _ => ?_)
  refine t_callV F e_X2_begin_125 (s_X3_put (x_l X) V G b (M + 1) Z T _ _ (a + 5) 0 x1491 h1488.1 (kA_7 hk (r := 5) (by decide))  (by omega)) cb_X3_put ml_X2_201 im_X3_put se_X3_put (fun _ => o12) h1488 (kA_7 hk (r := 5) (by decide)) rfl rfl (rest := []) rfl (Nat.le_of_ble_eq_true rfl) ⟨Nat.le_of_ble_eq_true rfl, Nat.le_of_ble_eq_true rfl⟩ ⟨Nat.le_of_ble_eq_true rfl, Nat.le_of_ble_eq_true rfl⟩ (fun r σ1492 hp => ?_)
  obtain ⟨h1494, rfl⟩ := hp
  have h1493 := HK.trans h1488 h1494 (by decide)
  exact m_vret F hQ e_X2_begin_128 (⟨h1493, rfl⟩)
set_option maxRecDepth 20000 in
theorem s_X2_payAndWriteOff (l : Launch) (V : VX) (G : GH) (b M Z T N : Nat) (σ : Mem) (a : Nat) (x901 : Int32) (r902 : Nat) (h0 : HT V G (b, M, Z, T) σ) (hk : kA b a = 7) (k902 : kA b r902 = 15) (hM : M + 1 ≤ 1000000000) : Ct l V yX2_payAndWriteOff cX2_payAndWriteOff 12 none 4 0 0 N σ [.ref a, .int x901, .ref r902] (fun r τ => HK V G (b, M + 1, Z, T) [0, 1, 2, 3, 4, 5, 7, 8, 9, 10, 11, 16, 17, 19] σ τ ∧ r = none) := by
  refine Ct.of (by decide) (Nat.le_of_ble_eq_true rfl) [(0, .ref a), (1, .int x901), (2, .ref r902)] rfl (fun X hX F hQ => ?_)
  have h1 : HK V G (b, M, Z, T) [0, 1, 2, 3, 4, 5, 7, 8, 9, 10, 11, 16, 17, 19] σ σ := HK.start h0
  refine m_aload_n F rfl e_X2_payAndWriteOff_0 ?_
  refine t_callV F e_X2_payAndWriteOff_1 (s_X5_left (x_l X) V G b M Z T _ _ r902  h1.1 k902  (by omega)) cb_X5_left ml_X2_205 im_X5_left se_X5_left (fun _ => o15) h1 k902 rfl rfl (rest := []) rfl (Nat.le_of_ble_eq_true rfl) ⟨Nat.le_of_ble_eq_true rfl, Nat.le_of_ble_eq_true rfl⟩ ⟨Nat.le_of_ble_eq_true rfl, Nat.le_of_ble_eq_true rfl⟩ (fun r σ1495 hp => ?_)
  obtain ⟨h1497, x1498, rfl⟩ := hp
  have h1496 := HK.trans h1 h1497 (by decide)
  refine m_istore_n F (lv' := [(3, .int x1498), (0, .ref a), (1, .int x901), (2, .ref r902)]) e_X2_payAndWriteOff_4 (by decide) rfl ?_
  refine m_iload_n F rfl e_X2_payAndWriteOff_5 ?_
  refine m_iconst F (v := 1) (by decide) e_X2_payAndWriteOff_6 ?_
  refine m_icmp_ge F e_X2_payAndWriteOff_7 (fun q7 => ?_) (fun q7 => ?_)
  · obtain ⟨n1499, hn1499, rfl⟩ := nI_nn (x := x1498) (fun e => Int32.lt_irrefl (Int32.lt_of_lt_of_le e (Int32.le_trans (by decide) q7)))
    have c7 : n1499 ≥ 1 := (nI_leI (a := 1) (b := n1499) (by omega) (by omega)).mp q7
    refine m_aload_n F rfl e_X2_payAndWriteOff_11 ?_
    refine t_get F e_X2_payAndWriteOff_12 fl_X2_208 (fun _ => o15) h1496 k902 rfl (fun v hv f1500 => ?_)
    obtain ⟨r1501, k1502, rfl⟩ := hv
    refine m_aload_n F rfl e_X2_payAndWriteOff_15 ?_
    refine t_get F e_X2_payAndWriteOff_16 fl_X2_212 (fun _ => o15) h1496 k902 rfl (fun v hv f1503 => ?_)
    obtain ⟨x1504, rfl⟩ := hv
    refine m_aload_n F rfl e_X2_payAndWriteOff_19 ?_
    refine t_get F e_X2_payAndWriteOff_20 fl_X2_44 (fun _ => o7) h1496 hk rfl (fun v hv f1505 => ?_)
    obtain rfl : v = .ref (a + 9) := hv
    refine t_callV F e_X2_payAndWriteOff_23 (s_X8_copyTo (x_l X) V G b M Z T _ _ r1501 x1504 (a + 9) h1496.1 k1502 (kA_7 hk (r := 9) (by decide)) (by omega)) cb_X8_copyTo ml_X2_215 im_X8_copyTo se_X8_copyTo (fun _ => o16) h1496 k1502 rfl rfl (rest := []) rfl (Nat.le_of_ble_eq_true rfl) ⟨Nat.le_of_ble_eq_true rfl, Nat.le_of_ble_eq_true rfl⟩ ⟨Nat.le_of_ble_eq_true rfl, Nat.le_of_ble_eq_true rfl⟩ (fun r σ1506 hp => ?_)
    obtain ⟨h1508, rfl⟩ := hp
    have h1507 := HK.trans h1496 h1508 (by decide)
    refine m_aload_n F rfl e_X2_payAndWriteOff_26 ?_
    refine t_get F e_X2_payAndWriteOff_27 fl_X2_40 (fun _ => o7) h1507 hk rfl (fun v hv f1509 => ?_)
    obtain rfl : v = .ref (a + 8) := hv
    refine m_aload_n F rfl e_X2_payAndWriteOff_30 ?_
    refine t_getC F e_X2_payAndWriteOff_31 fl_X2_44 (fun _ => o7) h1507 hk ((fld_eq (h1508.2 a (by rw [show kA _ a = 7 from hk]; decide))).trans f1505) ?_
    refine t_callV F e_X2_payAndWriteOff_34 (s_X1_add (x_l X) V G b M Z T _ _ (a + 8) (a + 9) h1507.1 (kA_7 hk (r := 8) (by decide)) (kA_7 hk (r := 9) (by decide)) (by omega)) cb_X1_add ml_X2_139 im_X1_add se_X1_add (fun _ => o6) h1507 (kA_7 hk (r := 8) (by decide)) rfl rfl (rest := []) rfl (Nat.le_of_ble_eq_true rfl) ⟨Nat.le_of_ble_eq_true rfl, Nat.le_of_ble_eq_true rfl⟩ ⟨Nat.le_of_ble_eq_true rfl, Nat.le_of_ble_eq_true rfl⟩ (fun r σ1510 hp => ?_)
    obtain ⟨h1512, rfl⟩ := hp
    have h1511 := HK.trans h1507 h1512 (by decide)
    refine m_aload_n F rfl e_X2_payAndWriteOff_37 ?_
    refine m_aload_n F rfl e_X2_payAndWriteOff_38 ?_
    refine t_getC F e_X2_payAndWriteOff_39 fl_X2_44 (fun _ => o7) h1511 hk ((fld_eq (h1512.2 a (by rw [show kA _ a = 7 from hk]; decide))).trans ((fld_eq (h1508.2 a (by rw [show kA _ a = 7 from hk]; decide))).trans f1505)) ?_
    refine m_aload_n F rfl e_X2_payAndWriteOff_42 ?_
    refine t_get F e_X2_payAndWriteOff_43 fl_X2_47 (fun _ => o7) h1511 hk rfl (fun v hv f1513 => ?_)
    obtain rfl : v = .ref (a + 10) := hv
    refine t_callV F e_X2_payAndWriteOff_46 (s_X5_owedBehind (x_l X) V G b M Z T _ _ r902 (a + 9) (a + 10) h1511.1 k902 (kA_7 hk (r := 9) (by decide)) (kA_7 hk (r := 10) (by decide)) (by omega)) cb_X5_owedBehind ml_X2_221 im_X5_owedBehind se_X5_owedBehind (fun _ => o15) h1511 k902 rfl rfl (rest := []) rfl (Nat.le_of_ble_eq_true rfl) ⟨Nat.le_of_ble_eq_true rfl, Nat.le_of_ble_eq_true rfl⟩ ⟨Nat.le_of_ble_eq_true rfl, Nat.le_of_ble_eq_true rfl⟩ (fun r σ1514 hp => ?_)
    obtain ⟨h1516, rfl⟩ := hp
    have h1515 := HK.trans h1511 h1516 (by decide)
    refine m_aload_n F rfl e_X2_payAndWriteOff_49 ?_
    refine t_getC F e_X2_payAndWriteOff_50 fl_X2_44 (fun _ => o7) h1515 hk ((fld_eq (h1516.2 a (by rw [show kA _ a = 7 from hk]; decide))).trans ((fld_eq (h1512.2 a (by rw [show kA _ a = 7 from hk]; decide))).trans ((fld_eq (h1508.2 a (by rw [show kA _ a = 7 from hk]; decide))).trans f1505))) ?_
    refine t_callV F e_X2_payAndWriteOff_53 (s_X1_asLong (x_l X) V G b M Z T _ _ (a + 9)  h1515.1 (kA_7 hk (r := 9) (by decide))  (by omega)) cb_X1_asLong ml_X2_193 im_X1_asLong se_X1_asLong (fun _ => o6) h1515 (kA_7 hk (r := 9) (by decide)) rfl rfl (rest := []) rfl (Nat.le_of_ble_eq_true rfl) ⟨Nat.le_of_ble_eq_true rfl, Nat.le_of_ble_eq_true rfl⟩ ⟨Nat.le_of_ble_eq_true rfl, Nat.le_of_ble_eq_true rfl⟩ (fun r σ1517 hp => ?_)
    obtain ⟨h1519, x1520, rfl⟩ := hp
    have h1518 := HK.trans h1515 h1519 (by decide)
    refine m_lstore F (lv' := [(4, .long x1520), (3, .int (nI n1499)), (0, .ref a), (1, .int x901), (2, .ref r902)]) e_X2_payAndWriteOff_56 (by decide) rfl ?_
    refine m_aload_n F rfl e_X2_payAndWriteOff_58 ?_
    refine t_get F e_X2_payAndWriteOff_59 fl_X2_136 (fun _ => o15) h1518 k902 rfl (fun v hv f1521 => ?_)
    obtain ⟨r1522, k1523, rfl⟩ := hv
    refine t_callV F e_X2_payAndWriteOff_62 (s_X1_asLong (x_l X) V G b M Z T _ _ r1522  h1518.1 k1523  (by omega)) cb_X1_asLong ml_X2_193 im_X1_asLong se_X1_asLong (fun _ => o6) h1518 k1523 rfl rfl (rest := []) rfl (Nat.le_of_ble_eq_true rfl) ⟨Nat.le_of_ble_eq_true rfl, Nat.le_of_ble_eq_true rfl⟩ ⟨Nat.le_of_ble_eq_true rfl, Nat.le_of_ble_eq_true rfl⟩ (fun r σ1524 hp => ?_)
    obtain ⟨h1526, x1527, rfl⟩ := hp
    have h1525 := HK.trans h1518 h1526 (by decide)
    refine m_aload_n F rfl e_X2_payAndWriteOff_65 ?_
    refine t_getC F e_X2_payAndWriteOff_66 fl_X2_47 (fun _ => o7) h1525 hk ((fld_eq (h1526.2 a (by rw [show kA _ a = 7 from hk]; decide))).trans ((fld_eq (h1519.2 a (by rw [show kA _ a = 7 from hk]; decide))).trans ((fld_eq (h1516.2 a (by rw [show kA _ a = 7 from hk]; decide))).trans f1513))) ?_
    refine t_callV F e_X2_payAndWriteOff_69 (s_X1_asLong (x_l X) V G b M Z T _ _ (a + 10)  h1525.1 (kA_7 hk (r := 10) (by decide))  (by omega)) cb_X1_asLong ml_X2_193 im_X1_asLong se_X1_asLong (fun _ => o6) h1525 (kA_7 hk (r := 10) (by decide)) rfl rfl (rest := [.long x1527]) rfl (Nat.le_of_ble_eq_true rfl) ⟨Nat.le_of_ble_eq_true rfl, Nat.le_of_ble_eq_true rfl⟩ ⟨Nat.le_of_ble_eq_true rfl, Nat.le_of_ble_eq_true rfl⟩ (fun r σ1528 hp => ?_)
    obtain ⟨h1530, x1531, rfl⟩ := hp
    have h1529 := HK.trans h1525 h1530 (by decide)
    refine m_lsub F e_X2_payAndWriteOff_72 ?_
    refine Wm.topl (fun x1532 _ => ?_)
    refine m_lstore F (lv' := [(6, .long x1532), (4, .long x1520), (3, .int (nI n1499)), (0, .ref a), (1, .int x901), (2, .ref r902)]) e_X2_payAndWriteOff_73 (by decide) rfl ?_
    refine m_lload F rfl e_X2_payAndWriteOff_75 ?_
    refine m_lload F rfl e_X2_payAndWriteOff_77 ?_
    refine m_lsub F e_X2_payAndWriteOff_79 ?_
    refine Wm.topl (fun x1533 _ => ?_)
    refine m_lstore F (lv' := [(8, .long x1533), (6, .long x1532), (4, .long x1520), (3, .int (nI n1499)), (0, .ref a), (1, .int x901), (2, .ref r902)]) e_X2_payAndWriteOff_80 (by decide) rfl ?_
    refine m_aload_n F rfl e_X2_payAndWriteOff_82 ?_
    refine t_getC F e_X2_payAndWriteOff_83 fl_X2_136 (fun _ => o15) h1529 k902 ((fld_eq (h1530.2 r902 (by rw [show kA _ r902 = 15 from k902]; decide))).trans ((fld_eq (h1526.2 r902 (by rw [show kA _ r902 = 15 from k902]; decide))).trans f1521)) ?_
    refine m_aload_n F rfl e_X2_payAndWriteOff_86 ?_
    refine t_getC F e_X2_payAndWriteOff_87 fl_X2_47 (fun _ => o7) h1529 hk ((fld_eq (h1530.2 a (by rw [show kA _ a = 7 from hk]; decide))).trans ((fld_eq (h1526.2 a (by rw [show kA _ a = 7 from hk]; decide))).trans ((fld_eq (h1519.2 a (by rw [show kA _ a = 7 from hk]; decide))).trans ((fld_eq (h1516.2 a (by rw [show kA _ a = 7 from hk]; decide))).trans f1513)))) ?_
    refine t_callV F e_X2_payAndWriteOff_90 (s_X1_copyFrom (x_l X) V G b M Z T _ _ r1522 (a + 10) h1529.1 k1523 (kA_7 hk (r := 10) (by decide)) (by omega)) cb_X1_copyFrom ml_X2_181 im_X1_copyFrom se_X1_copyFrom (fun _ => o6) h1529 k1523 rfl rfl (rest := []) rfl (Nat.le_of_ble_eq_true rfl) ⟨Nat.le_of_ble_eq_true rfl, Nat.le_of_ble_eq_true rfl⟩ ⟨Nat.le_of_ble_eq_true rfl, Nat.le_of_ble_eq_true rfl⟩ (fun r σ1534 hp => ?_)
    obtain ⟨h1536, rfl⟩ := hp
    have h1535 := HK.trans h1529 h1536 (by decide)
    refine m_aload_n F rfl e_X2_payAndWriteOff_93 ?_
    refine t_getC F e_X2_payAndWriteOff_94 fl_X2_47 (fun _ => o7) h1535 hk ((fld_eq (h1536.2 a (by rw [show kA _ a = 7 from hk]; decide))).trans ((fld_eq (h1530.2 a (by rw [show kA _ a = 7 from hk]; decide))).trans ((fld_eq (h1526.2 a (by rw [show kA _ a = 7 from hk]; decide))).trans ((fld_eq (h1519.2 a (by rw [show kA _ a = 7 from hk]; decide))).trans ((fld_eq (h1516.2 a (by rw [show kA _ a = 7 from hk]; decide))).trans f1513))))) ?_
    refine m_aload_n F rfl e_X2_payAndWriteOff_97 ?_
    refine t_get F e_X2_payAndWriteOff_98 fl_X2_178 (fun _ => o15) h1535 k902 rfl (fun v hv f1537 => ?_)
    obtain ⟨r1538, k1539, rfl⟩ := hv
    refine t_callV F e_X2_payAndWriteOff_101 (s_X1_copyFrom (x_l X) V G b M Z T _ _ (a + 10) r1538 h1535.1 (kA_7 hk (r := 10) (by decide)) k1539 (by omega)) cb_X1_copyFrom ml_X2_181 im_X1_copyFrom se_X1_copyFrom (fun _ => o6) h1535 (kA_7 hk (r := 10) (by decide)) rfl rfl (rest := []) rfl (Nat.le_of_ble_eq_true rfl) ⟨Nat.le_of_ble_eq_true rfl, Nat.le_of_ble_eq_true rfl⟩ ⟨Nat.le_of_ble_eq_true rfl, Nat.le_of_ble_eq_true rfl⟩ (fun r σ1540 hp => ?_)
    obtain ⟨h1542, rfl⟩ := hp
    have h1541 := HK.trans h1535 h1542 (by decide)
    refine m_aload_n F rfl e_X2_payAndWriteOff_104 ?_
    refine t_getC F e_X2_payAndWriteOff_105 fl_X2_47 (fun _ => o7) h1541 hk ((fld_eq (h1542.2 a (by rw [show kA _ a = 7 from hk]; decide))).trans ((fld_eq (h1536.2 a (by rw [show kA _ a = 7 from hk]; decide))).trans ((fld_eq (h1530.2 a (by rw [show kA _ a = 7 from hk]; decide))).trans ((fld_eq (h1526.2 a (by rw [show kA _ a = 7 from hk]; decide))).trans ((fld_eq (h1519.2 a (by rw [show kA _ a = 7 from hk]; decide))).trans ((fld_eq (h1516.2 a (by rw [show kA _ a = 7 from hk]; decide))).trans f1513)))))) ?_
    refine m_lconst F (v := 1) (by decide) e_X2_payAndWriteOff_108 ?_
    refine m_iload_n F rfl e_X2_payAndWriteOff_109 ?_
    refine m_i2l F e_X2_payAndWriteOff_110 ?_
    refine Wm.topl (fun x1543 _ => ?_)
    refine t_callV F e_X2_payAndWriteOff_111 (s_X1_shareDown (x_l X) V G b M Z T _ _ (a + 10) 1 x1543 h1541.1 (kA_7 hk (r := 10) (by decide))  (by omega)) cb_X1_shareDown ml_X2_225 im_X1_shareDown se_X1_shareDown (fun _ => o6) h1541 (kA_7 hk (r := 10) (by decide)) rfl rfl (rest := []) rfl (Nat.le_of_ble_eq_true rfl) ⟨Nat.le_of_ble_eq_true rfl, Nat.le_of_ble_eq_true rfl⟩ ⟨Nat.le_of_ble_eq_true rfl, Nat.le_of_ble_eq_true rfl⟩ (fun r σ1544 hp => ?_)
    obtain ⟨h1546, rfl⟩ := hp
    have h1545 := HK.trans h1541 h1546 (by decide)
    refine m_aload_n F rfl e_X2_payAndWriteOff_114 ?_
    refine t_getC F e_X2_payAndWriteOff_115 fl_X2_47 (fun _ => o7) h1545 hk ((fld_eq (h1546.2 a (by rw [show kA _ a = 7 from hk]; decide))).trans ((fld_eq (h1542.2 a (by rw [show kA _ a = 7 from hk]; decide))).trans ((fld_eq (h1536.2 a (by rw [show kA _ a = 7 from hk]; decide))).trans ((fld_eq (h1530.2 a (by rw [show kA _ a = 7 from hk]; decide))).trans ((fld_eq (h1526.2 a (by rw [show kA _ a = 7 from hk]; decide))).trans ((fld_eq (h1519.2 a (by rw [show kA _ a = 7 from hk]; decide))).trans ((fld_eq (h1516.2 a (by rw [show kA _ a = 7 from hk]; decide))).trans f1513))))))) ?_
    refine t_callV F e_X2_payAndWriteOff_118 (s_X1_asLong (x_l X) V G b M Z T _ _ (a + 10)  h1545.1 (kA_7 hk (r := 10) (by decide))  (by omega)) cb_X1_asLong ml_X2_193 im_X1_asLong se_X1_asLong (fun _ => o6) h1545 (kA_7 hk (r := 10) (by decide)) rfl rfl (rest := []) rfl (Nat.le_of_ble_eq_true rfl) ⟨Nat.le_of_ble_eq_true rfl, Nat.le_of_ble_eq_true rfl⟩ ⟨Nat.le_of_ble_eq_true rfl, Nat.le_of_ble_eq_true rfl⟩ (fun r σ1547 hp => ?_)
    obtain ⟨h1549, x1550, rfl⟩ := hp
    have h1548 := HK.trans h1545 h1549 (by decide)
    refine m_lstore F (lv' := [(10, .long x1550), (8, .long x1533), (6, .long x1532), (4, .long x1520), (3, .int (nI n1499)), (0, .ref a), (1, .int x901), (2, .ref r902)]) e_X2_payAndWriteOff_121 (by decide) rfl ?_
    refine m_aload_n F rfl e_X2_payAndWriteOff_123 ?_
    refine t_getC F e_X2_payAndWriteOff_124 fl_X2_178 (fun _ => o15) h1548 k902 ((fld_eq (h1549.2 r902 (by rw [show kA _ r902 = 15 from k902]; decide))).trans ((fld_eq (h1546.2 r902 (by rw [show kA _ r902 = 15 from k902]; decide))).trans ((fld_eq (h1542.2 r902 (by rw [show kA _ r902 = 15 from k902]; decide))).trans f1537))) ?_
    refine m_aload_n F rfl e_X2_payAndWriteOff_127 ?_
    refine t_getC F e_X2_payAndWriteOff_128 fl_X2_47 (fun _ => o7) h1548 hk ((fld_eq (h1549.2 a (by rw [show kA _ a = 7 from hk]; decide))).trans ((fld_eq (h1546.2 a (by rw [show kA _ a = 7 from hk]; decide))).trans ((fld_eq (h1542.2 a (by rw [show kA _ a = 7 from hk]; decide))).trans ((fld_eq (h1536.2 a (by rw [show kA _ a = 7 from hk]; decide))).trans ((fld_eq (h1530.2 a (by rw [show kA _ a = 7 from hk]; decide))).trans ((fld_eq (h1526.2 a (by rw [show kA _ a = 7 from hk]; decide))).trans ((fld_eq (h1519.2 a (by rw [show kA _ a = 7 from hk]; decide))).trans ((fld_eq (h1516.2 a (by rw [show kA _ a = 7 from hk]; decide))).trans f1513)))))))) ?_
    refine t_callV F e_X2_payAndWriteOff_131 (s_X1_subtract (x_l X) V G b M Z T _ _ r1538 (a + 10) h1548.1 k1539 (kA_7 hk (r := 10) (by decide)) (by omega)) cb_X1_subtract ml_X2_229 im_X1_subtract se_X1_subtract (fun _ => o6) h1548 k1539 rfl rfl (rest := []) rfl (Nat.le_of_ble_eq_true rfl) ⟨Nat.le_of_ble_eq_true rfl, Nat.le_of_ble_eq_true rfl⟩ ⟨Nat.le_of_ble_eq_true rfl, Nat.le_of_ble_eq_true rfl⟩ (fun r σ1551 hp => ?_)
    obtain ⟨h1553, rfl⟩ := hp
    have h1552 := HK.trans h1548 h1553 (by decide)
    refine m_aload_n F rfl e_X2_payAndWriteOff_134 ?_
    refine t_get F e_X2_payAndWriteOff_135 fl_X2_33 (fun _ => o7) h1552 hk rfl (fun v hv f1554 => ?_)
    obtain rfl : v = .ref (a + 5) := hv
    refine m_iconst F (v := 1) (by decide) e_X2_payAndWriteOff_138 ?_
    refine m_aload_n F rfl e_X2_payAndWriteOff_139 ?_
    refine t_get F e_X2_payAndWriteOff_140 fl_X2_68 (fun _ => o7) h1552 hk rfl (fun v hv f1555 => ?_)
    obtain ⟨n1556, hn1556, rfl⟩ := hv
    replace hn1556 : n1556 ≤ M := hn1556
    refine m_iload_n F rfl e_X2_payAndWriteOff_143 ?_
    refine t_callV F e_X2_payAndWriteOff_144 (s_X3_open (x_l X) V G b M Z T _ _ (a + 5) 1 (nI n1556) x901 h1552.1 (kA_7 hk (r := 5) (by decide))  (by omega)) cb_X3_open ml_X2_197 im_X3_open se_X3_open (fun _ => o12) h1552 (kA_7 hk (r := 5) (by decide)) rfl rfl (rest := []) rfl (Nat.le_of_ble_eq_true rfl) ⟨Nat.le_of_ble_eq_true rfl, Nat.le_of_ble_eq_true rfl⟩ ⟨Nat.le_of_ble_eq_true rfl, Nat.le_of_ble_eq_true rfl⟩ (fun r σ1557 hp => ?_)
    obtain ⟨h1559, rfl⟩ := hp
    have h1558 := HK.trans h1552 h1559 (by decide)
    refine m_aload_n F rfl e_X2_payAndWriteOff_147 ?_
    refine t_getC F e_X2_payAndWriteOff_148 fl_X2_33 (fun _ => o7) h1558 hk ((fld_eq (h1559.2 a (by rw [show kA _ a = 7 from hk]; decide))).trans f1554) ?_
    refine m_iconst F (v := 0) (by decide) e_X2_payAndWriteOff_151 ?_
    refine m_lload F rfl e_X2_payAndWriteOff_152 ?_
    refine m_lneg F e_X2_payAndWriteOff_154 ?_
    refine Wm.topl (fun x1560 _ => ?_)
    refine t_callV F e_X2_payAndWriteOff_155 (s_X3_put (x_l X) V G b (M + 1) Z T _ _ (a + 5) 0 x1560 h1558.1 (kA_7 hk (r := 5) (by decide))  (by omega)) cb_X3_put ml_X2_201 im_X3_put se_X3_put (fun _ => o12) h1558 (kA_7 hk (r := 5) (by decide)) rfl rfl (rest := []) rfl (Nat.le_of_ble_eq_true rfl) ⟨Nat.le_of_ble_eq_true rfl, Nat.le_of_ble_eq_true rfl⟩ ⟨Nat.le_of_ble_eq_true rfl, Nat.le_of_ble_eq_true rfl⟩ (fun r σ1561 hp => ?_)
    obtain ⟨h1563, rfl⟩ := hp
    have h1562 := HK.trans h1558 h1563 (by decide)
    refine m_aload_n F rfl e_X2_payAndWriteOff_158 ?_
    refine t_getC F e_X2_payAndWriteOff_159 fl_X2_33 (fun _ => o7) h1562 hk ((fld_eq (h1563.2 a (by rw [show kA _ a = 7 from hk]; decide))).trans ((fld_eq (h1559.2 a (by rw [show kA _ a = 7 from hk]; decide))).trans f1554)) ?_
    refine m_iconst F (v := 1) (by decide) e_X2_payAndWriteOff_162 ?_
    refine m_lload F rfl e_X2_payAndWriteOff_163 ?_
    refine t_callV F e_X2_payAndWriteOff_165 (s_X3_put (x_l X) V G b (M + 1) Z T _ _ (a + 5) 1 x1532 h1562.1 (kA_7 hk (r := 5) (by decide))  (by omega)) cb_X3_put ml_X2_201 im_X3_put se_X3_put (fun _ => o12) h1562 (kA_7 hk (r := 5) (by decide)) rfl rfl (rest := []) rfl (Nat.le_of_ble_eq_true rfl) ⟨Nat.le_of_ble_eq_true rfl, Nat.le_of_ble_eq_true rfl⟩ ⟨Nat.le_of_ble_eq_true rfl, Nat.le_of_ble_eq_true rfl⟩ (fun r σ1564 hp => ?_)
    obtain ⟨h1566, rfl⟩ := hp
    have h1565 := HK.trans h1562 h1566 (by decide)
    refine m_aload_n F rfl e_X2_payAndWriteOff_168 ?_
    refine t_getC F e_X2_payAndWriteOff_169 fl_X2_33 (fun _ => o7) h1565 hk ((fld_eq (h1566.2 a (by rw [show kA _ a = 7 from hk]; decide))).trans ((fld_eq (h1563.2 a (by rw [show kA _ a = 7 from hk]; decide))).trans ((fld_eq (h1559.2 a (by rw [show kA _ a = 7 from hk]; decide))).trans f1554))) ?_
    refine m_iconst F (v := 2) (by decide) e_X2_payAndWriteOff_172 ?_
    refine m_lload F rfl e_X2_payAndWriteOff_173 ?_
    refine m_lneg F e_X2_payAndWriteOff_175 ?_
    refine Wm.topl (fun x1567 _ => ?_)
    refine t_callV F e_X2_payAndWriteOff_176 (s_X3_put (x_l X) V G b (M + 1) Z T _ _ (a + 5) 2 x1567 h1565.1 (kA_7 hk (r := 5) (by decide))  (by omega)) cb_X3_put ml_X2_201 im_X3_put se_X3_put (fun _ => o12) h1565 (kA_7 hk (r := 5) (by decide)) rfl rfl (rest := []) rfl (Nat.le_of_ble_eq_true rfl) ⟨Nat.le_of_ble_eq_true rfl, Nat.le_of_ble_eq_true rfl⟩ ⟨Nat.le_of_ble_eq_true rfl, Nat.le_of_ble_eq_true rfl⟩ (fun r σ1568 hp => ?_)
    obtain ⟨h1570, rfl⟩ := hp
    have h1569 := HK.trans h1565 h1570 (by decide)
    refine m_aload_n F rfl e_X2_payAndWriteOff_179 ?_
    refine t_getC F e_X2_payAndWriteOff_180 fl_X2_33 (fun _ => o7) h1569 hk ((fld_eq (h1570.2 a (by rw [show kA _ a = 7 from hk]; decide))).trans ((fld_eq (h1566.2 a (by rw [show kA _ a = 7 from hk]; decide))).trans ((fld_eq (h1563.2 a (by rw [show kA _ a = 7 from hk]; decide))).trans ((fld_eq (h1559.2 a (by rw [show kA _ a = 7 from hk]; decide))).trans f1554)))) ?_
    refine m_iconst F (v := 3) (by decide) e_X2_payAndWriteOff_183 ?_
    refine m_lload F rfl e_X2_payAndWriteOff_184 ?_
    refine t_callV F e_X2_payAndWriteOff_186 (s_X3_put (x_l X) V G b (M + 1) Z T _ _ (a + 5) 3 x1533 h1569.1 (kA_7 hk (r := 5) (by decide))  (by omega)) cb_X3_put ml_X2_201 im_X3_put se_X3_put (fun _ => o12) h1569 (kA_7 hk (r := 5) (by decide)) rfl rfl (rest := []) rfl (Nat.le_of_ble_eq_true rfl) ⟨Nat.le_of_ble_eq_true rfl, Nat.le_of_ble_eq_true rfl⟩ ⟨Nat.le_of_ble_eq_true rfl, Nat.le_of_ble_eq_true rfl⟩ (fun r σ1571 hp => ?_)
    obtain ⟨h1573, rfl⟩ := hp
    have h1572 := HK.trans h1569 h1573 (by decide)
    refine m_aload_n F rfl e_X2_payAndWriteOff_189 ?_
    refine t_getC F e_X2_payAndWriteOff_190 fl_X2_33 (fun _ => o7) h1572 hk ((fld_eq (h1573.2 a (by rw [show kA _ a = 7 from hk]; decide))).trans ((fld_eq (h1570.2 a (by rw [show kA _ a = 7 from hk]; decide))).trans ((fld_eq (h1566.2 a (by rw [show kA _ a = 7 from hk]; decide))).trans ((fld_eq (h1563.2 a (by rw [show kA _ a = 7 from hk]; decide))).trans ((fld_eq (h1559.2 a (by rw [show kA _ a = 7 from hk]; decide))).trans f1554))))) ?_
    refine m_iconst F (v := 4) (by decide) e_X2_payAndWriteOff_193 ?_
    refine m_lload F rfl e_X2_payAndWriteOff_194 ?_
    refine t_callV F e_X2_payAndWriteOff_196 (s_X3_put (x_l X) V G b (M + 1) Z T _ _ (a + 5) 4 x1550 h1572.1 (kA_7 hk (r := 5) (by decide))  (by omega)) cb_X3_put ml_X2_201 im_X3_put se_X3_put (fun _ => o12) h1572 (kA_7 hk (r := 5) (by decide)) rfl rfl (rest := []) rfl (Nat.le_of_ble_eq_true rfl) ⟨Nat.le_of_ble_eq_true rfl, Nat.le_of_ble_eq_true rfl⟩ ⟨Nat.le_of_ble_eq_true rfl, Nat.le_of_ble_eq_true rfl⟩ (fun r σ1574 hp => ?_)
    obtain ⟨h1576, rfl⟩ := hp
    have h1575 := HK.trans h1572 h1576 (by decide)
    refine m_aload_n F rfl e_X2_payAndWriteOff_199 ?_
    refine t_get F e_X2_payAndWriteOff_200 fl_X2_189 (fun _ => o15) h1575 k902 rfl (fun v hv f1577 => ?_)
    obtain ⟨r1578, k1579, rfl⟩ := hv
    refine m_iconst F (v := 1) (by decide) e_X2_payAndWriteOff_203 ?_
    refine m_dup2_11 F rfl rfl e_X2_payAndWriteOff_204 ?_
    refine t_lald F (len := 5) (j := 1) e_X2_payAndWriteOff_205 (fun _ => o18) h1575 k1579 (by decide) (by unfold vp_in; decide) (fun x1580 => ?_)
    refine m_lload F rfl e_X2_payAndWriteOff_206 ?_
    refine m_ladd F e_X2_payAndWriteOff_208 ?_
    refine Wm.topl (fun x1581 _ => ?_)
    refine t_last F (len := 5) (j := 1) e_X2_payAndWriteOff_209 (fun _ => o18) h1575 k1579 (by decide) (by unfold vp_in; decide) (by decide) (fun σ1582 h1583 g1584 => ?_)
    refine m_aload_n F rfl e_X2_payAndWriteOff_210 ?_
    refine t_getC F e_X2_payAndWriteOff_211 fl_X2_189 (fun _ => o15) h1583 k902 ((g1584 r902 17 (fun e => absurd ((k902).symm.trans e) (by decide))).trans f1577) ?_
    refine m_iconst F (v := 2) (by decide) e_X2_payAndWriteOff_214 ?_
    refine m_dup2_11 F rfl rfl e_X2_payAndWriteOff_215 ?_
    refine t_lald F (len := 5) (j := 2) e_X2_payAndWriteOff_216 (fun _ => o18) h1583 k1579 (by decide) (by unfold vp_in; decide) (fun x1585 => ?_)
    refine m_lload F rfl e_X2_payAndWriteOff_217 ?_
    refine m_ladd F e_X2_payAndWriteOff_219 ?_
    refine Wm.topl (fun x1586 _ => ?_)
    refine t_last F (len := 5) (j := 2) e_X2_payAndWriteOff_220 (fun _ => o18) h1583 k1579 (by decide) (by unfold vp_in; decide) (by decide) (fun σ1587 h1588 g1589 => ?_)
    refine m_aload_n F rfl e_X2_payAndWriteOff_221 ?_
    refine m_dup F rfl e_X2_payAndWriteOff_222 ?_
    refine t_getC F e_X2_payAndWriteOff_223 fl_X2_212 (fun _ => o15) h1588 k902 ((g1589 r902 8 (fun e => absurd ((k902).symm.trans e) (by decide))).trans ((g1584 r902 8 (fun e => absurd ((k902).symm.trans e) (by decide))).trans ((fld_eq (h1576.2 r902 (by rw [show kA _ r902 = 15 from k902]; decide))).trans ((fld_eq (h1573.2 r902 (by rw [show kA _ r902 = 15 from k902]; decide))).trans ((fld_eq (h1570.2 r902 (by rw [show kA _ r902 = 15 from k902]; decide))).trans ((fld_eq (h1566.2 r902 (by rw [show kA _ r902 = 15 from k902]; decide))).trans ((fld_eq (h1563.2 r902 (by rw [show kA _ r902 = 15 from k902]; decide))).trans ((fld_eq (h1559.2 r902 (by rw [show kA _ r902 = 15 from k902]; decide))).trans ((fld_eq (h1553.2 r902 (by rw [show kA _ r902 = 15 from k902]; decide))).trans ((fld_eq (h1549.2 r902 (by rw [show kA _ r902 = 15 from k902]; decide))).trans ((fld_eq (h1546.2 r902 (by rw [show kA _ r902 = 15 from k902]; decide))).trans ((fld_eq (h1542.2 r902 (by rw [show kA _ r902 = 15 from k902]; decide))).trans ((fld_eq (h1536.2 r902 (by rw [show kA _ r902 = 15 from k902]; decide))).trans ((fld_eq (h1530.2 r902 (by rw [show kA _ r902 = 15 from k902]; decide))).trans ((fld_eq (h1526.2 r902 (by rw [show kA _ r902 = 15 from k902]; decide))).trans ((fld_eq (h1519.2 r902 (by rw [show kA _ r902 = 15 from k902]; decide))).trans ((fld_eq (h1516.2 r902 (by rw [show kA _ r902 = 15 from k902]; decide))).trans ((fld_eq (h1512.2 r902 (by rw [show kA _ r902 = 15 from k902]; decide))).trans ((fld_eq (h1508.2 r902 (by rw [show kA _ r902 = 15 from k902]; decide))).trans f1503))))))))))))))))))) ?_
    refine m_iconst F (v := 1) (by decide) e_X2_payAndWriteOff_226 ?_
    refine m_iadd F e_X2_payAndWriteOff_227 ?_
    refine Wm.top (fun x1590 _ => ?_)
    refine t_put F e_X2_payAndWriteOff_228 fp_X2_212 (fun _ => o15) h1588 k902 rfl ⟨_, rfl⟩ rfl rfl (by decide) (fun σ1591 h1592 g1593 g1594 f1595 => ?_)
    refine m_aload_n F rfl e_X2_payAndWriteOff_231 ?_
    refine t_getC F e_X2_payAndWriteOff_232 fl_X2_212 (fun _ => o15) h1592 k902 (f1595) ?_
    refine m_aload_n F rfl e_X2_payAndWriteOff_235 ?_
    refine t_get F e_X2_payAndWriteOff_236 fl_X2_232 (fun _ => o15) h1592 k902 rfl (fun v hv f1596 => ?_)
    obtain ⟨x1597, rfl⟩ := hv
    refine m_icmp_lt F e_X2_payAndWriteOff_239 (fun q239 => ?_) (fun q239 => ?_)
    · exact m_vret F hQ e_X2_payAndWriteOff_247 (⟨h1592, rfl⟩)
    · refine m_aload_n F rfl e_X2_payAndWriteOff_242 ?_
      refine m_iconst F (v := 2) (by decide) e_X2_payAndWriteOff_243 ?_
      refine t_put F e_X2_payAndWriteOff_244 fp_X2_129 (fun _ => o15) h1592 k902 rfl ⟨_, rfl⟩ rfl rfl (by decide) (fun σ1598 h1599 g1600 g1601 f1602 => ?_)
      exact m_vret F hQ e_X2_payAndWriteOff_247 (⟨h1599, rfl⟩)
  · exact m_vret F hQ e_X2_payAndWriteOff_10 (⟨(h1496.mono (M' := M + 1) (Z' := Z) (by omega) (by intro e; first | rfl | assumption | omega)), rfl⟩)
set_option maxRecDepth 20000 in
theorem s_X2_remeasure (l : Launch) (V : VX) (G : GH) (b M Z T N : Nat) (σ : Mem) (a : Nat) (x901 : Int32) (r902 : Nat) (h0 : HT V G (b, M, Z, T) σ) (hk : kA b a = 7) (k902 : kA b r902 = 15) (hM : M + 1 ≤ 1000000000) : Ct l V yX2_remeasure cX2_remeasure 7 (some .long) 4 0 0 N σ [.ref a, .int x901, .ref r902] (fun r τ => HK V G (b, M + 1, Z, T) [0, 1, 2, 3, 4, 5, 7, 8, 9, 10, 11, 15, 16, 17, 19] σ τ ∧ ∃ x : Int64, r = some (.long x)) := by
  refine Ct.of (by decide) (Nat.le_of_ble_eq_true rfl) [(0, .ref a), (1, .int x901), (2, .ref r902)] rfl (fun X hX F hQ => ?_)
  have h1 : HK V G (b, M, Z, T) [0, 1, 2, 3, 4, 5, 7, 8, 9, 10, 11, 15, 16, 17, 19] σ σ := HK.start h0
  refine m_aload_n F rfl e_X2_remeasure_0 ?_
  refine m_aload_n F rfl e_X2_remeasure_1 ?_
  refine t_get F e_X2_remeasure_2 fl_X2_212 (fun _ => o15) h1 k902 rfl (fun v hv f1603 => ?_)
  obtain ⟨x1604, rfl⟩ := hv
  refine m_aload_n F rfl e_X2_remeasure_5 ?_
  refine t_get F e_X2_remeasure_6 fl_X2_123 (fun _ => o15) h1 k902 rfl (fun v hv f1605 => ?_)
  obtain ⟨x1606, rfl⟩ := hv
  refine m_aload_n F rfl e_X2_remeasure_9 ?_
  refine t_get F e_X2_remeasure_10 fl_X2_47 (fun _ => o7) h1 hk rfl (fun v hv f1607 => ?_)
  obtain rfl : v = .ref (a + 10) := hv
  refine t_callV F e_X2_remeasure_13 (s_X5_worthFrom (x_l X) V G b M Z T _ _ r902 x1604 x1606 (a + 10) h1.1 k902 (kA_7 hk (r := 10) (by decide)) (by omega)) cb_X5_worthFrom ml_X2_174 im_X5_worthFrom se_X5_worthFrom (fun _ => o15) h1 k902 rfl rfl (rest := []) rfl (Nat.le_of_ble_eq_true rfl) ⟨Nat.le_of_ble_eq_true rfl, Nat.le_of_ble_eq_true rfl⟩ ⟨Nat.le_of_ble_eq_true rfl, Nat.le_of_ble_eq_true rfl⟩ (fun r σ1608 hp => ?_)
  obtain ⟨h1610, rfl⟩ := hp
  have h1609 := HK.trans h1 h1610 (by decide)
  refine m_aload_n F rfl e_X2_remeasure_16 ?_
  refine t_getC F e_X2_remeasure_17 fl_X2_47 (fun _ => o7) h1609 hk ((fld_eq (h1610.2 a (by rw [show kA _ a = 7 from hk]; decide))).trans f1607) ?_
  refine t_callV F e_X2_remeasure_20 (s_X1_asLong (x_l X) V G b M Z T _ _ (a + 10)  h1609.1 (kA_7 hk (r := 10) (by decide))  (by omega)) cb_X1_asLong ml_X2_193 im_X1_asLong se_X1_asLong (fun _ => o6) h1609 (kA_7 hk (r := 10) (by decide)) rfl rfl (rest := []) rfl (Nat.le_of_ble_eq_true rfl) ⟨Nat.le_of_ble_eq_true rfl, Nat.le_of_ble_eq_true rfl⟩ ⟨Nat.le_of_ble_eq_true rfl, Nat.le_of_ble_eq_true rfl⟩ (fun r σ1611 hp => ?_)
  obtain ⟨h1613, x1614, rfl⟩ := hp
  have h1612 := HK.trans h1609 h1613 (by decide)
  refine m_aload_n F rfl e_X2_remeasure_23 ?_
  refine t_get F e_X2_remeasure_24 fl_X2_136 (fun _ => o15) h1612 k902 rfl (fun v hv f1615 => ?_)
  obtain ⟨r1616, k1617, rfl⟩ := hv
  refine t_callV F e_X2_remeasure_27 (s_X1_asLong (x_l X) V G b M Z T _ _ r1616  h1612.1 k1617  (by omega)) cb_X1_asLong ml_X2_193 im_X1_asLong se_X1_asLong (fun _ => o6) h1612 k1617 rfl rfl (rest := [.long x1614]) rfl (Nat.le_of_ble_eq_true rfl) ⟨Nat.le_of_ble_eq_true rfl, Nat.le_of_ble_eq_true rfl⟩ ⟨Nat.le_of_ble_eq_true rfl, Nat.le_of_ble_eq_true rfl⟩ (fun r σ1618 hp => ?_)
  obtain ⟨h1620, x1621, rfl⟩ := hp
  have h1619 := HK.trans h1612 h1620 (by decide)
  refine m_lsub F e_X2_remeasure_30 ?_
  refine Wm.topl (fun x1622 _ => ?_)
  refine m_lstore_n F (lv' := [(3, .long x1622), (0, .ref a), (1, .int x901), (2, .ref r902)]) e_X2_remeasure_31 (by decide) rfl ?_
  refine m_aload_n F rfl e_X2_remeasure_32 ?_
  refine t_get F e_X2_remeasure_33 fl_X2_178 (fun _ => o15) h1619 k902 rfl (fun v hv f1623 => ?_)
  obtain ⟨r1624, k1625, rfl⟩ := hv
  refine t_callV F e_X2_remeasure_36 (s_X1_asLong (x_l X) V G b M Z T _ _ r1624  h1619.1 k1625  (by omega)) cb_X1_asLong ml_X2_193 im_X1_asLong se_X1_asLong (fun _ => o6) h1619 k1625 rfl rfl (rest := []) rfl (Nat.le_of_ble_eq_true rfl) ⟨Nat.le_of_ble_eq_true rfl, Nat.le_of_ble_eq_true rfl⟩ ⟨Nat.le_of_ble_eq_true rfl, Nat.le_of_ble_eq_true rfl⟩ (fun r σ1626 hp => ?_)
  obtain ⟨h1628, x1629, rfl⟩ := hp
  have h1627 := HK.trans h1619 h1628 (by decide)
  refine m_lneg F e_X2_remeasure_39 ?_
  refine Wm.topl (fun x1630 _ => ?_)
  refine m_lstore F (lv' := [(5, .long x1630), (3, .long x1622), (0, .ref a), (1, .int x901), (2, .ref r902)]) e_X2_remeasure_40 (by decide) rfl ?_
  refine m_aload_n F rfl e_X2_remeasure_42 ?_
  refine t_getC F e_X2_remeasure_43 fl_X2_178 (fun _ => o15) h1627 k902 ((fld_eq (h1628.2 r902 (by rw [show kA _ r902 = 15 from k902]; decide))).trans f1623) ?_
  refine m_aload_n F rfl e_X2_remeasure_46 ?_
  refine t_getC F e_X2_remeasure_47 fl_X2_47 (fun _ => o7) h1627 hk ((fld_eq (h1628.2 a (by rw [show kA _ a = 7 from hk]; decide))).trans ((fld_eq (h1620.2 a (by rw [show kA _ a = 7 from hk]; decide))).trans ((fld_eq (h1613.2 a (by rw [show kA _ a = 7 from hk]; decide))).trans ((fld_eq (h1610.2 a (by rw [show kA _ a = 7 from hk]; decide))).trans f1607)))) ?_
  refine t_callV F e_X2_remeasure_50 (s_X1_add (x_l X) V G b M Z T _ _ r1624 (a + 10) h1627.1 k1625 (kA_7 hk (r := 10) (by decide)) (by omega)) cb_X1_add ml_X2_139 im_X1_add se_X1_add (fun _ => o6) h1627 k1625 rfl rfl (rest := []) rfl (Nat.le_of_ble_eq_true rfl) ⟨Nat.le_of_ble_eq_true rfl, Nat.le_of_ble_eq_true rfl⟩ ⟨Nat.le_of_ble_eq_true rfl, Nat.le_of_ble_eq_true rfl⟩ (fun r σ1631 hp => ?_)
  obtain ⟨h1633, rfl⟩ := hp
  have h1632 := HK.trans h1627 h1633 (by decide)
  refine m_aload_n F rfl e_X2_remeasure_53 ?_
  refine t_getC F e_X2_remeasure_54 fl_X2_178 (fun _ => o15) h1632 k902 ((fld_eq (h1633.2 r902 (by rw [show kA _ r902 = 15 from k902]; decide))).trans ((fld_eq (h1628.2 r902 (by rw [show kA _ r902 = 15 from k902]; decide))).trans f1623)) ?_
  refine m_aload_n F rfl e_X2_remeasure_57 ?_
  refine t_getC F e_X2_remeasure_58 fl_X2_136 (fun _ => o15) h1632 k902 ((fld_eq (h1633.2 r902 (by rw [show kA _ r902 = 15 from k902]; decide))).trans ((fld_eq (h1628.2 r902 (by rw [show kA _ r902 = 15 from k902]; decide))).trans ((fld_eq (h1620.2 r902 (by rw [show kA _ r902 = 15 from k902]; decide))).trans f1615))) ?_
  refine t_callV F e_X2_remeasure_61 (s_X1_subtract (x_l X) V G b M Z T _ _ r1624 r1616 h1632.1 k1625 k1617 (by omega)) cb_X1_subtract ml_X2_229 im_X1_subtract se_X1_subtract (fun _ => o6) h1632 k1625 rfl rfl (rest := []) rfl (Nat.le_of_ble_eq_true rfl) ⟨Nat.le_of_ble_eq_true rfl, Nat.le_of_ble_eq_true rfl⟩ ⟨Nat.le_of_ble_eq_true rfl, Nat.le_of_ble_eq_true rfl⟩ (fun r σ1634 hp => ?_)
  obtain ⟨h1636, rfl⟩ := hp
  have h1635 := HK.trans h1632 h1636 (by decide)
  refine m_aload_n F rfl e_X2_remeasure_64 ?_
  refine t_getC F e_X2_remeasure_65 fl_X2_178 (fun _ => o15) h1635 k902 ((fld_eq (h1636.2 r902 (by rw [show kA _ r902 = 15 from k902]; decide))).trans ((fld_eq (h1633.2 r902 (by rw [show kA _ r902 = 15 from k902]; decide))).trans ((fld_eq (h1628.2 r902 (by rw [show kA _ r902 = 15 from k902]; decide))).trans f1623))) ?_
  refine t_callV F e_X2_remeasure_68 (s_X1_holdToZero (x_l X) V G b M Z T _ _ r1624  h1635.1 k1625  (by omega)) cb_X1_holdToZero ml_X2_235 im_X1_holdToZero se_X1_holdToZero (fun _ => o6) h1635 k1625 rfl rfl (rest := []) rfl (Nat.le_of_ble_eq_true rfl) ⟨Nat.le_of_ble_eq_true rfl, Nat.le_of_ble_eq_true rfl⟩ ⟨Nat.le_of_ble_eq_true rfl, Nat.le_of_ble_eq_true rfl⟩ (fun r σ1637 hp => ?_)
  obtain ⟨h1639, rfl⟩ := hp
  have h1638 := HK.trans h1635 h1639 (by decide)
  refine m_lload F rfl e_X2_remeasure_71 ?_
  refine m_aload_n F rfl e_X2_remeasure_73 ?_
  refine t_getC F e_X2_remeasure_74 fl_X2_178 (fun _ => o15) h1638 k902 ((fld_eq (h1639.2 r902 (by rw [show kA _ r902 = 15 from k902]; decide))).trans ((fld_eq (h1636.2 r902 (by rw [show kA _ r902 = 15 from k902]; decide))).trans ((fld_eq (h1633.2 r902 (by rw [show kA _ r902 = 15 from k902]; decide))).trans ((fld_eq (h1628.2 r902 (by rw [show kA _ r902 = 15 from k902]; decide))).trans f1623)))) ?_
  refine t_callV F e_X2_remeasure_77 (s_X1_asLong (x_l X) V G b M Z T _ _ r1624  h1638.1 k1625  (by omega)) cb_X1_asLong ml_X2_193 im_X1_asLong se_X1_asLong (fun _ => o6) h1638 k1625 rfl rfl (rest := [.long x1630]) rfl (Nat.le_of_ble_eq_true rfl) ⟨Nat.le_of_ble_eq_true rfl, Nat.le_of_ble_eq_true rfl⟩ ⟨Nat.le_of_ble_eq_true rfl, Nat.le_of_ble_eq_true rfl⟩ (fun r σ1640 hp => ?_)
  obtain ⟨h1642, x1643, rfl⟩ := hp
  have h1641 := HK.trans h1638 h1642 (by decide)
  refine m_ladd F e_X2_remeasure_80 ?_
  refine Wm.topl (fun x1644 _ => ?_)
  refine m_lstore F (lv' := [(5, .long x1644), (3, .long x1622), (0, .ref a), (1, .int x901), (2, .ref r902)]) e_X2_remeasure_81 (by decide) rfl ?_
  refine m_aload_n F rfl e_X2_remeasure_83 ?_
  refine t_getC F e_X2_remeasure_84 fl_X2_136 (fun _ => o15) h1641 k902 ((fld_eq (h1642.2 r902 (by rw [show kA _ r902 = 15 from k902]; decide))).trans ((fld_eq (h1639.2 r902 (by rw [show kA _ r902 = 15 from k902]; decide))).trans ((fld_eq (h1636.2 r902 (by rw [show kA _ r902 = 15 from k902]; decide))).trans ((fld_eq (h1633.2 r902 (by rw [show kA _ r902 = 15 from k902]; decide))).trans ((fld_eq (h1628.2 r902 (by rw [show kA _ r902 = 15 from k902]; decide))).trans ((fld_eq (h1620.2 r902 (by rw [show kA _ r902 = 15 from k902]; decide))).trans f1615)))))) ?_
  refine m_aload_n F rfl e_X2_remeasure_87 ?_
  refine t_getC F e_X2_remeasure_88 fl_X2_47 (fun _ => o7) h1641 hk ((fld_eq (h1642.2 a (by rw [show kA _ a = 7 from hk]; decide))).trans ((fld_eq (h1639.2 a (by rw [show kA _ a = 7 from hk]; decide))).trans ((fld_eq (h1636.2 a (by rw [show kA _ a = 7 from hk]; decide))).trans ((fld_eq (h1633.2 a (by rw [show kA _ a = 7 from hk]; decide))).trans ((fld_eq (h1628.2 a (by rw [show kA _ a = 7 from hk]; decide))).trans ((fld_eq (h1620.2 a (by rw [show kA _ a = 7 from hk]; decide))).trans ((fld_eq (h1613.2 a (by rw [show kA _ a = 7 from hk]; decide))).trans ((fld_eq (h1610.2 a (by rw [show kA _ a = 7 from hk]; decide))).trans f1607)))))))) ?_
  refine t_callV F e_X2_remeasure_91 (s_X1_copyFrom (x_l X) V G b M Z T _ _ r1616 (a + 10) h1641.1 k1617 (kA_7 hk (r := 10) (by decide)) (by omega)) cb_X1_copyFrom ml_X2_181 im_X1_copyFrom se_X1_copyFrom (fun _ => o6) h1641 k1617 rfl rfl (rest := []) rfl (Nat.le_of_ble_eq_true rfl) ⟨Nat.le_of_ble_eq_true rfl, Nat.le_of_ble_eq_true rfl⟩ ⟨Nat.le_of_ble_eq_true rfl, Nat.le_of_ble_eq_true rfl⟩ (fun r σ1645 hp => ?_)
  obtain ⟨h1647, rfl⟩ := hp
  have h1646 := HK.trans h1641 h1647 (by decide)
  refine m_aload_n F rfl e_X2_remeasure_94 ?_
  refine t_get F e_X2_remeasure_95 fl_X2_33 (fun _ => o7) h1646 hk rfl (fun v hv f1648 => ?_)
  obtain rfl : v = .ref (a + 5) := hv
  refine m_iconst F (v := 2) (by decide) e_X2_remeasure_98 ?_
  refine m_aload_n F rfl e_X2_remeasure_99 ?_
  refine t_get F e_X2_remeasure_100 fl_X2_68 (fun _ => o7) h1646 hk rfl (fun v hv f1649 => ?_)
  obtain ⟨n1650, hn1650, rfl⟩ := hv
  replace hn1650 : n1650 ≤ M := hn1650
  refine m_iload_n F rfl e_X2_remeasure_103 ?_
  refine t_callV F e_X2_remeasure_104 (s_X3_open (x_l X) V G b M Z T _ _ (a + 5) 2 (nI n1650) x901 h1646.1 (kA_7 hk (r := 5) (by decide))  (by omega)) cb_X3_open ml_X2_197 im_X3_open se_X3_open (fun _ => o12) h1646 (kA_7 hk (r := 5) (by decide)) rfl rfl (rest := []) rfl (Nat.le_of_ble_eq_true rfl) ⟨Nat.le_of_ble_eq_true rfl, Nat.le_of_ble_eq_true rfl⟩ ⟨Nat.le_of_ble_eq_true rfl, Nat.le_of_ble_eq_true rfl⟩ (fun r σ1651 hp => ?_)
  obtain ⟨h1653, rfl⟩ := hp
  have h1652 := HK.trans h1646 h1653 (by decide)
  refine m_aload_n F rfl e_X2_remeasure_107 ?_
  refine t_getC F e_X2_remeasure_108 fl_X2_33 (fun _ => o7) h1652 hk ((fld_eq (h1653.2 a (by rw [show kA _ a = 7 from hk]; decide))).trans f1648) ?_
  refine m_iconst F (v := 1) (by decide) e_X2_remeasure_111 ?_
  refine m_lload_n F rfl e_X2_remeasure_112 ?_
  refine m_lneg F e_X2_remeasure_113 ?_
  refine Wm.topl (fun x1654 _ => ?_)
  refine t_callV F e_X2_remeasure_114 (s_X3_put (x_l X) V G b (M + 1) Z T _ _ (a + 5) 1 x1654 h1652.1 (kA_7 hk (r := 5) (by decide))  (by omega)) cb_X3_put ml_X2_201 im_X3_put se_X3_put (fun _ => o12) h1652 (kA_7 hk (r := 5) (by decide)) rfl rfl (rest := []) rfl (Nat.le_of_ble_eq_true rfl) ⟨Nat.le_of_ble_eq_true rfl, Nat.le_of_ble_eq_true rfl⟩ ⟨Nat.le_of_ble_eq_true rfl, Nat.le_of_ble_eq_true rfl⟩ (fun r σ1655 hp => ?_)
  obtain ⟨h1657, rfl⟩ := hp
  have h1656 := HK.trans h1652 h1657 (by decide)
  refine m_aload_n F rfl e_X2_remeasure_117 ?_
  refine t_getC F e_X2_remeasure_118 fl_X2_33 (fun _ => o7) h1656 hk ((fld_eq (h1657.2 a (by rw [show kA _ a = 7 from hk]; decide))).trans ((fld_eq (h1653.2 a (by rw [show kA _ a = 7 from hk]; decide))).trans f1648)) ?_
  refine m_iconst F (v := 2) (by decide) e_X2_remeasure_121 ?_
  refine m_lload F rfl e_X2_remeasure_122 ?_
  refine t_callV F e_X2_remeasure_124 (s_X3_put (x_l X) V G b (M + 1) Z T _ _ (a + 5) 2 x1644 h1656.1 (kA_7 hk (r := 5) (by decide))  (by omega)) cb_X3_put ml_X2_201 im_X3_put se_X3_put (fun _ => o12) h1656 (kA_7 hk (r := 5) (by decide)) rfl rfl (rest := []) rfl (Nat.le_of_ble_eq_true rfl) ⟨Nat.le_of_ble_eq_true rfl, Nat.le_of_ble_eq_true rfl⟩ ⟨Nat.le_of_ble_eq_true rfl, Nat.le_of_ble_eq_true rfl⟩ (fun r σ1658 hp => ?_)
  obtain ⟨h1660, rfl⟩ := hp
  have h1659 := HK.trans h1656 h1660 (by decide)
  refine m_aload_n F rfl e_X2_remeasure_127 ?_
  refine t_getC F e_X2_remeasure_128 fl_X2_33 (fun _ => o7) h1659 hk ((fld_eq (h1660.2 a (by rw [show kA _ a = 7 from hk]; decide))).trans ((fld_eq (h1657.2 a (by rw [show kA _ a = 7 from hk]; decide))).trans ((fld_eq (h1653.2 a (by rw [show kA _ a = 7 from hk]; decide))).trans f1648))) ?_
  refine m_iconst F (v := 5) (by decide) e_X2_remeasure_131 ?_
  refine m_lload_n F rfl e_X2_remeasure_132 ?_
  refine m_lload F rfl e_X2_remeasure_133 ?_
  refine m_lsub F e_X2_remeasure_135 ?_
  refine Wm.topl (fun x1661 _ => ?_)
  refine t_callV F e_X2_remeasure_136 (s_X3_put (x_l X) V G b (M + 1) Z T _ _ (a + 5) 5 x1661 h1659.1 (kA_7 hk (r := 5) (by decide))  (by omega)) cb_X3_put ml_X2_201 im_X3_put se_X3_put (fun _ => o12) h1659 (kA_7 hk (r := 5) (by decide)) rfl rfl (rest := []) rfl (Nat.le_of_ble_eq_true rfl) ⟨Nat.le_of_ble_eq_true rfl, Nat.le_of_ble_eq_true rfl⟩ ⟨Nat.le_of_ble_eq_true rfl, Nat.le_of_ble_eq_true rfl⟩ (fun r σ1662 hp => ?_)
  obtain ⟨h1664, rfl⟩ := hp
  have h1663 := HK.trans h1659 h1664 (by decide)
  refine m_aload_n F rfl e_X2_remeasure_139 ?_
  refine t_get F e_X2_remeasure_140 fl_X2_189 (fun _ => o15) h1663 k902 rfl (fun v hv f1665 => ?_)
  obtain ⟨r1666, k1667, rfl⟩ := hv
  refine m_iconst F (v := 3) (by decide) e_X2_remeasure_143 ?_
  refine m_dup2_11 F rfl rfl e_X2_remeasure_144 ?_
  refine t_lald F (len := 5) (j := 3) e_X2_remeasure_145 (fun _ => o18) h1663 k1667 (by decide) (by unfold vp_in; decide) (fun x1668 => ?_)
  refine m_lload_n F rfl e_X2_remeasure_146 ?_
  refine m_ladd F e_X2_remeasure_147 ?_
  refine Wm.topl (fun x1669 _ => ?_)
  refine t_last F (len := 5) (j := 3) e_X2_remeasure_148 (fun _ => o18) h1663 k1667 (by decide) (by unfold vp_in; decide) (by decide) (fun σ1670 h1671 g1672 => ?_)
  refine m_lload_n F rfl e_X2_remeasure_149 ?_
  exact m_lret F hQ e_X2_remeasure_150 (⟨h1671, _, rfl⟩)
set_option maxRecDepth 20000 in
theorem s_X2_giveBack (l : Launch) (V : VX) (G : GH) (b M Z T N : Nat) (σ : Mem) (a : Nat) (x901 : Int32) (r902 : Nat) (x903 : Int64) (x904 : Int32) (h0 : HT V G (b, M, Z, T) σ) (hk : kA b a = 7) (k902 : kA b r902 = 15) (hM : M + 1 ≤ 1000000000) : Ct l V yX2_giveBack cX2_giveBack 12 (some .long) 4 0 0 N σ [.ref a, .int x901, .ref r902, .long x903, .int x904] (fun r τ => HK V G (b, M + 1, Z, T) [0, 1, 2, 3, 4, 5, 7, 8, 9, 10, 11, 15, 16, 17, 19] σ τ ∧ ∃ x : Int64, r = some (.long x)) := by
  refine Ct.of (by decide) (Nat.le_of_ble_eq_true rfl) [(0, .ref a), (1, .int x901), (2, .ref r902), (3, .long x903), (5, .int x904)] rfl (fun X hX F hQ => ?_)
  have h1 : HK V G (b, M, Z, T) [0, 1, 2, 3, 4, 5, 7, 8, 9, 10, 11, 15, 16, 17, 19] σ σ := HK.start h0
  refine m_aload_n F rfl e_X2_giveBack_0 ?_
  refine t_get F e_X2_giveBack_1 fl_X2_47 (fun _ => o7) h1 hk rfl (fun v hv f1673 => ?_)
  obtain rfl : v = .ref (a + 10) := hv
  refine m_aload_n F rfl e_X2_giveBack_4 ?_
  refine t_get F e_X2_giveBack_5 fl_X2_136 (fun _ => o15) h1 k902 rfl (fun v hv f1674 => ?_)
  obtain ⟨r1675, k1676, rfl⟩ := hv
  refine t_callV F e_X2_giveBack_8 (s_X1_copyFrom (x_l X) V G b M Z T _ _ (a + 10) r1675 h1.1 (kA_7 hk (r := 10) (by decide)) k1676 (by omega)) cb_X1_copyFrom ml_X2_181 im_X1_copyFrom se_X1_copyFrom (fun _ => o6) h1 (kA_7 hk (r := 10) (by decide)) rfl rfl (rest := []) rfl (Nat.le_of_ble_eq_true rfl) ⟨Nat.le_of_ble_eq_true rfl, Nat.le_of_ble_eq_true rfl⟩ ⟨Nat.le_of_ble_eq_true rfl, Nat.le_of_ble_eq_true rfl⟩ (fun r σ1677 hp => ?_)
  obtain ⟨h1679, rfl⟩ := hp
  have h1678 := HK.trans h1 h1679 (by decide)
  refine m_aload_n F rfl e_X2_giveBack_11 ?_
  refine t_getC F e_X2_giveBack_12 fl_X2_47 (fun _ => o7) h1678 hk ((fld_eq (h1679.2 a (by rw [show kA _ a = 7 from hk]; decide))).trans f1673) ?_
  refine m_lload_n F rfl e_X2_giveBack_15 ?_
  refine m_ldc2 F kc_X2_238 e_X2_giveBack_16 ?_
  refine t_callV F e_X2_giveBack_19 (s_X1_shareDown (x_l X) V G b M Z T _ _ (a + 10) x903 1000 h1678.1 (kA_7 hk (r := 10) (by decide))  (by omega)) cb_X1_shareDown ml_X2_225 im_X1_shareDown se_X1_shareDown (fun _ => o6) h1678 (kA_7 hk (r := 10) (by decide)) rfl rfl (rest := []) rfl (Nat.le_of_ble_eq_true rfl) ⟨Nat.le_of_ble_eq_true rfl, Nat.le_of_ble_eq_true rfl⟩ ⟨Nat.le_of_ble_eq_true rfl, Nat.le_of_ble_eq_true rfl⟩ (fun r σ1680 hp => ?_)
  obtain ⟨h1682, rfl⟩ := hp
  have h1681 := HK.trans h1678 h1682 (by decide)
  refine m_aload_n F rfl e_X2_giveBack_22 ?_
  refine t_getC F e_X2_giveBack_23 fl_X2_136 (fun _ => o15) h1681 k902 ((fld_eq (h1682.2 r902 (by rw [show kA _ r902 = 15 from k902]; decide))).trans ((fld_eq (h1679.2 r902 (by rw [show kA _ r902 = 15 from k902]; decide))).trans f1674)) ?_
  refine m_aload_n F rfl e_X2_giveBack_26 ?_
  refine t_getC F e_X2_giveBack_27 fl_X2_47 (fun _ => o7) h1681 hk ((fld_eq (h1682.2 a (by rw [show kA _ a = 7 from hk]; decide))).trans ((fld_eq (h1679.2 a (by rw [show kA _ a = 7 from hk]; decide))).trans f1673)) ?_
  refine t_callV F e_X2_giveBack_30 (s_X1_subtract (x_l X) V G b M Z T _ _ r1675 (a + 10) h1681.1 k1676 (kA_7 hk (r := 10) (by decide)) (by omega)) cb_X1_subtract ml_X2_229 im_X1_subtract se_X1_subtract (fun _ => o6) h1681 k1676 rfl rfl (rest := []) rfl (Nat.le_of_ble_eq_true rfl) ⟨Nat.le_of_ble_eq_true rfl, Nat.le_of_ble_eq_true rfl⟩ ⟨Nat.le_of_ble_eq_true rfl, Nat.le_of_ble_eq_true rfl⟩ (fun r σ1683 hp => ?_)
  obtain ⟨h1685, rfl⟩ := hp
  have h1684 := HK.trans h1681 h1685 (by decide)
  refine m_aload_n F rfl e_X2_giveBack_33 ?_
  refine t_getC F e_X2_giveBack_34 fl_X2_47 (fun _ => o7) h1684 hk ((fld_eq (h1685.2 a (by rw [show kA _ a = 7 from hk]; decide))).trans ((fld_eq (h1682.2 a (by rw [show kA _ a = 7 from hk]; decide))).trans ((fld_eq (h1679.2 a (by rw [show kA _ a = 7 from hk]; decide))).trans f1673))) ?_
  refine t_callV F e_X2_giveBack_37 (s_X1_asLong (x_l X) V G b M Z T _ _ (a + 10)  h1684.1 (kA_7 hk (r := 10) (by decide))  (by omega)) cb_X1_asLong ml_X2_193 im_X1_asLong se_X1_asLong (fun _ => o6) h1684 (kA_7 hk (r := 10) (by decide)) rfl rfl (rest := []) rfl (Nat.le_of_ble_eq_true rfl) ⟨Nat.le_of_ble_eq_true rfl, Nat.le_of_ble_eq_true rfl⟩ ⟨Nat.le_of_ble_eq_true rfl, Nat.le_of_ble_eq_true rfl⟩ (fun r σ1686 hp => ?_)
  obtain ⟨h1688, x1689, rfl⟩ := hp
  have h1687 := HK.trans h1684 h1688 (by decide)
  refine m_lstore F (lv' := [(6, .long x1689), (0, .ref a), (1, .int x901), (2, .ref r902), (3, .long x903), (5, .int x904)]) e_X2_giveBack_40 (by decide) rfl ?_
  refine m_aload_n F rfl e_X2_giveBack_42 ?_
  refine t_getC F e_X2_giveBack_43 fl_X2_47 (fun _ => o7) h1687 hk ((fld_eq (h1688.2 a (by rw [show kA _ a = 7 from hk]; decide))).trans ((fld_eq (h1685.2 a (by rw [show kA _ a = 7 from hk]; decide))).trans ((fld_eq (h1682.2 a (by rw [show kA _ a = 7 from hk]; decide))).trans ((fld_eq (h1679.2 a (by rw [show kA _ a = 7 from hk]; decide))).trans f1673)))) ?_
  refine m_aload_n F rfl e_X2_giveBack_46 ?_
  refine t_get F e_X2_giveBack_47 fl_X2_178 (fun _ => o15) h1687 k902 rfl (fun v hv f1690 => ?_)
  obtain ⟨r1691, k1692, rfl⟩ := hv
  refine t_callV F e_X2_giveBack_50 (s_X1_copyFrom (x_l X) V G b M Z T _ _ (a + 10) r1691 h1687.1 (kA_7 hk (r := 10) (by decide)) k1692 (by omega)) cb_X1_copyFrom ml_X2_181 im_X1_copyFrom se_X1_copyFrom (fun _ => o6) h1687 (kA_7 hk (r := 10) (by decide)) rfl rfl (rest := []) rfl (Nat.le_of_ble_eq_true rfl) ⟨Nat.le_of_ble_eq_true rfl, Nat.le_of_ble_eq_true rfl⟩ ⟨Nat.le_of_ble_eq_true rfl, Nat.le_of_ble_eq_true rfl⟩ (fun r σ1693 hp => ?_)
  obtain ⟨h1695, rfl⟩ := hp
  have h1694 := HK.trans h1687 h1695 (by decide)
  refine m_aload_n F rfl e_X2_giveBack_53 ?_
  refine t_getC F e_X2_giveBack_54 fl_X2_47 (fun _ => o7) h1694 hk ((fld_eq (h1695.2 a (by rw [show kA _ a = 7 from hk]; decide))).trans ((fld_eq (h1688.2 a (by rw [show kA _ a = 7 from hk]; decide))).trans ((fld_eq (h1685.2 a (by rw [show kA _ a = 7 from hk]; decide))).trans ((fld_eq (h1682.2 a (by rw [show kA _ a = 7 from hk]; decide))).trans ((fld_eq (h1679.2 a (by rw [show kA _ a = 7 from hk]; decide))).trans f1673))))) ?_
  refine m_lload_n F rfl e_X2_giveBack_57 ?_
  refine m_ldc2 F kc_X2_238 e_X2_giveBack_58 ?_
  refine t_callV F e_X2_giveBack_61 (s_X1_shareDown (x_l X) V G b M Z T _ _ (a + 10) x903 1000 h1694.1 (kA_7 hk (r := 10) (by decide))  (by omega)) cb_X1_shareDown ml_X2_225 im_X1_shareDown se_X1_shareDown (fun _ => o6) h1694 (kA_7 hk (r := 10) (by decide)) rfl rfl (rest := []) rfl (Nat.le_of_ble_eq_true rfl) ⟨Nat.le_of_ble_eq_true rfl, Nat.le_of_ble_eq_true rfl⟩ ⟨Nat.le_of_ble_eq_true rfl, Nat.le_of_ble_eq_true rfl⟩ (fun r σ1696 hp => ?_)
  obtain ⟨h1698, rfl⟩ := hp
  have h1697 := HK.trans h1694 h1698 (by decide)
  refine m_aload_n F rfl e_X2_giveBack_64 ?_
  refine t_getC F e_X2_giveBack_65 fl_X2_178 (fun _ => o15) h1697 k902 ((fld_eq (h1698.2 r902 (by rw [show kA _ r902 = 15 from k902]; decide))).trans ((fld_eq (h1695.2 r902 (by rw [show kA _ r902 = 15 from k902]; decide))).trans f1690)) ?_
  refine m_aload_n F rfl e_X2_giveBack_68 ?_
  refine t_getC F e_X2_giveBack_69 fl_X2_47 (fun _ => o7) h1697 hk ((fld_eq (h1698.2 a (by rw [show kA _ a = 7 from hk]; decide))).trans ((fld_eq (h1695.2 a (by rw [show kA _ a = 7 from hk]; decide))).trans ((fld_eq (h1688.2 a (by rw [show kA _ a = 7 from hk]; decide))).trans ((fld_eq (h1685.2 a (by rw [show kA _ a = 7 from hk]; decide))).trans ((fld_eq (h1682.2 a (by rw [show kA _ a = 7 from hk]; decide))).trans ((fld_eq (h1679.2 a (by rw [show kA _ a = 7 from hk]; decide))).trans f1673)))))) ?_
  refine t_callV F e_X2_giveBack_72 (s_X1_subtract (x_l X) V G b M Z T _ _ r1691 (a + 10) h1697.1 k1692 (kA_7 hk (r := 10) (by decide)) (by omega)) cb_X1_subtract ml_X2_229 im_X1_subtract se_X1_subtract (fun _ => o6) h1697 k1692 rfl rfl (rest := []) rfl (Nat.le_of_ble_eq_true rfl) ⟨Nat.le_of_ble_eq_true rfl, Nat.le_of_ble_eq_true rfl⟩ ⟨Nat.le_of_ble_eq_true rfl, Nat.le_of_ble_eq_true rfl⟩ (fun r σ1699 hp => ?_)
  obtain ⟨h1701, rfl⟩ := hp
  have h1700 := HK.trans h1697 h1701 (by decide)
  refine m_aload_n F rfl e_X2_giveBack_75 ?_
  refine t_getC F e_X2_giveBack_76 fl_X2_47 (fun _ => o7) h1700 hk ((fld_eq (h1701.2 a (by rw [show kA _ a = 7 from hk]; decide))).trans ((fld_eq (h1698.2 a (by rw [show kA _ a = 7 from hk]; decide))).trans ((fld_eq (h1695.2 a (by rw [show kA _ a = 7 from hk]; decide))).trans ((fld_eq (h1688.2 a (by rw [show kA _ a = 7 from hk]; decide))).trans ((fld_eq (h1685.2 a (by rw [show kA _ a = 7 from hk]; decide))).trans ((fld_eq (h1682.2 a (by rw [show kA _ a = 7 from hk]; decide))).trans ((fld_eq (h1679.2 a (by rw [show kA _ a = 7 from hk]; decide))).trans f1673))))))) ?_
  refine t_callV F e_X2_giveBack_79 (s_X1_asLong (x_l X) V G b M Z T _ _ (a + 10)  h1700.1 (kA_7 hk (r := 10) (by decide))  (by omega)) cb_X1_asLong ml_X2_193 im_X1_asLong se_X1_asLong (fun _ => o6) h1700 (kA_7 hk (r := 10) (by decide)) rfl rfl (rest := []) rfl (Nat.le_of_ble_eq_true rfl) ⟨Nat.le_of_ble_eq_true rfl, Nat.le_of_ble_eq_true rfl⟩ ⟨Nat.le_of_ble_eq_true rfl, Nat.le_of_ble_eq_true rfl⟩ (fun r σ1702 hp => ?_)
  obtain ⟨h1704, x1705, rfl⟩ := hp
  have h1703 := HK.trans h1700 h1704 (by decide)
  refine m_lstore F (lv' := [(8, .long x1705), (6, .long x1689), (0, .ref a), (1, .int x901), (2, .ref r902), (3, .long x903), (5, .int x904)]) e_X2_giveBack_82 (by decide) rfl ?_
  refine m_lload F rfl e_X2_giveBack_84 ?_
  refine m_lload F rfl e_X2_giveBack_86 ?_
  refine m_lsub F e_X2_giveBack_88 ?_
  refine Wm.topl (fun x1706 _ => ?_)
  refine m_lstore F (lv' := [(10, .long x1706), (8, .long x1705), (6, .long x1689), (0, .ref a), (1, .int x901), (2, .ref r902), (3, .long x903), (5, .int x904)]) e_X2_giveBack_89 (by decide) rfl ?_
  refine m_aload_n F rfl e_X2_giveBack_91 ?_
  refine t_get F e_X2_giveBack_92 fl_X2_33 (fun _ => o7) h1703 hk rfl (fun v hv f1707 => ?_)
  obtain rfl : v = .ref (a + 5) := hv
  refine m_iload F rfl e_X2_giveBack_95 ?_
  refine m_aload_n F rfl e_X2_giveBack_97 ?_
  refine t_get F e_X2_giveBack_98 fl_X2_68 (fun _ => o7) h1703 hk rfl (fun v hv f1708 => ?_)
  obtain ⟨n1709, hn1709, rfl⟩ := hv
  replace hn1709 : n1709 ≤ M := hn1709
  refine m_iload_n F rfl e_X2_giveBack_101 ?_
  refine t_callV F e_X2_giveBack_102 (s_X3_open (x_l X) V G b M Z T _ _ (a + 5) x904 (nI n1709) x901 h1703.1 (kA_7 hk (r := 5) (by decide))  (by omega)) cb_X3_open ml_X2_197 im_X3_open se_X3_open (fun _ => o12) h1703 (kA_7 hk (r := 5) (by decide)) rfl rfl (rest := []) rfl (Nat.le_of_ble_eq_true rfl) ⟨Nat.le_of_ble_eq_true rfl, Nat.le_of_ble_eq_true rfl⟩ ⟨Nat.le_of_ble_eq_true rfl, Nat.le_of_ble_eq_true rfl⟩ (fun r σ1710 hp => ?_)
  obtain ⟨h1712, rfl⟩ := hp
  have h1711 := HK.trans h1703 h1712 (by decide)
  refine m_aload_n F rfl e_X2_giveBack_105 ?_
  refine t_getC F e_X2_giveBack_106 fl_X2_33 (fun _ => o7) h1711 hk ((fld_eq (h1712.2 a (by rw [show kA _ a = 7 from hk]; decide))).trans f1707) ?_
  refine m_iconst F (v := 1) (by decide) e_X2_giveBack_109 ?_
  refine m_lload F rfl e_X2_giveBack_110 ?_
  refine t_callV F e_X2_giveBack_112 (s_X3_put (x_l X) V G b (M + 1) Z T _ _ (a + 5) 1 x1689 h1711.1 (kA_7 hk (r := 5) (by decide))  (by omega)) cb_X3_put ml_X2_201 im_X3_put se_X3_put (fun _ => o12) h1711 (kA_7 hk (r := 5) (by decide)) rfl rfl (rest := []) rfl (Nat.le_of_ble_eq_true rfl) ⟨Nat.le_of_ble_eq_true rfl, Nat.le_of_ble_eq_true rfl⟩ ⟨Nat.le_of_ble_eq_true rfl, Nat.le_of_ble_eq_true rfl⟩ (fun r σ1713 hp => ?_)
  obtain ⟨h1715, rfl⟩ := hp
  have h1714 := HK.trans h1711 h1715 (by decide)
  refine m_aload_n F rfl e_X2_giveBack_115 ?_
  refine t_getC F e_X2_giveBack_116 fl_X2_33 (fun _ => o7) h1714 hk ((fld_eq (h1715.2 a (by rw [show kA _ a = 7 from hk]; decide))).trans ((fld_eq (h1712.2 a (by rw [show kA _ a = 7 from hk]; decide))).trans f1707)) ?_
  refine m_iconst F (v := 2) (by decide) e_X2_giveBack_119 ?_
  refine m_lload F rfl e_X2_giveBack_120 ?_
  refine m_lneg F e_X2_giveBack_122 ?_
  refine Wm.topl (fun x1716 _ => ?_)
  refine t_callV F e_X2_giveBack_123 (s_X3_put (x_l X) V G b (M + 1) Z T _ _ (a + 5) 2 x1716 h1714.1 (kA_7 hk (r := 5) (by decide))  (by omega)) cb_X3_put ml_X2_201 im_X3_put se_X3_put (fun _ => o12) h1714 (kA_7 hk (r := 5) (by decide)) rfl rfl (rest := []) rfl (Nat.le_of_ble_eq_true rfl) ⟨Nat.le_of_ble_eq_true rfl, Nat.le_of_ble_eq_true rfl⟩ ⟨Nat.le_of_ble_eq_true rfl, Nat.le_of_ble_eq_true rfl⟩ (fun r σ1717 hp => ?_)
  obtain ⟨h1719, rfl⟩ := hp
  have h1718 := HK.trans h1714 h1719 (by decide)
  refine m_aload_n F rfl e_X2_giveBack_126 ?_
  refine t_getC F e_X2_giveBack_127 fl_X2_33 (fun _ => o7) h1718 hk ((fld_eq (h1719.2 a (by rw [show kA _ a = 7 from hk]; decide))).trans ((fld_eq (h1715.2 a (by rw [show kA _ a = 7 from hk]; decide))).trans ((fld_eq (h1712.2 a (by rw [show kA _ a = 7 from hk]; decide))).trans f1707))) ?_
  refine m_iconst F (v := 5) (by decide) e_X2_giveBack_130 ?_
  refine m_lload F rfl e_X2_giveBack_131 ?_
  refine m_lneg F e_X2_giveBack_133 ?_
  refine Wm.topl (fun x1720 _ => ?_)
  refine t_callV F e_X2_giveBack_134 (s_X3_put (x_l X) V G b (M + 1) Z T _ _ (a + 5) 5 x1720 h1718.1 (kA_7 hk (r := 5) (by decide))  (by omega)) cb_X3_put ml_X2_201 im_X3_put se_X3_put (fun _ => o12) h1718 (kA_7 hk (r := 5) (by decide)) rfl rfl (rest := []) rfl (Nat.le_of_ble_eq_true rfl) ⟨Nat.le_of_ble_eq_true rfl, Nat.le_of_ble_eq_true rfl⟩ ⟨Nat.le_of_ble_eq_true rfl, Nat.le_of_ble_eq_true rfl⟩ (fun r σ1721 hp => ?_)
  obtain ⟨h1723, rfl⟩ := hp
  have h1722 := HK.trans h1718 h1723 (by decide)
  refine m_aload_n F rfl e_X2_giveBack_137 ?_
  refine t_get F e_X2_giveBack_138 fl_X2_189 (fun _ => o15) h1722 k902 rfl (fun v hv f1724 => ?_)
  obtain ⟨r1725, k1726, rfl⟩ := hv
  refine m_iconst F (v := 4) (by decide) e_X2_giveBack_141 ?_
  refine m_dup2_11 F rfl rfl e_X2_giveBack_142 ?_
  refine t_lald F (len := 5) (j := 4) e_X2_giveBack_143 (fun _ => o18) h1722 k1726 (by decide) (by unfold vp_in; decide) (fun x1727 => ?_)
  refine m_lload F rfl e_X2_giveBack_144 ?_
  refine m_ladd F e_X2_giveBack_146 ?_
  refine Wm.topl (fun x1728 _ => ?_)
  refine t_last F (len := 5) (j := 4) e_X2_giveBack_147 (fun _ => o18) h1722 k1726 (by decide) (by unfold vp_in; decide) (by decide) (fun σ1729 h1730 g1731 => ?_)
  refine m_lload F rfl e_X2_giveBack_148 ?_
  exact m_lret F hQ e_X2_giveBack_150 (⟨h1730, _, rfl⟩)
set_option maxRecDepth 20000 in
theorem s_X2_writeDown (l : Launch) (V : VX) (G : GH) (b M Z T N : Nat) (σ : Mem) (a : Nat) (x901 : Int32) (r902 : Nat) (x903 : Int64) (h0 : HT V G (b, M, Z, T) σ) (hk : kA b a = 7) (k902 : kA b r902 = 15) (hM : M + 1 ≤ 1000000000) : Ct l V yX2_writeDown cX2_writeDown 5 none 4 0 0 N σ [.ref a, .int x901, .ref r902, .long x903] (fun r τ => HK V G (b, M + 1, Z, T) [0, 1, 2, 3, 4, 5, 7, 8, 9, 10, 11, 15, 16, 17, 18, 19] σ τ ∧ r = none) := by
  refine Ct.of (by decide) (Nat.le_of_ble_eq_true rfl) [(0, .ref a), (1, .int x901), (2, .ref r902), (3, .long x903)] rfl (fun X hX F hQ => ?_)
  have h1 : HK V G (b, M, Z, T) [0, 1, 2, 3, 4, 5, 7, 8, 9, 10, 11, 15, 16, 17, 18, 19] σ σ := HK.start h0
  refine m_aload_n F rfl e_X2_writeDown_0 ?_
  refine t_get F e_X2_writeDown_1 fl_X2_178 (fun _ => o15) h1 k902 rfl (fun v hv f1732 => ?_)
  obtain ⟨r1733, k1734, rfl⟩ := hv
  refine m_lload_n F rfl e_X2_writeDown_4 ?_
  refine m_lneg F e_X2_writeDown_5 ?_
  refine Wm.topl (fun x1735 _ => ?_)
  refine t_callV F e_X2_writeDown_6 (s_X1_addLong (x_l X) V G b M Z T _ _ r1733 x1735 h1.1 k1734  (by omega)) cb_X1_addLong ml_X2_186 im_X1_addLong se_X1_addLong (fun _ => o6) h1 k1734 rfl rfl (rest := []) rfl (Nat.le_of_ble_eq_true rfl) ⟨Nat.le_of_ble_eq_true rfl, Nat.le_of_ble_eq_true rfl⟩ ⟨Nat.le_of_ble_eq_true rfl, Nat.le_of_ble_eq_true rfl⟩ (fun r σ1736 hp => ?_)
  obtain ⟨h1738, rfl⟩ := hp
  have h1737 := HK.trans h1 h1738 (by decide)
  refine m_aload_n F rfl e_X2_writeDown_9 ?_
  refine t_get F e_X2_writeDown_10 fl_X2_33 (fun _ => o7) h1737 hk rfl (fun v hv f1739 => ?_)
  obtain rfl : v = .ref (a + 5) := hv
  refine m_iconst F (v := 5) (by decide) e_X2_writeDown_13 ?_
  refine m_aload_n F rfl e_X2_writeDown_14 ?_
  refine t_get F e_X2_writeDown_15 fl_X2_68 (fun _ => o7) h1737 hk rfl (fun v hv f1740 => ?_)
  obtain ⟨n1741, hn1741, rfl⟩ := hv
  replace hn1741 : n1741 ≤ M := hn1741
  refine m_iload_n F rfl e_X2_writeDown_18 ?_
  refine t_callV F e_X2_writeDown_19 (s_X3_open (x_l X) V G b M Z T _ _ (a + 5) 5 (nI n1741) x901 h1737.1 (kA_7 hk (r := 5) (by decide))  (by omega)) cb_X3_open ml_X2_197 im_X3_open se_X3_open (fun _ => o12) h1737 (kA_7 hk (r := 5) (by decide)) rfl rfl (rest := []) rfl (Nat.le_of_ble_eq_true rfl) ⟨Nat.le_of_ble_eq_true rfl, Nat.le_of_ble_eq_true rfl⟩ ⟨Nat.le_of_ble_eq_true rfl, Nat.le_of_ble_eq_true rfl⟩ (fun r σ1742 hp => ?_)
  obtain ⟨h1744, rfl⟩ := hp
  have h1743 := HK.trans h1737 h1744 (by decide)
  refine m_aload_n F rfl e_X2_writeDown_22 ?_
  refine t_getC F e_X2_writeDown_23 fl_X2_33 (fun _ => o7) h1743 hk ((fld_eq (h1744.2 a (by rw [show kA _ a = 7 from hk]; decide))).trans f1739) ?_
  refine m_iconst F (v := 2) (by decide) e_X2_writeDown_26 ?_
  refine m_lload_n F rfl e_X2_writeDown_27 ?_
  refine m_lneg F e_X2_writeDown_28 ?_
  refine Wm.topl (fun x1745 _ => ?_)
  refine t_callV F e_X2_writeDown_29 (s_X3_put (x_l X) V G b (M + 1) Z T _ _ (a + 5) 2 x1745 h1743.1 (kA_7 hk (r := 5) (by decide))  (by omega)) cb_X3_put ml_X2_201 im_X3_put se_X3_put (fun _ => o12) h1743 (kA_7 hk (r := 5) (by decide)) rfl rfl (rest := []) rfl (Nat.le_of_ble_eq_true rfl) ⟨Nat.le_of_ble_eq_true rfl, Nat.le_of_ble_eq_true rfl⟩ ⟨Nat.le_of_ble_eq_true rfl, Nat.le_of_ble_eq_true rfl⟩ (fun r σ1746 hp => ?_)
  obtain ⟨h1748, rfl⟩ := hp
  have h1747 := HK.trans h1743 h1748 (by decide)
  refine m_aload_n F rfl e_X2_writeDown_32 ?_
  refine t_getC F e_X2_writeDown_33 fl_X2_33 (fun _ => o7) h1747 hk ((fld_eq (h1748.2 a (by rw [show kA _ a = 7 from hk]; decide))).trans ((fld_eq (h1744.2 a (by rw [show kA _ a = 7 from hk]; decide))).trans f1739)) ?_
  refine m_iconst F (v := 5) (by decide) e_X2_writeDown_36 ?_
  refine m_lload_n F rfl e_X2_writeDown_37 ?_
  refine t_callV F e_X2_writeDown_38 (s_X3_put (x_l X) V G b (M + 1) Z T _ _ (a + 5) 5 x903 h1747.1 (kA_7 hk (r := 5) (by decide))  (by omega)) cb_X3_put ml_X2_201 im_X3_put se_X3_put (fun _ => o12) h1747 (kA_7 hk (r := 5) (by decide)) rfl rfl (rest := []) rfl (Nat.le_of_ble_eq_true rfl) ⟨Nat.le_of_ble_eq_true rfl, Nat.le_of_ble_eq_true rfl⟩ ⟨Nat.le_of_ble_eq_true rfl, Nat.le_of_ble_eq_true rfl⟩ (fun r σ1749 hp => ?_)
  obtain ⟨h1751, rfl⟩ := hp
  have h1750 := HK.trans h1747 h1751 (by decide)
  exact m_vret F hQ e_X2_writeDown_41 (⟨h1750, rfl⟩)
set_option maxRecDepth 20000 in
theorem lp_X2_periodGoesBy_20 {V : VX} {G : GH} {X : MX} {b M Z T N : Nat} {σ : Mem} {a : Nat}   (F : Fx V X yX2_periodGoesBy cX2_periodGoesBy 3 none (rmd 5 0 0)) (hQ : Rt V X 0 0 N (fun r τ => HK V G (b, M + 9, Z, T) [0, 1, 2, 3, 4, 5, 8, 9, 10, 11, 16, 19] σ τ ∧ r = none)) (hk : kA b a = 7) (hM : M + 9 ≤ 1000000000)  : ∀ (fuel : Nat) (i : Nat) (τ : Mem), HK V G (b, M + 2 * i, Z, T) [0, 1, 2, 3, 4, 5, 8, 9, 10, 11, 16, 19] σ τ → i ≤ 4 → 4 - i < fuel → Wm V X 3 N τ 0 0 20 [(1, .int (nI i)), (0, .ref a)] [] := by
  intro fuel
  induction fuel with
  | zero => intro i τ h1 hi hm; exact absurd hm (Nat.not_lt_zero _)
  | succ fuel ih =>
    intro i τ h1 hi hm
    refine m_iload_n F rfl e_X2_periodGoesBy_20 ?_
    refine m_aload_n F rfl e_X2_periodGoesBy_21 ?_
    refine t_get F e_X2_periodGoesBy_22 fl_X2_58 (fun _ => o7) h1 hk rfl (fun v hv f1752 => ?_)
    obtain ⟨n1753, ⟨hn1753, gn1753⟩, rfl⟩ := hv
    replace hn1753 : n1753 ≤ 4 := hn1753
    refine m_icmp_ge F e_X2_periodGoesBy_25 (fun q25 => ?_) (fun q25 => ?_)
    · have c25 : i ≥ n1753 := (nI_leI (a := n1753) (b := i) (by omega) (by omega)).mp q25
      refine m_aload_n F rfl e_X2_periodGoesBy_123 ?_
      refine m_dup F rfl e_X2_periodGoesBy_124 ?_
      refine t_get F e_X2_periodGoesBy_125 fl_X2_68 (fun _ => o7) h1 hk rfl (fun v hv f1754 => ?_)
      obtain ⟨n1755, hn1755, rfl⟩ := hv
      replace hn1755 : n1755 ≤ M + 2 * i := hn1755
      refine m_iconst F (v := 1) (by decide) e_X2_periodGoesBy_128 ?_
      refine m_iadd F e_X2_periodGoesBy_129 ?_
      refine Wm.topE (w := nI (n1755 + 1)) (nI_add n1755 1) ?_
      have h1761 := h1.mono (M' := M + 2 * i + 1) (Z' := Z) (by omega) id
      refine t_put F e_X2_periodGoesBy_130 fp_X2_68 (fun _ => o7) h1761 hk rfl ⟨n1755 + 1, (show n1755 + 1 ≤ M + 2 * i + 1 by omega), rfl⟩ rfl rfl (by decide) (fun σ1756 h1757 g1758 g1759 f1760 => ?_)
      exact m_vret F hQ e_X2_periodGoesBy_133 (⟨(h1757.mono (M' := M + 9) (Z' := Z) (by omega) (by intro e; first | rfl | assumption | omega)), rfl⟩)
    · have c25 : i < n1753 := by have hh := mt (nI_leI (a := n1753) (b := i) (by omega) (by omega)).mpr q25; omega
      refine m_aload_n F rfl e_X2_periodGoesBy_28 ?_
      refine t_get F e_X2_periodGoesBy_29 fl_X2_11 (fun _ => o7) h1 hk rfl (fun v hv f1762 => ?_)
      obtain rfl : v = .ref (a + 1) := hv
      refine m_iload_n F rfl e_X2_periodGoesBy_32 ?_
      refine t_aald8 F (j := i) e_X2_periodGoesBy_33 rfl h1 (kA_7 hk (r := 1) (by decide)) (nI_clamp (by omega)) (vp_in_nI (by omega) (by decide)) ?_
      refine m_astore_n F (lv' := [(2, .ref ((a + 1) + 10 + 12 * i)), (1, .int (nI i)), (0, .ref a)]) e_X2_periodGoesBy_34 (by decide) rfl ?_
      refine m_aload_n F rfl e_X2_periodGoesBy_35 ?_
      refine t_get F e_X2_periodGoesBy_36 fl_X2_129 (fun _ => o15) h1 (kA_8 (kA_7 hk (r := 1) (by decide)) (j := i) (by omega)) rfl (fun v hv f1763 => ?_)
      obtain ⟨x1764, rfl⟩ := hv
      refine m_if_ne F e_X2_periodGoesBy_39 (fun q39 => ?_) (fun q39 => ?_)
      · refine m_aload_n F rfl e_X2_periodGoesBy_62 ?_
        refine t_getC F e_X2_periodGoesBy_63 fl_X2_129 (fun _ => o15) h1 (kA_8 (kA_7 hk (r := 1) (by decide)) (j := i) (by omega)) (f1763) ?_
        refine m_iconst F (v := 1) (by decide) e_X2_periodGoesBy_66 ?_
        refine m_icmp_ne F e_X2_periodGoesBy_67 (fun q67 => ?_) (fun q67 => ?_)
        · refine m_aload_n F rfl e_X2_periodGoesBy_103 ?_
          refine t_getC F e_X2_periodGoesBy_104 fl_X2_129 (fun _ => o15) h1 (kA_8 (kA_7 hk (r := 1) (by decide)) (j := i) (by omega)) (f1763) ?_
          refine m_iconst F (v := 1) (by decide) e_X2_periodGoesBy_107 ?_
          refine m_icmp_ne F e_X2_periodGoesBy_108 (fun q108 => ?_) (fun q108 => ?_)
          · refine m_iinc F (v := nI (i + 1)) (lv' := [(1, .int (nI (i + 1))), (2, .ref ((a + 1) + 10 + 12 * i)), (0, .ref a)]) e_X2_periodGoesBy_117 rfl (nI_add i 1) (by decide) rfl ?_
            refine m_goto F e_X2_periodGoesBy_120 ?_
            refine Wm.lvsub (lv' := [(1, .int (nI (i + 1))), (0, .ref a)]) ?_ [0, 2] rfl
            exact ih (i + 1) _ (h1.mono (M' := M + 2 * (i + 1)) (Z' := Z) (by omega) (by intro e9; first | exact e9 | rfl)) (by omega) (by omega)
          · refine m_aload_n F rfl e_X2_periodGoesBy_111 ?_
            refine m_iload_n F rfl e_X2_periodGoesBy_112 ?_
            refine m_aload_n F rfl e_X2_periodGoesBy_113 ?_
            refine t_callV F e_X2_periodGoesBy_114 (s_X2_payAndWriteOff (x_l X) V G b (M + 2 * i) Z T _ _ a (nI i) ((a + 1) + 10 + 12 * i) h1.1 hk (kA_8 (kA_7 hk (r := 1) (by decide)) (j := i) (by omega)) (by omega)) cb_X2_payAndWriteOff ml_X2_168 im_X2_payAndWriteOff se_X2_payAndWriteOff (fun _ => o7) h1 hk rfl rfl (rest := []) rfl (Nat.le_of_ble_eq_true rfl) ⟨Nat.le_of_ble_eq_true rfl, Nat.le_of_ble_eq_true rfl⟩ ⟨Nat.le_of_ble_eq_true rfl, Nat.le_of_ble_eq_true rfl⟩ (fun r σ1765 hp => ?_)
            obtain ⟨h1767, rfl⟩ := hp
            have h1766 := HK.trans h1 h1767 (by decide)
            refine m_iinc F (v := nI (i + 1)) (lv' := [(1, .int (nI (i + 1))), (2, .ref ((a + 1) + 10 + 12 * i)), (0, .ref a)]) e_X2_periodGoesBy_117 rfl (nI_add i 1) (by decide) rfl ?_
            refine m_goto F e_X2_periodGoesBy_120 ?_
            refine Wm.lvsub (lv' := [(1, .int (nI (i + 1))), (0, .ref a)]) ?_ [0, 2] rfl
            exact ih (i + 1) _ (h1766.mono (M' := M + 2 * (i + 1)) (Z' := Z) (by omega) (by intro e9; first | exact e9 | rfl)) (by omega) (by omega)
        · refine m_aload_n F rfl e_X2_periodGoesBy_70 ?_
          refine t_get F e_X2_periodGoesBy_71 fl_X2_150 (fun _ => o15) h1 (kA_8 (kA_7 hk (r := 1) (by decide)) (j := i) (by omega)) rfl (fun v hv f1768 => ?_)
          obtain ⟨n1769, hn1769, rfl⟩ := hv
          replace hn1769 : n1769 ≤ 1 := hn1769
          refine m_if_eq F e_X2_periodGoesBy_74 (fun q74 => ?_) (fun q74 => ?_)
          · have c74 : n1769 = 0 := (nI_eq (a := n1769) (b := 0) (by omega) (by omega)).mp q74
            refine m_aload_n F rfl e_X2_periodGoesBy_103 ?_
            refine t_getC F e_X2_periodGoesBy_104 fl_X2_129 (fun _ => o15) h1 (kA_8 (kA_7 hk (r := 1) (by decide)) (j := i) (by omega)) (f1763) ?_
            refine m_iconst F (v := 1) (by decide) e_X2_periodGoesBy_107 ?_
            refine m_icmp_ne F e_X2_periodGoesBy_108 (fun q108 => ?_) (fun q108 => ?_)
            · refine m_iinc F (v := nI (i + 1)) (lv' := [(1, .int (nI (i + 1))), (2, .ref ((a + 1) + 10 + 12 * i)), (0, .ref a)]) e_X2_periodGoesBy_117 rfl (nI_add i 1) (by decide) rfl ?_
              refine m_goto F e_X2_periodGoesBy_120 ?_
              refine Wm.lvsub (lv' := [(1, .int (nI (i + 1))), (0, .ref a)]) ?_ [0, 2] rfl
              exact ih (i + 1) _ (h1.mono (M' := M + 2 * (i + 1)) (Z' := Z) (by omega) (by intro e9; first | exact e9 | rfl)) (by omega) (by omega)
            · refine m_aload_n F rfl e_X2_periodGoesBy_111 ?_
              refine m_iload_n F rfl e_X2_periodGoesBy_112 ?_
              refine m_aload_n F rfl e_X2_periodGoesBy_113 ?_
              refine t_callV F e_X2_periodGoesBy_114 (s_X2_payAndWriteOff (x_l X) V G b (M + 2 * i) Z T _ _ a (nI i) ((a + 1) + 10 + 12 * i) h1.1 hk (kA_8 (kA_7 hk (r := 1) (by decide)) (j := i) (by omega)) (by omega)) cb_X2_payAndWriteOff ml_X2_168 im_X2_payAndWriteOff se_X2_payAndWriteOff (fun _ => o7) h1 hk rfl rfl (rest := []) rfl (Nat.le_of_ble_eq_true rfl) ⟨Nat.le_of_ble_eq_true rfl, Nat.le_of_ble_eq_true rfl⟩ ⟨Nat.le_of_ble_eq_true rfl, Nat.le_of_ble_eq_true rfl⟩ (fun r σ1770 hp => ?_)
              obtain ⟨h1772, rfl⟩ := hp
              have h1771 := HK.trans h1 h1772 (by decide)
              refine m_iinc F (v := nI (i + 1)) (lv' := [(1, .int (nI (i + 1))), (2, .ref ((a + 1) + 10 + 12 * i)), (0, .ref a)]) e_X2_periodGoesBy_117 rfl (nI_add i 1) (by decide) rfl ?_
              refine m_goto F e_X2_periodGoesBy_120 ?_
              refine Wm.lvsub (lv' := [(1, .int (nI (i + 1))), (0, .ref a)]) ?_ [0, 2] rfl
              exact ih (i + 1) _ (h1771.mono (M' := M + 2 * (i + 1)) (Z' := Z) (by omega) (by intro e9; first | exact e9 | rfl)) (by omega) (by omega)
          · have c74 : n1769 ≠ 0 := by have hh := mt (nI_eq (a := n1769) (b := 0) (by omega) (by omega)).mpr q74; omega
            refine m_aload_n F rfl e_X2_periodGoesBy_77 ?_
            refine t_callV F e_X2_periodGoesBy_78 (s_X2_indexNow (x_l X) V G b (M + 2 * i) Z T _ _ a  h1.1 hk  (by omega)) cb_X2_indexNow ml_X2_153 im_X2_indexNow se_X2_indexNow (fun _ => o7) h1 hk rfl rfl (rest := []) rfl (Nat.le_of_ble_eq_true rfl) ⟨Nat.le_of_ble_eq_true rfl, Nat.le_of_ble_eq_true rfl⟩ ⟨Nat.le_of_ble_eq_true rfl, Nat.le_of_ble_eq_true rfl⟩ (fun r σ1773 hp => ?_)
            obtain ⟨h1775, x1776, rfl⟩ := hp
            have h1774 := HK.trans h1 h1775 (by decide)
            refine m_aload_n F rfl e_X2_periodGoesBy_81 ?_
            refine t_get F e_X2_periodGoesBy_82 fl_X2_157 (fun _ => o15) h1774 (kA_8 (kA_7 hk (r := 1) (by decide)) (j := i) (by omega)) rfl (fun v hv f1777 => ?_)
            obtain ⟨x1778, rfl⟩ := hv
            refine m_icmp_eq F e_X2_periodGoesBy_85 (fun q85 => ?_) (fun q85 => ?_)
            · refine m_aload_n F rfl e_X2_periodGoesBy_103 ?_
              refine t_getC F e_X2_periodGoesBy_104 fl_X2_129 (fun _ => o15) h1774 (kA_8 (kA_7 hk (r := 1) (by decide)) (j := i) (by omega)) ((fld_eq (h1775.2 ((a + 1) + 10 + 12 * i) (by rw [show kA _ ((a + 1) + 10 + 12 * i) = 15 from (kA_8 (kA_7 hk (r := 1) (by decide)) (j := i) (by omega))]; decide))).trans f1763) ?_
              refine m_iconst F (v := 1) (by decide) e_X2_periodGoesBy_107 ?_
              refine m_icmp_ne F e_X2_periodGoesBy_108 (fun q108 => ?_) (fun q108 => ?_)
              · refine m_iinc F (v := nI (i + 1)) (lv' := [(1, .int (nI (i + 1))), (2, .ref ((a + 1) + 10 + 12 * i)), (0, .ref a)]) e_X2_periodGoesBy_117 rfl (nI_add i 1) (by decide) rfl ?_
                refine m_goto F e_X2_periodGoesBy_120 ?_
                refine Wm.lvsub (lv' := [(1, .int (nI (i + 1))), (0, .ref a)]) ?_ [0, 2] rfl
                exact ih (i + 1) _ (h1774.mono (M' := M + 2 * (i + 1)) (Z' := Z) (by omega) (by intro e9; first | exact e9 | rfl)) (by omega) (by omega)
              · refine m_aload_n F rfl e_X2_periodGoesBy_111 ?_
                refine m_iload_n F rfl e_X2_periodGoesBy_112 ?_
                refine m_aload_n F rfl e_X2_periodGoesBy_113 ?_
                refine t_callV F e_X2_periodGoesBy_114 (s_X2_payAndWriteOff (x_l X) V G b (M + 2 * i) Z T _ _ a (nI i) ((a + 1) + 10 + 12 * i) h1774.1 hk (kA_8 (kA_7 hk (r := 1) (by decide)) (j := i) (by omega)) (by omega)) cb_X2_payAndWriteOff ml_X2_168 im_X2_payAndWriteOff se_X2_payAndWriteOff (fun _ => o7) h1774 hk rfl rfl (rest := []) rfl (Nat.le_of_ble_eq_true rfl) ⟨Nat.le_of_ble_eq_true rfl, Nat.le_of_ble_eq_true rfl⟩ ⟨Nat.le_of_ble_eq_true rfl, Nat.le_of_ble_eq_true rfl⟩ (fun r σ1779 hp => ?_)
                obtain ⟨h1781, rfl⟩ := hp
                have h1780 := HK.trans h1774 h1781 (by decide)
                refine m_iinc F (v := nI (i + 1)) (lv' := [(1, .int (nI (i + 1))), (2, .ref ((a + 1) + 10 + 12 * i)), (0, .ref a)]) e_X2_periodGoesBy_117 rfl (nI_add i 1) (by decide) rfl ?_
                refine m_goto F e_X2_periodGoesBy_120 ?_
                refine Wm.lvsub (lv' := [(1, .int (nI (i + 1))), (0, .ref a)]) ?_ [0, 2] rfl
                exact ih (i + 1) _ (h1780.mono (M' := M + 2 * (i + 1)) (Z' := Z) (by omega) (by intro e9; first | exact e9 | rfl)) (by omega) (by omega)
            · refine m_aload_n F rfl e_X2_periodGoesBy_88 ?_
              refine m_aload_n F rfl e_X2_periodGoesBy_89 ?_
              refine t_callV F e_X2_periodGoesBy_90 (s_X2_indexNow (x_l X) V G b (M + 2 * i) Z T _ _ a  h1774.1 hk  (by omega)) cb_X2_indexNow ml_X2_153 im_X2_indexNow se_X2_indexNow (fun _ => o7) h1774 hk rfl rfl (rest := [.ref ((a + 1) + 10 + 12 * i)]) rfl (Nat.le_of_ble_eq_true rfl) ⟨Nat.le_of_ble_eq_true rfl, Nat.le_of_ble_eq_true rfl⟩ ⟨Nat.le_of_ble_eq_true rfl, Nat.le_of_ble_eq_true rfl⟩ (fun r σ1782 hp => ?_)
              obtain ⟨h1784, x1785, rfl⟩ := hp
              have h1783 := HK.trans h1774 h1784 (by decide)
              refine t_callV F e_X2_periodGoesBy_93 (s_X5_followIndex (x_l X) V G b (M + 2 * i) Z T _ _ ((a + 1) + 10 + 12 * i) x1785 h1783.1 (kA_8 (kA_7 hk (r := 1) (by decide)) (j := i) (by omega))  (by omega)) cb_X5_followIndex ml_X2_160 im_X5_followIndex se_X5_followIndex (fun _ => o15) h1783 (kA_8 (kA_7 hk (r := 1) (by decide)) (j := i) (by omega)) rfl rfl (rest := []) rfl (Nat.le_of_ble_eq_true rfl) ⟨Nat.le_of_ble_eq_true rfl, Nat.le_of_ble_eq_true rfl⟩ ⟨Nat.le_of_ble_eq_true rfl, Nat.le_of_ble_eq_true rfl⟩ (fun r σ1786 hp => ?_)
              obtain ⟨h1788, rfl⟩ := hp
              have h1787 := HK.trans h1783 h1788 (by decide)
              refine m_aload_n F rfl e_X2_periodGoesBy_96 ?_
              refine m_iload_n F rfl e_X2_periodGoesBy_97 ?_
              refine m_aload_n F rfl e_X2_periodGoesBy_98 ?_
              refine t_callV F e_X2_periodGoesBy_99 (s_X2_remeasure (x_l X) V G b (M + 2 * i) Z T _ _ a (nI i) ((a + 1) + 10 + 12 * i) h1787.1 hk (kA_8 (kA_7 hk (r := 1) (by decide)) (j := i) (by omega)) (by omega)) cb_X2_remeasure ml_X2_164 im_X2_remeasure se_X2_remeasure (fun _ => o7) h1787 hk rfl rfl (rest := []) rfl (Nat.le_of_ble_eq_true rfl) ⟨Nat.le_of_ble_eq_true rfl, Nat.le_of_ble_eq_true rfl⟩ ⟨Nat.le_of_ble_eq_true rfl, Nat.le_of_ble_eq_true rfl⟩ (fun r σ1789 hp => ?_)
              obtain ⟨h1791, x1792, rfl⟩ := hp
              have h1790 := HK.trans h1787 h1791 (by decide)
              refine m_pop2_2 F rfl e_X2_periodGoesBy_102 ?_
              refine m_aload_n F rfl e_X2_periodGoesBy_103 ?_
              refine t_get F e_X2_periodGoesBy_104 fl_X2_129 (fun _ => o15) h1790 (kA_8 (kA_7 hk (r := 1) (by decide)) (j := i) (by omega)) rfl (fun v hv f1793 => ?_)
              obtain ⟨x1794, rfl⟩ := hv
              refine m_iconst F (v := 1) (by decide) e_X2_periodGoesBy_107 ?_
              refine m_icmp_ne F e_X2_periodGoesBy_108 (fun q108 => ?_) (fun q108 => ?_)
              · refine m_iinc F (v := nI (i + 1)) (lv' := [(1, .int (nI (i + 1))), (2, .ref ((a + 1) + 10 + 12 * i)), (0, .ref a)]) e_X2_periodGoesBy_117 rfl (nI_add i 1) (by decide) rfl ?_
                refine m_goto F e_X2_periodGoesBy_120 ?_
                refine Wm.lvsub (lv' := [(1, .int (nI (i + 1))), (0, .ref a)]) ?_ [0, 2] rfl
                exact ih (i + 1) _ (h1790.mono (M' := M + 2 * (i + 1)) (Z' := Z) (by omega) (by intro e9; first | exact e9 | rfl)) (by omega) (by omega)
              · refine m_aload_n F rfl e_X2_periodGoesBy_111 ?_
                refine m_iload_n F rfl e_X2_periodGoesBy_112 ?_
                refine m_aload_n F rfl e_X2_periodGoesBy_113 ?_
                refine t_callV F e_X2_periodGoesBy_114 (s_X2_payAndWriteOff (x_l X) V G b (M + 2 * i + 1) Z T _ _ a (nI i) ((a + 1) + 10 + 12 * i) h1790.1 hk (kA_8 (kA_7 hk (r := 1) (by decide)) (j := i) (by omega)) (by omega)) cb_X2_payAndWriteOff ml_X2_168 im_X2_payAndWriteOff se_X2_payAndWriteOff (fun _ => o7) h1790 hk rfl rfl (rest := []) rfl (Nat.le_of_ble_eq_true rfl) ⟨Nat.le_of_ble_eq_true rfl, Nat.le_of_ble_eq_true rfl⟩ ⟨Nat.le_of_ble_eq_true rfl, Nat.le_of_ble_eq_true rfl⟩ (fun r σ1795 hp => ?_)
                obtain ⟨h1797, rfl⟩ := hp
                have h1796 := HK.trans h1790 h1797 (by decide)
                refine m_iinc F (v := nI (i + 1)) (lv' := [(1, .int (nI (i + 1))), (2, .ref ((a + 1) + 10 + 12 * i)), (0, .ref a)]) e_X2_periodGoesBy_117 rfl (nI_add i 1) (by decide) rfl ?_
                refine m_goto F e_X2_periodGoesBy_120 ?_
                refine Wm.lvsub (lv' := [(1, .int (nI (i + 1))), (0, .ref a)]) ?_ [0, 2] rfl
                exact ih (i + 1) _ (h1796.mono (M' := M + 2 * (i + 1)) (Z' := Z) (by omega) (by intro e9; first | exact e9 | rfl)) (by omega) (by omega)
      · refine m_aload_n F rfl e_X2_periodGoesBy_42 ?_
        refine t_get F e_X2_periodGoesBy_43 fl_X2_143 (fun _ => o15) h1 (kA_8 (kA_7 hk (r := 1) (by decide)) (j := i) (by omega)) rfl (fun v hv f1798 => ?_)
        obtain ⟨x1799, rfl⟩ := hv
        refine m_aload_n F rfl e_X2_periodGoesBy_46 ?_
        refine t_get F e_X2_periodGoesBy_47 fl_X2_68 (fun _ => o7) h1 hk rfl (fun v hv f1800 => ?_)
        obtain ⟨n1801, hn1801, rfl⟩ := hv
        replace hn1801 : n1801 ≤ M + 2 * i := hn1801
        refine m_icmp_ne F e_X2_periodGoesBy_50 (fun q50 => ?_) (fun q50 => ?_)
        · refine m_aload_n F rfl e_X2_periodGoesBy_62 ?_
          refine t_getC F e_X2_periodGoesBy_63 fl_X2_129 (fun _ => o15) h1 (kA_8 (kA_7 hk (r := 1) (by decide)) (j := i) (by omega)) (f1763) ?_
          refine m_iconst F (v := 1) (by decide) e_X2_periodGoesBy_66 ?_
          refine m_icmp_ne F e_X2_periodGoesBy_67 (fun q67 => ?_) (fun q67 => ?_)
          · refine m_aload_n F rfl e_X2_periodGoesBy_103 ?_
            refine t_getC F e_X2_periodGoesBy_104 fl_X2_129 (fun _ => o15) h1 (kA_8 (kA_7 hk (r := 1) (by decide)) (j := i) (by omega)) (f1763) ?_
            refine m_iconst F (v := 1) (by decide) e_X2_periodGoesBy_107 ?_
            refine m_icmp_ne F e_X2_periodGoesBy_108 (fun q108 => ?_) (fun q108 => ?_)
            · refine m_iinc F (v := nI (i + 1)) (lv' := [(1, .int (nI (i + 1))), (2, .ref ((a + 1) + 10 + 12 * i)), (0, .ref a)]) e_X2_periodGoesBy_117 rfl (nI_add i 1) (by decide) rfl ?_
              refine m_goto F e_X2_periodGoesBy_120 ?_
              refine Wm.lvsub (lv' := [(1, .int (nI (i + 1))), (0, .ref a)]) ?_ [0, 2] rfl
              exact ih (i + 1) _ (h1.mono (M' := M + 2 * (i + 1)) (Z' := Z) (by omega) (by intro e9; first | exact e9 | rfl)) (by omega) (by omega)
            · refine m_aload_n F rfl e_X2_periodGoesBy_111 ?_
              refine m_iload_n F rfl e_X2_periodGoesBy_112 ?_
              refine m_aload_n F rfl e_X2_periodGoesBy_113 ?_
              refine t_callV F e_X2_periodGoesBy_114 (s_X2_payAndWriteOff (x_l X) V G b (M + 2 * i) Z T _ _ a (nI i) ((a + 1) + 10 + 12 * i) h1.1 hk (kA_8 (kA_7 hk (r := 1) (by decide)) (j := i) (by omega)) (by omega)) cb_X2_payAndWriteOff ml_X2_168 im_X2_payAndWriteOff se_X2_payAndWriteOff (fun _ => o7) h1 hk rfl rfl (rest := []) rfl (Nat.le_of_ble_eq_true rfl) ⟨Nat.le_of_ble_eq_true rfl, Nat.le_of_ble_eq_true rfl⟩ ⟨Nat.le_of_ble_eq_true rfl, Nat.le_of_ble_eq_true rfl⟩ (fun r σ1802 hp => ?_)
              obtain ⟨h1804, rfl⟩ := hp
              have h1803 := HK.trans h1 h1804 (by decide)
              refine m_iinc F (v := nI (i + 1)) (lv' := [(1, .int (nI (i + 1))), (2, .ref ((a + 1) + 10 + 12 * i)), (0, .ref a)]) e_X2_periodGoesBy_117 rfl (nI_add i 1) (by decide) rfl ?_
              refine m_goto F e_X2_periodGoesBy_120 ?_
              refine Wm.lvsub (lv' := [(1, .int (nI (i + 1))), (0, .ref a)]) ?_ [0, 2] rfl
              exact ih (i + 1) _ (h1803.mono (M' := M + 2 * (i + 1)) (Z' := Z) (by omega) (by intro e9; first | exact e9 | rfl)) (by omega) (by omega)
          · refine m_aload_n F rfl e_X2_periodGoesBy_70 ?_
            refine t_get F e_X2_periodGoesBy_71 fl_X2_150 (fun _ => o15) h1 (kA_8 (kA_7 hk (r := 1) (by decide)) (j := i) (by omega)) rfl (fun v hv f1805 => ?_)
            obtain ⟨n1806, hn1806, rfl⟩ := hv
            replace hn1806 : n1806 ≤ 1 := hn1806
            refine m_if_eq F e_X2_periodGoesBy_74 (fun q74 => ?_) (fun q74 => ?_)
            · have c74 : n1806 = 0 := (nI_eq (a := n1806) (b := 0) (by omega) (by omega)).mp q74
              refine m_aload_n F rfl e_X2_periodGoesBy_103 ?_
              refine t_getC F e_X2_periodGoesBy_104 fl_X2_129 (fun _ => o15) h1 (kA_8 (kA_7 hk (r := 1) (by decide)) (j := i) (by omega)) (f1763) ?_
              refine m_iconst F (v := 1) (by decide) e_X2_periodGoesBy_107 ?_
              refine m_icmp_ne F e_X2_periodGoesBy_108 (fun q108 => ?_) (fun q108 => ?_)
              · refine m_iinc F (v := nI (i + 1)) (lv' := [(1, .int (nI (i + 1))), (2, .ref ((a + 1) + 10 + 12 * i)), (0, .ref a)]) e_X2_periodGoesBy_117 rfl (nI_add i 1) (by decide) rfl ?_
                refine m_goto F e_X2_periodGoesBy_120 ?_
                refine Wm.lvsub (lv' := [(1, .int (nI (i + 1))), (0, .ref a)]) ?_ [0, 2] rfl
                exact ih (i + 1) _ (h1.mono (M' := M + 2 * (i + 1)) (Z' := Z) (by omega) (by intro e9; first | exact e9 | rfl)) (by omega) (by omega)
              · refine m_aload_n F rfl e_X2_periodGoesBy_111 ?_
                refine m_iload_n F rfl e_X2_periodGoesBy_112 ?_
                refine m_aload_n F rfl e_X2_periodGoesBy_113 ?_
                refine t_callV F e_X2_periodGoesBy_114 (s_X2_payAndWriteOff (x_l X) V G b (M + 2 * i) Z T _ _ a (nI i) ((a + 1) + 10 + 12 * i) h1.1 hk (kA_8 (kA_7 hk (r := 1) (by decide)) (j := i) (by omega)) (by omega)) cb_X2_payAndWriteOff ml_X2_168 im_X2_payAndWriteOff se_X2_payAndWriteOff (fun _ => o7) h1 hk rfl rfl (rest := []) rfl (Nat.le_of_ble_eq_true rfl) ⟨Nat.le_of_ble_eq_true rfl, Nat.le_of_ble_eq_true rfl⟩ ⟨Nat.le_of_ble_eq_true rfl, Nat.le_of_ble_eq_true rfl⟩ (fun r σ1807 hp => ?_)
                obtain ⟨h1809, rfl⟩ := hp
                have h1808 := HK.trans h1 h1809 (by decide)
                refine m_iinc F (v := nI (i + 1)) (lv' := [(1, .int (nI (i + 1))), (2, .ref ((a + 1) + 10 + 12 * i)), (0, .ref a)]) e_X2_periodGoesBy_117 rfl (nI_add i 1) (by decide) rfl ?_
                refine m_goto F e_X2_periodGoesBy_120 ?_
                refine Wm.lvsub (lv' := [(1, .int (nI (i + 1))), (0, .ref a)]) ?_ [0, 2] rfl
                exact ih (i + 1) _ (h1808.mono (M' := M + 2 * (i + 1)) (Z' := Z) (by omega) (by intro e9; first | exact e9 | rfl)) (by omega) (by omega)
            · have c74 : n1806 ≠ 0 := by have hh := mt (nI_eq (a := n1806) (b := 0) (by omega) (by omega)).mpr q74; omega
              refine m_aload_n F rfl e_X2_periodGoesBy_77 ?_
              refine t_callV F e_X2_periodGoesBy_78 (s_X2_indexNow (x_l X) V G b (M + 2 * i) Z T _ _ a  h1.1 hk  (by omega)) cb_X2_indexNow ml_X2_153 im_X2_indexNow se_X2_indexNow (fun _ => o7) h1 hk rfl rfl (rest := []) rfl (Nat.le_of_ble_eq_true rfl) ⟨Nat.le_of_ble_eq_true rfl, Nat.le_of_ble_eq_true rfl⟩ ⟨Nat.le_of_ble_eq_true rfl, Nat.le_of_ble_eq_true rfl⟩ (fun r σ1810 hp => ?_)
              obtain ⟨h1812, x1813, rfl⟩ := hp
              have h1811 := HK.trans h1 h1812 (by decide)
              refine m_aload_n F rfl e_X2_periodGoesBy_81 ?_
              refine t_get F e_X2_periodGoesBy_82 fl_X2_157 (fun _ => o15) h1811 (kA_8 (kA_7 hk (r := 1) (by decide)) (j := i) (by omega)) rfl (fun v hv f1814 => ?_)
              obtain ⟨x1815, rfl⟩ := hv
              refine m_icmp_eq F e_X2_periodGoesBy_85 (fun q85 => ?_) (fun q85 => ?_)
              · refine m_aload_n F rfl e_X2_periodGoesBy_103 ?_
                refine t_getC F e_X2_periodGoesBy_104 fl_X2_129 (fun _ => o15) h1811 (kA_8 (kA_7 hk (r := 1) (by decide)) (j := i) (by omega)) ((fld_eq (h1812.2 ((a + 1) + 10 + 12 * i) (by rw [show kA _ ((a + 1) + 10 + 12 * i) = 15 from (kA_8 (kA_7 hk (r := 1) (by decide)) (j := i) (by omega))]; decide))).trans f1763) ?_
                refine m_iconst F (v := 1) (by decide) e_X2_periodGoesBy_107 ?_
                refine m_icmp_ne F e_X2_periodGoesBy_108 (fun q108 => ?_) (fun q108 => ?_)
                · refine m_iinc F (v := nI (i + 1)) (lv' := [(1, .int (nI (i + 1))), (2, .ref ((a + 1) + 10 + 12 * i)), (0, .ref a)]) e_X2_periodGoesBy_117 rfl (nI_add i 1) (by decide) rfl ?_
                  refine m_goto F e_X2_periodGoesBy_120 ?_
                  refine Wm.lvsub (lv' := [(1, .int (nI (i + 1))), (0, .ref a)]) ?_ [0, 2] rfl
                  exact ih (i + 1) _ (h1811.mono (M' := M + 2 * (i + 1)) (Z' := Z) (by omega) (by intro e9; first | exact e9 | rfl)) (by omega) (by omega)
                · refine m_aload_n F rfl e_X2_periodGoesBy_111 ?_
                  refine m_iload_n F rfl e_X2_periodGoesBy_112 ?_
                  refine m_aload_n F rfl e_X2_periodGoesBy_113 ?_
                  refine t_callV F e_X2_periodGoesBy_114 (s_X2_payAndWriteOff (x_l X) V G b (M + 2 * i) Z T _ _ a (nI i) ((a + 1) + 10 + 12 * i) h1811.1 hk (kA_8 (kA_7 hk (r := 1) (by decide)) (j := i) (by omega)) (by omega)) cb_X2_payAndWriteOff ml_X2_168 im_X2_payAndWriteOff se_X2_payAndWriteOff (fun _ => o7) h1811 hk rfl rfl (rest := []) rfl (Nat.le_of_ble_eq_true rfl) ⟨Nat.le_of_ble_eq_true rfl, Nat.le_of_ble_eq_true rfl⟩ ⟨Nat.le_of_ble_eq_true rfl, Nat.le_of_ble_eq_true rfl⟩ (fun r σ1816 hp => ?_)
                  obtain ⟨h1818, rfl⟩ := hp
                  have h1817 := HK.trans h1811 h1818 (by decide)
                  refine m_iinc F (v := nI (i + 1)) (lv' := [(1, .int (nI (i + 1))), (2, .ref ((a + 1) + 10 + 12 * i)), (0, .ref a)]) e_X2_periodGoesBy_117 rfl (nI_add i 1) (by decide) rfl ?_
                  refine m_goto F e_X2_periodGoesBy_120 ?_
                  refine Wm.lvsub (lv' := [(1, .int (nI (i + 1))), (0, .ref a)]) ?_ [0, 2] rfl
                  exact ih (i + 1) _ (h1817.mono (M' := M + 2 * (i + 1)) (Z' := Z) (by omega) (by intro e9; first | exact e9 | rfl)) (by omega) (by omega)
              · refine m_aload_n F rfl e_X2_periodGoesBy_88 ?_
                refine m_aload_n F rfl e_X2_periodGoesBy_89 ?_
                refine t_callV F e_X2_periodGoesBy_90 (s_X2_indexNow (x_l X) V G b (M + 2 * i) Z T _ _ a  h1811.1 hk  (by omega)) cb_X2_indexNow ml_X2_153 im_X2_indexNow se_X2_indexNow (fun _ => o7) h1811 hk rfl rfl (rest := [.ref ((a + 1) + 10 + 12 * i)]) rfl (Nat.le_of_ble_eq_true rfl) ⟨Nat.le_of_ble_eq_true rfl, Nat.le_of_ble_eq_true rfl⟩ ⟨Nat.le_of_ble_eq_true rfl, Nat.le_of_ble_eq_true rfl⟩ (fun r σ1819 hp => ?_)
                obtain ⟨h1821, x1822, rfl⟩ := hp
                have h1820 := HK.trans h1811 h1821 (by decide)
                refine t_callV F e_X2_periodGoesBy_93 (s_X5_followIndex (x_l X) V G b (M + 2 * i) Z T _ _ ((a + 1) + 10 + 12 * i) x1822 h1820.1 (kA_8 (kA_7 hk (r := 1) (by decide)) (j := i) (by omega))  (by omega)) cb_X5_followIndex ml_X2_160 im_X5_followIndex se_X5_followIndex (fun _ => o15) h1820 (kA_8 (kA_7 hk (r := 1) (by decide)) (j := i) (by omega)) rfl rfl (rest := []) rfl (Nat.le_of_ble_eq_true rfl) ⟨Nat.le_of_ble_eq_true rfl, Nat.le_of_ble_eq_true rfl⟩ ⟨Nat.le_of_ble_eq_true rfl, Nat.le_of_ble_eq_true rfl⟩ (fun r σ1823 hp => ?_)
                obtain ⟨h1825, rfl⟩ := hp
                have h1824 := HK.trans h1820 h1825 (by decide)
                refine m_aload_n F rfl e_X2_periodGoesBy_96 ?_
                refine m_iload_n F rfl e_X2_periodGoesBy_97 ?_
                refine m_aload_n F rfl e_X2_periodGoesBy_98 ?_
                refine t_callV F e_X2_periodGoesBy_99 (s_X2_remeasure (x_l X) V G b (M + 2 * i) Z T _ _ a (nI i) ((a + 1) + 10 + 12 * i) h1824.1 hk (kA_8 (kA_7 hk (r := 1) (by decide)) (j := i) (by omega)) (by omega)) cb_X2_remeasure ml_X2_164 im_X2_remeasure se_X2_remeasure (fun _ => o7) h1824 hk rfl rfl (rest := []) rfl (Nat.le_of_ble_eq_true rfl) ⟨Nat.le_of_ble_eq_true rfl, Nat.le_of_ble_eq_true rfl⟩ ⟨Nat.le_of_ble_eq_true rfl, Nat.le_of_ble_eq_true rfl⟩ (fun r σ1826 hp => ?_)
                obtain ⟨h1828, x1829, rfl⟩ := hp
                have h1827 := HK.trans h1824 h1828 (by decide)
                refine m_pop2_2 F rfl e_X2_periodGoesBy_102 ?_
                refine m_aload_n F rfl e_X2_periodGoesBy_103 ?_
                refine t_get F e_X2_periodGoesBy_104 fl_X2_129 (fun _ => o15) h1827 (kA_8 (kA_7 hk (r := 1) (by decide)) (j := i) (by omega)) rfl (fun v hv f1830 => ?_)
                obtain ⟨x1831, rfl⟩ := hv
                refine m_iconst F (v := 1) (by decide) e_X2_periodGoesBy_107 ?_
                refine m_icmp_ne F e_X2_periodGoesBy_108 (fun q108 => ?_) (fun q108 => ?_)
                · refine m_iinc F (v := nI (i + 1)) (lv' := [(1, .int (nI (i + 1))), (2, .ref ((a + 1) + 10 + 12 * i)), (0, .ref a)]) e_X2_periodGoesBy_117 rfl (nI_add i 1) (by decide) rfl ?_
                  refine m_goto F e_X2_periodGoesBy_120 ?_
                  refine Wm.lvsub (lv' := [(1, .int (nI (i + 1))), (0, .ref a)]) ?_ [0, 2] rfl
                  exact ih (i + 1) _ (h1827.mono (M' := M + 2 * (i + 1)) (Z' := Z) (by omega) (by intro e9; first | exact e9 | rfl)) (by omega) (by omega)
                · refine m_aload_n F rfl e_X2_periodGoesBy_111 ?_
                  refine m_iload_n F rfl e_X2_periodGoesBy_112 ?_
                  refine m_aload_n F rfl e_X2_periodGoesBy_113 ?_
                  refine t_callV F e_X2_periodGoesBy_114 (s_X2_payAndWriteOff (x_l X) V G b (M + 2 * i + 1) Z T _ _ a (nI i) ((a + 1) + 10 + 12 * i) h1827.1 hk (kA_8 (kA_7 hk (r := 1) (by decide)) (j := i) (by omega)) (by omega)) cb_X2_payAndWriteOff ml_X2_168 im_X2_payAndWriteOff se_X2_payAndWriteOff (fun _ => o7) h1827 hk rfl rfl (rest := []) rfl (Nat.le_of_ble_eq_true rfl) ⟨Nat.le_of_ble_eq_true rfl, Nat.le_of_ble_eq_true rfl⟩ ⟨Nat.le_of_ble_eq_true rfl, Nat.le_of_ble_eq_true rfl⟩ (fun r σ1832 hp => ?_)
                  obtain ⟨h1834, rfl⟩ := hp
                  have h1833 := HK.trans h1827 h1834 (by decide)
                  refine m_iinc F (v := nI (i + 1)) (lv' := [(1, .int (nI (i + 1))), (2, .ref ((a + 1) + 10 + 12 * i)), (0, .ref a)]) e_X2_periodGoesBy_117 rfl (nI_add i 1) (by decide) rfl ?_
                  refine m_goto F e_X2_periodGoesBy_120 ?_
                  refine Wm.lvsub (lv' := [(1, .int (nI (i + 1))), (0, .ref a)]) ?_ [0, 2] rfl
                  exact ih (i + 1) _ (h1833.mono (M' := M + 2 * (i + 1)) (Z' := Z) (by omega) (by intro e9; first | exact e9 | rfl)) (by omega) (by omega)
        · refine m_aload_n F rfl e_X2_periodGoesBy_53 ?_
          refine m_iload_n F rfl e_X2_periodGoesBy_54 ?_
          refine m_aload_n F rfl e_X2_periodGoesBy_55 ?_
          refine t_callV F e_X2_periodGoesBy_56 (s_X2_begin (x_l X) V G b (M + 2 * i) Z T _ _ a (nI i) ((a + 1) + 10 + 12 * i) h1.1 hk (kA_8 (kA_7 hk (r := 1) (by decide)) (j := i) (by omega)) (by omega)) cb_X2_begin ml_X2_146 im_X2_begin se_X2_begin (fun _ => o7) h1 hk rfl rfl (rest := []) rfl (Nat.le_of_ble_eq_true rfl) ⟨Nat.le_of_ble_eq_true rfl, Nat.le_of_ble_eq_true rfl⟩ ⟨Nat.le_of_ble_eq_true rfl, Nat.le_of_ble_eq_true rfl⟩ (fun r σ1835 hp => ?_)
          obtain ⟨h1837, rfl⟩ := hp
          have h1836 := HK.trans h1 h1837 (by decide)
          refine m_goto F e_X2_periodGoesBy_59 ?_
          refine m_aload_n F rfl e_X2_periodGoesBy_103 ?_
          refine t_get F e_X2_periodGoesBy_104 fl_X2_129 (fun _ => o15) h1836 (kA_8 (kA_7 hk (r := 1) (by decide)) (j := i) (by omega)) rfl (fun v hv f1838 => ?_)
          obtain ⟨x1839, rfl⟩ := hv
          refine m_iconst F (v := 1) (by decide) e_X2_periodGoesBy_107 ?_
          refine m_icmp_ne F e_X2_periodGoesBy_108 (fun q108 => ?_) (fun q108 => ?_)
          · refine m_iinc F (v := nI (i + 1)) (lv' := [(1, .int (nI (i + 1))), (2, .ref ((a + 1) + 10 + 12 * i)), (0, .ref a)]) e_X2_periodGoesBy_117 rfl (nI_add i 1) (by decide) rfl ?_
            refine m_goto F e_X2_periodGoesBy_120 ?_
            refine Wm.lvsub (lv' := [(1, .int (nI (i + 1))), (0, .ref a)]) ?_ [0, 2] rfl
            exact ih (i + 1) _ (h1836.mono (M' := M + 2 * (i + 1)) (Z' := Z) (by omega) (by intro e9; first | exact e9 | rfl)) (by omega) (by omega)
          · refine m_aload_n F rfl e_X2_periodGoesBy_111 ?_
            refine m_iload_n F rfl e_X2_periodGoesBy_112 ?_
            refine m_aload_n F rfl e_X2_periodGoesBy_113 ?_
            refine t_callV F e_X2_periodGoesBy_114 (s_X2_payAndWriteOff (x_l X) V G b (M + 2 * i + 1) Z T _ _ a (nI i) ((a + 1) + 10 + 12 * i) h1836.1 hk (kA_8 (kA_7 hk (r := 1) (by decide)) (j := i) (by omega)) (by omega)) cb_X2_payAndWriteOff ml_X2_168 im_X2_payAndWriteOff se_X2_payAndWriteOff (fun _ => o7) h1836 hk rfl rfl (rest := []) rfl (Nat.le_of_ble_eq_true rfl) ⟨Nat.le_of_ble_eq_true rfl, Nat.le_of_ble_eq_true rfl⟩ ⟨Nat.le_of_ble_eq_true rfl, Nat.le_of_ble_eq_true rfl⟩ (fun r σ1840 hp => ?_)
            obtain ⟨h1842, rfl⟩ := hp
            have h1841 := HK.trans h1836 h1842 (by decide)
            refine m_iinc F (v := nI (i + 1)) (lv' := [(1, .int (nI (i + 1))), (2, .ref ((a + 1) + 10 + 12 * i)), (0, .ref a)]) e_X2_periodGoesBy_117 rfl (nI_add i 1) (by decide) rfl ?_
            refine m_goto F e_X2_periodGoesBy_120 ?_
            refine Wm.lvsub (lv' := [(1, .int (nI (i + 1))), (0, .ref a)]) ?_ [0, 2] rfl
            exact ih (i + 1) _ (h1841.mono (M' := M + 2 * (i + 1)) (Z' := Z) (by omega) (by intro e9; first | exact e9 | rfl)) (by omega) (by omega)
set_option maxRecDepth 20000 in
theorem s_X2_periodGoesBy (l : Launch) (V : VX) (G : GH) (b M Z T N : Nat) (σ : Mem) (a : Nat) (h0 : HT V G (b, M, Z, T) σ) (hk : kA b a = 7) (hM : M + 9 ≤ 1000000000) : Ct l V yX2_periodGoesBy cX2_periodGoesBy 3 none 5 0 0 N σ [.ref a] (fun r τ => HK V G (b, M + 9, Z, T) [0, 1, 2, 3, 4, 5, 8, 9, 10, 11, 16, 19] σ τ ∧ r = none) := by
  refine Ct.of (by decide) (Nat.le_of_ble_eq_true rfl) [(0, .ref a)] rfl (fun X hX F hQ => ?_)
  have h1 : HK V G (b, M, Z, T) [0, 1, 2, 3, 4, 5, 8, 9, 10, 11, 16, 19] σ σ := HK.start h0
  refine m_aload_n F rfl e_X2_periodGoesBy_0 ?_
  refine t_get F e_X2_periodGoesBy_1 fl_X2_40 (fun _ => o7) h1 hk rfl (fun v hv f1843 => ?_)
  obtain rfl : v = .ref (a + 8) := hv
  refine m_lconst F (v := 0) (by decide) e_X2_periodGoesBy_4 ?_
  refine t_callV F e_X2_periodGoesBy_5 (s_X1_set (x_l X) V G b M Z T _ _ (a + 8) 0 h1.1 (kA_7 hk (r := 8) (by decide))  (by omega)) cb_X1_set ml_X2_132 im_X1_set se_X1_set (fun _ => o6) h1 (kA_7 hk (r := 8) (by decide)) rfl rfl (rest := []) rfl (Nat.le_of_ble_eq_true rfl) ⟨Nat.le_of_ble_eq_true rfl, Nat.le_of_ble_eq_true rfl⟩ ⟨Nat.le_of_ble_eq_true rfl, Nat.le_of_ble_eq_true rfl⟩ (fun r σ1844 hp => ?_)
  obtain ⟨h1846, rfl⟩ := hp
  have h1845 := HK.trans h1 h1846 (by decide)
  refine m_aload_n F rfl e_X2_periodGoesBy_8 ?_
  refine t_get F e_X2_periodGoesBy_9 fl_X2_68 (fun _ => o7) h1845 hk rfl (fun v hv f1847 => ?_)
  obtain ⟨n1848, hn1848, rfl⟩ := hv
  replace hn1848 : n1848 ≤ M := hn1848
  refine m_bipush F (v := 99) (by decide) e_X2_periodGoesBy_12 ?_
  refine m_icmp_lt F e_X2_periodGoesBy_14 (fun q14 => ?_) (fun q14 => ?_)
  · have c14 : n1848 < 99 := (nI_ltI (a := n1848) (b := 99) (by omega) (by omega)).mp q14
    refine m_iconst F (v := 0) (by decide) e_X2_periodGoesBy_18 ?_
    refine m_istore_n F (lv' := [(1, .int 0), (0, .ref a)]) e_X2_periodGoesBy_19 (by decide) rfl ?_
    exact lp_X2_periodGoesBy_20 F hQ hk hM (4 - 0 + 1) 0 _ (h1845.mono (M' := M + 2 * 0) (Z' := Z) (by omega) (by intro e9; first | exact e9 | rfl)) (by omega) (Nat.lt_succ_self _)
  · have c14 : n1848 ≥ 99 := by have hh := mt (nI_ltI (a := n1848) (b := 99) (by omega) (by omega)).mpr q14; omega
    exact m_vret F hQ e_X2_periodGoesBy_17 (⟨(h1845.mono (M' := M + 9) (Z' := Z) (by omega) (by intro e; first | rfl | assumption | omega)), rfl⟩)
set_option maxRecDepth 20000 in
theorem lp_X2_canTakeSet_40 {V : VX} {G : GH} {X : MX} {b M Z T N : Nat} {σ : Mem} {a : Nat} {x902 : Int32}  (F : Fx V X yX2_canTakeSet cX2_canTakeSet 5 (some .boolean) (rmd 0 0 0)) (hQ : Rt V X 0 0 N (fun r τ => HK V G (b, M, Z, T) [0, 1, 2, 3, 4, 5, 6, 7, 8, 9, 10, 11, 12, 13, 14, 15, 16, 17, 18, 19] σ τ ∧ ∃ n : Nat, n ≤ 1 ∧ r = some (.int (nI n)))) (hk : kA b a = 7) (hM : M + 0 ≤ 1000000000)  : ∀ (fuel : Nat) (i : Nat) (u1 : Int32) (u2 : Int32) (τ : Mem), HK V G (b, M, Z, T) [0, 1, 2, 3, 4, 5, 6, 7, 8, 9, 10, 11, 12, 13, 14, 15, 16, 17, 18, 19] σ τ → i ≤ 4 → 4 - i < fuel → Wm V X 5 N τ 0 0 40 [(4, .int (nI i)), (3, .int u1), (0, .ref a), (1, .int u2), (2, .int x902)] [] := by
  intro fuel
  induction fuel with
  | zero => intro i u1 u2 τ h1 hi hm; exact absurd hm (Nat.not_lt_zero _)
  | succ fuel ih =>
    intro i u1 u2 τ h1 hi hm
    refine m_iload F rfl e_X2_canTakeSet_40 ?_
    refine m_iconst F (v := 4) (by decide) e_X2_canTakeSet_42 ?_
    refine m_icmp_ge F e_X2_canTakeSet_43 (fun q43 => ?_) (fun q43 => ?_)
    · have c43 : i ≥ 4 := (nI_leI (a := 4) (b := i) (by omega) (by omega)).mp q43
      refine m_iload_n F rfl e_X2_canTakeSet_115 ?_
      refine m_bipush F (v := 72) (by decide) e_X2_canTakeSet_116 ?_
      refine m_icmp_gt F e_X2_canTakeSet_118 (fun q118 => ?_) (fun q118 => ?_)
      · obtain ⟨n1849, hn1849, rfl⟩ := nI_nn (x := u1) (fun e => Int32.lt_irrefl (Int32.lt_trans e (Int32.lt_of_le_of_lt (by decide) q118)))
        have c118 : n1849 > 72 := (nI_ltI (a := 72) (b := n1849) (by omega) (by omega)).mp q118
        refine m_iconst F (v := 0) (by decide) e_X2_canTakeSet_125 ?_
        exact m_zret F hQ e_X2_canTakeSet_126 (by decide) (⟨h1, 0, by omega, rfl⟩)
      · refine m_iconst F (v := 1) (by decide) e_X2_canTakeSet_121 ?_
        refine m_goto F e_X2_canTakeSet_122 ?_
        exact m_zret F hQ e_X2_canTakeSet_126 (by decide) (⟨h1, 1, by omega, rfl⟩)
    · have c43 : i < 4 := by have hh := mt (nI_leI (a := 4) (b := i) (by omega) (by omega)).mpr q43; omega
      refine m_iload_n F rfl e_X2_canTakeSet_46 ?_
      refine m_iload F rfl e_X2_canTakeSet_47 ?_
      refine m_ishr F e_X2_canTakeSet_49 ?_
      refine Wm.top (fun x1850 _ => ?_)
      refine m_iconst F (v := 1) (by decide) e_X2_canTakeSet_50 ?_
      refine m_iand F e_X2_canTakeSet_51 ?_
      refine Wm.top (fun x1851 _ => ?_)
      refine m_if_ne F e_X2_canTakeSet_52 (fun q52 => ?_) (fun q52 => ?_)
      · refine m_iload F rfl e_X2_canTakeSet_58 ?_
        refine m_aload_n F rfl e_X2_canTakeSet_60 ?_
        refine t_get F e_X2_canTakeSet_61 fl_X2_62 (fun _ => o7) h1 hk rfl (fun v hv f1852 => ?_)
        obtain ⟨n1853, hn1853, rfl⟩ := hv
        replace hn1853 : n1853 ≤ 4 := hn1853
        refine m_icmp_ge F e_X2_canTakeSet_64 (fun q64 => ?_) (fun q64 => ?_)
        · have c64 : i ≥ n1853 := (nI_leI (a := n1853) (b := i) (by omega) (by omega)).mp q64
          refine m_iconst F (v := 0) (by decide) e_X2_canTakeSet_94 ?_
          exact m_zret F hQ e_X2_canTakeSet_95 (by decide) (⟨h1, 0, by omega, rfl⟩)
        · have c64 : i < n1853 := by have hh := mt (nI_leI (a := n1853) (b := i) (by omega) (by omega)).mpr q64; omega
          refine m_aload_n F rfl e_X2_canTakeSet_67 ?_
          refine t_get F e_X2_canTakeSet_68 fl_X2_19 (fun _ => o7) h1 hk rfl (fun v hv f1854 => ?_)
          obtain rfl : v = .ref (a + 2) := hv
          refine m_iload F rfl e_X2_canTakeSet_71 ?_
          refine t_aald9 F (j := i) e_X2_canTakeSet_73 rfl h1 (kA_7 hk (r := 2) (by decide)) (nI_clamp (by omega)) (vp_in_nI (by omega) (by decide)) ?_
          refine t_get F e_X2_canTakeSet_74 fl_X2_97 (fun _ => o19) h1 (kA_9 (kA_7 hk (r := 2) (by decide)) (j := i) (by omega)) rfl (fun v hv f1855 => ?_)
          obtain ⟨n1856, hn1856, rfl⟩ := hv
          replace hn1856 : n1856 ≤ 3 := hn1856
          refine m_iload_n F rfl e_X2_canTakeSet_77 ?_
          refine m_icmp_ne F e_X2_canTakeSet_78 (fun q78 => ?_) (fun q78 => ?_)
          · refine m_iconst F (v := 0) (by decide) e_X2_canTakeSet_94 ?_
            exact m_zret F hQ e_X2_canTakeSet_95 (by decide) (⟨h1, 0, by omega, rfl⟩)
          · refine m_aload_n F rfl e_X2_canTakeSet_81 ?_
            refine t_getC F e_X2_canTakeSet_82 fl_X2_19 (fun _ => o7) h1 hk (f1854) ?_
            refine m_iload F rfl e_X2_canTakeSet_85 ?_
            refine t_aald9 F (j := i) e_X2_canTakeSet_87 rfl h1 (kA_7 hk (r := 2) (by decide)) (nI_clamp (by omega)) (vp_in_nI (by omega) (by decide)) ?_
            refine t_get F e_X2_canTakeSet_88 fl_X2_106 (fun _ => o19) h1 (kA_9 (kA_7 hk (r := 2) (by decide)) (j := i) (by omega)) rfl (fun v hv f1857 => ?_)
            obtain ⟨n1858, hn1858, rfl⟩ := hv
            replace hn1858 : n1858 ≤ 1 := hn1858
            refine m_if_eq F e_X2_canTakeSet_91 (fun q91 => ?_) (fun q91 => ?_)
            · have c91 : n1858 = 0 := (nI_eq (a := n1858) (b := 0) (by omega) (by omega)).mp q91
              refine m_iload_n F rfl e_X2_canTakeSet_96 ?_
              refine m_aload_n F rfl e_X2_canTakeSet_97 ?_
              refine t_getC F e_X2_canTakeSet_98 fl_X2_19 (fun _ => o7) h1 hk (f1854) ?_
              refine m_iload F rfl e_X2_canTakeSet_101 ?_
              refine t_aald9 F (j := i) e_X2_canTakeSet_103 rfl h1 (kA_7 hk (r := 2) (by decide)) (nI_clamp (by omega)) (vp_in_nI (by omega) (by decide)) ?_
              refine t_get F e_X2_canTakeSet_104 fl_X2_100 (fun _ => o19) h1 (kA_9 (kA_7 hk (r := 2) (by decide)) (j := i) (by omega)) rfl (fun v hv f1859 => ?_)
              obtain ⟨n1860, hn1860, rfl⟩ := hv
              replace hn1860 : n1860 ≤ 24 := hn1860
              refine m_iadd F e_X2_canTakeSet_107 ?_
              refine Wm.top (fun x1861 _ => ?_)
              refine m_istore_n F (lv' := [(3, .int x1861), (4, .int (nI i)), (0, .ref a), (1, .int u2), (2, .int x902)]) e_X2_canTakeSet_108 (by decide) rfl ?_
              refine m_iinc F (v := nI (i + 1)) (lv' := [(4, .int (nI (i + 1))), (3, .int x1861), (0, .ref a), (1, .int u2), (2, .int x902)]) e_X2_canTakeSet_109 rfl (nI_add i 1) (by decide) rfl ?_
              refine m_goto F e_X2_canTakeSet_112 ?_
              exact ih (i + 1) x1861 u2 _ h1 (by omega) (by omega)
            · have c91 : n1858 ≠ 0 := by have hh := mt (nI_eq (a := n1858) (b := 0) (by omega) (by omega)).mpr q91; omega
              refine m_iconst F (v := 0) (by decide) e_X2_canTakeSet_94 ?_
              exact m_zret F hQ e_X2_canTakeSet_95 (by decide) (⟨h1, 0, by omega, rfl⟩)
      · refine m_goto F e_X2_canTakeSet_55 ?_
        refine m_iinc F (v := nI (i + 1)) (lv' := [(4, .int (nI (i + 1))), (3, .int u1), (0, .ref a), (1, .int u2), (2, .int x902)]) e_X2_canTakeSet_109 rfl (nI_add i 1) (by decide) rfl ?_
        refine m_goto F e_X2_canTakeSet_112 ?_
        exact ih (i + 1) u1 u2 _ h1 (by omega) (by omega)
set_option maxRecDepth 20000 in
theorem s_X2_canTakeSet (l : Launch) (V : VX) (G : GH) (b M Z T N : Nat) (σ : Mem) (a : Nat) (x901 : Int32) (x902 : Int32) (h0 : HT V G (b, M, Z, T) σ) (hk : kA b a = 7) (hM : M + 0 ≤ 1000000000) : Ct l V yX2_canTakeSet cX2_canTakeSet 5 (some .boolean) 0 0 0 N σ [.ref a, .int x901, .int x902] (fun r τ => HK V G (b, M, Z, T) [0, 1, 2, 3, 4, 5, 6, 7, 8, 9, 10, 11, 12, 13, 14, 15, 16, 17, 18, 19] σ τ ∧ ∃ n : Nat, n ≤ 1 ∧ r = some (.int (nI n))) := by
  refine Ct.of (by decide) (Nat.le_of_ble_eq_true rfl) [(0, .ref a), (1, .int x901), (2, .int x902)] rfl (fun X hX F hQ => ?_)
  have h1 : HK V G (b, M, Z, T) [0, 1, 2, 3, 4, 5, 6, 7, 8, 9, 10, 11, 12, 13, 14, 15, 16, 17, 18, 19] σ σ := HK.start h0
  refine m_iload_n F rfl e_X2_canTakeSet_0 ?_
  refine m_if_lt F e_X2_canTakeSet_1 (fun q1 => ?_) (fun q1 => ?_)
  · refine m_iconst F (v := 0) (by decide) e_X2_canTakeSet_25 ?_
    exact m_zret F hQ e_X2_canTakeSet_26 (by decide) (⟨h1, 0, by omega, rfl⟩)
  · obtain ⟨n1862, hn1862, rfl⟩ := nI_nn (x := x901) (fun e => q1 (Int32.lt_of_lt_of_le e (by decide)))
    have c1 : n1862 ≥ 0 := by have hh := mt (nI_ltI (a := n1862) (b := 0) (by omega) (by omega)).mpr q1; omega
    refine m_iload_n F rfl e_X2_canTakeSet_4 ?_
    refine m_aload_n F rfl e_X2_canTakeSet_5 ?_
    refine t_get F e_X2_canTakeSet_6 fl_X2_58 (fun _ => o7) h1 hk rfl (fun v hv f1863 => ?_)
    obtain ⟨n1864, ⟨hn1864, gn1864⟩, rfl⟩ := hv
    replace hn1864 : n1864 ≤ 4 := hn1864
    refine m_icmp_ge F e_X2_canTakeSet_9 (fun q9 => ?_) (fun q9 => ?_)
    · have c9 : n1862 ≥ n1864 := (nI_leI (a := n1864) (b := n1862) (by omega) (by omega)).mp q9
      refine m_iconst F (v := 0) (by decide) e_X2_canTakeSet_25 ?_
      exact m_zret F hQ e_X2_canTakeSet_26 (by decide) (⟨h1, 0, by omega, rfl⟩)
    · have c9 : n1862 < n1864 := by have hh := mt (nI_leI (a := n1864) (b := n1862) (by omega) (by omega)).mpr q9; omega
      refine m_aload_n F rfl e_X2_canTakeSet_12 ?_
      refine t_get F e_X2_canTakeSet_13 fl_X2_11 (fun _ => o7) h1 hk rfl (fun v hv f1865 => ?_)
      obtain rfl : v = .ref (a + 1) := hv
      refine m_iload_n F rfl e_X2_canTakeSet_16 ?_
      refine t_aald8 F (j := n1862) e_X2_canTakeSet_17 rfl h1 (kA_7 hk (r := 1) (by decide)) (nI_clamp (by omega)) (vp_in_nI (by omega) (by decide)) ?_
      refine t_get F e_X2_canTakeSet_18 fl_X2_129 (fun _ => o15) h1 (kA_8 (kA_7 hk (r := 1) (by decide)) (j := n1862) (by omega)) rfl (fun v hv f1866 => ?_)
      obtain ⟨x1867, rfl⟩ := hv
      refine m_iconst F (v := 1) (by decide) e_X2_canTakeSet_21 ?_
      refine m_icmp_eq F e_X2_canTakeSet_22 (fun q22 => ?_) (fun q22 => ?_)
      · refine m_aload_n F rfl e_X2_canTakeSet_27 ?_
        refine t_getC F e_X2_canTakeSet_28 fl_X2_11 (fun _ => o7) h1 hk (f1865) ?_
        refine m_iload_n F rfl e_X2_canTakeSet_31 ?_
        refine t_aald8 F (j := n1862) e_X2_canTakeSet_32 rfl h1 (kA_7 hk (r := 1) (by decide)) (nI_clamp (by omega)) (vp_in_nI (by omega) (by decide)) ?_
        refine t_get F e_X2_canTakeSet_33 fl_X2_232 (fun _ => o15) h1 (kA_8 (kA_7 hk (r := 1) (by decide)) (j := n1862) (by omega)) rfl (fun v hv f1868 => ?_)
        obtain ⟨x1869, rfl⟩ := hv
        refine m_istore_n F (lv' := [(3, .int x1869), (0, .ref a), (1, .int (nI n1862)), (2, .int x902)]) e_X2_canTakeSet_36 (by decide) rfl ?_
        refine m_iconst F (v := 0) (by decide) e_X2_canTakeSet_37 ?_
        refine m_istore F (lv' := [(4, .int 0), (3, .int x1869), (0, .ref a), (1, .int (nI n1862)), (2, .int x902)]) e_X2_canTakeSet_38 (by decide) rfl ?_
        exact lp_X2_canTakeSet_40 F hQ hk hM (4 - 0 + 1) 0 x1869 (nI n1862) _ h1 (by omega) (Nat.lt_succ_self _)
      · refine m_iconst F (v := 0) (by decide) e_X2_canTakeSet_25 ?_
        exact m_zret F hQ e_X2_canTakeSet_26 (by decide) (⟨h1, 0, by omega, rfl⟩)
set_option maxRecDepth 20000 in
theorem s_X2_canTake (l : Launch) (V : VX) (G : GH) (b M Z T N : Nat) (σ : Mem) (a : Nat) (x901 : Int32) (h0 : HT V G (b, M, Z, T) σ) (hk : kA b a = 7) (hM : M + 0 ≤ 1000000000) : Ct l V yX2_canTake cX2_canTake 2 (some .boolean) 1 0 0 N σ [.ref a, .int x901] (fun r τ => HK V G (b, M, Z, T) [0, 1, 2, 3, 4, 5, 6, 7, 8, 9, 10, 11, 12, 13, 14, 15, 16, 17, 18, 19] σ τ ∧ (r = some (.int 0) ∨ ∃ n : Nat, n ≤ 3 ∧ x901 = nI n ∧ r = some (.int 1))) := by
  refine Ct.of (by decide) (Nat.le_of_ble_eq_true rfl) [(0, .ref a), (1, .int x901)] rfl (fun X hX F hQ => ?_)
  have h1 : HK V G (b, M, Z, T) [0, 1, 2, 3, 4, 5, 6, 7, 8, 9, 10, 11, 12, 13, 14, 15, 16, 17, 18, 19] σ σ := HK.start h0
  refine m_iload_n F rfl e_X2_canTake_0 ?_
  refine m_if_lt F e_X2_canTake_1 (fun q1 => ?_) (fun q1 => ?_)
  · refine m_iconst F (v := 0) (by decide) e_X2_canTake_35 ?_
    exact m_zret F hQ e_X2_canTake_36 (by decide) (⟨h1, Or.inl rfl⟩)
  · obtain ⟨n1870, hn1870, rfl⟩ := nI_nn (x := x901) (fun e => q1 (Int32.lt_of_lt_of_le e (by decide)))
    have c1 : n1870 ≥ 0 := by have hh := mt (nI_ltI (a := n1870) (b := 0) (by omega) (by omega)).mpr q1; omega
    refine m_iload_n F rfl e_X2_canTake_4 ?_
    refine m_aload_n F rfl e_X2_canTake_5 ?_
    refine t_get F e_X2_canTake_6 fl_X2_62 (fun _ => o7) h1 hk rfl (fun v hv f1871 => ?_)
    obtain ⟨n1872, hn1872, rfl⟩ := hv
    replace hn1872 : n1872 ≤ 4 := hn1872
    refine m_icmp_ge F e_X2_canTake_9 (fun q9 => ?_) (fun q9 => ?_)
    · have c9 : n1870 ≥ n1872 := (nI_leI (a := n1872) (b := n1870) (by omega) (by omega)).mp q9
      refine m_iconst F (v := 0) (by decide) e_X2_canTake_35 ?_
      exact m_zret F hQ e_X2_canTake_36 (by decide) (⟨h1, Or.inl rfl⟩)
    · have c9 : n1870 < n1872 := by have hh := mt (nI_leI (a := n1872) (b := n1870) (by omega) (by omega)).mpr q9; omega
      refine m_aload_n F rfl e_X2_canTake_12 ?_
      refine m_aload_n F rfl e_X2_canTake_13 ?_
      refine t_get F e_X2_canTake_14 fl_X2_19 (fun _ => o7) h1 hk rfl (fun v hv f1873 => ?_)
      obtain rfl : v = .ref (a + 2) := hv
      refine m_iload_n F rfl e_X2_canTake_17 ?_
      refine t_aald9 F (j := n1870) e_X2_canTake_18 rfl h1 (kA_7 hk (r := 2) (by decide)) (nI_clamp (by omega)) (vp_in_nI (by omega) (by decide)) ?_
      refine t_get F e_X2_canTake_19 fl_X2_97 (fun _ => o19) h1 (kA_9 (kA_7 hk (r := 2) (by decide)) (j := n1870) (by omega)) rfl (fun v hv f1874 => ?_)
      obtain ⟨n1875, hn1875, rfl⟩ := hv
      replace hn1875 : n1875 ≤ 3 := hn1875
      refine m_iconst F (v := 1) (by decide) e_X2_canTake_22 ?_
      refine m_iload_n F rfl e_X2_canTake_23 ?_
      refine m_ishl F e_X2_canTake_24 ?_
      refine Wm.top (fun x1876 _ => ?_)
      refine t_callV F e_X2_canTake_25 (s_X2_canTakeSet (x_l X) V G b M Z T _ _ a (nI n1875) x1876 h1.1 hk  (by omega)) cb_X2_canTakeSet ml_X2_240 im_X2_canTakeSet se_X2_canTakeSet (fun _ => o7) h1 hk rfl rfl (rest := []) rfl (Nat.le_of_ble_eq_true rfl) ⟨Nat.le_of_ble_eq_true rfl, Nat.le_of_ble_eq_true rfl⟩ ⟨Nat.le_of_ble_eq_true rfl, Nat.le_of_ble_eq_true rfl⟩ (fun r σ1877 hp => ?_)
      obtain ⟨h1879, n1880, hn1880, rfl⟩ := hp
      have h1878 := HK.trans h1 h1879 (by decide)
      refine m_if_eq F e_X2_canTake_28 (fun q28 => ?_) (fun q28 => ?_)
      · have c28 : n1880 = 0 := (nI_eq (a := n1880) (b := 0) (by omega) (by omega)).mp q28
        refine m_iconst F (v := 0) (by decide) e_X2_canTake_35 ?_
        exact m_zret F hQ e_X2_canTake_36 (by decide) (⟨h1878, Or.inl rfl⟩)
      · have c28 : n1880 ≠ 0 := by have hh := mt (nI_eq (a := n1880) (b := 0) (by omega) (by omega)).mpr q28; omega
        refine m_iconst F (v := 1) (by decide) e_X2_canTake_31 ?_
        refine m_goto F e_X2_canTake_32 ?_
        exact m_zret F hQ e_X2_canTake_36 (by decide) (⟨h1878, Or.inr ⟨n1870, by omega, rfl, rfl⟩⟩)
set_option maxRecDepth 20000 in
theorem s_X2_goOnByOption (l : Launch) (V : VX) (G : GH) (b M Z T N : Nat) (σ : Mem) (a : Nat) (r901 : Nat) (r902 : Nat) (h0 : HT V G (b, M, Z, T) σ) (hk : kA b a = 7) (k901 : kA b r901 = 15) (k902 : kA b r902 = 19) (hM : M + 0 ≤ 1000000000) : Ct l V yX2_goOnByOption cX2_goOnByOption 3 none 4 0 0 N σ [.ref a, .ref r901, .ref r902] (fun r τ => HK V G (b, M, Z, T) [0, 1, 2, 3, 4, 5, 7, 8, 9, 10, 11, 12, 13, 14, 16, 18, 19] σ τ ∧ r = none) := by
  refine Ct.of (by decide) (Nat.le_of_ble_eq_true rfl) [(0, .ref a), (1, .ref r901), (2, .ref r902)] rfl (fun X hX F hQ => ?_)
  have h1 : HK V G (b, M, Z, T) [0, 1, 2, 3, 4, 5, 7, 8, 9, 10, 11, 12, 13, 14, 16, 18, 19] σ σ := HK.start h0
  refine m_aload_n F rfl e_X2_goOnByOption_0 ?_
  refine m_aload_n F rfl e_X2_goOnByOption_1 ?_
  refine t_get F e_X2_goOnByOption_2 fl_X2_100 (fun _ => o19) h1 k902 rfl (fun v hv f1881 => ?_)
  obtain ⟨n1882, hn1882, rfl⟩ := hv
  replace hn1882 : n1882 ≤ 24 := hn1882
  refine m_aload_n F rfl e_X2_goOnByOption_5 ?_
  refine t_get F e_X2_goOnByOption_6 fl_X2_103 (fun _ => o19) h1 k902 rfl (fun v hv f1883 => ?_)
  obtain ⟨x1884, rfl⟩ := hv
  refine m_i2l F e_X2_goOnByOption_9 ?_
  refine Wm.topl (fun x1885 _ => ?_)
  refine t_callV F e_X2_goOnByOption_10 (s_X5_goOn (x_l X) V G b M Z T _ _ r901 n1882 x1885 h1.1 k901 (by omega) (by omega)) cb_X5_goOn ml_X2_248 im_X5_goOn se_X5_goOn (fun _ => o15) h1 k901 rfl rfl (rest := []) rfl (Nat.le_of_ble_eq_true rfl) ⟨Nat.le_of_ble_eq_true rfl, Nat.le_of_ble_eq_true rfl⟩ ⟨Nat.le_of_ble_eq_true rfl, Nat.le_of_ble_eq_true rfl⟩ (fun r σ1886 hp => ?_)
  obtain ⟨h1888, rfl⟩ := hp
  have h1887 := HK.trans h1 h1888 (by decide)
  refine m_aload_n F rfl e_X2_goOnByOption_13 ?_
  refine t_get F e_X2_goOnByOption_14 fl_X2_150 (fun _ => o15) h1887 k901 rfl (fun v hv f1889 => ?_)
  obtain ⟨n1890, hn1890, rfl⟩ := hv
  replace hn1890 : n1890 ≤ 1 := hn1890
  refine m_if_eq F e_X2_goOnByOption_17 (fun q17 => ?_) (fun q17 => ?_)
  · have c17 : n1890 = 0 := (nI_eq (a := n1890) (b := 0) (by omega) (by omega)).mp q17
    exact m_vret F hQ e_X2_goOnByOption_28 (⟨h1887, rfl⟩)
  · have c17 : n1890 ≠ 0 := by have hh := mt (nI_eq (a := n1890) (b := 0) (by omega) (by omega)).mpr q17; omega
    refine m_aload_n F rfl e_X2_goOnByOption_20 ?_
    refine m_aload_n F rfl e_X2_goOnByOption_21 ?_
    refine t_callV F e_X2_goOnByOption_22 (s_X2_indexNow (x_l X) V G b M Z T _ _ a  h1887.1 hk  (by omega)) cb_X2_indexNow ml_X2_153 im_X2_indexNow se_X2_indexNow (fun _ => o7) h1887 hk rfl rfl (rest := [.ref r901]) rfl (Nat.le_of_ble_eq_true rfl) ⟨Nat.le_of_ble_eq_true rfl, Nat.le_of_ble_eq_true rfl⟩ ⟨Nat.le_of_ble_eq_true rfl, Nat.le_of_ble_eq_true rfl⟩ (fun r σ1891 hp => ?_)
    obtain ⟨h1893, x1894, rfl⟩ := hp
    have h1892 := HK.trans h1887 h1893 (by decide)
    refine t_callV F e_X2_goOnByOption_25 (s_X5_followIndex (x_l X) V G b M Z T _ _ r901 x1894 h1892.1 k901  (by omega)) cb_X5_followIndex ml_X2_160 im_X5_followIndex se_X5_followIndex (fun _ => o15) h1892 k901 rfl rfl (rest := []) rfl (Nat.le_of_ble_eq_true rfl) ⟨Nat.le_of_ble_eq_true rfl, Nat.le_of_ble_eq_true rfl⟩ ⟨Nat.le_of_ble_eq_true rfl, Nat.le_of_ble_eq_true rfl⟩ (fun r σ1895 hp => ?_)
    obtain ⟨h1897, rfl⟩ := hp
    have h1896 := HK.trans h1892 h1897 (by decide)
    exact m_vret F hQ e_X2_goOnByOption_28 (⟨h1896, rfl⟩)
set_option maxRecDepth 20000 in
theorem lp_X2_goOnBySet_2 {V : VX} {G : GH} {X : MX} {b M Z T N : Nat} {σ : Mem} {a : Nat} {r901 : Nat} {x902 : Int32}  (F : Fx V X yX2_goOnBySet cX2_goOnBySet 4 none (rmd 5 0 0)) (hQ : Rt V X 0 0 N (fun r τ => HK V G (b, M, Z, T) [0, 1, 2, 3, 4, 5, 7, 8, 9, 10, 11, 12, 13, 14, 16, 18, 19] σ τ ∧ r = none)) (hk : kA b a = 7) (k901 : kA b r901 = 15) (hM : M + 0 ≤ 1000000000)  : ∀ (fuel : Nat) (i : Nat) (τ : Mem), HK V G (b, M, Z, T) [0, 1, 2, 3, 4, 5, 7, 8, 9, 10, 11, 12, 13, 14, 16, 18, 19] σ τ → i ≤ 4 → 4 - i < fuel → Wm V X 4 N τ 0 0 2 [(3, .int (nI i)), (0, .ref a), (1, .ref r901), (2, .int x902)] [] := by
  intro fuel
  induction fuel with
  | zero => intro i τ h1 hi hm; exact absurd hm (Nat.not_lt_zero _)
  | succ fuel ih =>
    intro i τ h1 hi hm
    refine m_iload_n F rfl e_X2_goOnBySet_2 ?_
    refine m_aload_n F rfl e_X2_goOnBySet_3 ?_
    refine t_get F e_X2_goOnBySet_4 fl_X2_62 (fun _ => o7) h1 hk rfl (fun v hv f1898 => ?_)
    obtain ⟨n1899, hn1899, rfl⟩ := hv
    replace hn1899 : n1899 ≤ 4 := hn1899
    refine m_icmp_ge F e_X2_goOnBySet_7 (fun q7 => ?_) (fun q7 => ?_)
    · have c7 : i ≥ n1899 := (nI_leI (a := n1899) (b := i) (by omega) (by omega)).mp q7
      exact m_vret F hQ e_X2_goOnBySet_35 (⟨h1, rfl⟩)
    · have c7 : i < n1899 := by have hh := mt (nI_leI (a := n1899) (b := i) (by omega) (by omega)).mpr q7; omega
      refine m_iload_n F rfl e_X2_goOnBySet_10 ?_
      refine m_iload_n F rfl e_X2_goOnBySet_11 ?_
      refine m_ishr F e_X2_goOnBySet_12 ?_
      refine Wm.top (fun x1900 _ => ?_)
      refine m_iconst F (v := 1) (by decide) e_X2_goOnBySet_13 ?_
      refine m_iand F e_X2_goOnBySet_14 ?_
      refine Wm.top (fun x1901 _ => ?_)
      refine m_if_eq F e_X2_goOnBySet_15 (fun q15 => ?_) (fun q15 => ?_)
      · refine m_iinc F (v := nI (i + 1)) (lv' := [(3, .int (nI (i + 1))), (0, .ref a), (1, .ref r901), (2, .int x902)]) e_X2_goOnBySet_29 rfl (nI_add i 1) (by decide) rfl ?_
        refine m_goto F e_X2_goOnBySet_32 ?_
        exact ih (i + 1) _ h1 (by omega) (by omega)
      · refine m_aload_n F rfl e_X2_goOnBySet_18 ?_
        refine m_aload_n F rfl e_X2_goOnBySet_19 ?_
        refine m_aload_n F rfl e_X2_goOnBySet_20 ?_
        refine t_get F e_X2_goOnBySet_21 fl_X2_19 (fun _ => o7) h1 hk rfl (fun v hv f1902 => ?_)
        obtain rfl : v = .ref (a + 2) := hv
        refine m_iload_n F rfl e_X2_goOnBySet_24 ?_
        refine t_aald9 F (j := i) e_X2_goOnBySet_25 rfl h1 (kA_7 hk (r := 2) (by decide)) (nI_clamp (by omega)) (vp_in_nI (by omega) (by decide)) ?_
        refine t_callV F e_X2_goOnBySet_26 (s_X2_goOnByOption (x_l X) V G b M Z T _ _ a r901 ((a + 2) + 57 + i) h1.1 hk k901 (kA_9 (kA_7 hk (r := 2) (by decide)) (j := i) (by omega)) (by omega)) cb_X2_goOnByOption ml_X2_244 im_X2_goOnByOption se_X2_goOnByOption (fun _ => o7) h1 hk rfl rfl (rest := []) rfl (Nat.le_of_ble_eq_true rfl) ⟨Nat.le_of_ble_eq_true rfl, Nat.le_of_ble_eq_true rfl⟩ ⟨Nat.le_of_ble_eq_true rfl, Nat.le_of_ble_eq_true rfl⟩ (fun r σ1903 hp => ?_)
        obtain ⟨h1905, rfl⟩ := hp
        have h1904 := HK.trans h1 h1905 (by decide)
        refine m_iinc F (v := nI (i + 1)) (lv' := [(3, .int (nI (i + 1))), (0, .ref a), (1, .ref r901), (2, .int x902)]) e_X2_goOnBySet_29 rfl (nI_add i 1) (by decide) rfl ?_
        refine m_goto F e_X2_goOnBySet_32 ?_
        exact ih (i + 1) _ h1904 (by omega) (by omega)
set_option maxRecDepth 20000 in
theorem s_X2_goOnBySet (l : Launch) (V : VX) (G : GH) (b M Z T N : Nat) (σ : Mem) (a : Nat) (r901 : Nat) (x902 : Int32) (h0 : HT V G (b, M, Z, T) σ) (hk : kA b a = 7) (k901 : kA b r901 = 15) (hM : M + 0 ≤ 1000000000) : Ct l V yX2_goOnBySet cX2_goOnBySet 4 none 5 0 0 N σ [.ref a, .ref r901, .int x902] (fun r τ => HK V G (b, M, Z, T) [0, 1, 2, 3, 4, 5, 7, 8, 9, 10, 11, 12, 13, 14, 16, 18, 19] σ τ ∧ r = none) := by
  refine Ct.of (by decide) (Nat.le_of_ble_eq_true rfl) [(0, .ref a), (1, .ref r901), (2, .int x902)] rfl (fun X hX F hQ => ?_)
  have h1 : HK V G (b, M, Z, T) [0, 1, 2, 3, 4, 5, 7, 8, 9, 10, 11, 12, 13, 14, 16, 18, 19] σ σ := HK.start h0
  refine m_iconst F (v := 0) (by decide) e_X2_goOnBySet_0 ?_
  refine m_istore_n F (lv' := [(3, .int 0), (0, .ref a), (1, .ref r901), (2, .int x902)]) e_X2_goOnBySet_1 (by decide) rfl ?_
  exact lp_X2_goOnBySet_2 F hQ hk k901 hM (4 - 0 + 1) 0 _ h1 (by omega) (Nat.lt_succ_self _)
set_option maxRecDepth 20000 in
theorem s_X2_addLease (l : Launch) (V : VX) (G : GH) (b M Z T N : Nat) (σ : Mem) (a : Nat) (x901 : Int32) (x902 : Int32) (x903 : Int32) (x904 : Int32) (h0 : HT V G (b, M, Z, T) σ) (hk : kA b a = 7) (hg : ¬ G.gd (blk (a - b)) = 1) (hM : M + 0 ≤ 1000000000) : Ct l V yX2_addLease cX2_addLease 5 none 5 0 0 N σ [.ref a, .int x901, .int x902, .int x903, .int x904] (fun r τ => HK V G (b, M, Z, T) [0, 1, 2, 3, 4, 5, 8, 9, 10, 11, 12, 13, 14, 16, 19] σ τ ∧ r = none) := by
  refine Ct.of (by decide) (Nat.le_of_ble_eq_true rfl) [(0, .ref a), (1, .int x901), (2, .int x902), (3, .int x903), (4, .int x904)] rfl (fun X hX F hQ => ?_)
  have h1 : HK V G (b, M, Z, T) [0, 1, 2, 3, 4, 5, 8, 9, 10, 11, 12, 13, 14, 16, 19] σ σ := HK.start h0
  refine m_aload_n F rfl e_X2_addLease_0 ?_
  refine t_get F e_X2_addLease_1 fl_X2_58 (fun _ => o7) h1 hk rfl (fun v hv f1906 => ?_)
  obtain ⟨n1907, ⟨hn1907, gn1907⟩, rfl⟩ := hv
  replace hn1907 : n1907 ≤ 4 := hn1907
  refine m_iconst F (v := 4) (by decide) e_X2_addLease_4 ?_
  refine m_icmp_ge F e_X2_addLease_5 (fun q5 => ?_) (fun q5 => ?_)
  · have c5 : n1907 ≥ 4 := (nI_leI (a := 4) (b := n1907) (by omega) (by omega)).mp q5
    exact m_vret F hQ e_X2_addLease_35 (⟨h1, rfl⟩)
  · have c5 : n1907 < 4 := by have hh := mt (nI_leI (a := 4) (b := n1907) (by omega) (by omega)).mpr q5; omega
    refine m_aload_n F rfl e_X2_addLease_8 ?_
    refine t_get F e_X2_addLease_9 fl_X2_11 (fun _ => o7) h1 hk rfl (fun v hv f1908 => ?_)
    obtain rfl : v = .ref (a + 1) := hv
    refine m_aload_n F rfl e_X2_addLease_12 ?_
    refine t_getC F e_X2_addLease_13 fl_X2_58 (fun _ => o7) h1 hk (f1906) ?_
    refine t_aald8 F (j := n1907) e_X2_addLease_16 rfl h1 (kA_7 hk (r := 1) (by decide)) (nI_clamp (by omega)) (vp_in_nI (by omega) (by decide)) ?_
    refine m_iload_n F rfl e_X2_addLease_17 ?_
    refine m_iload_n F rfl e_X2_addLease_18 ?_
    refine m_iload_n F rfl e_X2_addLease_19 ?_
    refine m_iload F rfl e_X2_addLease_20 ?_
    refine t_callV F e_X2_addLease_22 (s_X5_tell (x_l X) V G b M Z T _ _ ((a + 1) + 10 + 12 * n1907) x901 x902 x903 x904 h1.1 (kA_8 (kA_7 hk (r := 1) (by decide)) (j := n1907) (by omega)) (gd_le hk (j := n1907) (by omega) hg) (by omega)) cb_X5_tell ml_X2_93 im_X5_tell se_X5_tell (fun _ => o15) h1 (kA_8 (kA_7 hk (r := 1) (by decide)) (j := n1907) (by omega)) rfl rfl (rest := []) rfl (Nat.le_of_ble_eq_true rfl) ⟨Nat.le_of_ble_eq_true rfl, Nat.le_of_ble_eq_true rfl⟩ ⟨Nat.le_of_ble_eq_true rfl, Nat.le_of_ble_eq_true rfl⟩ (fun r σ1909 hp => ?_)
    obtain ⟨h1911, rfl⟩ := hp
    have h1910 := HK.trans h1 h1911 (by decide)
    refine m_aload_n F rfl e_X2_addLease_25 ?_
    refine m_dup F rfl e_X2_addLease_26 ?_
    refine t_getC F e_X2_addLease_27 fl_X2_58 (fun _ => o7) h1910 hk ((fld_eq (h1911.2 a (by rw [show kA _ a = 7 from hk]; decide))).trans f1906) ?_
    refine m_iconst F (v := 1) (by decide) e_X2_addLease_30 ?_
    refine m_iadd F e_X2_addLease_31 ?_
    refine Wm.topE (w := nI (n1907 + 1)) (nI_add n1907 1) ?_
    refine t_put F e_X2_addLease_32 fp_X2_58 (fun _ => o7) h1910 hk rfl ⟨n1907 + 1, ⟨(show n1907 + 1 ≤ 4 by omega), fun e => absurd e hg⟩, rfl⟩ rfl rfl (by decide) (fun σ1912 h1913 g1914 g1915 f1916 => ?_)
    exact m_vret F hQ e_X2_addLease_35 (⟨h1913, rfl⟩)
set_option maxRecDepth 20000 in
theorem s_X2_addOption (l : Launch) (V : VX) (G : GH) (b M Z T N : Nat) (σ : Mem) (a : Nat) (n901 : Nat) (n902 : Nat) (x903 : Int32) (h0 : HT V G (b, M, Z, T) σ) (hk : kA b a = 7) (hn901 : n901 ≤ 3) (hn902 : n902 ≤ 24) (hM : M + 0 ≤ 1000000000) : Ct l V yX2_addOption cX2_addOption 5 none 0 0 0 N σ [.ref a, .int (nI n901), .int (nI n902), .int x903] (fun r τ => HK V G (b, M, Z, T) [0, 1, 2, 3, 4, 5, 6, 8, 9, 10, 11, 12, 13, 14, 15, 16, 17, 18] σ τ ∧ r = none) := by
  refine Ct.of (by decide) (Nat.le_of_ble_eq_true rfl) [(0, .ref a), (1, .int (nI n901)), (2, .int (nI n902)), (3, .int x903)] rfl (fun X hX F hQ => ?_)
  have h1 : HK V G (b, M, Z, T) [0, 1, 2, 3, 4, 5, 6, 8, 9, 10, 11, 12, 13, 14, 15, 16, 17, 18] σ σ := HK.start h0
  refine m_aload_n F rfl e_X2_addOption_0 ?_
  refine t_get F e_X2_addOption_1 fl_X2_62 (fun _ => o7) h1 hk rfl (fun v hv f1917 => ?_)
  obtain ⟨n1918, hn1918, rfl⟩ := hv
  replace hn1918 : n1918 ≤ 4 := hn1918
  refine m_iconst F (v := 4) (by decide) e_X2_addOption_4 ?_
  refine m_icmp_ge F e_X2_addOption_5 (fun q5 => ?_) (fun q5 => ?_)
  · have c5 : n1918 ≥ 4 := (nI_leI (a := 4) (b := n1918) (by omega) (by omega)).mp q5
    exact m_vret F hQ e_X2_addOption_53 (⟨h1, rfl⟩)
  · have c5 : n1918 < 4 := by have hh := mt (nI_leI (a := 4) (b := n1918) (by omega) (by omega)).mpr q5; omega
    refine m_aload_n F rfl e_X2_addOption_8 ?_
    refine t_get F e_X2_addOption_9 fl_X2_19 (fun _ => o7) h1 hk rfl (fun v hv f1919 => ?_)
    obtain rfl : v = .ref (a + 2) := hv
    refine m_aload_n F rfl e_X2_addOption_12 ?_
    refine t_getC F e_X2_addOption_13 fl_X2_62 (fun _ => o7) h1 hk (f1917) ?_
    refine t_aald9 F (j := n1918) e_X2_addOption_16 rfl h1 (kA_7 hk (r := 2) (by decide)) (nI_clamp (by omega)) (vp_in_nI (by omega) (by decide)) ?_
    refine m_astore F (lv' := [(4, .ref ((a + 2) + 57 + n1918)), (0, .ref a), (1, .int (nI n901)), (2, .int (nI n902)), (3, .int x903)]) e_X2_addOption_17 (by decide) rfl ?_
    refine m_aload F rfl e_X2_addOption_19 ?_
    refine m_iload_n F rfl e_X2_addOption_21 ?_
    refine t_put F e_X2_addOption_22 fp_X2_97 (fun _ => o19) h1 (kA_9 (kA_7 hk (r := 2) (by decide)) (j := n1918) (by omega)) rfl ⟨n901, (show n901 ≤ 3 by omega), rfl⟩ rfl rfl (by decide) (fun σ1920 h1921 g1922 g1923 f1924 => ?_)
    refine m_aload F rfl e_X2_addOption_25 ?_
    refine m_iload_n F rfl e_X2_addOption_27 ?_
    refine t_put F e_X2_addOption_28 fp_X2_100 (fun _ => o19) h1921 (kA_9 (kA_7 hk (r := 2) (by decide)) (j := n1918) (by omega)) rfl ⟨n902, (show n902 ≤ 24 by omega), rfl⟩ rfl rfl (by decide) (fun σ1925 h1926 g1927 g1928 f1929 => ?_)
    refine m_aload F rfl e_X2_addOption_31 ?_
    refine m_iload_n F rfl e_X2_addOption_33 ?_
    refine t_put F e_X2_addOption_34 fp_X2_103 (fun _ => o19) h1926 (kA_9 (kA_7 hk (r := 2) (by decide)) (j := n1918) (by omega)) rfl ⟨_, rfl⟩ rfl rfl (by decide) (fun σ1930 h1931 g1932 g1933 f1934 => ?_)
    refine m_aload F rfl e_X2_addOption_37 ?_
    refine m_iconst F (v := 0) (by decide) e_X2_addOption_39 ?_
    refine t_put F e_X2_addOption_40 fp_X2_106 (fun _ => o19) h1931 (kA_9 (kA_7 hk (r := 2) (by decide)) (j := n1918) (by omega)) rfl ⟨0, (show 0 ≤ 1 by omega), rfl⟩ (by decide) rfl (by decide) (fun σ1935 h1936 g1937 g1938 f1939 => ?_)
    refine m_aload_n F rfl e_X2_addOption_43 ?_
    refine m_dup F rfl e_X2_addOption_44 ?_
    refine t_getC F e_X2_addOption_45 fl_X2_62 (fun _ => o7) h1936 hk ((g1937 a 9 (fun e => absurd ((hk).symm.trans e) (by decide))).trans ((g1932 a 9 (fun e => absurd ((hk).symm.trans e) (by decide))).trans ((g1927 a 9 (fun e => absurd ((hk).symm.trans e) (by decide))).trans ((g1922 a 9 (fun e => absurd ((hk).symm.trans e) (by decide))).trans f1917)))) ?_
    refine m_iconst F (v := 1) (by decide) e_X2_addOption_48 ?_
    refine m_iadd F e_X2_addOption_49 ?_
    refine Wm.topE (w := nI (n1918 + 1)) (nI_add n1918 1) ?_
    refine t_put F e_X2_addOption_50 fp_X2_62 (fun _ => o7) h1936 hk rfl ⟨n1918 + 1, (show n1918 + 1 ≤ 4 by omega), rfl⟩ rfl rfl (by decide) (fun σ1940 h1941 g1942 g1943 f1944 => ?_)
    exact m_vret F hQ e_X2_addOption_53 (⟨h1941, rfl⟩)
set_option maxRecDepth 20000 in
theorem s_X2_addIndex (l : Launch) (V : VX) (G : GH) (b M Z T N : Nat) (σ : Mem) (a : Nat) (x901 : Int32) (x902 : Int32) (h0 : HT V G (b, M, Z, T) σ) (hk : kA b a = 7) (hM : M + 0 ≤ 1000000000) : Ct l V yX2_addIndex cX2_addIndex 3 none 3 0 0 N σ [.ref a, .int x901, .int x902] (fun r τ => HK V G (b, M, Z, T) [0, 1, 2, 3, 4, 5, 6, 8, 9, 12, 13, 14, 15, 16, 17, 18, 19] σ τ ∧ r = none) := by
  refine Ct.of (by decide) (Nat.le_of_ble_eq_true rfl) [(0, .ref a), (1, .int x901), (2, .int x902)] rfl (fun X hX F hQ => ?_)
  have h1 : HK V G (b, M, Z, T) [0, 1, 2, 3, 4, 5, 6, 8, 9, 12, 13, 14, 15, 16, 17, 18, 19] σ σ := HK.start h0
  refine m_aload_n F rfl e_X2_addIndex_0 ?_
  refine t_get F e_X2_addIndex_1 fl_X2_65 (fun _ => o7) h1 hk rfl (fun v hv f1945 => ?_)
  obtain ⟨n1946, hn1946, rfl⟩ := hv
  replace hn1946 : n1946 ≤ 8 := hn1946
  refine m_bipush F (v := 8) (by decide) e_X2_addIndex_4 ?_
  refine m_icmp_ge F e_X2_addIndex_6 (fun q6 => ?_) (fun q6 => ?_)
  · have c6 : n1946 ≥ 8 := (nI_leI (a := 8) (b := n1946) (by omega) (by omega)).mp q6
    exact m_vret F hQ e_X2_addIndex_50 (⟨h1, rfl⟩)
  · have c6 : n1946 < 8 := by have hh := mt (nI_leI (a := 8) (b := n1946) (by omega) (by omega)).mpr q6; omega
    refine m_iload_n F rfl e_X2_addIndex_9 ?_
    refine m_if_lt F e_X2_addIndex_10 (fun q10 => ?_) (fun q10 => ?_)
    · exact m_vret F hQ e_X2_addIndex_50 (⟨h1, rfl⟩)
    · obtain ⟨n1947, hn1947, rfl⟩ := nI_nn (x := x901) (fun e => q10 (Int32.lt_of_lt_of_le e (by decide)))
      have c10 : n1947 ≥ 0 := by have hh := mt (nI_ltI (a := n1947) (b := 0) (by omega) (by omega)).mpr q10; omega
      refine m_iload_n F rfl e_X2_addIndex_13 ?_
      refine m_bipush F (v := 99) (by decide) e_X2_addIndex_14 ?_
      refine m_icmp_gt F e_X2_addIndex_16 (fun q16 => ?_) (fun q16 => ?_)
      · have c16 : n1947 > 99 := (nI_ltI (a := 99) (b := n1947) (by omega) (by omega)).mp q16
        exact m_vret F hQ e_X2_addIndex_50 (⟨h1, rfl⟩)
      · have c16 : n1947 ≤ 99 := by have hh := mt (nI_ltI (a := 99) (b := n1947) (by omega) (by omega)).mpr q16; omega
        refine m_aload_n F rfl e_X2_addIndex_19 ?_
        refine t_get F e_X2_addIndex_20 fl_X2_27 (fun _ => o7) h1 hk rfl (fun v hv f1948 => ?_)
        obtain rfl : v = .ref (a + 4) := hv
        refine m_aload_n F rfl e_X2_addIndex_23 ?_
        refine t_getC F e_X2_addIndex_24 fl_X2_65 (fun _ => o7) h1 hk (f1945) ?_
        refine m_iload_n F rfl e_X2_addIndex_27 ?_
        refine t_iast F (len := 8) (j := n1946) e_X2_addIndex_28 (fun _ => o11) h1 (kA_7 hk (r := 4) (by decide)) (nI_clamp (by omega)) (vp_in_nI (by omega) (by decide)) (by decide) (fun σ1949 h1950 g1951 => ?_)
        refine m_aload_n F rfl e_X2_addIndex_29 ?_
        refine m_dup F rfl e_X2_addIndex_30 ?_
        refine t_getC F e_X2_addIndex_31 fl_X2_65 (fun _ => o7) h1950 hk ((g1951 a 10 (fun e => absurd ((hk).symm.trans e) (by decide))).trans f1945) ?_
        refine m_iconst F (v := 1) (by decide) e_X2_addIndex_34 ?_
        refine m_iadd F e_X2_addIndex_35 ?_
        refine Wm.topE (w := nI (n1946 + 1)) (nI_add n1946 1) ?_
        refine t_put F e_X2_addIndex_36 fp_X2_65 (fun _ => o7) h1950 hk rfl ⟨n1946 + 1, (show n1946 + 1 ≤ 8 by omega), rfl⟩ rfl rfl (by decide) (fun σ1952 h1953 g1954 g1955 f1956 => ?_)
        refine m_aload_n F rfl e_X2_addIndex_39 ?_
        refine t_get F e_X2_addIndex_40 fl_X2_23 (fun _ => o7) h1953 hk rfl (fun v hv f1957 => ?_)
        obtain rfl : v = .ref (a + 3) := hv
        refine m_iload_n F rfl e_X2_addIndex_43 ?_
        refine m_bipush F (v := 100) (by decide) e_X2_addIndex_44 ?_
        refine m_iload_n F rfl e_X2_addIndex_46 ?_
        refine m_callS F e_X2_addIndex_47 (s_J7_fill_fda19_10 (x_l X) V G b M Z T _ _ (a + 3) n1947 100 x902 h1953.1 (kA_7 hk (r := 3) (by decide)) (by omega) (by omega) (by first | omega | assumption | decide) (by first | omega | assumption | decide) (by omega)) cb_J7_fill_fda19 ml_X2_110 sm_J7_fill_fda19 rfl (rest := []) rfl (Nat.le_of_ble_eq_true rfl) ⟨Nat.le_of_ble_eq_true rfl, Nat.le_of_ble_eq_true rfl⟩ ⟨Nat.le_of_ble_eq_true rfl, Nat.le_of_ble_eq_true rfl⟩ (k' := 0) (z' := 0) (N' := N) rfl rfl rfl (fun r σ1958 hp => ?_)
        obtain ⟨h1960, rfl⟩ := hp
        have h1959 := HK.trans h1953 h1960 (by decide)
        exact m_vret F hQ e_X2_addIndex_50 (⟨h1959, rfl⟩)
set_option maxRecDepth 20000 in
theorem s_X2_lastTold (l : Launch) (V : VX) (G : GH) (b M Z T N : Nat) (σ : Mem) (a : Nat) (h0 : HT V G (b, M, Z, T) σ) (hk : kA b a = 7) (hM : M + 0 ≤ 1000000000) : Ct l V yX2_lastTold cX2_lastTold 1 (some .int) 0 0 0 N σ [.ref a] (fun r τ => HK V G (b, M, Z, T) [0, 1, 2, 3, 4, 5, 6, 7, 8, 9, 10, 11, 12, 13, 14, 15, 16, 17, 18, 19] σ τ ∧ ∃ x : Int32, r = some (.int x)) := by
  refine Ct.of (by decide) (Nat.le_of_ble_eq_true rfl) [(0, .ref a)] rfl (fun X hX F hQ => ?_)
  have h1 : HK V G (b, M, Z, T) [0, 1, 2, 3, 4, 5, 6, 7, 8, 9, 10, 11, 12, 13, 14, 15, 16, 17, 18, 19] σ σ := HK.start h0
  refine m_aload_n F rfl e_X2_lastTold_0 ?_
  refine t_get F e_X2_lastTold_1 fl_X2_65 (fun _ => o7) h1 hk rfl (fun v hv f1961 => ?_)
  obtain ⟨n1962, hn1962, rfl⟩ := hv
  replace hn1962 : n1962 ≤ 8 := hn1962
  refine m_if_le F e_X2_lastTold_4 (fun q4 => ?_) (fun q4 => ?_)
  · have c4 : n1962 ≤ 0 := (nI_leI (a := n1962) (b := 0) (by omega) (by omega)).mp q4
    refine m_iconst F (v := (-1)) (by decide) e_X2_lastTold_21 ?_
    exact m_iret F hQ e_X2_lastTold_22 (⟨h1, _, rfl⟩)
  · have c4 : n1962 > 0 := by have hh := mt (nI_leI (a := n1962) (b := 0) (by omega) (by omega)).mpr q4; omega
    refine m_aload_n F rfl e_X2_lastTold_7 ?_
    refine t_get F e_X2_lastTold_8 fl_X2_27 (fun _ => o7) h1 hk rfl (fun v hv f1963 => ?_)
    obtain rfl : v = .ref (a + 4) := hv
    refine m_aload_n F rfl e_X2_lastTold_11 ?_
    refine t_getC F e_X2_lastTold_12 fl_X2_65 (fun _ => o7) h1 hk (f1961) ?_
    refine m_iconst F (v := 1) (by decide) e_X2_lastTold_15 ?_
    refine m_isub F e_X2_lastTold_16 ?_
    refine Wm.topE (w := nI (n1962 - 1)) (pk_sub (a := n1962) (b := 1) (by omega)) ?_
    refine t_iald F (len := 8) (j := n1962 - 1) e_X2_lastTold_17 (fun _ => o11) h1 (kA_7 hk (r := 4) (by decide)) (nI_clamp (by omega)) (vp_in_nI (by omega) (by decide)) (fun x1964 => ?_)
    refine m_goto F e_X2_lastTold_18 ?_
    exact m_iret F hQ e_X2_lastTold_22 (⟨h1, _, rfl⟩)
set_option maxRecDepth 20000 in
theorem lp_X2_yearByChance_5 {V : VX} {G : GH} {X : MX} {b M Z T N : Nat} {σ : Mem} {a : Nat} {x901 : Int64}  (F : Fx V X yX2_yearByChance cX2_yearByChance 7 (some .long) (rmd 6 0 0)) (hQ : Rt V X 0 0 N (fun r τ => HK V G (b, M + 108, Z, T) [0, 1, 2, 3, 4, 5, 8, 9, 11, 16, 19] σ τ ∧ ∃ x : Int64, r = some (.long x))) (hk : kA b a = 7) (hM : M + 108 ≤ 1000000000)  : ∀ (fuel : Nat) (u1 : Int64) (i : Nat) (τ : Mem), HK V G (b, M + 9 * i, Z, T) [0, 1, 2, 3, 4, 5, 8, 9, 11, 16, 19] σ τ → i ≤ 12 → 12 - i < fuel → Wm V X 7 N τ 0 0 5 [(3, .long u1), (5, .int (nI i)), (0, .ref a), (1, .long x901)] [] := by
  intro fuel
  induction fuel with
  | zero => intro u1 i τ h1 hi hm; exact absurd hm (Nat.not_lt_zero _)
  | succ fuel ih =>
    intro u1 i τ h1 hi hm
    refine m_iload F rfl e_X2_yearByChance_5 ?_
    refine m_bipush F (v := 12) (by decide) e_X2_yearByChance_7 ?_
    refine m_icmp_ge F e_X2_yearByChance_9 (fun q9 => ?_) (fun q9 => ?_)
    · have c9 : i ≥ 12 := (nI_leI (a := 12) (b := i) (by omega) (by omega)).mp q9
      refine m_lload_n F rfl e_X2_yearByChance_74 ?_
      exact m_lret F hQ e_X2_yearByChance_75 (⟨(h1.mono (M' := M + 108) (Z' := Z) (by omega) (by intro e; first | rfl | assumption | omega)), _, rfl⟩)
    · have c9 : i < 12 := by have hh := mt (nI_leI (a := 12) (b := i) (by omega) (by omega)).mpr q9; omega
      refine m_lload_n F rfl e_X2_yearByChance_12 ?_
      refine m_ldc2 F kc_X2_251 e_X2_yearByChance_13 ?_
      refine m_lmul F e_X2_yearByChance_16 ?_
      refine Wm.topl (fun x1965 _ => ?_)
      refine m_ldc2 F kc_X2_253 e_X2_yearByChance_17 ?_
      refine m_ladd F e_X2_yearByChance_20 ?_
      refine Wm.topl (fun x1966 _ => ?_)
      refine m_ldc2 F kc_X2_255 e_X2_yearByChance_21 ?_
      refine m_land F e_X2_yearByChance_24 ?_
      refine Wm.topl (fun x1967 _ => ?_)
      refine m_lstore_n F (lv' := [(3, .long x1967), (5, .int (nI i)), (0, .ref a), (1, .long x901)]) e_X2_yearByChance_25 (by decide) rfl ?_
      refine m_lload_n F rfl e_X2_yearByChance_26 ?_
      refine m_ldc2 F kc_X2_257 e_X2_yearByChance_27 ?_
      refine m_ldiv F (by decide) e_X2_yearByChance_30 ?_
      refine Wm.topl (fun x1968 _ => ?_)
      refine m_ldc2 F kc_X2_259 e_X2_yearByChance_31 ?_
      refine m_lrem F (by decide) e_X2_yearByChance_34 ?_
      refine Wm.topl (fun x1969 _ => ?_)
      refine m_l2i F e_X2_yearByChance_35 ?_
      refine Wm.top (fun x1970 _ => ?_)
      refine m_bipush F (v := 10) (by decide) e_X2_yearByChance_36 ?_
      refine m_isub F e_X2_yearByChance_38 ?_
      refine Wm.top (fun x1971 _ => ?_)
      refine m_istore F (lv' := [(6, .int x1971), (3, .long x1967), (5, .int (nI i)), (0, .ref a), (1, .long x901)]) e_X2_yearByChance_39 (by decide) rfl ?_
      refine m_aload_n F rfl e_X2_yearByChance_41 ?_
      refine m_sipush F (v := 500) (by decide) e_X2_yearByChance_42 ?_
      refine m_sipush F (v := 2000) (by decide) e_X2_yearByChance_45 ?_
      refine m_aload_n F rfl e_X2_yearByChance_48 ?_
      refine t_callV F e_X2_yearByChance_49 (s_X2_indexNow (x_l X) V G b (M + 9 * i) Z T _ _ a  h1.1 hk  (by omega)) cb_X2_indexNow ml_X2_153 im_X2_indexNow se_X2_indexNow (fun _ => o7) h1 hk rfl rfl (rest := [.int 2000, .int 500, .ref a]) rfl (Nat.le_of_ble_eq_true rfl) ⟨Nat.le_of_ble_eq_true rfl, Nat.le_of_ble_eq_true rfl⟩ ⟨Nat.le_of_ble_eq_true rfl, Nat.le_of_ble_eq_true rfl⟩ (fun r σ1972 hp => ?_)
      obtain ⟨h1974, x1975, rfl⟩ := hp
      have h1973 := HK.trans h1 h1974 (by decide)
      refine m_iload F rfl e_X2_yearByChance_52 ?_
      refine m_iadd F e_X2_yearByChance_54 ?_
      refine Wm.top (fun x1976 _ => ?_)
      refine m_min F e_X2_yearByChance_55 ml_X2_261 sm_min ini_math co_min (Nat.le_of_ble_eq_true rfl) (Nat.le_of_ble_eq_true rfl) (Nat.le_of_ble_eq_true rfl) (Nat.le_of_ble_eq_true rfl) ?_
      refine Wm.top (fun x1977 _ => ?_)
      refine m_max F e_X2_yearByChance_58 ml_X2_267 sm_max ini_math co_max (Nat.le_of_ble_eq_true rfl) (Nat.le_of_ble_eq_true rfl) (Nat.le_of_ble_eq_true rfl) (Nat.le_of_ble_eq_true rfl) ?_
      refine Wm.top (fun x1978 _ => ?_)
      refine t_callV F e_X2_yearByChance_61 (s_X2_changeIndex (x_l X) V G b (M + 9 * i) Z T _ _ a x1978 h1973.1 hk  (by omega)) cb_X2_changeIndex ml_X2_270 im_X2_changeIndex se_X2_changeIndex (fun _ => o7) h1973 hk rfl rfl (rest := []) rfl (Nat.le_of_ble_eq_true rfl) ⟨Nat.le_of_ble_eq_true rfl, Nat.le_of_ble_eq_true rfl⟩ ⟨Nat.le_of_ble_eq_true rfl, Nat.le_of_ble_eq_true rfl⟩ (fun r σ1979 hp => ?_)
      obtain ⟨h1981, rfl⟩ := hp
      have h1980 := HK.trans h1973 h1981 (by decide)
      refine m_aload_n F rfl e_X2_yearByChance_64 ?_
      refine t_callV F e_X2_yearByChance_65 (s_X2_periodGoesBy (x_l X) V G b (M + 9 * i) Z T _ _ a  h1980.1 hk  (by omega)) cb_X2_periodGoesBy ml_X2_273 im_X2_periodGoesBy se_X2_periodGoesBy (fun _ => o7) h1980 hk rfl rfl (rest := []) rfl (Nat.le_of_ble_eq_true rfl) ⟨Nat.le_of_ble_eq_true rfl, Nat.le_of_ble_eq_true rfl⟩ ⟨Nat.le_of_ble_eq_true rfl, Nat.le_of_ble_eq_true rfl⟩ (fun r σ1982 hp => ?_)
      obtain ⟨h1984, rfl⟩ := hp
      have h1983 := HK.trans h1980 h1984 (by decide)
      refine m_iinc F (v := nI (i + 1)) (lv' := [(5, .int (nI (i + 1))), (6, .int x1971), (3, .long x1967), (0, .ref a), (1, .long x901)]) e_X2_yearByChance_68 rfl (nI_add i 1) (by decide) rfl ?_
      refine m_goto F e_X2_yearByChance_71 ?_
      refine Wm.lvsub (lv' := [(3, .long x1967), (5, .int (nI (i + 1))), (0, .ref a), (1, .long x901)]) ?_ [2, 0, 3, 4] rfl
      exact ih x1967 (i + 1) _ (h1983.mono (M' := M + 9 * (i + 1)) (Z' := Z) (by omega) (by intro e9; first | exact e9 | rfl)) (by omega) (by omega)
set_option maxRecDepth 20000 in
theorem s_X2_yearByChance (l : Launch) (V : VX) (G : GH) (b M Z T N : Nat) (σ : Mem) (a : Nat) (x901 : Int64) (h0 : HT V G (b, M, Z, T) σ) (hk : kA b a = 7) (hM : M + 108 ≤ 1000000000) : Ct l V yX2_yearByChance cX2_yearByChance 7 (some .long) 6 0 0 N σ [.ref a, .long x901] (fun r τ => HK V G (b, M + 108, Z, T) [0, 1, 2, 3, 4, 5, 8, 9, 11, 16, 19] σ τ ∧ ∃ x : Int64, r = some (.long x)) := by
  refine Ct.of (by decide) (Nat.le_of_ble_eq_true rfl) [(0, .ref a), (1, .long x901)] rfl (fun X hX F hQ => ?_)
  have h1 : HK V G (b, M, Z, T) [0, 1, 2, 3, 4, 5, 8, 9, 11, 16, 19] σ σ := HK.start h0
  refine m_lload_n F rfl e_X2_yearByChance_0 ?_
  refine m_lstore_n F (lv' := [(3, .long x901), (0, .ref a), (1, .long x901)]) e_X2_yearByChance_1 (by decide) rfl ?_
  refine m_iconst F (v := 0) (by decide) e_X2_yearByChance_2 ?_
  refine m_istore F (lv' := [(5, .int 0), (3, .long x901), (0, .ref a), (1, .long x901)]) e_X2_yearByChance_3 (by decide) rfl ?_
  refine Wm.lvsub (lv' := [(3, .long x901), (5, .int 0), (0, .ref a), (1, .long x901)]) ?_ [1, 0, 2, 3] rfl
  exact lp_X2_yearByChance_5 F hQ hk hM (12 - 0 + 1) x901 0 _ (h1.mono (M' := M + 9 * 0) (Z' := Z) (by omega) (by intro e9; first | exact e9 | rfl)) (by omega) (Nat.lt_succ_self _)
