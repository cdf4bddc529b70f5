set_option maxRecDepth 20000 in
theorem lp_X5_worthFrom_26 {V : VX} {X : MX} {b M Z T N : Nat} {σ : Mem} {a : Nat} {x901 : Int32} {x902 : Int32} {r903 : Nat}  (F : Fx V X yX5_worthFrom cX5_worthFrom 7 none (rmd 2 0 0)) (hQ : Rt V X 0 0 N (fun r τ => HK V (b, M, Z, T) [0, 1, 2, 3, 4, 5, 7, 8, 9, 10, 11, 12, 13, 14, 15, 16, 17, 18, 19] σ τ ∧ r = none)) (hk : kA b a = 15) (k903 : kA b r903 = 6) (hM : M + 0 ≤ 1000000000)  : ∀ (fuel : Nat) (i1 : Int32) (u1 : Int64) (τ : Mem), HK V (b, M, Z, T) [0, 1, 2, 3, 4, 5, 7, 8, 9, 10, 11, 12, 13, 14, 15, 16, 17, 18, 19] σ τ → True → (i1.toInt + 1).toNat < fuel → Wm V X 7 N τ 0 0 26 [(6, .int i1), (0, .ref a), (1, .int x901), (2, .int x902), (3, .ref r903), (4, .long u1)] [] := by
  intro fuel
  induction fuel with
  | zero => intro i1 u1 τ h1 hi hm; exact absurd hm (Nat.not_lt_zero _)
  | succ fuel ih =>
    intro i1 u1 τ h1 hi hm
    refine m_iload F rfl e_X5_worthFrom_26 ?_
    refine m_iload_n F rfl e_X5_worthFrom_28 ?_
    refine m_icmp_lt F e_X5_worthFrom_29 (fun q29 => ?_) (fun q29 => ?_)
    · exact m_vret F hQ e_X5_worthFrom_86 (⟨h1, rfl⟩)
    · refine m_iload F rfl e_X5_worthFrom_32 ?_
      refine m_if_lt F e_X5_worthFrom_34 (fun q34 => ?_) (fun q34 => ?_)
      · exact m_vret F hQ e_X5_worthFrom_86 (⟨h1, rfl⟩)
      · obtain ⟨n1004, hn1004, rfl⟩ := nI_nn (x := i1) (fun e => q34 (Int32.lt_of_lt_of_le e (by decide)))
        have c34 : n1004 ≥ 0 := by have hh := mt (nI_ltI (a := n1004) (b := 0) (by omega) (by omega)).mpr q34; omega
        refine m_aload_n F rfl e_X5_worthFrom_37 ?_
        refine t_get F e_X5_worthFrom_38 fl_X5_70 (fun _ => o15) h1 hk rfl (fun v hv f1005 => ?_)
        obtain ⟨n1006, hn1006, rfl⟩ := hv
        replace hn1006 : n1006 ≤ 1 := hn1006
        refine m_if_ne F e_X5_worthFrom_41 (fun q41 => ?_) (fun q41 => ?_)
        · have c41 : n1006 ≠ 0 := by have hh := mt (nI_eq (a := n1006) (b := 0) (by omega) (by omega)).mpr q41; omega
          refine m_aload_n F rfl e_X5_worthFrom_54 ?_
          refine m_ldc2 F kc_X5_109 e_X5_worthFrom_55 ?_
          refine m_lload F rfl e_X5_worthFrom_58 ?_
          refine t_callV F e_X5_worthFrom_60 (s_X1_shareRounded (x_l X) V b M Z T _ _ r903 1000000 u1 h1.1 k903  (by omega)) cb_X1_shareRounded ml_X5_121 im_X1_shareRounded se_X1_shareRounded (fun _ => o6) h1 k903 rfl rfl (rest := []) rfl (Nat.le_of_ble_eq_true rfl) ⟨Nat.le_of_ble_eq_true rfl, Nat.le_of_ble_eq_true rfl⟩ ⟨Nat.le_of_ble_eq_true rfl, Nat.le_of_ble_eq_true rfl⟩ (fun r σ1007 hp => ?_)
          obtain ⟨h1009, rfl⟩ := hp
          have h1008 := HK.trans h1 h1009 (by decide)
          refine m_aload_n F rfl e_X5_worthFrom_63 ?_
          refine t_getC F e_X5_worthFrom_64 fl_X5_70 (fun _ => o15) h1008 hk ((fld_eq (h1009.2 a (by rw [show kA _ a = 15 from hk]; decide))).trans f1005) ?_
          refine m_if_eq F e_X5_worthFrom_67 (fun q67 => ?_) (fun q67 => ?_)
          · have c67 : n1006 = 0 := (nI_eq (a := n1006) (b := 0) (by omega) (by omega)).mp q67
            rcases Nat.eq_zero_or_pos (n1004) with e80 | e80
            · subst e80
              refine m_iinc F (v := -1) (lv' := [(6, .int (-1)), (0, .ref a), (1, .int x901), (2, .int x902), (3, .ref r903), (4, .long u1)]) e_X5_worthFrom_80 rfl (by decide) (by decide) rfl ?_
              refine m_goto F e_X5_worthFrom_83 ?_
              exact ih (-1) u1 _ h1008 trivial (by first | exact mdec0 hm | exact mdec (by omega) (by omega) hm)
            · refine m_iinc F (v := nI (n1004 - 1)) (lv' := [(6, .int (nI (n1004 - 1))), (0, .ref a), (1, .int x901), (2, .int x902), (3, .ref r903), (4, .long u1)]) e_X5_worthFrom_80 rfl (nI_dec (by omega)) (by decide) rfl ?_
              refine m_goto F e_X5_worthFrom_83 ?_
              exact ih (nI (n1004 - 1)) u1 _ h1008 trivial (by first | exact mdec0 hm | exact mdec (by omega) (by omega) hm)
          · have c67 : n1006 ≠ 0 := by have hh := mt (nI_eq (a := n1006) (b := 0) (by omega) (by omega)).mpr q67; omega
            refine m_aload_n F rfl e_X5_worthFrom_70 ?_
            refine t_get F e_X5_worthFrom_71 fl_X5_24 (fun _ => o15) h1008 hk rfl (fun v hv f1010 => ?_)
            obtain ⟨r1011, k1012, rfl⟩ := hv
            refine m_iload F rfl e_X5_worthFrom_74 ?_
            refine m_aload_n F rfl e_X5_worthFrom_76 ?_
            refine t_callV F e_X5_worthFrom_77 (s_X8_addTo (x_l X) V b M Z T _ _ r1011 (nI n1004) r903 h1008.1 k1012 k903 (by omega)) cb_X8_addTo ml_X5_117 im_X8_addTo se_X8_addTo (fun _ => o16) h1008 k1012 rfl rfl (rest := []) rfl (Nat.le_of_ble_eq_true rfl) ⟨Nat.le_of_ble_eq_true rfl, Nat.le_of_ble_eq_true rfl⟩ ⟨Nat.le_of_ble_eq_true rfl, Nat.le_of_ble_eq_true rfl⟩ (fun r σ1013 hp => ?_)
            obtain ⟨h1015, rfl⟩ := hp
            have h1014 := HK.trans h1008 h1015 (by decide)
            rcases Nat.eq_zero_or_pos (n1004) with e80 | e80
            · subst e80
              refine m_iinc F (v := -1) (lv' := [(6, .int (-1)), (0, .ref a), (1, .int x901), (2, .int x902), (3, .ref r903), (4, .long u1)]) e_X5_worthFrom_80 rfl (by decide) (by decide) rfl ?_
              refine m_goto F e_X5_worthFrom_83 ?_
              exact ih (-1) u1 _ h1014 trivial (by first | exact mdec0 hm | exact mdec (by omega) (by omega) hm)
            · refine m_iinc F (v := nI (n1004 - 1)) (lv' := [(6, .int (nI (n1004 - 1))), (0, .ref a), (1, .int x901), (2, .int x902), (3, .ref r903), (4, .long u1)]) e_X5_worthFrom_80 rfl (nI_dec (by omega)) (by decide) rfl ?_
              refine m_goto F e_X5_worthFrom_83 ?_
              exact ih (nI (n1004 - 1)) u1 _ h1014 trivial (by first | exact mdec0 hm | exact mdec (by omega) (by omega) hm)
        · have c41 : n1006 = 0 := (nI_eq (a := n1006) (b := 0) (by omega) (by omega)).mp q41
          refine m_aload_n F rfl e_X5_worthFrom_44 ?_
          refine t_get F e_X5_worthFrom_45 fl_X5_24 (fun _ => o15) h1 hk rfl (fun v hv f1016 => ?_)
          obtain ⟨r1017, k1018, rfl⟩ := hv
          refine m_iload F rfl e_X5_worthFrom_48 ?_
          refine m_aload_n F rfl e_X5_worthFrom_50 ?_
          refine t_callV F e_X5_worthFrom_51 (s_X8_addTo (x_l X) V b M Z T _ _ r1017 (nI n1004) r903 h1.1 k1018 k903 (by omega)) cb_X8_addTo ml_X5_117 im_X8_addTo se_X8_addTo (fun _ => o16) h1 k1018 rfl rfl (rest := []) rfl (Nat.le_of_ble_eq_true rfl) ⟨Nat.le_of_ble_eq_true rfl, Nat.le_of_ble_eq_true rfl⟩ ⟨Nat.le_of_ble_eq_true rfl, Nat.le_of_ble_eq_true rfl⟩ (fun r σ1019 hp => ?_)
          obtain ⟨h1021, rfl⟩ := hp
          have h1020 := HK.trans h1 h1021 (by decide)
          refine m_aload_n F rfl e_X5_worthFrom_54 ?_
          refine m_ldc2 F kc_X5_109 e_X5_worthFrom_55 ?_
          refine m_lload F rfl e_X5_worthFrom_58 ?_
          refine t_callV F e_X5_worthFrom_60 (s_X1_shareRounded (x_l X) V b M Z T _ _ r903 1000000 u1 h1020.1 k903  (by omega)) cb_X1_shareRounded ml_X5_121 im_X1_shareRounded se_X1_shareRounded (fun _ => o6) h1020 k903 rfl rfl (rest := []) rfl (Nat.le_of_ble_eq_true rfl) ⟨Nat.le_of_ble_eq_true rfl, Nat.le_of_ble_eq_true rfl⟩ ⟨Nat.le_of_ble_eq_true rfl, Nat.le_of_ble_eq_true rfl⟩ (fun r σ1022 hp => ?_)
          obtain ⟨h1024, rfl⟩ := hp
          have h1023 := HK.trans h1020 h1024 (by decide)
          refine m_aload_n F rfl e_X5_worthFrom_63 ?_
          refine t_getC F e_X5_worthFrom_64 fl_X5_70 (fun _ => o15) h1023 hk ((fld_eq (h1024.2 a (by rw [show kA _ a = 15 from hk]; decide))).trans ((fld_eq (h1021.2 a (by rw [show kA _ a = 15 from hk]; decide))).trans f1005)) ?_
          refine m_if_eq F e_X5_worthFrom_67 (fun q67 => ?_) (fun q67 => ?_)
          · have c67 : n1006 = 0 := (nI_eq (a := n1006) (b := 0) (by omega) (by omega)).mp q67
            rcases Nat.eq_zero_or_pos (n1004) with e80 | e80
            · subst e80
              refine m_iinc F (v := -1) (lv' := [(6, .int (-1)), (0, .ref a), (1, .int x901), (2, .int x902), (3, .ref r903), (4, .long u1)]) e_X5_worthFrom_80 rfl (by decide) (by decide) rfl ?_
              refine m_goto F e_X5_worthFrom_83 ?_
              exact ih (-1) u1 _ h1023 trivial (by first | exact mdec0 hm | exact mdec (by omega) (by omega) hm)
            · refine m_iinc F (v := nI (n1004 - 1)) (lv' := [(6, .int (nI (n1004 - 1))), (0, .ref a), (1, .int x901), (2, .int x902), (3, .ref r903), (4, .long u1)]) e_X5_worthFrom_80 rfl (nI_dec (by omega)) (by decide) rfl ?_
              refine m_goto F e_X5_worthFrom_83 ?_
              exact ih (nI (n1004 - 1)) u1 _ h1023 trivial (by first | exact mdec0 hm | exact mdec (by omega) (by omega) hm)
          · have c67 : n1006 ≠ 0 := by have hh := mt (nI_eq (a := n1006) (b := 0) (by omega) (by omega)).mpr q67; omega
            refine m_aload_n F rfl e_X5_worthFrom_70 ?_
            refine t_getC F e_X5_worthFrom_71 fl_X5_24 (fun _ => o15) h1023 hk ((fld_eq (h1024.2 a (by rw [show kA _ a = 15 from hk]; decide))).trans ((fld_eq (h1021.2 a (by rw [show kA _ a = 15 from hk]; decide))).trans f1016)) ?_
            refine m_iload F rfl e_X5_worthFrom_74 ?_
            refine m_aload_n F rfl e_X5_worthFrom_76 ?_
            refine t_callV F e_X5_worthFrom_77 (s_X8_addTo (x_l X) V b M Z T _ _ r1017 (nI n1004) r903 h1023.1 k1018 k903 (by omega)) cb_X8_addTo ml_X5_117 im_X8_addTo se_X8_addTo (fun _ => o16) h1023 k1018 rfl rfl (rest := []) rfl (Nat.le_of_ble_eq_true rfl) ⟨Nat.le_of_ble_eq_true rfl, Nat.le_of_ble_eq_true rfl⟩ ⟨Nat.le_of_ble_eq_true rfl, Nat.le_of_ble_eq_true rfl⟩ (fun r σ1025 hp => ?_)
            obtain ⟨h1027, rfl⟩ := hp
            have h1026 := HK.trans h1023 h1027 (by decide)
            rcases Nat.eq_zero_or_pos (n1004) with e80 | e80
            · subst e80
              refine m_iinc F (v := -1) (lv' := [(6, .int (-1)), (0, .ref a), (1, .int x901), (2, .int x902), (3, .ref r903), (4, .long u1)]) e_X5_worthFrom_80 rfl (by decide) (by decide) rfl ?_
              refine m_goto F e_X5_worthFrom_83 ?_
              exact ih (-1) u1 _ h1026 trivial (by first | exact mdec0 hm | exact mdec (by omega) (by omega) hm)
            · refine m_iinc F (v := nI (n1004 - 1)) (lv' := [(6, .int (nI (n1004 - 1))), (0, .ref a), (1, .int x901), (2, .int x902), (3, .ref r903), (4, .long u1)]) e_X5_worthFrom_80 rfl (nI_dec (by omega)) (by decide) rfl ?_
              refine m_goto F e_X5_worthFrom_83 ?_
              exact ih (nI (n1004 - 1)) u1 _ h1026 trivial (by first | exact mdec0 hm | exact mdec (by omega) (by omega) hm)
set_option maxRecDepth 20000 in
theorem s_X5_worthFrom (l : Launch) (V : VX) (b M Z T N : Nat) (σ : Mem) (a : Nat) (x901 : Int32) (x902 : Int32) (r903 : Nat) (h0 : HT V (b, M, Z, T) σ) (hk : kA b a = 15) (k903 : kA b r903 = 6) (hM : M + 0 ≤ 1000000000) : Ct l V yX5_worthFrom cX5_worthFrom 7 none 2 0 0 N σ [.ref a, .int x901, .int x902, .ref r903] (fun r τ => HK V (b, M, Z, T) [0, 1, 2, 3, 4, 5, 7, 8, 9, 10, 11, 12, 13, 14, 15, 16, 17, 18, 19] σ τ ∧ r = none) := by
  refine Ct.of (by decide) (Nat.le_of_ble_eq_true rfl) [(0, .ref a), (1, .int x901), (2, .int x902), (3, .ref r903)] rfl (fun X hX F hQ => ?_)
  have h1 : HK V (b, M, Z, T) [0, 1, 2, 3, 4, 5, 7, 8, 9, 10, 11, 12, 13, 14, 15, 16, 17, 18, 19] σ σ := HK.start h0
  refine m_ldc2 F kc_X5_109 e_X5_worthFrom_0 ?_
  refine m_iload_n F rfl e_X5_worthFrom_3 ?_
  refine m_i2l F e_X5_worthFrom_4 ?_
  refine Wm.topl (fun x1028 _ => ?_)
  refine m_ladd F e_X5_worthFrom_5 ?_
  refine Wm.topl (fun x1029 _ => ?_)
  refine m_lstore F (lv' := [(4, .long x1029), (0, .ref a), (1, .int x901), (2, .int x902), (3, .ref r903)]) e_X5_worthFrom_6 (by decide) rfl ?_
  refine m_aload_n F rfl e_X5_worthFrom_8 ?_
  refine m_lconst F (v := 0) (by decide) e_X5_worthFrom_9 ?_
  refine t_callV F e_X5_worthFrom_10 (s_X1_set (x_l X) V b M Z T _ _ r903 0 h1.1 k903  (by omega)) cb_X1_set ml_X5_76 im_X1_set se_X1_set (fun _ => o6) h1 k903 rfl rfl (rest := []) rfl (Nat.le_of_ble_eq_true rfl) ⟨Nat.le_of_ble_eq_true rfl, Nat.le_of_ble_eq_true rfl⟩ ⟨Nat.le_of_ble_eq_true rfl, Nat.le_of_ble_eq_true rfl⟩ (fun r σ1030 hp => ?_)
  obtain ⟨h1032, rfl⟩ := hp
  have h1031 := HK.trans h1 h1032 (by decide)
  refine m_aload_n F rfl e_X5_worthFrom_13 ?_
  refine t_get F e_X5_worthFrom_14 fl_X5_42 (fun _ => o15) h1031 hk rfl (fun v hv f1033 => ?_)
  obtain ⟨x1034, rfl⟩ := hv
  refine m_bipush F (v := 72) (by decide) e_X5_worthFrom_17 ?_
  refine m_min F e_X5_worthFrom_19 ml_X5_111 sm_min ini_math co_min (Nat.le_of_ble_eq_true rfl) (Nat.le_of_ble_eq_true rfl) (Nat.le_of_ble_eq_true rfl) (Nat.le_of_ble_eq_true rfl) ?_
  refine Wm.top (fun x1035 _ => ?_)
  refine m_iconst F (v := 1) (by decide) e_X5_worthFrom_22 ?_
  refine m_isub F e_X5_worthFrom_23 ?_
  refine Wm.top (fun x1036 _ => ?_)
  refine m_istore F (lv' := [(6, .int x1036), (4, .long x1029), (0, .ref a), (1, .int x901), (2, .int x902), (3, .ref r903)]) e_X5_worthFrom_24 (by decide) rfl ?_
  refine Wm.lvsub (lv' := [(6, .int x1036), (0, .ref a), (1, .int x901), (2, .int x902), (3, .ref r903), (4, .long x1029)]) ?_ [0, 2, 3, 4, 5, 1] rfl
  exact lp_X5_worthFrom_26 F hQ hk k903 hM ((x1036.toInt + 1).toNat + 1) x1036 x1029 _ h1031 trivial (Nat.lt_succ_self _)
set_option maxRecDepth 20000 in
theorem s_X5_worthLeft (l : Launch) (V : VX) (b M Z T N : Nat) (σ : Mem) (a : Nat) (r901 : Nat) (h0 : HT V (b, M, Z, T) σ) (hk : kA b a = 15) (k901 : kA b r901 = 6) (hM : M + 0 ≤ 1000000000) : Ct l V yX5_worthLeft cX5_worthLeft 2 none 3 0 0 N σ [.ref a, .ref r901] (fun r τ => HK V (b, M, Z, T) [0, 1, 2, 3, 4, 5, 7, 8, 9, 10, 11, 12, 13, 14, 15, 16, 17, 18, 19] σ τ ∧ r = none) := by
  refine Ct.of (by decide) (Nat.le_of_ble_eq_true rfl) [(0, .ref a), (1, .ref r901)] rfl (fun X hX F hQ => ?_)
  have h1 : HK V (b, M, Z, T) [0, 1, 2, 3, 4, 5, 7, 8, 9, 10, 11, 12, 13, 14, 15, 16, 17, 18, 19] σ σ := HK.start h0
  refine m_aload_n F rfl e_X5_worthLeft_0 ?_
  refine m_aload_n F rfl e_X5_worthLeft_1 ?_
  refine t_get F e_X5_worthLeft_2 fl_X5_60 (fun _ => o15) h1 hk rfl (fun v hv f1037 => ?_)
  obtain ⟨x1038, rfl⟩ := hv
  refine m_aload_n F rfl e_X5_worthLeft_5 ?_
  refine t_get F e_X5_worthLeft_6 fl_X5_45 (fun _ => o15) h1 hk rfl (fun v hv f1039 => ?_)
  obtain ⟨x1040, rfl⟩ := hv
  refine m_aload_n F rfl e_X5_worthLeft_9 ?_
  refine t_callV F e_X5_worthLeft_10 (s_X5_worthFrom (x_l X) V b M Z T _ _ a x1038 x1040 r901 h1.1 hk k901 (by omega)) cb_X5_worthFrom ml_X5_105 im_X5_worthFrom se_X5_worthFrom (fun _ => o15) h1 hk rfl rfl (rest := []) rfl (Nat.le_of_ble_eq_true rfl) ⟨Nat.le_of_ble_eq_true rfl, Nat.le_of_ble_eq_true rfl⟩ ⟨Nat.le_of_ble_eq_true rfl, Nat.le_of_ble_eq_true rfl⟩ (fun r σ1041 hp => ?_)
  obtain ⟨h1043, rfl⟩ := hp
  have h1042 := HK.trans h1 h1043 (by decide)
  exact m_vret F hQ e_X5_worthLeft_13 (⟨h1042, rfl⟩)
set_option maxRecDepth 20000 in
theorem lp_X5_greatestRate_30 {V : VX} {X : MX} {b M Z T N : Nat} {σ : Mem} {a : Nat} {x901 : Int32} {x902 : Int64} {r903 : Nat}  (F : Fx V X yX5_greatestRate cX5_greatestRate 9 (some .int) (rmd 3 0 0)) (hQ : Rt V X 0 0 N (fun r τ => HK V (b, M, Z, T) [0, 1, 2, 3, 4, 5, 7, 8, 9, 10, 11, 12, 13, 14, 15, 16, 17, 18, 19] σ τ ∧ ∃ x : Int32, r = some (.int x))) (hk : kA b a = 15) (k903 : kA b r903 = 6) (hM : M + 0 ≤ 1000000000)  : ∀ (fuel : Nat) (u1 : Int32) (u2 : Int32) (i : Nat) (τ : Mem), HK V (b, M, Z, T) [0, 1, 2, 3, 4, 5, 7, 8, 9, 10, 11, 12, 13, 14, 15, 16, 17, 18, 19] σ τ → i ≤ 32 → 32 - i < fuel → Wm V X 9 N τ 0 0 30 [(5, .int u1), (6, .int u2), (7, .int (nI i)), (0, .ref a), (1, .int x901), (2, .long x902), (4, .ref r903)] [] := by
  intro fuel
  induction fuel with
  | zero => intro u1 u2 i τ h1 hi hm; exact absurd hm (Nat.not_lt_zero _)
  | succ fuel ih =>
    intro u1 u2 i τ h1 hi hm
    refine m_iload F rfl e_X5_greatestRate_30 ?_
    refine m_bipush F (v := 32) (by decide) e_X5_greatestRate_32 ?_
    refine m_icmp_ge F e_X5_greatestRate_34 (fun q34 => ?_) (fun q34 => ?_)
    · have c34 : i ≥ 32 := (nI_leI (a := 32) (b := i) (by omega) (by omega)).mp q34
      refine m_iload F rfl e_X5_greatestRate_92 ?_
      exact m_iret F hQ e_X5_greatestRate_94 (⟨h1, _, rfl⟩)
    · have c34 : i < 32 := by have hh := mt (nI_leI (a := 32) (b := i) (by omega) (by omega)).mpr q34; omega
      refine m_iload F rfl e_X5_greatestRate_37 ?_
      refine m_iload F rfl e_X5_greatestRate_39 ?_
      refine m_icmp_ge F e_X5_greatestRate_41 (fun q41 => ?_) (fun q41 => ?_)
      · refine m_iload F rfl e_X5_greatestRate_92 ?_
        exact m_iret F hQ e_X5_greatestRate_94 (⟨h1, _, rfl⟩)
      · refine m_iload F rfl e_X5_greatestRate_44 ?_
        refine m_iload F rfl e_X5_greatestRate_46 ?_
        refine m_iadd F e_X5_greatestRate_48 ?_
        refine Wm.top (fun x1044 _ => ?_)
        refine m_iconst F (v := 1) (by decide) e_X5_greatestRate_49 ?_
        refine m_iadd F e_X5_greatestRate_50 ?_
        refine Wm.top (fun x1045 _ => ?_)
        refine m_iconst F (v := 2) (by decide) e_X5_greatestRate_51 ?_
        refine m_idiv F (by decide) e_X5_greatestRate_52 ?_
        refine Wm.top (fun x1046 _ => ?_)
        refine m_istore F (lv' := [(8, .int x1046), (5, .int u1), (6, .int u2), (7, .int (nI i)), (0, .ref a), (1, .int x901), (2, .long x902), (4, .ref r903)]) e_X5_greatestRate_53 (by decide) rfl ?_
        refine m_aload_n F rfl e_X5_greatestRate_55 ?_
        refine m_iload_n F rfl e_X5_greatestRate_56 ?_
        refine m_iload F rfl e_X5_greatestRate_57 ?_
        refine m_aload F rfl e_X5_greatestRate_59 ?_
        refine t_callV F e_X5_greatestRate_61 (s_X5_worthFrom (x_l X) V b M Z T _ _ a x901 x1046 r903 h1.1 hk k903 (by omega)) cb_X5_worthFrom ml_X5_105 im_X5_worthFrom se_X5_worthFrom (fun _ => o15) h1 hk rfl rfl (rest := []) rfl (Nat.le_of_ble_eq_true rfl) ⟨Nat.le_of_ble_eq_true rfl, Nat.le_of_ble_eq_true rfl⟩ ⟨Nat.le_of_ble_eq_true rfl, Nat.le_of_ble_eq_true rfl⟩ (fun r σ1047 hp => ?_)
        obtain ⟨h1049, rfl⟩ := hp
        have h1048 := HK.trans h1 h1049 (by decide)
        refine m_aload F rfl e_X5_greatestRate_64 ?_
        refine m_lload_n F rfl e_X5_greatestRate_66 ?_
        refine t_callV F e_X5_greatestRate_67 (s_X1_isAtLeast (x_l X) V b M Z T _ _ r903 x902 h1048.1 k903  (by omega)) cb_X1_isAtLeast ml_X5_125 im_X1_isAtLeast se_X1_isAtLeast (fun _ => o6) h1048 k903 rfl rfl (rest := []) rfl (Nat.le_of_ble_eq_true rfl) ⟨Nat.le_of_ble_eq_true rfl, Nat.le_of_ble_eq_true rfl⟩ ⟨Nat.le_of_ble_eq_true rfl, Nat.le_of_ble_eq_true rfl⟩ (fun r σ1050 hp => ?_)
        obtain ⟨h1052, n1053, hn1053, rfl⟩ := hp
        have h1051 := HK.trans h1048 h1052 (by decide)
        refine m_if_eq F e_X5_greatestRate_70 (fun q70 => ?_) (fun q70 => ?_)
        · have c70 : n1053 = 0 := (nI_eq (a := n1053) (b := 0) (by omega) (by omega)).mp q70
          refine m_iload F rfl e_X5_greatestRate_80 ?_
          refine m_iconst F (v := 1) (by decide) e_X5_greatestRate_82 ?_
          refine m_isub F e_X5_greatestRate_83 ?_
          refine Wm.top (fun x1054 _ => ?_)
          refine m_istore F (lv' := [(6, .int x1054), (8, .int x1046), (5, .int u1), (7, .int (nI i)), (0, .ref a), (1, .int x901), (2, .long x902), (4, .ref r903)]) e_X5_greatestRate_84 (by decide) rfl ?_
          refine m_iinc F (v := nI (i + 1)) (lv' := [(7, .int (nI (i + 1))), (6, .int x1054), (8, .int x1046), (5, .int u1), (0, .ref a), (1, .int x901), (2, .long x902), (4, .ref r903)]) e_X5_greatestRate_86 rfl (nI_add i 1) (by decide) rfl ?_
          refine m_goto F e_X5_greatestRate_89 ?_
          refine Wm.lvsub (lv' := [(5, .int u1), (6, .int x1054), (7, .int (nI (i + 1))), (0, .ref a), (1, .int x901), (2, .long x902), (4, .ref r903)]) ?_ [3, 1, 0, 4, 5, 6, 7] rfl
          exact ih u1 x1054 (i + 1) _ h1051 (by omega) (by omega)
        · have c70 : n1053 ≠ 0 := by have hh := mt (nI_eq (a := n1053) (b := 0) (by omega) (by omega)).mpr q70; omega
          refine m_iload F rfl e_X5_greatestRate_73 ?_
          refine m_istore F (lv' := [(5, .int x1046), (8, .int x1046), (6, .int u2), (7, .int (nI i)), (0, .ref a), (1, .int x901), (2, .long x902), (4, .ref r903)]) e_X5_greatestRate_75 (by decide) rfl ?_
          refine m_goto F e_X5_greatestRate_77 ?_
          refine m_iinc F (v := nI (i + 1)) (lv' := [(7, .int (nI (i + 1))), (5, .int x1046), (8, .int x1046), (6, .int u2), (0, .ref a), (1, .int x901), (2, .long x902), (4, .ref r903)]) e_X5_greatestRate_86 rfl (nI_add i 1) (by decide) rfl ?_
          refine m_goto F e_X5_greatestRate_89 ?_
          refine Wm.lvsub (lv' := [(5, .int x1046), (6, .int u2), (7, .int (nI (i + 1))), (0, .ref a), (1, .int x901), (2, .long x902), (4, .ref r903)]) ?_ [1, 3, 0, 4, 5, 6, 7] rfl
          exact ih x1046 u2 (i + 1) _ h1051 (by omega) (by omega)
set_option maxRecDepth 20000 in
theorem s_X5_greatestRate (l : Launch) (V : VX) (b M Z T N : Nat) (σ : Mem) (a : Nat) (x901 : Int32) (x902 : Int64) (r903 : Nat) (h0 : HT V (b, M, Z, T) σ) (hk : kA b a = 15) (k903 : kA b r903 = 6) (hM : M + 0 ≤ 1000000000) : Ct l V yX5_greatestRate cX5_greatestRate 9 (some .int) 3 0 0 N σ [.ref a, .int x901, .long x902, .ref r903] (fun r τ => HK V (b, M, Z, T) [0, 1, 2, 3, 4, 5, 7, 8, 9, 10, 11, 12, 13, 14, 15, 16, 17, 18, 19] σ τ ∧ ∃ x : Int32, r = some (.int x)) := by
  refine Ct.of (by decide) (Nat.le_of_ble_eq_true rfl) [(0, .ref a), (1, .int x901), (2, .long x902), (4, .ref r903)] rfl (fun X hX F hQ => ?_)
  have h1 : HK V (b, M, Z, T) [0, 1, 2, 3, 4, 5, 7, 8, 9, 10, 11, 12, 13, 14, 15, 16, 17, 18, 19] σ σ := HK.start h0
  refine m_aload_n F rfl e_X5_greatestRate_0 ?_
  refine m_iload_n F rfl e_X5_greatestRate_1 ?_
  refine m_iconst F (v := 0) (by decide) e_X5_greatestRate_2 ?_
  refine m_aload F rfl e_X5_greatestRate_3 ?_
  refine t_callV F e_X5_greatestRate_5 (s_X5_worthFrom (x_l X) V b M Z T _ _ a x901 0 r903 h1.1 hk k903 (by omega)) cb_X5_worthFrom ml_X5_105 im_X5_worthFrom se_X5_worthFrom (fun _ => o15) h1 hk rfl rfl (rest := []) rfl (Nat.le_of_ble_eq_true rfl) ⟨Nat.le_of_ble_eq_true rfl, Nat.le_of_ble_eq_true rfl⟩ ⟨Nat.le_of_ble_eq_true rfl, Nat.le_of_ble_eq_true rfl⟩ (fun r σ1055 hp => ?_)
  obtain ⟨h1057, rfl⟩ := hp
  have h1056 := HK.trans h1 h1057 (by decide)
  refine m_aload F rfl e_X5_greatestRate_8 ?_
  refine m_lload_n F rfl e_X5_greatestRate_10 ?_
  refine t_callV F e_X5_greatestRate_11 (s_X1_isAtLeast (x_l X) V b M Z T _ _ r903 x902 h1056.1 k903  (by omega)) cb_X1_isAtLeast ml_X5_125 im_X1_isAtLeast se_X1_isAtLeast (fun _ => o6) h1056 k903 rfl rfl (rest := []) rfl (Nat.le_of_ble_eq_true rfl) ⟨Nat.le_of_ble_eq_true rfl, Nat.le_of_ble_eq_true rfl⟩ ⟨Nat.le_of_ble_eq_true rfl, Nat.le_of_ble_eq_true rfl⟩ (fun r σ1058 hp => ?_)
  obtain ⟨h1060, n1061, hn1061, rfl⟩ := hp
  have h1059 := HK.trans h1056 h1060 (by decide)
  refine m_if_ne F e_X5_greatestRate_14 (fun q14 => ?_) (fun q14 => ?_)
  · have c14 : n1061 ≠ 0 := by have hh := mt (nI_eq (a := n1061) (b := 0) (by omega) (by omega)).mpr q14; omega
    refine m_iconst F (v := 0) (by decide) e_X5_greatestRate_20 ?_
    refine m_istore F (lv' := [(5, .int 0), (0, .ref a), (1, .int x901), (2, .long x902), (4, .ref r903)]) e_X5_greatestRate_21 (by decide) rfl ?_
    refine m_ldc F kc_X5_129 e_X5_greatestRate_23 ?_
    refine m_istore F (lv' := [(6, .int 200000), (5, .int 0), (0, .ref a), (1, .int x901), (2, .long x902), (4, .ref r903)]) e_X5_greatestRate_25 (by decide) rfl ?_
    refine m_iconst F (v := 0) (by decide) e_X5_greatestRate_27 ?_
    refine m_istore F (lv' := [(7, .int 0), (6, .int 200000), (5, .int 0), (0, .ref a), (1, .int x901), (2, .long x902), (4, .ref r903)]) e_X5_greatestRate_28 (by decide) rfl ?_
    refine Wm.lvsub (lv' := [(5, .int 0), (6, .int 200000), (7, .int 0), (0, .ref a), (1, .int x901), (2, .long x902), (4, .ref r903)]) ?_ [2, 1, 0, 3, 4, 5, 6] rfl
    exact lp_X5_greatestRate_30 F hQ hk k903 hM (32 - 0 + 1) 0 200000 0 _ h1059 (by omega) (Nat.lt_succ_self _)
  · have c14 : n1061 = 0 := (nI_eq (a := n1061) (b := 0) (by omega) (by omega)).mp q14
    refine m_bipush F (v := (-2)) (by decide) e_X5_greatestRate_17 ?_
    exact m_iret F hQ e_X5_greatestRate_19 (⟨h1059, _, rfl⟩)
set_option maxRecDepth 20000 in
theorem s_X5_worthOfLevel (l : Launch) (V : VX) (b M Z T N : Nat) (σ : Mem) (a : Nat) (x901 : Int32) (r902 : Nat) (h0 : HT V (b, M, Z, T) σ) (hk : kA b a = 15) (k902 : kA b r902 = 6) (hM : M + 0 ≤ 1000000000) : Ct l V yX5_worthOfLevel cX5_worthOfLevel 3 none 4 0 0 N σ [.ref a, .int x901, .ref r902] (fun r τ => HK V (b, M, Z, T) [0, 1, 2, 3, 4, 5, 7, 8, 9, 10, 11, 12, 13, 14, 15, 16, 18, 19] σ τ ∧ r = none) := by
  refine Ct.of (by decide) (Nat.le_of_ble_eq_true rfl) [(0, .ref a), (1, .int x901), (2, .ref r902)] rfl (fun X hX F hQ => ?_)
  have h1 : HK V (b, M, Z, T) [0, 1, 2, 3, 4, 5, 7, 8, 9, 10, 11, 12, 13, 14, 15, 16, 18, 19] σ σ := HK.start h0
  refine m_aload_n F rfl e_X5_worthOfLevel_0 ?_
  refine t_get F e_X5_worthOfLevel_1 fl_X5_24 (fun _ => o15) h1 hk rfl (fun v hv f1062 => ?_)
  obtain ⟨r1063, k1064, rfl⟩ := hv
  refine m_aload_n F rfl e_X5_worthOfLevel_4 ?_
  refine t_get F e_X5_worthOfLevel_5 fl_X5_42 (fun _ => o15) h1 hk rfl (fun v hv f1065 => ?_)
  obtain ⟨x1066, rfl⟩ := hv
  refine m_iload_n F rfl e_X5_worthOfLevel_8 ?_
  refine m_i2l F e_X5_worthOfLevel_9 ?_
  refine Wm.topl (fun x1067 _ => ?_)
  refine t_callV F e_X5_worthOfLevel_10 (s_X8_fill (x_l X) V b M Z T _ _ r1063 x1066 x1067 h1.1 k1064  (by omega)) cb_X8_fill ml_X5_80 im_X8_fill se_X8_fill (fun _ => o16) h1 k1064 rfl rfl (rest := []) rfl (Nat.le_of_ble_eq_true rfl) ⟨Nat.le_of_ble_eq_true rfl, Nat.le_of_ble_eq_true rfl⟩ ⟨Nat.le_of_ble_eq_true rfl, Nat.le_of_ble_eq_true rfl⟩ (fun r σ1068 hp => ?_)
  obtain ⟨h1070, rfl⟩ := hp
  have h1069 := HK.trans h1 h1070 (by decide)
  refine m_aload_n F rfl e_X5_worthOfLevel_13 ?_
  refine m_iconst F (v := 0) (by decide) e_X5_worthOfLevel_14 ?_
  refine m_aload_n F rfl e_X5_worthOfLevel_15 ?_
  refine t_get F e_X5_worthOfLevel_16 fl_X5_45 (fun _ => o15) h1069 hk rfl (fun v hv f1071 => ?_)
  obtain ⟨x1072, rfl⟩ := hv
  refine m_aload_n F rfl e_X5_worthOfLevel_19 ?_
  refine t_callV F e_X5_worthOfLevel_20 (s_X5_worthFrom (x_l X) V b M Z T _ _ a 0 x1072 r902 h1069.1 hk k902 (by omega)) cb_X5_worthFrom ml_X5_105 im_X5_worthFrom se_X5_worthFrom (fun _ => o15) h1069 hk rfl rfl (rest := []) rfl (Nat.le_of_ble_eq_true rfl) ⟨Nat.le_of_ble_eq_true rfl, Nat.le_of_ble_eq_true rfl⟩ ⟨Nat.le_of_ble_eq_true rfl, Nat.le_of_ble_eq_true rfl⟩ (fun r σ1073 hp => ?_)
  obtain ⟨h1075, rfl⟩ := hp
  have h1074 := HK.trans h1069 h1075 (by decide)
  exact m_vret F hQ e_X5_worthOfLevel_23 (⟨h1074, rfl⟩)
set_option maxRecDepth 20000 in
theorem lp_X5_leastLevel_28 {V : VX} {X : MX} {b M Z T N : Nat} {σ : Mem} {a : Nat} {x901 : Int64} {r902 : Nat}  (F : Fx V X yX5_leastLevel cX5_leastLevel 8 (some .int) (rmd 5 0 0)) (hQ : Rt V X 0 0 N (fun r τ => HK V (b, M, Z, T) [0, 1, 2, 3, 4, 5, 7, 8, 9, 10, 11, 12, 13, 14, 15, 16, 18, 19] σ τ ∧ ∃ x : Int32, r = some (.int x))) (hk : kA b a = 15) (k902 : kA b r902 = 6) (hM : M + 0 ≤ 1000000000)  : ∀ (fuel : Nat) (u1 : Int32) (u2 : Int32) (i : Nat) (τ : Mem), HK V (b, M, Z, T) [0, 1, 2, 3, 4, 5, 7, 8, 9, 10, 11, 12, 13, 14, 15, 16, 18, 19] σ τ → i ≤ 32 → 32 - i < fuel → Wm V X 8 N τ 0 0 28 [(4, .int u1), (5, .int u2), (6, .int (nI i)), (0, .ref a), (1, .long x901), (3, .ref r902)] [] := by
  intro fuel
  induction fuel with
  | zero => intro u1 u2 i τ h1 hi hm; exact absurd hm (Nat.not_lt_zero _)
  | succ fuel ih =>
    intro u1 u2 i τ h1 hi hm
    refine m_iload F rfl e_X5_leastLevel_28 ?_
    refine m_bipush F (v := 32) (by decide) e_X5_leastLevel_30 ?_
    refine m_icmp_ge F e_X5_leastLevel_32 (fun q32 => ?_) (fun q32 => ?_)
    · have c32 : i ≥ 32 := (nI_leI (a := 32) (b := i) (by omega) (by omega)).mp q32
      refine m_iload F rfl e_X5_leastLevel_85 ?_
      exact m_iret F hQ e_X5_leastLevel_87 (⟨h1, _, rfl⟩)
    · have c32 : i < 32 := by have hh := mt (nI_leI (a := 32) (b := i) (by omega) (by omega)).mpr q32; omega
      refine m_iload F rfl e_X5_leastLevel_35 ?_
      refine m_iload F rfl e_X5_leastLevel_37 ?_
      refine m_icmp_ge F e_X5_leastLevel_39 (fun q39 => ?_) (fun q39 => ?_)
      · refine m_iload F rfl e_X5_leastLevel_85 ?_
        exact m_iret F hQ e_X5_leastLevel_87 (⟨h1, _, rfl⟩)
      · refine m_iload F rfl e_X5_leastLevel_42 ?_
        refine m_iload F rfl e_X5_leastLevel_44 ?_
        refine m_iadd F e_X5_leastLevel_46 ?_
        refine Wm.top (fun x1076 _ => ?_)
        refine m_iconst F (v := 2) (by decide) e_X5_leastLevel_47 ?_
        refine m_idiv F (by decide) e_X5_leastLevel_48 ?_
        refine Wm.top (fun x1077 _ => ?_)
        refine m_istore F (lv' := [(7, .int x1077), (4, .int u1), (5, .int u2), (6, .int (nI i)), (0, .ref a), (1, .long x901), (3, .ref r902)]) e_X5_leastLevel_49 (by decide) rfl ?_
        refine m_aload_n F rfl e_X5_leastLevel_51 ?_
        refine m_iload F rfl e_X5_leastLevel_52 ?_
        refine m_aload_n F rfl e_X5_leastLevel_54 ?_
        refine t_callV F e_X5_leastLevel_55 (s_X5_worthOfLevel (x_l X) V b M Z T _ _ a x1077 r902 h1.1 hk k902 (by omega)) cb_X5_worthOfLevel ml_X5_131 im_X5_worthOfLevel se_X5_worthOfLevel (fun _ => o15) h1 hk rfl rfl (rest := []) rfl (Nat.le_of_ble_eq_true rfl) ⟨Nat.le_of_ble_eq_true rfl, Nat.le_of_ble_eq_true rfl⟩ ⟨Nat.le_of_ble_eq_true rfl, Nat.le_of_ble_eq_true rfl⟩ (fun r σ1078 hp => ?_)
        obtain ⟨h1080, rfl⟩ := hp
        have h1079 := HK.trans h1 h1080 (by decide)
        refine m_aload_n F rfl e_X5_leastLevel_58 ?_
        refine m_lload_n F rfl e_X5_leastLevel_59 ?_
        refine t_callV F e_X5_leastLevel_60 (s_X1_isAtLeast (x_l X) V b M Z T _ _ r902 x901 h1079.1 k902  (by omega)) cb_X1_isAtLeast ml_X5_125 im_X1_isAtLeast se_X1_isAtLeast (fun _ => o6) h1079 k902 rfl rfl (rest := []) rfl (Nat.le_of_ble_eq_true rfl) ⟨Nat.le_of_ble_eq_true rfl, Nat.le_of_ble_eq_true rfl⟩ ⟨Nat.le_of_ble_eq_true rfl, Nat.le_of_ble_eq_true rfl⟩ (fun r σ1081 hp => ?_)
        obtain ⟨h1083, n1084, hn1084, rfl⟩ := hp
        have h1082 := HK.trans h1079 h1083 (by decide)
        refine m_if_eq F e_X5_leastLevel_63 (fun q63 => ?_) (fun q63 => ?_)
        · have c63 : n1084 = 0 := (nI_eq (a := n1084) (b := 0) (by omega) (by omega)).mp q63
          refine m_iload F rfl e_X5_leastLevel_73 ?_
          refine m_iconst F (v := 1) (by decide) e_X5_leastLevel_75 ?_
          refine m_iadd F e_X5_leastLevel_76 ?_
          refine Wm.top (fun x1085 _ => ?_)
          refine m_istore F (lv' := [(4, .int x1085), (7, .int x1077), (5, .int u2), (6, .int (nI i)), (0, .ref a), (1, .long x901), (3, .ref r902)]) e_X5_leastLevel_77 (by decide) rfl ?_
          refine m_iinc F (v := nI (i + 1)) (lv' := [(6, .int (nI (i + 1))), (4, .int x1085), (7, .int x1077), (5, .int u2), (0, .ref a), (1, .long x901), (3, .ref r902)]) e_X5_leastLevel_79 rfl (nI_add i 1) (by decide) rfl ?_
          refine m_goto F e_X5_leastLevel_82 ?_
          refine Wm.lvsub (lv' := [(4, .int x1085), (5, .int u2), (6, .int (nI (i + 1))), (0, .ref a), (1, .long x901), (3, .ref r902)]) ?_ [1, 3, 0, 4, 5, 6] rfl
          exact ih x1085 u2 (i + 1) _ h1082 (by omega) (by omega)
        · have c63 : n1084 ≠ 0 := by have hh := mt (nI_eq (a := n1084) (b := 0) (by omega) (by omega)).mpr q63; omega
          refine m_iload F rfl e_X5_leastLevel_66 ?_
          refine m_istore F (lv' := [(5, .int x1077), (7, .int x1077), (4, .int u1), (6, .int (nI i)), (0, .ref a), (1, .long x901), (3, .ref r902)]) e_X5_leastLevel_68 (by decide) rfl ?_
          refine m_goto F e_X5_leastLevel_70 ?_
          refine m_iinc F (v := nI (i + 1)) (lv' := [(6, .int (nI (i + 1))), (5, .int x1077), (7, .int x1077), (4, .int u1), (0, .ref a), (1, .long x901), (3, .ref r902)]) e_X5_leastLevel_79 rfl (nI_add i 1) (by decide) rfl ?_
          refine m_goto F e_X5_leastLevel_82 ?_
          refine Wm.lvsub (lv' := [(4, .int u1), (5, .int x1077), (6, .int (nI (i + 1))), (0, .ref a), (1, .long x901), (3, .ref r902)]) ?_ [3, 1, 0, 4, 5, 6] rfl
          exact ih u1 x1077 (i + 1) _ h1082 (by omega) (by omega)
set_option maxRecDepth 20000 in
theorem s_X5_leastLevel (l : Launch) (V : VX) (b M Z T N : Nat) (σ : Mem) (a : Nat) (x901 : Int64) (r902 : Nat) (h0 : HT V (b, M, Z, T) σ) (hk : kA b a = 15) (k902 : kA b r902 = 6) (hM : M + 0 ≤ 1000000000) : Ct l V yX5_leastLevel cX5_leastLevel 8 (some .int) 5 0 0 N σ [.ref a, .long x901, .ref r902] (fun r τ => HK V (b, M, Z, T) [0, 1, 2, 3, 4, 5, 7, 8, 9, 10, 11, 12, 13, 14, 15, 16, 18, 19] σ τ ∧ ∃ x : Int32, r = some (.int x)) := by
  refine Ct.of (by decide) (Nat.le_of_ble_eq_true rfl) [(0, .ref a), (1, .long x901), (3, .ref r902)] rfl (fun X hX F hQ => ?_)
  have h1 : HK V (b, M, Z, T) [0, 1, 2, 3, 4, 5, 7, 8, 9, 10, 11, 12, 13, 14, 15, 16, 18, 19] σ σ := HK.start h0
  refine m_aload_n F rfl e_X5_leastLevel_0 ?_
  refine m_ldc F kc_X5_130 e_X5_leastLevel_1 ?_
  refine m_aload_n F rfl e_X5_leastLevel_3 ?_
  refine t_callV F e_X5_leastLevel_4 (s_X5_worthOfLevel (x_l X) V b M Z T _ _ a 9999999 r902 h1.1 hk k902 (by omega)) cb_X5_worthOfLevel ml_X5_131 im_X5_worthOfLevel se_X5_worthOfLevel (fun _ => o15) h1 hk rfl rfl (rest := []) rfl (Nat.le_of_ble_eq_true rfl) ⟨Nat.le_of_ble_eq_true rfl, Nat.le_of_ble_eq_true rfl⟩ ⟨Nat.le_of_ble_eq_true rfl, Nat.le_of_ble_eq_true rfl⟩ (fun r σ1086 hp => ?_)
  obtain ⟨h1088, rfl⟩ := hp
  have h1087 := HK.trans h1 h1088 (by decide)
  refine m_aload_n F rfl e_X5_leastLevel_7 ?_
  refine m_lload_n F rfl e_X5_leastLevel_8 ?_
  refine t_callV F e_X5_leastLevel_9 (s_X1_isAtLeast (x_l X) V b M Z T _ _ r902 x901 h1087.1 k902  (by omega)) cb_X1_isAtLeast ml_X5_125 im_X1_isAtLeast se_X1_isAtLeast (fun _ => o6) h1087 k902 rfl rfl (rest := []) rfl (Nat.le_of_ble_eq_true rfl) ⟨Nat.le_of_ble_eq_true rfl, Nat.le_of_ble_eq_true rfl⟩ ⟨Nat.le_of_ble_eq_true rfl, Nat.le_of_ble_eq_true rfl⟩ (fun r σ1089 hp => ?_)
  obtain ⟨h1091, n1092, hn1092, rfl⟩ := hp
  have h1090 := HK.trans h1087 h1091 (by decide)
  refine m_if_ne F e_X5_leastLevel_12 (fun q12 => ?_) (fun q12 => ?_)
  · have c12 : n1092 ≠ 0 := by have hh := mt (nI_eq (a := n1092) (b := 0) (by omega) (by omega)).mpr q12; omega
    refine m_iconst F (v := 0) (by decide) e_X5_leastLevel_18 ?_
    refine m_istore F (lv' := [(4, .int 0), (0, .ref a), (1, .long x901), (3, .ref r902)]) e_X5_leastLevel_19 (by decide) rfl ?_
    refine m_ldc F kc_X5_130 e_X5_leastLevel_21 ?_
    refine m_istore F (lv' := [(5, .int 9999999), (4, .int 0), (0, .ref a), (1, .long x901), (3, .ref r902)]) e_X5_leastLevel_23 (by decide) rfl ?_
    refine m_iconst F (v := 0) (by decide) e_X5_leastLevel_25 ?_
    refine m_istore F (lv' := [(6, .int 0), (5, .int 9999999), (4, .int 0), (0, .ref a), (1, .long x901), (3, .ref r902)]) e_X5_leastLevel_26 (by decide) rfl ?_
    refine Wm.lvsub (lv' := [(4, .int 0), (5, .int 9999999), (6, .int 0), (0, .ref a), (1, .long x901), (3, .ref r902)]) ?_ [2, 1, 0, 3, 4, 5] rfl
    exact lp_X5_leastLevel_28 F hQ hk k902 hM (32 - 0 + 1) 0 9999999 0 _ h1090 (by omega) (Nat.lt_succ_self _)
  · have c12 : n1092 = 0 := (nI_eq (a := n1092) (b := 0) (by omega) (by omega)).mp q12
    refine m_bipush F (v := (-2)) (by decide) e_X5_leastLevel_15 ?_
    exact m_iret F hQ e_X5_leastLevel_17 (⟨h1090, _, rfl⟩)
set_option maxRecDepth 20000 in
theorem s_X5_followIndex (l : Launch) (V : VX) (b M Z T N : Nat) (σ : Mem) (a : Nat) (x901 : Int32) (h0 : HT V (b, M, Z, T) σ) (hk : kA b a = 15) (hM : M + 0 ≤ 1000000000) : Ct l V yX5_followIndex cX5_followIndex 2 none 3 0 0 N σ [.ref a, .int x901] (fun r τ => HK V (b, M, Z, T) [0, 1, 2, 3, 4, 5, 7, 8, 9, 10, 11, 12, 13, 14, 16, 18, 19] σ τ ∧ r = none) := by
  refine Ct.of (by decide) (Nat.le_of_ble_eq_true rfl) [(0, .ref a), (1, .int x901)] rfl (fun X hX F hQ => ?_)
  have h1 : HK V (b, M, Z, T) [0, 1, 2, 3, 4, 5, 7, 8, 9, 10, 11, 12, 13, 14, 16, 18, 19] σ σ := HK.start h0
  refine m_aload_n F rfl e_X5_followIndex_0 ?_
  refine m_iload_n F rfl e_X5_followIndex_1 ?_
  refine t_put F e_X5_followIndex_2 fp_X5_57 (fun _ => o15) h1 hk rfl ⟨_, rfl⟩ rfl rfl (by decide) (fun σ1093 h1094 g1095 g1096 f1097 => ?_)
  refine m_aload_n F rfl e_X5_followIndex_5 ?_
  refine t_get F e_X5_followIndex_6 fl_X5_24 (fun _ => o15) h1094 hk rfl (fun v hv f1098 => ?_)
  obtain ⟨r1099, k1100, rfl⟩ := hv
  refine m_aload_n F rfl e_X5_followIndex_9 ?_
  refine t_get F e_X5_followIndex_10 fl_X5_28 (fun _ => o15) h1094 hk rfl (fun v hv f1101 => ?_)
  obtain ⟨r1102, k1103, rfl⟩ := hv
  refine m_aload_n F rfl e_X5_followIndex_13 ?_
  refine t_get F e_X5_followIndex_14 fl_X5_60 (fun _ => o15) h1094 hk rfl (fun v hv f1104 => ?_)
  obtain ⟨x1105, rfl⟩ := hv
  refine m_aload_n F rfl e_X5_followIndex_17 ?_
  refine t_get F e_X5_followIndex_18 fl_X5_42 (fun _ => o15) h1094 hk rfl (fun v hv f1106 => ?_)
  obtain ⟨x1107, rfl⟩ := hv
  refine m_iload_n F rfl e_X5_followIndex_21 ?_
  refine m_i2l F e_X5_followIndex_22 ?_
  refine Wm.topl (fun x1108 _ => ?_)
  refine m_aload_n F rfl e_X5_followIndex_23 ?_
  refine t_get F e_X5_followIndex_24 fl_X5_54 (fun _ => o15) h1094 hk rfl (fun v hv f1109 => ?_)
  obtain ⟨x1110, rfl⟩ := hv
  refine m_i2l F e_X5_followIndex_27 ?_
  refine Wm.topl (fun x1111 _ => ?_)
  refine t_callV F e_X5_followIndex_28 (s_X8_shareDownOf (x_l X) V b M Z T _ _ r1099 r1102 x1105 x1107 x1108 x1111 h1094.1 k1100 k1103 (by omega)) cb_X8_shareDownOf ml_X5_134 im_X8_shareDownOf se_X8_shareDownOf (fun _ => o16) h1094 k1100 rfl rfl (rest := []) rfl (Nat.le_of_ble_eq_true rfl) ⟨Nat.le_of_ble_eq_true rfl, Nat.le_of_ble_eq_true rfl⟩ ⟨Nat.le_of_ble_eq_true rfl, Nat.le_of_ble_eq_true rfl⟩ (fun r σ1112 hp => ?_)
  obtain ⟨h1114, rfl⟩ := hp
  have h1113 := HK.trans h1094 h1114 (by decide)
  exact m_vret F hQ e_X5_followIndex_31 (⟨h1113, rfl⟩)
set_option maxRecDepth 20000 in
theorem lp_X5_goOnAsLast_2 {V : VX} {X : MX} {b M Z T N : Nat} {σ : Mem} {a : Nat} {n901 : Nat}  (F : Fx V X yX5_goOnAsLast cX5_goOnAsLast 3 none (rmd 2 0 0)) (hQ : Rt V X 0 0 N (fun r τ => HK V (b, M, Z, T) [0, 1, 2, 3, 4, 5, 7, 8, 9, 10, 11, 12, 13, 14, 16, 18, 19] σ τ ∧ r = none)) (hk : kA b a = 15) (hn901 : n901 ≤ 24) (hM : M + 0 ≤ 1000000000)  : ∀ (fuel : Nat) (i : Nat) (τ : Mem), HK V (b, M, Z, T) [0, 1, 2, 3, 4, 5, 7, 8, 9, 10, 11, 12, 13, 14, 16, 18, 19] σ τ → i ≤ 24 → 24 - i < fuel → Wm V X 3 N τ 0 0 2 [(2, .int (nI i)), (0, .ref a), (1, .int (nI n901))] [] := by
  intro fuel
  induction fuel with
  | zero => intro i τ h1 hi hm; exact absurd hm (Nat.not_lt_zero _)
  | succ fuel ih =>
    intro i τ h1 hi hm
    refine m_iload_n F rfl e_X5_goOnAsLast_2 ?_
    refine m_iload_n F rfl e_X5_goOnAsLast_3 ?_
    refine m_icmp_ge F e_X5_goOnAsLast_4 (fun q4 => ?_) (fun q4 => ?_)
    · have c4 : i ≥ n901 := (nI_leI (a := n901) (b := i) (by omega) (by omega)).mp q4
      exact m_vret F hQ e_X5_goOnAsLast_69 (⟨h1, rfl⟩)
    · have c4 : i < n901 := by have hh := mt (nI_leI (a := n901) (b := i) (by omega) (by omega)).mpr q4; omega
      refine m_aload_n F rfl e_X5_goOnAsLast_7 ?_
      refine m_aload_n F rfl e_X5_goOnAsLast_8 ?_
      refine t_get F e_X5_goOnAsLast_9 fl_X5_42 (fun _ => o15) h1 hk rfl (fun v hv f1115 => ?_)
      obtain ⟨x1116, rfl⟩ := hv
      refine t_callV F e_X5_goOnAsLast_12 (s_X5_owns (x_l X) V b M Z T _ _ a x1116 h1.1 hk  (by omega)) cb_X5_owns ml_X5_138 im_X5_owns se_X5_owns (fun _ => o15) h1 hk rfl rfl (rest := []) rfl (Nat.le_of_ble_eq_true rfl) ⟨Nat.le_of_ble_eq_true rfl, Nat.le_of_ble_eq_true rfl⟩ ⟨Nat.le_of_ble_eq_true rfl, Nat.le_of_ble_eq_true rfl⟩ (fun r σ1117 hp => ?_)
      obtain ⟨h1119, n1120, hn1120, rfl⟩ := hp
      have h1118 := HK.trans h1 h1119 (by decide)
      refine m_if_eq F e_X5_goOnAsLast_15 (fun q15 => ?_) (fun q15 => ?_)
      · have c15 : n1120 = 0 := (nI_eq (a := n1120) (b := 0) (by omega) (by omega)).mp q15
        exact m_vret F hQ e_X5_goOnAsLast_69 (⟨h1118, rfl⟩)
      · have c15 : n1120 ≠ 0 := by have hh := mt (nI_eq (a := n1120) (b := 0) (by omega) (by omega)).mpr q15; omega
        refine m_aload_n F rfl e_X5_goOnAsLast_18 ?_
        refine t_getC F e_X5_goOnAsLast_19 fl_X5_42 (fun _ => o15) h1118 hk ((fld_eq (h1119.2 a (by rw [show kA _ a = 15 from hk]; decide))).trans f1115) ?_
        refine m_bipush F (v := 72) (by decide) e_X5_goOnAsLast_22 ?_
        refine m_icmp_ge F e_X5_goOnAsLast_24 (fun q24 => ?_) (fun q24 => ?_)
        · obtain ⟨n1121, hn1121, rfl⟩ := nI_nn (x := x1116) (fun e => Int32.lt_irrefl (Int32.lt_of_lt_of_le e (Int32.le_trans (by decide) q24)))
          have c24 : n1121 ≥ 72 := (nI_leI (a := 72) (b := n1121) (by omega) (by omega)).mp q24
          exact m_vret F hQ e_X5_goOnAsLast_69 (⟨h1118, rfl⟩)
        · refine m_aload_n F rfl e_X5_goOnAsLast_27 ?_
          refine t_get F e_X5_goOnAsLast_28 fl_X5_24 (fun _ => o15) h1118 hk rfl (fun v hv f1122 => ?_)
          obtain ⟨r1123, k1124, rfl⟩ := hv
          refine m_aload_n F rfl e_X5_goOnAsLast_31 ?_
          refine t_getC F e_X5_goOnAsLast_32 fl_X5_42 (fun _ => o15) h1118 hk ((fld_eq (h1119.2 a (by rw [show kA _ a = 15 from hk]; decide))).trans f1115) ?_
          refine m_iconst F (v := 1) (by decide) e_X5_goOnAsLast_35 ?_
          refine m_isub F e_X5_goOnAsLast_36 ?_
          refine Wm.top (fun x1125 _ => ?_)
          refine t_callV F e_X5_goOnAsLast_37 (s_X8_repeat (x_l X) V b M Z T _ _ r1123 x1125 h1118.1 k1124  (by omega)) cb_X8_repeat ml_X5_142 im_X8_repeat se_X8_repeat (fun _ => o16) h1118 k1124 rfl rfl (rest := []) rfl (Nat.le_of_ble_eq_true rfl) ⟨Nat.le_of_ble_eq_true rfl, Nat.le_of_ble_eq_true rfl⟩ ⟨Nat.le_of_ble_eq_true rfl, Nat.le_of_ble_eq_true rfl⟩ (fun r σ1126 hp => ?_)
          obtain ⟨h1128, rfl⟩ := hp
          have h1127 := HK.trans h1118 h1128 (by decide)
          refine m_aload_n F rfl e_X5_goOnAsLast_40 ?_
          refine t_get F e_X5_goOnAsLast_41 fl_X5_28 (fun _ => o15) h1127 hk rfl (fun v hv f1129 => ?_)
          obtain ⟨r1130, k1131, rfl⟩ := hv
          refine m_aload_n F rfl e_X5_goOnAsLast_44 ?_
          refine t_getC F e_X5_goOnAsLast_45 fl_X5_42 (fun _ => o15) h1127 hk ((fld_eq (h1128.2 a (by rw [show kA _ a = 15 from hk]; decide))).trans ((fld_eq (h1119.2 a (by rw [show kA _ a = 15 from hk]; decide))).trans f1115)) ?_
          refine m_iconst F (v := 1) (by decide) e_X5_goOnAsLast_48 ?_
          refine m_isub F e_X5_goOnAsLast_49 ?_
          refine Wm.top (fun x1132 _ => ?_)
          refine t_callV F e_X5_goOnAsLast_50 (s_X8_repeat (x_l X) V b M Z T _ _ r1130 x1132 h1127.1 k1131  (by omega)) cb_X8_repeat ml_X5_142 im_X8_repeat se_X8_repeat (fun _ => o16) h1127 k1131 rfl rfl (rest := []) rfl (Nat.le_of_ble_eq_true rfl) ⟨Nat.le_of_ble_eq_true rfl, Nat.le_of_ble_eq_true rfl⟩ ⟨Nat.le_of_ble_eq_true rfl, Nat.le_of_ble_eq_true rfl⟩ (fun r σ1133 hp => ?_)
          obtain ⟨h1135, rfl⟩ := hp
          have h1134 := HK.trans h1127 h1135 (by decide)
          refine m_aload_n F rfl e_X5_goOnAsLast_53 ?_
          refine m_dup F rfl e_X5_goOnAsLast_54 ?_
          refine t_getC F e_X5_goOnAsLast_55 fl_X5_42 (fun _ => o15) h1134 hk ((fld_eq (h1135.2 a (by rw [show kA _ a = 15 from hk]; decide))).trans ((fld_eq (h1128.2 a (by rw [show kA _ a = 15 from hk]; decide))).trans ((fld_eq (h1119.2 a (by rw [show kA _ a = 15 from hk]; decide))).trans f1115))) ?_
          refine m_iconst F (v := 1) (by decide) e_X5_goOnAsLast_58 ?_
          refine m_iadd F e_X5_goOnAsLast_59 ?_
          refine Wm.top (fun x1136 _ => ?_)
          refine t_put F e_X5_goOnAsLast_60 fp_X5_42 (fun _ => o15) h1134 hk rfl ⟨_, rfl⟩ rfl rfl (by decide) (fun σ1137 h1138 g1139 g1140 f1141 => ?_)
          refine m_iinc F (v := nI (i + 1)) (lv' := [(2, .int (nI (i + 1))), (0, .ref a), (1, .int (nI n901))]) e_X5_goOnAsLast_63 rfl (nI_add i 1) (by decide) rfl ?_
          refine m_goto F e_X5_goOnAsLast_66 ?_
          exact ih (i + 1) _ h1138 (by omega) (by omega)
set_option maxRecDepth 20000 in
theorem s_X5_goOnAsLast (l : Launch) (V : VX) (b M Z T N : Nat) (σ : Mem) (a : Nat) (n901 : Nat) (h0 : HT V (b, M, Z, T) σ) (hk : kA b a = 15) (hn901 : n901 ≤ 24) (hM : M + 0 ≤ 1000000000) : Ct l V yX5_goOnAsLast cX5_goOnAsLast 3 none 2 0 0 N σ [.ref a, .int (nI n901)] (fun r τ => HK V (b, M, Z, T) [0, 1, 2, 3, 4, 5, 7, 8, 9, 10, 11, 12, 13, 14, 16, 18, 19] σ τ ∧ r = none) := by
  refine Ct.of (by decide) (Nat.le_of_ble_eq_true rfl) [(0, .ref a), (1, .int (nI n901))] rfl (fun X hX F hQ => ?_)
  have h1 : HK V (b, M, Z, T) [0, 1, 2, 3, 4, 5, 7, 8, 9, 10, 11, 12, 13, 14, 16, 18, 19] σ σ := HK.start h0
  refine m_iconst F (v := 0) (by decide) e_X5_goOnAsLast_0 ?_
  refine m_istore_n F (lv' := [(2, .int 0), (0, .ref a), (1, .int (nI n901))]) e_X5_goOnAsLast_1 (by decide) rfl ?_
  exact lp_X5_goOnAsLast_2 F hQ hk hn901 hM (24 - 0 + 1) 0 _ h1 (by omega) (Nat.lt_succ_self _)
set_option maxRecDepth 20000 in
theorem lp_X5_goOn_3 {V : VX} {X : MX} {b M Z T N : Nat} {σ : Mem} {a : Nat} {n901 : Nat} {x902 : Int64}  (F : Fx V X yX5_goOn cX5_goOn 5 none (rmd 2 0 0)) (hQ : Rt V X 0 0 N (fun r τ => HK V (b, M, Z, T) [0, 1, 2, 3, 4, 5, 7, 8, 9, 10, 11, 12, 13, 14, 16, 18, 19] σ τ ∧ r = none)) (hk : kA b a = 15) (hn901 : n901 ≤ 24) (hM : M + 0 ≤ 1000000000)  : ∀ (fuel : Nat) (i : Nat) (τ : Mem), HK V (b, M, Z, T) [0, 1, 2, 3, 4, 5, 7, 8, 9, 10, 11, 12, 13, 14, 16, 18, 19] σ τ → i ≤ 24 → 24 - i < fuel → Wm V X 5 N τ 0 0 3 [(4, .int (nI i)), (0, .ref a), (1, .int (nI n901)), (2, .long x902)] [] := by
  intro fuel
  induction fuel with
  | zero => intro i τ h1 hi hm; exact absurd hm (Nat.not_lt_zero _)
  | succ fuel ih =>
    intro i τ h1 hi hm
    refine m_iload F rfl e_X5_goOn_3 ?_
    refine m_iload_n F rfl e_X5_goOn_5 ?_
    refine m_icmp_ge F e_X5_goOn_6 (fun q6 => ?_) (fun q6 => ?_)
    · have c6 : i ≥ n901 := (nI_leI (a := n901) (b := i) (by omega) (by omega)).mp q6
      exact m_vret F hQ e_X5_goOn_58 (⟨h1, rfl⟩)
    · have c6 : i < n901 := by have hh := mt (nI_leI (a := n901) (b := i) (by omega) (by omega)).mpr q6; omega
      refine m_aload_n F rfl e_X5_goOn_9 ?_
      refine t_get F e_X5_goOn_10 fl_X5_42 (fun _ => o15) h1 hk rfl (fun v hv f1142 => ?_)
      obtain ⟨x1143, rfl⟩ := hv
      refine m_bipush F (v := 72) (by decide) e_X5_goOn_13 ?_
      refine m_icmp_ge F e_X5_goOn_15 (fun q15 => ?_) (fun q15 => ?_)
      · obtain ⟨n1144, hn1144, rfl⟩ := nI_nn (x := x1143) (fun e => Int32.lt_irrefl (Int32.lt_of_lt_of_le e (Int32.le_trans (by decide) q15)))
        have c15 : n1144 ≥ 72 := (nI_leI (a := 72) (b := n1144) (by omega) (by omega)).mp q15
        exact m_vret F hQ e_X5_goOn_58 (⟨h1, rfl⟩)
      · refine m_aload_n F rfl e_X5_goOn_18 ?_
        refine t_get F e_X5_goOn_19 fl_X5_24 (fun _ => o15) h1 hk rfl (fun v hv f1145 => ?_)
        obtain ⟨r1146, k1147, rfl⟩ := hv
        refine m_aload_n F rfl e_X5_goOn_22 ?_
        refine t_getC F e_X5_goOn_23 fl_X5_42 (fun _ => o15) h1 hk (f1142) ?_
        refine m_lload_n F rfl e_X5_goOn_26 ?_
        refine t_callV F e_X5_goOn_27 (s_X8_setAt (x_l X) V b M Z T _ _ r1146 x1143 x902 h1.1 k1147  (by omega)) cb_X8_setAt ml_X5_146 im_X8_setAt se_X8_setAt (fun _ => o16) h1 k1147 rfl rfl (rest := []) rfl (Nat.le_of_ble_eq_true rfl) ⟨Nat.le_of_ble_eq_true rfl, Nat.le_of_ble_eq_true rfl⟩ ⟨Nat.le_of_ble_eq_true rfl, Nat.le_of_ble_eq_true rfl⟩ (fun r σ1148 hp => ?_)
        obtain ⟨h1150, rfl⟩ := hp
        have h1149 := HK.trans h1 h1150 (by decide)
        refine m_aload_n F rfl e_X5_goOn_30 ?_
        refine t_get F e_X5_goOn_31 fl_X5_28 (fun _ => o15) h1149 hk rfl (fun v hv f1151 => ?_)
        obtain ⟨r1152, k1153, rfl⟩ := hv
        refine m_aload_n F rfl e_X5_goOn_34 ?_
        refine t_getC F e_X5_goOn_35 fl_X5_42 (fun _ => o15) h1149 hk ((fld_eq (h1150.2 a (by rw [show kA _ a = 15 from hk]; decide))).trans f1142) ?_
        refine m_lload_n F rfl e_X5_goOn_38 ?_
        refine t_callV F e_X5_goOn_39 (s_X8_setAt (x_l X) V b M Z T _ _ r1152 x1143 x902 h1149.1 k1153  (by omega)) cb_X8_setAt ml_X5_146 im_X8_setAt se_X8_setAt (fun _ => o16) h1149 k1153 rfl rfl (rest := []) rfl (Nat.le_of_ble_eq_true rfl) ⟨Nat.le_of_ble_eq_true rfl, Nat.le_of_ble_eq_true rfl⟩ ⟨Nat.le_of_ble_eq_true rfl, Nat.le_of_ble_eq_true rfl⟩ (fun r σ1154 hp => ?_)
        obtain ⟨h1156, rfl⟩ := hp
        have h1155 := HK.trans h1149 h1156 (by decide)
        refine m_aload_n F rfl e_X5_goOn_42 ?_
        refine m_dup F rfl e_X5_goOn_43 ?_
        refine t_getC F e_X5_goOn_44 fl_X5_42 (fun _ => o15) h1155 hk ((fld_eq (h1156.2 a (by rw [show kA _ a = 15 from hk]; decide))).trans ((fld_eq (h1150.2 a (by rw [show kA _ a = 15 from hk]; decide))).trans f1142)) ?_
        refine m_iconst F (v := 1) (by decide) e_X5_goOn_47 ?_
        refine m_iadd F e_X5_goOn_48 ?_
        refine Wm.top (fun x1157 _ => ?_)
        refine t_put F e_X5_goOn_49 fp_X5_42 (fun _ => o15) h1155 hk rfl ⟨_, rfl⟩ rfl rfl (by decide) (fun σ1158 h1159 g1160 g1161 f1162 => ?_)
        refine m_iinc F (v := nI (i + 1)) (lv' := [(4, .int (nI (i + 1))), (0, .ref a), (1, .int (nI n901)), (2, .long x902)]) e_X5_goOn_52 rfl (nI_add i 1) (by decide) rfl ?_
        refine m_goto F e_X5_goOn_55 ?_
        exact ih (i + 1) _ h1159 (by omega) (by omega)
set_option maxRecDepth 20000 in
theorem s_X5_goOn (l : Launch) (V : VX) (b M Z T N : Nat) (σ : Mem) (a : Nat) (n901 : Nat) (x902 : Int64) (h0 : HT V (b, M, Z, T) σ) (hk : kA b a = 15) (hn901 : n901 ≤ 24) (hM : M + 0 ≤ 1000000000) : Ct l V yX5_goOn cX5_goOn 5 none 2 0 0 N σ [.ref a, .int (nI n901), .long x902] (fun r τ => HK V (b, M, Z, T) [0, 1, 2, 3, 4, 5, 7, 8, 9, 10, 11, 12, 13, 14, 16, 18, 19] σ τ ∧ r = none) := by
  refine Ct.of (by decide) (Nat.le_of_ble_eq_true rfl) [(0, .ref a), (1, .int (nI n901)), (2, .long x902)] rfl (fun X hX F hQ => ?_)
  have h1 : HK V (b, M, Z, T) [0, 1, 2, 3, 4, 5, 7, 8, 9, 10, 11, 12, 13, 14, 16, 18, 19] σ σ := HK.start h0
  refine m_iconst F (v := 0) (by decide) e_X5_goOn_0 ?_
  refine m_istore F (lv' := [(4, .int 0), (0, .ref a), (1, .int (nI n901)), (2, .long x902)]) e_X5_goOn_1 (by decide) rfl ?_
  exact lp_X5_goOn_3 F hQ hk hn901 hM (24 - 0 + 1) 0 _ h1 (by omega) (Nat.lt_succ_self _)
set_option maxRecDepth 20000 in
theorem s_X5_keepPart (l : Launch) (V : VX) (b M Z T N : Nat) (σ : Mem) (a : Nat) (x901 : Int64) (h0 : HT V (b, M, Z, T) σ) (hk : kA b a = 15) (hM : M + 0 ≤ 1000000000) : Ct l V yX5_keepPart cX5_keepPart 3 none 3 0 0 N σ [.ref a, .long x901] (fun r τ => HK V (b, M, Z, T) [0, 1, 2, 3, 4, 5, 7, 8, 9, 10, 11, 12, 13, 14, 15, 16, 18, 19] σ τ ∧ r = none) := by
  refine Ct.of (by decide) (Nat.le_of_ble_eq_true rfl) [(0, .ref a), (1, .long x901)] rfl (fun X hX F hQ => ?_)
  have h1 : HK V (b, M, Z, T) [0, 1, 2, 3, 4, 5, 7, 8, 9, 10, 11, 12, 13, 14, 15, 16, 18, 19] σ σ := HK.start h0
  refine m_aload_n F rfl e_X5_keepPart_0 ?_
  refine t_get F e_X5_keepPart_1 fl_X5_24 (fun _ => o15) h1 hk rfl (fun v hv f1163 => ?_)
  obtain ⟨r1164, k1165, rfl⟩ := hv
  refine m_aload_n F rfl e_X5_keepPart_4 ?_
  refine t_getC F e_X5_keepPart_5 fl_X5_24 (fun _ => o15) h1 hk (f1163) ?_
  refine m_aload_n F rfl e_X5_keepPart_8 ?_
  refine t_get F e_X5_keepPart_9 fl_X5_60 (fun _ => o15) h1 hk rfl (fun v hv f1166 => ?_)
  obtain ⟨x1167, rfl⟩ := hv
  refine m_aload_n F rfl e_X5_keepPart_12 ?_
  refine t_get F e_X5_keepPart_13 fl_X5_42 (fun _ => o15) h1 hk rfl (fun v hv f1168 => ?_)
  obtain ⟨x1169, rfl⟩ := hv
  refine m_lload_n F rfl e_X5_keepPart_16 ?_
  refine m_ldc2 F kc_X5_149 e_X5_keepPart_17 ?_
  refine t_callV F e_X5_keepPart_20 (s_X8_shareDownOf (x_l X) V b M Z T _ _ r1164 r1164 x1167 x1169 x901 1000 h1.1 k1165 k1165 (by omega)) cb_X8_shareDownOf ml_X5_134 im_X8_shareDownOf se_X8_shareDownOf (fun _ => o16) h1 k1165 rfl rfl (rest := []) rfl (Nat.le_of_ble_eq_true rfl) ⟨Nat.le_of_ble_eq_true rfl, Nat.le_of_ble_eq_true rfl⟩ ⟨Nat.le_of_ble_eq_true rfl, Nat.le_of_ble_eq_true rfl⟩ (fun r σ1170 hp => ?_)
  obtain ⟨h1172, rfl⟩ := hp
  have h1171 := HK.trans h1 h1172 (by decide)
  refine m_aload_n F rfl e_X5_keepPart_23 ?_
  refine t_get F e_X5_keepPart_24 fl_X5_28 (fun _ => o15) h1171 hk rfl (fun v hv f1173 => ?_)
  obtain ⟨r1174, k1175, rfl⟩ := hv
  refine m_aload_n F rfl e_X5_keepPart_27 ?_
  refine t_getC F e_X5_keepPart_28 fl_X5_28 (fun _ => o15) h1171 hk (f1173) ?_
  refine m_aload_n F rfl e_X5_keepPart_31 ?_
  refine t_getC F e_X5_keepPart_32 fl_X5_60 (fun _ => o15) h1171 hk ((fld_eq (h1172.2 a (by rw [show kA _ a = 15 from hk]; decide))).trans f1166) ?_
  refine m_aload_n F rfl e_X5_keepPart_35 ?_
  refine t_getC F e_X5_keepPart_36 fl_X5_42 (fun _ => o15) h1171 hk ((fld_eq (h1172.2 a (by rw [show kA _ a = 15 from hk]; decide))).trans f1168) ?_
  refine m_lload_n F rfl e_X5_keepPart_39 ?_
  refine m_ldc2 F kc_X5_149 e_X5_keepPart_40 ?_
  refine t_callV F e_X5_keepPart_43 (s_X8_shareDownOf (x_l X) V b M Z T _ _ r1174 r1174 x1167 x1169 x901 1000 h1171.1 k1175 k1175 (by omega)) cb_X8_shareDownOf ml_X5_134 im_X8_shareDownOf se_X8_shareDownOf (fun _ => o16) h1171 k1175 rfl rfl (rest := []) rfl (Nat.le_of_ble_eq_true rfl) ⟨Nat.le_of_ble_eq_true rfl, Nat.le_of_ble_eq_true rfl⟩ ⟨Nat.le_of_ble_eq_true rfl, Nat.le_of_ble_eq_true rfl⟩ (fun r σ1176 hp => ?_)
  obtain ⟨h1178, rfl⟩ := hp
  have h1177 := HK.trans h1171 h1178 (by decide)
  exact m_vret F hQ e_X5_keepPart_46 (⟨h1177, rfl⟩)
set_option maxRecDepth 20000 in
theorem s_X5_movePayment (l : Launch) (V : VX) (b M Z T N : Nat) (σ : Mem) (a : Nat) (x901 : Int32) (x902 : Int32) (h0 : HT V (b, M, Z, T) σ) (hk : kA b a = 15) (hM : M + 0 ≤ 1000000000) : Ct l V yX5_movePayment cX5_movePayment 3 none 3 0 0 N σ [.ref a, .int x901, .int x902] (fun r τ => HK V (b, M, Z, T) [0, 1, 2, 3, 4, 5, 7, 8, 9, 10, 11, 12, 13, 14, 15, 16, 18, 19] σ τ ∧ r = none) := by
  refine Ct.of (by decide) (Nat.le_of_ble_eq_true rfl) [(0, .ref a), (1, .int x901), (2, .int x902)] rfl (fun X hX F hQ => ?_)
  have h1 : HK V (b, M, Z, T) [0, 1, 2, 3, 4, 5, 7, 8, 9, 10, 11, 12, 13, 14, 15, 16, 18, 19] σ σ := HK.start h0
  refine m_aload_n F rfl e_X5_movePayment_0 ?_
  refine t_get F e_X5_movePayment_1 fl_X5_24 (fun _ => o15) h1 hk rfl (fun v hv f1179 => ?_)
  obtain ⟨r1180, k1181, rfl⟩ := hv
  refine m_iload_n F rfl e_X5_movePayment_4 ?_
  refine m_iload_n F rfl e_X5_movePayment_5 ?_
  refine t_callV F e_X5_movePayment_6 (s_X8_move (x_l X) V b M Z T _ _ r1180 x901 x902 h1.1 k1181  (by omega)) cb_X8_move ml_X5_151 im_X8_move se_X8_move (fun _ => o16) h1 k1181 rfl rfl (rest := []) rfl (Nat.le_of_ble_eq_true rfl) ⟨Nat.le_of_ble_eq_true rfl, Nat.le_of_ble_eq_true rfl⟩ ⟨Nat.le_of_ble_eq_true rfl, Nat.le_of_ble_eq_true rfl⟩ (fun r σ1182 hp => ?_)
  obtain ⟨h1184, rfl⟩ := hp
  have h1183 := HK.trans h1 h1184 (by decide)
  refine m_aload_n F rfl e_X5_movePayment_9 ?_
  refine t_get F e_X5_movePayment_10 fl_X5_28 (fun _ => o15) h1183 hk rfl (fun v hv f1185 => ?_)
  obtain ⟨r1186, k1187, rfl⟩ := hv
  refine m_iload_n F rfl e_X5_movePayment_13 ?_
  refine m_iload_n F rfl e_X5_movePayment_14 ?_
  refine t_callV F e_X5_movePayment_15 (s_X8_move (x_l X) V b M Z T _ _ r1186 x901 x902 h1183.1 k1187  (by omega)) cb_X8_move ml_X5_151 im_X8_move se_X8_move (fun _ => o16) h1183 k1187 rfl rfl (rest := []) rfl (Nat.le_of_ble_eq_true rfl) ⟨Nat.le_of_ble_eq_true rfl, Nat.le_of_ble_eq_true rfl⟩ ⟨Nat.le_of_ble_eq_true rfl, Nat.le_of_ble_eq_true rfl⟩ (fun r σ1188 hp => ?_)
  obtain ⟨h1190, rfl⟩ := hp
  have h1189 := HK.trans h1183 h1190 (by decide)
  exact m_vret F hQ e_X5_movePayment_18 (⟨h1189, rfl⟩)
set_option maxRecDepth 20000 in
theorem s_X5_owedBehind (l : Launch) (V : VX) (b M Z T N : Nat) (σ : Mem) (a : Nat) (r901 : Nat) (r902 : Nat) (h0 : HT V (b, M, Z, T) σ) (hk : kA b a = 15) (k901 : kA b r901 = 6) (k902 : kA b r902 = 6) (hM : M + 0 ≤ 1000000000) : Ct l V yX5_owedBehind cX5_owedBehind 3 none 2 0 0 N σ [.ref a, .ref r901, .ref r902] (fun r τ => HK V (b, M, Z, T) [0, 1, 2, 3, 4, 5, 7, 8, 9, 10, 11, 12, 13, 14, 15, 16, 17, 18, 19] σ τ ∧ r = none) := by
  refine Ct.of (by decide) (Nat.le_of_ble_eq_true rfl) [(0, .ref a), (1, .ref r901), (2, .ref r902)] rfl (fun X hX F hQ => ?_)
  have h1 : HK V (b, M, Z, T) [0, 1, 2, 3, 4, 5, 7, 8, 9, 10, 11, 12, 13, 14, 15, 16, 17, 18, 19] σ σ := HK.start h0
  refine m_aload_n F rfl e_X5_owedBehind_0 ?_
  refine t_callV F e_X5_owedBehind_1 (s_X5_left (x_l X) V b M Z T _ _ a  h1.1 hk  (by omega)) cb_X5_left ml_X5_155 im_X5_left se_X5_left (fun _ => o15) h1 hk rfl rfl (rest := []) rfl (Nat.le_of_ble_eq_true rfl) ⟨Nat.le_of_ble_eq_true rfl, Nat.le_of_ble_eq_true rfl⟩ ⟨Nat.le_of_ble_eq_true rfl, Nat.le_of_ble_eq_true rfl⟩ (fun r σ1191 hp => ?_)
  obtain ⟨h1193, x1194, rfl⟩ := hp
  have h1192 := HK.trans h1 h1193 (by decide)
  refine m_iconst F (v := 1) (by decide) e_X5_owedBehind_4 ?_
  refine m_icmp_gt F e_X5_owedBehind_5 (fun q5 => ?_) (fun q5 => ?_)
  · obtain ⟨n1195, hn1195, rfl⟩ := nI_nn (x := x1194) (fun e => Int32.lt_irrefl (Int32.lt_trans e (Int32.lt_of_le_of_lt (by decide) q5)))
    have c5 : n1195 > 1 := (nI_ltI (a := 1) (b := n1195) (by omega) (by omega)).mp q5
    refine m_aload_n F rfl e_X5_owedBehind_14 ?_
    refine m_aload_n F rfl e_X5_owedBehind_15 ?_
    refine t_get F e_X5_owedBehind_16 fl_X5_12 (fun _ => o15) h1192 hk rfl (fun v hv f1196 => ?_)
    obtain ⟨r1197, k1198, rfl⟩ := hv
    refine t_callV F e_X5_owedBehind_19 (s_X1_copyFrom (x_l X) V b M Z T _ _ r902 r1197 h1192.1 k902 k1198 (by omega)) cb_X1_copyFrom ml_X5_89 im_X1_copyFrom se_X1_copyFrom (fun _ => o6) h1192 k902 rfl rfl (rest := []) rfl (Nat.le_of_ble_eq_true rfl) ⟨Nat.le_of_ble_eq_true rfl, Nat.le_of_ble_eq_true rfl⟩ ⟨Nat.le_of_ble_eq_true rfl, Nat.le_of_ble_eq_true rfl⟩ (fun r σ1199 hp => ?_)
    obtain ⟨h1201, rfl⟩ := hp
    have h1200 := HK.trans h1192 h1201 (by decide)
    refine m_aload_n F rfl e_X5_owedBehind_22 ?_
    refine t_get F e_X5_owedBehind_23 fl_X5_70 (fun _ => o15) h1200 hk rfl (fun v hv f1202 => ?_)
    obtain ⟨n1203, hn1203, rfl⟩ := hv
    replace hn1203 : n1203 ≤ 1 := hn1203
    refine m_if_ne F e_X5_owedBehind_26 (fun q26 => ?_) (fun q26 => ?_)
    · have c26 : n1203 ≠ 0 := by have hh := mt (nI_eq (a := n1203) (b := 0) (by omega) (by omega)).mpr q26; omega
      refine m_aload_n F rfl e_X5_owedBehind_45 ?_
      refine m_aload_n F rfl e_X5_owedBehind_46 ?_
      refine t_callV F e_X5_owedBehind_47 (s_X1_subtract (x_l X) V b M Z T _ _ r902 r901 h1200.1 k902 k901 (by omega)) cb_X1_subtract ml_X5_159 im_X1_subtract se_X1_subtract (fun _ => o6) h1200 k902 rfl rfl (rest := []) rfl (Nat.le_of_ble_eq_true rfl) ⟨Nat.le_of_ble_eq_true rfl, Nat.le_of_ble_eq_true rfl⟩ ⟨Nat.le_of_ble_eq_true rfl, Nat.le_of_ble_eq_true rfl⟩ (fun r σ1204 hp => ?_)
      obtain ⟨h1206, rfl⟩ := hp
      have h1205 := HK.trans h1200 h1206 (by decide)
      refine m_aload_n F rfl e_X5_owedBehind_50 ?_
      refine t_callV F e_X5_owedBehind_51 (s_X1_holdToZero (x_l X) V b M Z T _ _ r902  h1205.1 k902  (by omega)) cb_X1_holdToZero ml_X5_162 im_X1_holdToZero se_X1_holdToZero (fun _ => o6) h1205 k902 rfl rfl (rest := []) rfl (Nat.le_of_ble_eq_true rfl) ⟨Nat.le_of_ble_eq_true rfl, Nat.le_of_ble_eq_true rfl⟩ ⟨Nat.le_of_ble_eq_true rfl, Nat.le_of_ble_eq_true rfl⟩ (fun r σ1207 hp => ?_)
      obtain ⟨h1209, rfl⟩ := hp
      have h1208 := HK.trans h1205 h1209 (by decide)
      refine m_aload_n F rfl e_X5_owedBehind_54 ?_
      refine t_getC F e_X5_owedBehind_55 fl_X5_70 (fun _ => o15) h1208 hk ((fld_eq (h1209.2 a (by rw [show kA _ a = 15 from hk]; decide))).trans ((fld_eq (h1206.2 a (by rw [show kA _ a = 15 from hk]; decide))).trans f1202)) ?_
      refine m_if_eq F e_X5_owedBehind_58 (fun q58 => ?_) (fun q58 => ?_)
      · have c58 : n1203 = 0 := (nI_eq (a := n1203) (b := 0) (by omega) (by omega)).mp q58
        exact m_vret F hQ e_X5_owedBehind_77 (⟨h1208, rfl⟩)
      · have c58 : n1203 ≠ 0 := by have hh := mt (nI_eq (a := n1203) (b := 0) (by omega) (by omega)).mpr q58; omega
        refine m_aload_n F rfl e_X5_owedBehind_61 ?_
        refine m_ldc2 F kc_X5_109 e_X5_owedBehind_62 ?_
        refine m_aload_n F rfl e_X5_owedBehind_65 ?_
        refine t_get F e_X5_owedBehind_66 fl_X5_45 (fun _ => o15) h1208 hk rfl (fun v hv f1210 => ?_)
        obtain ⟨x1211, rfl⟩ := hv
        refine m_i2l F e_X5_owedBehind_69 ?_
        refine Wm.topl (fun x1212 _ => ?_)
        refine m_ladd F e_X5_owedBehind_70 ?_
        refine Wm.topl (fun x1213 _ => ?_)
        refine m_ldc2 F kc_X5_109 e_X5_owedBehind_71 ?_
        refine t_callV F e_X5_owedBehind_74 (s_X1_shareRounded (x_l X) V b M Z T _ _ r902 x1213 1000000 h1208.1 k902  (by omega)) cb_X1_shareRounded ml_X5_121 im_X1_shareRounded se_X1_shareRounded (fun _ => o6) h1208 k902 rfl rfl (rest := []) rfl (Nat.le_of_ble_eq_true rfl) ⟨Nat.le_of_ble_eq_true rfl, Nat.le_of_ble_eq_true rfl⟩ ⟨Nat.le_of_ble_eq_true rfl, Nat.le_of_ble_eq_true rfl⟩ (fun r σ1214 hp => ?_)
        obtain ⟨h1216, rfl⟩ := hp
        have h1215 := HK.trans h1208 h1216 (by decide)
        exact m_vret F hQ e_X5_owedBehind_77 (⟨h1215, rfl⟩)
    · have c26 : n1203 = 0 := (nI_eq (a := n1203) (b := 0) (by omega) (by omega)).mp q26
      refine m_aload_n F rfl e_X5_owedBehind_29 ?_
      refine m_ldc2 F kc_X5_109 e_X5_owedBehind_30 ?_
      refine m_aload_n F rfl e_X5_owedBehind_33 ?_
      refine t_get F e_X5_owedBehind_34 fl_X5_45 (fun _ => o15) h1200 hk rfl (fun v hv f1217 => ?_)
      obtain ⟨x1218, rfl⟩ := hv
      refine m_i2l F e_X5_owedBehind_37 ?_
      refine Wm.topl (fun x1219 _ => ?_)
      refine m_ladd F e_X5_owedBehind_38 ?_
      refine Wm.topl (fun x1220 _ => ?_)
      refine m_ldc2 F kc_X5_109 e_X5_owedBehind_39 ?_
      refine t_callV F e_X5_owedBehind_42 (s_X1_shareRounded (x_l X) V b M Z T _ _ r902 x1220 1000000 h1200.1 k902  (by omega)) cb_X1_shareRounded ml_X5_121 im_X1_shareRounded se_X1_shareRounded (fun _ => o6) h1200 k902 rfl rfl (rest := []) rfl (Nat.le_of_ble_eq_true rfl) ⟨Nat.le_of_ble_eq_true rfl, Nat.le_of_ble_eq_true rfl⟩ ⟨Nat.le_of_ble_eq_true rfl, Nat.le_of_ble_eq_true rfl⟩ (fun r σ1221 hp => ?_)
      obtain ⟨h1223, rfl⟩ := hp
      have h1222 := HK.trans h1200 h1223 (by decide)
      refine m_aload_n F rfl e_X5_owedBehind_45 ?_
      refine m_aload_n F rfl e_X5_owedBehind_46 ?_
      refine t_callV F e_X5_owedBehind_47 (s_X1_subtract (x_l X) V b M Z T _ _ r902 r901 h1222.1 k902 k901 (by omega)) cb_X1_subtract ml_X5_159 im_X1_subtract se_X1_subtract (fun _ => o6) h1222 k902 rfl rfl (rest := []) rfl (Nat.le_of_ble_eq_true rfl) ⟨Nat.le_of_ble_eq_true rfl, Nat.le_of_ble_eq_true rfl⟩ ⟨Nat.le_of_ble_eq_true rfl, Nat.le_of_ble_eq_true rfl⟩ (fun r σ1224 hp => ?_)
      obtain ⟨h1226, rfl⟩ := hp
      have h1225 := HK.trans h1222 h1226 (by decide)
      refine m_aload_n F rfl e_X5_owedBehind_50 ?_
      refine t_callV F e_X5_owedBehind_51 (s_X1_holdToZero (x_l X) V b M Z T _ _ r902  h1225.1 k902  (by omega)) cb_X1_holdToZero ml_X5_162 im_X1_holdToZero se_X1_holdToZero (fun _ => o6) h1225 k902 rfl rfl (rest := []) rfl (Nat.le_of_ble_eq_true rfl) ⟨Nat.le_of_ble_eq_true rfl, Nat.le_of_ble_eq_true rfl⟩ ⟨Nat.le_of_ble_eq_true rfl, Nat.le_of_ble_eq_true rfl⟩ (fun r σ1227 hp => ?_)
      obtain ⟨h1229, rfl⟩ := hp
      have h1228 := HK.trans h1225 h1229 (by decide)
      refine m_aload_n F rfl e_X5_owedBehind_54 ?_
      refine t_getC F e_X5_owedBehind_55 fl_X5_70 (fun _ => o15) h1228 hk ((fld_eq (h1229.2 a (by rw [show kA _ a = 15 from hk]; decide))).trans ((fld_eq (h1226.2 a (by rw [show kA _ a = 15 from hk]; decide))).trans ((fld_eq (h1223.2 a (by rw [show kA _ a = 15 from hk]; decide))).trans f1202))) ?_
      refine m_if_eq F e_X5_owedBehind_58 (fun q58 => ?_) (fun q58 => ?_)
      · have c58 : n1203 = 0 := (nI_eq (a := n1203) (b := 0) (by omega) (by omega)).mp q58
        exact m_vret F hQ e_X5_owedBehind_77 (⟨h1228, rfl⟩)
      · have c58 : n1203 ≠ 0 := by have hh := mt (nI_eq (a := n1203) (b := 0) (by omega) (by omega)).mpr q58; omega
        refine m_aload_n F rfl e_X5_owedBehind_61 ?_
        refine m_ldc2 F kc_X5_109 e_X5_owedBehind_62 ?_
        refine m_aload_n F rfl e_X5_owedBehind_65 ?_
        refine t_getC F e_X5_owedBehind_66 fl_X5_45 (fun _ => o15) h1228 hk ((fld_eq (h1229.2 a (by rw [show kA _ a = 15 from hk]; decide))).trans ((fld_eq (h1226.2 a (by rw [show kA _ a = 15 from hk]; decide))).trans ((fld_eq (h1223.2 a (by rw [show kA _ a = 15 from hk]; decide))).trans f1217))) ?_
        refine m_i2l F e_X5_owedBehind_69 ?_
        refine Wm.topl (fun x1230 _ => ?_)
        refine m_ladd F e_X5_owedBehind_70 ?_
        refine Wm.topl (fun x1231 _ => ?_)
        refine m_ldc2 F kc_X5_109 e_X5_owedBehind_71 ?_
        refine t_callV F e_X5_owedBehind_74 (s_X1_shareRounded (x_l X) V b M Z T _ _ r902 x1231 1000000 h1228.1 k902  (by omega)) cb_X1_shareRounded ml_X5_121 im_X1_shareRounded se_X1_shareRounded (fun _ => o6) h1228 k902 rfl rfl (rest := []) rfl (Nat.le_of_ble_eq_true rfl) ⟨Nat.le_of_ble_eq_true rfl, Nat.le_of_ble_eq_true rfl⟩ ⟨Nat.le_of_ble_eq_true rfl, Nat.le_of_ble_eq_true rfl⟩ (fun r σ1232 hp => ?_)
        obtain ⟨h1234, rfl⟩ := hp
        have h1233 := HK.trans h1228 h1234 (by decide)
        exact m_vret F hQ e_X5_owedBehind_77 (⟨h1233, rfl⟩)
  · refine m_aload_n F rfl e_X5_owedBehind_8 ?_
    refine m_lconst F (v := 0) (by decide) e_X5_owedBehind_9 ?_
    refine t_callV F e_X5_owedBehind_10 (s_X1_set (x_l X) V b M Z T _ _ r902 0 h1192.1 k902  (by omega)) cb_X1_set ml_X5_76 im_X1_set se_X1_set (fun _ => o6) h1192 k902 rfl rfl (rest := []) rfl (Nat.le_of_ble_eq_true rfl) ⟨Nat.le_of_ble_eq_true rfl, Nat.le_of_ble_eq_true rfl⟩ ⟨Nat.le_of_ble_eq_true rfl, Nat.le_of_ble_eq_true rfl⟩ (fun r σ1235 hp => ?_)
    obtain ⟨h1237, rfl⟩ := hp
    have h1236 := HK.trans h1192 h1237 (by decide)
    exact m_vret F hQ e_X5_owedBehind_13 (⟨h1236, rfl⟩)
set_option maxRecDepth 20000 in
theorem s_X2_clear (l : Launch) (V : VX) (b M Z T N : Nat) (σ : Mem) (a : Nat) (h0 : HT V (b, M, Z, T) σ) (hk : kA b a = 7) (hM : M + 0 ≤ 1000000000) : Ct l V yX2_clear cX2_clear 1 none 2 0 0 N σ [.ref a] (fun r τ => HK V (b, M, Z, T) [0, 1, 2, 3, 4, 5, 6, 8, 9, 11, 13, 15, 16, 17, 18, 19] σ τ ∧ r = none) := by
  refine Ct.of (by decide) (Nat.le_of_ble_eq_true rfl) [(0, .ref a)] rfl (fun X hX F hQ => ?_)
  have h1 : HK V (b, M, Z, T) [0, 1, 2, 3, 4, 5, 6, 8, 9, 11, 13, 15, 16, 17, 18, 19] σ σ := HK.start h0
  refine m_aload_n F rfl e_X2_clear_0 ?_
  refine m_iconst F (v := 0) (by decide) e_X2_clear_1 ?_
  refine t_put F e_X2_clear_2 fp_X2_58 (fun _ => o7) h1 hk rfl ⟨0, (show 0 ≤ 4 by omega), rfl⟩ rfl rfl (by decide) (fun σ1238 h1239 g1240 g1241 f1242 => ?_)
  refine m_aload_n F rfl e_X2_clear_5 ?_
  refine m_iconst F (v := 0) (by decide) e_X2_clear_6 ?_
  refine t_put F e_X2_clear_7 fp_X2_62 (fun _ => o7) h1239 hk rfl ⟨0, (show 0 ≤ 4 by omega), rfl⟩ rfl rfl (by decide) (fun σ1243 h1244 g1245 g1246 f1247 => ?_)
  refine m_aload_n F rfl e_X2_clear_10 ?_
  refine m_iconst F (v := 0) (by decide) e_X2_clear_11 ?_
  refine t_put F e_X2_clear_12 fp_X2_65 (fun _ => o7) h1244 hk rfl ⟨0, (show 0 ≤ 8 by omega), rfl⟩ rfl rfl (by decide) (fun σ1248 h1249 g1250 g1251 f1252 => ?_)
  refine m_aload_n F rfl e_X2_clear_15 ?_
  refine m_iconst F (v := 0) (by decide) e_X2_clear_16 ?_
  refine t_put F e_X2_clear_17 fp_X2_68 (fun _ => o7) h1249 hk rfl ⟨0, (show 0 ≤ M by omega), rfl⟩ rfl rfl (by decide) (fun σ1253 h1254 g1255 g1256 f1257 => ?_)
  refine m_aload_n F rfl e_X2_clear_20 ?_
  refine m_iconst F (v := 0) (by decide) e_X2_clear_21 ?_
  refine t_put F e_X2_clear_22 fp_X2_71 (fun _ => o7) h1254 hk rfl ⟨_, rfl⟩ rfl rfl (by decide) (fun σ1258 h1259 g1260 g1261 f1262 => ?_)
  refine m_aload_n F rfl e_X2_clear_25 ?_
  refine t_get F e_X2_clear_26 fl_X2_23 (fun _ => o7) h1259 hk rfl (fun v hv f1263 => ?_)
  obtain rfl : v = .ref (a + 3) := hv
  refine m_sipush F (v := 1000) (by decide) e_X2_clear_29 ?_
  refine m_callS F e_X2_clear_32 (s_J7_fill_53178_10 (x_l X) V b M Z T _ _ (a + 3) 1000 h1259.1 (kA_7 hk (r := 3) (by decide)) (by omega)) cb_J7_fill_53178 ml_X2_52 sm_J7_fill_53178 rfl (rest := []) rfl (Nat.le_of_ble_eq_true rfl) ⟨Nat.le_of_ble_eq_true rfl, Nat.le_of_ble_eq_true rfl⟩ ⟨Nat.le_of_ble_eq_true rfl, Nat.le_of_ble_eq_true rfl⟩ (k' := 0) (z' := 0) (N' := N) rfl rfl rfl (fun r σ1264 hp => ?_)
  obtain ⟨h1266, rfl⟩ := hp
  have h1265 := HK.trans h1259 h1266 (by decide)
  refine m_aload_n F rfl e_X2_clear_35 ?_
  refine t_get F e_X2_clear_36 fl_X2_33 (fun _ => o7) h1265 hk rfl (fun v hv f1267 => ?_)
  obtain rfl : v = .ref (a + 5) := hv
  refine t_callV F e_X2_clear_39 (s_X3_clear (x_l X) V b M Z T _ _ (a + 5)  h1265.1 (kA_7 hk (r := 5) (by decide))  (by omega)) cb_X3_clear ml_X2_74 im_X3_clear se_X3_clear (fun _ => o12) h1265 (kA_7 hk (r := 5) (by decide)) rfl rfl (rest := []) rfl (Nat.le_of_ble_eq_true rfl) ⟨Nat.le_of_ble_eq_true rfl, Nat.le_of_ble_eq_true rfl⟩ ⟨Nat.le_of_ble_eq_true rfl, Nat.le_of_ble_eq_true rfl⟩ (fun r σ1268 hp => ?_)
  obtain ⟨h1270, rfl⟩ := hp
  have h1269 := HK.trans h1265 h1270 (by decide)
  exact m_vret F hQ e_X2_clear_42 (⟨h1269, rfl⟩)
set_option maxRecDepth 20000 in
theorem lp_X2_copyFrom_114 {V : VX} {X : MX} {b M Z T N : Nat} {σ : Mem} {a : Nat} {r901 : Nat}  (F : Fx V X yX2_copyFrom cX2_copyFrom 3 none (rmd 3 0 0)) (hQ : Rt V X 0 0 N (fun r τ => HK V (b, M, Z, T) [0, 1, 2, 3, 4, 5, 8, 9, 16] σ τ ∧ r = none)) (hk : kA b a = 7) (k901 : kA b r901 = 7) (hM : M + 0 ≤ 1000000000)  : ∀ (fuel : Nat) (i : Nat) (τ : Mem), HK V (b, M, Z, T) [0, 1, 2, 3, 4, 5, 8, 9, 16] σ τ → i ≤ 4 → 4 - i < fuel → Wm V X 3 N τ 0 0 114 [(2, .int (nI i)), (0, .ref a), (1, .ref r901)] [] := by
  intro fuel
  induction fuel with
  | zero => intro i τ h1 hi hm; exact absurd hm (Nat.not_lt_zero _)
  | succ fuel ih =>
    intro i τ h1 hi hm
    refine m_iload_n F rfl e_X2_copyFrom_114 ?_
    refine m_aload_n F rfl e_X2_copyFrom_115 ?_
    refine t_get F e_X2_copyFrom_116 fl_X2_62 (fun _ => o7) h1 hk rfl (fun v hv f1271 => ?_)
    obtain ⟨n1272, hn1272, rfl⟩ := hv
    replace hn1272 : n1272 ≤ 4 := hn1272
    refine m_icmp_ge F e_X2_copyFrom_119 (fun q119 => ?_) (fun q119 => ?_)
    · have c119 : i ≥ n1272 := (nI_leI (a := n1272) (b := i) (by omega) (by omega)).mp q119
      exact m_vret F hQ e_X2_copyFrom_143 (⟨h1, rfl⟩)
    · have c119 : i < n1272 := by have hh := mt (nI_leI (a := n1272) (b := i) (by omega) (by omega)).mpr q119; omega
      refine m_aload_n F rfl e_X2_copyFrom_122 ?_
      refine t_get F e_X2_copyFrom_123 fl_X2_19 (fun _ => o7) h1 hk rfl (fun v hv f1273 => ?_)
      obtain rfl : v = .ref (a + 2) := hv
      refine m_iload_n F rfl e_X2_copyFrom_126 ?_
      refine t_aald9 F (j := i) e_X2_copyFrom_127 rfl h1 (kA_7 hk (r := 2) (by decide)) (nI_clamp (by omega)) (vp_in_nI (by omega) (by decide)) ?_
      refine m_aload_n F rfl e_X2_copyFrom_128 ?_
      refine t_get F e_X2_copyFrom_129 fl_X2_19 (fun _ => o7) h1 k901 rfl (fun v hv f1274 => ?_)
      obtain rfl : v = .ref (r901 + 2) := hv
      refine m_iload_n F rfl e_X2_copyFrom_132 ?_
      refine t_aald9 F (j := i) e_X2_copyFrom_133 rfl h1 (kA_7 k901 (r := 2) (by decide)) (nI_clamp (by omega)) (vp_in_nI (by omega) (by decide)) ?_
      refine t_callV F e_X2_copyFrom_134 (s_X6_copyFrom (x_l X) V b M Z T _ _ ((a + 2) + 57 + i) ((r901 + 2) + 57 + i) h1.1 (kA_9 (kA_7 hk (r := 2) (by decide)) (j := i) (by omega)) (kA_9 (kA_7 k901 (r := 2) (by decide)) (j := i) (by omega)) (by omega)) cb_X6_copyFrom ml_X2_90 im_X6_copyFrom se_X6_copyFrom (fun _ => o19) h1 (kA_9 (kA_7 hk (r := 2) (by decide)) (j := i) (by omega)) rfl rfl (rest := []) rfl (Nat.le_of_ble_eq_true rfl) ⟨Nat.le_of_ble_eq_true rfl, Nat.le_of_ble_eq_true rfl⟩ ⟨Nat.le_of_ble_eq_true rfl, Nat.le_of_ble_eq_true rfl⟩ (fun r σ1275 hp => ?_)
      obtain ⟨h1277, rfl⟩ := hp
      have h1276 := HK.trans h1 h1277 (by decide)
      refine m_iinc F (v := nI (i + 1)) (lv' := [(2, .int (nI (i + 1))), (0, .ref a), (1, .ref r901)]) e_X2_copyFrom_137 rfl (nI_add i 1) (by decide) rfl ?_
      refine m_goto F e_X2_copyFrom_140 ?_
      exact ih (i + 1) _ h1276 (by omega) (by omega)
set_option maxRecDepth 20000 in
theorem lp_X2_copyFrom_83 {V : VX} {X : MX} {b M Z T N : Nat} {σ : Mem} {a : Nat} {r901 : Nat}  (F : Fx V X yX2_copyFrom cX2_copyFrom 3 none (rmd 3 0 0)) (hQ : Rt V X 0 0 N (fun r τ => HK V (b, M, Z, T) [0, 1, 2, 3, 4, 5, 8, 9, 16] σ τ ∧ r = none)) (hk : kA b a = 7) (k901 : kA b r901 = 7) (hM : M + 0 ≤ 1000000000)  : ∀ (fuel : Nat) (i : Nat) (τ : Mem), HK V (b, M, Z, T) [0, 1, 2, 3, 4, 5, 8, 9, 16] σ τ → i ≤ 4 → 4 - i < fuel → Wm V X 3 N τ 0 0 83 [(2, .int (nI i)), (0, .ref a), (1, .ref r901)] [] := by
  intro fuel
  induction fuel with
  | zero => intro i τ h1 hi hm; exact absurd hm (Nat.not_lt_zero _)
  | succ fuel ih =>
    intro i τ h1 hi hm
    refine m_iload_n F rfl e_X2_copyFrom_83 ?_
    refine m_aload_n F rfl e_X2_copyFrom_84 ?_
    refine t_get F e_X2_copyFrom_85 fl_X2_58 (fun _ => o7) h1 hk rfl (fun v hv f1278 => ?_)
    obtain ⟨n1279, hn1279, rfl⟩ := hv
    replace hn1279 : n1279 ≤ 4 := hn1279
    refine m_icmp_ge F e_X2_copyFrom_88 (fun q88 => ?_) (fun q88 => ?_)
    · have c88 : i ≥ n1279 := (nI_leI (a := n1279) (b := i) (by omega) (by omega)).mp q88
      refine m_iconst F (v := 0) (by decide) e_X2_copyFrom_112 ?_
      refine m_istore_n F (lv' := [(2, .int 0), (0, .ref a), (1, .ref r901)]) e_X2_copyFrom_113 (by decide) rfl ?_
      exact lp_X2_copyFrom_114 F hQ hk k901 hM (4 - 0 + 1) 0 _ h1 (by omega) (Nat.lt_succ_self _)
    · have c88 : i < n1279 := by have hh := mt (nI_leI (a := n1279) (b := i) (by omega) (by omega)).mpr q88; omega
      refine m_aload_n F rfl e_X2_copyFrom_91 ?_
      refine t_get F e_X2_copyFrom_92 fl_X2_11 (fun _ => o7) h1 hk rfl (fun v hv f1280 => ?_)
      obtain rfl : v = .ref (a + 1) := hv
      refine m_iload_n F rfl e_X2_copyFrom_95 ?_
      refine t_aald8 F (j := i) e_X2_copyFrom_96 rfl h1 (kA_7 hk (r := 1) (by decide)) (nI_clamp (by omega)) (vp_in_nI (by omega) (by decide)) ?_
      refine m_aload_n F rfl e_X2_copyFrom_97 ?_
      refine t_get F e_X2_copyFrom_98 fl_X2_11 (fun _ => o7) h1 k901 rfl (fun v hv f1281 => ?_)
      obtain rfl : v = .ref (r901 + 1) := hv
      refine m_iload_n F rfl e_X2_copyFrom_101 ?_
      refine t_aald8 F (j := i) e_X2_copyFrom_102 rfl h1 (kA_7 k901 (r := 1) (by decide)) (nI_clamp (by omega)) (vp_in_nI (by omega) (by decide)) ?_
      refine t_callV F e_X2_copyFrom_103 (s_X5_copyFrom (x_l X) V b M Z T _ _ ((a + 1) + 10 + 12 * i) ((r901 + 1) + 10 + 12 * i) h1.1 (kA_8 (kA_7 hk (r := 1) (by decide)) (j := i) (by omega)) (kA_8 (kA_7 k901 (r := 1) (by decide)) (j := i) (by omega)) (by omega)) cb_X5_copyFrom ml_X2_87 im_X5_copyFrom se_X5_copyFrom (fun _ => o15) h1 (kA_8 (kA_7 hk (r := 1) (by decide)) (j := i) (by omega)) rfl rfl (rest := []) rfl (Nat.le_of_ble_eq_true rfl) ⟨Nat.le_of_ble_eq_true rfl, Nat.le_of_ble_eq_true rfl⟩ ⟨Nat.le_of_ble_eq_true rfl, Nat.le_of_ble_eq_true rfl⟩ (fun r σ1282 hp => ?_)
      obtain ⟨h1284, rfl⟩ := hp
      have h1283 := HK.trans h1 h1284 (by decide)
      refine m_iinc F (v := nI (i + 1)) (lv' := [(2, .int (nI (i + 1))), (0, .ref a), (1, .ref r901)]) e_X2_copyFrom_106 rfl (nI_add i 1) (by decide) rfl ?_
      refine m_goto F e_X2_copyFrom_109 ?_
      exact ih (i + 1) _ h1283 (by omega) (by omega)
set_option maxRecDepth 20000 in
theorem s_X2_copyFrom (l : Launch) (V : VX) (b M Z T N : Nat) (σ : Mem) (a : Nat) (r901 : Nat) (h0 : HT V (b, M, Z, T) σ) (hk : kA b a = 7) (k901 : kA b r901 = 7) (hM : M + 0 ≤ 1000000000) : Ct l V yX2_copyFrom cX2_copyFrom 3 none 3 0 0 N σ [.ref a, .ref r901] (fun r τ => HK V (b, M, Z, T) [0, 1, 2, 3, 4, 5, 8, 9, 16] σ τ ∧ r = none) := by
  refine Ct.of (by decide) (Nat.le_of_ble_eq_true rfl) [(0, .ref a), (1, .ref r901)] rfl (fun X hX F hQ => ?_)
  have h1 : HK V (b, M, Z, T) [0, 1, 2, 3, 4, 5, 8, 9, 16] σ σ := HK.start h0
  refine m_aload_n F rfl e_X2_copyFrom_0 ?_
  refine m_aload_n F rfl e_X2_copyFrom_1 ?_
  refine t_get F e_X2_copyFrom_2 fl_X2_58 (fun _ => o7) h1 k901 rfl (fun v hv f1285 => ?_)
  obtain ⟨n1286, hn1286, rfl⟩ := hv
  replace hn1286 : n1286 ≤ 4 := hn1286
  refine t_put F e_X2_copyFrom_5 fp_X2_58 (fun _ => o7) h1 hk rfl ⟨n1286, (show n1286 ≤ 4 by omega), rfl⟩ rfl rfl (by decide) (fun σ1287 h1288 g1289 g1290 f1291 => ?_)
  refine m_aload_n F rfl e_X2_copyFrom_8 ?_
  refine m_aload_n F rfl e_X2_copyFrom_9 ?_
  refine t_get F e_X2_copyFrom_10 fl_X2_62 (fun _ => o7) h1288 k901 rfl (fun v hv f1292 => ?_)
  obtain ⟨n1293, hn1293, rfl⟩ := hv
  replace hn1293 : n1293 ≤ 4 := hn1293
  refine t_put F e_X2_copyFrom_13 fp_X2_62 (fun _ => o7) h1288 hk rfl ⟨n1293, (show n1293 ≤ 4 by omega), rfl⟩ rfl rfl (by decide) (fun σ1294 h1295 g1296 g1297 f1298 => ?_)
  refine m_aload_n F rfl e_X2_copyFrom_16 ?_
  refine m_aload_n F rfl e_X2_copyFrom_17 ?_
  refine t_get F e_X2_copyFrom_18 fl_X2_65 (fun _ => o7) h1295 k901 rfl (fun v hv f1299 => ?_)
  obtain ⟨n1300, hn1300, rfl⟩ := hv
  replace hn1300 : n1300 ≤ 8 := hn1300
  refine t_put F e_X2_copyFrom_21 fp_X2_65 (fun _ => o7) h1295 hk rfl ⟨n1300, (show n1300 ≤ 8 by omega), rfl⟩ rfl rfl (by decide) (fun σ1301 h1302 g1303 g1304 f1305 => ?_)
  refine m_aload_n F rfl e_X2_copyFrom_24 ?_
  refine m_aload_n F rfl e_X2_copyFrom_25 ?_
  refine t_get F e_X2_copyFrom_26 fl_X2_68 (fun _ => o7) h1302 k901 rfl (fun v hv f1306 => ?_)
  obtain ⟨n1307, hn1307, rfl⟩ := hv
  replace hn1307 : n1307 ≤ M := hn1307
  refine t_put F e_X2_copyFrom_29 fp_X2_68 (fun _ => o7) h1302 hk rfl ⟨n1307, (show n1307 ≤ M by omega), rfl⟩ rfl rfl (by decide) (fun σ1308 h1309 g1310 g1311 f1312 => ?_)
  refine m_aload_n F rfl e_X2_copyFrom_32 ?_
  refine m_aload_n F rfl e_X2_copyFrom_33 ?_
  refine t_get F e_X2_copyFrom_34 fl_X2_71 (fun _ => o7) h1309 k901 rfl (fun v hv f1313 => ?_)
  obtain ⟨x1314, rfl⟩ := hv
  refine t_put F e_X2_copyFrom_37 fp_X2_71 (fun _ => o7) h1309 hk rfl ⟨_, rfl⟩ rfl rfl (by decide) (fun σ1315 h1316 g1317 g1318 f1319 => ?_)
  refine m_aload_n F rfl e_X2_copyFrom_40 ?_
  refine t_get F e_X2_copyFrom_41 fl_X2_23 (fun _ => o7) h1316 k901 rfl (fun v hv f1320 => ?_)
  obtain rfl : v = .ref (r901 + 3) := hv
  refine m_iconst F (v := 0) (by decide) e_X2_copyFrom_44 ?_
  refine m_aload_n F rfl e_X2_copyFrom_45 ?_
  refine t_get F e_X2_copyFrom_46 fl_X2_23 (fun _ => o7) h1316 hk rfl (fun v hv f1321 => ?_)
  obtain rfl : v = .ref (a + 3) := hv
  refine m_iconst F (v := 0) (by decide) e_X2_copyFrom_49 ?_
  refine m_bipush F (v := 100) (by decide) e_X2_copyFrom_50 ?_
  refine t_copyI F (len := 100) e_X2_copyFrom_52 ac_X2_77 (fun _ => o10) (fun _ => o10) h1316 (kA_7 k901 (r := 3) (by decide)) (kA_7 hk (r := 3) (by decide)) (by decide) (by decide) (by decide) (by decide) (Nat.le_of_ble_eq_true rfl) (Nat.le_of_ble_eq_true rfl) (by decide) (fun σ1322 h1323 g1324 => ?_)
  refine m_aload_n F rfl e_X2_copyFrom_55 ?_
  refine t_get F e_X2_copyFrom_56 fl_X2_27 (fun _ => o7) h1323 k901 rfl (fun v hv f1325 => ?_)
  obtain rfl : v = .ref (r901 + 4) := hv
  refine m_iconst F (v := 0) (by decide) e_X2_copyFrom_59 ?_
  refine m_aload_n F rfl e_X2_copyFrom_60 ?_
  refine t_get F e_X2_copyFrom_61 fl_X2_27 (fun _ => o7) h1323 hk rfl (fun v hv f1326 => ?_)
  obtain rfl : v = .ref (a + 4) := hv
  refine m_iconst F (v := 0) (by decide) e_X2_copyFrom_64 ?_
  refine m_bipush F (v := 8) (by decide) e_X2_copyFrom_65 ?_
  refine t_copyI F (len := 8) e_X2_copyFrom_67 ac_X2_77 (fun _ => o11) (fun _ => o11) h1323 (kA_7 k901 (r := 4) (by decide)) (kA_7 hk (r := 4) (by decide)) (by decide) (by decide) (by decide) (by decide) (Nat.le_of_ble_eq_true rfl) (Nat.le_of_ble_eq_true rfl) (by decide) (fun σ1327 h1328 g1329 => ?_)
  refine m_aload_n F rfl e_X2_copyFrom_70 ?_
  refine t_get F e_X2_copyFrom_71 fl_X2_33 (fun _ => o7) h1328 hk rfl (fun v hv f1330 => ?_)
  obtain rfl : v = .ref (a + 5) := hv
  refine m_aload_n F rfl e_X2_copyFrom_74 ?_
  refine t_get F e_X2_copyFrom_75 fl_X2_33 (fun _ => o7) h1328 k901 rfl (fun v hv f1331 => ?_)
  obtain rfl : v = .ref (r901 + 5) := hv
  refine t_callV F e_X2_copyFrom_78 (s_X3_copyFrom (x_l X) V b M Z T _ _ (a + 5) (r901 + 5) h1328.1 (kA_7 hk (r := 5) (by decide)) (kA_7 k901 (r := 5) (by decide)) (by omega)) cb_X3_copyFrom ml_X2_83 im_X3_copyFrom se_X3_copyFrom (fun _ => o12) h1328 (kA_7 hk (r := 5) (by decide)) rfl rfl (rest := []) rfl (Nat.le_of_ble_eq_true rfl) ⟨Nat.le_of_ble_eq_true rfl, Nat.le_of_ble_eq_true rfl⟩ ⟨Nat.le_of_ble_eq_true rfl, Nat.le_of_ble_eq_true rfl⟩ (fun r σ1332 hp => ?_)
  obtain ⟨h1334, rfl⟩ := hp
  have h1333 := HK.trans h1328 h1334 (by decide)
  refine m_iconst F (v := 0) (by decide) e_X2_copyFrom_81 ?_
  refine m_istore_n F (lv' := [(2, .int 0), (0, .ref a), (1, .ref r901)]) e_X2_copyFrom_82 (by decide) rfl ?_
  exact lp_X2_copyFrom_83 F hQ hk k901 hM (4 - 0 + 1) 0 _ h1333 (by omega) (Nat.lt_succ_self _)
set_option maxRecDepth 20000 in
theorem lp_X2_leaseNamed_2 {V : VX} {X : MX} {b M Z T N : Nat} {σ : Mem} {a : Nat} {x901 : Int32}  (F : Fx V X yX2_leaseNamed cX2_leaseNamed 3 (some .int) (rmd 0 0 0)) (hQ : Rt V X 0 0 N (fun r τ => HK V (b, M, Z, T) [0, 1, 2, 3, 4, 5, 6, 7, 8, 9, 10, 11, 12, 13, 14, 15, 16, 17, 18, 19] σ τ ∧ ((∃ n : Nat, n ≤ 3 ∧ r = some (.int (nI n))) ∨ r = some (.int (-1))))) (hk : kA b a = 7) (hM : M + 0 ≤ 1000000000)  : ∀ (fuel : Nat) (i : Nat) (τ : Mem), HK V (b, M, Z, T) [0, 1, 2, 3, 4, 5, 6, 7, 8, 9, 10, 11, 12, 13, 14, 15, 16, 17, 18, 19] σ τ → i ≤ 4 → 4 - i < fuel → Wm V X 3 N τ 0 0 2 [(2, .int (nI i)), (0, .ref a), (1, .int x901)] [] := by
  intro fuel
  induction fuel with
  | zero => intro i τ h1 hi hm; exact absurd hm (Nat.not_lt_zero _)
  | succ fuel ih =>
    intro i τ h1 hi hm
    refine m_iload_n F rfl e_X2_leaseNamed_2 ?_
    refine m_aload_n F rfl e_X2_leaseNamed_3 ?_
    refine t_get F e_X2_leaseNamed_4 fl_X2_58 (fun _ => o7) h1 hk rfl (fun v hv f1335 => ?_)
    obtain ⟨n1336, hn1336, rfl⟩ := hv
    replace hn1336 : n1336 ≤ 4 := hn1336
    refine m_icmp_ge F e_X2_leaseNamed_7 (fun q7 => ?_) (fun q7 => ?_)
    · have c7 : i ≥ n1336 := (nI_leI (a := n1336) (b := i) (by omega) (by omega)).mp q7
      refine m_iconst F (v := (-1)) (by decide) e_X2_leaseNamed_31 ?_
      exact m_iret F hQ e_X2_leaseNamed_32 (⟨h1, Or.inr rfl⟩)
    · have c7 : i < n1336 := by have hh := mt (nI_leI (a := n1336) (b := i) (by omega) (by omega)).mpr q7; omega
      refine m_aload_n F rfl e_X2_leaseNamed_10 ?_
      refine t_get F e_X2_leaseNamed_11 fl_X2_11 (fun _ => o7) h1 hk rfl (fun v hv f1337 => ?_)
      obtain rfl : v = .ref (a + 1) := hv
      refine m_iload_n F rfl e_X2_leaseNamed_14 ?_
      refine t_aald8 F (j := i) e_X2_leaseNamed_15 rfl h1 (kA_7 hk (r := 1) (by decide)) (nI_clamp (by omega)) (vp_in_nI (by omega) (by decide)) ?_
      refine t_get F e_X2_leaseNamed_16 fl_X2_113 (fun _ => o15) h1 (kA_8 (kA_7 hk (r := 1) (by decide)) (j := i) (by omega)) rfl (fun v hv f1338 => ?_)
      obtain ⟨x1339, rfl⟩ := hv
      refine m_iload_n F rfl e_X2_leaseNamed_19 ?_
      refine m_icmp_ne F e_X2_leaseNamed_20 (fun q20 => ?_) (fun q20 => ?_)
      · refine m_iinc F (v := nI (i + 1)) (lv' := [(2, .int (nI (i + 1))), (0, .ref a), (1, .int x901)]) e_X2_leaseNamed_25 rfl (nI_add i 1) (by decide) rfl ?_
        refine m_goto F e_X2_leaseNamed_28 ?_
        exact ih (i + 1) _ h1 (by omega) (by omega)
      · refine m_iload_n F rfl e_X2_leaseNamed_23 ?_
        exact m_iret F hQ e_X2_leaseNamed_24 (⟨h1, Or.inl ⟨i, by omega, rfl⟩⟩)
set_option maxRecDepth 20000 in
theorem s_X2_leaseNamed (l : Launch) (V : VX) (b M Z T N : Nat) (σ : Mem) (a : Nat) (x901 : Int32) (h0 : HT V (b, M, Z, T) σ) (hk : kA b a = 7) (hM : M + 0 ≤ 1000000000) : Ct l V yX2_leaseNamed cX2_leaseNamed 3 (some .int) 0 0 0 N σ [.ref a, .int x901] (fun r τ => HK V (b, M, Z, T) [0, 1, 2, 3, 4, 5, 6, 7, 8, 9, 10, 11, 12, 13, 14, 15, 16, 17, 18, 19] σ τ ∧ ((∃ n : Nat, n ≤ 3 ∧ r = some (.int (nI n))) ∨ r = some (.int (-1)))) := by
  refine Ct.of (by decide) (Nat.le_of_ble_eq_true rfl) [(0, .ref a), (1, .int x901)] rfl (fun X hX F hQ => ?_)
  have h1 : HK V (b, M, Z, T) [0, 1, 2, 3, 4, 5, 6, 7, 8, 9, 10, 11, 12, 13, 14, 15, 16, 17, 18, 19] σ σ := HK.start h0
  refine m_iconst F (v := 0) (by decide) e_X2_leaseNamed_0 ?_
  refine m_istore_n F (lv' := [(2, .int 0), (0, .ref a), (1, .int x901)]) e_X2_leaseNamed_1 (by decide) rfl ?_
  exact lp_X2_leaseNamed_2 F hQ hk hM (4 - 0 + 1) 0 _ h1 (by omega) (Nat.lt_succ_self _)
set_option maxRecDepth 20000 in
theorem lp_X2_findRates_2 {V : VX} {X : MX} {b M Z T N : Nat} {σ : Mem} {a : Nat} {r901 : Nat}  (F : Fx V X yX2_findRates cX2_findRates 5 none (rmd 4 0 0)) (hQ : Rt V X 0 0 N (fun r τ => HK V (b, M, Z, T) [0, 1, 2, 3, 4, 5, 7, 8, 9, 10, 11, 12, 13, 14, 16, 17, 18, 19] σ τ ∧ r = none)) (hk : kA b a = 7) (k901 : kA b r901 = 6) (hM : M + 0 ≤ 1000000000)  : ∀ (fuel : Nat) (i : Nat) (τ : Mem), HK V (b, M, Z, T) [0, 1, 2, 3, 4, 5, 7, 8, 9, 10, 11, 12, 13, 14, 16, 17, 18, 19] σ τ → i ≤ 4 → 4 - i < fuel → Wm V X 5 N τ 0 0 2 [(2, .int (nI i)), (0, .ref a), (1, .ref r901)] [] := by
  intro fuel
  induction fuel with
  | zero => intro i τ h1 hi hm; exact absurd hm (Nat.not_lt_zero _)
  | succ fuel ih =>
    intro i τ h1 hi hm
    refine m_iload_n F rfl e_X2_findRates_2 ?_
    refine m_aload_n F rfl e_X2_findRates_3 ?_
    refine t_get F e_X2_findRates_4 fl_X2_58 (fun _ => o7) h1 hk rfl (fun v hv f1340 => ?_)
    obtain ⟨n1341, hn1341, rfl⟩ := hv
    replace hn1341 : n1341 ≤ 4 := hn1341
    refine m_icmp_ge F e_X2_findRates_7 (fun q7 => ?_) (fun q7 => ?_)
    · have c7 : i ≥ n1341 := (nI_leI (a := n1341) (b := i) (by omega) (by omega)).mp q7
      exact m_vret F hQ e_X2_findRates_64 (⟨h1, rfl⟩)
    · have c7 : i < n1341 := by have hh := mt (nI_leI (a := n1341) (b := i) (by omega) (by omega)).mpr q7; omega
      refine m_aload_n F rfl e_X2_findRates_10 ?_
      refine t_get F e_X2_findRates_11 fl_X2_11 (fun _ => o7) h1 hk rfl (fun v hv f1342 => ?_)
      obtain rfl : v = .ref (a + 1) := hv
      refine m_iload_n F rfl e_X2_findRates_14 ?_
      refine t_aald8 F (j := i) e_X2_findRates_15 rfl h1 (kA_7 hk (r := 1) (by decide)) (nI_clamp (by omega)) (vp_in_nI (by omega) (by decide)) ?_
      refine m_astore_n F (lv' := [(3, .ref ((a + 1) + 10 + 12 * i)), (2, .int (nI i)), (0, .ref a), (1, .ref r901)]) e_X2_findRates_16 (by decide) rfl ?_
      refine m_aload_n F rfl e_X2_findRates_17 ?_
      refine t_get F e_X2_findRates_18 fl_X2_116 (fun _ => o15) h1 (kA_8 (kA_7 hk (r := 1) (by decide)) (j := i) (by omega)) rfl (fun v hv f1343 => ?_)
      obtain ⟨x1344, rfl⟩ := hv
      refine m_if_le F e_X2_findRates_21 (fun q21 => ?_) (fun q21 => ?_)
      · refine m_bipush F (v := (-2)) (by decide) e_X2_findRates_38 ?_
        refine m_istore F (lv' := [(4, .int (-2)), (3, .ref ((a + 1) + 10 + 12 * i)), (2, .int (nI i)), (0, .ref a), (1, .ref r901)]) e_X2_findRates_40 (by decide) rfl ?_
        refine m_iload F rfl e_X2_findRates_42 ?_
        refine m_if_lt F e_X2_findRates_44 (fun _ => ?_) (fun q => absurd (by decide) q)
        refine m_iinc F (v := nI (i + 1)) (lv' := [(2, .int (nI (i + 1))), (4, .int (-2)), (3, .ref ((a + 1) + 10 + 12 * i)), (0, .ref a), (1, .ref r901)]) e_X2_findRates_58 rfl (nI_add i 1) (by decide) rfl ?_
        refine m_goto F e_X2_findRates_61 ?_
        refine Wm.lvsub (lv' := [(2, .int (nI (i + 1))), (0, .ref a), (1, .ref r901)]) ?_ [0, 3, 4] rfl
        exact ih (i + 1) _ h1 (by omega) (by omega)
      · obtain ⟨n1345, hn1345, rfl⟩ := nI_nn (x := x1344) (fun e => q21 (Int32.le_trans (Int32.le_of_lt e) (by decide)))
        have c21 : n1345 > 0 := by have hh := mt (nI_leI (a := n1345) (b := 0) (by omega) (by omega)).mpr q21; omega
        refine m_aload_n F rfl e_X2_findRates_24 ?_
        refine m_iconst F (v := 0) (by decide) e_X2_findRates_25 ?_
        refine m_aload_n F rfl e_X2_findRates_26 ?_
        refine t_getC F e_X2_findRates_27 fl_X2_116 (fun _ => o15) h1 (kA_8 (kA_7 hk (r := 1) (by decide)) (j := i) (by omega)) (f1343) ?_
        refine m_i2l F e_X2_findRates_30 ?_
        refine Wm.topl (fun x1346 _ => ?_)
        refine m_aload_n F rfl e_X2_findRates_31 ?_
        refine t_callV F e_X2_findRates_32 (s_X5_greatestRate (x_l X) V b M Z T _ _ ((a + 1) + 10 + 12 * i) 0 x1346 r901 h1.1 (kA_8 (kA_7 hk (r := 1) (by decide)) (j := i) (by omega)) k901 (by omega)) cb_X5_greatestRate ml_X2_119 im_X5_greatestRate se_X5_greatestRate (fun _ => o15) h1 (kA_8 (kA_7 hk (r := 1) (by decide)) (j := i) (by omega)) rfl rfl (rest := []) rfl (Nat.le_of_ble_eq_true rfl) ⟨Nat.le_of_ble_eq_true rfl, Nat.le_of_ble_eq_true rfl⟩ ⟨Nat.le_of_ble_eq_true rfl, Nat.le_of_ble_eq_true rfl⟩ (fun r σ1347 hp => ?_)
        obtain ⟨h1349, x1350, rfl⟩ := hp
        have h1348 := HK.trans h1 h1349 (by decide)
        refine m_goto F e_X2_findRates_35 ?_
        refine m_istore F (lv' := [(4, .int x1350), (3, .ref ((a + 1) + 10 + 12 * i)), (2, .int (nI i)), (0, .ref a), (1, .ref r901)]) e_X2_findRates_40 (by decide) rfl ?_
        refine m_iload F rfl e_X2_findRates_42 ?_
        refine m_if_lt F e_X2_findRates_44 (fun q44 => ?_) (fun q44 => ?_)
        · refine m_iinc F (v := nI (i + 1)) (lv' := [(2, .int (nI (i + 1))), (4, .int x1350), (3, .ref ((a + 1) + 10 + 12 * i)), (0, .ref a), (1, .ref r901)]) e_X2_findRates_58 rfl (nI_add i 1) (by decide) rfl ?_
          refine m_goto F e_X2_findRates_61 ?_
          refine Wm.lvsub (lv' := [(2, .int (nI (i + 1))), (0, .ref a), (1, .ref r901)]) ?_ [0, 3, 4] rfl
          exact ih (i + 1) _ h1348 (by omega) (by omega)
        · obtain ⟨n1351, hn1351, rfl⟩ := nI_nn (x := x1350) (fun e => q44 (Int32.lt_of_lt_of_le e (by decide)))
          have c44 : n1351 ≥ 0 := by have hh := mt (nI_ltI (a := n1351) (b := 0) (by omega) (by omega)).mpr q44; omega
          refine m_aload_n F rfl e_X2_findRates_47 ?_
          refine m_iload F rfl e_X2_findRates_48 ?_
          refine t_put F e_X2_findRates_50 fp_X2_123 (fun _ => o15) h1348 (kA_8 (kA_7 hk (r := 1) (by decide)) (j := i) (by omega)) rfl ⟨_, rfl⟩ rfl rfl (by decide) (fun σ1352 h1353 g1354 g1355 f1356 => ?_)
          refine m_aload_n F rfl e_X2_findRates_53 ?_
          refine m_iconst F (v := 1) (by decide) e_X2_findRates_54 ?_
          refine t_put F e_X2_findRates_55 fp_X2_126 (fun _ => o15) h1353 (kA_8 (kA_7 hk (r := 1) (by decide)) (j := i) (by omega)) rfl ⟨1, (show 1 ≤ 1 by omega), rfl⟩ (by decide) rfl (by decide) (fun σ1357 h1358 g1359 g1360 f1361 => ?_)
          refine m_iinc F (v := nI (i + 1)) (lv' := [(2, .int (nI (i + 1))), (4, .int (nI n1351)), (3, .ref ((a + 1) + 10 + 12 * i)), (0, .ref a), (1, .ref r901)]) e_X2_findRates_58 rfl (nI_add i 1) (by decide) rfl ?_
          refine m_goto F e_X2_findRates_61 ?_
          refine Wm.lvsub (lv' := [(2, .int (nI (i + 1))), (0, .ref a), (1, .ref r901)]) ?_ [0, 3, 4] rfl
          exact ih (i + 1) _ h1358 (by omega) (by omega)
set_option maxRecDepth 20000 in
theorem s_X2_findRates (l : Launch) (V : VX) (b M Z T N : Nat) (σ : Mem) (a : Nat) (r901 : Nat) (h0 : HT V (b, M, Z, T) σ) (hk : kA b a = 7) (k901 : kA b r901 = 6) (hM : M + 0 ≤ 1000000000) : Ct l V yX2_findRates cX2_findRates 5 none 4 0 0 N σ [.ref a, .ref r901] (fun r τ => HK V (b, M, Z, T) [0, 1, 2, 3, 4, 5, 7, 8, 9, 10, 11, 12, 13, 14, 16, 17, 18, 19] σ τ ∧ r = none) := by
  refine Ct.of (by decide) (Nat.le_of_ble_eq_true rfl) [(0, .ref a), (1, .ref r901)] rfl (fun X hX F hQ => ?_)
  have h1 : HK V (b, M, Z, T) [0, 1, 2, 3, 4, 5, 7, 8, 9, 10, 11, 12, 13, 14, 16, 17, 18, 19] σ σ := HK.start h0
  refine m_iconst F (v := 0) (by decide) e_X2_findRates_0 ?_
  refine m_istore_n F (lv' := [(2, .int 0), (0, .ref a), (1, .ref r901)]) e_X2_findRates_1 (by decide) rfl ?_
  exact lp_X2_findRates_2 F hQ hk k901 hM (4 - 0 + 1) 0 _ h1 (by omega) (Nat.lt_succ_self _)
set_option maxRecDepth 20000 in
theorem lp_X2_runningLeases_4 {V : VX} {X : MX} {b M Z T N : Nat} {σ : Mem} {a : Nat}   (F : Fx V X yX2_runningLeases cX2_runningLeases 3 (some .int) (rmd 0 0 0)) (hQ : Rt V X 0 0 N (fun r τ => HK V (b, M, Z, T) [0, 1, 2, 3, 4, 5, 6, 7, 8, 9, 10, 11, 12, 13, 14, 15, 16, 17, 18, 19] σ τ ∧ ∃ x : Int32, r = some (.int x))) (hk : kA b a = 7) (hM : M + 0 ≤ 1000000000)  : ∀ (fuel : Nat) (u1 : Int32) (i : Nat) (τ : Mem), HK V (b, M, Z, T) [0, 1, 2, 3, 4, 5, 6, 7, 8, 9, 10, 11, 12, 13, 14, 15, 16, 17, 18, 19] σ τ → i ≤ 4 → 4 - i < fuel → Wm V X 3 N τ 0 0 4 [(1, .int u1), (2, .int (nI i)), (0, .ref a)] [] := by
  intro fuel
  induction fuel with
  | zero => intro u1 i τ h1 hi hm; exact absurd hm (Nat.not_lt_zero _)
  | succ fuel ih =>
    intro u1 i τ h1 hi hm
    refine m_iload_n F rfl e_X2_runningLeases_4 ?_
    refine m_aload_n F rfl e_X2_runningLeases_5 ?_
    refine t_get F e_X2_runningLeases_6 fl_X2_58 (fun _ => o7) h1 hk rfl (fun v hv f1362 => ?_)
    obtain ⟨n1363, hn1363, rfl⟩ := hv
    replace hn1363 : n1363 ≤ 4 := hn1363
    refine m_icmp_ge F e_X2_runningLeases_9 (fun q9 => ?_) (fun q9 => ?_)
    · have c9 : i ≥ n1363 := (nI_leI (a := n1363) (b := i) (by omega) (by omega)).mp q9
      refine m_iload_n F rfl e_X2_runningLeases_34 ?_
      exact m_iret F hQ e_X2_runningLeases_35 (⟨h1, _, rfl⟩)
    · have c9 : i < n1363 := by have hh := mt (nI_leI (a := n1363) (b := i) (by omega) (by omega)).mpr q9; omega
      refine m_aload_n F rfl e_X2_runningLeases_12 ?_
      refine t_get F e_X2_runningLeases_13 fl_X2_11 (fun _ => o7) h1 hk rfl (fun v hv f1364 => ?_)
      obtain rfl : v = .ref (a + 1) := hv
      refine m_iload_n F rfl e_X2_runningLeases_16 ?_
      refine t_aald8 F (j := i) e_X2_runningLeases_17 rfl h1 (kA_7 hk (r := 1) (by decide)) (nI_clamp (by omega)) (vp_in_nI (by omega) (by decide)) ?_
      refine t_get F e_X2_runningLeases_18 fl_X2_129 (fun _ => o15) h1 (kA_8 (kA_7 hk (r := 1) (by decide)) (j := i) (by omega)) rfl (fun v hv f1365 => ?_)
      obtain ⟨x1366, rfl⟩ := hv
      refine m_iconst F (v := 1) (by decide) e_X2_runningLeases_21 ?_
      refine m_icmp_ne F e_X2_runningLeases_22 (fun q22 => ?_) (fun q22 => ?_)
      · refine m_iinc F (v := nI (i + 1)) (lv' := [(2, .int (nI (i + 1))), (1, .int u1), (0, .ref a)]) e_X2_runningLeases_28 rfl (nI_add i 1) (by decide) rfl ?_
        refine m_goto F e_X2_runningLeases_31 ?_
        refine Wm.lvsub (lv' := [(1, .int u1), (2, .int (nI (i + 1))), (0, .ref a)]) ?_ [1, 0, 2] rfl
        exact ih u1 (i + 1) _ h1 (by omega) (by omega)
      · refine m_iinc F (v := (u1 + 1)) (lv' := [(1, .int (u1 + 1)), (2, .int (nI i)), (0, .ref a)]) e_X2_runningLeases_25 rfl rfl (by decide) rfl ?_
        refine m_iinc F (v := nI (i + 1)) (lv' := [(2, .int (nI (i + 1))), (1, .int (u1 + 1)), (0, .ref a)]) e_X2_runningLeases_28 rfl (nI_add i 1) (by decide) rfl ?_
        refine m_goto F e_X2_runningLeases_31 ?_
        refine Wm.lvsub (lv' := [(1, .int (u1 + 1)), (2, .int (nI (i + 1))), (0, .ref a)]) ?_ [1, 0, 2] rfl
        exact ih (u1 + 1) (i + 1) _ h1 (by omega) (by omega)
set_option maxRecDepth 20000 in
theorem s_X2_runningLeases (l : Launch) (V : VX) (b M Z T N : Nat) (σ : Mem) (a : Nat) (h0 : HT V (b, M, Z, T) σ) (hk : kA b a = 7) (hM : M + 0 ≤ 1000000000) : Ct l V yX2_runningLeases cX2_runningLeases 3 (some .int) 0 0 0 N σ [.ref a] (fun r τ => HK V (b, M, Z, T) [0, 1, 2, 3, 4, 5, 6, 7, 8, 9, 10, 11, 12, 13, 14, 15, 16, 17, 18, 19] σ τ ∧ ∃ x : Int32, r = some (.int x)) := by
  refine Ct.of (by decide) (Nat.le_of_ble_eq_true rfl) [(0, .ref a)] rfl (fun X hX F hQ => ?_)
  have h1 : HK V (b, M, Z, T) [0, 1, 2, 3, 4, 5, 6, 7, 8, 9, 10, 11, 12, 13, 14, 15, 16, 17, 18, 19] σ σ := HK.start h0
  refine m_iconst F (v := 0) (by decide) e_X2_runningLeases_0 ?_
  refine m_istore_n F (lv' := [(1, .int 0), (0, .ref a)]) e_X2_runningLeases_1 (by decide) rfl ?_
  refine m_iconst F (v := 0) (by decide) e_X2_runningLeases_2 ?_
  refine m_istore_n F (lv' := [(2, .int 0), (1, .int 0), (0, .ref a)]) e_X2_runningLeases_3 (by decide) rfl ?_
  refine Wm.lvsub (lv' := [(1, .int 0), (2, .int 0), (0, .ref a)]) ?_ [1, 0, 2] rfl
  exact lp_X2_runningLeases_4 F hQ hk hM (4 - 0 + 1) 0 0 _ h1 (by omega) (Nat.lt_succ_self _)
set_option maxRecDepth 20000 in
theorem lp_X2_countAllOwed_7 {V : VX} {X : MX} {b M Z T N : Nat} {σ : Mem} {a : Nat} {r901 : Nat}  (F : Fx V X yX2_countAllOwed cX2_countAllOwed 3 none (rmd 1 0 0)) (hQ : Rt V X 0 0 N (fun r τ => HK V (b, M, Z, T) [0, 1, 2, 3, 4, 5, 7, 8, 9, 10, 11, 12, 13, 14, 15, 16, 17, 18, 19] σ τ ∧ r = none)) (hk : kA b a = 7) (k901 : kA b r901 = 6) (hM : M + 0 ≤ 1000000000)  : ∀ (fuel : Nat) (i : Nat) (τ : Mem), HK V (b, M, Z, T) [0, 1, 2, 3, 4, 5, 7, 8, 9, 10, 11, 12, 13, 14, 15, 16, 17, 18, 19] σ τ → i ≤ 4 → 4 - i < fuel → Wm V X 3 N τ 0 0 7 [(2, .int (nI i)), (0, .ref a), (1, .ref r901)] [] := by
  intro fuel
  induction fuel with
  | zero => intro i τ h1 hi hm; exact absurd hm (Nat.not_lt_zero _)
  | succ fuel ih =>
    intro i τ h1 hi hm
    refine m_iload_n F rfl e_X2_countAllOwed_7 ?_
    refine m_aload_n F rfl e_X2_countAllOwed_8 ?_
    refine t_get F e_X2_countAllOwed_9 fl_X2_58 (fun _ => o7) h1 hk rfl (fun v hv f1367 => ?_)
    obtain ⟨n1368, hn1368, rfl⟩ := hv
    replace hn1368 : n1368 ≤ 4 := hn1368
    refine m_icmp_ge F e_X2_countAllOwed_12 (fun q12 => ?_) (fun q12 => ?_)
    · have c12 : i ≥ n1368 := (nI_leI (a := n1368) (b := i) (by omega) (by omega)).mp q12
      exact m_vret F hQ e_X2_countAllOwed_34 (⟨h1, rfl⟩)
    · have c12 : i < n1368 := by have hh := mt (nI_leI (a := n1368) (b := i) (by omega) (by omega)).mpr q12; omega
      refine m_aload_n F rfl e_X2_countAllOwed_15 ?_
      refine m_aload_n F rfl e_X2_countAllOwed_16 ?_
      refine t_get F e_X2_countAllOwed_17 fl_X2_11 (fun _ => o7) h1 hk rfl (fun v hv f1369 => ?_)
      obtain rfl : v = .ref (a + 1) := hv
      refine m_iload_n F rfl e_X2_countAllOwed_20 ?_
      refine t_aald8 F (j := i) e_X2_countAllOwed_21 rfl h1 (kA_7 hk (r := 1) (by decide)) (nI_clamp (by omega)) (vp_in_nI (by omega) (by decide)) ?_
      refine t_get F e_X2_countAllOwed_22 fl_X2_136 (fun _ => o15) h1 (kA_8 (kA_7 hk (r := 1) (by decide)) (j := i) (by omega)) rfl (fun v hv f1370 => ?_)
      obtain ⟨r1371, k1372, rfl⟩ := hv
      refine t_callV F e_X2_countAllOwed_25 (s_X1_add (x_l X) V b M Z T _ _ r901 r1371 h1.1 k901 k1372 (by omega)) cb_X1_add ml_X2_139 im_X1_add se_X1_add (fun _ => o6) h1 k901 rfl rfl (rest := []) rfl (Nat.le_of_ble_eq_true rfl) ⟨Nat.le_of_ble_eq_true rfl, Nat.le_of_ble_eq_true rfl⟩ ⟨Nat.le_of_ble_eq_true rfl, Nat.le_of_ble_eq_true rfl⟩ (fun r σ1373 hp => ?_)
      obtain ⟨h1375, rfl⟩ := hp
      have h1374 := HK.trans h1 h1375 (by decide)
      refine m_iinc F (v := nI (i + 1)) (lv' := [(2, .int (nI (i + 1))), (0, .ref a), (1, .ref r901)]) e_X2_countAllOwed_28 rfl (nI_add i 1) (by decide) rfl ?_
      refine m_goto F e_X2_countAllOwed_31 ?_
      exact ih (i + 1) _ h1374 (by omega) (by omega)
set_option maxRecDepth 20000 in
theorem s_X2_countAllOwed (l : Launch) (V : VX) (b M Z T N : Nat) (σ : Mem) (a : Nat) (r901 : Nat) (h0 : HT V (b, M, Z, T) σ) (hk : kA b a = 7) (k901 : kA b r901 = 6) (hM : M + 0 ≤ 1000000000) : Ct l V yX2_countAllOwed cX2_countAllOwed 3 none 1 0 0 N σ [.ref a, .ref r901] (fun r τ => HK V (b, M, Z, T) [0, 1, 2, 3, 4, 5, 7, 8, 9, 10, 11, 12, 13, 14, 15, 16, 17, 18, 19] σ τ ∧ r = none) := by
  refine Ct.of (by decide) (Nat.le_of_ble_eq_true rfl) [(0, .ref a), (1, .ref r901)] rfl (fun X hX F hQ => ?_)
  have h1 : HK V (b, M, Z, T) [0, 1, 2, 3, 4, 5, 7, 8, 9, 10, 11, 12, 13, 14, 15, 16, 17, 18, 19] σ σ := HK.start h0
  refine m_aload_n F rfl e_X2_countAllOwed_0 ?_
  refine m_lconst F (v := 0) (by decide) e_X2_countAllOwed_1 ?_
  refine t_callV F e_X2_countAllOwed_2 (s_X1_set (x_l X) V b M Z T _ _ r901 0 h1.1 k901  (by omega)) cb_X1_set ml_X2_132 im_X1_set se_X1_set (fun _ => o6) h1 k901 rfl rfl (rest := []) rfl (Nat.le_of_ble_eq_true rfl) ⟨Nat.le_of_ble_eq_true rfl, Nat.le_of_ble_eq_true rfl⟩ ⟨Nat.le_of_ble_eq_true rfl, Nat.le_of_ble_eq_true rfl⟩ (fun r σ1376 hp => ?_)
  obtain ⟨h1378, rfl⟩ := hp
  have h1377 := HK.trans h1 h1378 (by decide)
  refine m_iconst F (v := 0) (by decide) e_X2_countAllOwed_5 ?_
  refine m_istore_n F (lv' := [(2, .int 0), (0, .ref a), (1, .ref r901)]) e_X2_countAllOwed_6 (by decide) rfl ?_
  exact lp_X2_countAllOwed_7 F hQ hk k901 hM (4 - 0 + 1) 0 _ h1377 (by omega) (Nat.lt_succ_self _)
set_option maxRecDepth 20000 in
theorem s_X2_indexNow (l : Launch) (V : VX) (b M Z T N : Nat) (σ : Mem) (a : Nat) (h0 : HT V (b, M, Z, T) σ) (hk : kA b a = 7) (hM : M + 0 ≤ 1000000000) : Ct l V yX2_indexNow cX2_indexNow 1 (some .int) 0 0 0 N σ [.ref a] (fun r τ => HK V (b, M, Z, T) [0, 1, 2, 3, 4, 5, 6, 7, 8, 9, 10, 11, 12, 13, 14, 15, 16, 17, 18, 19] σ τ ∧ ∃ x : Int32, r = some (.int x)) := by
  refine Ct.of (by decide) (Nat.le_of_ble_eq_true rfl) [(0, .ref a)] rfl (fun X hX F hQ => ?_)
  have h1 : HK V (b, M, Z, T) [0, 1, 2, 3, 4, 5, 6, 7, 8, 9, 10, 11, 12, 13, 14, 15, 16, 17, 18, 19] σ σ := HK.start h0
  refine m_aload_n F rfl e_X2_indexNow_0 ?_
  refine t_get F e_X2_indexNow_1 fl_X2_68 (fun _ => o7) h1 hk rfl (fun v hv f1379 => ?_)
  obtain ⟨n1380, hn1380, rfl⟩ := hv
  replace hn1380 : n1380 ≤ M := hn1380
  refine m_if_lt F e_X2_indexNow_4 (fun q4 => ?_) (fun q4 => ?_)
  · have c4 : n1380 < 0 := (nI_ltI (a := n1380) (b := 0) (by omega) (by omega)).mp q4
    refine m_sipush F (v := 1000) (by decide) e_X2_indexNow_28 ?_
    exact m_iret F hQ e_X2_indexNow_31 (⟨h1, _, rfl⟩)
  · have c4 : n1380 ≥ 0 := by have hh := mt (nI_ltI (a := n1380) (b := 0) (by omega) (by omega)).mpr q4; omega
    refine m_aload_n F rfl e_X2_indexNow_7 ?_
    refine t_getC F e_X2_indexNow_8 fl_X2_68 (fun _ => o7) h1 hk (f1379) ?_
    refine m_bipush F (v := 99) (by decide) e_X2_indexNow_11 ?_
    refine m_icmp_gt F e_X2_indexNow_13 (fun q13 => ?_) (fun q13 => ?_)
    · have c13 : n1380 > 99 := (nI_ltI (a := 99) (b := n1380) (by omega) (by omega)).mp q13
      refine m_sipush F (v := 1000) (by decide) e_X2_indexNow_28 ?_
      exact m_iret F hQ e_X2_indexNow_31 (⟨h1, _, rfl⟩)
    · have c13 : n1380 ≤ 99 := by have hh := mt (nI_ltI (a := 99) (b := n1380) (by omega) (by omega)).mpr q13; omega
      refine m_aload_n F rfl e_X2_indexNow_16 ?_
      refine t_get F e_X2_indexNow_17 fl_X2_23 (fun _ => o7) h1 hk rfl (fun v hv f1381 => ?_)
      obtain rfl : v = .ref (a + 3) := hv
      refine m_aload_n F rfl e_X2_indexNow_20 ?_
      refine t_getC F e_X2_indexNow_21 fl_X2_68 (fun _ => o7) h1 hk (f1379) ?_
      refine t_iald F (len := 100) (j := n1380) e_X2_indexNow_24 (fun _ => o10) h1 (kA_7 hk (r := 3) (by decide)) (nI_clamp (by omega)) (vp_in_nI (by omega) (by decide)) (fun x1382 => ?_)
      refine m_goto F e_X2_indexNow_25 ?_
      exact m_iret F hQ e_X2_indexNow_31 (⟨h1, _, rfl⟩)
set_option maxRecDepth 20000 in
theorem lp_X2_changeIndex_45 {V : VX} {X : MX} {b M Z T N : Nat} {σ : Mem} {a : Nat} {x901 : Int32}  (F : Fx V X yX2_changeIndex cX2_changeIndex 4 none (rmd 0 0 0)) (hQ : Rt V X 0 0 N (fun r τ => HK V (b, M, Z, T) [0, 1, 2, 3, 4, 5, 6, 7, 8, 9, 11, 12, 13, 14, 15, 16, 17, 18, 19] σ τ ∧ r = none)) (hk : kA b a = 7) (hM : M + 0 ≤ 1000000000)  : ∀ (fuel : Nat) (i : Nat) (u1 : Int32) (τ : Mem), HK V (b, M, Z, T) [0, 1, 2, 3, 4, 5, 6, 7, 8, 9, 11, 12, 13, 14, 15, 16, 17, 18, 19] σ τ → i ≤ 1000000000 → 1000000000 - i < fuel → Wm V X 4 N τ 0 0 45 [(3, .int (nI i)), (2, .int u1), (0, .ref a), (1, .int x901)] [] := by
  intro fuel
  induction fuel with
  | zero => intro i u1 τ h1 hi hm; exact absurd hm (Nat.not_lt_zero _)
  | succ fuel ih =>
    intro i u1 τ h1 hi hm
    refine m_iload_n F rfl e_X2_changeIndex_45 ?_
    refine m_iload_n F rfl e_X2_changeIndex_46 ?_
    refine m_icmp_ge F e_X2_changeIndex_47 (fun q47 => ?_) (fun q47 => ?_)
    · exact m_vret F hQ e_X2_changeIndex_69 (⟨h1, rfl⟩)
    · refine m_iload_n F rfl e_X2_changeIndex_50 ?_
      refine m_bipush F (v := 99) (by decide) e_X2_changeIndex_51 ?_
      refine m_icmp_gt F e_X2_changeIndex_53 (fun q53 => ?_) (fun q53 => ?_)
      · have c53 : i > 99 := (nI_ltI (a := 99) (b := i) (by omega) (by omega)).mp q53
        exact m_vret F hQ e_X2_changeIndex_69 (⟨h1, rfl⟩)
      · have c53 : i ≤ 99 := by have hh := mt (nI_ltI (a := 99) (b := i) (by omega) (by omega)).mpr q53; omega
        refine m_aload_n F rfl e_X2_changeIndex_56 ?_
        refine t_get F e_X2_changeIndex_57 fl_X2_23 (fun _ => o7) h1 hk rfl (fun v hv f1383 => ?_)
        obtain rfl : v = .ref (a + 3) := hv
        refine m_iload_n F rfl e_X2_changeIndex_60 ?_
        refine m_iload_n F rfl e_X2_changeIndex_61 ?_
        refine t_iast F (len := 100) (j := i) e_X2_changeIndex_62 (fun _ => o10) h1 (kA_7 hk (r := 3) (by decide)) (nI_clamp (by omega)) (vp_in_nI (by omega) (by decide)) (by decide) (fun σ1384 h1385 g1386 => ?_)
        refine m_iinc F (v := nI (i + 1)) (lv' := [(3, .int (nI (i + 1))), (2, .int u1), (0, .ref a), (1, .int x901)]) e_X2_changeIndex_63 rfl (nI_add i 1) (by decide) rfl ?_
        refine m_goto F e_X2_changeIndex_66 ?_
        exact ih (i + 1) u1 _ h1385 (by omega) (by omega)
set_option maxRecDepth 20000 in
theorem lp_X2_changeIndex_10 {V : VX} {X : MX} {b M Z T N : Nat} {σ : Mem} {a : Nat} {x901 : Int32}  (F : Fx V X yX2_changeIndex cX2_changeIndex 4 none (rmd 0 0 0)) (hQ : Rt V X 0 0 N (fun r τ => HK V (b, M, Z, T) [0, 1, 2, 3, 4, 5, 6, 7, 8, 9, 11, 12, 13, 14, 15, 16, 17, 18, 19] σ τ ∧ r = none)) (hk : kA b a = 7) (hM : M + 0 ≤ 1000000000)  : ∀ (fuel : Nat) (i : Nat) (u1 : Int32) (τ : Mem), HK V (b, M, Z, T) [0, 1, 2, 3, 4, 5, 6, 7, 8, 9, 11, 12, 13, 14, 15, 16, 17, 18, 19] σ τ → i ≤ 7 → i < fuel → Wm V X 4 N τ 0 0 10 [(3, .int (nI i)), (2, .int u1), (0, .ref a), (1, .int x901)] [] := by
  intro fuel
  induction fuel with
  | zero => intro i u1 τ h1 hi hm; exact absurd hm (Nat.not_lt_zero _)
  | succ fuel ih =>
    intro i u1 τ h1 hi hm
    refine m_iload_n F rfl e_X2_changeIndex_10 ?_
    refine m_if_lt F e_X2_changeIndex_11 (fun q11 => ?_) (fun q11 => ?_)
    · have c11 : i < 0 := (nI_ltI (a := i) (b := 0) (by omega) (by omega)).mp q11
      refine m_aload_n F rfl e_X2_changeIndex_40 ?_
      refine t_get F e_X2_changeIndex_41 fl_X2_68 (fun _ => o7) h1 hk rfl (fun v hv f1387 => ?_)
      obtain ⟨n1388, hn1388, rfl⟩ := hv
      replace hn1388 : n1388 ≤ M := hn1388
      refine m_istore_n F (lv' := [(3, .int (nI n1388)), (2, .int u1), (0, .ref a), (1, .int x901)]) e_X2_changeIndex_44 (by decide) rfl ?_
      exact lp_X2_changeIndex_45 F hQ hk hM (1000000000 - n1388 + 1) n1388 u1 _ h1 (by omega) (Nat.lt_succ_self _)
    · have c11 : i ≥ 0 := by have hh := mt (nI_ltI (a := i) (b := 0) (by omega) (by omega)).mpr q11; omega
      refine m_aload_n F rfl e_X2_changeIndex_14 ?_
      refine t_get F e_X2_changeIndex_15 fl_X2_27 (fun _ => o7) h1 hk rfl (fun v hv f1389 => ?_)
      obtain rfl : v = .ref (a + 4) := hv
      refine m_iload_n F rfl e_X2_changeIndex_18 ?_
      refine t_iald F (len := 8) (j := i) e_X2_changeIndex_19 (fun _ => o11) h1 (kA_7 hk (r := 4) (by decide)) (nI_clamp (by omega)) (vp_in_nI (by omega) (by decide)) (fun x1390 => ?_)
      refine m_aload_n F rfl e_X2_changeIndex_20 ?_
      refine t_get F e_X2_changeIndex_21 fl_X2_68 (fun _ => o7) h1 hk rfl (fun v hv f1391 => ?_)
      obtain ⟨n1392, hn1392, rfl⟩ := hv
      replace hn1392 : n1392 ≤ M := hn1392
      refine m_icmp_le F e_X2_changeIndex_24 (fun q24 => ?_) (fun q24 => ?_)
      · refine m_aload_n F rfl e_X2_changeIndex_40 ?_
        refine t_getC F e_X2_changeIndex_41 fl_X2_68 (fun _ => o7) h1 hk (f1391) ?_
        refine m_istore_n F (lv' := [(3, .int (nI n1392)), (2, .int u1), (0, .ref a), (1, .int x901)]) e_X2_changeIndex_44 (by decide) rfl ?_
        exact lp_X2_changeIndex_45 F hQ hk hM (1000000000 - n1392 + 1) n1392 u1 _ h1 (by omega) (Nat.lt_succ_self _)
      · refine m_aload_n F rfl e_X2_changeIndex_27 ?_
        refine t_getC F e_X2_changeIndex_28 fl_X2_27 (fun _ => o7) h1 hk (f1389) ?_
        refine m_iload_n F rfl e_X2_changeIndex_31 ?_
        refine t_iald F (len := 8) (j := i) e_X2_changeIndex_32 (fun _ => o11) h1 (kA_7 hk (r := 4) (by decide)) (nI_clamp (by omega)) (vp_in_nI (by omega) (by decide)) (fun x1393 => ?_)
        refine m_istore_n F (lv' := [(2, .int x1393), (3, .int (nI i)), (0, .ref a), (1, .int x901)]) e_X2_changeIndex_33 (by decide) rfl ?_
        rcases Nat.eq_zero_or_pos (i) with e34 | e34
        · subst e34
          refine m_iinc F (v := -1) (lv' := [(3, .int (-1)), (2, .int x1393), (0, .ref a), (1, .int x901)]) e_X2_changeIndex_34 rfl (by decide) (by decide) rfl ?_
          refine m_goto F e_X2_changeIndex_37 ?_
          refine m_iload_n F rfl e_X2_changeIndex_10 ?_
          refine m_if_lt F e_X2_changeIndex_11 (fun _ => ?_) (fun q => absurd (by decide) q)
          refine m_aload_n F rfl e_X2_changeIndex_40 ?_
          refine t_getC F e_X2_changeIndex_41 fl_X2_68 (fun _ => o7) h1 hk (f1391) ?_
          refine m_istore_n F (lv' := [(3, .int (nI n1392)), (2, .int x1393), (0, .ref a), (1, .int x901)]) e_X2_changeIndex_44 (by decide) rfl ?_
          exact lp_X2_changeIndex_45 F hQ hk hM (1000000000 - n1392 + 1) n1392 x1393 _ h1 (by omega) (Nat.lt_succ_self _)
        · refine m_iinc F (v := nI (i - 1)) (lv' := [(3, .int (nI (i - 1))), (2, .int x1393), (0, .ref a), (1, .int x901)]) e_X2_changeIndex_34 rfl (nI_dec (by omega)) (by decide) rfl ?_
          refine m_goto F e_X2_changeIndex_37 ?_
          exact ih (i - 1) x1393 _ h1 (by omega) (by omega)
set_option maxRecDepth 20000 in
theorem s_X2_changeIndex (l : Launch) (V : VX) (b M Z T N : Nat) (σ : Mem) (a : Nat) (x901 : Int32) (h0 : HT V (b, M, Z, T) σ) (hk : kA b a = 7) (hM : M + 0 ≤ 1000000000) : Ct l V yX2_changeIndex cX2_changeIndex 4 none 0 0 0 N σ [.ref a, .int x901] (fun r τ => HK V (b, M, Z, T) [0, 1, 2, 3, 4, 5, 6, 7, 8, 9, 11, 12, 13, 14, 15, 16, 17, 18, 19] σ τ ∧ r = none) := by
  refine Ct.of (by decide) (Nat.le_of_ble_eq_true rfl) [(0, .ref a), (1, .int x901)] rfl (fun X hX F hQ => ?_)
  have h1 : HK V (b, M, Z, T) [0, 1, 2, 3, 4, 5, 6, 7, 8, 9, 11, 12, 13, 14, 15, 16, 17, 18, 19] σ σ := HK.start h0
  refine m_bipush F (v := 100) (by decide) e_X2_changeIndex_0 ?_
  refine m_istore_n F (lv' := [(2, .int 100), (0, .ref a), (1, .int x901)]) e_X2_changeIndex_2 (by decide) rfl ?_
  refine m_aload_n F rfl e_X2_changeIndex_3 ?_
  refine t_get F e_X2_changeIndex_4 fl_X2_65 (fun _ => o7) h1 hk rfl (fun v hv f1394 => ?_)
  obtain ⟨n1395, hn1395, rfl⟩ := hv
  replace hn1395 : n1395 ≤ 8 := hn1395
  refine m_iconst F (v := 1) (by decide) e_X2_changeIndex_7 ?_
  refine m_isub F e_X2_changeIndex_8 ?_
  rcases Nat.eq_zero_or_pos (n1395) with e8 | e8
  · rw [e8]
    refine Wm.topE (w := -1) (by decide) ?_
    refine m_istore_n F (lv' := [(3, .int (-1)), (2, .int 100), (0, .ref a), (1, .int x901)]) e_X2_changeIndex_9 (by decide) rfl ?_
    refine m_iload_n F rfl e_X2_changeIndex_10 ?_
    refine m_if_lt F e_X2_changeIndex_11 (fun _ => ?_) (fun q => absurd (by decide) q)
    refine m_aload_n F rfl e_X2_changeIndex_40 ?_
    refine t_get F e_X2_changeIndex_41 fl_X2_68 (fun _ => o7) h1 hk rfl (fun v hv f1396 => ?_)
    obtain ⟨n1397, hn1397, rfl⟩ := hv
    replace hn1397 : n1397 ≤ M := hn1397
    refine m_istore_n F (lv' := [(3, .int (nI n1397)), (2, .int 100), (0, .ref a), (1, .int x901)]) e_X2_changeIndex_44 (by decide) rfl ?_
    exact lp_X2_changeIndex_45 F hQ hk hM (1000000000 - n1397 + 1) n1397 100 _ h1 (by omega) (Nat.lt_succ_self _)
  · refine Wm.topE (w := nI (n1395 - 1)) (pk_sub (a := n1395) (b := 1) (by omega)) ?_
    refine m_istore_n F (lv' := [(3, .int (nI (n1395 - 1))), (2, .int 100), (0, .ref a), (1, .int x901)]) e_X2_changeIndex_9 (by decide) rfl ?_
    exact lp_X2_changeIndex_10 F hQ hk hM ((n1395 - 1) + 1) (n1395 - 1) 100 _ h1 (by omega) (Nat.lt_succ_self _)
set_option maxRecDepth 20000 in
theorem s_X2_begin (l : Launch) (V : VX) (b M Z T N : Nat) (σ : Mem) (a : Nat) (x901 : Int32) (r902 : Nat) (h0 : HT V (b, M, Z, T) σ) (hk : kA b a = 7) (k902 : kA b r902 = 15) (hM : M + 1 ≤ 1000000000) : Ct l V yX2_begin cX2_begin 3 none 4 0 0 N σ [.ref a, .int x901, .ref r902] (fun r τ => HK V (b, M + 1, Z, T) [0, 1, 2, 3, 4, 5, 7, 8, 9, 10, 11, 16, 17, 19] σ τ ∧ r = none) := by
  refine Ct.of (by decide) (Nat.le_of_ble_eq_true rfl) [(0, .ref a), (1, .int x901), (2, .ref r902)] rfl (fun X hX F hQ => ?_)
  have h1 : HK V (b, M, Z, T) [0, 1, 2, 3, 4, 5, 7, 8, 9, 10, 11, 16, 17, 19] σ σ := HK.start h0
  refine m_aload_n F rfl e_X2_begin_0 ?_
  refine m_iconst F (v := 1) (by decide) e_X2_begin_1 ?_
  refine t_put F e_X2_begin_2 fp_X2_129 (fun _ => o15) h1 k902 rfl ⟨_, rfl⟩ rfl rfl (by decide) (fun σ1398 h1399 g1400 g1401 f1402 => ?_)
  refine m_aload_n F rfl e_X2_begin_5 ?_
  refine m_aload_n F rfl e_X2_begin_6 ?_
  refine t_callV F e_X2_begin_7 (s_X2_indexNow (x_l X) V b M Z T _ _ a  h1399.1 hk  (by omega)) cb_X2_indexNow ml_X2_153 im_X2_indexNow se_X2_indexNow (fun _ => o7) h1399 hk rfl rfl (rest := [.ref r902]) rfl (Nat.le_of_ble_eq_true rfl) ⟨Nat.le_of_ble_eq_true rfl, Nat.le_of_ble_eq_true rfl⟩ ⟨Nat.le_of_ble_eq_true rfl, Nat.le_of_ble_eq_true rfl⟩ (fun r σ1403 hp => ?_)
  obtain ⟨h1405, x1406, rfl⟩ := hp
  have h1404 := HK.trans h1399 h1405 (by decide)
  refine t_put F e_X2_begin_10 fp_X2_171 (fun _ => o15) h1404 k902 rfl ⟨_, rfl⟩ rfl rfl (by decide) (fun σ1407 h1408 g1409 g1410 f1411 => ?_)
  refine m_aload_n F rfl e_X2_begin_13 ?_
  refine m_aload_n F rfl e_X2_begin_14 ?_
  refine t_getC F e_X2_begin_15 fl_X2_171 (fun _ => o15) h1408 k902 (f1411) ?_
  refine t_put F e_X2_begin_18 fp_X2_157 (fun _ => o15) h1408 k902 rfl ⟨_, rfl⟩ rfl rfl (by decide) (fun σ1412 h1413 g1414 g1415 f1416 => ?_)
  refine m_aload_n F rfl e_X2_begin_21 ?_
  refine m_iconst F (v := 0) (by decide) e_X2_begin_22 ?_
  refine m_aload_n F rfl e_X2_begin_23 ?_
  refine t_get F e_X2_begin_24 fl_X2_123 (fun _ => o15) h1413 k902 rfl (fun v hv f1417 => ?_)
  obtain ⟨x1418, rfl⟩ := hv
  refine m_aload_n F rfl e_X2_begin_27 ?_
  refine t_get F e_X2_begin_28 fl_X2_136 (fun _ => o15) h1413 k902 rfl (fun v hv f1419 => ?_)
  obtain ⟨r1420, k1421, rfl⟩ := hv
  refine t_callV F e_X2_begin_31 (s_X5_worthFrom (x_l X) V b M Z T _ _ r902 0 x1418 r1420 h1413.1 k902 k1421 (by omega)) cb_X5_worthFrom ml_X2_174 im_X5_worthFrom se_X5_worthFrom (fun _ => o15) h1413 k902 rfl rfl (rest := []) rfl (Nat.le_of_ble_eq_true rfl) ⟨Nat.le_of_ble_eq_true rfl, Nat.le_of_ble_eq_true rfl⟩ ⟨Nat.le_of_ble_eq_true rfl, Nat.le_of_ble_eq_true rfl⟩ (fun r σ1422 hp => ?_)
  obtain ⟨h1424, rfl⟩ := hp
  have h1423 := HK.trans h1413 h1424 (by decide)
  refine m_aload_n F rfl e_X2_begin_34 ?_
  refine t_get F e_X2_begin_35 fl_X2_178 (fun _ => o15) h1423 k902 rfl (fun v hv f1425 => ?_)
  obtain ⟨r1426, k1427, rfl⟩ := hv
  refine m_aload_n F rfl e_X2_begin_38 ?_
  refine t_getC F e_X2_begin_39 fl_X2_136 (fun _ => o15) h1423 k902 ((fld_eq (h1424.2 r902 (by rw [show kA _ r902 = 15 from k902]; decide))).trans f1419) ?_
  refine t_callV F e_X2_begin_42 (s_X1_copyFrom (x_l X) V b M Z T _ _ r1426 r1420 h1423.1 k1427 k1421 (by omega)) cb_X1_copyFrom ml_X2_181 im_X1_copyFrom se_X1_copyFrom (fun _ => o6) h1423 k1427 rfl rfl (rest := []) rfl (Nat.le_of_ble_eq_true rfl) ⟨Nat.le_of_ble_eq_true rfl, Nat.le_of_ble_eq_true rfl⟩ ⟨Nat.le_of_ble_eq_true rfl, Nat.le_of_ble_eq_true rfl⟩ (fun r σ1428 hp => ?_)
  obtain ⟨h1430, rfl⟩ := hp
  have h1429 := HK.trans h1423 h1430 (by decide)
  refine m_aload_n F rfl e_X2_begin_45 ?_
  refine t_getC F e_X2_begin_46 fl_X2_178 (fun _ => o15) h1429 k902 ((fld_eq (h1430.2 r902 (by rw [show kA _ r902 = 15 from k902]; decide))).trans f1425) ?_
  refine m_aload_n F rfl e_X2_begin_49 ?_
  refine t_get F e_X2_begin_50 fl_X2_183 (fun _ => o15) h1429 k902 rfl (fun v hv f1431 => ?_)
  obtain ⟨x1432, rfl⟩ := hv
  refine m_i2l F e_X2_begin_53 ?_
  refine Wm.topl (fun x1433 _ => ?_)
  refine t_callV F e_X2_begin_54 (s_X1_addLong (x_l X) V b M Z T _ _ r1426 x1433 h1429.1 k1427  (by omega)) cb_X1_addLong ml_X2_186 im_X1_addLong se_X1_addLong (fun _ => o6) h1429 k1427 rfl rfl (rest := []) rfl (Nat.le_of_ble_eq_true rfl) ⟨Nat.le_of_ble_eq_true rfl, Nat.le_of_ble_eq_true rfl⟩ ⟨Nat.le_of_ble_eq_true rfl, Nat.le_of_ble_eq_true rfl⟩ (fun r σ1434 hp => ?_)
  obtain ⟨h1436, rfl⟩ := hp
  have h1435 := HK.trans h1429 h1436 (by decide)
  refine m_aload_n F rfl e_X2_begin_57 ?_
  refine t_get F e_X2_begin_58 fl_X2_189 (fun _ => o15) h1435 k902 rfl (fun v hv f1437 => ?_)
  obtain ⟨r1438, k1439, rfl⟩ := hv
  refine m_iconst F (v := 0) (by decide) e_X2_begin_61 ?_
  refine m_aload_n F rfl e_X2_begin_62 ?_
  refine t_getC F e_X2_begin_63 fl_X2_136 (fun _ => o15) h1435 k902 ((fld_eq (h1436.2 r902 (by rw [show kA _ r902 = 15 from k902]; decide))).trans ((fld_eq (h1430.2 r902 (by rw [show kA _ r902 = 15 from k902]; decide))).trans ((fld_eq (h1424.2 r902 (by rw [show kA _ r902 = 15 from k902]; decide))).trans f1419))) ?_
  refine t_callV F e_X2_begin_66 (s_X1_asLong (x_l X) V b M Z T _ _ r1420  h1435.1 k1421  (by omega)) cb_X1_asLong ml_X2_193 im_X1_asLong se_X1_asLong (fun _ => o6) h1435 k1421 rfl rfl (rest := [.int 0, .ref r1438]) rfl (Nat.le_of_ble_eq_true rfl) ⟨Nat.le_of_ble_eq_true rfl, Nat.le_of_ble_eq_true rfl⟩ ⟨Nat.le_of_ble_eq_true rfl, Nat.le_of_ble_eq_true rfl⟩ (fun r σ1440 hp => ?_)
  obtain ⟨h1442, x1443, rfl⟩ := hp
  have h1441 := HK.trans h1435 h1442 (by decide)
  refine t_last F (len := 5) (j := 0) e_X2_begin_69 (fun _ => o18) h1441 k1439 (by decide) (by unfold vp_in; decide) (by decide) (fun σ1444 h1445 g1446 => ?_)
  refine m_aload_n F rfl e_X2_begin_70 ?_
  refine t_get F e_X2_begin_71 fl_X2_33 (fun _ => o7) h1445 hk rfl (fun v hv f1447 => ?_)
  obtain rfl : v = .ref (a + 5) := hv
  refine m_iconst F (v := 0) (by decide) e_X2_begin_74 ?_
  refine m_aload_n F rfl e_X2_begin_75 ?_
  refine t_get F e_X2_begin_76 fl_X2_68 (fun _ => o7) h1445 hk rfl (fun v hv f1448 => ?_)
  obtain ⟨n1449, hn1449, rfl⟩ := hv
  replace hn1449 : n1449 ≤ M := hn1449
  refine m_iload_n F rfl e_X2_begin_79 ?_
  refine t_callV F e_X2_begin_80 (s_X3_open (x_l X) V b M Z T _ _ (a + 5) 0 (nI n1449) x901 h1445.1 (kA_7 hk (r := 5) (by decide))  (by omega)) cb_X3_open ml_X2_197 im_X3_open se_X3_open (fun _ => o12) h1445 (kA_7 hk (r := 5) (by decide)) rfl rfl (rest := []) rfl (Nat.le_of_ble_eq_true rfl) ⟨Nat.le_of_ble_eq_true rfl, Nat.le_of_ble_eq_true rfl⟩ ⟨Nat.le_of_ble_eq_true rfl, Nat.le_of_ble_eq_true rfl⟩ (fun r σ1450 hp => ?_)
  obtain ⟨h1452, rfl⟩ := hp
  have h1451 := HK.trans h1445 h1452 (by decide)
  refine m_aload_n F rfl e_X2_begin_83 ?_
  refine t_getC F e_X2_begin_84 fl_X2_33 (fun _ => o7) h1451 hk ((fld_eq (h1452.2 a (by rw [show kA _ a = 7 from hk]; decide))).trans f1447) ?_
  refine m_iconst F (v := 2) (by decide) e_X2_begin_87 ?_
  refine m_aload_n F rfl e_X2_begin_88 ?_
  refine t_getC F e_X2_begin_89 fl_X2_178 (fun _ => o15) h1451 k902 ((fld_eq (h1452.2 r902 (by rw [show kA _ r902 = 15 from k902]; decide))).trans ((g1446 r902 14 (fun e => absurd ((k902).symm.trans e) (by decide))).trans ((fld_eq (h1442.2 r902 (by rw [show kA _ r902 = 15 from k902]; decide))).trans ((fld_eq (h1436.2 r902 (by rw [show kA _ r902 = 15 from k902]; decide))).trans ((fld_eq (h1430.2 r902 (by rw [show kA _ r902 = 15 from k902]; decide))).trans f1425))))) ?_
  refine t_callV F e_X2_begin_92 (s_X1_asLong (x_l X) V b (M + 1) Z T _ _ r1426  h1451.1 k1427  (by omega)) cb_X1_asLong ml_X2_193 im_X1_asLong se_X1_asLong (fun _ => o6) h1451 k1427 rfl rfl (rest := [.int 2, .ref (a + 5)]) rfl (Nat.le_of_ble_eq_true rfl) ⟨Nat.le_of_ble_eq_true rfl, Nat.le_of_ble_eq_true rfl⟩ ⟨Nat.le_of_ble_eq_true rfl, Nat.le_of_ble_eq_true rfl⟩ (fun r σ1453 hp => ?_)
  obtain ⟨h1455, x1456, rfl⟩ := hp
  have h1454 := HK.trans h1451 h1455 (by decide)
  refine t_callV F e_X2_begin_95 (s_X3_put (x_l X) V b (M + 1) Z T _ _ (a + 5) 2 x1456 h1454.1 (kA_7 hk (r := 5) (by decide))  (by omega)) cb_X3_put ml_X2_201 im_X3_put se_X3_put (fun _ => o12) h1454 (kA_7 hk (r := 5) (by decide)) rfl rfl (rest := []) rfl (Nat.le_of_ble_eq_true rfl) ⟨Nat.le_of_ble_eq_true rfl, Nat.le_of_ble_eq_true rfl⟩ ⟨Nat.le_of_ble_eq_true rfl, Nat.le_of_ble_eq_true rfl⟩ (fun r σ1457 hp => ?_)
  obtain ⟨h1459, rfl⟩ := hp
  have h1458 := HK.trans h1454 h1459 (by decide)
  refine m_aload_n F rfl e_X2_begin_98 ?_
  refine t_getC F e_X2_begin_99 fl_X2_33 (fun _ => o7) h1458 hk ((fld_eq (h1459.2 a (by rw [show kA _ a = 7 from hk]; decide))).trans ((fld_eq (h1455.2 a (by rw [show kA _ a = 7 from hk]; decide))).trans ((fld_eq (h1452.2 a (by rw [show kA _ a = 7 from hk]; decide))).trans f1447))) ?_
  refine m_iconst F (v := 1) (by decide) e_X2_begin_102 ?_
  refine m_aload_n F rfl e_X2_begin_103 ?_
  refine t_getC F e_X2_begin_104 fl_X2_136 (fun _ => o15) h1458 k902 ((fld_eq (h1459.2 r902 (by rw [show kA _ r902 = 15 from k902]; decide))).trans ((fld_eq (h1455.2 r902 (by rw [show kA _ r902 = 15 from k902]; decide))).trans ((fld_eq (h1452.2 r902 (by rw [show kA _ r902 = 15 from k902]; decide))).trans ((g1446 r902 13 (fun e => absurd ((k902).symm.trans e) (by decide))).trans ((fld_eq (h1442.2 r902 (by rw [show kA _ r902 = 15 from k902]; decide))).trans ((fld_eq (h1436.2 r902 (by rw [show kA _ r902 = 15 from k902]; decide))).trans ((fld_eq (h1430.2 r902 (by rw [show kA _ r902 = 15 from k902]; decide))).trans ((fld_eq (h1424.2 r902 (by rw [show kA _ r902 = 15 from k902]; decide))).trans f1419)))))))) ?_
  refine t_callV F e_X2_begin_107 (s_X1_asLong (x_l X) V b (M + 1) Z T _ _ r1420  h1458.1 k1421  (by omega)) cb_X1_asLong ml_X2_193 im_X1_asLong se_X1_asLong (fun _ => o6) h1458 k1421 rfl rfl (rest := [.int 1, .ref (a + 5)]) rfl (Nat.le_of_ble_eq_true rfl) ⟨Nat.le_of_ble_eq_true rfl, Nat.le_of_ble_eq_true rfl⟩ ⟨Nat.le_of_ble_eq_true rfl, Nat.le_of_ble_eq_true rfl⟩ (fun r σ1460 hp => ?_)
  obtain ⟨h1462, x1463, rfl⟩ := hp
  have h1461 := HK.trans h1458 h1462 (by decide)
  refine m_lneg F e_X2_begin_110 ?_
  refine Wm.topl (fun x1464 _ => ?_)
  refine t_callV F e_X2_begin_111 (s_X3_put (x_l X) V b (M + 1) Z T _ _ (a + 5) 1 x1464 h1461.1 (kA_7 hk (r := 5) (by decide))  (by omega)) cb_X3_put ml_X2_201 im_X3_put se_X3_put (fun _ => o12) h1461 (kA_7 hk (r := 5) (by decide)) rfl rfl (rest := []) rfl (Nat.le_of_ble_eq_true rfl) ⟨Nat.le_of_ble_eq_true rfl, Nat.le_of_ble_eq_true rfl⟩ ⟨Nat.le_of_ble_eq_true rfl, Nat.le_of_ble_eq_true rfl⟩ (fun r σ1465 hp => ?_)
  obtain ⟨h1467, rfl⟩ := hp
  have h1466 := HK.trans h1461 h1467 (by decide)
  refine m_aload_n F rfl e_X2_begin_114 ?_
  refine t_getC F e_X2_begin_115 fl_X2_33 (fun _ => o7) h1466 hk ((fld_eq (h1467.2 a (by rw [show kA _ a = 7 from hk]; decide))).trans ((fld_eq (h1462.2 a (by rw [show kA _ a = 7 from hk]; decide))).trans ((fld_eq (h1459.2 a (by rw [show kA _ a = 7 from hk]; decide))).trans ((fld_eq (h1455.2 a (by rw [show kA _ a = 7 from hk]; decide))).trans ((fld_eq (h1452.2 a (by rw [show kA _ a = 7 from hk]; decide))).trans f1447))))) ?_
  refine m_iconst F (v := 0) (by decide) e_X2_begin_118 ?_
  refine m_aload_n F rfl e_X2_begin_119 ?_
  refine t_getC F e_X2_begin_120 fl_X2_183 (fun _ => o15) h1466 k902 ((fld_eq (h1467.2 r902 (by rw [show kA _ r902 = 15 from k902]; decide))).trans ((fld_eq (h1462.2 r902 (by rw [show kA _ r902 = 15 from k902]; decide))).trans ((fld_eq (h1459.2 r902 (by rw [show kA _ r902 = 15 from k902]; decide))).trans ((fld_eq (h1455.2 r902 (by rw [show kA _ r902 = 15 from k902]; decide))).trans ((fld_eq (h1452.2 r902 (by rw [show kA _ r902 = 15 from k902]; decide))).trans ((g1446 r902 5 (fun e => absurd ((k902).symm.trans e) (by decide))).trans ((fld_eq (h1442.2 r902 (by rw [show kA _ r902 = 15 from k902]; decide))).trans ((fld_eq (h1436.2 r902 (by rw [show kA _ r902 = 15 from k902]; decide))).trans f1431)))))))) ?_
  refine m_ineg F e_X2_begin_123 ?_
  refine Wm.top (fun x1468 _ => ?_)
  refine m_i2l F e_X2_begin_124 ?_
  refine Wm.topl (fun x1469 _ => ?_)
  refine t_callV F e_X2_begin_125 (s_X3_put (x_l X) V b (M + 1) Z T _ _ (a + 5) 0 x1469 h1466.1 (kA_7 hk (r := 5) (by decide))  (by omega)) cb_X3_put ml_X2_201 im_X3_put se_X3_put (fun _ => o12) h1466 (kA_7 hk (r := 5) (by decide)) rfl rfl (rest := []) rfl (Nat.le_of_ble_eq_true rfl) ⟨Nat.le_of_ble_eq_true rfl, Nat.le_of_ble_eq_true rfl⟩ ⟨Nat.le_of_ble_eq_true rfl, Nat.le_of_ble_eq_true rfl⟩ (fun r σ1470 hp => ?_)
  obtain ⟨h1472, rfl⟩ := hp
  have h1471 := HK.trans h1466 h1472 (by decide)
  exact m_vret F hQ e_X2_begin_128 (⟨h1471, rfl⟩)
set_option maxRecDepth 20000 in
theorem s_X2_payAndWriteOff (l : Launch) (V : VX) (b M Z T N : Nat) (σ : Mem) (a : Nat) (x901 : Int32) (r902 : Nat) (h0 : HT V (b, M, Z, T) σ) (hk : kA b a = 7) (k902 : kA b r902 = 15) (hM : M + 1 ≤ 1000000000) : Ct l V yX2_payAndWriteOff cX2_payAndWriteOff 12 none 4 0 0 N σ [.ref a, .int x901, .ref r902] (fun r τ => HK V (b, M + 1, Z, T) [0, 1, 2, 3, 4, 5, 7, 8, 9, 10, 11, 16, 17, 19] σ τ ∧ r = none) := by
  refine Ct.of (by decide) (Nat.le_of_ble_eq_true rfl) [(0, .ref a), (1, .int x901), (2, .ref r902)] rfl (fun X hX F hQ => ?_)
  have h1 : HK V (b, M, Z, T) [0, 1, 2, 3, 4, 5, 7, 8, 9, 10, 11, 16, 17, 19] σ σ := HK.start h0
  refine m_aload_n F rfl e_X2_payAndWriteOff_0 ?_
  refine t_callV F e_X2_payAndWriteOff_1 (s_X5_left (x_l X) V b M Z T _ _ r902  h1.1 k902  (by omega)) cb_X5_left ml_X2_205 im_X5_left se_X5_left (fun _ => o15) h1 k902 rfl rfl (rest := []) rfl (Nat.le_of_ble_eq_true rfl) ⟨Nat.le_of_ble_eq_true rfl, Nat.le_of_ble_eq_true rfl⟩ ⟨Nat.le_of_ble_eq_true rfl, Nat.le_of_ble_eq_true rfl⟩ (fun r σ1473 hp => ?_)
  obtain ⟨h1475, x1476, rfl⟩ := hp
  have h1474 := HK.trans h1 h1475 (by decide)
  refine m_istore_n F (lv' := [(3, .int x1476), (0, .ref a), (1, .int x901), (2, .ref r902)]) e_X2_payAndWriteOff_4 (by decide) rfl ?_
  refine m_iload_n F rfl e_X2_payAndWriteOff_5 ?_
  refine m_iconst F (v := 1) (by decide) e_X2_payAndWriteOff_6 ?_
  refine m_icmp_ge F e_X2_payAndWriteOff_7 (fun q7 => ?_) (fun q7 => ?_)
  · obtain ⟨n1477, hn1477, rfl⟩ := nI_nn (x := x1476) (fun e => Int32.lt_irrefl (Int32.lt_of_lt_of_le e (Int32.le_trans (by decide) q7)))
    have c7 : n1477 ≥ 1 := (nI_leI (a := 1) (b := n1477) (by omega) (by omega)).mp q7
    refine m_aload_n F rfl e_X2_payAndWriteOff_11 ?_
    refine t_get F e_X2_payAndWriteOff_12 fl_X2_208 (fun _ => o15) h1474 k902 rfl (fun v hv f1478 => ?_)
    obtain ⟨r1479, k1480, rfl⟩ := hv
    refine m_aload_n F rfl e_X2_payAndWriteOff_15 ?_
    refine t_get F e_X2_payAndWriteOff_16 fl_X2_212 (fun _ => o15) h1474 k902 rfl (fun v hv f1481 => ?_)
    obtain ⟨x1482, rfl⟩ := hv
    refine m_aload_n F rfl e_X2_payAndWriteOff_19 ?_
    refine t_get F e_X2_payAndWriteOff_20 fl_X2_44 (fun _ => o7) h1474 hk rfl (fun v hv f1483 => ?_)
    obtain rfl : v = .ref (a + 9) := hv
    refine t_callV F e_X2_payAndWriteOff_23 (s_X8_copyTo (x_l X) V b M Z T _ _ r1479 x1482 (a + 9) h1474.1 k1480 (kA_7 hk (r := 9) (by decide)) (by omega)) cb_X8_copyTo ml_X2_215 im_X8_copyTo se_X8_copyTo (fun _ => o16) h1474 k1480 rfl rfl (rest := []) rfl (Nat.le_of_ble_eq_true rfl) ⟨Nat.le_of_ble_eq_true rfl, Nat.le_of_ble_eq_true rfl⟩ ⟨Nat.le_of_ble_eq_true rfl, Nat.le_of_ble_eq_true rfl⟩ (fun r σ1484 hp => ?_)
    obtain ⟨h1486, rfl⟩ := hp
    have h1485 := HK.trans h1474 h1486 (by decide)
    refine m_aload_n F rfl e_X2_payAndWriteOff_26 ?_
    refine t_get F e_X2_payAndWriteOff_27 fl_X2_40 (fun _ => o7) h1485 hk rfl (fun v hv f1487 => ?_)
    obtain rfl : v = .ref (a + 8) := hv
    refine m_aload_n F rfl e_X2_payAndWriteOff_30 ?_
    refine t_getC F e_X2_payAndWriteOff_31 fl_X2_44 (fun _ => o7) h1485 hk ((fld_eq (h1486.2 a (by rw [show kA _ a = 7 from hk]; decide))).trans f1483) ?_
    refine t_callV F e_X2_payAndWriteOff_34 (s_X1_add (x_l X) V b M Z T _ _ (a + 8) (a + 9) h1485.1 (kA_7 hk (r := 8) (by decide)) (kA_7 hk (r := 9) (by decide)) (by omega)) cb_X1_add ml_X2_139 im_X1_add se_X1_add (fun _ => o6) h1485 (kA_7 hk (r := 8) (by decide)) rfl rfl (rest := []) rfl (Nat.le_of_ble_eq_true rfl) ⟨Nat.le_of_ble_eq_true rfl, Nat.le_of_ble_eq_true rfl⟩ ⟨Nat.le_of_ble_eq_true rfl, Nat.le_of_ble_eq_true rfl⟩ (fun r σ1488 hp => ?_)
    obtain ⟨h1490, rfl⟩ := hp
    have h1489 := HK.trans h1485 h1490 (by decide)
    refine m_aload_n F rfl e_X2_payAndWriteOff_37 ?_
    refine m_aload_n F rfl e_X2_payAndWriteOff_38 ?_
    refine t_getC F e_X2_payAndWriteOff_39 fl_X2_44 (fun _ => o7) h1489 hk ((fld_eq (h1490.2 a (by rw [show kA _ a = 7 from hk]; decide))).trans ((fld_eq (h1486.2 a (by rw [show kA _ a = 7 from hk]; decide))).trans f1483)) ?_
    refine m_aload_n F rfl e_X2_payAndWriteOff_42 ?_
    refine t_get F e_X2_payAndWriteOff_43 fl_X2_47 (fun _ => o7) h1489 hk rfl (fun v hv f1491 => ?_)
    obtain rfl : v = .ref (a + 10) := hv
    refine t_callV F e_X2_payAndWriteOff_46 (s_X5_owedBehind (x_l X) V b M Z T _ _ r902 (a + 9) (a + 10) h1489.1 k902 (kA_7 hk (r := 9) (by decide)) (kA_7 hk (r := 10) (by decide)) (by omega)) cb_X5_owedBehind ml_X2_221 im_X5_owedBehind se_X5_owedBehind (fun _ => o15) h1489 k902 rfl rfl (rest := []) rfl (Nat.le_of_ble_eq_true rfl) ⟨Nat.le_of_ble_eq_true rfl, Nat.le_of_ble_eq_true rfl⟩ ⟨Nat.le_of_ble_eq_true rfl, Nat.le_of_ble_eq_true rfl⟩ (fun r σ1492 hp => ?_)
    obtain ⟨h1494, rfl⟩ := hp
    have h1493 := HK.trans h1489 h1494 (by decide)
    refine m_aload_n F rfl e_X2_payAndWriteOff_49 ?_
    refine t_getC F e_X2_payAndWriteOff_50 fl_X2_44 (fun _ => o7) h1493 hk ((fld_eq (h1494.2 a (by rw [show kA _ a = 7 from hk]; decide))).trans ((fld_eq (h1490.2 a (by rw [show kA _ a = 7 from hk]; decide))).trans ((fld_eq (h1486.2 a (by rw [show kA _ a = 7 from hk]; decide))).trans f1483))) ?_
    refine t_callV F e_X2_payAndWriteOff_53 (s_X1_asLong (x_l X) V b M Z T _ _ (a + 9)  h1493.1 (kA_7 hk (r := 9) (by decide))  (by omega)) cb_X1_asLong ml_X2_193 im_X1_asLong se_X1_asLong (fun _ => o6) h1493 (kA_7 hk (r := 9) (by decide)) rfl rfl (rest := []) rfl (Nat.le_of_ble_eq_true rfl) ⟨Nat.le_of_ble_eq_true rfl, Nat.le_of_ble_eq_true rfl⟩ ⟨Nat.le_of_ble_eq_true rfl, Nat.le_of_ble_eq_true rfl⟩ (fun r σ1495 hp => ?_)
    obtain ⟨h1497, x1498, rfl⟩ := hp
    have h1496 := HK.trans h1493 h1497 (by decide)
    refine m_lstore F (lv' := [(4, .long x1498), (3, .int (nI n1477)), (0, .ref a), (1, .int x901), (2, .ref r902)]) e_X2_payAndWriteOff_56 (by decide) rfl ?_
    refine m_aload_n F rfl e_X2_payAndWriteOff_58 ?_
    refine t_get F e_X2_payAndWriteOff_59 fl_X2_136 (fun _ => o15) h1496 k902 rfl (fun v hv f1499 => ?_)
    obtain ⟨r1500, k1501, rfl⟩ := hv
    refine t_callV F e_X2_payAndWriteOff_62 (s_X1_asLong (x_l X) V b M Z T _ _ r1500  h1496.1 k1501  (by omega)) cb_X1_asLong ml_X2_193 im_X1_asLong se_X1_asLong (fun _ => o6) h1496 k1501 rfl rfl (rest := []) rfl (Nat.le_of_ble_eq_true rfl) ⟨Nat.le_of_ble_eq_true rfl, Nat.le_of_ble_eq_true rfl⟩ ⟨Nat.le_of_ble_eq_true rfl, Nat.le_of_ble_eq_true rfl⟩ (fun r σ1502 hp => ?_)
    obtain ⟨h1504, x1505, rfl⟩ := hp
    have h1503 := HK.trans h1496 h1504 (by decide)
    refine m_aload_n F rfl e_X2_payAndWriteOff_65 ?_
    refine t_getC F e_X2_payAndWriteOff_66 fl_X2_47 (fun _ => o7) h1503 hk ((fld_eq (h1504.2 a (by rw [show kA _ a = 7 from hk]; decide))).trans ((fld_eq (h1497.2 a (by rw [show kA _ a = 7 from hk]; decide))).trans ((fld_eq (h1494.2 a (by rw [show kA _ a = 7 from hk]; decide))).trans f1491))) ?_
    refine t_callV F e_X2_payAndWriteOff_69 (s_X1_asLong (x_l X) V b M Z T _ _ (a + 10)  h1503.1 (kA_7 hk (r := 10) (by decide))  (by omega)) cb_X1_asLong ml_X2_193 im_X1_asLong se_X1_asLong (fun _ => o6) h1503 (kA_7 hk (r := 10) (by decide)) rfl rfl (rest := [.long x1505]) rfl (Nat.le_of_ble_eq_true rfl) ⟨Nat.le_of_ble_eq_true rfl, Nat.le_of_ble_eq_true rfl⟩ ⟨Nat.le_of_ble_eq_true rfl, Nat.le_of_ble_eq_true rfl⟩ (fun r σ1506 hp => ?_)
    obtain ⟨h1508, x1509, rfl⟩ := hp
    have h1507 := HK.trans h1503 h1508 (by decide)
    refine m_lsub F e_X2_payAndWriteOff_72 ?_
    refine Wm.topl (fun x1510 _ => ?_)
    refine m_lstore F (lv' := [(6, .long x1510), (4, .long x1498), (3, .int (nI n1477)), (0, .ref a), (1, .int x901), (2, .ref r902)]) e_X2_payAndWriteOff_73 (by decide) rfl ?_
    refine m_lload F rfl e_X2_payAndWriteOff_75 ?_
    refine m_lload F rfl e_X2_payAndWriteOff_77 ?_
    refine m_lsub F e_X2_payAndWriteOff_79 ?_
    refine Wm.topl (fun x1511 _ => ?_)
    refine m_lstore F (lv' := [(8, .long x1511), (6, .long x1510), (4, .long x1498), (3, .int (nI n1477)), (0, .ref a), (1, .int x901), (2, .ref r902)]) e_X2_payAndWriteOff_80 (by decide) rfl ?_
    refine m_aload_n F rfl e_X2_payAndWriteOff_82 ?_
    refine t_getC F e_X2_payAndWriteOff_83 fl_X2_136 (fun _ => o15) h1507 k902 ((fld_eq (h1508.2 r902 (by rw [show kA _ r902 = 15 from k902]; decide))).trans ((fld_eq (h1504.2 r902 (by rw [show kA _ r902 = 15 from k902]; decide))).trans f1499)) ?_
    refine m_aload_n F rfl e_X2_payAndWriteOff_86 ?_
    refine t_getC F e_X2_payAndWriteOff_87 fl_X2_47 (fun _ => o7) h1507 hk ((fld_eq (h1508.2 a (by rw [show kA _ a = 7 from hk]; decide))).trans ((fld_eq (h1504.2 a (by rw [show kA _ a = 7 from hk]; decide))).trans ((fld_eq (h1497.2 a (by rw [show kA _ a = 7 from hk]; decide))).trans ((fld_eq (h1494.2 a (by rw [show kA _ a = 7 from hk]; decide))).trans f1491)))) ?_
    refine t_callV F e_X2_payAndWriteOff_90 (s_X1_copyFrom (x_l X) V b M Z T _ _ r1500 (a + 10) h1507.1 k1501 (kA_7 hk (r := 10) (by decide)) (by omega)) cb_X1_copyFrom ml_X2_181 im_X1_copyFrom se_X1_copyFrom (fun _ => o6) h1507 k1501 rfl rfl (rest := []) rfl (Nat.le_of_ble_eq_true rfl) ⟨Nat.le_of_ble_eq_true rfl, Nat.le_of_ble_eq_true rfl⟩ ⟨Nat.le_of_ble_eq_true rfl, Nat.le_of_ble_eq_true rfl⟩ (fun r σ1512 hp => ?_)
    obtain ⟨h1514, rfl⟩ := hp
    have h1513 := HK.trans h1507 h1514 (by decide)
    refine m_aload_n F rfl e_X2_payAndWriteOff_93 ?_
    refine t_getC F e_X2_payAndWriteOff_94 fl_X2_47 (fun _ => o7) h1513 hk ((fld_eq (h1514.2 a (by rw [show kA _ a = 7 from hk]; decide))).trans ((fld_eq (h1508.2 a (by rw [show kA _ a = 7 from hk]; decide))).trans ((fld_eq (h1504.2 a (by rw [show kA _ a = 7 from hk]; decide))).trans ((fld_eq (h1497.2 a (by rw [show kA _ a = 7 from hk]; decide))).trans ((fld_eq (h1494.2 a (by rw [show kA _ a = 7 from hk]; decide))).trans f1491))))) ?_
    refine m_aload_n F rfl e_X2_payAndWriteOff_97 ?_
    refine t_get F e_X2_payAndWriteOff_98 fl_X2_178 (fun _ => o15) h1513 k902 rfl (fun v hv f1515 => ?_)
    obtain ⟨r1516, k1517, rfl⟩ := hv
    refine t_callV F e_X2_payAndWriteOff_101 (s_X1_copyFrom (x_l X) V b M Z T _ _ (a + 10) r1516 h1513.1 (kA_7 hk (r := 10) (by decide)) k1517 (by omega)) cb_X1_copyFrom ml_X2_181 im_X1_copyFrom se_X1_copyFrom (fun _ => o6) h1513 (kA_7 hk (r := 10) (by decide)) rfl rfl (rest := []) rfl (Nat.le_of_ble_eq_true rfl) ⟨Nat.le_of_ble_eq_true rfl, Nat.le_of_ble_eq_true rfl⟩ ⟨Nat.le_of_ble_eq_true rfl, Nat.le_of_ble_eq_true rfl⟩ (fun r σ1518 hp => ?_)
    obtain ⟨h1520, rfl⟩ := hp
    have h1519 := HK.trans h1513 h1520 (by decide)
    refine m_aload_n F rfl e_X2_payAndWriteOff_104 ?_
    refine t_getC F e_X2_payAndWriteOff_105 fl_X2_47 (fun _ => o7) h1519 hk ((fld_eq (h1520.2 a (by rw [show kA _ a = 7 from hk]; decide))).trans ((fld_eq (h1514.2 a (by rw [show kA _ a = 7 from hk]; decide))).trans ((fld_eq (h1508.2 a (by rw [show kA _ a = 7 from hk]; decide))).trans ((fld_eq (h1504.2 a (by rw [show kA _ a = 7 from hk]; decide))).trans ((fld_eq (h1497.2 a (by rw [show kA _ a = 7 from hk]; decide))).trans ((fld_eq (h1494.2 a (by rw [show kA _ a = 7 from hk]; decide))).trans f1491)))))) ?_
    refine m_lconst F (v := 1) (by decide) e_X2_payAndWriteOff_108 ?_
    refine m_iload_n F rfl e_X2_payAndWriteOff_109 ?_
    refine m_i2l F e_X2_payAndWriteOff_110 ?_
    refine Wm.topl (fun x1521 _ => ?_)
    refine t_callV F e_X2_payAndWriteOff_111 (s_X1_shareDown (x_l X) V b M Z T _ _ (a + 10) 1 x1521 h1519.1 (kA_7 hk (r := 10) (by decide))  (by omega)) cb_X1_shareDown ml_X2_225 im_X1_shareDown se_X1_shareDown (fun _ => o6) h1519 (kA_7 hk (r := 10) (by decide)) rfl rfl (rest := []) rfl (Nat.le_of_ble_eq_true rfl) ⟨Nat.le_of_ble_eq_true rfl, Nat.le_of_ble_eq_true rfl⟩ ⟨Nat.le_of_ble_eq_true rfl, Nat.le_of_ble_eq_true rfl⟩ (fun r σ1522 hp => ?_)
    obtain ⟨h1524, rfl⟩ := hp
    have h1523 := HK.trans h1519 h1524 (by decide)
    refine m_aload_n F rfl e_X2_payAndWriteOff_114 ?_
    refine t_getC F e_X2_payAndWriteOff_115 fl_X2_47 (fun _ => o7) h1523 hk ((fld_eq (h1524.2 a (by rw [show kA _ a = 7 from hk]; decide))).trans ((fld_eq (h1520.2 a (by rw [show kA _ a = 7 from hk]; decide))).trans ((fld_eq (h1514.2 a (by rw [show kA _ a = 7 from hk]; decide))).trans ((fld_eq (h1508.2 a (by rw [show kA _ a = 7 from hk]; decide))).trans ((fld_eq (h1504.2 a (by rw [show kA _ a = 7 from hk]; decide))).trans ((fld_eq (h1497.2 a (by rw [show kA _ a = 7 from hk]; decide))).trans ((fld_eq (h1494.2 a (by rw [show kA _ a = 7 from hk]; decide))).trans f1491))))))) ?_
    refine t_callV F e_X2_payAndWriteOff_118 (s_X1_asLong (x_l X) V b M Z T _ _ (a + 10)  h1523.1 (kA_7 hk (r := 10) (by decide))  (by omega)) cb_X1_asLong ml_X2_193 im_X1_asLong se_X1_asLong (fun _ => o6) h1523 (kA_7 hk (r := 10) (by decide)) rfl rfl (rest := []) rfl (Nat.le_of_ble_eq_true rfl) ⟨Nat.le_of_ble_eq_true rfl, Nat.le_of_ble_eq_true rfl⟩ ⟨Nat.le_of_ble_eq_true rfl, Nat.le_of_ble_eq_true rfl⟩ (fun r σ1525 hp => ?_)
    obtain ⟨h1527, x1528, rfl⟩ := hp
    have h1526 := HK.trans h1523 h1527 (by decide)
    refine m_lstore F (lv' := [(10, .long x1528), (8, .long x1511), (6, .long x1510), (4, .long x1498), (3, .int (nI n1477)), (0, .ref a), (1, .int x901), (2, .ref r902)]) e_X2_payAndWriteOff_121 (by decide) rfl ?_
    refine m_aload_n F rfl e_X2_payAndWriteOff_123 ?_
    refine t_getC F e_X2_payAndWriteOff_124 fl_X2_178 (fun _ => o15) h1526 k902 ((fld_eq (h1527.2 r902 (by rw [show kA _ r902 = 15 from k902]; decide))).trans ((fld_eq (h1524.2 r902 (by rw [show kA _ r902 = 15 from k902]; decide))).trans ((fld_eq (h1520.2 r902 (by rw [show kA _ r902 = 15 from k902]; decide))).trans f1515))) ?_
    refine m_aload_n F rfl e_X2_payAndWriteOff_127 ?_
    refine t_getC F e_X2_payAndWriteOff_128 fl_X2_47 (fun _ => o7) h1526 hk ((fld_eq (h1527.2 a (by rw [show kA _ a = 7 from hk]; decide))).trans ((fld_eq (h1524.2 a (by rw [show kA _ a = 7 from hk]; decide))).trans ((fld_eq (h1520.2 a (by rw [show kA _ a = 7 from hk]; decide))).trans ((fld_eq (h1514.2 a (by rw [show kA _ a = 7 from hk]; decide))).trans ((fld_eq (h1508.2 a (by rw [show kA _ a = 7 from hk]; decide))).trans ((fld_eq (h1504.2 a (by rw [show kA _ a = 7 from hk]; decide))).trans ((fld_eq (h1497.2 a (by rw [show kA _ a = 7 from hk]; decide))).trans ((fld_eq (h1494.2 a (by rw [show kA _ a = 7 from hk]; decide))).trans f1491)))))))) ?_
    refine t_callV F e_X2_payAndWriteOff_131 (s_X1_subtract (x_l X) V b M Z T _ _ r1516 (a + 10) h1526.1 k1517 (kA_7 hk (r := 10) (by decide)) (by omega)) cb_X1_subtract ml_X2_229 im_X1_subtract se_X1_subtract (fun _ => o6) h1526 k1517 rfl rfl (rest := []) rfl (Nat.le_of_ble_eq_true rfl) ⟨Nat.le_of_ble_eq_true rfl, Nat.le_of_ble_eq_true rfl⟩ ⟨Nat.le_of_ble_eq_true rfl, Nat.le_of_ble_eq_true rfl⟩ (fun r σ1529 hp => ?_)
    obtain ⟨h1531, rfl⟩ := hp
    have h1530 := HK.trans h1526 h1531 (by decide)
    refine m_aload_n F rfl e_X2_payAndWriteOff_134 ?_
    refine t_get F e_X2_payAndWriteOff_135 fl_X2_33 (fun _ => o7) h1530 hk rfl (fun v hv f1532 => ?_)
    obtain rfl : v = .ref (a + 5) := hv
    refine m_iconst F (v := 1) (by decide) e_X2_payAndWriteOff_138 ?_
    refine m_aload_n F rfl e_X2_payAndWriteOff_139 ?_
    refine t_get F e_X2_payAndWriteOff_140 fl_X2_68 (fun _ => o7) h1530 hk rfl (fun v hv f1533 => ?_)
    obtain ⟨n1534, hn1534, rfl⟩ := hv
    replace hn1534 : n1534 ≤ M := hn1534
    refine m_iload_n F rfl e_X2_payAndWriteOff_143 ?_
    refine t_callV F e_X2_payAndWriteOff_144 (s_X3_open (x_l X) V b M Z T _ _ (a + 5) 1 (nI n1534) x901 h1530.1 (kA_7 hk (r := 5) (by decide))  (by omega)) cb_X3_open ml_X2_197 im_X3_open se_X3_open (fun _ => o12) h1530 (kA_7 hk (r := 5) (by decide)) rfl rfl (rest := []) rfl (Nat.le_of_ble_eq_true rfl) ⟨Nat.le_of_ble_eq_true rfl, Nat.le_of_ble_eq_true rfl⟩ ⟨Nat.le_of_ble_eq_true rfl, Nat.le_of_ble_eq_true rfl⟩ (fun r σ1535 hp => ?_)
    obtain ⟨h1537, rfl⟩ := hp
    have h1536 := HK.trans h1530 h1537 (by decide)
    refine m_aload_n F rfl e_X2_payAndWriteOff_147 ?_
    refine t_getC F e_X2_payAndWriteOff_148 fl_X2_33 (fun _ => o7) h1536 hk ((fld_eq (h1537.2 a (by rw [show kA _ a = 7 from hk]; decide))).trans f1532) ?_
    refine m_iconst F (v := 0) (by decide) e_X2_payAndWriteOff_151 ?_
    refine m_lload F rfl e_X2_payAndWriteOff_152 ?_
    refine m_lneg F e_X2_payAndWriteOff_154 ?_
    refine Wm.topl (fun x1538 _ => ?_)
    refine t_callV F e_X2_payAndWriteOff_155 (s_X3_put (x_l X) V b (M + 1) Z T _ _ (a + 5) 0 x1538 h1536.1 (kA_7 hk (r := 5) (by decide))  (by omega)) cb_X3_put ml_X2_201 im_X3_put se_X3_put (fun _ => o12) h1536 (kA_7 hk (r := 5) (by decide)) rfl rfl (rest := []) rfl (Nat.le_of_ble_eq_true rfl) ⟨Nat.le_of_ble_eq_true rfl, Nat.le_of_ble_eq_true rfl⟩ ⟨Nat.le_of_ble_eq_true rfl, Nat.le_of_ble_eq_true rfl⟩ (fun r σ1539 hp => ?_)
    obtain ⟨h1541, rfl⟩ := hp
    have h1540 := HK.trans h1536 h1541 (by decide)
    refine m_aload_n F rfl e_X2_payAndWriteOff_158 ?_
    refine t_getC F e_X2_payAndWriteOff_159 fl_X2_33 (fun _ => o7) h1540 hk ((fld_eq (h1541.2 a (by rw [show kA _ a = 7 from hk]; decide))).trans ((fld_eq (h1537.2 a (by rw [show kA _ a = 7 from hk]; decide))).trans f1532)) ?_
    refine m_iconst F (v := 1) (by decide) e_X2_payAndWriteOff_162 ?_
    refine m_lload F rfl e_X2_payAndWriteOff_163 ?_
    refine t_callV F e_X2_payAndWriteOff_165 (s_X3_put (x_l X) V b (M + 1) Z T _ _ (a + 5) 1 x1510 h1540.1 (kA_7 hk (r := 5) (by decide))  (by omega)) cb_X3_put ml_X2_201 im_X3_put se_X3_put (fun _ => o12) h1540 (kA_7 hk (r := 5) (by decide)) rfl rfl (rest := []) rfl (Nat.le_of_ble_eq_true rfl) ⟨Nat.le_of_ble_eq_true rfl, Nat.le_of_ble_eq_true rfl⟩ ⟨Nat.le_of_ble_eq_true rfl, Nat.le_of_ble_eq_true rfl⟩ (fun r σ1542 hp => ?_)
    obtain ⟨h1544, rfl⟩ := hp
    have h1543 := HK.trans h1540 h1544 (by decide)
    refine m_aload_n F rfl e_X2_payAndWriteOff_168 ?_
    refine t_getC F e_X2_payAndWriteOff_169 fl_X2_33 (fun _ => o7) h1543 hk ((fld_eq (h1544.2 a (by rw [show kA _ a = 7 from hk]; decide))).trans ((fld_eq (h1541.2 a (by rw [show kA _ a = 7 from hk]; decide))).trans ((fld_eq (h1537.2 a (by rw [show kA _ a = 7 from hk]; decide))).trans f1532))) ?_
    refine m_iconst F (v := 2) (by decide) e_X2_payAndWriteOff_172 ?_
    refine m_lload F rfl e_X2_payAndWriteOff_173 ?_
    refine m_lneg F e_X2_payAndWriteOff_175 ?_
    refine Wm.topl (fun x1545 _ => ?_)
    refine t_callV F e_X2_payAndWriteOff_176 (s_X3_put (x_l X) V b (M + 1) Z T _ _ (a + 5) 2 x1545 h1543.1 (kA_7 hk (r := 5) (by decide))  (by omega)) cb_X3_put ml_X2_201 im_X3_put se_X3_put (fun _ => o12) h1543 (kA_7 hk (r := 5) (by decide)) rfl rfl (rest := []) rfl (Nat.le_of_ble_eq_true rfl) ⟨Nat.le_of_ble_eq_true rfl, Nat.le_of_ble_eq_true rfl⟩ ⟨Nat.le_of_ble_eq_true rfl, Nat.le_of_ble_eq_true rfl⟩ (fun r σ1546 hp => ?_)
    obtain ⟨h1548, rfl⟩ := hp
    have h1547 := HK.trans h1543 h1548 (by decide)
    refine m_aload_n F rfl e_X2_payAndWriteOff_179 ?_
    refine t_getC F e_X2_payAndWriteOff_180 fl_X2_33 (fun _ => o7) h1547 hk ((fld_eq (h1548.2 a (by rw [show kA _ a = 7 from hk]; decide))).trans ((fld_eq (h1544.2 a (by rw [show kA _ a = 7 from hk]; decide))).trans ((fld_eq (h1541.2 a (by rw [show kA _ a = 7 from hk]; decide))).trans ((fld_eq (h1537.2 a (by rw [show kA _ a = 7 from hk]; decide))).trans f1532)))) ?_
    refine m_iconst F (v := 3) (by decide) e_X2_payAndWriteOff_183 ?_
    refine m_lload F rfl e_X2_payAndWriteOff_184 ?_
    refine t_callV F e_X2_payAndWriteOff_186 (s_X3_put (x_l X) V b (M + 1) Z T _ _ (a + 5) 3 x1511 h1547.1 (kA_7 hk (r := 5) (by decide))  (by omega)) cb_X3_put ml_X2_201 im_X3_put se_X3_put (fun _ => o12) h1547 (kA_7 hk (r := 5) (by decide)) rfl rfl (rest := []) rfl (Nat.le_of_ble_eq_true rfl) ⟨Nat.le_of_ble_eq_true rfl, Nat.le_of_ble_eq_true rfl⟩ ⟨Nat.le_of_ble_eq_true rfl, Nat.le_of_ble_eq_true rfl⟩ (fun r σ1549 hp => ?_)
    obtain ⟨h1551, rfl⟩ := hp
    have h1550 := HK.trans h1547 h1551 (by decide)
    refine m_aload_n F rfl e_X2_payAndWriteOff_189 ?_
    refine t_getC F e_X2_payAndWriteOff_190 fl_X2_33 (fun _ => o7) h1550 hk ((fld_eq (h1551.2 a (by rw [show kA _ a = 7 from hk]; decide))).trans ((fld_eq (h1548.2 a (by rw [show kA _ a = 7 from hk]; decide))).trans ((fld_eq (h1544.2 a (by rw [show kA _ a = 7 from hk]; decide))).trans ((fld_eq (h1541.2 a (by rw [show kA _ a = 7 from hk]; decide))).trans ((fld_eq (h1537.2 a (by rw [show kA _ a = 7 from hk]; decide))).trans f1532))))) ?_
    refine m_iconst F (v := 4) (by decide) e_X2_payAndWriteOff_193 ?_
    refine m_lload F rfl e_X2_payAndWriteOff_194 ?_
    refine t_callV F e_X2_payAndWriteOff_196 (s_X3_put (x_l X) V b (M + 1) Z T _ _ (a + 5) 4 x1528 h1550.1 (kA_7 hk (r := 5) (by decide))  (by omega)) cb_X3_put ml_X2_201 im_X3_put se_X3_put (fun _ => o12) h1550 (kA_7 hk (r := 5) (by decide)) rfl rfl (rest := []) rfl (Nat.le_of_ble_eq_true rfl) ⟨Nat.le_of_ble_eq_true rfl, Nat.le_of_ble_eq_true rfl⟩ ⟨Nat.le_of_ble_eq_true rfl, Nat.le_of_ble_eq_true rfl⟩ (fun r σ1552 hp => ?_)
    obtain ⟨h1554, rfl⟩ := hp
    have h1553 := HK.trans h1550 h1554 (by decide)
    refine m_aload_n F rfl e_X2_payAndWriteOff_199 ?_
    refine t_get F e_X2_payAndWriteOff_200 fl_X2_189 (fun _ => o15) h1553 k902 rfl (fun v hv f1555 => ?_)
    obtain ⟨r1556, k1557, rfl⟩ := hv
    refine m_iconst F (v := 1) (by decide) e_X2_payAndWriteOff_203 ?_
    refine m_dup2_11 F rfl rfl e_X2_payAndWriteOff_204 ?_
    refine t_lald F (len := 5) (j := 1) e_X2_payAndWriteOff_205 (fun _ => o18) h1553 k1557 (by decide) (by unfold vp_in; decide) (fun x1558 => ?_)
    refine m_lload F rfl e_X2_payAndWriteOff_206 ?_
    refine m_ladd F e_X2_payAndWriteOff_208 ?_
    refine Wm.topl (fun x1559 _ => ?_)
    refine t_last F (len := 5) (j := 1) e_X2_payAndWriteOff_209 (fun _ => o18) h1553 k1557 (by decide) (by unfold vp_in; decide) (by decide) (fun σ1560 h1561 g1562 => ?_)
    refine m_aload_n F rfl e_X2_payAndWriteOff_210 ?_
    refine t_getC F e_X2_payAndWriteOff_211 fl_X2_189 (fun _ => o15) h1561 k902 ((g1562 r902 17 (fun e => absurd ((k902).symm.trans e) (by decide))).trans f1555) ?_
    refine m_iconst F (v := 2) (by decide) e_X2_payAndWriteOff_214 ?_
    refine m_dup2_11 F rfl rfl e_X2_payAndWriteOff_215 ?_
    refine t_lald F (len := 5) (j := 2) e_X2_payAndWriteOff_216 (fun _ => o18) h1561 k1557 (by decide) (by unfold vp_in; decide) (fun x1563 => ?_)
    refine m_lload F rfl e_X2_payAndWriteOff_217 ?_
    refine m_ladd F e_X2_payAndWriteOff_219 ?_
    refine Wm.topl (fun x1564 _ => ?_)
    refine t_last F (len := 5) (j := 2) e_X2_payAndWriteOff_220 (fun _ => o18) h1561 k1557 (by decide) (by unfold vp_in; decide) (by decide) (fun σ1565 h1566 g1567 => ?_)
    refine m_aload_n F rfl e_X2_payAndWriteOff_221 ?_
    refine m_dup F rfl e_X2_payAndWriteOff_222 ?_
    refine t_getC F e_X2_payAndWriteOff_223 fl_X2_212 (fun _ => o15) h1566 k902 ((g1567 r902 8 (fun e => absurd ((k902).symm.trans e) (by decide))).trans ((g1562 r902 8 (fun e => absurd ((k902).symm.trans e) (by decide))).trans ((fld_eq (h1554.2 r902 (by rw [show kA _ r902 = 15 from k902]; decide))).trans ((fld_eq (h1551.2 r902 (by rw [show kA _ r902 = 15 from k902]; decide))).trans ((fld_eq (h1548.2 r902 (by rw [show kA _ r902 = 15 from k902]; decide))).trans ((fld_eq (h1544.2 r902 (by rw [show kA _ r902 = 15 from k902]; decide))).trans ((fld_eq (h1541.2 r902 (by rw [show kA _ r902 = 15 from k902]; decide))).trans ((fld_eq (h1537.2 r902 (by rw [show kA _ r902 = 15 from k902]; decide))).trans ((fld_eq (h1531.2 r902 (by rw [show kA _ r902 = 15 from k902]; decide))).trans ((fld_eq (h1527.2 r902 (by rw [show kA _ r902 = 15 from k902]; decide))).trans ((fld_eq (h1524.2 r902 (by rw [show kA _ r902 = 15 from k902]; decide))).trans ((fld_eq (h1520.2 r902 (by rw [show kA _ r902 = 15 from k902]; decide))).trans ((fld_eq (h1514.2 r902 (by rw [show kA _ r902 = 15 from k902]; decide))).trans ((fld_eq (h1508.2 r902 (by rw [show kA _ r902 = 15 from k902]; decide))).trans ((fld_eq (h1504.2 r902 (by rw [show kA _ r902 = 15 from k902]; decide))).trans ((fld_eq (h1497.2 r902 (by rw [show kA _ r902 = 15 from k902]; decide))).trans ((fld_eq (h1494.2 r902 (by rw [show kA _ r902 = 15 from k902]; decide))).trans ((fld_eq (h1490.2 r902 (by rw [show kA _ r902 = 15 from k902]; decide))).trans ((fld_eq (h1486.2 r902 (by rw [show kA _ r902 = 15 from k902]; decide))).trans f1481))))))))))))))))))) ?_
    refine m_iconst F (v := 1) (by decide) e_X2_payAndWriteOff_226 ?_
    refine m_iadd F e_X2_payAndWriteOff_227 ?_
    refine Wm.top (fun x1568 _ => ?_)
    refine t_put F e_X2_payAndWriteOff_228 fp_X2_212 (fun _ => o15) h1566 k902 rfl ⟨_, rfl⟩ rfl rfl (by decide) (fun σ1569 h1570 g1571 g1572 f1573 => ?_)
    refine m_aload_n F rfl e_X2_payAndWriteOff_231 ?_
    refine t_getC F e_X2_payAndWriteOff_232 fl_X2_212 (fun _ => o15) h1570 k902 (f1573) ?_
    refine m_aload_n F rfl e_X2_payAndWriteOff_235 ?_
    refine t_get F e_X2_payAndWriteOff_236 fl_X2_232 (fun _ => o15) h1570 k902 rfl (fun v hv f1574 => ?_)
    obtain ⟨x1575, rfl⟩ := hv
    refine m_icmp_lt F e_X2_payAndWriteOff_239 (fun q239 => ?_) (fun q239 => ?_)
    · exact m_vret F hQ e_X2_payAndWriteOff_247 (⟨h1570, rfl⟩)
    · refine m_aload_n F rfl e_X2_payAndWriteOff_242 ?_
      refine m_iconst F (v := 2) (by decide) e_X2_payAndWriteOff_243 ?_
      refine t_put F e_X2_payAndWriteOff_244 fp_X2_129 (fun _ => o15) h1570 k902 rfl ⟨_, rfl⟩ rfl rfl (by decide) (fun σ1576 h1577 g1578 g1579 f1580 => ?_)
      exact m_vret F hQ e_X2_payAndWriteOff_247 (⟨h1577, rfl⟩)
  · exact m_vret F hQ e_X2_payAndWriteOff_10 (⟨(h1474.mono (M' := M + 1) (Z' := Z) (by omega) (by intro e; first | rfl | assumption | omega)), rfl⟩)
set_option maxRecDepth 20000 in
theorem s_X2_remeasure (l : Launch) (V : VX) (b M Z T N : Nat) (σ : Mem) (a : Nat) (x901 : Int32) (r902 : Nat) (h0 : HT V (b, M, Z, T) σ) (hk : kA b a = 7) (k902 : kA b r902 = 15) (hM : M + 1 ≤ 1000000000) : Ct l V yX2_remeasure cX2_remeasure 7 (some .long) 4 0 0 N σ [.ref a, .int x901, .ref r902] (fun r τ => HK V (b, M + 1, Z, T) [0, 1, 2, 3, 4, 5, 7, 8, 9, 10, 11, 15, 16, 17, 19] σ τ ∧ ∃ x : Int64, r = some (.long x)) := by
  refine Ct.of (by decide) (Nat.le_of_ble_eq_true rfl) [(0, .ref a), (1, .int x901), (2, .ref r902)] rfl (fun X hX F hQ => ?_)
  have h1 : HK V (b, M, Z, T) [0, 1, 2, 3, 4, 5, 7, 8, 9, 10, 11, 15, 16, 17, 19] σ σ := HK.start h0
  refine m_aload_n F rfl e_X2_remeasure_0 ?_
  refine m_aload_n F rfl e_X2_remeasure_1 ?_
  refine t_get F e_X2_remeasure_2 fl_X2_212 (fun _ => o15) h1 k902 rfl (fun v hv f1581 => ?_)
  obtain ⟨x1582, rfl⟩ := hv
  refine m_aload_n F rfl e_X2_remeasure_5 ?_
  refine t_get F e_X2_remeasure_6 fl_X2_123 (fun _ => o15) h1 k902 rfl (fun v hv f1583 => ?_)
  obtain ⟨x1584, rfl⟩ := hv
  refine m_aload_n F rfl e_X2_remeasure_9 ?_
  refine t_get F e_X2_remeasure_10 fl_X2_47 (fun _ => o7) h1 hk rfl (fun v hv f1585 => ?_)
  obtain rfl : v = .ref (a + 10) := hv
  refine t_callV F e_X2_remeasure_13 (s_X5_worthFrom (x_l X) V b M Z T _ _ r902 x1582 x1584 (a + 10) h1.1 k902 (kA_7 hk (r := 10) (by decide)) (by omega)) cb_X5_worthFrom ml_X2_174 im_X5_worthFrom se_X5_worthFrom (fun _ => o15) h1 k902 rfl rfl (rest := []) rfl (Nat.le_of_ble_eq_true rfl) ⟨Nat.le_of_ble_eq_true rfl, Nat.le_of_ble_eq_true rfl⟩ ⟨Nat.le_of_ble_eq_true rfl, Nat.le_of_ble_eq_true rfl⟩ (fun r σ1586 hp => ?_)
  obtain ⟨h1588, rfl⟩ := hp
  have h1587 := HK.trans h1 h1588 (by decide)
  refine m_aload_n F rfl e_X2_remeasure_16 ?_
  refine t_getC F e_X2_remeasure_17 fl_X2_47 (fun _ => o7) h1587 hk ((fld_eq (h1588.2 a (by rw [show kA _ a = 7 from hk]; decide))).trans f1585) ?_
  refine t_callV F e_X2_remeasure_20 (s_X1_asLong (x_l X) V b M Z T _ _ (a + 10)  h1587.1 (kA_7 hk (r := 10) (by decide))  (by omega)) cb_X1_asLong ml_X2_193 im_X1_asLong se_X1_asLong (fun _ => o6) h1587 (kA_7 hk (r := 10) (by decide)) rfl rfl (rest := []) rfl (Nat.le_of_ble_eq_true rfl) ⟨Nat.le_of_ble_eq_true rfl, Nat.le_of_ble_eq_true rfl⟩ ⟨Nat.le_of_ble_eq_true rfl, Nat.le_of_ble_eq_true rfl⟩ (fun r σ1589 hp => ?_)
  obtain ⟨h1591, x1592, rfl⟩ := hp
  have h1590 := HK.trans h1587 h1591 (by decide)
  refine m_aload_n F rfl e_X2_remeasure_23 ?_
  refine t_get F e_X2_remeasure_24 fl_X2_136 (fun _ => o15) h1590 k902 rfl (fun v hv f1593 => ?_)
  obtain ⟨r1594, k1595, rfl⟩ := hv
  refine t_callV F e_X2_remeasure_27 (s_X1_asLong (x_l X) V b M Z T _ _ r1594  h1590.1 k1595  (by omega)) cb_X1_asLong ml_X2_193 im_X1_asLong se_X1_asLong (fun _ => o6) h1590 k1595 rfl rfl (rest := [.long x1592]) rfl (Nat.le_of_ble_eq_true rfl) ⟨Nat.le_of_ble_eq_true rfl, Nat.le_of_ble_eq_true rfl⟩ ⟨Nat.le_of_ble_eq_true rfl, Nat.le_of_ble_eq_true rfl⟩ (fun r σ1596 hp => ?_)
  obtain ⟨h1598, x1599, rfl⟩ := hp
  have h1597 := HK.trans h1590 h1598 (by decide)
  refine m_lsub F e_X2_remeasure_30 ?_
  refine Wm.topl (fun x1600 _ => ?_)
  refine m_lstore_n F (lv' := [(3, .long x1600), (0, .ref a), (1, .int x901), (2, .ref r902)]) e_X2_remeasure_31 (by decide) rfl ?_
  refine m_aload_n F rfl e_X2_remeasure_32 ?_
  refine t_get F e_X2_remeasure_33 fl_X2_178 (fun _ => o15) h1597 k902 rfl (fun v hv f1601 => ?_)
  obtain ⟨r1602, k1603, rfl⟩ := hv
  refine t_callV F e_X2_remeasure_36 (s_X1_asLong (x_l X) V b M Z T _ _ r1602  h1597.1 k1603  (by omega)) cb_X1_asLong ml_X2_193 im_X1_asLong se_X1_asLong (fun _ => o6) h1597 k1603 rfl rfl (rest := []) rfl (Nat.le_of_ble_eq_true rfl) ⟨Nat.le_of_ble_eq_true rfl, Nat.le_of_ble_eq_true rfl⟩ ⟨Nat.le_of_ble_eq_true rfl, Nat.le_of_ble_eq_true rfl⟩ (fun r σ1604 hp => ?_)
  obtain ⟨h1606, x1607, rfl⟩ := hp
  have h1605 := HK.trans h1597 h1606 (by decide)
  refine m_lneg F e_X2_remeasure_39 ?_
  refine Wm.topl (fun x1608 _ => ?_)
  refine m_lstore F (lv' := [(5, .long x1608), (3, .long x1600), (0, .ref a), (1, .int x901), (2, .ref r902)]) e_X2_remeasure_40 (by decide) rfl ?_
  refine m_aload_n F rfl e_X2_remeasure_42 ?_
  refine t_getC F e_X2_remeasure_43 fl_X2_178 (fun _ => o15) h1605 k902 ((fld_eq (h1606.2 r902 (by rw [show kA _ r902 = 15 from k902]; decide))).trans f1601) ?_
  refine m_aload_n F rfl e_X2_remeasure_46 ?_
  refine t_getC F e_X2_remeasure_47 fl_X2_47 (fun _ => o7) h1605 hk ((fld_eq (h1606.2 a (by rw [show kA _ a = 7 from hk]; decide))).trans ((fld_eq (h1598.2 a (by rw [show kA _ a = 7 from hk]; decide))).trans ((fld_eq (h1591.2 a (by rw [show kA _ a = 7 from hk]; decide))).trans ((fld_eq (h1588.2 a (by rw [show kA _ a = 7 from hk]; decide))).trans f1585)))) ?_
  refine t_callV F e_X2_remeasure_50 (s_X1_add (x_l X) V b M Z T _ _ r1602 (a + 10) h1605.1 k1603 (kA_7 hk (r := 10) (by decide)) (by omega)) cb_X1_add ml_X2_139 im_X1_add se_X1_add (fun _ => o6) h1605 k1603 rfl rfl (rest := []) rfl (Nat.le_of_ble_eq_true rfl) ⟨Nat.le_of_ble_eq_true rfl, Nat.le_of_ble_eq_true rfl⟩ ⟨Nat.le_of_ble_eq_true rfl, Nat.le_of_ble_eq_true rfl⟩ (fun r σ1609 hp => ?_)
  obtain ⟨h1611, rfl⟩ := hp
  have h1610 := HK.trans h1605 h1611 (by decide)
  refine m_aload_n F rfl e_X2_remeasure_53 ?_
  refine t_getC F e_X2_remeasure_54 fl_X2_178 (fun _ => o15) h1610 k902 ((fld_eq (h1611.2 r902 (by rw [show kA _ r902 = 15 from k902]; decide))).trans ((fld_eq (h1606.2 r902 (by rw [show kA _ r902 = 15 from k902]; decide))).trans f1601)) ?_
  refine m_aload_n F rfl e_X2_remeasure_57 ?_
  refine t_getC F e_X2_remeasure_58 fl_X2_136 (fun _ => o15) h1610 k902 ((fld_eq (h1611.2 r902 (by rw [show kA _ r902 = 15 from k902]; decide))).trans ((fld_eq (h1606.2 r902 (by rw [show kA _ r902 = 15 from k902]; decide))).trans ((fld_eq (h1598.2 r902 (by rw [show kA _ r902 = 15 from k902]; decide))).trans f1593))) ?_
  refine t_callV F e_X2_remeasure_61 (s_X1_subtract (x_l X) V b M Z T _ _ r1602 r1594 h1610.1 k1603 k1595 (by omega)) cb_X1_subtract ml_X2_229 im_X1_subtract se_X1_subtract (fun _ => o6) h1610 k1603 rfl rfl (rest := []) rfl (Nat.le_of_ble_eq_true rfl) ⟨Nat.le_of_ble_eq_true rfl, Nat.le_of_ble_eq_true rfl⟩ ⟨Nat.le_of_ble_eq_true rfl, Nat.le_of_ble_eq_true rfl⟩ (fun r σ1612 hp => ?_)
  obtain ⟨h1614, rfl⟩ := hp
  have h1613 := HK.trans h1610 h1614 (by decide)
  refine m_aload_n F rfl e_X2_remeasure_64 ?_
  refine t_getC F e_X2_remeasure_65 fl_X2_178 (fun _ => o15) h1613 k902 ((fld_eq (h1614.2 r902 (by rw [show kA _ r902 = 15 from k902]; decide))).trans ((fld_eq (h1611.2 r902 (by rw [show kA _ r902 = 15 from k902]; decide))).trans ((fld_eq (h1606.2 r902 (by rw [show kA _ r902 = 15 from k902]; decide))).trans f1601))) ?_
  refine t_callV F e_X2_remeasure_68 (s_X1_holdToZero (x_l X) V b M Z T _ _ r1602  h1613.1 k1603  (by omega)) cb_X1_holdToZero ml_X2_235 im_X1_holdToZero se_X1_holdToZero (fun _ => o6) h1613 k1603 rfl rfl (rest := []) rfl (Nat.le_of_ble_eq_true rfl) ⟨Nat.le_of_ble_eq_true rfl, Nat.le_of_ble_eq_true rfl⟩ ⟨Nat.le_of_ble_eq_true rfl, Nat.le_of_ble_eq_true rfl⟩ (fun r σ1615 hp => ?_)
  obtain ⟨h1617, rfl⟩ := hp
  have h1616 := HK.trans h1613 h1617 (by decide)
  refine m_lload F rfl e_X2_remeasure_71 ?_
  refine m_aload_n F rfl e_X2_remeasure_73 ?_
  refine t_getC F e_X2_remeasure_74 fl_X2_178 (fun _ => o15) h1616 k902 ((fld_eq (h1617.2 r902 (by rw [show kA _ r902 = 15 from k902]; decide))).trans ((fld_eq (h1614.2 r902 (by rw [show kA _ r902 = 15 from k902]; decide))).trans ((fld_eq (h1611.2 r902 (by rw [show kA _ r902 = 15 from k902]; decide))).trans ((fld_eq (h1606.2 r902 (by rw [show kA _ r902 = 15 from k902]; decide))).trans f1601)))) ?_
  refine t_callV F e_X2_remeasure_77 (s_X1_asLong (x_l X) V b M Z T _ _ r1602  h1616.1 k1603  (by omega)) cb_X1_asLong ml_X2_193 im_X1_asLong se_X1_asLong (fun _ => o6) h1616 k1603 rfl rfl (rest := [.long x1608]) rfl (Nat.le_of_ble_eq_true rfl) ⟨Nat.le_of_ble_eq_true rfl, Nat.le_of_ble_eq_true rfl⟩ ⟨Nat.le_of_ble_eq_true rfl, Nat.le_of_ble_eq_true rfl⟩ (fun r σ1618 hp => ?_)
  obtain ⟨h1620, x1621, rfl⟩ := hp
  have h1619 := HK.trans h1616 h1620 (by decide)
  refine m_ladd F e_X2_remeasure_80 ?_
  refine Wm.topl (fun x1622 _ => ?_)
  refine m_lstore F (lv' := [(5, .long x1622), (3, .long x1600), (0, .ref a), (1, .int x901), (2, .ref r902)]) e_X2_remeasure_81 (by decide) rfl ?_
  refine m_aload_n F rfl e_X2_remeasure_83 ?_
  refine t_getC F e_X2_remeasure_84 fl_X2_136 (fun _ => o15) h1619 k902 ((fld_eq (h1620.2 r902 (by rw [show kA _ r902 = 15 from k902]; decide))).trans ((fld_eq (h1617.2 r902 (by rw [show kA _ r902 = 15 from k902]; decide))).trans ((fld_eq (h1614.2 r902 (by rw [show kA _ r902 = 15 from k902]; decide))).trans ((fld_eq (h1611.2 r902 (by rw [show kA _ r902 = 15 from k902]; decide))).trans ((fld_eq (h1606.2 r902 (by rw [show kA _ r902 = 15 from k902]; decide))).trans ((fld_eq (h1598.2 r902 (by rw [show kA _ r902 = 15 from k902]; decide))).trans f1593)))))) ?_
  refine m_aload_n F rfl e_X2_remeasure_87 ?_
  refine t_getC F e_X2_remeasure_88 fl_X2_47 (fun _ => o7) h1619 hk ((fld_eq (h1620.2 a (by rw [show kA _ a = 7 from hk]; decide))).trans ((fld_eq (h1617.2 a (by rw [show kA _ a = 7 from hk]; decide))).trans ((fld_eq (h1614.2 a (by rw [show kA _ a = 7 from hk]; decide))).trans ((fld_eq (h1611.2 a (by rw [show kA _ a = 7 from hk]; decide))).trans ((fld_eq (h1606.2 a (by rw [show kA _ a = 7 from hk]; decide))).trans ((fld_eq (h1598.2 a (by rw [show kA _ a = 7 from hk]; decide))).trans ((fld_eq (h1591.2 a (by rw [show kA _ a = 7 from hk]; decide))).trans ((fld_eq (h1588.2 a (by rw [show kA _ a = 7 from hk]; decide))).trans f1585)))))))) ?_
  refine t_callV F e_X2_remeasure_91 (s_X1_copyFrom (x_l X) V b M Z T _ _ r1594 (a + 10) h1619.1 k1595 (kA_7 hk (r := 10) (by decide)) (by omega)) cb_X1_copyFrom ml_X2_181 im_X1_copyFrom se_X1_copyFrom (fun _ => o6) h1619 k1595 rfl rfl (rest := []) rfl (Nat.le_of_ble_eq_true rfl) ⟨Nat.le_of_ble_eq_true rfl, Nat.le_of_ble_eq_true rfl⟩ ⟨Nat.le_of_ble_eq_true rfl, Nat.le_of_ble_eq_true rfl⟩ (fun r σ1623 hp => ?_)
  obtain ⟨h1625, rfl⟩ := hp
  have h1624 := HK.trans h1619 h1625 (by decide)
  refine m_aload_n F rfl e_X2_remeasure_94 ?_
  refine t_get F e_X2_remeasure_95 fl_X2_33 (fun _ => o7) h1624 hk rfl (fun v hv f1626 => ?_)
  obtain rfl : v = .ref (a + 5) := hv
  refine m_iconst F (v := 2) (by decide) e_X2_remeasure_98 ?_
  refine m_aload_n F rfl e_X2_remeasure_99 ?_
  refine t_get F e_X2_remeasure_100 fl_X2_68 (fun _ => o7) h1624 hk rfl (fun v hv f1627 => ?_)
  obtain ⟨n1628, hn1628, rfl⟩ := hv
  replace hn1628 : n1628 ≤ M := hn1628
  refine m_iload_n F rfl e_X2_remeasure_103 ?_
  refine t_callV F e_X2_remeasure_104 (s_X3_open (x_l X) V b M Z T _ _ (a + 5) 2 (nI n1628) x901 h1624.1 (kA_7 hk (r := 5) (by decide))  (by omega)) cb_X3_open ml_X2_197 im_X3_open se_X3_open (fun _ => o12) h1624 (kA_7 hk (r := 5) (by decide)) rfl rfl (rest := []) rfl (Nat.le_of_ble_eq_true rfl) ⟨Nat.le_of_ble_eq_true rfl, Nat.le_of_ble_eq_true rfl⟩ ⟨Nat.le_of_ble_eq_true rfl, Nat.le_of_ble_eq_true rfl⟩ (fun r σ1629 hp => ?_)
  obtain ⟨h1631, rfl⟩ := hp
  have h1630 := HK.trans h1624 h1631 (by decide)
  refine m_aload_n F rfl e_X2_remeasure_107 ?_
  refine t_getC F e_X2_remeasure_108 fl_X2_33 (fun _ => o7) h1630 hk ((fld_eq (h1631.2 a (by rw [show kA _ a = 7 from hk]; decide))).trans f1626) ?_
  refine m_iconst F (v := 1) (by decide) e_X2_remeasure_111 ?_
  refine m_lload_n F rfl e_X2_remeasure_112 ?_
  refine m_lneg F e_X2_remeasure_113 ?_
  refine Wm.topl (fun x1632 _ => ?_)
  refine t_callV F e_X2_remeasure_114 (s_X3_put (x_l X) V b (M + 1) Z T _ _ (a + 5) 1 x1632 h1630.1 (kA_7 hk (r := 5) (by decide))  (by omega)) cb_X3_put ml_X2_201 im_X3_put se_X3_put (fun _ => o12) h1630 (kA_7 hk (r := 5) (by decide)) rfl rfl (rest := []) rfl (Nat.le_of_ble_eq_true rfl) ⟨Nat.le_of_ble_eq_true rfl, Nat.le_of_ble_eq_true rfl⟩ ⟨Nat.le_of_ble_eq_true rfl, Nat.le_of_ble_eq_true rfl⟩ (fun r σ1633 hp => ?_)
  obtain ⟨h1635, rfl⟩ := hp
  have h1634 := HK.trans h1630 h1635 (by decide)
  refine m_aload_n F rfl e_X2_remeasure_117 ?_
  refine t_getC F e_X2_remeasure_118 fl_X2_33 (fun _ => o7) h1634 hk ((fld_eq (h1635.2 a (by rw [show kA _ a = 7 from hk]; decide))).trans ((fld_eq (h1631.2 a (by rw [show kA _ a = 7 from hk]; decide))).trans f1626)) ?_
  refine m_iconst F (v := 2) (by decide) e_X2_remeasure_121 ?_
  refine m_lload F rfl e_X2_remeasure_122 ?_
  refine t_callV F e_X2_remeasure_124 (s_X3_put (x_l X) V b (M + 1) Z T _ _ (a + 5) 2 x1622 h1634.1 (kA_7 hk (r := 5) (by decide))  (by omega)) cb_X3_put ml_X2_201 im_X3_put se_X3_put (fun _ => o12) h1634 (kA_7 hk (r := 5) (by decide)) rfl rfl (rest := []) rfl (Nat.le_of_ble_eq_true rfl) ⟨Nat.le_of_ble_eq_true rfl, Nat.le_of_ble_eq_true rfl⟩ ⟨Nat.le_of_ble_eq_true rfl, Nat.le_of_ble_eq_true rfl⟩ (fun r σ1636 hp => ?_)
  obtain ⟨h1638, rfl⟩ := hp
  have h1637 := HK.trans h1634 h1638 (by decide)
  refine m_aload_n F rfl e_X2_remeasure_127 ?_
  refine t_getC F e_X2_remeasure_128 fl_X2_33 (fun _ => o7) h1637 hk ((fld_eq (h1638.2 a (by rw [show kA _ a = 7 from hk]; decide))).trans ((fld_eq (h1635.2 a (by rw [show kA _ a = 7 from hk]; decide))).trans ((fld_eq (h1631.2 a (by rw [show kA _ a = 7 from hk]; decide))).trans f1626))) ?_
  refine m_iconst F (v := 5) (by decide) e_X2_remeasure_131 ?_
  refine m_lload_n F rfl e_X2_remeasure_132 ?_
  refine m_lload F rfl e_X2_remeasure_133 ?_
  refine m_lsub F e_X2_remeasure_135 ?_
  refine Wm.topl (fun x1639 _ => ?_)
  refine t_callV F e_X2_remeasure_136 (s_X3_put (x_l X) V b (M + 1) Z T _ _ (a + 5) 5 x1639 h1637.1 (kA_7 hk (r := 5) (by decide))  (by omega)) cb_X3_put ml_X2_201 im_X3_put se_X3_put (fun _ => o12) h1637 (kA_7 hk (r := 5) (by decide)) rfl rfl (rest := []) rfl (Nat.le_of_ble_eq_true rfl) ⟨Nat.le_of_ble_eq_true rfl, Nat.le_of_ble_eq_true rfl⟩ ⟨Nat.le_of_ble_eq_true rfl, Nat.le_of_ble_eq_true rfl⟩ (fun r σ1640 hp => ?_)
  obtain ⟨h1642, rfl⟩ := hp
  have h1641 := HK.trans h1637 h1642 (by decide)
  refine m_aload_n F rfl e_X2_remeasure_139 ?_
  refine t_get F e_X2_remeasure_140 fl_X2_189 (fun _ => o15) h1641 k902 rfl (fun v hv f1643 => ?_)
  obtain ⟨r1644, k1645, rfl⟩ := hv
  refine m_iconst F (v := 3) (by decide) e_X2_remeasure_143 ?_
  refine m_dup2_11 F rfl rfl e_X2_remeasure_144 ?_
  refine t_lald F (len := 5) (j := 3) e_X2_remeasure_145 (fun _ => o18) h1641 k1645 (by decide) (by unfold vp_in; decide) (fun x1646 => ?_)
  refine m_lload_n F rfl e_X2_remeasure_146 ?_
  refine m_ladd F e_X2_remeasure_147 ?_
  refine Wm.topl (fun x1647 _ => ?_)
  refine t_last F (len := 5) (j := 3) e_X2_remeasure_148 (fun _ => o18) h1641 k1645 (by decide) (by unfold vp_in; decide) (by decide) (fun σ1648 h1649 g1650 => ?_)
  refine m_lload_n F rfl e_X2_remeasure_149 ?_
  exact m_lret F hQ e_X2_remeasure_150 (⟨h1649, _, rfl⟩)
set_option maxRecDepth 20000 in
theorem s_X2_giveBack (l : Launch) (V : VX) (b M Z T N : Nat) (σ : Mem) (a : Nat) (x901 : Int32) (r902 : Nat) (x903 : Int64) (x904 : Int32) (h0 : HT V (b, M, Z, T) σ) (hk : kA b a = 7) (k902 : kA b r902 = 15) (hM : M + 1 ≤ 1000000000) : Ct l V yX2_giveBack cX2_giveBack 12 (some .long) 4 0 0 N σ [.ref a, .int x901, .ref r902, .long x903, .int x904] (fun r τ => HK V (b, M + 1, Z, T) [0, 1, 2, 3, 4, 5, 7, 8, 9, 10, 11, 15, 16, 17, 19] σ τ ∧ ∃ x : Int64, r = some (.long x)) := by
  refine Ct.of (by decide) (Nat.le_of_ble_eq_true rfl) [(0, .ref a), (1, .int x901), (2, .ref r902), (3, .long x903), (5, .int x904)] rfl (fun X hX F hQ => ?_)
  have h1 : HK V (b, M, Z, T) [0, 1, 2, 3, 4, 5, 7, 8, 9, 10, 11, 15, 16, 17, 19] σ σ := HK.start h0
  refine m_aload_n F rfl e_X2_giveBack_0 ?_
  refine t_get F e_X2_giveBack_1 fl_X2_47 (fun _ => o7) h1 hk rfl (fun v hv f1651 => ?_)
  obtain rfl : v = .ref (a + 10) := hv
  refine m_aload_n F rfl e_X2_giveBack_4 ?_
  refine t_get F e_X2_giveBack_5 fl_X2_136 (fun _ => o15) h1 k902 rfl (fun v hv f1652 => ?_)
  obtain ⟨r1653, k1654, rfl⟩ := hv
  refine t_callV F e_X2_giveBack_8 (s_X1_copyFrom (x_l X) V b M Z T _ _ (a + 10) r1653 h1.1 (kA_7 hk (r := 10) (by decide)) k1654 (by omega)) cb_X1_copyFrom ml_X2_181 im_X1_copyFrom se_X1_copyFrom (fun _ => o6) h1 (kA_7 hk (r := 10) (by decide)) rfl rfl (rest := []) rfl (Nat.le_of_ble_eq_true rfl) ⟨Nat.le_of_ble_eq_true rfl, Nat.le_of_ble_eq_true rfl⟩ ⟨Nat.le_of_ble_eq_true rfl, Nat.le_of_ble_eq_true rfl⟩ (fun r σ1655 hp => ?_)
  obtain ⟨h1657, rfl⟩ := hp
  have h1656 := HK.trans h1 h1657 (by decide)
  refine m_aload_n F rfl e_X2_giveBack_11 ?_
  refine t_getC F e_X2_giveBack_12 fl_X2_47 (fun _ => o7) h1656 hk ((fld_eq (h1657.2 a (by rw [show kA _ a = 7 from hk]; decide))).trans f1651) ?_
  refine m_lload_n F rfl e_X2_giveBack_15 ?_
  refine m_ldc2 F kc_X2_238 e_X2_giveBack_16 ?_
  refine t_callV F e_X2_giveBack_19 (s_X1_shareDown (x_l X) V b M Z T _ _ (a + 10) x903 1000 h1656.1 (kA_7 hk (r := 10) (by decide))  (by omega)) cb_X1_shareDown ml_X2_225 im_X1_shareDown se_X1_shareDown (fun _ => o6) h1656 (kA_7 hk (r := 10) (by decide)) rfl rfl (rest := []) rfl (Nat.le_of_ble_eq_true rfl) ⟨Nat.le_of_ble_eq_true rfl, Nat.le_of_ble_eq_true rfl⟩ ⟨Nat.le_of_ble_eq_true rfl, Nat.le_of_ble_eq_true rfl⟩ (fun r σ1658 hp => ?_)
  obtain ⟨h1660, rfl⟩ := hp
  have h1659 := HK.trans h1656 h1660 (by decide)
  refine m_aload_n F rfl e_X2_giveBack_22 ?_
  refine t_getC F e_X2_giveBack_23 fl_X2_136 (fun _ => o15) h1659 k902 ((fld_eq (h1660.2 r902 (by rw [show kA _ r902 = 15 from k902]; decide))).trans ((fld_eq (h1657.2 r902 (by rw [show kA _ r902 = 15 from k902]; decide))).trans f1652)) ?_
  refine m_aload_n F rfl e_X2_giveBack_26 ?_
  refine t_getC F e_X2_giveBack_27 fl_X2_47 (fun _ => o7) h1659 hk ((fld_eq (h1660.2 a (by rw [show kA _ a = 7 from hk]; decide))).trans ((fld_eq (h1657.2 a (by rw [show kA _ a = 7 from hk]; decide))).trans f1651)) ?_
  refine t_callV F e_X2_giveBack_30 (s_X1_subtract (x_l X) V b M Z T _ _ r1653 (a + 10) h1659.1 k1654 (kA_7 hk (r := 10) (by decide)) (by omega)) cb_X1_subtract ml_X2_229 im_X1_subtract se_X1_subtract (fun _ => o6) h1659 k1654 rfl rfl (rest := []) rfl (Nat.le_of_ble_eq_true rfl) ⟨Nat.le_of_ble_eq_true rfl, Nat.le_of_ble_eq_true rfl⟩ ⟨Nat.le_of_ble_eq_true rfl, Nat.le_of_ble_eq_true rfl⟩ (fun r σ1661 hp => ?_)
  obtain ⟨h1663, rfl⟩ := hp
  have h1662 := HK.trans h1659 h1663 (by decide)
  refine m_aload_n F rfl e_X2_giveBack_33 ?_
  refine t_getC F e_X2_giveBack_34 fl_X2_47 (fun _ => o7) h1662 hk ((fld_eq (h1663.2 a (by rw [show kA _ a = 7 from hk]; decide))).trans ((fld_eq (h1660.2 a (by rw [show kA _ a = 7 from hk]; decide))).trans ((fld_eq (h1657.2 a (by rw [show kA _ a = 7 from hk]; decide))).trans f1651))) ?_
  refine t_callV F e_X2_giveBack_37 (s_X1_asLong (x_l X) V b M Z T _ _ (a + 10)  h1662.1 (kA_7 hk (r := 10) (by decide))  (by omega)) cb_X1_asLong ml_X2_193 im_X1_asLong se_X1_asLong (fun _ => o6) h1662 (kA_7 hk (r := 10) (by decide)) rfl rfl (rest := []) rfl (Nat.le_of_ble_eq_true rfl) ⟨Nat.le_of_ble_eq_true rfl, Nat.le_of_ble_eq_true rfl⟩ ⟨Nat.le_of_ble_eq_true rfl, Nat.le_of_ble_eq_true rfl⟩ (fun r σ1664 hp => ?_)
  obtain ⟨h1666, x1667, rfl⟩ := hp
  have h1665 := HK.trans h1662 h1666 (by decide)
  refine m_lstore F (lv' := [(6, .long x1667), (0, .ref a), (1, .int x901), (2, .ref r902), (3, .long x903), (5, .int x904)]) e_X2_giveBack_40 (by decide) rfl ?_
  refine m_aload_n F rfl e_X2_giveBack_42 ?_
  refine t_getC F e_X2_giveBack_43 fl_X2_47 (fun _ => o7) h1665 hk ((fld_eq (h1666.2 a (by rw [show kA _ a = 7 from hk]; decide))).trans ((fld_eq (h1663.2 a (by rw [show kA _ a = 7 from hk]; decide))).trans ((fld_eq (h1660.2 a (by rw [show kA _ a = 7 from hk]; decide))).trans ((fld_eq (h1657.2 a (by rw [show kA _ a = 7 from hk]; decide))).trans f1651)))) ?_
  refine m_aload_n F rfl e_X2_giveBack_46 ?_
  refine t_get F e_X2_giveBack_47 fl_X2_178 (fun _ => o15) h1665 k902 rfl (fun v hv f1668 => ?_)
  obtain ⟨r1669, k1670, rfl⟩ := hv
  refine t_callV F e_X2_giveBack_50 (s_X1_copyFrom (x_l X) V b M Z T _ _ (a + 10) r1669 h1665.1 (kA_7 hk (r := 10) (by decide)) k1670 (by omega)) cb_X1_copyFrom ml_X2_181 im_X1_copyFrom se_X1_copyFrom (fun _ => o6) h1665 (kA_7 hk (r := 10) (by decide)) rfl rfl (rest := []) rfl (Nat.le_of_ble_eq_true rfl) ⟨Nat.le_of_ble_eq_true rfl, Nat.le_of_ble_eq_true rfl⟩ ⟨Nat.le_of_ble_eq_true rfl, Nat.le_of_ble_eq_true rfl⟩ (fun r σ1671 hp => ?_)
  obtain ⟨h1673, rfl⟩ := hp
  have h1672 := HK.trans h1665 h1673 (by decide)
  refine m_aload_n F rfl e_X2_giveBack_53 ?_
  refine t_getC F e_X2_giveBack_54 fl_X2_47 (fun _ => o7) h1672 hk ((fld_eq (h1673.2 a (by rw [show kA _ a = 7 from hk]; decide))).trans ((fld_eq (h1666.2 a (by rw [show kA _ a = 7 from hk]; decide))).trans ((fld_eq (h1663.2 a (by rw [show kA _ a = 7 from hk]; decide))).trans ((fld_eq (h1660.2 a (by rw [show kA _ a = 7 from hk]; decide))).trans ((fld_eq (h1657.2 a (by rw [show kA _ a = 7 from hk]; decide))).trans f1651))))) ?_
  refine m_lload_n F rfl e_X2_giveBack_57 ?_
  refine m_ldc2 F kc_X2_238 e_X2_giveBack_58 ?_
  refine t_callV F e_X2_giveBack_61 (s_X1_shareDown (x_l X) V b M Z T _ _ (a + 10) x903 1000 h1672.1 (kA_7 hk (r := 10) (by decide))  (by omega)) cb_X1_shareDown ml_X2_225 im_X1_shareDown se_X1_shareDown (fun _ => o6) h1672 (kA_7 hk (r := 10) (by decide)) rfl rfl (rest := []) rfl (Nat.le_of_ble_eq_true rfl) ⟨Nat.le_of_ble_eq_true rfl, Nat.le_of_ble_eq_true rfl⟩ ⟨Nat.le_of_ble_eq_true rfl, Nat.le_of_ble_eq_true rfl⟩ (fun r σ1674 hp => ?_)
  obtain ⟨h1676, rfl⟩ := hp
  have h1675 := HK.trans h1672 h1676 (by decide)
  refine m_aload_n F rfl e_X2_giveBack_64 ?_
  refine t_getC F e_X2_giveBack_65 fl_X2_178 (fun _ => o15) h1675 k902 ((fld_eq (h1676.2 r902 (by rw [show kA _ r902 = 15 from k902]; decide))).trans ((fld_eq (h1673.2 r902 (by rw [show kA _ r902 = 15 from k902]; decide))).trans f1668)) ?_
  refine m_aload_n F rfl e_X2_giveBack_68 ?_
  refine t_getC F e_X2_giveBack_69 fl_X2_47 (fun _ => o7) h1675 hk ((fld_eq (h1676.2 a (by rw [show kA _ a = 7 from hk]; decide))).trans ((fld_eq (h1673.2 a (by rw [show kA _ a = 7 from hk]; decide))).trans ((fld_eq (h1666.2 a (by rw [show kA _ a = 7 from hk]; decide))).trans ((fld_eq (h1663.2 a (by rw [show kA _ a = 7 from hk]; decide))).trans ((fld_eq (h1660.2 a (by rw [show kA _ a = 7 from hk]; decide))).trans ((fld_eq (h1657.2 a (by rw [show kA _ a = 7 from hk]; decide))).trans f1651)))))) ?_
  refine t_callV F e_X2_giveBack_72 (s_X1_subtract (x_l X) V b M Z T _ _ r1669 (a + 10) h1675.1 k1670 (kA_7 hk (r := 10) (by decide)) (by omega)) cb_X1_subtract ml_X2_229 im_X1_subtract se_X1_subtract (fun _ => o6) h1675 k1670 rfl rfl (rest := []) rfl (Nat.le_of_ble_eq_true rfl) ⟨Nat.le_of_ble_eq_true rfl, Nat.le_of_ble_eq_true rfl⟩ ⟨Nat.le_of_ble_eq_true rfl, Nat.le_of_ble_eq_true rfl⟩ (fun r σ1677 hp => ?_)
  obtain ⟨h1679, rfl⟩ := hp
  have h1678 := HK.trans h1675 h1679 (by decide)
  refine m_aload_n F rfl e_X2_giveBack_75 ?_
  refine t_getC F e_X2_giveBack_76 fl_X2_47 (fun _ => o7) h1678 hk ((fld_eq (h1679.2 a (by rw [show kA _ a = 7 from hk]; decide))).trans ((fld_eq (h1676.2 a (by rw [show kA _ a = 7 from hk]; decide))).trans ((fld_eq (h1673.2 a (by rw [show kA _ a = 7 from hk]; decide))).trans ((fld_eq (h1666.2 a (by rw [show kA _ a = 7 from hk]; decide))).trans ((fld_eq (h1663.2 a (by rw [show kA _ a = 7 from hk]; decide))).trans ((fld_eq (h1660.2 a (by rw [show kA _ a = 7 from hk]; decide))).trans ((fld_eq (h1657.2 a (by rw [show kA _ a = 7 from hk]; decide))).trans f1651))))))) ?_
  refine t_callV F e_X2_giveBack_79 (s_X1_asLong (x_l X) V b M Z T _ _ (a + 10)  h1678.1 (kA_7 hk (r := 10) (by decide))  (by omega)) cb_X1_asLong ml_X2_193 im_X1_asLong se_X1_asLong (fun _ => o6) h1678 (kA_7 hk (r := 10) (by decide)) rfl rfl (rest := []) rfl (Nat.le_of_ble_eq_true rfl) ⟨Nat.le_of_ble_eq_true rfl, Nat.le_of_ble_eq_true rfl⟩ ⟨Nat.le_of_ble_eq_true rfl, Nat.le_of_ble_eq_true rfl⟩ (fun r σ1680 hp => ?_)
  obtain ⟨h1682, x1683, rfl⟩ := hp
  have h1681 := HK.trans h1678 h1682 (by decide)
  refine m_lstore F (lv' := [(8, .long x1683), (6, .long x1667), (0, .ref a), (1, .int x901), (2, .ref r902), (3, .long x903), (5, .int x904)]) e_X2_giveBack_82 (by decide) rfl ?_
  refine m_lload F rfl e_X2_giveBack_84 ?_
  refine m_lload F rfl e_X2_giveBack_86 ?_
  refine m_lsub F e_X2_giveBack_88 ?_
  refine Wm.topl (fun x1684 _ => ?_)
  refine m_lstore F (lv' := [(10, .long x1684), (8, .long x1683), (6, .long x1667), (0, .ref a), (1, .int x901), (2, .ref r902), (3, .long x903), (5, .int x904)]) e_X2_giveBack_89 (by decide) rfl ?_
  refine m_aload_n F rfl e_X2_giveBack_91 ?_
  refine t_get F e_X2_giveBack_92 fl_X2_33 (fun _ => o7) h1681 hk rfl (fun v hv f1685 => ?_)
  obtain rfl : v = .ref (a + 5) := hv
  refine m_iload F rfl e_X2_giveBack_95 ?_
  refine m_aload_n F rfl e_X2_giveBack_97 ?_
  refine t_get F e_X2_giveBack_98 fl_X2_68 (fun _ => o7) h1681 hk rfl (fun v hv f1686 => ?_)
  obtain ⟨n1687, hn1687, rfl⟩ := hv
  replace hn1687 : n1687 ≤ M := hn1687
  refine m_iload_n F rfl e_X2_giveBack_101 ?_
  refine t_callV F e_X2_giveBack_102 (s_X3_open (x_l X) V b M Z T _ _ (a + 5) x904 (nI n1687) x901 h1681.1 (kA_7 hk (r := 5) (by decide))  (by omega)) cb_X3_open ml_X2_197 im_X3_open se_X3_open (fun _ => o12) h1681 (kA_7 hk (r := 5) (by decide)) rfl rfl (rest := []) rfl (Nat.le_of_ble_eq_true rfl) ⟨Nat.le_of_ble_eq_true rfl, Nat.le_of_ble_eq_true rfl⟩ ⟨Nat.le_of_ble_eq_true rfl, Nat.le_of_ble_eq_true rfl⟩ (fun r σ1688 hp => ?_)
  obtain ⟨h1690, rfl⟩ := hp
  have h1689 := HK.trans h1681 h1690 (by decide)
  refine m_aload_n F rfl e_X2_giveBack_105 ?_
  refine t_getC F e_X2_giveBack_106 fl_X2_33 (fun _ => o7) h1689 hk ((fld_eq (h1690.2 a (by rw [show kA _ a = 7 from hk]; decide))).trans f1685) ?_
  refine m_iconst F (v := 1) (by decide) e_X2_giveBack_109 ?_
  refine m_lload F rfl e_X2_giveBack_110 ?_
  refine t_callV F e_X2_giveBack_112 (s_X3_put (x_l X) V b (M + 1) Z T _ _ (a + 5) 1 x1667 h1689.1 (kA_7 hk (r := 5) (by decide))  (by omega)) cb_X3_put ml_X2_201 im_X3_put se_X3_put (fun _ => o12) h1689 (kA_7 hk (r := 5) (by decide)) rfl rfl (rest := []) rfl (Nat.le_of_ble_eq_true rfl) ⟨Nat.le_of_ble_eq_true rfl, Nat.le_of_ble_eq_true rfl⟩ ⟨Nat.le_of_ble_eq_true rfl, Nat.le_of_ble_eq_true rfl⟩ (fun r σ1691 hp => ?_)
  obtain ⟨h1693, rfl⟩ := hp
  have h1692 := HK.trans h1689 h1693 (by decide)
  refine m_aload_n F rfl e_X2_giveBack_115 ?_
  refine t_getC F e_X2_giveBack_116 fl_X2_33 (fun _ => o7) h1692 hk ((fld_eq (h1693.2 a (by rw [show kA _ a = 7 from hk]; decide))).trans ((fld_eq (h1690.2 a (by rw [show kA _ a = 7 from hk]; decide))).trans f1685)) ?_
  refine m_iconst F (v := 2) (by decide) e_X2_giveBack_119 ?_
  refine m_lload F rfl e_X2_giveBack_120 ?_
  refine m_lneg F e_X2_giveBack_122 ?_
  refine Wm.topl (fun x1694 _ => ?_)
  refine t_callV F e_X2_giveBack_123 (s_X3_put (x_l X) V b (M + 1) Z T _ _ (a + 5) 2 x1694 h1692.1 (kA_7 hk (r := 5) (by decide))  (by omega)) cb_X3_put ml_X2_201 im_X3_put se_X3_put (fun _ => o12) h1692 (kA_7 hk (r := 5) (by decide)) rfl rfl (rest := []) rfl (Nat.le_of_ble_eq_true rfl) ⟨Nat.le_of_ble_eq_true rfl, Nat.le_of_ble_eq_true rfl⟩ ⟨Nat.le_of_ble_eq_true rfl, Nat.le_of_ble_eq_true rfl⟩ (fun r σ1695 hp => ?_)
  obtain ⟨h1697, rfl⟩ := hp
  have h1696 := HK.trans h1692 h1697 (by decide)
  refine m_aload_n F rfl e_X2_giveBack_126 ?_
  refine t_getC F e_X2_giveBack_127 fl_X2_33 (fun _ => o7) h1696 hk ((fld_eq (h1697.2 a (by rw [show kA _ a = 7 from hk]; decide))).trans ((fld_eq (h1693.2 a (by rw [show kA _ a = 7 from hk]; decide))).trans ((fld_eq (h1690.2 a (by rw [show kA _ a = 7 from hk]; decide))).trans f1685))) ?_
  refine m_iconst F (v := 5) (by decide) e_X2_giveBack_130 ?_
  refine m_lload F rfl e_X2_giveBack_131 ?_
  refine m_lneg F e_X2_giveBack_133 ?_
  refine Wm.topl (fun x1698 _ => ?_)
  refine t_callV F e_X2_giveBack_134 (s_X3_put (x_l X) V b (M + 1) Z T _ _ (a + 5) 5 x1698 h1696.1 (kA_7 hk (r := 5) (by decide))  (by omega)) cb_X3_put ml_X2_201 im_X3_put se_X3_put (fun _ => o12) h1696 (kA_7 hk (r := 5) (by decide)) rfl rfl (rest := []) rfl (Nat.le_of_ble_eq_true rfl) ⟨Nat.le_of_ble_eq_true rfl, Nat.le_of_ble_eq_true rfl⟩ ⟨Nat.le_of_ble_eq_true rfl, Nat.le_of_ble_eq_true rfl⟩ (fun r σ1699 hp => ?_)
  obtain ⟨h1701, rfl⟩ := hp
  have h1700 := HK.trans h1696 h1701 (by decide)
  refine m_aload_n F rfl e_X2_giveBack_137 ?_
  refine t_get F e_X2_giveBack_138 fl_X2_189 (fun _ => o15) h1700 k902 rfl (fun v hv f1702 => ?_)
  obtain ⟨r1703, k1704, rfl⟩ := hv
  refine m_iconst F (v := 4) (by decide) e_X2_giveBack_141 ?_
  refine m_dup2_11 F rfl rfl e_X2_giveBack_142 ?_
  refine t_lald F (len := 5) (j := 4) e_X2_giveBack_143 (fun _ => o18) h1700 k1704 (by decide) (by unfold vp_in; decide) (fun x1705 => ?_)
  refine m_lload F rfl e_X2_giveBack_144 ?_
  refine m_ladd F e_X2_giveBack_146 ?_
  refine Wm.topl (fun x1706 _ => ?_)
  refine t_last F (len := 5) (j := 4) e_X2_giveBack_147 (fun _ => o18) h1700 k1704 (by decide) (by unfold vp_in; decide) (by decide) (fun σ1707 h1708 g1709 => ?_)
  refine m_lload F rfl e_X2_giveBack_148 ?_
  exact m_lret F hQ e_X2_giveBack_150 (⟨h1708, _, rfl⟩)
set_option maxRecDepth 20000 in
theorem s_X2_writeDown (l : Launch) (V : VX) (b M Z T N : Nat) (σ : Mem) (a : Nat) (x901 : Int32) (r902 : Nat) (x903 : Int64) (h0 : HT V (b, M, Z, T) σ) (hk : kA b a = 7) (k902 : kA b r902 = 15) (hM : M + 1 ≤ 1000000000) : Ct l V yX2_writeDown cX2_writeDown 5 none 4 0 0 N σ [.ref a, .int x901, .ref r902, .long x903] (fun r τ => HK V (b, M + 1, Z, T) [0, 1, 2, 3, 4, 5, 7, 8, 9, 10, 11, 15, 16, 17, 18, 19] σ τ ∧ r = none) := by
  refine Ct.of (by decide) (Nat.le_of_ble_eq_true rfl) [(0, .ref a), (1, .int x901), (2, .ref r902), (3, .long x903)] rfl (fun X hX F hQ => ?_)
  have h1 : HK V (b, M, Z, T) [0, 1, 2, 3, 4, 5, 7, 8, 9, 10, 11, 15, 16, 17, 18, 19] σ σ := HK.start h0
  refine m_aload_n F rfl e_X2_writeDown_0 ?_
  refine t_get F e_X2_writeDown_1 fl_X2_178 (fun _ => o15) h1 k902 rfl (fun v hv f1710 => ?_)
  obtain ⟨r1711, k1712, rfl⟩ := hv
  refine m_lload_n F rfl e_X2_writeDown_4 ?_
  refine m_lneg F e_X2_writeDown_5 ?_
  refine Wm.topl (fun x1713 _ => ?_)
  refine t_callV F e_X2_writeDown_6 (s_X1_addLong (x_l X) V b M Z T _ _ r1711 x1713 h1.1 k1712  (by omega)) cb_X1_addLong ml_X2_186 im_X1_addLong se_X1_addLong (fun _ => o6) h1 k1712 rfl rfl (rest := []) rfl (Nat.le_of_ble_eq_true rfl) ⟨Nat.le_of_ble_eq_true rfl, Nat.le_of_ble_eq_true rfl⟩ ⟨Nat.le_of_ble_eq_true rfl, Nat.le_of_ble_eq_true rfl⟩ (fun r σ1714 hp => ?_)
  obtain ⟨h1716, rfl⟩ := hp
  have h1715 := HK.trans h1 h1716 (by decide)
  refine m_aload_n F rfl e_X2_writeDown_9 ?_
  refine t_get F e_X2_writeDown_10 fl_X2_33 (fun _ => o7) h1715 hk rfl (fun v hv f1717 => ?_)
  obtain rfl : v = .ref (a + 5) := hv
  refine m_iconst F (v := 5) (by decide) e_X2_writeDown_13 ?_
  refine m_aload_n F rfl e_X2_writeDown_14 ?_
  refine t_get F e_X2_writeDown_15 fl_X2_68 (fun _ => o7) h1715 hk rfl (fun v hv f1718 => ?_)
  obtain ⟨n1719, hn1719, rfl⟩ := hv
  replace hn1719 : n1719 ≤ M := hn1719
  refine m_iload_n F rfl e_X2_writeDown_18 ?_
  refine t_callV F e_X2_writeDown_19 (s_X3_open (x_l X) V b M Z T _ _ (a + 5) 5 (nI n1719) x901 h1715.1 (kA_7 hk (r := 5) (by decide))  (by omega)) cb_X3_open ml_X2_197 im_X3_open se_X3_open (fun _ => o12) h1715 (kA_7 hk (r := 5) (by decide)) rfl rfl (rest := []) rfl (Nat.le_of_ble_eq_true rfl) ⟨Nat.le_of_ble_eq_true rfl, Nat.le_of_ble_eq_true rfl⟩ ⟨Nat.le_of_ble_eq_true rfl, Nat.le_of_ble_eq_true rfl⟩ (fun r σ1720 hp => ?_)
  obtain ⟨h1722, rfl⟩ := hp
  have h1721 := HK.trans h1715 h1722 (by decide)
  refine m_aload_n F rfl e_X2_writeDown_22 ?_
  refine t_getC F e_X2_writeDown_23 fl_X2_33 (fun _ => o7) h1721 hk ((fld_eq (h1722.2 a (by rw [show kA _ a = 7 from hk]; decide))).trans f1717) ?_
  refine m_iconst F (v := 2) (by decide) e_X2_writeDown_26 ?_
  refine m_lload_n F rfl e_X2_writeDown_27 ?_
  refine m_lneg F e_X2_writeDown_28 ?_
  refine Wm.topl (fun x1723 _ => ?_)
  refine t_callV F e_X2_writeDown_29 (s_X3_put (x_l X) V b (M + 1) Z T _ _ (a + 5) 2 x1723 h1721.1 (kA_7 hk (r := 5) (by decide))  (by omega)) cb_X3_put ml_X2_201 im_X3_put se_X3_put (fun _ => o12) h1721 (kA_7 hk (r := 5) (by decide)) rfl rfl (rest := []) rfl (Nat.le_of_ble_eq_true rfl) ⟨Nat.le_of_ble_eq_true rfl, Nat.le_of_ble_eq_true rfl⟩ ⟨Nat.le_of_ble_eq_true rfl, Nat.le_of_ble_eq_true rfl⟩ (fun r σ1724 hp => ?_)
  obtain ⟨h1726, rfl⟩ := hp
  have h1725 := HK.trans h1721 h1726 (by decide)
  refine m_aload_n F rfl e_X2_writeDown_32 ?_
  refine t_getC F e_X2_writeDown_33 fl_X2_33 (fun _ => o7) h1725 hk ((fld_eq (h1726.2 a (by rw [show kA _ a = 7 from hk]; decide))).trans ((fld_eq (h1722.2 a (by rw [show kA _ a = 7 from hk]; decide))).trans f1717)) ?_
  refine m_iconst F (v := 5) (by decide) e_X2_writeDown_36 ?_
  refine m_lload_n F rfl e_X2_writeDown_37 ?_
  refine t_callV F e_X2_writeDown_38 (s_X3_put (x_l X) V b (M + 1) Z T _ _ (a + 5) 5 x903 h1725.1 (kA_7 hk (r := 5) (by decide))  (by omega)) cb_X3_put ml_X2_201 im_X3_put se_X3_put (fun _ => o12) h1725 (kA_7 hk (r := 5) (by decide)) rfl rfl (rest := []) rfl (Nat.le_of_ble_eq_true rfl) ⟨Nat.le_of_ble_eq_true rfl, Nat.le_of_ble_eq_true rfl⟩ ⟨Nat.le_of_ble_eq_true rfl, Nat.le_of_ble_eq_true rfl⟩ (fun r σ1727 hp => ?_)
  obtain ⟨h1729, rfl⟩ := hp
  have h1728 := HK.trans h1725 h1729 (by decide)
  exact m_vret F hQ e_X2_writeDown_41 (⟨h1728, rfl⟩)
set_option maxRecDepth 20000 in
theorem lp_X2_periodGoesBy_20 {V : VX} {X : MX} {b M Z T N : Nat} {σ : Mem} {a : Nat}   (F : Fx V X yX2_periodGoesBy cX2_periodGoesBy 3 none (rmd 5 0 0)) (hQ : Rt V X 0 0 N (fun r τ => HK V (b, M + 9, Z, T) [0, 1, 2, 3, 4, 5, 8, 9, 10, 11, 16, 19] σ τ ∧ r = none)) (hk : kA b a = 7) (hM : M + 9 ≤ 1000000000)  : ∀ (fuel : Nat) (i : Nat) (τ : Mem), HK V (b, M + 2 * i, Z, T) [0, 1, 2, 3, 4, 5, 8, 9, 10, 11, 16, 19] σ τ → i ≤ 4 → 4 - i < fuel → Wm V X 3 N τ 0 0 20 [(1, .int (nI i)), (0, .ref a)] [] := by
  intro fuel
  induction fuel with
  | zero => intro i τ h1 hi hm; exact absurd hm (Nat.not_lt_zero _)
  | succ fuel ih =>
    intro i τ h1 hi hm
    refine m_iload_n F rfl e_X2_periodGoesBy_20 ?_
    refine m_aload_n F rfl e_X2_periodGoesBy_21 ?_
    refine t_get F e_X2_periodGoesBy_22 fl_X2_58 (fun _ => o7) h1 hk rfl (fun v hv f1730 => ?_)
    obtain ⟨n1731, hn1731, rfl⟩ := hv
    replace hn1731 : n1731 ≤ 4 := hn1731
    refine m_icmp_ge F e_X2_periodGoesBy_25 (fun q25 => ?_) (fun q25 => ?_)
    · have c25 : i ≥ n1731 := (nI_leI (a := n1731) (b := i) (by omega) (by omega)).mp q25
      refine m_aload_n F rfl e_X2_periodGoesBy_123 ?_
      refine m_dup F rfl e_X2_periodGoesBy_124 ?_
      refine t_get F e_X2_periodGoesBy_125 fl_X2_68 (fun _ => o7) h1 hk rfl (fun v hv f1732 => ?_)
      obtain ⟨n1733, hn1733, rfl⟩ := hv
      replace hn1733 : n1733 ≤ M + 2 * i := hn1733
      refine m_iconst F (v := 1) (by decide) e_X2_periodGoesBy_128 ?_
      refine m_iadd F e_X2_periodGoesBy_129 ?_
      refine Wm.topE (w := nI (n1733 + 1)) (nI_add n1733 1) ?_
      have h1739 := h1.mono (M' := M + 2 * i + 1) (Z' := Z) (by omega) id
      refine t_put F e_X2_periodGoesBy_130 fp_X2_68 (fun _ => o7) h1739 hk rfl ⟨n1733 + 1, (show n1733 + 1 ≤ M + 2 * i + 1 by omega), rfl⟩ rfl rfl (by decide) (fun σ1734 h1735 g1736 g1737 f1738 => ?_)
      exact m_vret F hQ e_X2_periodGoesBy_133 (⟨(h1735.mono (M' := M + 9) (Z' := Z) (by omega) (by intro e; first | rfl | assumption | omega)), rfl⟩)
    · have c25 : i < n1731 := by have hh := mt (nI_leI (a := n1731) (b := i) (by omega) (by omega)).mpr q25; omega
      refine m_aload_n F rfl e_X2_periodGoesBy_28 ?_
      refine t_get F e_X2_periodGoesBy_29 fl_X2_11 (fun _ => o7) h1 hk rfl (fun v hv f1740 => ?_)
      obtain rfl : v = .ref (a + 1) := hv
      refine m_iload_n F rfl e_X2_periodGoesBy_32 ?_
      refine t_aald8 F (j := i) e_X2_periodGoesBy_33 rfl h1 (kA_7 hk (r := 1) (by decide)) (nI_clamp (by omega)) (vp_in_nI (by omega) (by decide)) ?_
      refine m_astore_n F (lv' := [(2, .ref ((a + 1) + 10 + 12 * i)), (1, .int (nI i)), (0, .ref a)]) e_X2_periodGoesBy_34 (by decide) rfl ?_
      refine m_aload_n F rfl e_X2_periodGoesBy_35 ?_
      refine t_get F e_X2_periodGoesBy_36 fl_X2_129 (fun _ => o15) h1 (kA_8 (kA_7 hk (r := 1) (by decide)) (j := i) (by omega)) rfl (fun v hv f1741 => ?_)
      obtain ⟨x1742, rfl⟩ := hv
      refine m_if_ne F e_X2_periodGoesBy_39 (fun q39 => ?_) (fun q39 => ?_)
      · refine m_aload_n F rfl e_X2_periodGoesBy_62 ?_
        refine t_getC F e_X2_periodGoesBy_63 fl_X2_129 (fun _ => o15) h1 (kA_8 (kA_7 hk (r := 1) (by decide)) (j := i) (by omega)) (f1741) ?_
        refine m_iconst F (v := 1) (by decide) e_X2_periodGoesBy_66 ?_
        refine m_icmp_ne F e_X2_periodGoesBy_67 (fun q67 => ?_) (fun q67 => ?_)
        · refine m_aload_n F rfl e_X2_periodGoesBy_103 ?_
          refine t_getC F e_X2_periodGoesBy_104 fl_X2_129 (fun _ => o15) h1 (kA_8 (kA_7 hk (r := 1) (by decide)) (j := i) (by omega)) (f1741) ?_
          refine m_iconst F (v := 1) (by decide) e_X2_periodGoesBy_107 ?_
          refine m_icmp_ne F e_X2_periodGoesBy_108 (fun q108 => ?_) (fun q108 => ?_)
          · refine m_iinc F (v := nI (i + 1)) (lv' := [(1, .int (nI (i + 1))), (2, .ref ((a + 1) + 10 + 12 * i)), (0, .ref a)]) e_X2_periodGoesBy_117 rfl (nI_add i 1) (by decide) rfl ?_
            refine m_goto F e_X2_periodGoesBy_120 ?_
            refine Wm.lvsub (lv' := [(1, .int (nI (i + 1))), (0, .ref a)]) ?_ [0, 2] rfl
            exact ih (i + 1) _ (h1.mono (M' := M + 2 * (i + 1)) (Z' := Z) (by omega) (by intro e9; first | exact e9 | rfl)) (by omega) (by omega)
          · refine m_aload_n F rfl e_X2_periodGoesBy_111 ?_
            refine m_iload_n F rfl e_X2_periodGoesBy_112 ?_
            refine m_aload_n F rfl e_X2_periodGoesBy_113 ?_
            refine t_callV F e_X2_periodGoesBy_114 (s_X2_payAndWriteOff (x_l X) V b (M + 2 * i) Z T _ _ a (nI i) ((a + 1) + 10 + 12 * i) h1.1 hk (kA_8 (kA_7 hk (r := 1) (by decide)) (j := i) (by omega)) (by omega)) cb_X2_payAndWriteOff ml_X2_168 im_X2_payAndWriteOff se_X2_payAndWriteOff (fun _ => o7) h1 hk rfl rfl (rest := []) rfl (Nat.le_of_ble_eq_true rfl) ⟨Nat.le_of_ble_eq_true rfl, Nat.le_of_ble_eq_true rfl⟩ ⟨Nat.le_of_ble_eq_true rfl, Nat.le_of_ble_eq_true rfl⟩ (fun r σ1743 hp => ?_)
            obtain ⟨h1745, rfl⟩ := hp
            have h1744 := HK.trans h1 h1745 (by decide)
            refine m_iinc F (v := nI (i + 1)) (lv' := [(1, .int (nI (i + 1))), (2, .ref ((a + 1) + 10 + 12 * i)), (0, .ref a)]) e_X2_periodGoesBy_117 rfl (nI_add i 1) (by decide) rfl ?_
            refine m_goto F e_X2_periodGoesBy_120 ?_
            refine Wm.lvsub (lv' := [(1, .int (nI (i + 1))), (0, .ref a)]) ?_ [0, 2] rfl
            exact ih (i + 1) _ (h1744.mono (M' := M + 2 * (i + 1)) (Z' := Z) (by omega) (by intro e9; first | exact e9 | rfl)) (by omega) (by omega)
        · refine m_aload_n F rfl e_X2_periodGoesBy_70 ?_
          refine t_get F e_X2_periodGoesBy_71 fl_X2_150 (fun _ => o15) h1 (kA_8 (kA_7 hk (r := 1) (by decide)) (j := i) (by omega)) rfl (fun v hv f1746 => ?_)
          obtain ⟨n1747, hn1747, rfl⟩ := hv
          replace hn1747 : n1747 ≤ 1 := hn1747
          refine m_if_eq F e_X2_periodGoesBy_74 (fun q74 => ?_) (fun q74 => ?_)
          · have c74 : n1747 = 0 := (nI_eq (a := n1747) (b := 0) (by omega) (by omega)).mp q74
            refine m_aload_n F rfl e_X2_periodGoesBy_103 ?_
            refine t_getC F e_X2_periodGoesBy_104 fl_X2_129 (fun _ => o15) h1 (kA_8 (kA_7 hk (r := 1) (by decide)) (j := i) (by omega)) (f1741) ?_
            refine m_iconst F (v := 1) (by decide) e_X2_periodGoesBy_107 ?_
            refine m_icmp_ne F e_X2_periodGoesBy_108 (fun q108 => ?_) (fun q108 => ?_)
            · refine m_iinc F (v := nI (i + 1)) (lv' := [(1, .int (nI (i + 1))), (2, .ref ((a + 1) + 10 + 12 * i)), (0, .ref a)]) e_X2_periodGoesBy_117 rfl (nI_add i 1) (by decide) rfl ?_
              refine m_goto F e_X2_periodGoesBy_120 ?_
              refine Wm.lvsub (lv' := [(1, .int (nI (i + 1))), (0, .ref a)]) ?_ [0, 2] rfl
              exact ih (i + 1) _ (h1.mono (M' := M + 2 * (i + 1)) (Z' := Z) (by omega) (by intro e9; first | exact e9 | rfl)) (by omega) (by omega)
            · refine m_aload_n F rfl e_X2_periodGoesBy_111 ?_
              refine m_iload_n F rfl e_X2_periodGoesBy_112 ?_
              refine m_aload_n F rfl e_X2_periodGoesBy_113 ?_
              refine t_callV F e_X2_periodGoesBy_114 (s_X2_payAndWriteOff (x_l X) V b (M + 2 * i) Z T _ _ a (nI i) ((a + 1) + 10 + 12 * i) h1.1 hk (kA_8 (kA_7 hk (r := 1) (by decide)) (j := i) (by omega)) (by omega)) cb_X2_payAndWriteOff ml_X2_168 im_X2_payAndWriteOff se_X2_payAndWriteOff (fun _ => o7) h1 hk rfl rfl (rest := []) rfl (Nat.le_of_ble_eq_true rfl) ⟨Nat.le_of_ble_eq_true rfl, Nat.le_of_ble_eq_true rfl⟩ ⟨Nat.le_of_ble_eq_true rfl, Nat.le_of_ble_eq_true rfl⟩ (fun r σ1748 hp => ?_)
              obtain ⟨h1750, rfl⟩ := hp
              have h1749 := HK.trans h1 h1750 (by decide)
              refine m_iinc F (v := nI (i + 1)) (lv' := [(1, .int (nI (i + 1))), (2, .ref ((a + 1) + 10 + 12 * i)), (0, .ref a)]) e_X2_periodGoesBy_117 rfl (nI_add i 1) (by decide) rfl ?_
              refine m_goto F e_X2_periodGoesBy_120 ?_
              refine Wm.lvsub (lv' := [(1, .int (nI (i + 1))), (0, .ref a)]) ?_ [0, 2] rfl
              exact ih (i + 1) _ (h1749.mono (M' := M + 2 * (i + 1)) (Z' := Z) (by omega) (by intro e9; first | exact e9 | rfl)) (by omega) (by omega)
          · have c74 : n1747 ≠ 0 := by have hh := mt (nI_eq (a := n1747) (b := 0) (by omega) (by omega)).mpr q74; omega
            refine m_aload_n F rfl e_X2_periodGoesBy_77 ?_
            refine t_callV F e_X2_periodGoesBy_78 (s_X2_indexNow (x_l X) V b (M + 2 * i) Z T _ _ a  h1.1 hk  (by omega)) cb_X2_indexNow ml_X2_153 im_X2_indexNow se_X2_indexNow (fun _ => o7) h1 hk rfl rfl (rest := []) rfl (Nat.le_of_ble_eq_true rfl) ⟨Nat.le_of_ble_eq_true rfl, Nat.le_of_ble_eq_true rfl⟩ ⟨Nat.le_of_ble_eq_true rfl, Nat.le_of_ble_eq_true rfl⟩ (fun r σ1751 hp => ?_)
            obtain ⟨h1753, x1754, rfl⟩ := hp
            have h1752 := HK.trans h1 h1753 (by decide)
            refine m_aload_n F rfl e_X2_periodGoesBy_81 ?_
            refine t_get F e_X2_periodGoesBy_82 fl_X2_157 (fun _ => o15) h1752 (kA_8 (kA_7 hk (r := 1) (by decide)) (j := i) (by omega)) rfl (fun v hv f1755 => ?_)
            obtain ⟨x1756, rfl⟩ := hv
            refine m_icmp_eq F e_X2_periodGoesBy_85 (fun q85 => ?_) (fun q85 => ?_)
            · refine m_aload_n F rfl e_X2_periodGoesBy_103 ?_
              refine t_getC F e_X2_periodGoesBy_104 fl_X2_129 (fun _ => o15) h1752 (kA_8 (kA_7 hk (r := 1) (by decide)) (j := i) (by omega)) ((fld_eq (h1753.2 ((a + 1) + 10 + 12 * i) (by rw [show kA _ ((a + 1) + 10 + 12 * i) = 15 from (kA_8 (kA_7 hk (r := 1) (by decide)) (j := i) (by omega))]; decide))).trans f1741) ?_
              refine m_iconst F (v := 1) (by decide) e_X2_periodGoesBy_107 ?_
              refine m_icmp_ne F e_X2_periodGoesBy_108 (fun q108 => ?_) (fun q108 => ?_)
              · refine m_iinc F (v := nI (i + 1)) (lv' := [(1, .int (nI (i + 1))), (2, .ref ((a + 1) + 10 + 12 * i)), (0, .ref a)]) e_X2_periodGoesBy_117 rfl (nI_add i 1) (by decide) rfl ?_
                refine m_goto F e_X2_periodGoesBy_120 ?_
                refine Wm.lvsub (lv' := [(1, .int (nI (i + 1))), (0, .ref a)]) ?_ [0, 2] rfl
                exact ih (i + 1) _ (h1752.mono (M' := M + 2 * (i + 1)) (Z' := Z) (by omega) (by intro e9; first | exact e9 | rfl)) (by omega) (by omega)
              · refine m_aload_n F rfl e_X2_periodGoesBy_111 ?_
                refine m_iload_n F rfl e_X2_periodGoesBy_112 ?_
                refine m_aload_n F rfl e_X2_periodGoesBy_113 ?_
                refine t_callV F e_X2_periodGoesBy_114 (s_X2_payAndWriteOff (x_l X) V b (M + 2 * i) Z T _ _ a (nI i) ((a + 1) + 10 + 12 * i) h1752.1 hk (kA_8 (kA_7 hk (r := 1) (by decide)) (j := i) (by omega)) (by omega)) cb_X2_payAndWriteOff ml_X2_168 im_X2_payAndWriteOff se_X2_payAndWriteOff (fun _ => o7) h1752 hk rfl rfl (rest := []) rfl (Nat.le_of_ble_eq_true rfl) ⟨Nat.le_of_ble_eq_true rfl, Nat.le_of_ble_eq_true rfl⟩ ⟨Nat.le_of_ble_eq_true rfl, Nat.le_of_ble_eq_true rfl⟩ (fun r σ1757 hp => ?_)
                obtain ⟨h1759, rfl⟩ := hp
                have h1758 := HK.trans h1752 h1759 (by decide)
                refine m_iinc F (v := nI (i + 1)) (lv' := [(1, .int (nI (i + 1))), (2, .ref ((a + 1) + 10 + 12 * i)), (0, .ref a)]) e_X2_periodGoesBy_117 rfl (nI_add i 1) (by decide) rfl ?_
                refine m_goto F e_X2_periodGoesBy_120 ?_
                refine Wm.lvsub (lv' := [(1, .int (nI (i + 1))), (0, .ref a)]) ?_ [0, 2] rfl
                exact ih (i + 1) _ (h1758.mono (M' := M + 2 * (i + 1)) (Z' := Z) (by omega) (by intro e9; first | exact e9 | rfl)) (by omega) (by omega)
            · refine m_aload_n F rfl e_X2_periodGoesBy_88 ?_
              refine m_aload_n F rfl e_X2_periodGoesBy_89 ?_
              refine t_callV F e_X2_periodGoesBy_90 (s_X2_indexNow (x_l X) V b (M + 2 * i) Z T _ _ a  h1752.1 hk  (by omega)) cb_X2_indexNow ml_X2_153 im_X2_indexNow se_X2_indexNow (fun _ => o7) h1752 hk rfl rfl (rest := [.ref ((a + 1) + 10 + 12 * i)]) rfl (Nat.le_of_ble_eq_true rfl) ⟨Nat.le_of_ble_eq_true rfl, Nat.le_of_ble_eq_true rfl⟩ ⟨Nat.le_of_ble_eq_true rfl, Nat.le_of_ble_eq_true rfl⟩ (fun r σ1760 hp => ?_)
              obtain ⟨h1762, x1763, rfl⟩ := hp
              have h1761 := HK.trans h1752 h1762 (by decide)
              refine t_callV F e_X2_periodGoesBy_93 (s_X5_followIndex (x_l X) V b (M + 2 * i) Z T _ _ ((a + 1) + 10 + 12 * i) x1763 h1761.1 (kA_8 (kA_7 hk (r := 1) (by decide)) (j := i) (by omega))  (by omega)) cb_X5_followIndex ml_X2_160 im_X5_followIndex se_X5_followIndex (fun _ => o15) h1761 (kA_8 (kA_7 hk (r := 1) (by decide)) (j := i) (by omega)) rfl rfl (rest := []) rfl (Nat.le_of_ble_eq_true rfl) ⟨Nat.le_of_ble_eq_true rfl, Nat.le_of_ble_eq_true rfl⟩ ⟨Nat.le_of_ble_eq_true rfl, Nat.le_of_ble_eq_true rfl⟩ (fun r σ1764 hp => ?_)
              obtain ⟨h1766, rfl⟩ := hp
              have h1765 := HK.trans h1761 h1766 (by decide)
              refine m_aload_n F rfl e_X2_periodGoesBy_96 ?_
              refine m_iload_n F rfl e_X2_periodGoesBy_97 ?_
              refine m_aload_n F rfl e_X2_periodGoesBy_98 ?_
              refine t_callV F e_X2_periodGoesBy_99 (s_X2_remeasure (x_l X) V b (M + 2 * i) Z T _ _ a (nI i) ((a + 1) + 10 + 12 * i) h1765.1 hk (kA_8 (kA_7 hk (r := 1) (by decide)) (j := i) (by omega)) (by omega)) cb_X2_remeasure ml_X2_164 im_X2_remeasure se_X2_remeasure (fun _ => o7) h1765 hk rfl rfl (rest := []) rfl (Nat.le_of_ble_eq_true rfl) ⟨Nat.le_of_ble_eq_true rfl, Nat.le_of_ble_eq_true rfl⟩ ⟨Nat.le_of_ble_eq_true rfl, Nat.le_of_ble_eq_true rfl⟩ (fun r σ1767 hp => ?_)
              obtain ⟨h1769, x1770, rfl⟩ := hp
              have h1768 := HK.trans h1765 h1769 (by decide)
              refine m_pop2_2 F rfl e_X2_periodGoesBy_102 ?_
              refine m_aload_n F rfl e_X2_periodGoesBy_103 ?_
              refine t_get F e_X2_periodGoesBy_104 fl_X2_129 (fun _ => o15) h1768 (kA_8 (kA_7 hk (r := 1) (by decide)) (j := i) (by omega)) rfl (fun v hv f1771 => ?_)
              obtain ⟨x1772, rfl⟩ := hv
              refine m_iconst F (v := 1) (by decide) e_X2_periodGoesBy_107 ?_
              refine m_icmp_ne F e_X2_periodGoesBy_108 (fun q108 => ?_) (fun q108 => ?_)
              · refine m_iinc F (v := nI (i + 1)) (lv' := [(1, .int (nI (i + 1))), (2, .ref ((a + 1) + 10 + 12 * i)), (0, .ref a)]) e_X2_periodGoesBy_117 rfl (nI_add i 1) (by decide) rfl ?_
                refine m_goto F e_X2_periodGoesBy_120 ?_
                refine Wm.lvsub (lv' := [(1, .int (nI (i + 1))), (0, .ref a)]) ?_ [0, 2] rfl
                exact ih (i + 1) _ (h1768.mono (M' := M + 2 * (i + 1)) (Z' := Z) (by omega) (by intro e9; first | exact e9 | rfl)) (by omega) (by omega)
              · refine m_aload_n F rfl e_X2_periodGoesBy_111 ?_
                refine m_iload_n F rfl e_X2_periodGoesBy_112 ?_
                refine m_aload_n F rfl e_X2_periodGoesBy_113 ?_
                refine t_callV F e_X2_periodGoesBy_114 (s_X2_payAndWriteOff (x_l X) V b (M + 2 * i + 1) Z T _ _ a (nI i) ((a + 1) + 10 + 12 * i) h1768.1 hk (kA_8 (kA_7 hk (r := 1) (by decide)) (j := i) (by omega)) (by omega)) cb_X2_payAndWriteOff ml_X2_168 im_X2_payAndWriteOff se_X2_payAndWriteOff (fun _ => o7) h1768 hk rfl rfl (rest := []) rfl (Nat.le_of_ble_eq_true rfl) ⟨Nat.le_of_ble_eq_true rfl, Nat.le_of_ble_eq_true rfl⟩ ⟨Nat.le_of_ble_eq_true rfl, Nat.le_of_ble_eq_true rfl⟩ (fun r σ1773 hp => ?_)
                obtain ⟨h1775, rfl⟩ := hp
                have h1774 := HK.trans h1768 h1775 (by decide)
                refine m_iinc F (v := nI (i + 1)) (lv' := [(1, .int (nI (i + 1))), (2, .ref ((a + 1) + 10 + 12 * i)), (0, .ref a)]) e_X2_periodGoesBy_117 rfl (nI_add i 1) (by decide) rfl ?_
                refine m_goto F e_X2_periodGoesBy_120 ?_
                refine Wm.lvsub (lv' := [(1, .int (nI (i + 1))), (0, .ref a)]) ?_ [0, 2] rfl
                exact ih (i + 1) _ (h1774.mono (M' := M + 2 * (i + 1)) (Z' := Z) (by omega) (by intro e9; first | exact e9 | rfl)) (by omega) (by omega)
      · refine m_aload_n F rfl e_X2_periodGoesBy_42 ?_
        refine t_get F e_X2_periodGoesBy_43 fl_X2_143 (fun _ => o15) h1 (kA_8 (kA_7 hk (r := 1) (by decide)) (j := i) (by omega)) rfl (fun v hv f1776 => ?_)
        obtain ⟨x1777, rfl⟩ := hv
        refine m_aload_n F rfl e_X2_periodGoesBy_46 ?_
        refine t_get F e_X2_periodGoesBy_47 fl_X2_68 (fun _ => o7) h1 hk rfl (fun v hv f1778 => ?_)
        obtain ⟨n1779, hn1779, rfl⟩ := hv
        replace hn1779 : n1779 ≤ M + 2 * i := hn1779
        refine m_icmp_ne F e_X2_periodGoesBy_50 (fun q50 => ?_) (fun q50 => ?_)
        · refine m_aload_n F rfl e_X2_periodGoesBy_62 ?_
          refine t_getC F e_X2_periodGoesBy_63 fl_X2_129 (fun _ => o15) h1 (kA_8 (kA_7 hk (r := 1) (by decide)) (j := i) (by omega)) (f1741) ?_
          refine m_iconst F (v := 1) (by decide) e_X2_periodGoesBy_66 ?_
          refine m_icmp_ne F e_X2_periodGoesBy_67 (fun q67 => ?_) (fun q67 => ?_)
          · refine m_aload_n F rfl e_X2_periodGoesBy_103 ?_
            refine t_getC F e_X2_periodGoesBy_104 fl_X2_129 (fun _ => o15) h1 (kA_8 (kA_7 hk (r := 1) (by decide)) (j := i) (by omega)) (f1741) ?_
            refine m_iconst F (v := 1) (by decide) e_X2_periodGoesBy_107 ?_
            refine m_icmp_ne F e_X2_periodGoesBy_108 (fun q108 => ?_) (fun q108 => ?_)
            · refine m_iinc F (v := nI (i + 1)) (lv' := [(1, .int (nI (i + 1))), (2, .ref ((a + 1) + 10 + 12 * i)), (0, .ref a)]) e_X2_periodGoesBy_117 rfl (nI_add i 1) (by decide) rfl ?_
              refine m_goto F e_X2_periodGoesBy_120 ?_
              refine Wm.lvsub (lv' := [(1, .int (nI (i + 1))), (0, .ref a)]) ?_ [0, 2] rfl
              exact ih (i + 1) _ (h1.mono (M' := M + 2 * (i + 1)) (Z' := Z) (by omega) (by intro e9; first | exact e9 | rfl)) (by omega) (by omega)
            · refine m_aload_n F rfl e_X2_periodGoesBy_111 ?_
              refine m_iload_n F rfl e_X2_periodGoesBy_112 ?_
              refine m_aload_n F rfl e_X2_periodGoesBy_113 ?_
              refine t_callV F e_X2_periodGoesBy_114 (s_X2_payAndWriteOff (x_l X) V b (M + 2 * i) Z T _ _ a (nI i) ((a + 1) + 10 + 12 * i) h1.1 hk (kA_8 (kA_7 hk (r := 1) (by decide)) (j := i) (by omega)) (by omega)) cb_X2_payAndWriteOff ml_X2_168 im_X2_payAndWriteOff se_X2_payAndWriteOff (fun _ => o7) h1 hk rfl rfl (rest := []) rfl (Nat.le_of_ble_eq_true rfl) ⟨Nat.le_of_ble_eq_true rfl, Nat.le_of_ble_eq_true rfl⟩ ⟨Nat.le_of_ble_eq_true rfl, Nat.le_of_ble_eq_true rfl⟩ (fun r σ1780 hp => ?_)
              obtain ⟨h1782, rfl⟩ := hp
              have h1781 := HK.trans h1 h1782 (by decide)
              refine m_iinc F (v := nI (i + 1)) (lv' := [(1, .int (nI (i + 1))), (2, .ref ((a + 1) + 10 + 12 * i)), (0, .ref a)]) e_X2_periodGoesBy_117 rfl (nI_add i 1) (by decide) rfl ?_
              refine m_goto F e_X2_periodGoesBy_120 ?_
              refine Wm.lvsub (lv' := [(1, .int (nI (i + 1))), (0, .ref a)]) ?_ [0, 2] rfl
              exact ih (i + 1) _ (h1781.mono (M' := M + 2 * (i + 1)) (Z' := Z) (by omega) (by intro e9; first | exact e9 | rfl)) (by omega) (by omega)
          · refine m_aload_n F rfl e_X2_periodGoesBy_70 ?_
            refine t_get F e_X2_periodGoesBy_71 fl_X2_150 (fun _ => o15) h1 (kA_8 (kA_7 hk (r := 1) (by decide)) (j := i) (by omega)) rfl (fun v hv f1783 => ?_)
            obtain ⟨n1784, hn1784, rfl⟩ := hv
            replace hn1784 : n1784 ≤ 1 := hn1784
            refine m_if_eq F e_X2_periodGoesBy_74 (fun q74 => ?_) (fun q74 => ?_)
            · have c74 : n1784 = 0 := (nI_eq (a := n1784) (b := 0) (by omega) (by omega)).mp q74
              refine m_aload_n F rfl e_X2_periodGoesBy_103 ?_
              refine t_getC F e_X2_periodGoesBy_104 fl_X2_129 (fun _ => o15) h1 (kA_8 (kA_7 hk (r := 1) (by decide)) (j := i) (by omega)) (f1741) ?_
              refine m_iconst F (v := 1) (by decide) e_X2_periodGoesBy_107 ?_
              refine m_icmp_ne F e_X2_periodGoesBy_108 (fun q108 => ?_) (fun q108 => ?_)
              · refine m_iinc F (v := nI (i + 1)) (lv' := [(1, .int (nI (i + 1))), (2, .ref ((a + 1) + 10 + 12 * i)), (0, .ref a)]) e_X2_periodGoesBy_117 rfl (nI_add i 1) (by decide) rfl ?_
                refine m_goto F e_X2_periodGoesBy_120 ?_
                refine Wm.lvsub (lv' := [(1, .int (nI (i + 1))), (0, .ref a)]) ?_ [0, 2] rfl
                exact ih (i + 1) _ (h1.mono (M' := M + 2 * (i + 1)) (Z' := Z) (by omega) (by intro e9; first | exact e9 | rfl)) (by omega) (by omega)
              · refine m_aload_n F rfl e_X2_periodGoesBy_111 ?_
                refine m_iload_n F rfl e_X2_periodGoesBy_112 ?_
                refine m_aload_n F rfl e_X2_periodGoesBy_113 ?_
                refine t_callV F e_X2_periodGoesBy_114 (s_X2_payAndWriteOff (x_l X) V b (M + 2 * i) Z T _ _ a (nI i) ((a + 1) + 10 + 12 * i) h1.1 hk (kA_8 (kA_7 hk (r := 1) (by decide)) (j := i) (by omega)) (by omega)) cb_X2_payAndWriteOff ml_X2_168 im_X2_payAndWriteOff se_X2_payAndWriteOff (fun _ => o7) h1 hk rfl rfl (rest := []) rfl (Nat.le_of_ble_eq_true rfl) ⟨Nat.le_of_ble_eq_true rfl, Nat.le_of_ble_eq_true rfl⟩ ⟨Nat.le_of_ble_eq_true rfl, Nat.le_of_ble_eq_true rfl⟩ (fun r σ1785 hp => ?_)
                obtain ⟨h1787, rfl⟩ := hp
                have h1786 := HK.trans h1 h1787 (by decide)
                refine m_iinc F (v := nI (i + 1)) (lv' := [(1, .int (nI (i + 1))), (2, .ref ((a + 1) + 10 + 12 * i)), (0, .ref a)]) e_X2_periodGoesBy_117 rfl (nI_add i 1) (by decide) rfl ?_
                refine m_goto F e_X2_periodGoesBy_120 ?_
                refine Wm.lvsub (lv' := [(1, .int (nI (i + 1))), (0, .ref a)]) ?_ [0, 2] rfl
                exact ih (i + 1) _ (h1786.mono (M' := M + 2 * (i + 1)) (Z' := Z) (by omega) (by intro e9; first | exact e9 | rfl)) (by omega) (by omega)
            · have c74 : n1784 ≠ 0 := by have hh := mt (nI_eq (a := n1784) (b := 0) (by omega) (by omega)).mpr q74; omega
              refine m_aload_n F rfl e_X2_periodGoesBy_77 ?_
              refine t_callV F e_X2_periodGoesBy_78 (s_X2_indexNow (x_l X) V b (M + 2 * i) Z T _ _ a  h1.1 hk  (by omega)) cb_X2_indexNow ml_X2_153 im_X2_indexNow se_X2_indexNow (fun _ => o7) h1 hk rfl rfl (rest := []) rfl (Nat.le_of_ble_eq_true rfl) ⟨Nat.le_of_ble_eq_true rfl, Nat.le_of_ble_eq_true rfl⟩ ⟨Nat.le_of_ble_eq_true rfl, Nat.le_of_ble_eq_true rfl⟩ (fun r σ1788 hp => ?_)
              obtain ⟨h1790, x1791, rfl⟩ := hp
              have h1789 := HK.trans h1 h1790 (by decide)
              refine m_aload_n F rfl e_X2_periodGoesBy_81 ?_
              refine t_get F e_X2_periodGoesBy_82 fl_X2_157 (fun _ => o15) h1789 (kA_8 (kA_7 hk (r := 1) (by decide)) (j := i) (by omega)) rfl (fun v hv f1792 => ?_)
              obtain ⟨x1793, rfl⟩ := hv
              refine m_icmp_eq F e_X2_periodGoesBy_85 (fun q85 => ?_) (fun q85 => ?_)
              · refine m_aload_n F rfl e_X2_periodGoesBy_103 ?_
                refine t_getC F e_X2_periodGoesBy_104 fl_X2_129 (fun _ => o15) h1789 (kA_8 (kA_7 hk (r := 1) (by decide)) (j := i) (by omega)) ((fld_eq (h1790.2 ((a + 1) + 10 + 12 * i) (by rw [show kA _ ((a + 1) + 10 + 12 * i) = 15 from (kA_8 (kA_7 hk (r := 1) (by decide)) (j := i) (by omega))]; decide))).trans f1741) ?_
                refine m_iconst F (v := 1) (by decide) e_X2_periodGoesBy_107 ?_
                refine m_icmp_ne F e_X2_periodGoesBy_108 (fun q108 => ?_) (fun q108 => ?_)
                · refine m_iinc F (v := nI (i + 1)) (lv' := [(1, .int (nI (i + 1))), (2, .ref ((a + 1) + 10 + 12 * i)), (0, .ref a)]) e_X2_periodGoesBy_117 rfl (nI_add i 1) (by decide) rfl ?_
                  refine m_goto F e_X2_periodGoesBy_120 ?_
                  refine Wm.lvsub (lv' := [(1, .int (nI (i + 1))), (0, .ref a)]) ?_ [0, 2] rfl
                  exact ih (i + 1) _ (h1789.mono (M' := M + 2 * (i + 1)) (Z' := Z) (by omega) (by intro e9; first | exact e9 | rfl)) (by omega) (by omega)
                · refine m_aload_n F rfl e_X2_periodGoesBy_111 ?_
                  refine m_iload_n F rfl e_X2_periodGoesBy_112 ?_
                  refine m_aload_n F rfl e_X2_periodGoesBy_113 ?_
                  refine t_callV F e_X2_periodGoesBy_114 (s_X2_payAndWriteOff (x_l X) V b (M + 2 * i) Z T _ _ a (nI i) ((a + 1) + 10 + 12 * i) h1789.1 hk (kA_8 (kA_7 hk (r := 1) (by decide)) (j := i) (by omega)) (by omega)) cb_X2_payAndWriteOff ml_X2_168 im_X2_payAndWriteOff se_X2_payAndWriteOff (fun _ => o7) h1789 hk rfl rfl (rest := []) rfl (Nat.le_of_ble_eq_true rfl) ⟨Nat.le_of_ble_eq_true rfl, Nat.le_of_ble_eq_true rfl⟩ ⟨Nat.le_of_ble_eq_true rfl, Nat.le_of_ble_eq_true rfl⟩ (fun r σ1794 hp => ?_)
                  obtain ⟨h1796, rfl⟩ := hp
                  have h1795 := HK.trans h1789 h1796 (by decide)
                  refine m_iinc F (v := nI (i + 1)) (lv' := [(1, .int (nI (i + 1))), (2, .ref ((a + 1) + 10 + 12 * i)), (0, .ref a)]) e_X2_periodGoesBy_117 rfl (nI_add i 1) (by decide) rfl ?_
                  refine m_goto F e_X2_periodGoesBy_120 ?_
                  refine Wm.lvsub (lv' := [(1, .int (nI (i + 1))), (0, .ref a)]) ?_ [0, 2] rfl
                  exact ih (i + 1) _ (h1795.mono (M' := M + 2 * (i + 1)) (Z' := Z) (by omega) (by intro e9; first | exact e9 | rfl)) (by omega) (by omega)
              · refine m_aload_n F rfl e_X2_periodGoesBy_88 ?_
                refine m_aload_n F rfl e_X2_periodGoesBy_89 ?_
                refine t_callV F e_X2_periodGoesBy_90 (s_X2_indexNow (x_l X) V b (M + 2 * i) Z T _ _ a  h1789.1 hk  (by omega)) cb_X2_indexNow ml_X2_153 im_X2_indexNow se_X2_indexNow (fun _ => o7) h1789 hk rfl rfl (rest := [.ref ((a + 1) + 10 + 12 * i)]) rfl (Nat.le_of_ble_eq_true rfl) ⟨Nat.le_of_ble_eq_true rfl, Nat.le_of_ble_eq_true rfl⟩ ⟨Nat.le_of_ble_eq_true rfl, Nat.le_of_ble_eq_true rfl⟩ (fun r σ1797 hp => ?_)
                obtain ⟨h1799, x1800, rfl⟩ := hp
                have h1798 := HK.trans h1789 h1799 (by decide)
                refine t_callV F e_X2_periodGoesBy_93 (s_X5_followIndex (x_l X) V b (M + 2 * i) Z T _ _ ((a + 1) + 10 + 12 * i) x1800 h1798.1 (kA_8 (kA_7 hk (r := 1) (by decide)) (j := i) (by omega))  (by omega)) cb_X5_followIndex ml_X2_160 im_X5_followIndex se_X5_followIndex (fun _ => o15) h1798 (kA_8 (kA_7 hk (r := 1) (by decide)) (j := i) (by omega)) rfl rfl (rest := []) rfl (Nat.le_of_ble_eq_true rfl) ⟨Nat.le_of_ble_eq_true rfl, Nat.le_of_ble_eq_true rfl⟩ ⟨Nat.le_of_ble_eq_true rfl, Nat.le_of_ble_eq_true rfl⟩ (fun r σ1801 hp => ?_)
                obtain ⟨h1803, rfl⟩ := hp
                have h1802 := HK.trans h1798 h1803 (by decide)
                refine m_aload_n F rfl e_X2_periodGoesBy_96 ?_
                refine m_iload_n F rfl e_X2_periodGoesBy_97 ?_
                refine m_aload_n F rfl e_X2_periodGoesBy_98 ?_
                refine t_callV F e_X2_periodGoesBy_99 (s_X2_remeasure (x_l X) V b (M + 2 * i) Z T _ _ a (nI i) ((a + 1) + 10 + 12 * i) h1802.1 hk (kA_8 (kA_7 hk (r := 1) (by decide)) (j := i) (by omega)) (by omega)) cb_X2_remeasure ml_X2_164 im_X2_remeasure se_X2_remeasure (fun _ => o7) h1802 hk rfl rfl (rest := []) rfl (Nat.le_of_ble_eq_true rfl) ⟨Nat.le_of_ble_eq_true rfl, Nat.le_of_ble_eq_true rfl⟩ ⟨Nat.le_of_ble_eq_true rfl, Nat.le_of_ble_eq_true rfl⟩ (fun r σ1804 hp => ?_)
                obtain ⟨h1806, x1807, rfl⟩ := hp
                have h1805 := HK.trans h1802 h1806 (by decide)
                refine m_pop2_2 F rfl e_X2_periodGoesBy_102 ?_
                refine m_aload_n F rfl e_X2_periodGoesBy_103 ?_
                refine t_get F e_X2_periodGoesBy_104 fl_X2_129 (fun _ => o15) h1805 (kA_8 (kA_7 hk (r := 1) (by decide)) (j := i) (by omega)) rfl (fun v hv f1808 => ?_)
                obtain ⟨x1809, rfl⟩ := hv
                refine m_iconst F (v := 1) (by decide) e_X2_periodGoesBy_107 ?_
                refine m_icmp_ne F e_X2_periodGoesBy_108 (fun q108 => ?_) (fun q108 => ?_)
                · refine m_iinc F (v := nI (i + 1)) (lv' := [(1, .int (nI (i + 1))), (2, .ref ((a + 1) + 10 + 12 * i)), (0, .ref a)]) e_X2_periodGoesBy_117 rfl (nI_add i 1) (by decide) rfl ?_
                  refine m_goto F e_X2_periodGoesBy_120 ?_
                  refine Wm.lvsub (lv' := [(1, .int (nI (i + 1))), (0, .ref a)]) ?_ [0, 2] rfl
                  exact ih (i + 1) _ (h1805.mono (M' := M + 2 * (i + 1)) (Z' := Z) (by omega) (by intro e9; first | exact e9 | rfl)) (by omega) (by omega)
                · refine m_aload_n F rfl e_X2_periodGoesBy_111 ?_
                  refine m_iload_n F rfl e_X2_periodGoesBy_112 ?_
                  refine m_aload_n F rfl e_X2_periodGoesBy_113 ?_
                  refine t_callV F e_X2_periodGoesBy_114 (s_X2_payAndWriteOff (x_l X) V b (M + 2 * i + 1) Z T _ _ a (nI i) ((a + 1) + 10 + 12 * i) h1805.1 hk (kA_8 (kA_7 hk (r := 1) (by decide)) (j := i) (by omega)) (by omega)) cb_X2_payAndWriteOff ml_X2_168 im_X2_payAndWriteOff se_X2_payAndWriteOff (fun _ => o7) h1805 hk rfl rfl (rest := []) rfl (Nat.le_of_ble_eq_true rfl) ⟨Nat.le_of_ble_eq_true rfl, Nat.le_of_ble_eq_true rfl⟩ ⟨Nat.le_of_ble_eq_true rfl, Nat.le_of_ble_eq_true rfl⟩ (fun r σ1810 hp => ?_)
                  obtain ⟨h1812, rfl⟩ := hp
                  have h1811 := HK.trans h1805 h1812 (by decide)
                  refine m_iinc F (v := nI (i + 1)) (lv' := [(1, .int (nI (i + 1))), (2, .ref ((a + 1) + 10 + 12 * i)), (0, .ref a)]) e_X2_periodGoesBy_117 rfl (nI_add i 1) (by decide) rfl ?_
                  refine m_goto F e_X2_periodGoesBy_120 ?_
                  refine Wm.lvsub (lv' := [(1, .int (nI (i + 1))), (0, .ref a)]) ?_ [0, 2] rfl
                  exact ih (i + 1) _ (h1811.mono (M' := M + 2 * (i + 1)) (Z' := Z) (by omega) (by intro e9; first | exact e9 | rfl)) (by omega) (by omega)
        · refine m_aload_n F rfl e_X2_periodGoesBy_53 ?_
          refine m_iload_n F rfl e_X2_periodGoesBy_54 ?_
          refine m_aload_n F rfl e_X2_periodGoesBy_55 ?_
          refine t_callV F e_X2_periodGoesBy_56 (s_X2_begin (x_l X) V b (M + 2 * i) Z T _ _ a (nI i) ((a + 1) + 10 + 12 * i) h1.1 hk (kA_8 (kA_7 hk (r := 1) (by decide)) (j := i) (by omega)) (by omega)) cb_X2_begin ml_X2_146 im_X2_begin se_X2_begin (fun _ => o7) h1 hk rfl rfl (rest := []) rfl (Nat.le_of_ble_eq_true rfl) ⟨Nat.le_of_ble_eq_true rfl, Nat.le_of_ble_eq_true rfl⟩ ⟨Nat.le_of_ble_eq_true rfl, Nat.le_of_ble_eq_true rfl⟩ (fun r σ1813 hp => ?_)
          obtain ⟨h1815, rfl⟩ := hp
          have h1814 := HK.trans h1 h1815 (by decide)
          refine m_goto F e_X2_periodGoesBy_59 ?_
          refine m_aload_n F rfl e_X2_periodGoesBy_103 ?_
          refine t_get F e_X2_periodGoesBy_104 fl_X2_129 (fun _ => o15) h1814 (kA_8 (kA_7 hk (r := 1) (by decide)) (j := i) (by omega)) rfl (fun v hv f1816 => ?_)
          obtain ⟨x1817, rfl⟩ := hv
          refine m_iconst F (v := 1) (by decide) e_X2_periodGoesBy_107 ?_
          refine m_icmp_ne F e_X2_periodGoesBy_108 (fun q108 => ?_) (fun q108 => ?_)
          · refine m_iinc F (v := nI (i + 1)) (lv' := [(1, .int (nI (i + 1))), (2, .ref ((a + 1) + 10 + 12 * i)), (0, .ref a)]) e_X2_periodGoesBy_117 rfl (nI_add i 1) (by decide) rfl ?_
            refine m_goto F e_X2_periodGoesBy_120 ?_
            refine Wm.lvsub (lv' := [(1, .int (nI (i + 1))), (0, .ref a)]) ?_ [0, 2] rfl
            exact ih (i + 1) _ (h1814.mono (M' := M + 2 * (i + 1)) (Z' := Z) (by omega) (by intro e9; first | exact e9 | rfl)) (by omega) (by omega)
          · refine m_aload_n F rfl e_X2_periodGoesBy_111 ?_
            refine m_iload_n F rfl e_X2_periodGoesBy_112 ?_
            refine m_aload_n F rfl e_X2_periodGoesBy_113 ?_
            refine t_callV F e_X2_periodGoesBy_114 (s_X2_payAndWriteOff (x_l X) V b (M + 2 * i + 1) Z T _ _ a (nI i) ((a + 1) + 10 + 12 * i) h1814.1 hk (kA_8 (kA_7 hk (r := 1) (by decide)) (j := i) (by omega)) (by omega)) cb_X2_payAndWriteOff ml_X2_168 im_X2_payAndWriteOff se_X2_payAndWriteOff (fun _ => o7) h1814 hk rfl rfl (rest := []) rfl (Nat.le_of_ble_eq_true rfl) ⟨Nat.le_of_ble_eq_true rfl, Nat.le_of_ble_eq_true rfl⟩ ⟨Nat.le_of_ble_eq_true rfl, Nat.le_of_ble_eq_true rfl⟩ (fun r σ1818 hp => ?_)
            obtain ⟨h1820, rfl⟩ := hp
            have h1819 := HK.trans h1814 h1820 (by decide)
            refine m_iinc F (v := nI (i + 1)) (lv' := [(1, .int (nI (i + 1))), (2, .ref ((a + 1) + 10 + 12 * i)), (0, .ref a)]) e_X2_periodGoesBy_117 rfl (nI_add i 1) (by decide) rfl ?_
            refine m_goto F e_X2_periodGoesBy_120 ?_
            refine Wm.lvsub (lv' := [(1, .int (nI (i + 1))), (0, .ref a)]) ?_ [0, 2] rfl
            exact ih (i + 1) _ (h1819.mono (M' := M + 2 * (i + 1)) (Z' := Z) (by omega) (by intro e9; first | exact e9 | rfl)) (by omega) (by omega)
set_option maxRecDepth 20000 in
theorem s_X2_periodGoesBy (l : Launch) (V : VX) (b M Z T N : Nat) (σ : Mem) (a : Nat) (h0 : HT V (b, M, Z, T) σ) (hk : kA b a = 7) (hM : M + 9 ≤ 1000000000) : Ct l V yX2_periodGoesBy cX2_periodGoesBy 3 none 5 0 0 N σ [.ref a] (fun r τ => HK V (b, M + 9, Z, T) [0, 1, 2, 3, 4, 5, 8, 9, 10, 11, 16, 19] σ τ ∧ r = none) := by
  refine Ct.of (by decide) (Nat.le_of_ble_eq_true rfl) [(0, .ref a)] rfl (fun X hX F hQ => ?_)
  have h1 : HK V (b, M, Z, T) [0, 1, 2, 3, 4, 5, 8, 9, 10, 11, 16, 19] σ σ := HK.start h0
  refine m_aload_n F rfl e_X2_periodGoesBy_0 ?_
  refine t_get F e_X2_periodGoesBy_1 fl_X2_40 (fun _ => o7) h1 hk rfl (fun v hv f1821 => ?_)
  obtain rfl : v = .ref (a + 8) := hv
  refine m_lconst F (v := 0) (by decide) e_X2_periodGoesBy_4 ?_
  refine t_callV F e_X2_periodGoesBy_5 (s_X1_set (x_l X) V b M Z T _ _ (a + 8) 0 h1.1 (kA_7 hk (r := 8) (by decide))  (by omega)) cb_X1_set ml_X2_132 im_X1_set se_X1_set (fun _ => o6) h1 (kA_7 hk (r := 8) (by decide)) rfl rfl (rest := []) rfl (Nat.le_of_ble_eq_true rfl) ⟨Nat.le_of_ble_eq_true rfl, Nat.le_of_ble_eq_true rfl⟩ ⟨Nat.le_of_ble_eq_true rfl, Nat.le_of_ble_eq_true rfl⟩ (fun r σ1822 hp => ?_)
  obtain ⟨h1824, rfl⟩ := hp
  have h1823 := HK.trans h1 h1824 (by decide)
  refine m_aload_n F rfl e_X2_periodGoesBy_8 ?_
  refine t_get F e_X2_periodGoesBy_9 fl_X2_68 (fun _ => o7) h1823 hk rfl (fun v hv f1825 => ?_)
  obtain ⟨n1826, hn1826, rfl⟩ := hv
  replace hn1826 : n1826 ≤ M := hn1826
  refine m_bipush F (v := 99) (by decide) e_X2_periodGoesBy_12 ?_
  refine m_icmp_lt F e_X2_periodGoesBy_14 (fun q14 => ?_) (fun q14 => ?_)
  · have c14 : n1826 < 99 := (nI_ltI (a := n1826) (b := 99) (by omega) (by omega)).mp q14
    refine m_iconst F (v := 0) (by decide) e_X2_periodGoesBy_18 ?_
    refine m_istore_n F (lv' := [(1, .int 0), (0, .ref a)]) e_X2_periodGoesBy_19 (by decide) rfl ?_
    exact lp_X2_periodGoesBy_20 F hQ hk hM (4 - 0 + 1) 0 _ (h1823.mono (M' := M + 2 * 0) (Z' := Z) (by omega) (by intro e9; first | exact e9 | rfl)) (by omega) (Nat.lt_succ_self _)
  · have c14 : n1826 ≥ 99 := by have hh := mt (nI_ltI (a := n1826) (b := 99) (by omega) (by omega)).mpr q14; omega
    exact m_vret F hQ e_X2_periodGoesBy_17 (⟨(h1823.mono (M' := M + 9) (Z' := Z) (by omega) (by intro e; first | rfl | assumption | omega)), rfl⟩)
set_option maxRecDepth 20000 in
theorem lp_X2_canTakeSet_40 {V : VX} {X : MX} {b M Z T N : Nat} {σ : Mem} {a : Nat} {x902 : Int32}  (F : Fx V X yX2_canTakeSet cX2_canTakeSet 5 (some .boolean) (rmd 0 0 0)) (hQ : Rt V X 0 0 N (fun r τ => HK V (b, M, Z, T) [0, 1, 2, 3, 4, 5, 6, 7, 8, 9, 10, 11, 12, 13, 14, 15, 16, 17, 18, 19] σ τ ∧ ∃ n : Nat, n ≤ 1 ∧ r = some (.int (nI n)))) (hk : kA b a = 7) (hM : M + 0 ≤ 1000000000)  : ∀ (fuel : Nat) (i : Nat) (u1 : Int32) (u2 : Int32) (τ : Mem), HK V (b, M, Z, T) [0, 1, 2, 3, 4, 5, 6, 7, 8, 9, 10, 11, 12, 13, 14, 15, 16, 17, 18, 19] σ τ → i ≤ 4 → 4 - i < fuel → Wm V X 5 N τ 0 0 40 [(4, .int (nI i)), (3, .int u1), (0, .ref a), (1, .int u2), (2, .int x902)] [] := by
  intro fuel
  induction fuel with
  | zero => intro i u1 u2 τ h1 hi hm; exact absurd hm (Nat.not_lt_zero _)
  | succ fuel ih =>
    intro i u1 u2 τ h1 hi hm
    refine m_iload F rfl e_X2_canTakeSet_40 ?_
    refine m_iconst F (v := 4) (by decide) e_X2_canTakeSet_42 ?_
    refine m_icmp_ge F e_X2_canTakeSet_43 (fun q43 => ?_) (fun q43 => ?_)
    · have c43 : i ≥ 4 := (nI_leI (a := 4) (b := i) (by omega) (by omega)).mp q43
      refine m_iload_n F rfl e_X2_canTakeSet_115 ?_
      refine m_bipush F (v := 72) (by decide) e_X2_canTakeSet_116 ?_
      refine m_icmp_gt F e_X2_canTakeSet_118 (fun q118 => ?_) (fun q118 => ?_)
      · obtain ⟨n1827, hn1827, rfl⟩ := nI_nn (x := u1) (fun e => Int32.lt_irrefl (Int32.lt_trans e (Int32.lt_of_le_of_lt (by decide) q118)))
        have c118 : n1827 > 72 := (nI_ltI (a := 72) (b := n1827) (by omega) (by omega)).mp q118
        refine m_iconst F (v := 0) (by decide) e_X2_canTakeSet_125 ?_
        exact m_zret F hQ e_X2_canTakeSet_126 (by decide) (⟨h1, 0, by omega, rfl⟩)
      · refine m_iconst F (v := 1) (by decide) e_X2_canTakeSet_121 ?_
        refine m_goto F e_X2_canTakeSet_122 ?_
        exact m_zret F hQ e_X2_canTakeSet_126 (by decide) (⟨h1, 1, by omega, rfl⟩)
    · have c43 : i < 4 := by have hh := mt (nI_leI (a := 4) (b := i) (by omega) (by omega)).mpr q43; omega
      refine m_iload_n F rfl e_X2_canTakeSet_46 ?_
      refine m_iload F rfl e_X2_canTakeSet_47 ?_
      refine m_ishr F e_X2_canTakeSet_49 ?_
      refine Wm.top (fun x1828 _ => ?_)
      refine m_iconst F (v := 1) (by decide) e_X2_canTakeSet_50 ?_
      refine m_iand F e_X2_canTakeSet_51 ?_
      refine Wm.top (fun x1829 _ => ?_)
      refine m_if_ne F e_X2_canTakeSet_52 (fun q52 => ?_) (fun q52 => ?_)
      · refine m_iload F rfl e_X2_canTakeSet_58 ?_
        refine m_aload_n F rfl e_X2_canTakeSet_60 ?_
        refine t_get F e_X2_canTakeSet_61 fl_X2_62 (fun _ => o7) h1 hk rfl (fun v hv f1830 => ?_)
        obtain ⟨n1831, hn1831, rfl⟩ := hv
        replace hn1831 : n1831 ≤ 4 := hn1831
        refine m_icmp_ge F e_X2_canTakeSet_64 (fun q64 => ?_) (fun q64 => ?_)
        · have c64 : i ≥ n1831 := (nI_leI (a := n1831) (b := i) (by omega) (by omega)).mp q64
          refine m_iconst F (v := 0) (by decide) e_X2_canTakeSet_94 ?_
          exact m_zret F hQ e_X2_canTakeSet_95 (by decide) (⟨h1, 0, by omega, rfl⟩)
        · have c64 : i < n1831 := by have hh := mt (nI_leI (a := n1831) (b := i) (by omega) (by omega)).mpr q64; omega
          refine m_aload_n F rfl e_X2_canTakeSet_67 ?_
          refine t_get F e_X2_canTakeSet_68 fl_X2_19 (fun _ => o7) h1 hk rfl (fun v hv f1832 => ?_)
          obtain rfl : v = .ref (a + 2) := hv
          refine m_iload F rfl e_X2_canTakeSet_71 ?_
          refine t_aald9 F (j := i) e_X2_canTakeSet_73 rfl h1 (kA_7 hk (r := 2) (by decide)) (nI_clamp (by omega)) (vp_in_nI (by omega) (by decide)) ?_
          refine t_get F e_X2_canTakeSet_74 fl_X2_97 (fun _ => o19) h1 (kA_9 (kA_7 hk (r := 2) (by decide)) (j := i) (by omega)) rfl (fun v hv f1833 => ?_)
          obtain ⟨n1834, hn1834, rfl⟩ := hv
          replace hn1834 : n1834 ≤ 3 := hn1834
          refine m_iload_n F rfl e_X2_canTakeSet_77 ?_
          refine m_icmp_ne F e_X2_canTakeSet_78 (fun q78 => ?_) (fun q78 => ?_)
          · refine m_iconst F (v := 0) (by decide) e_X2_canTakeSet_94 ?_
            exact m_zret F hQ e_X2_canTakeSet_95 (by decide) (⟨h1, 0, by omega, rfl⟩)
          · refine m_aload_n F rfl e_X2_canTakeSet_81 ?_
            refine t_getC F e_X2_canTakeSet_82 fl_X2_19 (fun _ => o7) h1 hk (f1832) ?_
            refine m_iload F rfl e_X2_canTakeSet_85 ?_
            refine t_aald9 F (j := i) e_X2_canTakeSet_87 rfl h1 (kA_7 hk (r := 2) (by decide)) (nI_clamp (by omega)) (vp_in_nI (by omega) (by decide)) ?_
            refine t_get F e_X2_canTakeSet_88 fl_X2_106 (fun _ => o19) h1 (kA_9 (kA_7 hk (r := 2) (by decide)) (j := i) (by omega)) rfl (fun v hv f1835 => ?_)
            obtain ⟨n1836, hn1836, rfl⟩ := hv
            replace hn1836 : n1836 ≤ 1 := hn1836
            refine m_if_eq F e_X2_canTakeSet_91 (fun q91 => ?_) (fun q91 => ?_)
            · have c91 : n1836 = 0 := (nI_eq (a := n1836) (b := 0) (by omega) (by omega)).mp q91
              refine m_iload_n F rfl e_X2_canTakeSet_96 ?_
              refine m_aload_n F rfl e_X2_canTakeSet_97 ?_
              refine t_getC F e_X2_canTakeSet_98 fl_X2_19 (fun _ => o7) h1 hk (f1832) ?_
              refine m_iload F rfl e_X2_canTakeSet_101 ?_
              refine t_aald9 F (j := i) e_X2_canTakeSet_103 rfl h1 (kA_7 hk (r := 2) (by decide)) (nI_clamp (by omega)) (vp_in_nI (by omega) (by decide)) ?_
              refine t_get F e_X2_canTakeSet_104 fl_X2_100 (fun _ => o19) h1 (kA_9 (kA_7 hk (r := 2) (by decide)) (j := i) (by omega)) rfl (fun v hv f1837 => ?_)
              obtain ⟨n1838, hn1838, rfl⟩ := hv
              replace hn1838 : n1838 ≤ 24 := hn1838
              refine m_iadd F e_X2_canTakeSet_107 ?_
              refine Wm.top (fun x1839 _ => ?_)
              refine m_istore_n F (lv' := [(3, .int x1839), (4, .int (nI i)), (0, .ref a), (1, .int u2), (2, .int x902)]) e_X2_canTakeSet_108 (by decide) rfl ?_
              refine m_iinc F (v := nI (i + 1)) (lv' := [(4, .int (nI (i + 1))), (3, .int x1839), (0, .ref a), (1, .int u2), (2, .int x902)]) e_X2_canTakeSet_109 rfl (nI_add i 1) (by decide) rfl ?_
              refine m_goto F e_X2_canTakeSet_112 ?_
              exact ih (i + 1) x1839 u2 _ h1 (by omega) (by omega)
            · have c91 : n1836 ≠ 0 := by have hh := mt (nI_eq (a := n1836) (b := 0) (by omega) (by omega)).mpr q91; omega
              refine m_iconst F (v := 0) (by decide) e_X2_canTakeSet_94 ?_
              exact m_zret F hQ e_X2_canTakeSet_95 (by decide) (⟨h1, 0, by omega, rfl⟩)
      · refine m_goto F e_X2_canTakeSet_55 ?_
        refine m_iinc F (v := nI (i + 1)) (lv' := [(4, .int (nI (i + 1))), (3, .int u1), (0, .ref a), (1, .int u2), (2, .int x902)]) e_X2_canTakeSet_109 rfl (nI_add i 1) (by decide) rfl ?_
        refine m_goto F e_X2_canTakeSet_112 ?_
        exact ih (i + 1) u1 u2 _ h1 (by omega) (by omega)
set_option maxRecDepth 20000 in
theorem s_X2_canTakeSet (l : Launch) (V : VX) (b M Z T N : Nat) (σ : Mem) (a : Nat) (x901 : Int32) (x902 : Int32) (h0 : HT V (b, M, Z, T) σ) (hk : kA b a = 7) (hM : M + 0 ≤ 1000000000) : Ct l V yX2_canTakeSet cX2_canTakeSet 5 (some .boolean) 0 0 0 N σ [.ref a, .int x901, .int x902] (fun r τ => HK V (b, M, Z, T) [0, 1, 2, 3, 4, 5, 6, 7, 8, 9, 10, 11, 12, 13, 14, 15, 16, 17, 18, 19] σ τ ∧ ∃ n : Nat, n ≤ 1 ∧ r = some (.int (nI n))) := by
  refine Ct.of (by decide) (Nat.le_of_ble_eq_true rfl) [(0, .ref a), (1, .int x901), (2, .int x902)] rfl (fun X hX F hQ => ?_)
  have h1 : HK V (b, M, Z, T) [0, 1, 2, 3, 4, 5, 6, 7, 8, 9, 10, 11, 12, 13, 14, 15, 16, 17, 18, 19] σ σ := HK.start h0
  refine m_iload_n F rfl e_X2_canTakeSet_0 ?_
  refine m_if_lt F e_X2_canTakeSet_1 (fun q1 => ?_) (fun q1 => ?_)
  · refine m_iconst F (v := 0) (by decide) e_X2_canTakeSet_25 ?_
    exact m_zret F hQ e_X2_canTakeSet_26 (by decide) (⟨h1, 0, by omega, rfl⟩)
  · obtain ⟨n1840, hn1840, rfl⟩ := nI_nn (x := x901) (fun e => q1 (Int32.lt_of_lt_of_le e (by decide)))
    have c1 : n1840 ≥ 0 := by have hh := mt (nI_ltI (a := n1840) (b := 0) (by omega) (by omega)).mpr q1; omega
    refine m_iload_n F rfl e_X2_canTakeSet_4 ?_
    refine m_aload_n F rfl e_X2_canTakeSet_5 ?_
    refine t_get F e_X2_canTakeSet_6 fl_X2_58 (fun _ => o7) h1 hk rfl (fun v hv f1841 => ?_)
    obtain ⟨n1842, hn1842, rfl⟩ := hv
    replace hn1842 : n1842 ≤ 4 := hn1842
    refine m_icmp_ge F e_X2_canTakeSet_9 (fun q9 => ?_) (fun q9 => ?_)
    · have c9 : n1840 ≥ n1842 := (nI_leI (a := n1842) (b := n1840) (by omega) (by omega)).mp q9
      refine m_iconst F (v := 0) (by decide) e_X2_canTakeSet_25 ?_
      exact m_zret F hQ e_X2_canTakeSet_26 (by decide) (⟨h1, 0, by omega, rfl⟩)
    · have c9 : n1840 < n1842 := by have hh := mt (nI_leI (a := n1842) (b := n1840) (by omega) (by omega)).mpr q9; omega
      refine m_aload_n F rfl e_X2_canTakeSet_12 ?_
      refine t_get F e_X2_canTakeSet_13 fl_X2_11 (fun _ => o7) h1 hk rfl (fun v hv f1843 => ?_)
      obtain rfl : v = .ref (a + 1) := hv
      refine m_iload_n F rfl e_X2_canTakeSet_16 ?_
      refine t_aald8 F (j := n1840) e_X2_canTakeSet_17 rfl h1 (kA_7 hk (r := 1) (by decide)) (nI_clamp (by omega)) (vp_in_nI (by omega) (by decide)) ?_
      refine t_get F e_X2_canTakeSet_18 fl_X2_129 (fun _ => o15) h1 (kA_8 (kA_7 hk (r := 1) (by decide)) (j := n1840) (by omega)) rfl (fun v hv f1844 => ?_)
      obtain ⟨x1845, rfl⟩ := hv
      refine m_iconst F (v := 1) (by decide) e_X2_canTakeSet_21 ?_
      refine m_icmp_eq F e_X2_canTakeSet_22 (fun q22 => ?_) (fun q22 => ?_)
      · refine m_aload_n F rfl e_X2_canTakeSet_27 ?_
        refine t_getC F e_X2_canTakeSet_28 fl_X2_11 (fun _ => o7) h1 hk (f1843) ?_
        refine m_iload_n F rfl e_X2_canTakeSet_31 ?_
        refine t_aald8 F (j := n1840) e_X2_canTakeSet_32 rfl h1 (kA_7 hk (r := 1) (by decide)) (nI_clamp (by omega)) (vp_in_nI (by omega) (by decide)) ?_
        refine t_get F e_X2_canTakeSet_33 fl_X2_232 (fun _ => o15) h1 (kA_8 (kA_7 hk (r := 1) (by decide)) (j := n1840) (by omega)) rfl (fun v hv f1846 => ?_)
        obtain ⟨x1847, rfl⟩ := hv
        refine m_istore_n F (lv' := [(3, .int x1847), (0, .ref a), (1, .int (nI n1840)), (2, .int x902)]) e_X2_canTakeSet_36 (by decide) rfl ?_
        refine m_iconst F (v := 0) (by decide) e_X2_canTakeSet_37 ?_
        refine m_istore F (lv' := [(4, .int 0), (3, .int x1847), (0, .ref a), (1, .int (nI n1840)), (2, .int x902)]) e_X2_canTakeSet_38 (by decide) rfl ?_
        exact lp_X2_canTakeSet_40 F hQ hk hM (4 - 0 + 1) 0 x1847 (nI n1840) _ h1 (by omega) (Nat.lt_succ_self _)
      · refine m_iconst F (v := 0) (by decide) e_X2_canTakeSet_25 ?_
        exact m_zret F hQ e_X2_canTakeSet_26 (by decide) (⟨h1, 0, by omega, rfl⟩)
set_option maxRecDepth 20000 in
theorem s_X2_canTake (l : Launch) (V : VX) (b M Z T N : Nat) (σ : Mem) (a : Nat) (x901 : Int32) (h0 : HT V (b, M, Z, T) σ) (hk : kA b a = 7) (hM : M + 0 ≤ 1000000000) : Ct l V yX2_canTake cX2_canTake 2 (some .boolean) 1 0 0 N σ [.ref a, .int x901] (fun r τ => HK V (b, M, Z, T) [0, 1, 2, 3, 4, 5, 6, 7, 8, 9, 10, 11, 12, 13, 14, 15, 16, 17, 18, 19] σ τ ∧ (r = some (.int 0) ∨ ∃ n : Nat, n ≤ 3 ∧ x901 = nI n ∧ r = some (.int 1))) := by
  refine Ct.of (by decide) (Nat.le_of_ble_eq_true rfl) [(0, .ref a), (1, .int x901)] rfl (fun X hX F hQ => ?_)
  have h1 : HK V (b, M, Z, T) [0, 1, 2, 3, 4, 5, 6, 7, 8, 9, 10, 11, 12, 13, 14, 15, 16, 17, 18, 19] σ σ := HK.start h0
  refine m_iload_n F rfl e_X2_canTake_0 ?_
  refine m_if_lt F e_X2_canTake_1 (fun q1 => ?_) (fun q1 => ?_)
  · refine m_iconst F (v := 0) (by decide) e_X2_canTake_35 ?_
    exact m_zret F hQ e_X2_canTake_36 (by decide) (⟨h1, Or.inl rfl⟩)
  · obtain ⟨n1848, hn1848, rfl⟩ := nI_nn (x := x901) (fun e => q1 (Int32.lt_of_lt_of_le e (by decide)))
    have c1 : n1848 ≥ 0 := by have hh := mt (nI_ltI (a := n1848) (b := 0) (by omega) (by omega)).mpr q1; omega
    refine m_iload_n F rfl e_X2_canTake_4 ?_
    refine m_aload_n F rfl e_X2_canTake_5 ?_
    refine t_get F e_X2_canTake_6 fl_X2_62 (fun _ => o7) h1 hk rfl (fun v hv f1849 => ?_)
    obtain ⟨n1850, hn1850, rfl⟩ := hv
    replace hn1850 : n1850 ≤ 4 := hn1850
    refine m_icmp_ge F e_X2_canTake_9 (fun q9 => ?_) (fun q9 => ?_)
    · have c9 : n1848 ≥ n1850 := (nI_leI (a := n1850) (b := n1848) (by omega) (by omega)).mp q9
      refine m_iconst F (v := 0) (by decide) e_X2_canTake_35 ?_
      exact m_zret F hQ e_X2_canTake_36 (by decide) (⟨h1, Or.inl rfl⟩)
    · have c9 : n1848 < n1850 := by have hh := mt (nI_leI (a := n1850) (b := n1848) (by omega) (by omega)).mpr q9; omega
      refine m_aload_n F rfl e_X2_canTake_12 ?_
      refine m_aload_n F rfl e_X2_canTake_13 ?_
      refine t_get F e_X2_canTake_14 fl_X2_19 (fun _ => o7) h1 hk rfl (fun v hv f1851 => ?_)
      obtain rfl : v = .ref (a + 2) := hv
      refine m_iload_n F rfl e_X2_canTake_17 ?_
      refine t_aald9 F (j := n1848) e_X2_canTake_18 rfl h1 (kA_7 hk (r := 2) (by decide)) (nI_clamp (by omega)) (vp_in_nI (by omega) (by decide)) ?_
      refine t_get F e_X2_canTake_19 fl_X2_97 (fun _ => o19) h1 (kA_9 (kA_7 hk (r := 2) (by decide)) (j := n1848) (by omega)) rfl (fun v hv f1852 => ?_)
      obtain ⟨n1853, hn1853, rfl⟩ := hv
      replace hn1853 : n1853 ≤ 3 := hn1853
      refine m_iconst F (v := 1) (by decide) e_X2_canTake_22 ?_
      refine m_iload_n F rfl e_X2_canTake_23 ?_
      refine m_ishl F e_X2_canTake_24 ?_
      refine Wm.top (fun x1854 _ => ?_)
      refine t_callV F e_X2_canTake_25 (s_X2_canTakeSet (x_l X) V b M Z T _ _ a (nI n1853) x1854 h1.1 hk  (by omega)) cb_X2_canTakeSet ml_X2_240 im_X2_canTakeSet se_X2_canTakeSet (fun _ => o7) h1 hk rfl rfl (rest := []) rfl (Nat.le_of_ble_eq_true rfl) ⟨Nat.le_of_ble_eq_true rfl, Nat.le_of_ble_eq_true rfl⟩ ⟨Nat.le_of_ble_eq_true rfl, Nat.le_of_ble_eq_true rfl⟩ (fun r σ1855 hp => ?_)
      obtain ⟨h1857, n1858, hn1858, rfl⟩ := hp
      have h1856 := HK.trans h1 h1857 (by decide)
      refine m_if_eq F e_X2_canTake_28 (fun q28 => ?_) (fun q28 => ?_)
      · have c28 : n1858 = 0 := (nI_eq (a := n1858) (b := 0) (by omega) (by omega)).mp q28
        refine m_iconst F (v := 0) (by decide) e_X2_canTake_35 ?_
        exact m_zret F hQ e_X2_canTake_36 (by decide) (⟨h1856, Or.inl rfl⟩)
      · have c28 : n1858 ≠ 0 := by have hh := mt (nI_eq (a := n1858) (b := 0) (by omega) (by omega)).mpr q28; omega
        refine m_iconst F (v := 1) (by decide) e_X2_canTake_31 ?_
        refine m_goto F e_X2_canTake_32 ?_
        exact m_zret F hQ e_X2_canTake_36 (by decide) (⟨h1856, Or.inr ⟨n1848, by omega, rfl, rfl⟩⟩)
set_option maxRecDepth 20000 in
theorem s_X2_goOnByOption (l : Launch) (V : VX) (b M Z T N : Nat) (σ : Mem) (a : Nat) (r901 : Nat) (r902 : Nat) (h0 : HT V (b, M, Z, T) σ) (hk : kA b a = 7) (k901 : kA b r901 = 15) (k902 : kA b r902 = 19) (hM : M + 0 ≤ 1000000000) : Ct l V yX2_goOnByOption cX2_goOnByOption 3 none 4 0 0 N σ [.ref a, .ref r901, .ref r902] (fun r τ => HK V (b, M, Z, T) [0, 1, 2, 3, 4, 5, 7, 8, 9, 10, 11, 12, 13, 14, 16, 18, 19] σ τ ∧ r = none) := by
  refine Ct.of (by decide) (Nat.le_of_ble_eq_true rfl) [(0, .ref a), (1, .ref r901), (2, .ref r902)] rfl (fun X hX F hQ => ?_)
  have h1 : HK V (b, M, Z, T) [0, 1, 2, 3, 4, 5, 7, 8, 9, 10, 11, 12, 13, 14, 16, 18, 19] σ σ := HK.start h0
  refine m_aload_n F rfl e_X2_goOnByOption_0 ?_
  refine m_aload_n F rfl e_X2_goOnByOption_1 ?_
  refine t_get F e_X2_goOnByOption_2 fl_X2_100 (fun _ => o19) h1 k902 rfl (fun v hv f1859 => ?_)
  obtain ⟨n1860, hn1860, rfl⟩ := hv
  replace hn1860 : n1860 ≤ 24 := hn1860
  refine m_aload_n F rfl e_X2_goOnByOption_5 ?_
  refine t_get F e_X2_goOnByOption_6 fl_X2_103 (fun _ => o19) h1 k902 rfl (fun v hv f1861 => ?_)
  obtain ⟨x1862, rfl⟩ := hv
  refine m_i2l F e_X2_goOnByOption_9 ?_
  refine Wm.topl (fun x1863 _ => ?_)
  refine t_callV F e_X2_goOnByOption_10 (s_X5_goOn (x_l X) V b M Z T _ _ r901 n1860 x1863 h1.1 k901 (by omega) (by omega)) cb_X5_goOn ml_X2_248 im_X5_goOn se_X5_goOn (fun _ => o15) h1 k901 rfl rfl (rest := []) rfl (Nat.le_of_ble_eq_true rfl) ⟨Nat.le_of_ble_eq_true rfl, Nat.le_of_ble_eq_true rfl⟩ ⟨Nat.le_of_ble_eq_true rfl, Nat.le_of_ble_eq_true rfl⟩ (fun r σ1864 hp => ?_)
  obtain ⟨h1866, rfl⟩ := hp
  have h1865 := HK.trans h1 h1866 (by decide)
  refine m_aload_n F rfl e_X2_goOnByOption_13 ?_
  refine t_get F e_X2_goOnByOption_14 fl_X2_150 (fun _ => o15) h1865 k901 rfl (fun v hv f1867 => ?_)
  obtain ⟨n1868, hn1868, rfl⟩ := hv
  replace hn1868 : n1868 ≤ 1 := hn1868
  refine m_if_eq F e_X2_goOnByOption_17 (fun q17 => ?_) (fun q17 => ?_)
  · have c17 : n1868 = 0 := (nI_eq (a := n1868) (b := 0) (by omega) (by omega)).mp q17
    exact m_vret F hQ e_X2_goOnByOption_28 (⟨h1865, rfl⟩)
  · have c17 : n1868 ≠ 0 := by have hh := mt (nI_eq (a := n1868) (b := 0) (by omega) (by omega)).mpr q17; omega
    refine m_aload_n F rfl e_X2_goOnByOption_20 ?_
    refine m_aload_n F rfl e_X2_goOnByOption_21 ?_
    refine t_callV F e_X2_goOnByOption_22 (s_X2_indexNow (x_l X) V b M Z T _ _ a  h1865.1 hk  (by omega)) cb_X2_indexNow ml_X2_153 im_X2_indexNow se_X2_indexNow (fun _ => o7) h1865 hk rfl rfl (rest := [.ref r901]) rfl (Nat.le_of_ble_eq_true rfl) ⟨Nat.le_of_ble_eq_true rfl, Nat.le_of_ble_eq_true rfl⟩ ⟨Nat.le_of_ble_eq_true rfl, Nat.le_of_ble_eq_true rfl⟩ (fun r σ1869 hp => ?_)
    obtain ⟨h1871, x1872, rfl⟩ := hp
    have h1870 := HK.trans h1865 h1871 (by decide)
    refine t_callV F e_X2_goOnByOption_25 (s_X5_followIndex (x_l X) V b M Z T _ _ r901 x1872 h1870.1 k901  (by omega)) cb_X5_followIndex ml_X2_160 im_X5_followIndex se_X5_followIndex (fun _ => o15) h1870 k901 rfl rfl (rest := []) rfl (Nat.le_of_ble_eq_true rfl) ⟨Nat.le_of_ble_eq_true rfl, Nat.le_of_ble_eq_true rfl⟩ ⟨Nat.le_of_ble_eq_true rfl, Nat.le_of_ble_eq_true rfl⟩ (fun r σ1873 hp => ?_)
    obtain ⟨h1875, rfl⟩ := hp
    have h1874 := HK.trans h1870 h1875 (by decide)
    exact m_vret F hQ e_X2_goOnByOption_28 (⟨h1874, rfl⟩)
set_option maxRecDepth 20000 in
theorem lp_X2_goOnBySet_2 {V : VX} {X : MX} {b M Z T N : Nat} {σ : Mem} {a : Nat} {r901 : Nat} {x902 : Int32}  (F : Fx V X yX2_goOnBySet cX2_goOnBySet 4 none (rmd 5 0 0)) (hQ : Rt V X 0 0 N (fun r τ => HK V (b, M, Z, T) [0, 1, 2, 3, 4, 5, 7, 8, 9, 10, 11, 12, 13, 14, 16, 18, 19] σ τ ∧ r = none)) (hk : kA b a = 7) (k901 : kA b r901 = 15) (hM : M + 0 ≤ 1000000000)  : ∀ (fuel : Nat) (i : Nat) (τ : Mem), HK V (b, M, Z, T) [0, 1, 2, 3, 4, 5, 7, 8, 9, 10, 11, 12, 13, 14, 16, 18, 19] σ τ → i ≤ 4 → 4 - i < fuel → Wm V X 4 N τ 0 0 2 [(3, .int (nI i)), (0, .ref a), (1, .ref r901), (2, .int x902)] [] := by
  intro fuel
  induction fuel with
  | zero => intro i τ h1 hi hm; exact absurd hm (Nat.not_lt_zero _)
  | succ fuel ih =>
    intro i τ h1 hi hm
    refine m_iload_n F rfl e_X2_goOnBySet_2 ?_
    refine m_aload_n F rfl e_X2_goOnBySet_3 ?_
    refine t_get F e_X2_goOnBySet_4 fl_X2_62 (fun _ => o7) h1 hk rfl (fun v hv f1876 => ?_)
    obtain ⟨n1877, hn1877, rfl⟩ := hv
    replace hn1877 : n1877 ≤ 4 := hn1877
    refine m_icmp_ge F e_X2_goOnBySet_7 (fun q7 => ?_) (fun q7 => ?_)
    · have c7 : i ≥ n1877 := (nI_leI (a := n1877) (b := i) (by omega) (by omega)).mp q7
      exact m_vret F hQ e_X2_goOnBySet_35 (⟨h1, rfl⟩)
    · have c7 : i < n1877 := by have hh := mt (nI_leI (a := n1877) (b := i) (by omega) (by omega)).mpr q7; omega
      refine m_iload_n F rfl e_X2_goOnBySet_10 ?_
      refine m_iload_n F rfl e_X2_goOnBySet_11 ?_
      refine m_ishr F e_X2_goOnBySet_12 ?_
      refine Wm.top (fun x1878 _ => ?_)
      refine m_iconst F (v := 1) (by decide) e_X2_goOnBySet_13 ?_
      refine m_iand F e_X2_goOnBySet_14 ?_
      refine Wm.top (fun x1879 _ => ?_)
      refine m_if_eq F e_X2_goOnBySet_15 (fun q15 => ?_) (fun q15 => ?_)
      · refine m_iinc F (v := nI (i + 1)) (lv' := [(3, .int (nI (i + 1))), (0, .ref a), (1, .ref r901), (2, .int x902)]) e_X2_goOnBySet_29 rfl (nI_add i 1) (by decide) rfl ?_
        refine m_goto F e_X2_goOnBySet_32 ?_
        exact ih (i + 1) _ h1 (by omega) (by omega)
      · refine m_aload_n F rfl e_X2_goOnBySet_18 ?_
        refine m_aload_n F rfl e_X2_goOnBySet_19 ?_
        refine m_aload_n F rfl e_X2_goOnBySet_20 ?_
        refine t_get F e_X2_goOnBySet_21 fl_X2_19 (fun _ => o7) h1 hk rfl (fun v hv f1880 => ?_)
        obtain rfl : v = .ref (a + 2) := hv
        refine m_iload_n F rfl e_X2_goOnBySet_24 ?_
        refine t_aald9 F (j := i) e_X2_goOnBySet_25 rfl h1 (kA_7 hk (r := 2) (by decide)) (nI_clamp (by omega)) (vp_in_nI (by omega) (by decide)) ?_
        refine t_callV F e_X2_goOnBySet_26 (s_X2_goOnByOption (x_l X) V b M Z T _ _ a r901 ((a + 2) + 57 + i) h1.1 hk k901 (kA_9 (kA_7 hk (r := 2) (by decide)) (j := i) (by omega)) (by omega)) cb_X2_goOnByOption ml_X2_244 im_X2_goOnByOption se_X2_goOnByOption (fun _ => o7) h1 hk rfl rfl (rest := []) rfl (Nat.le_of_ble_eq_true rfl) ⟨Nat.le_of_ble_eq_true rfl, Nat.le_of_ble_eq_true rfl⟩ ⟨Nat.le_of_ble_eq_true rfl, Nat.le_of_ble_eq_true rfl⟩ (fun r σ1881 hp => ?_)
        obtain ⟨h1883, rfl⟩ := hp
        have h1882 := HK.trans h1 h1883 (by decide)
        refine m_iinc F (v := nI (i + 1)) (lv' := [(3, .int (nI (i + 1))), (0, .ref a), (1, .ref r901), (2, .int x902)]) e_X2_goOnBySet_29 rfl (nI_add i 1) (by decide) rfl ?_
        refine m_goto F e_X2_goOnBySet_32 ?_
        exact ih (i + 1) _ h1882 (by omega) (by omega)
set_option maxRecDepth 20000 in
theorem s_X2_goOnBySet (l : Launch) (V : VX) (b M Z T N : Nat) (σ : Mem) (a : Nat) (r901 : Nat) (x902 : Int32) (h0 : HT V (b, M, Z, T) σ) (hk : kA b a = 7) (k901 : kA b r901 = 15) (hM : M + 0 ≤ 1000000000) : Ct l V yX2_goOnBySet cX2_goOnBySet 4 none 5 0 0 N σ [.ref a, .ref r901, .int x902] (fun r τ => HK V (b, M, Z, T) [0, 1, 2, 3, 4, 5, 7, 8, 9, 10, 11, 12, 13, 14, 16, 18, 19] σ τ ∧ r = none) := by
  refine Ct.of (by decide) (Nat.le_of_ble_eq_true rfl) [(0, .ref a), (1, .ref r901), (2, .int x902)] rfl (fun X hX F hQ => ?_)
  have h1 : HK V (b, M, Z, T) [0, 1, 2, 3, 4, 5, 7, 8, 9, 10, 11, 12, 13, 14, 16, 18, 19] σ σ := HK.start h0
  refine m_iconst F (v := 0) (by decide) e_X2_goOnBySet_0 ?_
  refine m_istore_n F (lv' := [(3, .int 0), (0, .ref a), (1, .ref r901), (2, .int x902)]) e_X2_goOnBySet_1 (by decide) rfl ?_
  exact lp_X2_goOnBySet_2 F hQ hk k901 hM (4 - 0 + 1) 0 _ h1 (by omega) (Nat.lt_succ_self _)
set_option maxRecDepth 20000 in
theorem s_X2_addLease (l : Launch) (V : VX) (b M Z T N : Nat) (σ : Mem) (a : Nat) (x901 : Int32) (x902 : Int32) (x903 : Int32) (x904 : Int32) (h0 : HT V (b, M, Z, T) σ) (hk : kA b a = 7) (hM : M + 0 ≤ 1000000000) : Ct l V yX2_addLease cX2_addLease 5 none 5 0 0 N σ [.ref a, .int x901, .int x902, .int x903, .int x904] (fun r τ => HK V (b, M, Z, T) [0, 1, 2, 3, 4, 5, 8, 9, 10, 11, 12, 13, 14, 16, 19] σ τ ∧ r = none) := by
  refine Ct.of (by decide) (Nat.le_of_ble_eq_true rfl) [(0, .ref a), (1, .int x901), (2, .int x902), (3, .int x903), (4, .int x904)] rfl (fun X hX F hQ => ?_)
  have h1 : HK V (b, M, Z, T) [0, 1, 2, 3, 4, 5, 8, 9, 10, 11, 12, 13, 14, 16, 19] σ σ := HK.start h0
  refine m_aload_n F rfl e_X2_addLease_0 ?_
  refine t_get F e_X2_addLease_1 fl_X2_58 (fun _ => o7) h1 hk rfl (fun v hv f1884 => ?_)
  obtain ⟨n1885, hn1885, rfl⟩ := hv
  replace hn1885 : n1885 ≤ 4 := hn1885
  refine m_iconst F (v := 4) (by decide) e_X2_addLease_4 ?_
  refine m_icmp_ge F e_X2_addLease_5 (fun q5 => ?_) (fun q5 => ?_)
  · have c5 : n1885 ≥ 4 := (nI_leI (a := 4) (b := n1885) (by omega) (by omega)).mp q5
    exact m_vret F hQ e_X2_addLease_35 (⟨h1, rfl⟩)
  · have c5 : n1885 < 4 := by have hh := mt (nI_leI (a := 4) (b := n1885) (by omega) (by omega)).mpr q5; omega
    refine m_aload_n F rfl e_X2_addLease_8 ?_
    refine t_get F e_X2_addLease_9 fl_X2_11 (fun _ => o7) h1 hk rfl (fun v hv f1886 => ?_)
    obtain rfl : v = .ref (a + 1) := hv
    refine m_aload_n F rfl e_X2_addLease_12 ?_
    refine t_getC F e_X2_addLease_13 fl_X2_58 (fun _ => o7) h1 hk (f1884) ?_
    refine t_aald8 F (j := n1885) e_X2_addLease_16 rfl h1 (kA_7 hk (r := 1) (by decide)) (nI_clamp (by omega)) (vp_in_nI (by omega) (by decide)) ?_
    refine m_iload_n F rfl e_X2_addLease_17 ?_
    refine m_iload_n F rfl e_X2_addLease_18 ?_
    refine m_iload_n F rfl e_X2_addLease_19 ?_
    refine m_iload F rfl e_X2_addLease_20 ?_
    refine t_callV F e_X2_addLease_22 (s_X5_tell (x_l X) V b M Z T _ _ ((a + 1) + 10 + 12 * n1885) x901 x902 x903 x904 h1.1 (kA_8 (kA_7 hk (r := 1) (by decide)) (j := n1885) (by omega))  (by omega)) cb_X5_tell ml_X2_93 im_X5_tell se_X5_tell (fun _ => o15) h1 (kA_8 (kA_7 hk (r := 1) (by decide)) (j := n1885) (by omega)) rfl rfl (rest := []) rfl (Nat.le_of_ble_eq_true rfl) ⟨Nat.le_of_ble_eq_true rfl, Nat.le_of_ble_eq_true rfl⟩ ⟨Nat.le_of_ble_eq_true rfl, Nat.le_of_ble_eq_true rfl⟩ (fun r σ1887 hp => ?_)
    obtain ⟨h1889, rfl⟩ := hp
    have h1888 := HK.trans h1 h1889 (by decide)
    refine m_aload_n F rfl e_X2_addLease_25 ?_
    refine m_dup F rfl e_X2_addLease_26 ?_
    refine t_getC F e_X2_addLease_27 fl_X2_58 (fun _ => o7) h1888 hk ((fld_eq (h1889.2 a (by rw [show kA _ a = 7 from hk]; decide))).trans f1884) ?_
    refine m_iconst F (v := 1) (by decide) e_X2_addLease_30 ?_
    refine m_iadd F e_X2_addLease_31 ?_
    refine Wm.topE (w := nI (n1885 + 1)) (nI_add n1885 1) ?_
    refine t_put F e_X2_addLease_32 fp_X2_58 (fun _ => o7) h1888 hk rfl ⟨n1885 + 1, (show n1885 + 1 ≤ 4 by omega), rfl⟩ rfl rfl (by decide) (fun σ1890 h1891 g1892 g1893 f1894 => ?_)
    exact m_vret F hQ e_X2_addLease_35 (⟨h1891, rfl⟩)
set_option maxRecDepth 20000 in
theorem s_X2_addOption (l : Launch) (V : VX) (b M Z T N : Nat) (σ : Mem) (a : Nat) (n901 : Nat) (n902 : Nat) (x903 : Int32) (h0 : HT V (b, M, Z, T) σ) (hk : kA b a = 7) (hn901 : n901 ≤ 3) (hn902 : n902 ≤ 24) (hM : M + 0 ≤ 1000000000) : Ct l V yX2_addOption cX2_addOption 5 none 0 0 0 N σ [.ref a, .int (nI n901), .int (nI n902), .int x903] (fun r τ => HK V (b, M, Z, T) [0, 1, 2, 3, 4, 5, 6, 8, 9, 10, 11, 12, 13, 14, 15, 16, 17, 18] σ τ ∧ r = none) := by
  refine Ct.of (by decide) (Nat.le_of_ble_eq_true rfl) [(0, .ref a), (1, .int (nI n901)), (2, .int (nI n902)), (3, .int x903)] rfl (fun X hX F hQ => ?_)
  have h1 : HK V (b, M, Z, T) [0, 1, 2, 3, 4, 5, 6, 8, 9, 10, 11, 12, 13, 14, 15, 16, 17, 18] σ σ := HK.start h0
  refine m_aload_n F rfl e_X2_addOption_0 ?_
  refine t_get F e_X2_addOption_1 fl_X2_62 (fun _ => o7) h1 hk rfl (fun v hv f1895 => ?_)
  obtain ⟨n1896, hn1896, rfl⟩ := hv
  replace hn1896 : n1896 ≤ 4 := hn1896
  refine m_iconst F (v := 4) (by decide) e_X2_addOption_4 ?_
  refine m_icmp_ge F e_X2_addOption_5 (fun q5 => ?_) (fun q5 => ?_)
  · have c5 : n1896 ≥ 4 := (nI_leI (a := 4) (b := n1896) (by omega) (by omega)).mp q5
    exact m_vret F hQ e_X2_addOption_53 (⟨h1, rfl⟩)
  · have c5 : n1896 < 4 := by have hh := mt (nI_leI (a := 4) (b := n1896) (by omega) (by omega)).mpr q5; omega
    refine m_aload_n F rfl e_X2_addOption_8 ?_
    refine t_get F e_X2_addOption_9 fl_X2_19 (fun _ => o7) h1 hk rfl (fun v hv f1897 => ?_)
    obtain rfl : v = .ref (a + 2) := hv
    refine m_aload_n F rfl e_X2_addOption_12 ?_
    refine t_getC F e_X2_addOption_13 fl_X2_62 (fun _ => o7) h1 hk (f1895) ?_
    refine t_aald9 F (j := n1896) e_X2_addOption_16 rfl h1 (kA_7 hk (r := 2) (by decide)) (nI_clamp (by omega)) (vp_in_nI (by omega) (by decide)) ?_
    refine m_astore F (lv' := [(4, .ref ((a + 2) + 57 + n1896)), (0, .ref a), (1, .int (nI n901)), (2, .int (nI n902)), (3, .int x903)]) e_X2_addOption_17 (by decide) rfl ?_
    refine m_aload F rfl e_X2_addOption_19 ?_
    refine m_iload_n F rfl e_X2_addOption_21 ?_
    refine t_put F e_X2_addOption_22 fp_X2_97 (fun _ => o19) h1 (kA_9 (kA_7 hk (r := 2) (by decide)) (j := n1896) (by omega)) rfl ⟨n901, (show n901 ≤ 3 by omega), rfl⟩ rfl rfl (by decide) (fun σ1898 h1899 g1900 g1901 f1902 => ?_)
    refine m_aload F rfl e_X2_addOption_25 ?_
    refine m_iload_n F rfl e_X2_addOption_27 ?_
    refine t_put F e_X2_addOption_28 fp_X2_100 (fun _ => o19) h1899 (kA_9 (kA_7 hk (r := 2) (by decide)) (j := n1896) (by omega)) rfl ⟨n902, (show n902 ≤ 24 by omega), rfl⟩ rfl rfl (by decide) (fun σ1903 h1904 g1905 g1906 f1907 => ?_)
    refine m_aload F rfl e_X2_addOption_31 ?_
    refine m_iload_n F rfl e_X2_addOption_33 ?_
    refine t_put F e_X2_addOption_34 fp_X2_103 (fun _ => o19) h1904 (kA_9 (kA_7 hk (r := 2) (by decide)) (j := n1896) (by omega)) rfl ⟨_, rfl⟩ rfl rfl (by decide) (fun σ1908 h1909 g1910 g1911 f1912 => ?_)
    refine m_aload F rfl e_X2_addOption_37 ?_
    refine m_iconst F (v := 0) (by decide) e_X2_addOption_39 ?_
    refine t_put F e_X2_addOption_40 fp_X2_106 (fun _ => o19) h1909 (kA_9 (kA_7 hk (r := 2) (by decide)) (j := n1896) (by omega)) rfl ⟨0, (show 0 ≤ 1 by omega), rfl⟩ (by decide) rfl (by decide) (fun σ1913 h1914 g1915 g1916 f1917 => ?_)
    refine m_aload_n F rfl e_X2_addOption_43 ?_
    refine m_dup F rfl e_X2_addOption_44 ?_
    refine t_getC F e_X2_addOption_45 fl_X2_62 (fun _ => o7) h1914 hk ((g1915 a 9 (fun e => absurd ((hk).symm.trans e) (by decide))).trans ((g1910 a 9 (fun e => absurd ((hk).symm.trans e) (by decide))).trans ((g1905 a 9 (fun e => absurd ((hk).symm.trans e) (by decide))).trans ((g1900 a 9 (fun e => absurd ((hk).symm.trans e) (by decide))).trans f1895)))) ?_
    refine m_iconst F (v := 1) (by decide) e_X2_addOption_48 ?_
    refine m_iadd F e_X2_addOption_49 ?_
    refine Wm.topE (w := nI (n1896 + 1)) (nI_add n1896 1) ?_
    refine t_put F e_X2_addOption_50 fp_X2_62 (fun _ => o7) h1914 hk rfl ⟨n1896 + 1, (show n1896 + 1 ≤ 4 by omega), rfl⟩ rfl rfl (by decide) (fun σ1918 h1919 g1920 g1921 f1922 => ?_)
    exact m_vret F hQ e_X2_addOption_53 (⟨h1919, rfl⟩)
set_option maxRecDepth 20000 in
theorem s_X2_addIndex (l : Launch) (V : VX) (b M Z T N : Nat) (σ : Mem) (a : Nat) (x901 : Int32) (x902 : Int32) (h0 : HT V (b, M, Z, T) σ) (hk : kA b a = 7) (hM : M + 0 ≤ 1000000000) : Ct l V yX2_addIndex cX2_addIndex 3 none 3 0 0 N σ [.ref a, .int x901, .int x902] (fun r τ => HK V (b, M, Z, T) [0, 1, 2, 3, 4, 5, 6, 8, 9, 12, 13, 14, 15, 16, 17, 18, 19] σ τ ∧ r = none) := by
  refine Ct.of (by decide) (Nat.le_of_ble_eq_true rfl) [(0, .ref a), (1, .int x901), (2, .int x902)] rfl (fun X hX F hQ => ?_)
  have h1 : HK V (b, M, Z, T) [0, 1, 2, 3, 4, 5, 6, 8, 9, 12, 13, 14, 15, 16, 17, 18, 19] σ σ := HK.start h0
  refine m_aload_n F rfl e_X2_addIndex_0 ?_
  refine t_get F e_X2_addIndex_1 fl_X2_65 (fun _ => o7) h1 hk rfl (fun v hv f1923 => ?_)
  obtain ⟨n1924, hn1924, rfl⟩ := hv
  replace hn1924 : n1924 ≤ 8 := hn1924
  refine m_bipush F (v := 8) (by decide) e_X2_addIndex_4 ?_
  refine m_icmp_ge F e_X2_addIndex_6 (fun q6 => ?_) (fun q6 => ?_)
  · have c6 : n1924 ≥ 8 := (nI_leI (a := 8) (b := n1924) (by omega) (by omega)).mp q6
    exact m_vret F hQ e_X2_addIndex_50 (⟨h1, rfl⟩)
  · have c6 : n1924 < 8 := by have hh := mt (nI_leI (a := 8) (b := n1924) (by omega) (by omega)).mpr q6; omega
    refine m_iload_n F rfl e_X2_addIndex_9 ?_
    refine m_if_lt F e_X2_addIndex_10 (fun q10 => ?_) (fun q10 => ?_)
    · exact m_vret F hQ e_X2_addIndex_50 (⟨h1, rfl⟩)
    · obtain ⟨n1925, hn1925, rfl⟩ := nI_nn (x := x901) (fun e => q10 (Int32.lt_of_lt_of_le e (by decide)))
      have c10 : n1925 ≥ 0 := by have hh := mt (nI_ltI (a := n1925) (b := 0) (by omega) (by omega)).mpr q10; omega
      refine m_iload_n F rfl e_X2_addIndex_13 ?_
      refine m_bipush F (v := 99) (by decide) e_X2_addIndex_14 ?_
      refine m_icmp_gt F e_X2_addIndex_16 (fun q16 => ?_) (fun q16 => ?_)
      · have c16 : n1925 > 99 := (nI_ltI (a := 99) (b := n1925) (by omega) (by omega)).mp q16
        exact m_vret F hQ e_X2_addIndex_50 (⟨h1, rfl⟩)
      · have c16 : n1925 ≤ 99 := by have hh := mt (nI_ltI (a := 99) (b := n1925) (by omega) (by omega)).mpr q16; omega
        refine m_aload_n F rfl e_X2_addIndex_19 ?_
        refine t_get F e_X2_addIndex_20 fl_X2_27 (fun _ => o7) h1 hk rfl (fun v hv f1926 => ?_)
        obtain rfl : v = .ref (a + 4) := hv
        refine m_aload_n F rfl e_X2_addIndex_23 ?_
        refine t_getC F e_X2_addIndex_24 fl_X2_65 (fun _ => o7) h1 hk (f1923) ?_
        refine m_iload_n F rfl e_X2_addIndex_27 ?_
        refine t_iast F (len := 8) (j := n1924) e_X2_addIndex_28 (fun _ => o11) h1 (kA_7 hk (r := 4) (by decide)) (nI_clamp (by omega)) (vp_in_nI (by omega) (by decide)) (by decide) (fun σ1927 h1928 g1929 => ?_)
        refine m_aload_n F rfl e_X2_addIndex_29 ?_
        refine m_dup F rfl e_X2_addIndex_30 ?_
        refine t_getC F e_X2_addIndex_31 fl_X2_65 (fun _ => o7) h1928 hk ((g1929 a 10 (fun e => absurd ((hk).symm.trans e) (by decide))).trans f1923) ?_
        refine m_iconst F (v := 1) (by decide) e_X2_addIndex_34 ?_
        refine m_iadd F e_X2_addIndex_35 ?_
        refine Wm.topE (w := nI (n1924 + 1)) (nI_add n1924 1) ?_
        refine t_put F e_X2_addIndex_36 fp_X2_65 (fun _ => o7) h1928 hk rfl ⟨n1924 + 1, (show n1924 + 1 ≤ 8 by omega), rfl⟩ rfl rfl (by decide) (fun σ1930 h1931 g1932 g1933 f1934 => ?_)
        refine m_aload_n F rfl e_X2_addIndex_39 ?_
        refine t_get F e_X2_addIndex_40 fl_X2_23 (fun _ => o7) h1931 hk rfl (fun v hv f1935 => ?_)
        obtain rfl : v = .ref (a + 3) := hv
        refine m_iload_n F rfl e_X2_addIndex_43 ?_
        refine m_bipush F (v := 100) (by decide) e_X2_addIndex_44 ?_
        refine m_iload_n F rfl e_X2_addIndex_46 ?_
        refine m_callS F e_X2_addIndex_47 (s_J7_fill_fda19_10 (x_l X) V b M Z T _ _ (a + 3) n1925 100 x902 h1931.1 (kA_7 hk (r := 3) (by decide)) (by omega) (by omega) (by first | omega | assumption | decide) (by first | omega | assumption | decide) (by omega)) cb_J7_fill_fda19 ml_X2_110 sm_J7_fill_fda19 rfl (rest := []) rfl (Nat.le_of_ble_eq_true rfl) ⟨Nat.le_of_ble_eq_true rfl, Nat.le_of_ble_eq_true rfl⟩ ⟨Nat.le_of_ble_eq_true rfl, Nat.le_of_ble_eq_true rfl⟩ (k' := 0) (z' := 0) (N' := N) rfl rfl rfl (fun r σ1936 hp => ?_)
        obtain ⟨h1938, rfl⟩ := hp
        have h1937 := HK.trans h1931 h1938 (by decide)
        exact m_vret F hQ e_X2_addIndex_50 (⟨h1937, rfl⟩)
set_option maxRecDepth 20000 in
theorem s_X2_lastTold (l : Launch) (V : VX) (b M Z T N : Nat) (σ : Mem) (a : Nat) (h0 : HT V (b, M, Z, T) σ) (hk : kA b a = 7) (hM : M + 0 ≤ 1000000000) : Ct l V yX2_lastTold cX2_lastTold 1 (some .int) 0 0 0 N σ [.ref a] (fun r τ => HK V (b, M, Z, T) [0, 1, 2, 3, 4, 5, 6, 7, 8, 9, 10, 11, 12, 13, 14, 15, 16, 17, 18, 19] σ τ ∧ ∃ x : Int32, r = some (.int x)) := by
  refine Ct.of (by decide) (Nat.le_of_ble_eq_true rfl) [(0, .ref a)] rfl (fun X hX F hQ => ?_)
  have h1 : HK V (b, M, Z, T) [0, 1, 2, 3, 4, 5, 6, 7, 8, 9, 10, 11, 12, 13, 14, 15, 16, 17, 18, 19] σ σ := HK.start h0
  refine m_aload_n F rfl e_X2_lastTold_0 ?_
  refine t_get F e_X2_lastTold_1 fl_X2_65 (fun _ => o7) h1 hk rfl (fun v hv f1939 => ?_)
  obtain ⟨n1940, hn1940, rfl⟩ := hv
  replace hn1940 : n1940 ≤ 8 := hn1940
  refine m_if_le F e_X2_lastTold_4 (fun q4 => ?_) (fun q4 => ?_)
  · have c4 : n1940 ≤ 0 := (nI_leI (a := n1940) (b := 0) (by omega) (by omega)).mp q4
    refine m_iconst F (v := (-1)) (by decide) e_X2_lastTold_21 ?_
    exact m_iret F hQ e_X2_lastTold_22 (⟨h1, _, rfl⟩)
  · have c4 : n1940 > 0 := by have hh := mt (nI_leI (a := n1940) (b := 0) (by omega) (by omega)).mpr q4; omega
    refine m_aload_n F rfl e_X2_lastTold_7 ?_
    refine t_get F e_X2_lastTold_8 fl_X2_27 (fun _ => o7) h1 hk rfl (fun v hv f1941 => ?_)
    obtain rfl : v = .ref (a + 4) := hv
    refine m_aload_n F rfl e_X2_lastTold_11 ?_
    refine t_getC F e_X2_lastTold_12 fl_X2_65 (fun _ => o7) h1 hk (f1939) ?_
    refine m_iconst F (v := 1) (by decide) e_X2_lastTold_15 ?_
    refine m_isub F e_X2_lastTold_16 ?_
    refine Wm.topE (w := nI (n1940 - 1)) (pk_sub (a := n1940) (b := 1) (by omega)) ?_
    refine t_iald F (len := 8) (j := n1940 - 1) e_X2_lastTold_17 (fun _ => o11) h1 (kA_7 hk (r := 4) (by decide)) (nI_clamp (by omega)) (vp_in_nI (by omega) (by decide)) (fun x1942 => ?_)
    refine m_goto F e_X2_lastTold_18 ?_
    exact m_iret F hQ e_X2_lastTold_22 (⟨h1, _, rfl⟩)
set_option maxRecDepth 20000 in
theorem lp_X2_yearByChance_5 {V : VX} {X : MX} {b M Z T N : Nat} {σ : Mem} {a : Nat} {x901 : Int64}  (F : Fx V X yX2_yearByChance cX2_yearByChance 7 (some .long) (rmd 6 0 0)) (hQ : Rt V X 0 0 N (fun r τ => HK V (b, M + 108, Z, T) [0, 1, 2, 3, 4, 5, 8, 9, 11, 16, 19] σ τ ∧ ∃ x : Int64, r = some (.long x))) (hk : kA b a = 7) (hM : M + 108 ≤ 1000000000)  : ∀ (fuel : Nat) (u1 : Int64) (i : Nat) (τ : Mem), HK V (b, M + 9 * i, Z, T) [0, 1, 2, 3, 4, 5, 8, 9, 11, 16, 19] σ τ → i ≤ 12 → 12 - i < fuel → Wm V X 7 N τ 0 0 5 [(3, .long u1), (5, .int (nI i)), (0, .ref a), (1, .long x901)] [] := by
  intro fuel
  induction fuel with
  | zero => intro u1 i τ h1 hi hm; exact absurd hm (Nat.not_lt_zero _)
  | succ fuel ih =>
    intro u1 i τ h1 hi hm
    refine m_iload F rfl e_X2_yearByChance_5 ?_
    refine m_bipush F (v := 12) (by decide) e_X2_yearByChance_7 ?_
    refine m_icmp_ge F e_X2_yearByChance_9 (fun q9 => ?_) (fun q9 => ?_)
    · have c9 : i ≥ 12 := (nI_leI (a := 12) (b := i) (by omega) (by omega)).mp q9
      refine m_lload_n F rfl e_X2_yearByChance_74 ?_
      exact m_lret F hQ e_X2_yearByChance_75 (⟨(h1.mono (M' := M + 108) (Z' := Z) (by omega) (by intro e; first | rfl | assumption | omega)), _, rfl⟩)
    · have c9 : i < 12 := by have hh := mt (nI_leI (a := 12) (b := i) (by omega) (by omega)).mpr q9; omega
      refine m_lload_n F rfl e_X2_yearByChance_12 ?_
      refine m_ldc2 F kc_X2_251 e_X2_yearByChance_13 ?_
      refine m_lmul F e_X2_yearByChance_16 ?_
      refine Wm.topl (fun x1943 _ => ?_)
      refine m_ldc2 F kc_X2_253 e_X2_yearByChance_17 ?_
      refine m_ladd F e_X2_yearByChance_20 ?_
      refine Wm.topl (fun x1944 _ => ?_)
      refine m_ldc2 F kc_X2_255 e_X2_yearByChance_21 ?_
      refine m_land F e_X2_yearByChance_24 ?_
      refine Wm.topl (fun x1945 _ => ?_)
      refine m_lstore_n F (lv' := [(3, .long x1945), (5, .int (nI i)), (0, .ref a), (1, .long x901)]) e_X2_yearByChance_25 (by decide) rfl ?_
      refine m_lload_n F rfl e_X2_yearByChance_26 ?_
      refine m_ldc2 F kc_X2_257 e_X2_yearByChance_27 ?_
      refine m_ldiv F (by decide) e_X2_yearByChance_30 ?_
      refine Wm.topl (fun x1946 _ => ?_)
      refine m_ldc2 F kc_X2_259 e_X2_yearByChance_31 ?_
      refine m_lrem F (by decide) e_X2_yearByChance_34 ?_
      refine Wm.topl (fun x1947 _ => ?_)
      refine m_l2i F e_X2_yearByChance_35 ?_
      refine Wm.top (fun x1948 _ => ?_)
      refine m_bipush F (v := 10) (by decide) e_X2_yearByChance_36 ?_
      refine m_isub F e_X2_yearByChance_38 ?_
      refine Wm.top (fun x1949 _ => ?_)
      refine m_istore F (lv' := [(6, .int x1949), (3, .long x1945), (5, .int (nI i)), (0, .ref a), (1, .long x901)]) e_X2_yearByChance_39 (by decide) rfl ?_
      refine m_aload_n F rfl e_X2_yearByChance_41 ?_
      refine m_sipush F (v := 500) (by decide) e_X2_yearByChance_42 ?_
      refine m_sipush F (v := 2000) (by decide) e_X2_yearByChance_45 ?_
      refine m_aload_n F rfl e_X2_yearByChance_48 ?_
      refine t_callV F e_X2_yearByChance_49 (s_X2_indexNow (x_l X) V b (M + 9 * i) Z T _ _ a  h1.1 hk  (by omega)) cb_X2_indexNow ml_X2_153 im_X2_indexNow se_X2_indexNow (fun _ => o7) h1 hk rfl rfl (rest := [.int 2000, .int 500, .ref a]) rfl (Nat.le_of_ble_eq_true rfl) ⟨Nat.le_of_ble_eq_true rfl, Nat.le_of_ble_eq_true rfl⟩ ⟨Nat.le_of_ble_eq_true rfl, Nat.le_of_ble_eq_true rfl⟩ (fun r σ1950 hp => ?_)
      obtain ⟨h1952, x1953, rfl⟩ := hp
      have h1951 := HK.trans h1 h1952 (by decide)
      refine m_iload F rfl e_X2_yearByChance_52 ?_
      refine m_iadd F e_X2_yearByChance_54 ?_
      refine Wm.top (fun x1954 _ => ?_)
      refine m_min F e_X2_yearByChance_55 ml_X2_261 sm_min ini_math co_min (Nat.le_of_ble_eq_true rfl) (Nat.le_of_ble_eq_true rfl) (Nat.le_of_ble_eq_true rfl) (Nat.le_of_ble_eq_true rfl) ?_
      refine Wm.top (fun x1955 _ => ?_)
      refine m_max F e_X2_yearByChance_58 ml_X2_267 sm_max ini_math co_max (Nat.le_of_ble_eq_true rfl) (Nat.le_of_ble_eq_true rfl) (Nat.le_of_ble_eq_true rfl) (Nat.le_of_ble_eq_true rfl) ?_
      refine Wm.top (fun x1956 _ => ?_)
      refine t_callV F e_X2_yearByChance_61 (s_X2_changeIndex (x_l X) V b (M + 9 * i) Z T _ _ a x1956 h1951.1 hk  (by omega)) cb_X2_changeIndex ml_X2_270 im_X2_changeIndex se_X2_changeIndex (fun _ => o7) h1951 hk rfl rfl (rest := []) rfl (Nat.le_of_ble_eq_true rfl) ⟨Nat.le_of_ble_eq_true rfl, Nat.le_of_ble_eq_true rfl⟩ ⟨Nat.le_of_ble_eq_true rfl, Nat.le_of_ble_eq_true rfl⟩ (fun r σ1957 hp => ?_)
      obtain ⟨h1959, rfl⟩ := hp
      have h1958 := HK.trans h1951 h1959 (by decide)
      refine m_aload_n F rfl e_X2_yearByChance_64 ?_
      refine t_callV F e_X2_yearByChance_65 (s_X2_periodGoesBy (x_l X) V b (M + 9 * i) Z T _ _ a  h1958.1 hk  (by omega)) cb_X2_periodGoesBy ml_X2_273 im_X2_periodGoesBy se_X2_periodGoesBy (fun _ => o7) h1958 hk rfl rfl (rest := []) rfl (Nat.le_of_ble_eq_true rfl) ⟨Nat.le_of_ble_eq_true rfl, Nat.le_of_ble_eq_true rfl⟩ ⟨Nat.le_of_ble_eq_true rfl, Nat.le_of_ble_eq_true rfl⟩ (fun r σ1960 hp => ?_)
      obtain ⟨h1962, rfl⟩ := hp
      have h1961 := HK.trans h1958 h1962 (by decide)
      refine m_iinc F (v := nI (i + 1)) (lv' := [(5, .int (nI (i + 1))), (6, .int x1949), (3, .long x1945), (0, .ref a), (1, .long x901)]) e_X2_yearByChance_68 rfl (nI_add i 1) (by decide) rfl ?_
      refine m_goto F e_X2_yearByChance_71 ?_
      refine Wm.lvsub (lv' := [(3, .long x1945), (5, .int (nI (i + 1))), (0, .ref a), (1, .long x901)]) ?_ [2, 0, 3, 4] rfl
      exact ih x1945 (i + 1) _ (h1961.mono (M' := M + 9 * (i + 1)) (Z' := Z) (by omega) (by intro e9; first | exact e9 | rfl)) (by omega) (by omega)
set_option maxRecDepth 20000 in
theorem s_X2_yearByChance (l : Launch) (V : VX) (b M Z T N : Nat) (σ : Mem) (a : Nat) (x901 : Int64) (h0 : HT V (b, M, Z, T) σ) (hk : kA b a = 7) (hM : M + 108 ≤ 1000000000) : Ct l V yX2_yearByChance cX2_yearByChance 7 (some .long) 6 0 0 N σ [.ref a, .long x901] (fun r τ => HK V (b, M + 108, Z, T) [0, 1, 2, 3, 4, 5, 8, 9, 11, 16, 19] σ τ ∧ ∃ x : Int64, r = some (.long x)) := by
  refine Ct.of (by decide) (Nat.le_of_ble_eq_true rfl) [(0, .ref a), (1, .long x901)] rfl (fun X hX F hQ => ?_)
  have h1 : HK V (b, M, Z, T) [0, 1, 2, 3, 4, 5, 8, 9, 11, 16, 19] σ σ := HK.start h0
  refine m_lload_n F rfl e_X2_yearByChance_0 ?_
  refine m_lstore_n F (lv' := [(3, .long x901), (0, .ref a), (1, .long x901)]) e_X2_yearByChance_1 (by decide) rfl ?_
  refine m_iconst F (v := 0) (by decide) e_X2_yearByChance_2 ?_
  refine m_istore F (lv' := [(5, .int 0), (3, .long x901), (0, .ref a), (1, .long x901)]) e_X2_yearByChance_3 (by decide) rfl ?_
  refine Wm.lvsub (lv' := [(3, .long x901), (5, .int 0), (0, .ref a), (1, .long x901)]) ?_ [1, 0, 2, 3] rfl
  exact lp_X2_yearByChance_5 F hQ hk hM (12 - 0 + 1) x901 0 _ (h1.mono (M' := M + 9 * 0) (Z' := Z) (by omega) (by intro e9; first | exact e9 | rfl)) (by omega) (Nat.lt_succ_self _)
