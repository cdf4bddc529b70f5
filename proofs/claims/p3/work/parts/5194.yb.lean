set_option maxRecDepth 20000 in
theorem q_X10_textE (l : Launch) (V : VX) (c T Z u h : Nat) (P : NP) (L : Nat → LQ) (N : Nat) (σ : Mem) (x901 : Int32) (t : Nat → Nat) (h0 : HR V c ⟨T, Z, u, h, P, L⟩ σ) (hok : OKL P.n0 L) (hP : OKP P) (hp0 : u ≤ 20) (hp1 : h ≤ 1) (hp2 : P.kk = P.n0) (hp3 : T ≤ 700) (hp4 : P.n0 ≤ P.m0) (hp5 : P.n2 ≤ P.w2) (hp6 : BR σ c T t) : Ct l V yX10_text cX10_text 2 (some .int) 11 0 0 N σ [.ref c, .int x901] (fun r τ => ((x901 < 0 ∨ ∃ n : Nat, n ≤ 2147483647 ∧ x901 = nI n ∧ T < n) ∧ HS V c (⟨T, Z, u, h, P, L⟩ : RG) [0, 2, 18, 19, 20, 21, 23] σ τ ∧ fld τ c 25 = fld σ c 25 ∧ fld τ c 26 = fld σ c 26 ∧ τ (c + 1) = σ (c + 1) ∧ r = some (.int (-2))) ∨ ∃ n : Nat, x901 = nI n ∧ n ≤ T ∧ fld τ c 25 = some (.int (nI (ansO (textS (tok t n) 700 (S0 (tok t n)))).2.1)) ∧ fld τ c 26 = some (.int (nI (ansO (textS (tok t n) 700 (S0 (tok t n)))).2.2)) ∧ r = some (.int (ansO (textS (tok t n) 700 (S0 (tok t n)))).1) ∧ ∃ (u9 h9 : Nat) (P9 : NP) (L9 : Nat → LQ), Gd u9 h9 P9 L9 ∧ HS V c (⟨0, 1, u9, h9, P9, L9⟩ : RG) [0, 2, 18, 19, 20, 21, 23] σ τ) := by
  refine Ct.of (by decide) (Nat.le_of_ble_eq_true rfl) [(0, .ref c), (1, .int x901)] rfl (fun X hX F hQ => ?_)
  have hPP := hP
  unfold OKP at hPP
  have h1 : HS V c ⟨T, Z, u, h, P, L⟩ [0, 2, 18, 19, 20, 21, 23] σ σ := HS.start h0
  obtain ⟨z25, f25⟩ := h1.1.fw (j := 25) rfl
  obtain ⟨z26, f26⟩ := h1.1.fw (j := 26) rfl
  refine m_aload_n F rfl e_X10_text_0 ?_
  refine m_iconst F (v := 0) (by decide) e_X10_text_1 ?_
  refine r_put F (g' := (⟨T, Z, u, h, P, L⟩ : RG)) e_X10_text_2 fp_X10_91 h1 (by decide) ⟨_, rfl⟩ (fun _ _ _ _ q => q) (fun _ _ _ q => q) rfl rfl (by decide) (fun σ16821 h16822 g16823 g16824 f16825 => ?_)
  have ga16826 := hp6.of (g16823 _ (by omega))
  refine m_iload_n F rfl e_X10_text_5 ?_
  refine m_if_lt F e_X10_text_6 (fun q6 => ?_) (fun q6 => ?_)
  · refine m_bipush F (v := (-2)) (by decide) e_X10_text_17 ?_
    exact m_iret F hQ e_X10_text_19 (Or.inl ⟨Or.inl q6, h16822, ((g16824 25 (by decide)).trans f25).trans f25.symm, ((g16824 26 (by decide)).trans f26).trans f26.symm, (by first | rfl | exact g16823 (c + 1) (by omega)), rfl⟩)
  · obtain ⟨n16827, hn16827, rfl⟩ := nI_nn (x := x901) (fun e => q6 (Int32.lt_of_lt_of_le e (by decide)))
    have c6 : n16827 ≥ 0 := by have hh := mt (nI_ltI (a := n16827) (b := 0) (by omega) (by omega)).mpr q6; omega
    refine m_iload_n F rfl e_X10_text_9 ?_
    refine m_aload_n F rfl e_X10_text_10 ?_
    refine r_get F e_X10_text_11 fl_X10_94 h16822 rfl (fun v hv f16828 => ?_)
    obtain rfl : v = .int (nI (T)) := hv
    refine m_icmp_le F e_X10_text_14 (fun q14 => ?_) (fun q14 => ?_)
    · have c14 : n16827 ≤ T := (nI_leI (a := n16827) (b := T) (by omega) (by omega)).mp q14
      refine m_aload_n F rfl e_X10_text_20 ?_
      refine m_iload_n F rfl e_X10_text_21 ?_
      refine r_callV F e_X10_text_22 (q_X10_readTextE (x_l X) V c T Z u h P L _ _ n16827 t h16822.1 (hok.b) hP (by omega) (ga16826.to (m := n16827) (by omega))) cb_X10_readText ml_X10_208 im_X10_readText se_X10_readText h16822 rfl rfl (rest := []) rfl (Nat.le_of_ble_eq_true rfl) ⟨Nat.le_of_ble_eq_true rfl, Nat.le_of_ble_eq_true rfl⟩ ⟨Nat.le_of_ble_eq_true rfl, Nat.le_of_ble_eq_true rfl⟩ (fun r σ16829 hp => ?_)
      obtain ⟨P16832, oP16832, rP16832, pr16833, h16830, hp⟩ := hp
      have h16831 := HS.trans h16822 h16830 (by decide)
      have xP16832 := oP16832
      unfold OKP at xP16832
      unfold RQ at rP16832
      have ga16834 := ga16826.of (h16830.2 (c + 1) (by rw [kC_at (k := 1) (by decide)]; decide))
      obtain rfl := hp
      cases eo16835 : (textS (tok t n16827) 700 (S0 (tok t n16827))) with
      | inl e8 =>
        rw [eo16835] at pr16833
        obtain ⟨⟨g23, g24⟩, c1, c2, c3⟩ := pr16833
        have nz8 : nI e8.1 ≠ 0 := fun e => absurd (nI_inj9 (b := 0) (by omega) (by omega) e) (by omega)
        refine m_aload_n F rfl e_X10_text_25 ?_
        refine m_iconst F (v := 0) (by decide) e_X10_text_26 ?_
        refine r_put F (g' := (⟨0, 1, u, h, P16832, L⟩ : RG)) e_X10_text_27 fp_X10_94 h16831 (by decide) rfl ctl_T CR.ctl rfl rfl (by decide) (fun σ16836 h16837 g16838 g16839 f16840 => ?_)
        refine m_aload_n F rfl e_X10_text_30 ?_
        refine m_aload_n F rfl e_X10_text_31 ?_
        refine r_getC F e_X10_text_32 fl_X10_141 h16837 ((g16839 23 (by decide)).trans g23) ?_
        refine r_put F (g' := (⟨0, 1, u, h, P16832, L⟩ : RG)) e_X10_text_35 fp_X10_211 h16837 (by decide) ⟨_, rfl⟩ (fun _ _ _ _ q => q) (fun _ _ _ q => q) rfl rfl (by decide) (fun σ16841 h16842 g16843 g16844 f16845 => ?_)
        refine m_aload_n F rfl e_X10_text_38 ?_
        refine m_aload_n F rfl e_X10_text_39 ?_
        refine r_getC F e_X10_text_40 fl_X10_141 h16842 ((g16844 23 (by decide)).trans ((g16839 23 (by decide)).trans g23)) ?_
        refine m_if_ne F e_X10_text_43 (fun q43 => ?_) (fun q43 => ?_)
        · have c43 : e8.1 ≠ 0 := by have hh := mt (nI_eq (a := e8.1) (b := 0) (by omega) (by omega)).mpr q43; omega
          refine m_aload_n F rfl e_X10_text_50 ?_
          refine r_getC F e_X10_text_51 fl_X10_144 h16842 ((g16844 24 (by decide)).trans ((g16839 24 (by decide)).trans g24)) ?_
          refine r_put F (g' := (⟨0, 1, u, h, P16832, L⟩ : RG)) e_X10_text_54 fp_X10_55 h16842 (by decide) ⟨_, rfl⟩ (fun _ _ _ _ q => q) (fun _ _ _ q => q) rfl rfl (by decide) (fun σ16846 h16847 g16848 g16849 f16850 => ?_)
          refine m_aload_n F rfl e_X10_text_57 ?_
          refine r_getC F e_X10_text_58 fl_X10_141 h16847 ((g16849 23 (by decide)).trans ((g16844 23 (by decide)).trans ((g16839 23 (by decide)).trans g23))) ?_
          refine m_if_eq F e_X10_text_61 (fun q61 => ?_) (fun q61 => ?_)
          · have c61 : e8.1 = 0 := (nI_eq (a := e8.1) (b := 0) (by omega) (by omega)).mp q61
            exact absurd q61 nz8
          · have c61 : e8.1 ≠ 0 := by have hh := mt (nI_eq (a := e8.1) (b := 0) (by omega) (by omega)).mpr q61; omega
            refine m_iconst F (v := (-1)) (by decide) e_X10_text_64 ?_
            have h16851 : HS V c (⟨0, 1, u, h, P16832, L⟩ : RG) [0, 2, 18, 19, 20, 21, 23] _ _ := ⟨HR.mono (Z' := 1) (fun e => absurd e (by decide)) h16847.1, h16847.2⟩
            exact m_iret F hQ e_X10_text_65 (Or.inr ⟨n16827, rfl, by omega, (by rw [eo16835]; exact (g16849 25 (by decide)).trans f16845), (by rw [eo16835]; exact f16850), (by rw [eo16835]; rfl), u, h, P16832, L, ⟨by omega, by omega, oP16832, by omega, by omega, by omega, by rw [show P16832.n0 = P.n0 by omega]; exact hok⟩, h16851⟩)
        · have c43 : e8.1 = 0 := (nI_eq (a := e8.1) (b := 0) (by omega) (by omega)).mp q43
          exact absurd q43 nz8
      | inr S8 =>
        rw [eo16835] at pr16833
        obtain ⟨k8, nl8, nm8, np8, nc8, lc8, no8, sd8, md8, ln8⟩ := S8
        obtain ⟨so8, va8, fp8, mt8, ⟨g17, g18, g20, g21, g22, g23, g24⟩, -⟩ := pr16833
        refine m_aload_n F rfl e_X10_text_25 ?_
        refine m_iconst F (v := 0) (by decide) e_X10_text_26 ?_
        refine r_put F (g' := (⟨0, 1, u, h, P16832, L⟩ : RG)) e_X10_text_27 fp_X10_94 h16831 (by decide) rfl ctl_T CR.ctl rfl rfl (by decide) (fun σ16852 h16853 g16854 g16855 f16856 => ?_)
        refine m_aload_n F rfl e_X10_text_30 ?_
        refine m_aload_n F rfl e_X10_text_31 ?_
        refine r_getC F e_X10_text_32 fl_X10_141 h16853 ((g16855 23 (by decide)).trans g23) ?_
        refine r_put F (g' := (⟨0, 1, u, h, P16832, L⟩ : RG)) e_X10_text_35 fp_X10_211 h16853 (by decide) ⟨_, rfl⟩ (fun _ _ _ _ q => q) (fun _ _ _ q => q) rfl rfl (by decide) (fun σ16857 h16858 g16859 g16860 f16861 => ?_)
        refine m_aload_n F rfl e_X10_text_38 ?_
        refine m_aload_n F rfl e_X10_text_39 ?_
        refine r_getC F e_X10_text_40 fl_X10_141 h16858 ((g16860 23 (by decide)).trans ((g16855 23 (by decide)).trans g23)) ?_
        refine m_if_ne F e_X10_text_43 (fun q => absurd (by decide) q) (fun _ => ?_)
        refine m_iconst F (v := (-1)) (by decide) e_X10_text_46 ?_
        refine m_goto F e_X10_text_47 ?_
        refine r_put F (g' := (⟨0, 1, u, h, P16832, L⟩ : RG)) e_X10_text_54 fp_X10_55 h16858 (by decide) ⟨_, rfl⟩ (fun _ _ _ _ q => q) (fun _ _ _ q => q) rfl rfl (by decide) (fun σ16862 h16863 g16864 g16865 f16866 => ?_)
        refine m_aload_n F rfl e_X10_text_57 ?_
        refine r_getC F e_X10_text_58 fl_X10_141 h16863 ((g16865 23 (by decide)).trans ((g16860 23 (by decide)).trans ((g16855 23 (by decide)).trans g23))) ?_
        refine m_if_eq F e_X10_text_61 (fun _ => ?_) (fun q => absurd (by decide) q)
        refine m_aload_n F rfl e_X10_text_66 ?_
        refine r_callV F e_X10_text_67 (q_X10_takeText (x_l X) V c 0 1 u h P16832 L _ _  h16863.1 (hok.b) oP16832 ) cb_X10_takeText ml_X10_85 im_X10_takeText se_X10_takeText h16863 rfl rfl (rest := []) rfl (Nat.le_of_ble_eq_true rfl) ⟨Nat.le_of_ble_eq_true rfl, Nat.le_of_ble_eq_true rfl⟩ ⟨Nat.le_of_ble_eq_true rfl, Nat.le_of_ble_eq_true rfl⟩ (fun r σ16867 hp => ?_)
        obtain ⟨P16870, oP16870, rP16870, h16868, rfl⟩ := hp
        have h16869 := HS.trans h16863 h16868 (by decide)
        have xP16870 := oP16870
        unfold OKP at xP16870
        unfold RT at rP16870
        refine m_aload_n F rfl e_X10_text_70 ?_
        refine r_callV F e_X10_text_71 (q_X10_begins (x_l X) V c 0 1 u h P16870 L _ _  h16869.1 (hok.b) oP16870 (by first | omega | assumption | decide) (by first | omega | assumption | decide)) cb_X10_begins ml_X10_88 im_X10_begins se_X10_begins h16869 rfl rfl (rest := []) rfl (Nat.le_of_ble_eq_true rfl) ⟨Nat.le_of_ble_eq_true rfl, Nat.le_of_ble_eq_true rfl⟩ ⟨Nat.le_of_ble_eq_true rfl, Nat.le_of_ble_eq_true rfl⟩ (fun r σ16871 hp => ?_)
        obtain ⟨L16874, okL16874, h16872, rfl⟩ := hp
        have h16873 := HS.trans h16869 h16872 (by decide)
        refine m_aload_n F rfl e_X10_text_74 ?_
        refine m_iconst F (v := 0) (by decide) e_X10_text_75 ?_
        refine r_put F (g' := (⟨0, 1, 0, h, P16870, L16874⟩ : RG)) e_X10_text_76 fp_X10_214 h16873 (by decide) rfl ctl_u (CR.und (Nat.zero_le _)) rfl rfl (by decide) (fun σ16875 h16876 g16877 g16878 f16879 => ?_)
        refine m_aload_n F rfl e_X10_text_79 ?_
        refine m_iconst F (v := 0) (by decide) e_X10_text_80 ?_
        refine r_put F (g' := (⟨0, 1, 0, 0, P16870, L16874⟩ : RG)) e_X10_text_81 fp_X10_217 h16876 (by decide) rfl ctl_h CR.h0 (by decide) rfl (by decide) (fun σ16880 h16881 g16882 g16883 f16884 => ?_)
        refine m_aload_n F rfl e_X10_text_84 ?_
        refine r_getC F e_X10_text_85 fl_X10_202 h16881 ((g16883 17 (by decide)).trans ((g16878 17 (by decide)).trans ((fld_eq (h16872.2 c (by rw [show kC c c = 1 from kC_at (k := 0) (by decide)]; decide))).trans ((fld_eq (h16868.2 c (by rw [show kC c c = 1 from kC_at (k := 0) (by decide)]; decide))).trans ((g16865 17 (by decide)).trans ((g16860 17 (by decide)).trans ((g16855 17 (by decide)).trans g17))))))) ?_
        have h16885 : HS V c (⟨0, 1, 0, 0, (mkP P16870.n0 P16870.n2 P16870.n5 P16870.n7 P16870.m0 P16870.m5 P16870.w2 P16870.w7 P16870.n0 P16870.a), L16874⟩ : RG) [0, 2, 18, 19, 20, 21, 23] _ _ := ⟨HR.kk0 (HR.mono (Z' := 1) (fun e => absurd e (by decide)) h16881.1), h16881.2⟩
        exact m_iret F hQ e_X10_text_88 (Or.inr ⟨n16827, rfl, by omega, (by rw [eo16835]; exact (g16883 25 (by decide)).trans ((g16878 25 (by decide)).trans ((fld_eq (h16872.2 c (by rw [show kC c c = 1 from kC_at (k := 0) (by decide)]; decide))).trans ((fld_eq (h16868.2 c (by rw [show kC c c = 1 from kC_at (k := 0) (by decide)]; decide))).trans ((g16865 25 (by decide)).trans f16861))))), (by rw [eo16835]; exact (g16883 26 (by decide)).trans ((g16878 26 (by decide)).trans ((fld_eq (h16872.2 c (by rw [show kC c c = 1 from kC_at (k := 0) (by decide)]; decide))).trans ((fld_eq (h16868.2 c (by rw [show kC c c = 1 from kC_at (k := 0) (by decide)]; decide))).trans f16866)))), (by rw [eo16835]; rfl), 0, 0, (mkP P16870.n0 P16870.n2 P16870.n5 P16870.n7 P16870.m0 P16870.m5 P16870.w2 P16870.w7 P16870.n0 P16870.a), L16874, ⟨by omega, by omega, oP16870, rfl, (show P16870.n0 ≤ P16870.m0 by omega), (show P16870.n2 ≤ P16870.w2 by omega), okL16874⟩, h16885⟩)
    · have c14 : n16827 > T := by have hh := mt (nI_leI (a := n16827) (b := T) (by omega) (by omega)).mpr q14; omega
      refine m_bipush F (v := (-2)) (by decide) e_X10_text_17 ?_
      exact m_iret F hQ e_X10_text_19 (Or.inl ⟨Or.inr ⟨n16827, by omega, rfl, by omega⟩, h16822, ((g16824 25 (by decide)).trans f25).trans f25.symm, ((g16824 26 (by decide)).trans f26).trans f26.symm, (by first | rfl | exact g16823 (c + 1) (by omega)), rfl⟩)
