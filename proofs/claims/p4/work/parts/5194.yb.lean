set_option maxRecDepth 20000 in
theorem q_X10_textE (l : Launch) (V : VX) (c T Z u h : Nat) (P : NP) (L : Nat → LQ) (N : Nat) (σ : Mem) (x901 : Int32) (t : Nat → Nat) (h0 : HR V c ⟨T, Z, u, h, P, L⟩ σ) (hok : OKL P.n0 L) (hP : OKP P) (hp0 : u ≤ 20) (hp1 : h ≤ 1) (hp2 : P.kk = P.n0) (hp3 : T ≤ 700) (hp4 : P.n0 ≤ P.m0) (hp5 : P.n2 ≤ P.w2) (hp6 : BR σ c T t) : Ct l V yX10_text cX10_text 2 (some .int) 11 0 0 N σ [.ref c, .int x901] (fun r τ => ((x901 < 0 ∨ ∃ n : Nat, n ≤ 2147483647 ∧ x901 = nI n ∧ T < n) ∧ HS V c (⟨T, Z, u, h, P, L⟩ : RG) [0, 2, 18, 19, 20, 21, 23] σ τ ∧ fld τ c 25 = fld σ c 25 ∧ fld τ c 26 = fld σ c 26 ∧ τ (c + 1) = σ (c + 1) ∧ r = some (.int (-2))) ∨ ∃ n : Nat, x901 = nI n ∧ n ≤ T ∧ fld τ c 25 = some (.int (nI (ansO (textS (tok t n) 700 (S0 (tok t n)))).2.1)) ∧ fld τ c 26 = some (.int (nI (ansO (textS (tok t n) 700 (S0 (tok t n)))).2.2)) ∧ r = some (.int (ansO (textS (tok t n) 700 (S0 (tok t n)))).1) ∧ ∃ (u9 h9 : Nat) (P9 : NP) (L9 : Nat → LQ), Gd u9 h9 P9 L9 ∧ HS V c (⟨0, 1, u9, h9, P9, L9⟩ : RG) [0, 2, 18, 19, 20, 21, 23] σ τ) := by
  refine Ct.of (by decide) (Nat.le_of_ble_eq_true rfl) [(0, .ref c), (1, .int x901)] rfl (fun X hX F hQ => ?_)
  have hPP := hP
  unfold OKP at hPP
  have h1 : HS V c ⟨T, Z, u, h, P, L⟩ [0, 2, 18, 19, 20, 21, 23] σ σ := HS.start h0
  have f25 := h1.1.f25
  have f26 := h1.1.f26
  refine m_aload_n F rfl e_X10_text_0 ?_
  refine m_iconst F (v := 0) (by decide) e_X10_text_1 ?_
  refine r_put F (g' := (⟨T, Z, u, h, P, L⟩ : RG)) e_X10_text_2 fp_X10_91 h1 (by decide) ⟨_, rfl⟩ (fun _ _ _ _ q => q) (fun _ _ _ q => q) rfl rfl (by decide) (fun σ16826 h16827 g16828 g16829 f16830 => ?_)
  have ga16831 := hp6.of (g16828 _ (by omega))
  refine m_iload_n F rfl e_X10_text_5 ?_
  refine m_if_lt F e_X10_text_6 (fun q6 => ?_) (fun q6 => ?_)
  · refine m_bipush F (v := (-2)) (by decide) e_X10_text_17 ?_
    exact m_iret F hQ e_X10_text_19 (Or.inl ⟨Or.inl q6, h16827, ((g16829 25 (by decide)).trans f25).trans f25.symm, ((g16829 26 (by decide)).trans f26).trans f26.symm, (by first | rfl | exact g16828 (c + 1) (by omega)), rfl⟩)
  · obtain ⟨n16832, hn16832, rfl⟩ := nI_nn (x := x901) (fun e => q6 (Int32.lt_of_lt_of_le e (by decide)))
    have c6 : n16832 ≥ 0 := by have hh := mt (nI_ltI (a := n16832) (b := 0) (by omega) (by omega)).mpr q6; omega
    refine m_iload_n F rfl e_X10_text_9 ?_
    refine m_aload_n F rfl e_X10_text_10 ?_
    refine r_get F e_X10_text_11 fl_X10_94 h16827 rfl (fun v hv f16833 => ?_)
    obtain rfl : v = .int (nI (T)) := hv
    refine m_icmp_le F e_X10_text_14 (fun q14 => ?_) (fun q14 => ?_)
    · have c14 : n16832 ≤ T := (nI_leI (a := n16832) (b := T) (by omega) (by omega)).mp q14
      refine m_aload_n F rfl e_X10_text_20 ?_
      refine m_iload_n F rfl e_X10_text_21 ?_
      refine r_callV F e_X10_text_22 (q_X10_readTextE (x_l X) V c T Z u h P L _ _ n16832 t h16827.1 (hok.b) hP (by omega) (ga16831.to (m := n16832) (by omega))) cb_X10_readText ml_X10_208 im_X10_readText se_X10_readText h16827 rfl rfl (rest := []) rfl (Nat.le_of_ble_eq_true rfl) ⟨Nat.le_of_ble_eq_true rfl, Nat.le_of_ble_eq_true rfl⟩ ⟨Nat.le_of_ble_eq_true rfl, Nat.le_of_ble_eq_true rfl⟩ (fun r σ16834 hp => ?_)
      obtain ⟨P16837, oP16837, rP16837, pr16838, h16835, hp⟩ := hp
      have h16836 := HS.trans h16827 h16835 (by decide)
      have xP16837 := oP16837
      unfold OKP at xP16837
      unfold RQ at rP16837
      have ga16839 := ga16831.of (h16835.2 (c + 1) (by rw [kC_at (k := 1) (by decide)]; decide))
      obtain rfl := hp
      cases eo16840 : (textS (tok t n16832) 700 (S0 (tok t n16832))) with
      | inl e8 =>
        rw [eo16840] at pr16838
        obtain ⟨⟨g23, g24⟩, c1, c2, c3⟩ := pr16838
        have nz8 : nI e8.1 ≠ 0 := fun e => absurd (nI_inj9 (b := 0) (by omega) (by omega) e) (by omega)
        refine m_aload_n F rfl e_X10_text_25 ?_
        refine m_iconst F (v := 0) (by decide) e_X10_text_26 ?_
        refine r_put F (g' := (⟨0, 1, u, h, P16837, L⟩ : RG)) e_X10_text_27 fp_X10_94 h16836 (by decide) rfl ctl_T CR.ctl rfl rfl (by decide) (fun σ16841 h16842 g16843 g16844 f16845 => ?_)
        refine m_aload_n F rfl e_X10_text_30 ?_
        refine m_aload_n F rfl e_X10_text_31 ?_
        refine r_getC F e_X10_text_32 fl_X10_141 h16842 ((g16844 23 (by decide)).trans g23) ?_
        refine r_put F (g' := (⟨0, 1, u, h, (mkP P16837.n0 P16837.n2 P16837.n5 P16837.n7 P16837.m0 P16837.m5 P16837.w2 P16837.w7 P16837.kk P16837.a e8.1 P16837.p), L⟩ : RG)) e_X10_text_35 fp_X10_211 h16842 (by decide) rfl ctl_f CR.setF rfl rfl (by decide) (fun σ16846 h16847 g16848 g16849 f16850 => ?_)
        obtain ⟨P16851, eP16851⟩ : ∃ P9, P9 = (mkP P16837.n0 P16837.n2 P16837.n5 P16837.n7 P16837.m0 P16837.m5 P16837.w2 P16837.w7 P16837.kk P16837.a e8.1 P16837.p) := ⟨_, rfl⟩
        rw [← eP16851] at h16847
        have fP16851 : P16851.n0 = P16837.n0 ∧ P16851.n2 = P16837.n2 ∧ P16851.n5 = P16837.n5 ∧ P16851.n7 = P16837.n7 ∧ P16851.m0 = P16837.m0 ∧ P16851.m5 = P16837.m5 ∧ P16851.w2 = P16837.w2 ∧ P16851.w7 = P16837.w7 ∧ P16851.kk = P16837.kk ∧ P16851.a = P16837.a ∧ P16851.f = e8.1 ∧ P16851.p = P16837.p := by rw [eP16851]; exact ⟨rfl, rfl, rfl, rfl, rfl, rfl, rfl, rfl, rfl, rfl, rfl, rfl⟩
        refine m_aload_n F rfl e_X10_text_38 ?_
        refine m_aload_n F rfl e_X10_text_39 ?_
        refine r_getC F e_X10_text_40 fl_X10_141 h16847 ((g16849 23 (by decide)).trans ((g16844 23 (by decide)).trans g23)) ?_
        refine m_if_ne F e_X10_text_43 (fun q43 => ?_) (fun q43 => ?_)
        · have c43 : e8.1 ≠ 0 := by have hh := mt (nI_eq (a := e8.1) (b := 0) (by omega) (by omega)).mpr q43; omega
          refine m_aload_n F rfl e_X10_text_50 ?_
          refine r_getC F e_X10_text_51 fl_X10_144 h16847 ((g16849 24 (by decide)).trans ((g16844 24 (by decide)).trans g24)) ?_
          refine r_put F (g' := (⟨0, 1, u, h, (mkP P16851.n0 P16851.n2 P16851.n5 P16851.n7 P16851.m0 P16851.m5 P16851.w2 P16851.w7 P16851.kk P16851.a P16851.f e8.2), L⟩ : RG)) e_X10_text_54 fp_X10_55 h16847 (by decide) rfl ctl_p CR.setP rfl rfl (by decide) (fun σ16852 h16853 g16854 g16855 f16856 => ?_)
          obtain ⟨P16857, eP16857⟩ : ∃ P9, P9 = (mkP P16851.n0 P16851.n2 P16851.n5 P16851.n7 P16851.m0 P16851.m5 P16851.w2 P16851.w7 P16851.kk P16851.a P16851.f e8.2) := ⟨_, rfl⟩
          rw [← eP16857] at h16853
          have fP16857 : P16857.n0 = P16851.n0 ∧ P16857.n2 = P16851.n2 ∧ P16857.n5 = P16851.n5 ∧ P16857.n7 = P16851.n7 ∧ P16857.m0 = P16851.m0 ∧ P16857.m5 = P16851.m5 ∧ P16857.w2 = P16851.w2 ∧ P16857.w7 = P16851.w7 ∧ P16857.kk = P16851.kk ∧ P16857.a = P16851.a ∧ P16857.f = P16851.f ∧ P16857.p = e8.2 := by rw [eP16857]; exact ⟨rfl, rfl, rfl, rfl, rfl, rfl, rfl, rfl, rfl, rfl, rfl, rfl⟩
          refine m_aload_n F rfl e_X10_text_57 ?_
          refine r_getC F e_X10_text_58 fl_X10_141 h16853 ((g16855 23 (by decide)).trans ((g16849 23 (by decide)).trans ((g16844 23 (by decide)).trans g23))) ?_
          refine m_if_eq F e_X10_text_61 (fun q61 => ?_) (fun q61 => ?_)
          · have c61 : e8.1 = 0 := (nI_eq (a := e8.1) (b := 0) (by omega) (by omega)).mp q61
            exact absurd q61 nz8
          · have c61 : e8.1 ≠ 0 := by have hh := mt (nI_eq (a := e8.1) (b := 0) (by omega) (by omega)).mpr q61; omega
            refine m_iconst F (v := (-1)) (by decide) e_X10_text_64 ?_
            have oP16858 : OKP P16857 := by unfold OKP; omega
            have h16859 : HS V c (⟨0, 1, u, h, P16857, L⟩ : RG) [0, 2, 18, 19, 20, 21, 23] _ _ := ⟨HR.mono (Z' := 1) (fun e => absurd e (by decide)) h16853.1, h16853.2⟩
            exact m_iret F hQ e_X10_text_65 (Or.inr ⟨n16832, rfl, by omega, (by rw [eo16840]; exact (g16855 25 (by decide)).trans f16850), (by rw [eo16840]; exact f16856), (by rw [eo16840]; rfl), u, h, P16857, L, ⟨by omega, by omega, oP16858, by omega, by omega, by omega, by rw [show P16857.n0 = P.n0 by omega]; exact hok⟩, h16859⟩)
        · have c43 : e8.1 = 0 := (nI_eq (a := e8.1) (b := 0) (by omega) (by omega)).mp q43
          exact absurd q43 nz8
      | inr S8 =>
        rw [eo16840] at pr16838
        obtain ⟨k8, nl8, nm8, np8, nc8, lc8, no8, sd8, md8, ln8⟩ := S8
        obtain ⟨so8, va8, fp8, mt8, ⟨g17, g18, g20, g21, g22, g23, g24⟩, -⟩ := pr16838
        refine m_aload_n F rfl e_X10_text_25 ?_
        refine m_iconst F (v := 0) (by decide) e_X10_text_26 ?_
        refine r_put F (g' := (⟨0, 1, u, h, P16837, L⟩ : RG)) e_X10_text_27 fp_X10_94 h16836 (by decide) rfl ctl_T CR.ctl rfl rfl (by decide) (fun σ16860 h16861 g16862 g16863 f16864 => ?_)
        refine m_aload_n F rfl e_X10_text_30 ?_
        refine m_aload_n F rfl e_X10_text_31 ?_
        refine r_getC F e_X10_text_32 fl_X10_141 h16861 ((g16863 23 (by decide)).trans g23) ?_
        refine r_put F (g' := (⟨0, 1, u, h, (mkP P16837.n0 P16837.n2 P16837.n5 P16837.n7 P16837.m0 P16837.m5 P16837.w2 P16837.w7 P16837.kk P16837.a 0 P16837.p), L⟩ : RG)) e_X10_text_35 fp_X10_211 h16861 (by decide) rfl ctl_f CR.setF rfl rfl (by decide) (fun σ16865 h16866 g16867 g16868 f16869 => ?_)
        obtain ⟨P16870, eP16870⟩ : ∃ P9, P9 = (mkP P16837.n0 P16837.n2 P16837.n5 P16837.n7 P16837.m0 P16837.m5 P16837.w2 P16837.w7 P16837.kk P16837.a 0 P16837.p) := ⟨_, rfl⟩
        rw [← eP16870] at h16866
        have fP16870 : P16870.n0 = P16837.n0 ∧ P16870.n2 = P16837.n2 ∧ P16870.n5 = P16837.n5 ∧ P16870.n7 = P16837.n7 ∧ P16870.m0 = P16837.m0 ∧ P16870.m5 = P16837.m5 ∧ P16870.w2 = P16837.w2 ∧ P16870.w7 = P16837.w7 ∧ P16870.kk = P16837.kk ∧ P16870.a = P16837.a ∧ P16870.f = 0 ∧ P16870.p = P16837.p := by rw [eP16870]; exact ⟨rfl, rfl, rfl, rfl, rfl, rfl, rfl, rfl, rfl, rfl, rfl, rfl⟩
        refine m_aload_n F rfl e_X10_text_38 ?_
        refine m_aload_n F rfl e_X10_text_39 ?_
        refine r_getC F e_X10_text_40 fl_X10_141 h16866 ((g16868 23 (by decide)).trans ((g16863 23 (by decide)).trans g23)) ?_
        refine m_if_ne F e_X10_text_43 (fun q => absurd (by decide) q) (fun _ => ?_)
        refine m_iconst F (v := (-1)) (by decide) e_X10_text_46 ?_
        refine m_goto F e_X10_text_47 ?_
        refine r_put F (g' := (⟨0, 1, u, h, (mkP P16870.n0 P16870.n2 P16870.n5 P16870.n7 P16870.m0 P16870.m5 P16870.w2 P16870.w7 P16870.kk P16870.a P16870.f 4294967295), L⟩ : RG)) e_X10_text_54 fp_X10_55 h16866 (by decide) rfl ctl_p CR.setP rfl rfl (by decide) (fun σ16871 h16872 g16873 g16874 f16875 => ?_)
        obtain ⟨P16876, eP16876⟩ : ∃ P9, P9 = (mkP P16870.n0 P16870.n2 P16870.n5 P16870.n7 P16870.m0 P16870.m5 P16870.w2 P16870.w7 P16870.kk P16870.a P16870.f 4294967295) := ⟨_, rfl⟩
        rw [← eP16876] at h16872
        have fP16876 : P16876.n0 = P16870.n0 ∧ P16876.n2 = P16870.n2 ∧ P16876.n5 = P16870.n5 ∧ P16876.n7 = P16870.n7 ∧ P16876.m0 = P16870.m0 ∧ P16876.m5 = P16870.m5 ∧ P16876.w2 = P16870.w2 ∧ P16876.w7 = P16870.w7 ∧ P16876.kk = P16870.kk ∧ P16876.a = P16870.a ∧ P16876.f = P16870.f ∧ P16876.p = 4294967295 := by rw [eP16876]; exact ⟨rfl, rfl, rfl, rfl, rfl, rfl, rfl, rfl, rfl, rfl, rfl, rfl⟩
        refine m_aload_n F rfl e_X10_text_57 ?_
        refine r_getC F e_X10_text_58 fl_X10_141 h16872 ((g16874 23 (by decide)).trans ((g16868 23 (by decide)).trans ((g16863 23 (by decide)).trans g23))) ?_
        refine m_if_eq F e_X10_text_61 (fun _ => ?_) (fun q => absurd (by decide) q)
        refine m_aload_n F rfl e_X10_text_66 ?_
        have oP16880 : OKP P16876 := by unfold OKP; omega
        refine r_callV F e_X10_text_67 (q_X10_takeText (x_l X) V c 0 1 u h P16876 L _ _  h16872.1 (hok.b) oP16880 ) cb_X10_takeText ml_X10_85 im_X10_takeText se_X10_takeText h16872 rfl rfl (rest := []) rfl (Nat.le_of_ble_eq_true rfl) ⟨Nat.le_of_ble_eq_true rfl, Nat.le_of_ble_eq_true rfl⟩ ⟨Nat.le_of_ble_eq_true rfl, Nat.le_of_ble_eq_true rfl⟩ (fun r σ16877 hp => ?_)
        obtain ⟨P16881, oP16881, rP16881, h16878, rfl⟩ := hp
        have h16879 := HS.trans h16872 h16878 (by decide)
        have xP16881 := oP16881
        unfold OKP at xP16881
        unfold RT at rP16881
        refine m_aload_n F rfl e_X10_text_70 ?_
        refine r_callV F e_X10_text_71 (q_X10_begins (x_l X) V c 0 1 u h P16881 L _ _  h16879.1 (hok.b) oP16881 (by first | omega | assumption | decide) (by first | omega | assumption | decide)) cb_X10_begins ml_X10_88 im_X10_begins se_X10_begins h16879 rfl rfl (rest := []) rfl (Nat.le_of_ble_eq_true rfl) ⟨Nat.le_of_ble_eq_true rfl, Nat.le_of_ble_eq_true rfl⟩ ⟨Nat.le_of_ble_eq_true rfl, Nat.le_of_ble_eq_true rfl⟩ (fun r σ16882 hp => ?_)
        obtain ⟨L16885, okL16885, h16883, rfl⟩ := hp
        have h16884 := HS.trans h16879 h16883 (by decide)
        refine m_aload_n F rfl e_X10_text_74 ?_
        refine m_iconst F (v := 0) (by decide) e_X10_text_75 ?_
        refine r_put F (g' := (⟨0, 1, 0, h, P16881, L16885⟩ : RG)) e_X10_text_76 fp_X10_214 h16884 (by decide) rfl ctl_u (CR.und (Nat.zero_le _)) rfl rfl (by decide) (fun σ16886 h16887 g16888 g16889 f16890 => ?_)
        refine m_aload_n F rfl e_X10_text_79 ?_
        refine m_iconst F (v := 0) (by decide) e_X10_text_80 ?_
        refine r_put F (g' := (⟨0, 1, 0, 0, P16881, L16885⟩ : RG)) e_X10_text_81 fp_X10_217 h16887 (by decide) rfl ctl_h CR.h0 (by decide) rfl (by decide) (fun σ16891 h16892 g16893 g16894 f16895 => ?_)
        refine m_aload_n F rfl e_X10_text_84 ?_
        refine r_getC F e_X10_text_85 fl_X10_202 h16892 ((g16894 17 (by decide)).trans ((g16889 17 (by decide)).trans ((fld_eq (h16883.2 c (by rw [show kC c c = 1 from kC_at (k := 0) (by decide)]; decide))).trans ((fld_eq (h16878.2 c (by rw [show kC c c = 1 from kC_at (k := 0) (by decide)]; decide))).trans ((g16874 17 (by decide)).trans ((g16868 17 (by decide)).trans ((g16863 17 (by decide)).trans g17))))))) ?_
        have h16896 : HS V c (⟨0, 1, 0, 0, (mkP P16881.n0 P16881.n2 P16881.n5 P16881.n7 P16881.m0 P16881.m5 P16881.w2 P16881.w7 P16881.n0 P16881.a P16881.f P16881.p), L16885⟩ : RG) [0, 2, 18, 19, 20, 21, 23] _ _ := ⟨HR.kk0 (HR.mono (Z' := 1) (fun e => absurd e (by decide)) h16892.1), h16892.2⟩
        exact m_iret F hQ e_X10_text_88 (Or.inr ⟨n16832, rfl, by omega, (by rw [eo16840]; exact (g16894 25 (by decide)).trans ((g16889 25 (by decide)).trans ((fld_eq (h16883.2 c (by rw [show kC c c = 1 from kC_at (k := 0) (by decide)]; decide))).trans ((fld_eq (h16878.2 c (by rw [show kC c c = 1 from kC_at (k := 0) (by decide)]; decide))).trans ((g16874 25 (by decide)).trans f16869))))), (by rw [eo16840]; exact (g16894 26 (by decide)).trans ((g16889 26 (by decide)).trans ((fld_eq (h16883.2 c (by rw [show kC c c = 1 from kC_at (k := 0) (by decide)]; decide))).trans ((fld_eq (h16878.2 c (by rw [show kC c c = 1 from kC_at (k := 0) (by decide)]; decide))).trans f16875)))), (by rw [eo16840]; rfl), 0, 0, (mkP P16881.n0 P16881.n2 P16881.n5 P16881.n7 P16881.m0 P16881.m5 P16881.w2 P16881.w7 P16881.n0 P16881.a P16881.f P16881.p), L16885, ⟨by omega, by omega, oP16881, rfl, (show P16881.n0 ≤ P16881.m0 by omega), (show P16881.n2 ≤ P16881.w2 by omega), okL16885⟩, h16896⟩)
    · have c14 : n16832 > T := by have hh := mt (nI_leI (a := n16832) (b := T) (by omega) (by omega)).mpr q14; omega
      refine m_bipush F (v := (-2)) (by decide) e_X10_text_17 ?_
      exact m_iret F hQ e_X10_text_19 (Or.inl ⟨Or.inr ⟨n16832, by omega, rfl, by omega⟩, h16827, ((g16829 25 (by decide)).trans f25).trans f25.symm, ((g16829 26 (by decide)).trans f26).trans f26.symm, (by first | rfl | exact g16828 (c + 1) (by omega)), rfl⟩)
