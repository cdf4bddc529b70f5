set_option maxRecDepth 20000 in
theorem s_X7_beginE (l : Launch) (V : VX) (b M Z T N : Nat) (σ : Mem) (a : Nat) (n901 : Nat) (r902 : Nat) (h0 : HT V (b, M, Z, T) σ) (hk : kA b a = 3) (hn901 : n901 ≤ 700) (k902 : kA b r902 = 7) (hM : M + 0 ≤ 1000000000) : Ct l V yX7_begin cX7_begin 3 none 1 0 0 N σ [.ref a, .int (nI n901), .ref r902] (fun r τ => HK V (b, M, 1, T) [0, 1, 2, 5, 6, 7, 8, 9, 10, 11, 12, 13, 14, 15, 16, 17, 18, 19] σ τ ∧ ∃ (tp td st : Nat) (tk vl : Int32), kA b tp = 2 ∧ kA b td = 4 ∧ RD τ a tp td n901 r902 0 st tk vl 0 0 0 0 (-1) ∧ TD V τ td 0 (fun _ _ => false) ∧ r = none) := by
  refine Ct.of (by decide) (Nat.le_of_ble_eq_true rfl) [(0, .ref a), (1, .int (nI n901)), (2, .ref r902)] rfl (fun X hX F hQ => ?_)
  have h1 : HK V (b, M, Z, T) [0, 1, 2, 5, 6, 7, 8, 9, 10, 11, 12, 13, 14, 15, 16, 17, 18, 19] σ σ := HK.start h0
  have h2 := h1.mono (M' := M) (Z' := 1) (Nat.le_refl _) (fun e => absurd e (by decide))
  refine m_aload_n F rfl e_X7_begin_0 ?_
  refine m_iload_n F rfl e_X7_begin_1 ?_
  refine m_aload_n F rfl e_X7_begin_2 ?_
  refine t_get F e_X7_begin_3 fl_X7_19 (fun _ => o3) h2 hk rfl (fun v hv f7743 => ?_)
  obtain ⟨r7744, k7745, rfl⟩ := hv
  refine t_alenB F (len := 700) e_X7_begin_6 (fun _ => o2) h2 k7745 (v := 700) (by decide) ?_
  refine m_min F e_X7_begin_7 ml_X7_27 sm_min ini_math co_min (Nat.le_of_ble_eq_true rfl) (Nat.le_of_ble_eq_true rfl) (Nat.le_of_ble_eq_true rfl) (Nat.le_of_ble_eq_true rfl) ?_
  refine Wm.topE (w := nI n901) ((minN (a := n901) (b := 700) (by omega) (by omega)).trans (congrArg nI (Nat.min_eq_left (by omega)))) ?_
  refine t_put F e_X7_begin_10 fp_X7_33 (fun _ => o3) h2 hk rfl ⟨n901, (show n901 ≤ 700 by omega), rfl⟩ rfl rfl (by decide) (fun σ7746 h7747 g7748 g7749 f7750 => ?_)
  refine m_aload_n F rfl e_X7_begin_13 ?_
  refine m_aload_n F rfl e_X7_begin_14 ?_
  refine t_put F e_X7_begin_15 fp_X7_23 (fun _ => o3) h7747 hk rfl ⟨_, k902, rfl⟩ rfl rfl (by decide) (fun σ7751 h7752 g7753 g7754 f7755 => ?_)
  refine m_aload_n F rfl e_X7_begin_18 ?_
  refine t_get F e_X7_begin_19 fl_X7_9 (fun _ => o3) h7752 hk rfl (fun v hv f7756 => ?_)
  obtain ⟨r7757, k7758, rfl⟩ := hv
  refine m_iconst F (v := 0) (by decide) e_X7_begin_22 ?_
  refine m_callS F e_X7_begin_23 (s_J7_fill_53178_4E (x_l X) V b M 1 T _ _ r7757 0 h7752.1 k7758 (by omega)) cb_J7_fill_53178 ml_X7_36 sm_J7_fill_53178 rfl (rest := []) rfl (Nat.le_of_ble_eq_true rfl) ⟨Nat.le_of_ble_eq_true rfl, Nat.le_of_ble_eq_true rfl⟩ ⟨Nat.le_of_ble_eq_true rfl, Nat.le_of_ble_eq_true rfl⟩ (k' := 0) (z' := 0) (N' := N) rfl rfl rfl (fun r σ7759 hp => ?_)
  obtain ⟨h7760, tz7762, rfl⟩ := hp
  have tz7762 := TD.zero tz7762
  have h7761 := HK.trans h7752 h7760 (by decide)
  refine m_aload_n F rfl e_X7_begin_26 ?_
  refine m_iconst F (v := 0) (by decide) e_X7_begin_27 ?_
  refine t_putC F e_X7_begin_28 fp_X7_42 (fun _ => o3) h7761 hk rfl ⟨0, (show 0 ≤ 700 by omega), rfl⟩ rfl rfl (by decide) (fun σ7763 h7764 g7765 g7766 f7767 => ?_)
  have tq7768 := tz7762.keep (g7765 r7757 (kdn k7758 hk (by decide)))
  refine m_aload_n F rfl e_X7_begin_31 ?_
  refine m_iconst F (v := 0) (by decide) e_X7_begin_32 ?_
  refine t_putC F e_X7_begin_33 fp_X7_45 (fun _ => o3) h7764 hk rfl ⟨_, rfl⟩ rfl rfl (by decide) (fun σ7769 h7770 g7771 g7772 f7773 => ?_)
  have tq7774 := tq7768.keep (g7771 r7757 (kdn k7758 hk (by decide)))
  refine m_aload_n F rfl e_X7_begin_36 ?_
  refine m_iconst F (v := 0) (by decide) e_X7_begin_37 ?_
  refine t_putC F e_X7_begin_38 fp_X7_48 (fun _ => o3) h7770 hk rfl ⟨0, (show 0 ≤ 1 by omega), rfl⟩ (by decide) rfl (by decide) (fun σ7775 h7776 g7777 g7778 f7779 => ?_)
  have tq7780 := tq7774.keep (g7777 r7757 (kdn k7758 hk (by decide)))
  refine m_aload_n F rfl e_X7_begin_41 ?_
  refine m_iconst F (v := 0) (by decide) e_X7_begin_42 ?_
  refine t_putC F e_X7_begin_43 fp_X7_52 (fun _ => o3) h7776 hk rfl ⟨_, rfl⟩ rfl rfl (by decide) (fun σ7781 h7782 g7783 g7784 f7785 => ?_)
  have tq7786 := tq7780.keep (g7783 r7757 (kdn k7758 hk (by decide)))
  refine m_aload_n F rfl e_X7_begin_46 ?_
  refine m_iconst F (v := 0) (by decide) e_X7_begin_47 ?_
  refine t_putC F e_X7_begin_48 fp_X7_55 (fun _ => o3) h7782 hk rfl ⟨_, (fun e => absurd e (show ¬ (1 : Nat) = 0 by decide)), rfl⟩ rfl rfl (by decide) (fun σ7787 h7788 g7789 g7790 f7791 => ?_)
  have tq7792 := tq7786.keep (g7789 r7757 (kdn k7758 hk (by decide)))
  refine m_aload_n F rfl e_X7_begin_51 ?_
  refine m_iconst F (v := (-1)) (by decide) e_X7_begin_52 ?_
  refine t_putC F e_X7_begin_53 fp_X7_15 (fun _ => o3) h7788 hk rfl ⟨_, rfl⟩ rfl rfl (by decide) (fun σ7793 h7794 g7795 g7796 f7797 => ?_)
  have tq7798 := tq7792.keep (g7795 r7757 (kdn k7758 hk (by decide)))
  obtain ⟨_, ⟨y5, rfl⟩, fy5⟩ := HK.f (j := 5) h7794 (fun _ => o3) hk rfl
  obtain ⟨_, ⟨y6, rfl⟩, fy6⟩ := HK.f (j := 6) h7794 (fun _ => o3) hk rfl
  obtain ⟨_, ⟨y7, rfl⟩, fy7⟩ := HK.f (j := 7) h7794 (fun _ => o3) hk rfl
  obtain ⟨s5, rfl⟩ := nI_surj y5
  exact m_vret F hQ e_X7_begin_56 (⟨h7794, r7744, r7757, s5, y6, y7, k7745, k7758, ⟨((g7796 0 (by decide)).trans ((g7790 0 (by decide)).trans ((g7784 0 (by decide)).trans ((g7778 0 (by decide)).trans ((g7772 0 (by decide)).trans ((g7766 0 (by decide)).trans ((fld_eq (h7760.2 a (by rw [show kA _ a = 3 from hk]; decide))).trans ((g7754 0 (by decide)).trans ((g7749 0 (by decide)).trans f7743))))))))), ((g7796 1 (by decide)).trans ((g7790 1 (by decide)).trans ((g7784 1 (by decide)).trans ((g7778 1 (by decide)).trans ((g7772 1 (by decide)).trans ((g7766 1 (by decide)).trans ((fld_eq (h7760.2 a (by rw [show kA _ a = 3 from hk]; decide))).trans ((g7754 1 (by decide)).trans f7750)))))))), ((g7796 2 (by decide)).trans ((g7790 2 (by decide)).trans ((g7784 2 (by decide)).trans ((g7778 2 (by decide)).trans ((g7772 2 (by decide)).trans ((g7766 2 (by decide)).trans ((fld_eq (h7760.2 a (by rw [show kA _ a = 3 from hk]; decide))).trans f7755))))))), ((g7796 3 (by decide)).trans ((g7790 3 (by decide)).trans ((g7784 3 (by decide)).trans ((g7778 3 (by decide)).trans ((g7772 3 (by decide)).trans ((g7766 3 (by decide)).trans ((fld_eq (h7760.2 a (by rw [show kA _ a = 3 from hk]; decide))).trans f7756))))))), ((g7796 4 (by decide)).trans ((g7790 4 (by decide)).trans ((g7784 4 (by decide)).trans ((g7778 4 (by decide)).trans ((g7772 4 (by decide)).trans f7767))))), fy5, fy6, fy7, ((g7796 8 (by decide)).trans ((g7790 8 (by decide)).trans ((g7784 8 (by decide)).trans ((g7778 8 (by decide)).trans f7773)))), ((g7796 9 (by decide)).trans ((g7790 9 (by decide)).trans ((g7784 9 (by decide)).trans f7779))), ((g7796 10 (by decide)).trans ((g7790 10 (by decide)).trans f7785)), ((g7796 11 (by decide)).trans f7791), (f7797)⟩, tq7798, rfl⟩)
set_option maxRecDepth 20000 in
theorem s_X9_textE (l : Launch) (V : VX) (b M Z T N : Nat) (σ : Mem) (a : Nat) (x901 : Int32) (t : Nat → Nat) (h0 : HT V (b, M, Z, T) σ) (hk : kA b a = 1) (hp0 : T ≤ 700) (hBy : BY V σ (b + 1) T t) (hM : M + 0 ≤ 1000000000) : Ct l V yX9_text cX9_text 3 (some .int) 9 0 0 N σ [.ref a, .int x901] (fun r τ => ((x901 < 0 ∨ ∃ n : Nat, n ≤ 2147483647 ∧ x901 = nI n ∧ T < n) ∧ HK V (b, M, 1, T) [0, 2, 5, 8, 9, 13, 16] σ τ ∧ τ = σ ∧ r = some (.int (-2))) ∨ ∃ n : Nat, x901 = nI n ∧ n ≤ T ∧ HK V (b, M, 1, 0) [0, 2, 5, 8, 9, 13, 16] σ τ ∧ FT τ (b + 128) (ansO (textS (tok t n) 700 (S0 (tok t n)))).2.1 (ansO (textS (tok t n) 700 (S0 (tok t n)))).2.2 ∧ r = some (.int (ansO (textS (tok t n) 700 (S0 (tok t n)))).1)) := by
  refine Ct.of (by decide) (Nat.le_of_ble_eq_true rfl) [(0, .ref a), (1, .int x901)] rfl (fun X hX F hQ => ?_)
  have h1 : HK V (b, M, Z, T) [0, 2, 5, 8, 9, 13, 16] σ σ := HK.start h0
  refine m_iload_n F rfl e_X9_text_0 ?_
  refine m_if_lt F e_X9_text_1 (fun q1 => ?_) (fun q1 => ?_)
  · refine m_bipush F (v := (-2)) (by decide) e_X9_text_12 ?_
    exact m_iret F hQ e_X9_text_14 (Or.inl ⟨Or.inl q1, (h1.mono (M' := M) (Z' := 1) (Nat.le_refl _) (fun e => absurd e (by decide))), rfl, rfl⟩)
  · obtain ⟨n7799, hn7799, rfl⟩ := nI_nn (x := x901) (fun e => q1 (Int32.lt_of_lt_of_le e (by decide)))
    have c1 : n7799 ≥ 0 := by have hh := mt (nI_ltI (a := n7799) (b := 0) (by omega) (by omega)).mpr q1; omega
    refine m_iload_n F rfl e_X9_text_4 ?_
    refine m_aload_n F rfl e_X9_text_5 ?_
    refine t_get F e_X9_text_6 fl_X9_52 (fun _ => o1) h1 hk rfl (fun v hv f7800 => ?_)
    obtain rfl : v = .int (nI (T)) := hv
    refine m_icmp_le F e_X9_text_9 (fun q9 => ?_) (fun q9 => ?_)
    · have c9 : n7799 ≤ T := (nI_leI (a := n7799) (b := T) (by omega) (by omega)).mp q9
      refine m_aload_n F rfl e_X9_text_15 ?_
      refine t_get F e_X9_text_16 fl_X9_20 (fun _ => o1) h1 hk rfl (fun v hv f7801 => ?_)
      obtain ⟨r7802, k7803, rfl⟩ := hv
      refine m_astore_n F (lv' := [(2, .ref r7802), (0, .ref a), (1, .int (nI n7799))]) e_X9_text_19 (by decide) rfl ?_
      refine m_aload_n F rfl e_X9_text_20 ?_
      refine t_callV F e_X9_text_21 (s_X2_clearE (x_l X) V b M Z T _ _ r7802 h1.1 k7803 (by omega)) cb_X2_clear ml_X9_60 im_X2_clear se_X2_clear (fun _ => o7) h1 k7803 rfl rfl (rest := []) rfl (Nat.le_of_ble_eq_true rfl) ⟨Nat.le_of_ble_eq_true rfl, Nat.le_of_ble_eq_true rfl⟩ ⟨Nat.le_of_ble_eq_true rfl, Nat.le_of_ble_eq_true rfl⟩ (fun r σ7804 hp => ?_)
      obtain ⟨h7805, bx7807, rfl⟩ := hp
      have h7806 := HK.trans h1 h7805 (by decide)
      refine m_aload_n F rfl e_X9_text_24 ?_
      refine t_get F e_X9_text_25 fl_X9_28 (fun _ => o1) h7806 hk rfl (fun v hv f7808 => ?_)
      obtain ⟨r7809, k7810, rfl⟩ := hv
      refine m_iload_n F rfl e_X9_text_28 ?_
      refine m_aload_n F rfl e_X9_text_29 ?_
      refine t_callV F e_X9_text_30 (s_X7_beginE (x_l X) V b M Z T _ _ r7809 n7799 r7802 h7806.1 k7810 (by omega) k7803 (by omega)) cb_X7_begin ml_X9_63 im_X7_begin se_X7_begin (fun _ => o3) h7806 k7810 rfl rfl (rest := []) rfl (Nat.le_of_ble_eq_true rfl) ⟨Nat.le_of_ble_eq_true rfl, Nat.le_of_ble_eq_true rfl⟩ ⟨Nat.le_of_ble_eq_true rfl, Nat.le_of_ble_eq_true rfl⟩ (fun r σ7811 hp => ?_)
      obtain ⟨h7812, tp, td, st, tk, vl, htp, htd, hR, hTD, rfl⟩ := hp
      have bx7814 := bx7807.hk k7803 h7812 (by decide) (by decide) (by decide)
      have h7813 := HK.trans h7806 h7812 (by decide)
      refine m_aload_n F rfl e_X9_text_33 ?_
      refine t_getC F e_X9_text_34 fl_X9_28 (fun _ => o1) h7813 hk ((fld_eq (h7812.2 a (by rw [show kA _ a = 1 from hk]; decide))).trans f7808) ?_
      obtain rfl : tp = b + 1 := kA_2 htp
      refine t_callV F e_X9_text_37 (s_X7_readE (x_l X) V b M 1 T _ _ r7809 (b + 1) td n7799 r7802 0 st tk vl 0 0 0 0 (-1) t h7813.1 k7810 rfl rfl rfl rfl rfl rfl bx7814 hTD hR ((hBy.to (m2 := n7799) (by omega)).keep (h7813.2 (b + 1) (by rw [show kA _ (b + 1) = 2 from htp]; decide))) (by omega) (by omega) htp htd k7803 (by omega)) cb_X7_read ml_X9_67 im_X7_read se_X7_read (fun _ => o3) h7813 k7810 rfl rfl (rest := []) rfl (Nat.le_of_ble_eq_true rfl) ⟨Nat.le_of_ble_eq_true rfl, Nat.le_of_ble_eq_true rfl⟩ ⟨Nat.le_of_ble_eq_true rfl, Nat.le_of_ble_eq_true rfl⟩ (fun r σ7815 hp => ?_)
      obtain ⟨h7816, rs7818, rfl⟩ := hp
      have h7817 := HK.trans h7813 h7816 (by decide)
      cases eo7819 : textS (tok t n7799) 700 (S0 (tok t n7799)) with
      | inl e8 =>
        rw [eo7819] at rs7818
        obtain ⟨⟨f11, f12⟩, c1, c2, c3⟩ := rs7818
        refine m_aload_n F rfl e_X9_text_40 ?_
        refine m_iconst F (v := 0) (by decide) e_X9_text_41 ?_
        refine t_putT F (T' := 0) e_X9_text_42 fp_X9_52 h7817 hk (by decide) (fun σ7820 h7821 g7822 g7823 f7824 => ?_)
        refine m_aload_n F rfl e_X9_text_45 ?_
        refine t_getC F e_X9_text_46 fl_X9_28 (fun _ => o1) h7821 hk ((g7823 4 (by decide)).trans ((fld_eq (h7816.2 a (by rw [show kA _ a = 1 from hk]; decide))).trans ((fld_eq (h7812.2 a (by rw [show kA _ a = 1 from hk]; decide))).trans f7808))) ?_
        refine t_getC F e_X9_text_49 fl_X9_70 (fun _ => o3) h7821 k7810 ((g7822 r7809 11 (fun e => absurd ((k7810).symm.trans e) (by decide))).trans f11) ?_
        refine m_if_eq F e_X9_text_52 (fun q52 => ?_) (fun q52 => ?_)
        · have c52 : e8.1 = 0 := (nI_eq (a := e8.1) (b := 0) (by omega) (by omega)).mp q52
          exfalso; omega
        · have c52 : e8.1 ≠ 0 := by have hh := mt (nI_eq (a := e8.1) (b := 0) (by omega) (by omega)).mpr q52; omega
          refine m_iconst F (v := (-1)) (by decide) e_X9_text_55 ?_
          have erd : r7809 = b + 128 := kA_3 k7810
          exact m_iret F hQ e_X9_text_56 (Or.inr ⟨n7799, rfl, by omega, h7821, (by rw [eo7819, ← erd]; exact ⟨(g7822 r7809 11 (fun e => absurd ((k7810).symm.trans e) (by decide))).trans f11, (g7822 r7809 12 (fun e => absurd ((k7810).symm.trans e) (by decide))).trans f12⟩), (by rw [eo7819]; rfl)⟩)
      | inr S8 =>
        rw [eo7819] at rs7818
        obtain ⟨k8, nl8, nm8, np8, nc8, lc8, no8, sd8, md8, ln8⟩ := S8
        obtain ⟨tk8, vl8, ct8, ⟨rd7825, rd7826, rd7827, rd7828, rd7829, rd7830, rd7831, rd7832, rd7833, rd7834, rd7835, rd7836, rd7837⟩, bx8, td8, c1, c2, c3, c4⟩ := rs7818
        refine m_aload_n F rfl e_X9_text_40 ?_
        refine m_iconst F (v := 0) (by decide) e_X9_text_41 ?_
        refine t_putT F (T' := 0) e_X9_text_42 fp_X9_52 h7817 hk (by decide) (fun σ7838 h7839 g7840 g7841 f7842 => ?_)
        refine m_aload_n F rfl e_X9_text_45 ?_
        refine t_getC F e_X9_text_46 fl_X9_28 (fun _ => o1) h7839 hk ((g7841 4 (by decide)).trans ((fld_eq (h7816.2 a (by rw [show kA _ a = 1 from hk]; decide))).trans ((fld_eq (h7812.2 a (by rw [show kA _ a = 1 from hk]; decide))).trans f7808))) ?_
        refine t_getC F e_X9_text_49 fl_X9_70 (fun _ => o3) h7839 k7810 ((g7840 r7809 11 (fun e => absurd ((k7810).symm.trans e) (by decide))).trans rd7836) ?_
        refine m_if_eq F e_X9_text_52 (fun _ => ?_) (fun q => absurd (by decide) q)
        refine m_aload_n F rfl e_X9_text_57 ?_
        refine m_aload_n F rfl e_X9_text_58 ?_
        refine t_get F e_X9_text_59 fl_X9_42 (fun _ => o1) h7839 hk rfl (fun v hv f7843 => ?_)
        obtain ⟨r7844, k7845, rfl⟩ := hv
        refine t_callV F e_X9_text_62 (s_X2_findRates (x_l X) V b M 1 0 _ _ r7802 r7844 h7839.1 k7803 k7845 (by omega)) cb_X2_findRates ml_X9_73 im_X2_findRates se_X2_findRates (fun _ => o7) h7839 k7803 rfl rfl (rest := []) rfl (Nat.le_of_ble_eq_true rfl) ⟨Nat.le_of_ble_eq_true rfl, Nat.le_of_ble_eq_true rfl⟩ ⟨Nat.le_of_ble_eq_true rfl, Nat.le_of_ble_eq_true rfl⟩ (fun r σ7846 hp => ?_)
        obtain ⟨h7848, rfl⟩ := hp
        have h7847 := HK.trans h7839 h7848 (by decide)
        refine m_aload_n F rfl e_X9_text_65 ?_
        refine m_aload_n F rfl e_X9_text_66 ?_
        refine t_get F e_X9_text_67 fl_X9_16 (fun _ => o1) h7847 hk rfl (fun v hv f7849 => ?_)
        obtain ⟨r7850, k7851, rfl⟩ := hv
        refine t_put F e_X9_text_70 fp_X9_20 (fun _ => o1) h7847 hk rfl ⟨_, k7851, rfl⟩ rfl rfl (by decide) (fun σ7852 h7853 g7854 g7855 f7856 => ?_)
        refine m_aload_n F rfl e_X9_text_73 ?_
        refine m_aload_n F rfl e_X9_text_74 ?_
        refine t_put F e_X9_text_75 fp_X9_16 (fun _ => o1) h7853 hk rfl ⟨_, k7803, rfl⟩ rfl rfl (by decide) (fun σ7857 h7858 g7859 g7860 f7861 => ?_)
        refine m_aload_n F rfl e_X9_text_78 ?_
        refine m_iconst F (v := 0) (by decide) e_X9_text_79 ?_
        refine t_put F e_X9_text_80 fp_X9_77 (fun _ => o1) h7858 hk rfl ⟨0, (show 0 ≤ 1 by omega), rfl⟩ (by decide) rfl (by decide) (fun σ7862 h7863 g7864 g7865 f7866 => ?_)
        refine m_aload_n F rfl e_X9_text_83 ?_
        refine t_callV F e_X9_text_84 (s_X9_forgetPast (x_l X) V b M 1 0 _ _ a  h7863.1 hk  (by omega)) cb_X9_forgetPast ml_X9_81 im_X9_forgetPast se_X9_forgetPast (fun _ => o1) h7863 hk rfl rfl (rest := []) rfl (Nat.le_of_ble_eq_true rfl) ⟨Nat.le_of_ble_eq_true rfl, Nat.le_of_ble_eq_true rfl⟩ ⟨Nat.le_of_ble_eq_true rfl, Nat.le_of_ble_eq_true rfl⟩ (fun r σ7867 hp => ?_)
        obtain ⟨h7869, rfl⟩ := hp
        have h7868 := HK.trans h7863 h7869 (by decide)
        refine m_aload_n F rfl e_X9_text_87 ?_
        refine t_get F e_X9_text_88 fl_X9_28 (fun _ => o1) h7868 hk rfl (fun v hv f7870 => ?_)
        obtain ⟨r7871, k7872, rfl⟩ := hv
        obtain rfl : r7809 = r7871 := (kA_3 k7810).trans (kA_3 k7872).symm
        refine t_getC F e_X9_text_91 fl_X9_84 (fun _ => o3) h7868 k7810 ((fld_eq (h7869.2 r7809 (by rw [show kA _ r7809 = 3 from k7810]; decide))).trans ((g7864 r7809 10 (fun e => absurd ((k7810).symm.trans e) (by decide))).trans ((g7859 r7809 10 (fun e => absurd ((k7810).symm.trans e) (by decide))).trans ((g7854 r7809 10 (fun e => absurd ((k7810).symm.trans e) (by decide))).trans ((fld_eq (h7848.2 r7809 (by rw [show kA _ r7809 = 3 from k7810]; decide))).trans ((g7840 r7809 10 (fun e => absurd ((k7810).symm.trans e) (by decide))).trans rd7835)))))) ?_
        have erd : r7809 = b + 128 := kA_3 k7810
        exact m_iret F hQ e_X9_text_94 (Or.inr ⟨n7799, rfl, by omega, h7868, (by rw [eo7819, ← erd]; exact ⟨(fld_eq (h7869.2 r7809 (by rw [show kA _ r7809 = 3 from k7810]; decide))).trans ((g7864 r7809 11 (fun e => absurd ((k7810).symm.trans e) (by decide))).trans ((g7859 r7809 11 (fun e => absurd ((k7810).symm.trans e) (by decide))).trans ((g7854 r7809 11 (fun e => absurd ((k7810).symm.trans e) (by decide))).trans ((fld_eq (h7848.2 r7809 (by rw [show kA _ r7809 = 3 from k7810]; decide))).trans ((g7840 r7809 11 (fun e => absurd ((k7810).symm.trans e) (by decide))).trans rd7836))))), (fld_eq (h7869.2 r7809 (by rw [show kA _ r7809 = 3 from k7810]; decide))).trans ((g7864 r7809 12 (fun e => absurd ((k7810).symm.trans e) (by decide))).trans ((g7859 r7809 12 (fun e => absurd ((k7810).symm.trans e) (by decide))).trans ((g7854 r7809 12 (fun e => absurd ((k7810).symm.trans e) (by decide))).trans ((fld_eq (h7848.2 r7809 (by rw [show kA _ r7809 = 3 from k7810]; decide))).trans ((g7840 r7809 12 (fun e => absurd ((k7810).symm.trans e) (by decide))).trans rd7837)))))⟩), (by rw [eo7819]; rfl)⟩)
    · have c9 : n7799 > T := by have hh := mt (nI_leI (a := n7799) (b := T) (by omega) (by omega)).mpr q9; omega
      refine m_bipush F (v := (-2)) (by decide) e_X9_text_12 ?_
      exact m_iret F hQ e_X9_text_14 (Or.inl ⟨Or.inr ⟨n7799, by omega, rfl, by omega⟩, (h1.mono (M' := M) (Z' := 1) (Nat.le_refl _) (fun e => absurd e (by decide))), rfl, rfl⟩)
