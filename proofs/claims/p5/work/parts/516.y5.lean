set_option maxRecDepth 20000 in
theorem q_X10_readMark1E (l : Launch) (V : VX) (c T Z u h : Nat) (P : NP) (L : Nat → LQ) (N : Nat) (σ : Mem) (n st : Nat) (so va : Int32) (ln : Nat) (fp : Int32) (t : Nat → Nat) (s9 v9 : Nat) (nm : Nat → Nat) (np lc no sd : Nat) (md : Nat → Nat → Bool) (h0 : HR V c ⟨T, Z, u, h, P, L⟩ σ) (hob : OKB L) (hP : OKP P) (hp0 : YD σ c n st so va ln 0 fp) (hp1 : BR σ c n t) (hp2 : n ≤ 700) (hp3 : P.a ≤ n) (hp4 : MT so va s9 v9) (hp5 : st ≤ n) (hp6 : NR σ c np no sd) (hp7 : MR σ c P.n5 nm) (hp8 : KR σ c P.n5 md) (hp9 : FR σ c 8 1 P.n5 md) (hp10 : FR σ c 9 2 P.n5 md) (hp11 : QR σ c P.n7 lc) (hp12 : np ≤ 12) (hp13 : no ≤ 4) (hp14 : sd ≤ 1) : Ct l V yX10_readMark cX10_readMark 3 none 8 0 0 N σ [.ref c, .int 1] (fun r τ => ∃ P9 : NP, OKP P9 ∧ RP P P9 ∧ RM τ c n P9 (earlyS (tok t n) (st, s9, v9, P.a) P.n5 nm np P.n7 lc no sd md ln) ∧ HS V c (⟨T, Z, u, h, P9, L⟩ : RG) [0, 2, 3, 4, 5, 6, 7, 9, 10, 11, 12, 13, 14, 15, 16, 17, 18, 19, 20, 21, 22, 23] σ τ ∧ r = none) := by
  refine Ct.of (by decide) (Nat.le_of_ble_eq_true rfl) [(0, .ref c), (1, .int 1)] rfl (fun X hX F hQ => ?_)
  have hPP := hP
  unfold OKP at hPP
  have h1 : HS V c ⟨T, Z, u, h, P, L⟩ [0, 2, 3, 4, 5, 6, 7, 9, 10, 11, 12, 13, 14, 15, 16, 17, 18, 19, 20, 21, 22, 23] σ σ := HS.start h0
  have hyd11763 := hp0
  obtain ⟨yd11763, yd11764, yd11765, yd11766, yd11767, yd11768, yd11769⟩ := hyd11763
  have hn7 := hp2
  refine m_aload_n F rfl e_X10_readMark_0 ?_
  refine r_callV F e_X10_readMark_1 (q_X10_atHandE (x_l X) V c T Z u h P L _ _  n st so va ln fp t nm h1.1 (hob) hP  ⟨(yd11763), (yd11764), (yd11765), (yd11766), (yd11767), (yd11768), (yd11769)⟩ hp1 hn7 (by omega) hp7) cb_X10_atHand ml_X10_174 im_X10_atHand se_X10_atHand h1 rfl rfl (rest := []) rfl (Nat.le_of_ble_eq_true rfl) ⟨Nat.le_of_ble_eq_true rfl, Nat.le_of_ble_eq_true rfl⟩ ⟨Nat.le_of_ble_eq_true rfl, Nat.le_of_ble_eq_true rfl⟩ (fun r σ11770 hp => ?_)
  obtain ⟨P11773, oP11773, rP11773, pr11774, h11771, hp⟩ := hp
  have h11772 := HS.trans h1 h11771 (by decide)
  have xP11773 := oP11773
  unfold OKP at xP11773
  unfold RA at rP11773
  have ga11775 := hp1.of (h11771.2 (c + 1) (by rw [kC_at (k := 1) (by decide)]; decide))
  have ga11776 := hp6.of (h11771.2 (c + 2) (by rw [kC_at (k := 2) (by decide)]; decide))
  have ga11777 := hp7.of (h11771.2 (c + 3) (by rw [kC_at (k := 3) (by decide)]; decide))
  have ga11778 := hp8.of (h11771.2 (c + 7) (by rw [kC_at (k := 7) (by decide)]; decide))
  have ga11779 := hp9.of (h11771.2 (c + 8) (by rw [kC_at (k := 8) (by decide)]; decide))
  have ga11780 := hp10.of (h11771.2 (c + 9) (by rw [kC_at (k := 9) (by decide)]; decide))
  have ga11781 := hp11.of (h11771.2 (c + 11) (by rw [kC_at (k := 11) (by decide)]; decide))
  have bk11791 := tok_ok (t := t) (n := n) P.a (by omega)
  generalize ek11791 : tok t n P.a = k11791 at pr11774 bk11791
  rcases pr11774 with ⟨e11782, e11783, ea11784, ⟨so11785, va11786, mt11787, yd11788⟩, rfl⟩ | ⟨e11782, ⟨fa11789, fb11790⟩, rfl⟩ | ⟨e11782, e11783, ⟨fa11789, fb11790⟩, rfl⟩
  · have hyd11792 := yd11788
    obtain ⟨yd11792, yd11793, yd11794, yd11795, yd11796, yd11797, yd11798⟩ := hyd11792
    refine m_istore_n F (lv' := [(2, .int (nI (4 + fx nm k11791.2.2.1 P.n5))), (0, .ref c), (1, .int 1)]) e_X10_readMark_4 (by decide) rfl ?_
    refine m_aload_n F rfl e_X10_readMark_5 ?_
    refine r_getC F e_X10_readMark_6 fl_X10_141 h11772 (yd11797) ?_
    refine m_if_ne F e_X10_readMark_9 (fun q => absurd (by decide) q) (fun _ => ?_)
    refine m_aload_n F rfl e_X10_readMark_12 ?_
    refine r_get F e_X10_readMark_13 fl_X10_28 h11772 rfl (fun v hv f11799 => ?_)
    obtain rfl : v = .ref (c + 7) := hv
    refine m_iload_n F rfl e_X10_readMark_16 ?_
    refine r_iald F (len := 8) (j := 4 + fx nm k11791.2.2.1 P.n5) e_X10_readMark_17 h11772 (fun _ h => h) (by decide) (nI_clamp (by omega)) (vp_in_nI (by omega) (by decide)) (fun x11800 h11801 f11802 => ?_)
    obtain rfl := Option.some.inj ((f11802).symm.trans (ga11778 (fx nm k11791.2.2.1 P.n5) e11783))
    refine m_iload_n F rfl e_X10_readMark_18 ?_
    refine m_iand F e_X10_readMark_19 ?_
    refine m_if_eq F e_X10_readMark_20 (fun q20 => ?_) (fun q20 => ?_)
    · have e3 : md (fx nm k11791.2.2.1 P.n5) 0 = false := mk2_and.1.mp q20
      refine m_aload_n F rfl e_X10_readMark_28 ?_
      refine r_getC F e_X10_readMark_29 fl_X10_141 h11772 (yd11797) ?_
      refine m_if_ne F e_X10_readMark_32 (fun q => absurd (by decide) q) (fun _ => ?_)
      refine m_aload_n F rfl e_X10_readMark_35 ?_
      refine r_getC F e_X10_readMark_36 fl_X10_28 h11772 (f11799) ?_
      refine m_iload_n F rfl e_X10_readMark_39 ?_
      refine m_dup2_11 F rfl rfl e_X10_readMark_40 ?_
      refine r_iald F (len := 8) (j := 4 + fx nm k11791.2.2.1 P.n5) e_X10_readMark_41 h11772 (fun _ h => h) (by decide) (nI_clamp (by omega)) (vp_in_nI (by omega) (by decide)) (fun x11803 h11804 f11805 => ?_)
      obtain rfl := Option.some.inj ((f11805).symm.trans (ga11778 (fx nm k11791.2.2.1 P.n5) e11783))
      refine m_iload_n F rfl e_X10_readMark_42 ?_
      refine m_ior F e_X10_readMark_43 ?_
      refine Wm.topE (w := nI (mk2 (fun j => if j = 0 then true else md (fx nm k11791.2.2.1 P.n5) j))) mk2_or.1 ?_
      refine r_iast F (g' := (⟨T, Z, u, h, P11773, L⟩ : RG)) (len := 8) (j := 4 + fx nm k11791.2.2.1 P.n5) e_X10_readMark_44 h11772 (fun _ h => h) (fun f h => ⟨f, rfl, h⟩) (by decide) (by decide) (nI_clamp (by omega)) (vp_in_nI (by omega) (by decide)) trivial (fun _ _ _ h => h) (fun _ _ _ h => h) (fun σ11806 h11807 g11808 f11809 g11810 => ?_)
      have ga11811 := ga11775.of (g11808 _ (by omega))
      have ga11812 := ga11776.of (g11808 _ (by omega))
      have ga11813 := ga11777.of (g11808 _ (by omega))
      have ga11814 := ga11779.of (g11808 _ (by omega))
      have ga11815 := ga11780.of (g11808 _ (by omega))
      have ga11816 := ga11781.of (g11808 _ (by omega))
      have ga11818 := FR.upbL (l := fx nm k11791.2.2.1 P.n5) (b' := 0) ga11814 (by decide)
      have ga11819 := FR.upbL (l := fx nm k11791.2.2.1 P.n5) (b' := 0) ga11815 (by decide)
      have ga11817 := KR.put (b := 0) ga11778 f11809 g11810
      refine m_aload_n F rfl e_X10_readMark_45 ?_
      refine r_callV F e_X10_readMark_46 (q_X10_goOnE (x_l X) V c T Z u h P11773 L _ _  n k11791.1 so11785 va11786 ln fp t h11807.1 (hob) oP11773  ⟨((fld_eq (g11808 _ (by omega))).trans yd11792), ((fld_eq (g11808 _ (by omega))).trans yd11793), ((fld_eq (g11808 _ (by omega))).trans yd11794), ((fld_eq (g11808 _ (by omega))).trans yd11795), ((fld_eq (g11808 _ (by omega))).trans yd11796), ((fld_eq (g11808 _ (by omega))).trans yd11797), ((fld_eq (g11808 _ (by omega))).trans yd11798)⟩ ga11811 hn7 (by omega)) cb_X10_goOn ml_X10_154 im_X10_goOn se_X10_goOn h11807 rfl rfl (rest := []) rfl (Nat.le_of_ble_eq_true rfl) ⟨Nat.le_of_ble_eq_true rfl, Nat.le_of_ble_eq_true rfl⟩ ⟨Nat.le_of_ble_eq_true rfl, Nat.le_of_ble_eq_true rfl⟩ (fun r σ11820 hp => ?_)
      obtain ⟨P11823, oP11823, rP11823, pr11824, pr11825, h11821, hp⟩ := hp
      have h11822 := HS.trans h11807 h11821 (by decide)
      have xP11823 := oP11823
      unfold OKP at xP11823
      unfold RA at rP11823
      have ga11826 := ga11811.of (h11821.2 (c + 1) (by rw [kC_at (k := 1) (by decide)]; decide))
      have ga11827 := ga11812.of (h11821.2 (c + 2) (by rw [kC_at (k := 2) (by decide)]; decide))
      have ga11828 := ga11813.of (h11821.2 (c + 3) (by rw [kC_at (k := 3) (by decide)]; decide))
      have ga11829 := ga11818.of (h11821.2 (c + 8) (by rw [kC_at (k := 8) (by decide)]; decide))
      have ga11830 := ga11819.of (h11821.2 (c + 9) (by rw [kC_at (k := 9) (by decide)]; decide))
      have ga11831 := ga11816.of (h11821.2 (c + 11) (by rw [kC_at (k := 11) (by decide)]; decide))
      have ga11832 := ga11817.of (h11821.2 (c + 7) (by rw [kC_at (k := 7) (by decide)]; decide))
      obtain rfl := hp
      obtain ⟨so11833, va11834, mt11835, yd11836⟩ := pr11825
      generalize ek11837 : tok t n P11773.a = k11837 at pr11824 mt11835 yd11836
      have bk11837 := tok_ok (t := t) (n := n) P11773.a (by omega)
      rw [ek11837] at bk11837
      rw [show P11773.a = k11791.2.2.2 by omega] at ek11837
      have hyd11838 := yd11836
      obtain ⟨yd11838, yd11839, yd11840, yd11841, yd11842, yd11843, yd11844⟩ := hyd11838
      exact m_vret F hQ e_X10_readMark_49 (⟨P11823, oP11823, (by unfold RP; omega), (by unfold earlyS; dsimp only; rw [ek11791, oncK_ok e11782 e11783 e3, ek11837]; exact RM.r mt11835 ⟨(yd11838), (yd11839), (yd11840), (yd11841), (yd11842), (yd11843), (yd11844)⟩ (by omega) (by omega) (by omega) ga11827 ga11828 ga11832 ga11829 ga11830 ga11831 (by omega) (by omega) (by omega) (by omega) (by omega)), h11822, rfl⟩)
    · have e3 : md (fx nm k11791.2.2.1 P.n5) 0 = true := by cases hmd : md (fx nm k11791.2.2.1 P.n5) 0 with | true => rfl | false => exact absurd (mk2_and.1.mpr hmd) q20
      refine m_aload_n F rfl e_X10_readMark_23 ?_
      refine m_iconst F (v := 3) (by decide) e_X10_readMark_24 ?_
      refine r_callV F e_X10_readMark_25 (q_X10_wrongE (x_l X) V c T Z u h P11773 L _ _ 3 n k11791.1 so11785 va11786 ln fp h11772.1 (hob) oP11773 (by omega) ⟨(yd11792), (yd11793), (yd11794), (yd11795), (yd11796), (yd11797), (yd11798)⟩ (by decide)) cb_X10_wrong ml_X10_150 im_X10_wrong se_X10_wrong h11772 rfl rfl (rest := []) rfl (Nat.le_of_ble_eq_true rfl) ⟨Nat.le_of_ble_eq_true rfl, Nat.le_of_ble_eq_true rfl⟩ ⟨Nat.le_of_ble_eq_true rfl, Nat.le_of_ble_eq_true rfl⟩ (fun r σ11845 hp => ?_)
      obtain ⟨h11846, hp⟩ := hp
      have h11847 := HS.trans h11772 h11846 (by decide)
      have ga11848 := ga11775.of (h11846.2 (c + 1) (by rw [kC_at (k := 1) (by decide)]; decide))
      have ga11849 := ga11776.of (h11846.2 (c + 2) (by rw [kC_at (k := 2) (by decide)]; decide))
      have ga11850 := ga11777.of (h11846.2 (c + 3) (by rw [kC_at (k := 3) (by decide)]; decide))
      have ga11851 := ga11778.of (h11846.2 (c + 7) (by rw [kC_at (k := 7) (by decide)]; decide))
      have ga11852 := ga11779.of (h11846.2 (c + 8) (by rw [kC_at (k := 8) (by decide)]; decide))
      have ga11853 := ga11780.of (h11846.2 (c + 9) (by rw [kC_at (k := 9) (by decide)]; decide))
      have ga11854 := ga11781.of (h11846.2 (c + 11) (by rw [kC_at (k := 11) (by decide)]; decide))
      obtain ⟨hp, rfl⟩ := hp
      have hyd11855 := hp
      obtain ⟨yd11855, yd11856, yd11857, yd11858, yd11859, yd11860, yd11861⟩ := hyd11855
      refine m_aload_n F rfl e_X10_readMark_28 ?_
      refine r_getC F e_X10_readMark_29 fl_X10_141 h11847 (yd11860) ?_
      refine m_if_ne F e_X10_readMark_32 (fun _ => ?_) (fun q => absurd q (by decide))
      refine m_aload_n F rfl e_X10_readMark_45 ?_
      refine r_callV F e_X10_readMark_46 (q_X10_goOnG (x_l X) V c T 0 u h P11773 L _ _  3 h11847.1 (hob) oP11773  (yd11860) (by decide)) cb_X10_goOn ml_X10_154 im_X10_goOn se_X10_goOn h11847 rfl rfl (rest := []) rfl (Nat.le_of_ble_eq_true rfl) ⟨Nat.le_of_ble_eq_true rfl, Nat.le_of_ble_eq_true rfl⟩ ⟨Nat.le_of_ble_eq_true rfl, Nat.le_of_ble_eq_true rfl⟩ (fun r σ11862 hp => ?_)
      obtain ⟨h11863, hp⟩ := hp
      have h11864 := HS.trans h11847 h11863 (by decide)
      have ga11865 := ga11848.of (h11863.2 (c + 1) (by rw [kC_at (k := 1) (by decide)]; decide))
      have ga11866 := ga11849.of (h11863.2 (c + 2) (by rw [kC_at (k := 2) (by decide)]; decide))
      have ga11867 := ga11850.of (h11863.2 (c + 3) (by rw [kC_at (k := 3) (by decide)]; decide))
      have ga11868 := ga11851.of (h11863.2 (c + 7) (by rw [kC_at (k := 7) (by decide)]; decide))
      have ga11869 := ga11852.of (h11863.2 (c + 8) (by rw [kC_at (k := 8) (by decide)]; decide))
      have ga11870 := ga11853.of (h11863.2 (c + 9) (by rw [kC_at (k := 9) (by decide)]; decide))
      have ga11871 := ga11854.of (h11863.2 (c + 11) (by rw [kC_at (k := 11) (by decide)]; decide))
      obtain ⟨rfl, rfl⟩ := hp
      have h11872 : HS V c _ [0, 2, 3, 4, 5, 6, 7, 9, 10, 11, 12, 13, 14, 15, 16, 17, 18, 19, 20, 21, 22, 23] _ _ := ⟨HR.mono (Z' := Z) (by intro e; first | rfl | assumption | omega) h11864.1, h11864.2⟩
      exact m_vret F hQ e_X10_readMark_49 (⟨P11773, oP11773, (by unfold RP; omega), (by unfold earlyS; dsimp only; rw [ek11791, oncK_3 e11782 e11783 e3]; exact RM.l (yd11860) (yd11861) (by decide) (by decide) (by omega)), h11872, rfl⟩)
  · have hz9 : True := trivial
    refine m_istore_n F (lv' := [(2, .int (nI 4)), (0, .ref c), (1, .int 1)]) e_X10_readMark_4 (by decide) rfl ?_
    refine m_aload_n F rfl e_X10_readMark_5 ?_
    refine r_getC F e_X10_readMark_6 fl_X10_141 h11772 (fa11789) ?_
    refine m_if_ne F e_X10_readMark_9 (fun _ => ?_) (fun q => absurd q (by decide))
    refine m_aload_n F rfl e_X10_readMark_28 ?_
    refine r_getC F e_X10_readMark_29 fl_X10_141 h11772 (fa11789) ?_
    refine m_if_ne F e_X10_readMark_32 (fun _ => ?_) (fun q => absurd q (by decide))
    refine m_aload_n F rfl e_X10_readMark_45 ?_
    refine r_callV F e_X10_readMark_46 (q_X10_goOnG (x_l X) V c T Z u h P11773 L _ _  1 h11772.1 (hob) oP11773  (fa11789) (by decide)) cb_X10_goOn ml_X10_154 im_X10_goOn se_X10_goOn h11772 rfl rfl (rest := []) rfl (Nat.le_of_ble_eq_true rfl) ⟨Nat.le_of_ble_eq_true rfl, Nat.le_of_ble_eq_true rfl⟩ ⟨Nat.le_of_ble_eq_true rfl, Nat.le_of_ble_eq_true rfl⟩ (fun r σ11873 hp => ?_)
    obtain ⟨h11874, hp⟩ := hp
    have h11875 := HS.trans h11772 h11874 (by decide)
    obtain ⟨rfl, rfl⟩ := hp
    exact m_vret F hQ e_X10_readMark_49 (⟨P11773, oP11773, (by unfold RP; omega), (by unfold earlyS; dsimp only; rw [ek11791, oncK_1 e11782]; exact RM.l (fa11789) (fb11790) (by decide) (by decide) (by omega)), h11875, rfl⟩)
  · have hz9 : True := trivial
    refine m_istore_n F (lv' := [(2, .int (nI 4)), (0, .ref c), (1, .int 1)]) e_X10_readMark_4 (by decide) rfl ?_
    refine m_aload_n F rfl e_X10_readMark_5 ?_
    refine r_getC F e_X10_readMark_6 fl_X10_141 h11772 (fa11789) ?_
    refine m_if_ne F e_X10_readMark_9 (fun _ => ?_) (fun q => absurd q (by decide))
    refine m_aload_n F rfl e_X10_readMark_28 ?_
    refine r_getC F e_X10_readMark_29 fl_X10_141 h11772 (fa11789) ?_
    refine m_if_ne F e_X10_readMark_32 (fun _ => ?_) (fun q => absurd q (by decide))
    refine m_aload_n F rfl e_X10_readMark_45 ?_
    refine r_callV F e_X10_readMark_46 (q_X10_goOnG (x_l X) V c T Z u h P11773 L _ _  4 h11772.1 (hob) oP11773  (fa11789) (by decide)) cb_X10_goOn ml_X10_154 im_X10_goOn se_X10_goOn h11772 rfl rfl (rest := []) rfl (Nat.le_of_ble_eq_true rfl) ⟨Nat.le_of_ble_eq_true rfl, Nat.le_of_ble_eq_true rfl⟩ ⟨Nat.le_of_ble_eq_true rfl, Nat.le_of_ble_eq_true rfl⟩ (fun r σ11876 hp => ?_)
    obtain ⟨h11877, hp⟩ := hp
    have h11878 := HS.trans h11772 h11877 (by decide)
    obtain ⟨rfl, rfl⟩ := hp
    exact m_vret F hQ e_X10_readMark_49 (⟨P11773, oP11773, (by unfold RP; omega), (by unfold earlyS; dsimp only; rw [ek11791, oncK_4 e11782 e11783]; exact RM.l (fa11789) (fb11790) (by decide) (by decide) (by omega)), h11878, rfl⟩)
set_option maxRecDepth 20000 in
theorem q_X10_readMark2E (l : Launch) (V : VX) (c T Z u h : Nat) (P : NP) (L : Nat → LQ) (N : Nat) (σ : Mem) (n st : Nat) (so va : Int32) (ln : Nat) (fp : Int32) (t : Nat → Nat) (s9 v9 : Nat) (nm : Nat → Nat) (np lc no sd : Nat) (md : Nat → Nat → Bool) (h0 : HR V c ⟨T, Z, u, h, P, L⟩ σ) (hob : OKB L) (hP : OKP P) (hp0 : YD σ c n st so va ln 0 fp) (hp1 : BR σ c n t) (hp2 : n ≤ 700) (hp3 : P.a ≤ n) (hp4 : MT so va s9 v9) (hp5 : st ≤ n) (hp6 : NR σ c np no sd) (hp7 : MR σ c P.n5 nm) (hp8 : KR σ c P.n5 md) (hp9 : FR σ c 8 1 P.n5 md) (hp10 : FR σ c 9 2 P.n5 md) (hp11 : QR σ c P.n7 lc) (hp12 : np ≤ 12) (hp13 : no ≤ 4) (hp14 : sd ≤ 1) : Ct l V yX10_readMark cX10_readMark 3 none 8 0 0 N σ [.ref c, .int 2] (fun r τ => ∃ P9 : NP, OKP P9 ∧ RP P P9 ∧ RM τ c n P9 (tiedS (tok t n) (st, s9, v9, P.a) P.n5 nm np P.n7 lc no sd md ln) ∧ HS V c (⟨T, Z, u, h, P9, L⟩ : RG) [0, 2, 3, 4, 5, 6, 7, 9, 10, 11, 12, 13, 14, 15, 16, 17, 18, 19, 20, 21, 22, 23] σ τ ∧ r = none) := by
  refine Ct.of (by decide) (Nat.le_of_ble_eq_true rfl) [(0, .ref c), (1, .int 2)] rfl (fun X hX F hQ => ?_)
  have hPP := hP
  unfold OKP at hPP
  have h1 : HS V c ⟨T, Z, u, h, P, L⟩ [0, 2, 3, 4, 5, 6, 7, 9, 10, 11, 12, 13, 14, 15, 16, 17, 18, 19, 20, 21, 22, 23] σ σ := HS.start h0
  have hyd11879 := hp0
  obtain ⟨yd11879, yd11880, yd11881, yd11882, yd11883, yd11884, yd11885⟩ := hyd11879
  have hn7 := hp2
  refine m_aload_n F rfl e_X10_readMark_0 ?_
  refine r_callV F e_X10_readMark_1 (q_X10_atHandE (x_l X) V c T Z u h P L _ _  n st so va ln fp t nm h1.1 (hob) hP  ⟨(yd11879), (yd11880), (yd11881), (yd11882), (yd11883), (yd11884), (yd11885)⟩ hp1 hn7 (by omega) hp7) cb_X10_atHand ml_X10_174 im_X10_atHand se_X10_atHand h1 rfl rfl (rest := []) rfl (Nat.le_of_ble_eq_true rfl) ⟨Nat.le_of_ble_eq_true rfl, Nat.le_of_ble_eq_true rfl⟩ ⟨Nat.le_of_ble_eq_true rfl, Nat.le_of_ble_eq_true rfl⟩ (fun r σ11886 hp => ?_)
  obtain ⟨P11889, oP11889, rP11889, pr11890, h11887, hp⟩ := hp
  have h11888 := HS.trans h1 h11887 (by decide)
  have xP11889 := oP11889
  unfold OKP at xP11889
  unfold RA at rP11889
  have ga11891 := hp1.of (h11887.2 (c + 1) (by rw [kC_at (k := 1) (by decide)]; decide))
  have ga11892 := hp6.of (h11887.2 (c + 2) (by rw [kC_at (k := 2) (by decide)]; decide))
  have ga11893 := hp7.of (h11887.2 (c + 3) (by rw [kC_at (k := 3) (by decide)]; decide))
  have ga11894 := hp8.of (h11887.2 (c + 7) (by rw [kC_at (k := 7) (by decide)]; decide))
  have ga11895 := hp9.of (h11887.2 (c + 8) (by rw [kC_at (k := 8) (by decide)]; decide))
  have ga11896 := hp10.of (h11887.2 (c + 9) (by rw [kC_at (k := 9) (by decide)]; decide))
  have ga11897 := hp11.of (h11887.2 (c + 11) (by rw [kC_at (k := 11) (by decide)]; decide))
  have bk11907 := tok_ok (t := t) (n := n) P.a (by omega)
  generalize ek11907 : tok t n P.a = k11907 at pr11890 bk11907
  rcases pr11890 with ⟨e11898, e11899, ea11900, ⟨so11901, va11902, mt11903, yd11904⟩, rfl⟩ | ⟨e11898, ⟨fa11905, fb11906⟩, rfl⟩ | ⟨e11898, e11899, ⟨fa11905, fb11906⟩, rfl⟩
  · have hyd11908 := yd11904
    obtain ⟨yd11908, yd11909, yd11910, yd11911, yd11912, yd11913, yd11914⟩ := hyd11908
    refine m_istore_n F (lv' := [(2, .int (nI (4 + fx nm k11907.2.2.1 P.n5))), (0, .ref c), (1, .int 2)]) e_X10_readMark_4 (by decide) rfl ?_
    refine m_aload_n F rfl e_X10_readMark_5 ?_
    refine r_getC F e_X10_readMark_6 fl_X10_141 h11888 (yd11913) ?_
    refine m_if_ne F e_X10_readMark_9 (fun q => absurd (by decide) q) (fun _ => ?_)
    refine m_aload_n F rfl e_X10_readMark_12 ?_
    refine r_get F e_X10_readMark_13 fl_X10_28 h11888 rfl (fun v hv f11915 => ?_)
    obtain rfl : v = .ref (c + 7) := hv
    refine m_iload_n F rfl e_X10_readMark_16 ?_
    refine r_iald F (len := 8) (j := 4 + fx nm k11907.2.2.1 P.n5) e_X10_readMark_17 h11888 (fun _ h => h) (by decide) (nI_clamp (by omega)) (vp_in_nI (by omega) (by decide)) (fun x11916 h11917 f11918 => ?_)
    obtain rfl := Option.some.inj ((f11918).symm.trans (ga11894 (fx nm k11907.2.2.1 P.n5) e11899))
    refine m_iload_n F rfl e_X10_readMark_18 ?_
    refine m_iand F e_X10_readMark_19 ?_
    refine m_if_eq F e_X10_readMark_20 (fun q20 => ?_) (fun q20 => ?_)
    · have e3 : md (fx nm k11907.2.2.1 P.n5) 3 = false := mk2_and.2.mp q20
      refine m_aload_n F rfl e_X10_readMark_28 ?_
      refine r_getC F e_X10_readMark_29 fl_X10_141 h11888 (yd11913) ?_
      refine m_if_ne F e_X10_readMark_32 (fun q => absurd (by decide) q) (fun _ => ?_)
      refine m_aload_n F rfl e_X10_readMark_35 ?_
      refine r_getC F e_X10_readMark_36 fl_X10_28 h11888 (f11915) ?_
      refine m_iload_n F rfl e_X10_readMark_39 ?_
      refine m_dup2_11 F rfl rfl e_X10_readMark_40 ?_
      refine r_iald F (len := 8) (j := 4 + fx nm k11907.2.2.1 P.n5) e_X10_readMark_41 h11888 (fun _ h => h) (by decide) (nI_clamp (by omega)) (vp_in_nI (by omega) (by decide)) (fun x11919 h11920 f11921 => ?_)
      obtain rfl := Option.some.inj ((f11921).symm.trans (ga11894 (fx nm k11907.2.2.1 P.n5) e11899))
      refine m_iload_n F rfl e_X10_readMark_42 ?_
      refine m_ior F e_X10_readMark_43 ?_
      refine Wm.topE (w := nI (mk2 (fun j => if j = 3 then true else md (fx nm k11907.2.2.1 P.n5) j))) mk2_or.2 ?_
      refine r_iast F (g' := (⟨T, Z, u, h, P11889, L⟩ : RG)) (len := 8) (j := 4 + fx nm k11907.2.2.1 P.n5) e_X10_readMark_44 h11888 (fun _ h => h) (fun f h => ⟨f, rfl, h⟩) (by decide) (by decide) (nI_clamp (by omega)) (vp_in_nI (by omega) (by decide)) trivial (fun _ _ _ h => h) (fun _ _ _ h => h) (fun σ11922 h11923 g11924 f11925 g11926 => ?_)
      have ga11927 := ga11891.of (g11924 _ (by omega))
      have ga11928 := ga11892.of (g11924 _ (by omega))
      have ga11929 := ga11893.of (g11924 _ (by omega))
      have ga11930 := ga11895.of (g11924 _ (by omega))
      have ga11931 := ga11896.of (g11924 _ (by omega))
      have ga11932 := ga11897.of (g11924 _ (by omega))
      have ga11934 := FR.upbL (l := fx nm k11907.2.2.1 P.n5) (b' := 3) ga11930 (by decide)
      have ga11935 := FR.upbL (l := fx nm k11907.2.2.1 P.n5) (b' := 3) ga11931 (by decide)
      have ga11933 := KR.put (b := 3) ga11894 f11925 g11926
      refine m_aload_n F rfl e_X10_readMark_45 ?_
      refine r_callV F e_X10_readMark_46 (q_X10_goOnE (x_l X) V c T Z u h P11889 L _ _  n k11907.1 so11901 va11902 ln fp t h11923.1 (hob) oP11889  ⟨((fld_eq (g11924 _ (by omega))).trans yd11908), ((fld_eq (g11924 _ (by omega))).trans yd11909), ((fld_eq (g11924 _ (by omega))).trans yd11910), ((fld_eq (g11924 _ (by omega))).trans yd11911), ((fld_eq (g11924 _ (by omega))).trans yd11912), ((fld_eq (g11924 _ (by omega))).trans yd11913), ((fld_eq (g11924 _ (by omega))).trans yd11914)⟩ ga11927 hn7 (by omega)) cb_X10_goOn ml_X10_154 im_X10_goOn se_X10_goOn h11923 rfl rfl (rest := []) rfl (Nat.le_of_ble_eq_true rfl) ⟨Nat.le_of_ble_eq_true rfl, Nat.le_of_ble_eq_true rfl⟩ ⟨Nat.le_of_ble_eq_true rfl, Nat.le_of_ble_eq_true rfl⟩ (fun r σ11936 hp => ?_)
      obtain ⟨P11939, oP11939, rP11939, pr11940, pr11941, h11937, hp⟩ := hp
      have h11938 := HS.trans h11923 h11937 (by decide)
      have xP11939 := oP11939
      unfold OKP at xP11939
      unfold RA at rP11939
      have ga11942 := ga11927.of (h11937.2 (c + 1) (by rw [kC_at (k := 1) (by decide)]; decide))
      have ga11943 := ga11928.of (h11937.2 (c + 2) (by rw [kC_at (k := 2) (by decide)]; decide))
      have ga11944 := ga11929.of (h11937.2 (c + 3) (by rw [kC_at (k := 3) (by decide)]; decide))
      have ga11945 := ga11934.of (h11937.2 (c + 8) (by rw [kC_at (k := 8) (by decide)]; decide))
      have ga11946 := ga11935.of (h11937.2 (c + 9) (by rw [kC_at (k := 9) (by decide)]; decide))
      have ga11947 := ga11932.of (h11937.2 (c + 11) (by rw [kC_at (k := 11) (by decide)]; decide))
      have ga11948 := ga11933.of (h11937.2 (c + 7) (by rw [kC_at (k := 7) (by decide)]; decide))
      obtain rfl := hp
      obtain ⟨so11949, va11950, mt11951, yd11952⟩ := pr11941
      generalize ek11953 : tok t n P11889.a = k11953 at pr11940 mt11951 yd11952
      have bk11953 := tok_ok (t := t) (n := n) P11889.a (by omega)
      rw [ek11953] at bk11953
      rw [show P11889.a = k11907.2.2.2 by omega] at ek11953
      have hyd11954 := yd11952
      obtain ⟨yd11954, yd11955, yd11956, yd11957, yd11958, yd11959, yd11960⟩ := hyd11954
      exact m_vret F hQ e_X10_readMark_49 (⟨P11939, oP11939, (by unfold RP; omega), (by unfold tiedS; dsimp only; rw [ek11907, oncK_ok e11898 e11899 e3, ek11953]; exact RM.r mt11951 ⟨(yd11954), (yd11955), (yd11956), (yd11957), (yd11958), (yd11959), (yd11960)⟩ (by omega) (by omega) (by omega) ga11943 ga11944 ga11948 ga11945 ga11946 ga11947 (by omega) (by omega) (by omega) (by omega) (by omega)), h11938, rfl⟩)
    · have e3 : md (fx nm k11907.2.2.1 P.n5) 3 = true := by cases hmd : md (fx nm k11907.2.2.1 P.n5) 3 with | true => rfl | false => exact absurd (mk2_and.2.mpr hmd) q20
      refine m_aload_n F rfl e_X10_readMark_23 ?_
      refine m_iconst F (v := 3) (by decide) e_X10_readMark_24 ?_
      refine r_callV F e_X10_readMark_25 (q_X10_wrongE (x_l X) V c T Z u h P11889 L _ _ 3 n k11907.1 so11901 va11902 ln fp h11888.1 (hob) oP11889 (by omega) ⟨(yd11908), (yd11909), (yd11910), (yd11911), (yd11912), (yd11913), (yd11914)⟩ (by decide)) cb_X10_wrong ml_X10_150 im_X10_wrong se_X10_wrong h11888 rfl rfl (rest := []) rfl (Nat.le_of_ble_eq_true rfl) ⟨Nat.le_of_ble_eq_true rfl, Nat.le_of_ble_eq_true rfl⟩ ⟨Nat.le_of_ble_eq_true rfl, Nat.le_of_ble_eq_true rfl⟩ (fun r σ11961 hp => ?_)
      obtain ⟨h11962, hp⟩ := hp
      have h11963 := HS.trans h11888 h11962 (by decide)
      have ga11964 := ga11891.of (h11962.2 (c + 1) (by rw [kC_at (k := 1) (by decide)]; decide))
      have ga11965 := ga11892.of (h11962.2 (c + 2) (by rw [kC_at (k := 2) (by decide)]; decide))
      have ga11966 := ga11893.of (h11962.2 (c + 3) (by rw [kC_at (k := 3) (by decide)]; decide))
      have ga11967 := ga11894.of (h11962.2 (c + 7) (by rw [kC_at (k := 7) (by decide)]; decide))
      have ga11968 := ga11895.of (h11962.2 (c + 8) (by rw [kC_at (k := 8) (by decide)]; decide))
      have ga11969 := ga11896.of (h11962.2 (c + 9) (by rw [kC_at (k := 9) (by decide)]; decide))
      have ga11970 := ga11897.of (h11962.2 (c + 11) (by rw [kC_at (k := 11) (by decide)]; decide))
      obtain ⟨hp, rfl⟩ := hp
      have hyd11971 := hp
      obtain ⟨yd11971, yd11972, yd11973, yd11974, yd11975, yd11976, yd11977⟩ := hyd11971
      refine m_aload_n F rfl e_X10_readMark_28 ?_
      refine r_getC F e_X10_readMark_29 fl_X10_141 h11963 (yd11976) ?_
      refine m_if_ne F e_X10_readMark_32 (fun _ => ?_) (fun q => absurd q (by decide))
      refine m_aload_n F rfl e_X10_readMark_45 ?_
      refine r_callV F e_X10_readMark_46 (q_X10_goOnG (x_l X) V c T 0 u h P11889 L _ _  3 h11963.1 (hob) oP11889  (yd11976) (by decide)) cb_X10_goOn ml_X10_154 im_X10_goOn se_X10_goOn h11963 rfl rfl (rest := []) rfl (Nat.le_of_ble_eq_true rfl) ⟨Nat.le_of_ble_eq_true rfl, Nat.le_of_ble_eq_true rfl⟩ ⟨Nat.le_of_ble_eq_true rfl, Nat.le_of_ble_eq_true rfl⟩ (fun r σ11978 hp => ?_)
      obtain ⟨h11979, hp⟩ := hp
      have h11980 := HS.trans h11963 h11979 (by decide)
      have ga11981 := ga11964.of (h11979.2 (c + 1) (by rw [kC_at (k := 1) (by decide)]; decide))
      have ga11982 := ga11965.of (h11979.2 (c + 2) (by rw [kC_at (k := 2) (by decide)]; decide))
      have ga11983 := ga11966.of (h11979.2 (c + 3) (by rw [kC_at (k := 3) (by decide)]; decide))
      have ga11984 := ga11967.of (h11979.2 (c + 7) (by rw [kC_at (k := 7) (by decide)]; decide))
      have ga11985 := ga11968.of (h11979.2 (c + 8) (by rw [kC_at (k := 8) (by decide)]; decide))
      have ga11986 := ga11969.of (h11979.2 (c + 9) (by rw [kC_at (k := 9) (by decide)]; decide))
      have ga11987 := ga11970.of (h11979.2 (c + 11) (by rw [kC_at (k := 11) (by decide)]; decide))
      obtain ⟨rfl, rfl⟩ := hp
      have h11988 : HS V c _ [0, 2, 3, 4, 5, 6, 7, 9, 10, 11, 12, 13, 14, 15, 16, 17, 18, 19, 20, 21, 22, 23] _ _ := ⟨HR.mono (Z' := Z) (by intro e; first | rfl | assumption | omega) h11980.1, h11980.2⟩
      exact m_vret F hQ e_X10_readMark_49 (⟨P11889, oP11889, (by unfold RP; omega), (by unfold tiedS; dsimp only; rw [ek11907, oncK_3 e11898 e11899 e3]; exact RM.l (yd11976) (yd11977) (by decide) (by decide) (by omega)), h11988, rfl⟩)
  · have hz9 : True := trivial
    refine m_istore_n F (lv' := [(2, .int (nI 4)), (0, .ref c), (1, .int 2)]) e_X10_readMark_4 (by decide) rfl ?_
    refine m_aload_n F rfl e_X10_readMark_5 ?_
    refine r_getC F e_X10_readMark_6 fl_X10_141 h11888 (fa11905) ?_
    refine m_if_ne F e_X10_readMark_9 (fun _ => ?_) (fun q => absurd q (by decide))
    refine m_aload_n F rfl e_X10_readMark_28 ?_
    refine r_getC F e_X10_readMark_29 fl_X10_141 h11888 (fa11905) ?_
    refine m_if_ne F e_X10_readMark_32 (fun _ => ?_) (fun q => absurd q (by decide))
    refine m_aload_n F rfl e_X10_readMark_45 ?_
    refine r_callV F e_X10_readMark_46 (q_X10_goOnG (x_l X) V c T Z u h P11889 L _ _  1 h11888.1 (hob) oP11889  (fa11905) (by decide)) cb_X10_goOn ml_X10_154 im_X10_goOn se_X10_goOn h11888 rfl rfl (rest := []) rfl (Nat.le_of_ble_eq_true rfl) ⟨Nat.le_of_ble_eq_true rfl, Nat.le_of_ble_eq_true rfl⟩ ⟨Nat.le_of_ble_eq_true rfl, Nat.le_of_ble_eq_true rfl⟩ (fun r σ11989 hp => ?_)
    obtain ⟨h11990, hp⟩ := hp
    have h11991 := HS.trans h11888 h11990 (by decide)
    obtain ⟨rfl, rfl⟩ := hp
    exact m_vret F hQ e_X10_readMark_49 (⟨P11889, oP11889, (by unfold RP; omega), (by unfold tiedS; dsimp only; rw [ek11907, oncK_1 e11898]; exact RM.l (fa11905) (fb11906) (by decide) (by decide) (by omega)), h11991, rfl⟩)
  · have hz9 : True := trivial
    refine m_istore_n F (lv' := [(2, .int (nI 4)), (0, .ref c), (1, .int 2)]) e_X10_readMark_4 (by decide) rfl ?_
    refine m_aload_n F rfl e_X10_readMark_5 ?_
    refine r_getC F e_X10_readMark_6 fl_X10_141 h11888 (fa11905) ?_
    refine m_if_ne F e_X10_readMark_9 (fun _ => ?_) (fun q => absurd q (by decide))
    refine m_aload_n F rfl e_X10_readMark_28 ?_
    refine r_getC F e_X10_readMark_29 fl_X10_141 h11888 (fa11905) ?_
    refine m_if_ne F e_X10_readMark_32 (fun _ => ?_) (fun q => absurd q (by decide))
    refine m_aload_n F rfl e_X10_readMark_45 ?_
    refine r_callV F e_X10_readMark_46 (q_X10_goOnG (x_l X) V c T Z u h P11889 L _ _  4 h11888.1 (hob) oP11889  (fa11905) (by decide)) cb_X10_goOn ml_X10_154 im_X10_goOn se_X10_goOn h11888 rfl rfl (rest := []) rfl (Nat.le_of_ble_eq_true rfl) ⟨Nat.le_of_ble_eq_true rfl, Nat.le_of_ble_eq_true rfl⟩ ⟨Nat.le_of_ble_eq_true rfl, Nat.le_of_ble_eq_true rfl⟩ (fun r σ11992 hp => ?_)
    obtain ⟨h11993, hp⟩ := hp
    have h11994 := HS.trans h11888 h11993 (by decide)
    obtain ⟨rfl, rfl⟩ := hp
    exact m_vret F hQ e_X10_readMark_49 (⟨P11889, oP11889, (by unfold RP; omega), (by unfold tiedS; dsimp only; rw [ek11907, oncK_4 e11898 e11899]; exact RM.l (fa11905) (fb11906) (by decide) (by decide) (by omega)), h11994, rfl⟩)
set_option maxRecDepth 20000 in
theorem q_X10_readFairE (l : Launch) (V : VX) (c T Z u h : Nat) (P : NP) (L : Nat → LQ) (N : Nat) (σ : Mem) (n st : Nat) (so va : Int32) (ln : Nat) (fp : Int32) (t : Nat → Nat) (s9 v9 : Nat) (nm : Nat → Nat) (np lc no sd : Nat) (md : Nat → Nat → Bool) (h0 : HR V c ⟨T, Z, u, h, P, L⟩ σ) (hob : OKB L) (hP : OKP P) (hp0 : YD σ c n st so va ln 0 fp) (hp1 : BR σ c n t) (hp2 : n ≤ 700) (hp3 : P.a ≤ n) (hp4 : MT so va s9 v9) (hp5 : st ≤ n) (hp6 : NR σ c np no sd) (hp7 : MR σ c P.n5 nm) (hp8 : KR σ c P.n5 md) (hp9 : FR σ c 8 1 P.n5 md) (hp10 : FR σ c 9 2 P.n5 md) (hp11 : QR σ c P.n7 lc) (hp12 : np ≤ 12) (hp13 : no ≤ 4) (hp14 : sd ≤ 1) : Ct l V yX10_readFair cX10_readFair 3 none 8 0 0 N σ [.ref c] (fun r τ => ∃ P9 : NP, OKP P9 ∧ RP P P9 ∧ RM τ c n P9 (fairS (tok t n) (st, s9, v9, P.a) P.n5 nm np P.n7 lc no sd md ln) ∧ HS V c (⟨T, Z, u, h, P9, L⟩ : RG) [0, 2, 3, 4, 5, 6, 7, 8, 10, 11, 12, 13, 14, 15, 16, 17, 18, 19, 20, 21, 22, 23] σ τ ∧ r = none) := by
  refine Ct.of (by decide) (Nat.le_of_ble_eq_true rfl) [(0, .ref c)] rfl (fun X hX F hQ => ?_)
  have hPP := hP
  unfold OKP at hPP
  have h1 : HS V c ⟨T, Z, u, h, P, L⟩ [0, 2, 3, 4, 5, 6, 7, 8, 10, 11, 12, 13, 14, 15, 16, 17, 18, 19, 20, 21, 22, 23] σ σ := HS.start h0
  have hyd11995 := hp0
  obtain ⟨yd11995, yd11996, yd11997, yd11998, yd11999, yd12000, yd12001⟩ := hyd11995
  have hn7 := hp2
  refine m_aload_n F rfl e_X10_readFair_0 ?_
  refine r_callV F e_X10_readFair_1 (q_X10_atHandE (x_l X) V c T Z u h P L _ _  n st so va ln fp t nm h1.1 (hob) hP  ⟨(yd11995), (yd11996), (yd11997), (yd11998), (yd11999), (yd12000), (yd12001)⟩ hp1 hn7 (by omega) hp7) cb_X10_atHand ml_X10_174 im_X10_atHand se_X10_atHand h1 rfl rfl (rest := []) rfl (Nat.le_of_ble_eq_true rfl) ⟨Nat.le_of_ble_eq_true rfl, Nat.le_of_ble_eq_true rfl⟩ ⟨Nat.le_of_ble_eq_true rfl, Nat.le_of_ble_eq_true rfl⟩ (fun r σ12002 hp => ?_)
  obtain ⟨P12005, oP12005, rP12005, pr12006, h12003, hp⟩ := hp
  have h12004 := HS.trans h1 h12003 (by decide)
  have xP12005 := oP12005
  unfold OKP at xP12005
  unfold RA at rP12005
  have ga12007 := hp1.of (h12003.2 (c + 1) (by rw [kC_at (k := 1) (by decide)]; decide))
  have ga12008 := hp6.of (h12003.2 (c + 2) (by rw [kC_at (k := 2) (by decide)]; decide))
  have ga12009 := hp7.of (h12003.2 (c + 3) (by rw [kC_at (k := 3) (by decide)]; decide))
  have ga12010 := hp8.of (h12003.2 (c + 7) (by rw [kC_at (k := 7) (by decide)]; decide))
  have ga12011 := hp9.of (h12003.2 (c + 8) (by rw [kC_at (k := 8) (by decide)]; decide))
  have ga12012 := hp10.of (h12003.2 (c + 9) (by rw [kC_at (k := 9) (by decide)]; decide))
  have ga12013 := hp11.of (h12003.2 (c + 11) (by rw [kC_at (k := 11) (by decide)]; decide))
  have bk12023 := tok_ok (t := t) (n := n) P.a (by omega)
  generalize ek12023 : tok t n P.a = k12023 at pr12006 bk12023
  rcases pr12006 with ⟨e12014, e12015, ea12016, ⟨so12017, va12018, mt12019, yd12020⟩, rfl⟩ | ⟨e12014, ⟨fa12021, fb12022⟩, rfl⟩ | ⟨e12014, e12015, ⟨fa12021, fb12022⟩, rfl⟩
  · have hyd12024 := yd12020
    obtain ⟨yd12024, yd12025, yd12026, yd12027, yd12028, yd12029, yd12030⟩ := hyd12024
    refine m_istore_n F (lv' := [(1, .int (nI (4 + fx nm k12023.2.2.1 P.n5))), (0, .ref c)]) e_X10_readFair_4 (by decide) rfl ?_
    refine m_aload_n F rfl e_X10_readFair_5 ?_
    refine r_getC F e_X10_readFair_6 fl_X10_141 h12004 (yd12029) ?_
    refine m_if_ne F e_X10_readFair_9 (fun q => absurd (by decide) q) (fun _ => ?_)
    refine m_aload_n F rfl e_X10_readFair_12 ?_
    refine r_get F e_X10_readFair_13 fl_X10_31 h12004 rfl (fun v hv f12031 => ?_)
    obtain rfl : v = .ref (c + 8) := hv
    refine m_iload_n F rfl e_X10_readFair_16 ?_
    obtain ⟨w12032, hw12032, fw12032, gw12032⟩ := ga12011 (fx nm k12023.2.2.1 P.n5) e12015
    refine r_iald F (len := 8) (j := 4 + fx nm k12023.2.2.1 P.n5) e_X10_readFair_17 h12004 (fun _ h => h) (by decide) (nI_clamp (by omega)) (vp_in_nI (by omega) (by decide)) (fun x12033 h12034 f12035 => ?_)
    obtain rfl := Option.some.inj ((f12035).symm.trans (fw12032))
    refine m_if_eq F e_X10_readFair_18 (fun q18 => ?_) (fun q18 => ?_)
    · have c18 : w12032 = 0 := (nI_eq (a := w12032) (b := 0) (by omega) (by omega)).mp q18
      have e3 : md (fx nm k12023.2.2.1 P.n5) 1 = false := gw12032.mp c18
      refine m_aload_n F rfl e_X10_readFair_26 ?_
      refine r_callV F e_X10_readFair_27 (q_X10_goOnE (x_l X) V c T Z u h P12005 L _ _  n k12023.1 so12017 va12018 ln fp t h12004.1 (hob) oP12005  ⟨(yd12024), (yd12025), (yd12026), (yd12027), (yd12028), (yd12029), (yd12030)⟩ ga12007 hn7 (by omega)) cb_X10_goOn ml_X10_154 im_X10_goOn se_X10_goOn h12004 rfl rfl (rest := []) rfl (Nat.le_of_ble_eq_true rfl) ⟨Nat.le_of_ble_eq_true rfl, Nat.le_of_ble_eq_true rfl⟩ ⟨Nat.le_of_ble_eq_true rfl, Nat.le_of_ble_eq_true rfl⟩ (fun r σ12036 hp => ?_)
      obtain ⟨P12039, oP12039, rP12039, pr12040, pr12041, h12037, hp⟩ := hp
      have h12038 := HS.trans h12004 h12037 (by decide)
      have xP12039 := oP12039
      unfold OKP at xP12039
      unfold RA at rP12039
      have ga12042 := ga12007.of (h12037.2 (c + 1) (by rw [kC_at (k := 1) (by decide)]; decide))
      have ga12043 := ga12008.of (h12037.2 (c + 2) (by rw [kC_at (k := 2) (by decide)]; decide))
      have ga12044 := ga12009.of (h12037.2 (c + 3) (by rw [kC_at (k := 3) (by decide)]; decide))
      have ga12045 := ga12010.of (h12037.2 (c + 7) (by rw [kC_at (k := 7) (by decide)]; decide))
      have ga12046 := ga12011.of (h12037.2 (c + 8) (by rw [kC_at (k := 8) (by decide)]; decide))
      have ga12047 := ga12012.of (h12037.2 (c + 9) (by rw [kC_at (k := 9) (by decide)]; decide))
      have ga12048 := ga12013.of (h12037.2 (c + 11) (by rw [kC_at (k := 11) (by decide)]; decide))
      obtain rfl := hp
      obtain ⟨so12049, va12050, mt12051, yd12052⟩ := pr12041
      generalize ek12053 : tok t n P12005.a = k12053 at pr12040 mt12051 yd12052
      have bk12053 := tok_ok (t := t) (n := n) P12005.a (by omega)
      rw [ek12053] at bk12053
      rw [show P12005.a = k12023.2.2.2 by omega] at ek12053
      have hyd12054 := yd12052
      obtain ⟨yd12054, yd12055, yd12056, yd12057, yd12058, yd12059, yd12060⟩ := hyd12054
      refine m_aload_n F rfl e_X10_readFair_30 ?_
      refine m_iconst F (v := 1) (by decide) e_X10_readFair_31 ?_
      refine m_ldc F kc_X10_129 e_X10_readFair_32 ?_
      refine r_callV F e_X10_readFair_34 (q_X10_numeralE (x_l X) V c T Z u h P12039 L _ _ 1 9999999 n k12053.1 so12049 va12050 ln fp t k12053.2.1 k12053.2.2.1 h12038.1 (hob) oP12039 (by omega) (by omega) ⟨(yd12054), (yd12055), (yd12056), (yd12057), (yd12058), (yd12059), (yd12060)⟩ ga12042 hn7 (by omega) mt12051) cb_X10_numeral ml_X10_165 im_X10_numeral se_X10_numeral h12038 rfl rfl (rest := []) rfl (Nat.le_of_ble_eq_true rfl) ⟨Nat.le_of_ble_eq_true rfl, Nat.le_of_ble_eq_true rfl⟩ ⟨Nat.le_of_ble_eq_true rfl, Nat.le_of_ble_eq_true rfl⟩ (fun r σ12061 hp => ?_)
      obtain ⟨P12064, oP12064, rP12064, pr12065, h12062, hp⟩ := hp
      have h12063 := HS.trans h12038 h12062 (by decide)
      have xP12064 := oP12064
      unfold OKP at xP12064
      unfold RA at rP12064
      have ga12066 := ga12042.of (h12062.2 (c + 1) (by rw [kC_at (k := 1) (by decide)]; decide))
      have ga12067 := ga12043.of (h12062.2 (c + 2) (by rw [kC_at (k := 2) (by decide)]; decide))
      have ga12068 := ga12044.of (h12062.2 (c + 3) (by rw [kC_at (k := 3) (by decide)]; decide))
      have ga12069 := ga12045.of (h12062.2 (c + 7) (by rw [kC_at (k := 7) (by decide)]; decide))
      have ga12070 := ga12046.of (h12062.2 (c + 8) (by rw [kC_at (k := 8) (by decide)]; decide))
      have ga12071 := ga12047.of (h12062.2 (c + 9) (by rw [kC_at (k := 9) (by decide)]; decide))
      have ga12072 := ga12048.of (h12062.2 (c + 11) (by rw [kC_at (k := 11) (by decide)]; decide))
      rcases pr12065 with ⟨e12073, l12075, l12076, ea12077, ⟨so12078, va12079, mt12080, yd12081⟩, rfl⟩ | ⟨e12073, ⟨fa12082, fb12083⟩, rfl⟩ | ⟨e12073, e12074, ⟨fa12082, fb12083⟩, rfl⟩
      · have bk12084 := tok_ok (t := t) (n := n) P12039.a (by omega)
        generalize ek12084 : tok t n P12039.a = k12084 at ea12077 mt12080 yd12081 bk12084
        rw [show P12039.a = k12053.2.2.2 by omega] at ek12084
        have hyd12085 := yd12081
        obtain ⟨yd12085, yd12086, yd12087, yd12088, yd12089, yd12090, yd12091⟩ := hyd12085
        refine m_istore_n F (lv' := [(2, .int (nI k12053.2.2.1)), (1, .int (nI (4 + fx nm k12023.2.2.1 P.n5))), (0, .ref c)]) e_X10_readFair_37 (by decide) rfl ?_
        refine m_aload_n F rfl e_X10_readFair_38 ?_
        refine r_getC F e_X10_readFair_39 fl_X10_141 h12063 (yd12090) ?_
        refine m_if_ne F e_X10_readFair_42 (fun q => absurd (by decide) q) (fun _ => ?_)
        refine m_aload_n F rfl e_X10_readFair_45 ?_
        refine r_get F e_X10_readFair_46 fl_X10_31 h12063 rfl (fun v hv f12092 => ?_)
        obtain rfl : v = .ref (c + 8) := hv
        refine m_iload_n F rfl e_X10_readFair_49 ?_
        refine m_iload_n F rfl e_X10_readFair_50 ?_
        refine r_iast F (g' := (⟨T, Z, u, h, P12064, L⟩ : RG)) (len := 8) (j := 4 + fx nm k12023.2.2.1 P.n5) e_X10_readFair_51 h12063 (fun _ h => h) (fun f h => ⟨f, rfl, h⟩) (by decide) (by decide) (nI_clamp (by omega)) (vp_in_nI (by omega) (by decide)) trivial (fun _ _ _ h => h) (fun _ _ _ h => h) (fun σ12093 h12094 g12095 f12096 g12097 => ?_)
        have ga12098 := ga12066.of (g12095 _ (by omega))
        have ga12099 := ga12067.of (g12095 _ (by omega))
        have ga12100 := ga12068.of (g12095 _ (by omega))
        have ga12101 := ga12069.of (g12095 _ (by omega))
        have ga12102 := ga12071.of (g12095 _ (by omega))
        have ga12103 := ga12072.of (g12095 _ (by omega))
        have ga12105 := FR.upbL (l := fx nm k12023.2.2.1 P.n5) (b' := 1) ga12102 (by decide)
        have ga12106 := KR.upbL (l := fx nm k12023.2.2.1 P.n5) (b' := 1) ga12101 (by decide) (by decide)
        have ga12104 := FR.put (b := 1) ga12070 (by omega) (by omega) f12096 g12097
        exact m_vret F hQ e_X10_readFair_52 (⟨P12064, oP12064, (by unfold RP; omega), (by unfold fairS; dsimp only; rw [ek12023, oncK_ok e12014 e12015 e3, ek12053, numK_ok e12073 l12075 l12076, ek12084]; exact RM.r mt12080 ⟨((fld_eq (g12095 _ (by omega))).trans yd12085), ((fld_eq (g12095 _ (by omega))).trans yd12086), ((fld_eq (g12095 _ (by omega))).trans yd12087), ((fld_eq (g12095 _ (by omega))).trans yd12088), ((fld_eq (g12095 _ (by omega))).trans yd12089), ((fld_eq (g12095 _ (by omega))).trans yd12090), ((fld_eq (g12095 _ (by omega))).trans yd12091)⟩ (by omega) (by omega) (by omega) ga12099 ga12100 ga12106 ga12104 ga12105 ga12103 (by omega) (by omega) (by omega) (by omega) (by omega)), h12094, rfl⟩)
      · have hz9 : True := trivial
        refine m_istore_n F (lv' := [(2, .int (nI 1)), (1, .int (nI (4 + fx nm k12023.2.2.1 P.n5))), (0, .ref c)]) e_X10_readFair_37 (by decide) rfl ?_
        refine m_aload_n F rfl e_X10_readFair_38 ?_
        refine r_getC F e_X10_readFair_39 fl_X10_141 h12063 (fa12082) ?_
        refine m_if_ne F e_X10_readFair_42 (fun _ => ?_) (fun q => absurd q (by decide))
        exact m_vret F hQ e_X10_readFair_52 (⟨P12064, oP12064, (by unfold RP; omega), (by unfold fairS; dsimp only; rw [ek12023, oncK_ok e12014 e12015 e3, ek12053, numK_1 e12073]; exact RM.l (fa12082) (fb12083) (by decide) (by decide) (by omega)), h12063, rfl⟩)
      · have hz9 : True := trivial
        refine m_istore_n F (lv' := [(2, .int (nI 1)), (1, .int (nI (4 + fx nm k12023.2.2.1 P.n5))), (0, .ref c)]) e_X10_readFair_37 (by decide) rfl ?_
        refine m_aload_n F rfl e_X10_readFair_38 ?_
        refine r_getC F e_X10_readFair_39 fl_X10_141 h12063 (fa12082) ?_
        refine m_if_ne F e_X10_readFair_42 (fun _ => ?_) (fun q => absurd q (by decide))
        exact m_vret F hQ e_X10_readFair_52 (⟨P12064, oP12064, (by unfold RP; omega), (by unfold fairS; dsimp only; rw [ek12023, oncK_ok e12014 e12015 e3, ek12053, numK_2 e12073 e12074]; exact RM.l (fa12082) (fb12083) (by decide) (by decide) (by omega)), h12063, rfl⟩)
    · have c18 : w12032 ≠ 0 := by have hh := mt (nI_eq (a := w12032) (b := 0) (by omega) (by omega)).mpr q18; omega
      have e3 : md (fx nm k12023.2.2.1 P.n5) 1 = true := by cases hmd : md (fx nm k12023.2.2.1 P.n5) 1 with | true => rfl | false => exact absurd (gw12032.mpr hmd) (by omega)
      refine m_aload_n F rfl e_X10_readFair_21 ?_
      refine m_iconst F (v := 3) (by decide) e_X10_readFair_22 ?_
      refine r_callV F e_X10_readFair_23 (q_X10_wrongE (x_l X) V c T Z u h P12005 L _ _ 3 n k12023.1 so12017 va12018 ln fp h12004.1 (hob) oP12005 (by omega) ⟨(yd12024), (yd12025), (yd12026), (yd12027), (yd12028), (yd12029), (yd12030)⟩ (by decide)) cb_X10_wrong ml_X10_150 im_X10_wrong se_X10_wrong h12004 rfl rfl (rest := []) rfl (Nat.le_of_ble_eq_true rfl) ⟨Nat.le_of_ble_eq_true rfl, Nat.le_of_ble_eq_true rfl⟩ ⟨Nat.le_of_ble_eq_true rfl, Nat.le_of_ble_eq_true rfl⟩ (fun r σ12107 hp => ?_)
      obtain ⟨h12108, hp⟩ := hp
      have h12109 := HS.trans h12004 h12108 (by decide)
      have ga12110 := ga12007.of (h12108.2 (c + 1) (by rw [kC_at (k := 1) (by decide)]; decide))
      have ga12111 := ga12008.of (h12108.2 (c + 2) (by rw [kC_at (k := 2) (by decide)]; decide))
      have ga12112 := ga12009.of (h12108.2 (c + 3) (by rw [kC_at (k := 3) (by decide)]; decide))
      have ga12113 := ga12010.of (h12108.2 (c + 7) (by rw [kC_at (k := 7) (by decide)]; decide))
      have ga12114 := ga12011.of (h12108.2 (c + 8) (by rw [kC_at (k := 8) (by decide)]; decide))
      have ga12115 := ga12012.of (h12108.2 (c + 9) (by rw [kC_at (k := 9) (by decide)]; decide))
      have ga12116 := ga12013.of (h12108.2 (c + 11) (by rw [kC_at (k := 11) (by decide)]; decide))
      obtain ⟨hp, rfl⟩ := hp
      have hyd12117 := hp
      obtain ⟨yd12117, yd12118, yd12119, yd12120, yd12121, yd12122, yd12123⟩ := hyd12117
      refine m_aload_n F rfl e_X10_readFair_26 ?_
      refine r_callV F e_X10_readFair_27 (q_X10_goOnG (x_l X) V c T 0 u h P12005 L _ _  3 h12109.1 (hob) oP12005  (yd12122) (by decide)) cb_X10_goOn ml_X10_154 im_X10_goOn se_X10_goOn h12109 rfl rfl (rest := []) rfl (Nat.le_of_ble_eq_true rfl) ⟨Nat.le_of_ble_eq_true rfl, Nat.le_of_ble_eq_true rfl⟩ ⟨Nat.le_of_ble_eq_true rfl, Nat.le_of_ble_eq_true rfl⟩ (fun r σ12124 hp => ?_)
      obtain ⟨h12125, hp⟩ := hp
      have h12126 := HS.trans h12109 h12125 (by decide)
      have ga12127 := ga12110.of (h12125.2 (c + 1) (by rw [kC_at (k := 1) (by decide)]; decide))
      have ga12128 := ga12111.of (h12125.2 (c + 2) (by rw [kC_at (k := 2) (by decide)]; decide))
      have ga12129 := ga12112.of (h12125.2 (c + 3) (by rw [kC_at (k := 3) (by decide)]; decide))
      have ga12130 := ga12113.of (h12125.2 (c + 7) (by rw [kC_at (k := 7) (by decide)]; decide))
      have ga12131 := ga12114.of (h12125.2 (c + 8) (by rw [kC_at (k := 8) (by decide)]; decide))
      have ga12132 := ga12115.of (h12125.2 (c + 9) (by rw [kC_at (k := 9) (by decide)]; decide))
      have ga12133 := ga12116.of (h12125.2 (c + 11) (by rw [kC_at (k := 11) (by decide)]; decide))
      obtain ⟨rfl, rfl⟩ := hp
      refine m_aload_n F rfl e_X10_readFair_30 ?_
      refine m_iconst F (v := 1) (by decide) e_X10_readFair_31 ?_
      refine m_ldc F kc_X10_129 e_X10_readFair_32 ?_
      refine r_callV F e_X10_readFair_34 (q_X10_numeralG (x_l X) V c T 0 u h P12005 L _ _ 1 9999999 3 h12126.1 (hob) oP12005 (by omega) (by omega) (yd12122) (by decide)) cb_X10_numeral ml_X10_165 im_X10_numeral se_X10_numeral h12126 rfl rfl (rest := []) rfl (Nat.le_of_ble_eq_true rfl) ⟨Nat.le_of_ble_eq_true rfl, Nat.le_of_ble_eq_true rfl⟩ ⟨Nat.le_of_ble_eq_true rfl, Nat.le_of_ble_eq_true rfl⟩ (fun r σ12134 hp => ?_)
      obtain ⟨h12135, hp⟩ := hp
      have h12136 := HS.trans h12126 h12135 (by decide)
      have ga12137 := ga12110.of (h12135.2 (c + 1) (by rw [kC_at (k := 1) (by decide)]; decide))
      have ga12138 := ga12111.of (h12135.2 (c + 2) (by rw [kC_at (k := 2) (by decide)]; decide))
      have ga12139 := ga12112.of (h12135.2 (c + 3) (by rw [kC_at (k := 3) (by decide)]; decide))
      have ga12140 := ga12113.of (h12135.2 (c + 7) (by rw [kC_at (k := 7) (by decide)]; decide))
      have ga12141 := ga12114.of (h12135.2 (c + 8) (by rw [kC_at (k := 8) (by decide)]; decide))
      have ga12142 := ga12115.of (h12135.2 (c + 9) (by rw [kC_at (k := 9) (by decide)]; decide))
      have ga12143 := ga12116.of (h12135.2 (c + 11) (by rw [kC_at (k := 11) (by decide)]; decide))
      obtain ⟨rfl, rfl⟩ := hp
      refine m_istore_n F (lv' := [(2, .int (nI 1)), (1, .int (nI (4 + fx nm k12023.2.2.1 P.n5))), (0, .ref c)]) e_X10_readFair_37 (by decide) rfl ?_
      refine m_aload_n F rfl e_X10_readFair_38 ?_
      refine r_getC F e_X10_readFair_39 fl_X10_141 h12136 (yd12122) ?_
      refine m_if_ne F e_X10_readFair_42 (fun _ => ?_) (fun q => absurd q (by decide))
      have h12144 : HS V c _ [0, 2, 3, 4, 5, 6, 7, 8, 10, 11, 12, 13, 14, 15, 16, 17, 18, 19, 20, 21, 22, 23] _ _ := ⟨HR.mono (Z' := Z) (by intro e; first | rfl | assumption | omega) h12136.1, h12136.2⟩
      exact m_vret F hQ e_X10_readFair_52 (⟨P12005, oP12005, (by unfold RP; omega), (by unfold fairS; dsimp only; rw [ek12023, oncK_3 e12014 e12015 e3]; exact RM.l (yd12122) (yd12123) (by decide) (by decide) (by omega)), h12144, rfl⟩)
  · have hz9 : True := trivial
    refine m_istore_n F (lv' := [(1, .int (nI 4)), (0, .ref c)]) e_X10_readFair_4 (by decide) rfl ?_
    refine m_aload_n F rfl e_X10_readFair_5 ?_
    refine r_getC F e_X10_readFair_6 fl_X10_141 h12004 (fa12021) ?_
    refine m_if_ne F e_X10_readFair_9 (fun _ => ?_) (fun q => absurd q (by decide))
    refine m_aload_n F rfl e_X10_readFair_26 ?_
    refine r_callV F e_X10_readFair_27 (q_X10_goOnG (x_l X) V c T Z u h P12005 L _ _  1 h12004.1 (hob) oP12005  (fa12021) (by decide)) cb_X10_goOn ml_X10_154 im_X10_goOn se_X10_goOn h12004 rfl rfl (rest := []) rfl (Nat.le_of_ble_eq_true rfl) ⟨Nat.le_of_ble_eq_true rfl, Nat.le_of_ble_eq_true rfl⟩ ⟨Nat.le_of_ble_eq_true rfl, Nat.le_of_ble_eq_true rfl⟩ (fun r σ12145 hp => ?_)
    obtain ⟨h12146, hp⟩ := hp
    have h12147 := HS.trans h12004 h12146 (by decide)
    obtain ⟨rfl, rfl⟩ := hp
    refine m_aload_n F rfl e_X10_readFair_30 ?_
    refine m_iconst F (v := 1) (by decide) e_X10_readFair_31 ?_
    refine m_ldc F kc_X10_129 e_X10_readFair_32 ?_
    refine r_callV F e_X10_readFair_34 (q_X10_numeralG (x_l X) V c T Z u h P12005 L _ _ 1 9999999 1 h12147.1 (hob) oP12005 (by omega) (by omega) (fa12021) (by decide)) cb_X10_numeral ml_X10_165 im_X10_numeral se_X10_numeral h12147 rfl rfl (rest := []) rfl (Nat.le_of_ble_eq_true rfl) ⟨Nat.le_of_ble_eq_true rfl, Nat.le_of_ble_eq_true rfl⟩ ⟨Nat.le_of_ble_eq_true rfl, Nat.le_of_ble_eq_true rfl⟩ (fun r σ12148 hp => ?_)
    obtain ⟨h12149, hp⟩ := hp
    have h12150 := HS.trans h12147 h12149 (by decide)
    obtain ⟨rfl, rfl⟩ := hp
    refine m_istore_n F (lv' := [(2, .int (nI 1)), (1, .int (nI 4)), (0, .ref c)]) e_X10_readFair_37 (by decide) rfl ?_
    refine m_aload_n F rfl e_X10_readFair_38 ?_
    refine r_getC F e_X10_readFair_39 fl_X10_141 h12150 (fa12021) ?_
    refine m_if_ne F e_X10_readFair_42 (fun _ => ?_) (fun q => absurd q (by decide))
    exact m_vret F hQ e_X10_readFair_52 (⟨P12005, oP12005, (by unfold RP; omega), (by unfold fairS; dsimp only; rw [ek12023, oncK_1 e12014]; exact RM.l (fa12021) (fb12022) (by decide) (by decide) (by omega)), h12150, rfl⟩)
  · have hz9 : True := trivial
    refine m_istore_n F (lv' := [(1, .int (nI 4)), (0, .ref c)]) e_X10_readFair_4 (by decide) rfl ?_
    refine m_aload_n F rfl e_X10_readFair_5 ?_
    refine r_getC F e_X10_readFair_6 fl_X10_141 h12004 (fa12021) ?_
    refine m_if_ne F e_X10_readFair_9 (fun _ => ?_) (fun q => absurd q (by decide))
    refine m_aload_n F rfl e_X10_readFair_26 ?_
    refine r_callV F e_X10_readFair_27 (q_X10_goOnG (x_l X) V c T Z u h P12005 L _ _  4 h12004.1 (hob) oP12005  (fa12021) (by decide)) cb_X10_goOn ml_X10_154 im_X10_goOn se_X10_goOn h12004 rfl rfl (rest := []) rfl (Nat.le_of_ble_eq_true rfl) ⟨Nat.le_of_ble_eq_true rfl, Nat.le_of_ble_eq_true rfl⟩ ⟨Nat.le_of_ble_eq_true rfl, Nat.le_of_ble_eq_true rfl⟩ (fun r σ12151 hp => ?_)
    obtain ⟨h12152, hp⟩ := hp
    have h12153 := HS.trans h12004 h12152 (by decide)
    obtain ⟨rfl, rfl⟩ := hp
    refine m_aload_n F rfl e_X10_readFair_30 ?_
    refine m_iconst F (v := 1) (by decide) e_X10_readFair_31 ?_
    refine m_ldc F kc_X10_129 e_X10_readFair_32 ?_
    refine r_callV F e_X10_readFair_34 (q_X10_numeralG (x_l X) V c T Z u h P12005 L _ _ 1 9999999 4 h12153.1 (hob) oP12005 (by omega) (by omega) (fa12021) (by decide)) cb_X10_numeral ml_X10_165 im_X10_numeral se_X10_numeral h12153 rfl rfl (rest := []) rfl (Nat.le_of_ble_eq_true rfl) ⟨Nat.le_of_ble_eq_true rfl, Nat.le_of_ble_eq_true rfl⟩ ⟨Nat.le_of_ble_eq_true rfl, Nat.le_of_ble_eq_true rfl⟩ (fun r σ12154 hp => ?_)
    obtain ⟨h12155, hp⟩ := hp
    have h12156 := HS.trans h12153 h12155 (by decide)
    obtain ⟨rfl, rfl⟩ := hp
    refine m_istore_n F (lv' := [(2, .int (nI 1)), (1, .int (nI 4)), (0, .ref c)]) e_X10_readFair_37 (by decide) rfl ?_
    refine m_aload_n F rfl e_X10_readFair_38 ?_
    refine r_getC F e_X10_readFair_39 fl_X10_141 h12156 (fa12021) ?_
    refine m_if_ne F e_X10_readFair_42 (fun _ => ?_) (fun q => absurd q (by decide))
    exact m_vret F hQ e_X10_readFair_52 (⟨P12005, oP12005, (by unfold RP; omega), (by unfold fairS; dsimp only; rw [ek12023, oncK_4 e12014 e12015]; exact RM.l (fa12021) (fb12022) (by decide) (by decide) (by omega)), h12156, rfl⟩)
set_option maxRecDepth 20000 in
theorem q_X10_readFeeE (l : Launch) (V : VX) (c T Z u h : Nat) (P : NP) (L : Nat → LQ) (N : Nat) (σ : Mem) (n st : Nat) (so va : Int32) (ln : Nat) (fp : Int32) (t : Nat → Nat) (s9 v9 : Nat) (nm : Nat → Nat) (np lc no sd : Nat) (md : Nat → Nat → Bool) (h0 : HR V c ⟨T, Z, u, h, P, L⟩ σ) (hob : OKB L) (hP : OKP P) (hp0 : YD σ c n st so va ln 0 fp) (hp1 : BR σ c n t) (hp2 : n ≤ 700) (hp3 : P.a ≤ n) (hp4 : MT so va s9 v9) (hp5 : st ≤ n) (hp6 : NR σ c np no sd) (hp7 : MR σ c P.n5 nm) (hp8 : KR σ c P.n5 md) (hp9 : FR σ c 8 1 P.n5 md) (hp10 : FR σ c 9 2 P.n5 md) (hp11 : QR σ c P.n7 lc) (hp12 : np ≤ 12) (hp13 : no ≤ 4) (hp14 : sd ≤ 1) : Ct l V yX10_readFee cX10_readFee 3 none 8 0 0 N σ [.ref c] (fun r τ => ∃ P9 : NP, OKP P9 ∧ RP P P9 ∧ RM τ c n P9 (feeS (tok t n) (st, s9, v9, P.a) P.n5 nm np P.n7 lc no sd md ln) ∧ HS V c (⟨T, Z, u, h, P9, L⟩ : RG) [0, 2, 3, 4, 5, 6, 7, 8, 9, 11, 12, 13, 14, 15, 16, 17, 18, 19, 20, 21, 22, 23] σ τ ∧ r = none) := by
  refine Ct.of (by decide) (Nat.le_of_ble_eq_true rfl) [(0, .ref c)] rfl (fun X hX F hQ => ?_)
  have hPP := hP
  unfold OKP at hPP
  have h1 : HS V c ⟨T, Z, u, h, P, L⟩ [0, 2, 3, 4, 5, 6, 7, 8, 9, 11, 12, 13, 14, 15, 16, 17, 18, 19, 20, 21, 22, 23] σ σ := HS.start h0
  have hyd12157 := hp0
  obtain ⟨yd12157, yd12158, yd12159, yd12160, yd12161, yd12162, yd12163⟩ := hyd12157
  have hn7 := hp2
  refine m_aload_n F rfl e_X10_readFee_0 ?_
  refine r_callV F e_X10_readFee_1 (q_X10_atHandE (x_l X) V c T Z u h P L _ _  n st so va ln fp t nm h1.1 (hob) hP  ⟨(yd12157), (yd12158), (yd12159), (yd12160), (yd12161), (yd12162), (yd12163)⟩ hp1 hn7 (by omega) hp7) cb_X10_atHand ml_X10_174 im_X10_atHand se_X10_atHand h1 rfl rfl (rest := []) rfl (Nat.le_of_ble_eq_true rfl) ⟨Nat.le_of_ble_eq_true rfl, Nat.le_of_ble_eq_true rfl⟩ ⟨Nat.le_of_ble_eq_true rfl, Nat.le_of_ble_eq_true rfl⟩ (fun r σ12164 hp => ?_)
  obtain ⟨P12167, oP12167, rP12167, pr12168, h12165, hp⟩ := hp
  have h12166 := HS.trans h1 h12165 (by decide)
  have xP12167 := oP12167
  unfold OKP at xP12167
  unfold RA at rP12167
  have ga12169 := hp1.of (h12165.2 (c + 1) (by rw [kC_at (k := 1) (by decide)]; decide))
  have ga12170 := hp6.of (h12165.2 (c + 2) (by rw [kC_at (k := 2) (by decide)]; decide))
  have ga12171 := hp7.of (h12165.2 (c + 3) (by rw [kC_at (k := 3) (by decide)]; decide))
  have ga12172 := hp8.of (h12165.2 (c + 7) (by rw [kC_at (k := 7) (by decide)]; decide))
  have ga12173 := hp9.of (h12165.2 (c + 8) (by rw [kC_at (k := 8) (by decide)]; decide))
  have ga12174 := hp10.of (h12165.2 (c + 9) (by rw [kC_at (k := 9) (by decide)]; decide))
  have ga12175 := hp11.of (h12165.2 (c + 11) (by rw [kC_at (k := 11) (by decide)]; decide))
  have bk12185 := tok_ok (t := t) (n := n) P.a (by omega)
  generalize ek12185 : tok t n P.a = k12185 at pr12168 bk12185
  rcases pr12168 with ⟨e12176, e12177, ea12178, ⟨so12179, va12180, mt12181, yd12182⟩, rfl⟩ | ⟨e12176, ⟨fa12183, fb12184⟩, rfl⟩ | ⟨e12176, e12177, ⟨fa12183, fb12184⟩, rfl⟩
  · have hyd12186 := yd12182
    obtain ⟨yd12186, yd12187, yd12188, yd12189, yd12190, yd12191, yd12192⟩ := hyd12186
    refine m_istore_n F (lv' := [(1, .int (nI (4 + fx nm k12185.2.2.1 P.n5))), (0, .ref c)]) e_X10_readFee_4 (by decide) rfl ?_
    refine m_aload_n F rfl e_X10_readFee_5 ?_
    refine r_getC F e_X10_readFee_6 fl_X10_141 h12166 (yd12191) ?_
    refine m_if_ne F e_X10_readFee_9 (fun q => absurd (by decide) q) (fun _ => ?_)
    refine m_aload_n F rfl e_X10_readFee_12 ?_
    refine r_get F e_X10_readFee_13 fl_X10_34 h12166 rfl (fun v hv f12193 => ?_)
    obtain rfl : v = .ref (c + 9) := hv
    refine m_iload_n F rfl e_X10_readFee_16 ?_
    obtain ⟨w12194, hw12194, fw12194, gw12194⟩ := ga12174 (fx nm k12185.2.2.1 P.n5) e12177
    refine r_iald F (len := 8) (j := 4 + fx nm k12185.2.2.1 P.n5) e_X10_readFee_17 h12166 (fun _ h => h) (by decide) (nI_clamp (by omega)) (vp_in_nI (by omega) (by decide)) (fun x12195 h12196 f12197 => ?_)
    obtain rfl := Option.some.inj ((f12197).symm.trans (fw12194))
    refine m_if_eq F e_X10_readFee_18 (fun q18 => ?_) (fun q18 => ?_)
    · have c18 : w12194 = 0 := (nI_eq (a := w12194) (b := 0) (by omega) (by omega)).mp q18
      have e3 : md (fx nm k12185.2.2.1 P.n5) 2 = false := gw12194.mp c18
      refine m_aload_n F rfl e_X10_readFee_26 ?_
      refine r_callV F e_X10_readFee_27 (q_X10_goOnE (x_l X) V c T Z u h P12167 L _ _  n k12185.1 so12179 va12180 ln fp t h12166.1 (hob) oP12167  ⟨(yd12186), (yd12187), (yd12188), (yd12189), (yd12190), (yd12191), (yd12192)⟩ ga12169 hn7 (by omega)) cb_X10_goOn ml_X10_154 im_X10_goOn se_X10_goOn h12166 rfl rfl (rest := []) rfl (Nat.le_of_ble_eq_true rfl) ⟨Nat.le_of_ble_eq_true rfl, Nat.le_of_ble_eq_true rfl⟩ ⟨Nat.le_of_ble_eq_true rfl, Nat.le_of_ble_eq_true rfl⟩ (fun r σ12198 hp => ?_)
      obtain ⟨P12201, oP12201, rP12201, pr12202, pr12203, h12199, hp⟩ := hp
      have h12200 := HS.trans h12166 h12199 (by decide)
      have xP12201 := oP12201
      unfold OKP at xP12201
      unfold RA at rP12201
      have ga12204 := ga12169.of (h12199.2 (c + 1) (by rw [kC_at (k := 1) (by decide)]; decide))
      have ga12205 := ga12170.of (h12199.2 (c + 2) (by rw [kC_at (k := 2) (by decide)]; decide))
      have ga12206 := ga12171.of (h12199.2 (c + 3) (by rw [kC_at (k := 3) (by decide)]; decide))
      have ga12207 := ga12172.of (h12199.2 (c + 7) (by rw [kC_at (k := 7) (by decide)]; decide))
      have ga12208 := ga12173.of (h12199.2 (c + 8) (by rw [kC_at (k := 8) (by decide)]; decide))
      have ga12209 := ga12174.of (h12199.2 (c + 9) (by rw [kC_at (k := 9) (by decide)]; decide))
      have ga12210 := ga12175.of (h12199.2 (c + 11) (by rw [kC_at (k := 11) (by decide)]; decide))
      obtain rfl := hp
      obtain ⟨so12211, va12212, mt12213, yd12214⟩ := pr12203
      generalize ek12215 : tok t n P12167.a = k12215 at pr12202 mt12213 yd12214
      have bk12215 := tok_ok (t := t) (n := n) P12167.a (by omega)
      rw [ek12215] at bk12215
      rw [show P12167.a = k12185.2.2.2 by omega] at ek12215
      have hyd12216 := yd12214
      obtain ⟨yd12216, yd12217, yd12218, yd12219, yd12220, yd12221, yd12222⟩ := hyd12216
      refine m_aload_n F rfl e_X10_readFee_30 ?_
      refine m_iconst F (v := 0) (by decide) e_X10_readFee_31 ?_
      refine m_ldc F kc_X10_177 e_X10_readFee_32 ?_
      refine r_callV F e_X10_readFee_34 (q_X10_numeralE (x_l X) V c T Z u h P12201 L _ _ 0 99999 n k12215.1 so12211 va12212 ln fp t k12215.2.1 k12215.2.2.1 h12200.1 (hob) oP12201 (by omega) (by omega) ⟨(yd12216), (yd12217), (yd12218), (yd12219), (yd12220), (yd12221), (yd12222)⟩ ga12204 hn7 (by omega) mt12213) cb_X10_numeral ml_X10_165 im_X10_numeral se_X10_numeral h12200 rfl rfl (rest := []) rfl (Nat.le_of_ble_eq_true rfl) ⟨Nat.le_of_ble_eq_true rfl, Nat.le_of_ble_eq_true rfl⟩ ⟨Nat.le_of_ble_eq_true rfl, Nat.le_of_ble_eq_true rfl⟩ (fun r σ12223 hp => ?_)
      obtain ⟨P12226, oP12226, rP12226, pr12227, h12224, hp⟩ := hp
      have h12225 := HS.trans h12200 h12224 (by decide)
      have xP12226 := oP12226
      unfold OKP at xP12226
      unfold RA at rP12226
      have ga12228 := ga12204.of (h12224.2 (c + 1) (by rw [kC_at (k := 1) (by decide)]; decide))
      have ga12229 := ga12205.of (h12224.2 (c + 2) (by rw [kC_at (k := 2) (by decide)]; decide))
      have ga12230 := ga12206.of (h12224.2 (c + 3) (by rw [kC_at (k := 3) (by decide)]; decide))
      have ga12231 := ga12207.of (h12224.2 (c + 7) (by rw [kC_at (k := 7) (by decide)]; decide))
      have ga12232 := ga12208.of (h12224.2 (c + 8) (by rw [kC_at (k := 8) (by decide)]; decide))
      have ga12233 := ga12209.of (h12224.2 (c + 9) (by rw [kC_at (k := 9) (by decide)]; decide))
      have ga12234 := ga12210.of (h12224.2 (c + 11) (by rw [kC_at (k := 11) (by decide)]; decide))
      rcases pr12227 with ⟨e12235, l12237, l12238, ea12239, ⟨so12240, va12241, mt12242, yd12243⟩, rfl⟩ | ⟨e12235, ⟨fa12244, fb12245⟩, rfl⟩ | ⟨e12235, e12236, ⟨fa12244, fb12245⟩, rfl⟩
      · have bk12246 := tok_ok (t := t) (n := n) P12201.a (by omega)
        generalize ek12246 : tok t n P12201.a = k12246 at ea12239 mt12242 yd12243 bk12246
        rw [show P12201.a = k12215.2.2.2 by omega] at ek12246
        have hyd12247 := yd12243
        obtain ⟨yd12247, yd12248, yd12249, yd12250, yd12251, yd12252, yd12253⟩ := hyd12247
        refine m_istore_n F (lv' := [(2, .int (nI k12215.2.2.1)), (1, .int (nI (4 + fx nm k12185.2.2.1 P.n5))), (0, .ref c)]) e_X10_readFee_37 (by decide) rfl ?_
        refine m_aload_n F rfl e_X10_readFee_38 ?_
        refine r_getC F e_X10_readFee_39 fl_X10_141 h12225 (yd12252) ?_
        refine m_if_ne F e_X10_readFee_42 (fun q => absurd (by decide) q) (fun _ => ?_)
        refine m_aload_n F rfl e_X10_readFee_45 ?_
        refine r_get F e_X10_readFee_46 fl_X10_34 h12225 rfl (fun v hv f12254 => ?_)
        obtain rfl : v = .ref (c + 9) := hv
        refine m_iload_n F rfl e_X10_readFee_49 ?_
        refine m_iload_n F rfl e_X10_readFee_50 ?_
        refine m_iconst F (v := 1) (by decide) e_X10_readFee_51 ?_
        refine m_iadd F e_X10_readFee_52 ?_
        refine Wm.topE (w := nI (k12215.2.2.1 + 1)) (nI_add k12215.2.2.1 1) ?_
        refine r_iast F (g' := (⟨T, Z, u, h, P12226, L⟩ : RG)) (len := 8) (j := 4 + fx nm k12185.2.2.1 P.n5) e_X10_readFee_53 h12225 (fun _ h => h) (fun f h => ⟨f, rfl, h⟩) (by decide) (by decide) (nI_clamp (by omega)) (vp_in_nI (by omega) (by decide)) trivial (fun _ _ _ h => h) (fun _ _ _ h => h) (fun σ12255 h12256 g12257 f12258 g12259 => ?_)
        have ga12260 := ga12228.of (g12257 _ (by omega))
        have ga12261 := ga12229.of (g12257 _ (by omega))
        have ga12262 := ga12230.of (g12257 _ (by omega))
        have ga12263 := ga12231.of (g12257 _ (by omega))
        have ga12264 := ga12232.of (g12257 _ (by omega))
        have ga12265 := ga12234.of (g12257 _ (by omega))
        have ga12267 := FR.upbL (l := fx nm k12185.2.2.1 P.n5) (b' := 2) ga12264 (by decide)
        have ga12268 := KR.upbL (l := fx nm k12185.2.2.1 P.n5) (b' := 2) ga12263 (by decide) (by decide)
        have ga12266 := FR.put (b := 2) ga12233 (by omega) (by omega) f12258 g12259
        exact m_vret F hQ e_X10_readFee_54 (⟨P12226, oP12226, (by unfold RP; omega), (by unfold feeS; dsimp only; rw [ek12185, oncK_ok e12176 e12177 e3, ek12215, numK_ok e12235 l12237 l12238, ek12246]; exact RM.r mt12242 ⟨((fld_eq (g12257 _ (by omega))).trans yd12247), ((fld_eq (g12257 _ (by omega))).trans yd12248), ((fld_eq (g12257 _ (by omega))).trans yd12249), ((fld_eq (g12257 _ (by omega))).trans yd12250), ((fld_eq (g12257 _ (by omega))).trans yd12251), ((fld_eq (g12257 _ (by omega))).trans yd12252), ((fld_eq (g12257 _ (by omega))).trans yd12253)⟩ (by omega) (by omega) (by omega) ga12261 ga12262 ga12268 ga12267 ga12266 ga12265 (by omega) (by omega) (by omega) (by omega) (by omega)), h12256, rfl⟩)
      · have hz9 : True := trivial
        refine m_istore_n F (lv' := [(2, .int (nI 0)), (1, .int (nI (4 + fx nm k12185.2.2.1 P.n5))), (0, .ref c)]) e_X10_readFee_37 (by decide) rfl ?_
        refine m_aload_n F rfl e_X10_readFee_38 ?_
        refine r_getC F e_X10_readFee_39 fl_X10_141 h12225 (fa12244) ?_
        refine m_if_ne F e_X10_readFee_42 (fun _ => ?_) (fun q => absurd q (by decide))
        exact m_vret F hQ e_X10_readFee_54 (⟨P12226, oP12226, (by unfold RP; omega), (by unfold feeS; dsimp only; rw [ek12185, oncK_ok e12176 e12177 e3, ek12215, numK_1 e12235]; exact RM.l (fa12244) (fb12245) (by decide) (by decide) (by omega)), h12225, rfl⟩)
      · have hz9 : True := trivial
        refine m_istore_n F (lv' := [(2, .int (nI 0)), (1, .int (nI (4 + fx nm k12185.2.2.1 P.n5))), (0, .ref c)]) e_X10_readFee_37 (by decide) rfl ?_
        refine m_aload_n F rfl e_X10_readFee_38 ?_
        refine r_getC F e_X10_readFee_39 fl_X10_141 h12225 (fa12244) ?_
        refine m_if_ne F e_X10_readFee_42 (fun _ => ?_) (fun q => absurd q (by decide))
        exact m_vret F hQ e_X10_readFee_54 (⟨P12226, oP12226, (by unfold RP; omega), (by unfold feeS; dsimp only; rw [ek12185, oncK_ok e12176 e12177 e3, ek12215, numK_2 e12235 e12236]; exact RM.l (fa12244) (fb12245) (by decide) (by decide) (by omega)), h12225, rfl⟩)
    · have c18 : w12194 ≠ 0 := by have hh := mt (nI_eq (a := w12194) (b := 0) (by omega) (by omega)).mpr q18; omega
      have e3 : md (fx nm k12185.2.2.1 P.n5) 2 = true := by cases hmd : md (fx nm k12185.2.2.1 P.n5) 2 with | true => rfl | false => exact absurd (gw12194.mpr hmd) (by omega)
      refine m_aload_n F rfl e_X10_readFee_21 ?_
      refine m_iconst F (v := 3) (by decide) e_X10_readFee_22 ?_
      refine r_callV F e_X10_readFee_23 (q_X10_wrongE (x_l X) V c T Z u h P12167 L _ _ 3 n k12185.1 so12179 va12180 ln fp h12166.1 (hob) oP12167 (by omega) ⟨(yd12186), (yd12187), (yd12188), (yd12189), (yd12190), (yd12191), (yd12192)⟩ (by decide)) cb_X10_wrong ml_X10_150 im_X10_wrong se_X10_wrong h12166 rfl rfl (rest := []) rfl (Nat.le_of_ble_eq_true rfl) ⟨Nat.le_of_ble_eq_true rfl, Nat.le_of_ble_eq_true rfl⟩ ⟨Nat.le_of_ble_eq_true rfl, Nat.le_of_ble_eq_true rfl⟩ (fun r σ12269 hp => ?_)
      obtain ⟨h12270, hp⟩ := hp
      have h12271 := HS.trans h12166 h12270 (by decide)
      have ga12272 := ga12169.of (h12270.2 (c + 1) (by rw [kC_at (k := 1) (by decide)]; decide))
      have ga12273 := ga12170.of (h12270.2 (c + 2) (by rw [kC_at (k := 2) (by decide)]; decide))
      have ga12274 := ga12171.of (h12270.2 (c + 3) (by rw [kC_at (k := 3) (by decide)]; decide))
      have ga12275 := ga12172.of (h12270.2 (c + 7) (by rw [kC_at (k := 7) (by decide)]; decide))
      have ga12276 := ga12173.of (h12270.2 (c + 8) (by rw [kC_at (k := 8) (by decide)]; decide))
      have ga12277 := ga12174.of (h12270.2 (c + 9) (by rw [kC_at (k := 9) (by decide)]; decide))
      have ga12278 := ga12175.of (h12270.2 (c + 11) (by rw [kC_at (k := 11) (by decide)]; decide))
      obtain ⟨hp, rfl⟩ := hp
      have hyd12279 := hp
      obtain ⟨yd12279, yd12280, yd12281, yd12282, yd12283, yd12284, yd12285⟩ := hyd12279
      refine m_aload_n F rfl e_X10_readFee_26 ?_
      refine r_callV F e_X10_readFee_27 (q_X10_goOnG (x_l X) V c T 0 u h P12167 L _ _  3 h12271.1 (hob) oP12167  (yd12284) (by decide)) cb_X10_goOn ml_X10_154 im_X10_goOn se_X10_goOn h12271 rfl rfl (rest := []) rfl (Nat.le_of_ble_eq_true rfl) ⟨Nat.le_of_ble_eq_true rfl, Nat.le_of_ble_eq_true rfl⟩ ⟨Nat.le_of_ble_eq_true rfl, Nat.le_of_ble_eq_true rfl⟩ (fun r σ12286 hp => ?_)
      obtain ⟨h12287, hp⟩ := hp
      have h12288 := HS.trans h12271 h12287 (by decide)
      have ga12289 := ga12272.of (h12287.2 (c + 1) (by rw [kC_at (k := 1) (by decide)]; decide))
      have ga12290 := ga12273.of (h12287.2 (c + 2) (by rw [kC_at (k := 2) (by decide)]; decide))
      have ga12291 := ga12274.of (h12287.2 (c + 3) (by rw [kC_at (k := 3) (by decide)]; decide))
      have ga12292 := ga12275.of (h12287.2 (c + 7) (by rw [kC_at (k := 7) (by decide)]; decide))
      have ga12293 := ga12276.of (h12287.2 (c + 8) (by rw [kC_at (k := 8) (by decide)]; decide))
      have ga12294 := ga12277.of (h12287.2 (c + 9) (by rw [kC_at (k := 9) (by decide)]; decide))
      have ga12295 := ga12278.of (h12287.2 (c + 11) (by rw [kC_at (k := 11) (by decide)]; decide))
      obtain ⟨rfl, rfl⟩ := hp
      refine m_aload_n F rfl e_X10_readFee_30 ?_
      refine m_iconst F (v := 0) (by decide) e_X10_readFee_31 ?_
      refine m_ldc F kc_X10_177 e_X10_readFee_32 ?_
      refine r_callV F e_X10_readFee_34 (q_X10_numeralG (x_l X) V c T 0 u h P12167 L _ _ 0 99999 3 h12288.1 (hob) oP12167 (by omega) (by omega) (yd12284) (by decide)) cb_X10_numeral ml_X10_165 im_X10_numeral se_X10_numeral h12288 rfl rfl (rest := []) rfl (Nat.le_of_ble_eq_true rfl) ⟨Nat.le_of_ble_eq_true rfl, Nat.le_of_ble_eq_true rfl⟩ ⟨Nat.le_of_ble_eq_true rfl, Nat.le_of_ble_eq_true rfl⟩ (fun r σ12296 hp => ?_)
      obtain ⟨h12297, hp⟩ := hp
      have h12298 := HS.trans h12288 h12297 (by decide)
      have ga12299 := ga12272.of (h12297.2 (c + 1) (by rw [kC_at (k := 1) (by decide)]; decide))
      have ga12300 := ga12273.of (h12297.2 (c + 2) (by rw [kC_at (k := 2) (by decide)]; decide))
      have ga12301 := ga12274.of (h12297.2 (c + 3) (by rw [kC_at (k := 3) (by decide)]; decide))
      have ga12302 := ga12275.of (h12297.2 (c + 7) (by rw [kC_at (k := 7) (by decide)]; decide))
      have ga12303 := ga12276.of (h12297.2 (c + 8) (by rw [kC_at (k := 8) (by decide)]; decide))
      have ga12304 := ga12277.of (h12297.2 (c + 9) (by rw [kC_at (k := 9) (by decide)]; decide))
      have ga12305 := ga12278.of (h12297.2 (c + 11) (by rw [kC_at (k := 11) (by decide)]; decide))
      obtain ⟨rfl, rfl⟩ := hp
      refine m_istore_n F (lv' := [(2, .int (nI 0)), (1, .int (nI (4 + fx nm k12185.2.2.1 P.n5))), (0, .ref c)]) e_X10_readFee_37 (by decide) rfl ?_
      refine m_aload_n F rfl e_X10_readFee_38 ?_
      refine r_getC F e_X10_readFee_39 fl_X10_141 h12298 (yd12284) ?_
      refine m_if_ne F e_X10_readFee_42 (fun _ => ?_) (fun q => absurd q (by decide))
      have h12306 : HS V c _ [0, 2, 3, 4, 5, 6, 7, 8, 9, 11, 12, 13, 14, 15, 16, 17, 18, 19, 20, 21, 22, 23] _ _ := ⟨HR.mono (Z' := Z) (by intro e; first | rfl | assumption | omega) h12298.1, h12298.2⟩
      exact m_vret F hQ e_X10_readFee_54 (⟨P12167, oP12167, (by unfold RP; omega), (by unfold feeS; dsimp only; rw [ek12185, oncK_3 e12176 e12177 e3]; exact RM.l (yd12284) (yd12285) (by decide) (by decide) (by omega)), h12306, rfl⟩)
  · have hz9 : True := trivial
    refine m_istore_n F (lv' := [(1, .int (nI 4)), (0, .ref c)]) e_X10_readFee_4 (by decide) rfl ?_
    refine m_aload_n F rfl e_X10_readFee_5 ?_
    refine r_getC F e_X10_readFee_6 fl_X10_141 h12166 (fa12183) ?_
    refine m_if_ne F e_X10_readFee_9 (fun _ => ?_) (fun q => absurd q (by decide))
    refine m_aload_n F rfl e_X10_readFee_26 ?_
    refine r_callV F e_X10_readFee_27 (q_X10_goOnG (x_l X) V c T Z u h P12167 L _ _  1 h12166.1 (hob) oP12167  (fa12183) (by decide)) cb_X10_goOn ml_X10_154 im_X10_goOn se_X10_goOn h12166 rfl rfl (rest := []) rfl (Nat.le_of_ble_eq_true rfl) ⟨Nat.le_of_ble_eq_true rfl, Nat.le_of_ble_eq_true rfl⟩ ⟨Nat.le_of_ble_eq_true rfl, Nat.le_of_ble_eq_true rfl⟩ (fun r σ12307 hp => ?_)
    obtain ⟨h12308, hp⟩ := hp
    have h12309 := HS.trans h12166 h12308 (by decide)
    obtain ⟨rfl, rfl⟩ := hp
    refine m_aload_n F rfl e_X10_readFee_30 ?_
    refine m_iconst F (v := 0) (by decide) e_X10_readFee_31 ?_
    refine m_ldc F kc_X10_177 e_X10_readFee_32 ?_
    refine r_callV F e_X10_readFee_34 (q_X10_numeralG (x_l X) V c T Z u h P12167 L _ _ 0 99999 1 h12309.1 (hob) oP12167 (by omega) (by omega) (fa12183) (by decide)) cb_X10_numeral ml_X10_165 im_X10_numeral se_X10_numeral h12309 rfl rfl (rest := []) rfl (Nat.le_of_ble_eq_true rfl) ⟨Nat.le_of_ble_eq_true rfl, Nat.le_of_ble_eq_true rfl⟩ ⟨Nat.le_of_ble_eq_true rfl, Nat.le_of_ble_eq_true rfl⟩ (fun r σ12310 hp => ?_)
    obtain ⟨h12311, hp⟩ := hp
    have h12312 := HS.trans h12309 h12311 (by decide)
    obtain ⟨rfl, rfl⟩ := hp
    refine m_istore_n F (lv' := [(2, .int (nI 0)), (1, .int (nI 4)), (0, .ref c)]) e_X10_readFee_37 (by decide) rfl ?_
    refine m_aload_n F rfl e_X10_readFee_38 ?_
    refine r_getC F e_X10_readFee_39 fl_X10_141 h12312 (fa12183) ?_
    refine m_if_ne F e_X10_readFee_42 (fun _ => ?_) (fun q => absurd q (by decide))
    exact m_vret F hQ e_X10_readFee_54 (⟨P12167, oP12167, (by unfold RP; omega), (by unfold feeS; dsimp only; rw [ek12185, oncK_1 e12176]; exact RM.l (fa12183) (fb12184) (by decide) (by decide) (by omega)), h12312, rfl⟩)
  · have hz9 : True := trivial
    refine m_istore_n F (lv' := [(1, .int (nI 4)), (0, .ref c)]) e_X10_readFee_4 (by decide) rfl ?_
    refine m_aload_n F rfl e_X10_readFee_5 ?_
    refine r_getC F e_X10_readFee_6 fl_X10_141 h12166 (fa12183) ?_
    refine m_if_ne F e_X10_readFee_9 (fun _ => ?_) (fun q => absurd q (by decide))
    refine m_aload_n F rfl e_X10_readFee_26 ?_
    refine r_callV F e_X10_readFee_27 (q_X10_goOnG (x_l X) V c T Z u h P12167 L _ _  4 h12166.1 (hob) oP12167  (fa12183) (by decide)) cb_X10_goOn ml_X10_154 im_X10_goOn se_X10_goOn h12166 rfl rfl (rest := []) rfl (Nat.le_of_ble_eq_true rfl) ⟨Nat.le_of_ble_eq_true rfl, Nat.le_of_ble_eq_true rfl⟩ ⟨Nat.le_of_ble_eq_true rfl, Nat.le_of_ble_eq_true rfl⟩ (fun r σ12313 hp => ?_)
    obtain ⟨h12314, hp⟩ := hp
    have h12315 := HS.trans h12166 h12314 (by decide)
    obtain ⟨rfl, rfl⟩ := hp
    refine m_aload_n F rfl e_X10_readFee_30 ?_
    refine m_iconst F (v := 0) (by decide) e_X10_readFee_31 ?_
    refine m_ldc F kc_X10_177 e_X10_readFee_32 ?_
    refine r_callV F e_X10_readFee_34 (q_X10_numeralG (x_l X) V c T Z u h P12167 L _ _ 0 99999 4 h12315.1 (hob) oP12167 (by omega) (by omega) (fa12183) (by decide)) cb_X10_numeral ml_X10_165 im_X10_numeral se_X10_numeral h12315 rfl rfl (rest := []) rfl (Nat.le_of_ble_eq_true rfl) ⟨Nat.le_of_ble_eq_true rfl, Nat.le_of_ble_eq_true rfl⟩ ⟨Nat.le_of_ble_eq_true rfl, Nat.le_of_ble_eq_true rfl⟩ (fun r σ12316 hp => ?_)
    obtain ⟨h12317, hp⟩ := hp
    have h12318 := HS.trans h12315 h12317 (by decide)
    obtain ⟨rfl, rfl⟩ := hp
    refine m_istore_n F (lv' := [(2, .int (nI 0)), (1, .int (nI 4)), (0, .ref c)]) e_X10_readFee_37 (by decide) rfl ?_
    refine m_aload_n F rfl e_X10_readFee_38 ?_
    refine r_getC F e_X10_readFee_39 fl_X10_141 h12318 (fa12183) ?_
    refine m_if_ne F e_X10_readFee_42 (fun _ => ?_) (fun q => absurd q (by decide))
    exact m_vret F hQ e_X10_readFee_54 (⟨P12167, oP12167, (by unfold RP; omega), (by unfold feeS; dsimp only; rw [ek12185, oncK_4 e12176 e12177]; exact RM.l (fa12183) (fb12184) (by decide) (by decide) (by omega)), h12318, rfl⟩)
set_option maxRecDepth 20000 in
theorem q_X10_readSeedE (l : Launch) (V : VX) (c T Z u h : Nat) (P : NP) (L : Nat → LQ) (N : Nat) (σ : Mem) (n st : Nat) (so va : Int32) (ln : Nat) (fp : Int32) (t : Nat → Nat) (s9 v9 : Nat) (nm : Nat → Nat) (np lc no sd : Nat) (md : Nat → Nat → Bool) (h0 : HR V c ⟨T, Z, u, h, P, L⟩ σ) (hob : OKB L) (hP : OKP P) (hp0 : YD σ c n st so va ln 0 fp) (hp1 : BR σ c n t) (hp2 : n ≤ 700) (hp3 : P.a ≤ n) (hp4 : MT so va s9 v9) (hp5 : st ≤ n) (hp6 : NR σ c np no sd) (hp7 : MR σ c P.n5 nm) (hp8 : KR σ c P.n5 md) (hp9 : FR σ c 8 1 P.n5 md) (hp10 : FR σ c 9 2 P.n5 md) (hp11 : QR σ c P.n7 lc) (hp12 : np ≤ 12) (hp13 : no ≤ 4) (hp14 : sd ≤ 1) : Ct l V yX10_readSeed cX10_readSeed 1 none 8 0 0 N σ [.ref c] (fun r τ => ∃ P9 : NP, OKP P9 ∧ RP P P9 ∧ RM τ c n P9 (seedS (tok t n) (st, s9, v9, P.a) P.n5 nm np P.n7 lc no sd md ln) ∧ HS V c (⟨T, Z, u, h, P9, L⟩ : RG) [0, 2, 4, 5, 6, 7, 8, 9, 10, 11, 12, 13, 14, 15, 16, 17, 18, 19, 20, 21, 22, 23] σ τ ∧ r = none) := by
  refine Ct.of (by decide) (Nat.le_of_ble_eq_true rfl) [(0, .ref c)] rfl (fun X hX F hQ => ?_)
  have hPP := hP
  unfold OKP at hPP
  have h1 : HS V c ⟨T, Z, u, h, P, L⟩ [0, 2, 4, 5, 6, 7, 8, 9, 10, 11, 12, 13, 14, 15, 16, 17, 18, 19, 20, 21, 22, 23] σ σ := HS.start h0
  have hyd12319 := hp0
  obtain ⟨yd12319, yd12320, yd12321, yd12322, yd12323, yd12324, yd12325⟩ := hyd12319
  have hn7 := hp2
  refine m_aload_n F rfl e_X10_readSeed_0 ?_
  refine m_iconst F (v := 4) (by decide) e_X10_readSeed_1 ?_
  refine r_callV F e_X10_readSeed_2 (q_X10_reading4E (x_l X) V c T Z u h P L _ _  np no sd h1.1 (hob) hP  hp6) cb_X10_reading ml_X10_157 im_X10_reading se_X10_reading h1 rfl rfl (rest := []) rfl (Nat.le_of_ble_eq_true rfl) ⟨Nat.le_of_ble_eq_true rfl, Nat.le_of_ble_eq_true rfl⟩ ⟨Nat.le_of_ble_eq_true rfl, Nat.le_of_ble_eq_true rfl⟩ (fun r σ12326 hp => ?_)
  obtain ⟨h12327, hp⟩ := hp
  have h12328 := HS.trans h1 h12327 (by decide)
  have ga12329 := hp1.of (h12327.2 (c + 1) (by rw [kC_at (k := 1) (by decide)]; decide))
  have ga12330 := hp6.of (h12327.2 (c + 2) (by rw [kC_at (k := 2) (by decide)]; decide))
  have ga12331 := hp7.of (h12327.2 (c + 3) (by rw [kC_at (k := 3) (by decide)]; decide))
  have ga12332 := hp8.of (h12327.2 (c + 7) (by rw [kC_at (k := 7) (by decide)]; decide))
  have ga12333 := hp9.of (h12327.2 (c + 8) (by rw [kC_at (k := 8) (by decide)]; decide))
  have ga12334 := hp10.of (h12327.2 (c + 9) (by rw [kC_at (k := 9) (by decide)]; decide))
  have ga12335 := hp11.of (h12327.2 (c + 11) (by rw [kC_at (k := 11) (by decide)]; decide))
  obtain ⟨w12336, hw12336, gw12336, rfl⟩ := hp
  refine m_if_eq F e_X10_readSeed_5 (fun q5 => ?_) (fun q5 => ?_)
  · have c5 : w12336 = 0 := (nI_eq (a := w12336) (b := 0) (by omega) (by omega)).mp q5
    refine m_aload_n F rfl e_X10_readSeed_13 ?_
    refine r_callV F e_X10_readSeed_14 (q_X10_goOnE (x_l X) V c T Z u h P L _ _  n st so va ln fp t h12328.1 (hob) hP  ⟨((fld_eq (h12327.2 c (by rw [show kC c c = 1 from kC_at (k := 0) (by decide)]; decide))).trans yd12319), ((fld_eq (h12327.2 c (by rw [show kC c c = 1 from kC_at (k := 0) (by decide)]; decide))).trans yd12320), ((fld_eq (h12327.2 c (by rw [show kC c c = 1 from kC_at (k := 0) (by decide)]; decide))).trans yd12321), ((fld_eq (h12327.2 c (by rw [show kC c c = 1 from kC_at (k := 0) (by decide)]; decide))).trans yd12322), ((fld_eq (h12327.2 c (by rw [show kC c c = 1 from kC_at (k := 0) (by decide)]; decide))).trans yd12323), ((fld_eq (h12327.2 c (by rw [show kC c c = 1 from kC_at (k := 0) (by decide)]; decide))).trans yd12324), ((fld_eq (h12327.2 c (by rw [show kC c c = 1 from kC_at (k := 0) (by decide)]; decide))).trans yd12325)⟩ ga12329 hn7 (by omega)) cb_X10_goOn ml_X10_154 im_X10_goOn se_X10_goOn h12328 rfl rfl (rest := []) rfl (Nat.le_of_ble_eq_true rfl) ⟨Nat.le_of_ble_eq_true rfl, Nat.le_of_ble_eq_true rfl⟩ ⟨Nat.le_of_ble_eq_true rfl, Nat.le_of_ble_eq_true rfl⟩ (fun r σ12337 hp => ?_)
    obtain ⟨P12340, oP12340, rP12340, pr12341, pr12342, h12338, hp⟩ := hp
    have h12339 := HS.trans h12328 h12338 (by decide)
    have xP12340 := oP12340
    unfold OKP at xP12340
    unfold RA at rP12340
    have ga12343 := ga12329.of (h12338.2 (c + 1) (by rw [kC_at (k := 1) (by decide)]; decide))
    have ga12344 := ga12330.of (h12338.2 (c + 2) (by rw [kC_at (k := 2) (by decide)]; decide))
    have ga12345 := ga12331.of (h12338.2 (c + 3) (by rw [kC_at (k := 3) (by decide)]; decide))
    have ga12346 := ga12332.of (h12338.2 (c + 7) (by rw [kC_at (k := 7) (by decide)]; decide))
    have ga12347 := ga12333.of (h12338.2 (c + 8) (by rw [kC_at (k := 8) (by decide)]; decide))
    have ga12348 := ga12334.of (h12338.2 (c + 9) (by rw [kC_at (k := 9) (by decide)]; decide))
    have ga12349 := ga12335.of (h12338.2 (c + 11) (by rw [kC_at (k := 11) (by decide)]; decide))
    obtain rfl := hp
    obtain ⟨so12350, va12351, mt12352, yd12353⟩ := pr12342
    generalize ek12354 : tok t n P.a = k12354 at pr12341 mt12352 yd12353
    have bk12354 := tok_ok (t := t) (n := n) P.a (by omega)
    rw [ek12354] at bk12354
    have hyd12355 := yd12353
    obtain ⟨yd12355, yd12356, yd12357, yd12358, yd12359, yd12360, yd12361⟩ := hyd12355
    refine m_aload_n F rfl e_X10_readSeed_17 ?_
    refine m_iconst F (v := 4) (by decide) e_X10_readSeed_18 ?_
    refine m_aload_n F rfl e_X10_readSeed_19 ?_
    refine m_iconst F (v := 0) (by decide) e_X10_readSeed_20 ?_
    refine m_ldc F kc_X10_177 e_X10_readSeed_21 ?_
    refine r_callV F e_X10_readSeed_23 (q_X10_numeralE (x_l X) V c T Z u h P12340 L _ _ 0 99999 n k12354.1 so12350 va12351 ln fp t k12354.2.1 k12354.2.2.1 h12339.1 (hob) oP12340 (by omega) (by omega) ⟨(yd12355), (yd12356), (yd12357), (yd12358), (yd12359), (yd12360), (yd12361)⟩ ga12343 hn7 (by omega) mt12352) cb_X10_numeral ml_X10_165 im_X10_numeral se_X10_numeral h12339 rfl rfl (rest := [.int 4, .ref c]) rfl (Nat.le_of_ble_eq_true rfl) ⟨Nat.le_of_ble_eq_true rfl, Nat.le_of_ble_eq_true rfl⟩ ⟨Nat.le_of_ble_eq_true rfl, Nat.le_of_ble_eq_true rfl⟩ (fun r σ12362 hp => ?_)
    obtain ⟨P12365, oP12365, rP12365, pr12366, h12363, hp⟩ := hp
    have h12364 := HS.trans h12339 h12363 (by decide)
    have xP12365 := oP12365
    unfold OKP at xP12365
    unfold RA at rP12365
    have ga12367 := ga12343.of (h12363.2 (c + 1) (by rw [kC_at (k := 1) (by decide)]; decide))
    have ga12368 := ga12344.of (h12363.2 (c + 2) (by rw [kC_at (k := 2) (by decide)]; decide))
    have ga12369 := ga12345.of (h12363.2 (c + 3) (by rw [kC_at (k := 3) (by decide)]; decide))
    have ga12370 := ga12346.of (h12363.2 (c + 7) (by rw [kC_at (k := 7) (by decide)]; decide))
    have ga12371 := ga12347.of (h12363.2 (c + 8) (by rw [kC_at (k := 8) (by decide)]; decide))
    have ga12372 := ga12348.of (h12363.2 (c + 9) (by rw [kC_at (k := 9) (by decide)]; decide))
    have ga12373 := ga12349.of (h12363.2 (c + 11) (by rw [kC_at (k := 11) (by decide)]; decide))
    rcases pr12366 with ⟨e12374, l12376, l12377, ea12378, ⟨so12379, va12380, mt12381, yd12382⟩, rfl⟩ | ⟨e12374, ⟨fa12383, fb12384⟩, rfl⟩ | ⟨e12374, e12375, ⟨fa12383, fb12384⟩, rfl⟩
    · have bk12385 := tok_ok (t := t) (n := n) P12340.a (by omega)
      generalize ek12385 : tok t n P12340.a = k12385 at ea12378 mt12381 yd12382 bk12385
      rw [show P12340.a = k12354.2.2.2 by omega] at ek12385
      have hyd12386 := yd12382
      obtain ⟨yd12386, yd12387, yd12388, yd12389, yd12390, yd12391, yd12392⟩ := hyd12386
      refine m_iconst F (v := 1) (by decide) e_X10_readSeed_26 ?_
      refine m_iadd F e_X10_readSeed_27 ?_
      refine Wm.topE (w := nI (k12354.2.2.1 + 1)) (nI_add k12354.2.2.1 1) ?_
      refine r_callV F e_X10_readSeed_28 (q_X10_reads4E (x_l X) V c T Z u h P12365 L _ _ (k12354.2.2.1 + 1)  h12364.1 (hob) oP12365 (by omega) ) cb_X10_reads ml_X10_170 im_X10_reads se_X10_reads h12364 rfl rfl (rest := []) rfl (Nat.le_of_ble_eq_true rfl) ⟨Nat.le_of_ble_eq_true rfl, Nat.le_of_ble_eq_true rfl⟩ ⟨Nat.le_of_ble_eq_true rfl, Nat.le_of_ble_eq_true rfl⟩ (fun r σ12393 hp => ?_)
      obtain ⟨h12394, hp⟩ := hp
      have h12395 := HS.trans h12364 h12394 (by decide)
      have ga12396 := ga12367.of (h12394.2 (c + 1) (by rw [kC_at (k := 1) (by decide)]; decide))
      have ga12397 := ga12369.of (h12394.2 (c + 3) (by rw [kC_at (k := 3) (by decide)]; decide))
      have ga12398 := ga12370.of (h12394.2 (c + 7) (by rw [kC_at (k := 7) (by decide)]; decide))
      have ga12399 := ga12371.of (h12394.2 (c + 8) (by rw [kC_at (k := 8) (by decide)]; decide))
      have ga12400 := ga12372.of (h12394.2 (c + 9) (by rw [kC_at (k := 9) (by decide)]; decide))
      have ga12401 := ga12373.of (h12394.2 (c + 11) (by rw [kC_at (k := 11) (by decide)]; decide))
      obtain ⟨ea12402, eb12403, rfl⟩ := hp
      have ga12404 := NR.s ga12368 (by omega) (by omega) ea12402 eb12403
      exact m_vret F hQ e_X10_readSeed_31 (⟨P12365, oP12365, (by unfold RP; omega), (by unfold seedS; dsimp only; rw [if_pos (by omega), ek12354, numK_ok e12374 l12376 l12377, ek12385]; exact RM.r mt12381 ⟨((fld_eq (h12394.2 c (by rw [show kC c c = 1 from kC_at (k := 0) (by decide)]; decide))).trans yd12386), ((fld_eq (h12394.2 c (by rw [show kC c c = 1 from kC_at (k := 0) (by decide)]; decide))).trans yd12387), ((fld_eq (h12394.2 c (by rw [show kC c c = 1 from kC_at (k := 0) (by decide)]; decide))).trans yd12388), ((fld_eq (h12394.2 c (by rw [show kC c c = 1 from kC_at (k := 0) (by decide)]; decide))).trans yd12389), ((fld_eq (h12394.2 c (by rw [show kC c c = 1 from kC_at (k := 0) (by decide)]; decide))).trans yd12390), ((fld_eq (h12394.2 c (by rw [show kC c c = 1 from kC_at (k := 0) (by decide)]; decide))).trans yd12391), ((fld_eq (h12394.2 c (by rw [show kC c c = 1 from kC_at (k := 0) (by decide)]; decide))).trans yd12392)⟩ (by omega) (by omega) (by omega) ga12404 ga12397 ga12398 ga12399 ga12400 ga12401 (by omega) (by omega) (by omega) (by omega) (by omega)), h12395, rfl⟩)
    · have hz9 : True := trivial
      refine m_iconst F (v := 1) (by decide) e_X10_readSeed_26 ?_
      refine m_iadd F e_X10_readSeed_27 ?_
      refine Wm.topE (w := nI (0 + 1)) (nI_add 0 1) ?_
      refine r_callV F e_X10_readSeed_28 (q_X10_reads4 (x_l X) V c T Z u h P12365 L _ _ (nI (0 + 1)) h12364.1 (hob) oP12365 ) cb_X10_reads ml_X10_170 im_X10_reads se_X10_reads h12364 rfl rfl (rest := []) rfl (Nat.le_of_ble_eq_true rfl) ⟨Nat.le_of_ble_eq_true rfl, Nat.le_of_ble_eq_true rfl⟩ ⟨Nat.le_of_ble_eq_true rfl, Nat.le_of_ble_eq_true rfl⟩ (fun r σ12405 hp => ?_)
      obtain ⟨h12406, rfl⟩ := hp
      have h12407 := HS.trans h12364 h12406 (by decide)
      exact m_vret F hQ e_X10_readSeed_31 (⟨P12365, oP12365, (by unfold RP; omega), (by unfold seedS; dsimp only; rw [if_pos (by omega), ek12354, numK_1 e12374]; exact RM.l ((fld_eq (h12406.2 c (by rw [show kC c c = 1 from kC_at (k := 0) (by decide)]; decide))).trans fa12383) ((fld_eq (h12406.2 c (by rw [show kC c c = 1 from kC_at (k := 0) (by decide)]; decide))).trans fb12384) (by decide) (by decide) (by omega)), h12407, rfl⟩)
    · have hz9 : True := trivial
      refine m_iconst F (v := 1) (by decide) e_X10_readSeed_26 ?_
      refine m_iadd F e_X10_readSeed_27 ?_
      refine Wm.topE (w := nI (0 + 1)) (nI_add 0 1) ?_
      refine r_callV F e_X10_readSeed_28 (q_X10_reads4 (x_l X) V c T Z u h P12365 L _ _ (nI (0 + 1)) h12364.1 (hob) oP12365 ) cb_X10_reads ml_X10_170 im_X10_reads se_X10_reads h12364 rfl rfl (rest := []) rfl (Nat.le_of_ble_eq_true rfl) ⟨Nat.le_of_ble_eq_true rfl, Nat.le_of_ble_eq_true rfl⟩ ⟨Nat.le_of_ble_eq_true rfl, Nat.le_of_ble_eq_true rfl⟩ (fun r σ12408 hp => ?_)
      obtain ⟨h12409, rfl⟩ := hp
      have h12410 := HS.trans h12364 h12409 (by decide)
      exact m_vret F hQ e_X10_readSeed_31 (⟨P12365, oP12365, (by unfold RP; omega), (by unfold seedS; dsimp only; rw [if_pos (by omega), ek12354, numK_2 e12374 e12375]; exact RM.l ((fld_eq (h12409.2 c (by rw [show kC c c = 1 from kC_at (k := 0) (by decide)]; decide))).trans fa12383) ((fld_eq (h12409.2 c (by rw [show kC c c = 1 from kC_at (k := 0) (by decide)]; decide))).trans fb12384) (by decide) (by decide) (by omega)), h12410, rfl⟩)
  · have c5 : w12336 ≠ 0 := by have hh := mt (nI_eq (a := w12336) (b := 0) (by omega) (by omega)).mpr q5; omega
    refine m_aload_n F rfl e_X10_readSeed_8 ?_
    refine m_iconst F (v := 3) (by decide) e_X10_readSeed_9 ?_
    refine r_callV F e_X10_readSeed_10 (q_X10_wrongE (x_l X) V c T Z u h P L _ _ 3 n st so va ln fp h12328.1 (hob) hP (by omega) ⟨((fld_eq (h12327.2 c (by rw [show kC c c = 1 from kC_at (k := 0) (by decide)]; decide))).trans yd12319), ((fld_eq (h12327.2 c (by rw [show kC c c = 1 from kC_at (k := 0) (by decide)]; decide))).trans yd12320), ((fld_eq (h12327.2 c (by rw [show kC c c = 1 from kC_at (k := 0) (by decide)]; decide))).trans yd12321), ((fld_eq (h12327.2 c (by rw [show kC c c = 1 from kC_at (k := 0) (by decide)]; decide))).trans yd12322), ((fld_eq (h12327.2 c (by rw [show kC c c = 1 from kC_at (k := 0) (by decide)]; decide))).trans yd12323), ((fld_eq (h12327.2 c (by rw [show kC c c = 1 from kC_at (k := 0) (by decide)]; decide))).trans yd12324), ((fld_eq (h12327.2 c (by rw [show kC c c = 1 from kC_at (k := 0) (by decide)]; decide))).trans yd12325)⟩ (by decide)) cb_X10_wrong ml_X10_150 im_X10_wrong se_X10_wrong h12328 rfl rfl (rest := []) rfl (Nat.le_of_ble_eq_true rfl) ⟨Nat.le_of_ble_eq_true rfl, Nat.le_of_ble_eq_true rfl⟩ ⟨Nat.le_of_ble_eq_true rfl, Nat.le_of_ble_eq_true rfl⟩ (fun r σ12411 hp => ?_)
    obtain ⟨h12412, hp⟩ := hp
    have h12413 := HS.trans h12328 h12412 (by decide)
    have ga12414 := ga12329.of (h12412.2 (c + 1) (by rw [kC_at (k := 1) (by decide)]; decide))
    have ga12415 := ga12330.of (h12412.2 (c + 2) (by rw [kC_at (k := 2) (by decide)]; decide))
    have ga12416 := ga12331.of (h12412.2 (c + 3) (by rw [kC_at (k := 3) (by decide)]; decide))
    have ga12417 := ga12332.of (h12412.2 (c + 7) (by rw [kC_at (k := 7) (by decide)]; decide))
    have ga12418 := ga12333.of (h12412.2 (c + 8) (by rw [kC_at (k := 8) (by decide)]; decide))
    have ga12419 := ga12334.of (h12412.2 (c + 9) (by rw [kC_at (k := 9) (by decide)]; decide))
    have ga12420 := ga12335.of (h12412.2 (c + 11) (by rw [kC_at (k := 11) (by decide)]; decide))
    obtain ⟨hp, rfl⟩ := hp
    have hyd12421 := hp
    obtain ⟨yd12421, yd12422, yd12423, yd12424, yd12425, yd12426, yd12427⟩ := hyd12421
    refine m_aload_n F rfl e_X10_readSeed_13 ?_
    refine r_callV F e_X10_readSeed_14 (q_X10_goOnG (x_l X) V c T 0 u h P L _ _  3 h12413.1 (hob) hP  (yd12426) (by decide)) cb_X10_goOn ml_X10_154 im_X10_goOn se_X10_goOn h12413 rfl rfl (rest := []) rfl (Nat.le_of_ble_eq_true rfl) ⟨Nat.le_of_ble_eq_true rfl, Nat.le_of_ble_eq_true rfl⟩ ⟨Nat.le_of_ble_eq_true rfl, Nat.le_of_ble_eq_true rfl⟩ (fun r σ12428 hp => ?_)
    obtain ⟨h12429, hp⟩ := hp
    have h12430 := HS.trans h12413 h12429 (by decide)
    have ga12431 := ga12414.of (h12429.2 (c + 1) (by rw [kC_at (k := 1) (by decide)]; decide))
    have ga12432 := ga12415.of (h12429.2 (c + 2) (by rw [kC_at (k := 2) (by decide)]; decide))
    have ga12433 := ga12416.of (h12429.2 (c + 3) (by rw [kC_at (k := 3) (by decide)]; decide))
    have ga12434 := ga12417.of (h12429.2 (c + 7) (by rw [kC_at (k := 7) (by decide)]; decide))
    have ga12435 := ga12418.of (h12429.2 (c + 8) (by rw [kC_at (k := 8) (by decide)]; decide))
    have ga12436 := ga12419.of (h12429.2 (c + 9) (by rw [kC_at (k := 9) (by decide)]; decide))
    have ga12437 := ga12420.of (h12429.2 (c + 11) (by rw [kC_at (k := 11) (by decide)]; decide))
    obtain ⟨rfl, rfl⟩ := hp
    refine m_aload_n F rfl e_X10_readSeed_17 ?_
    refine m_iconst F (v := 4) (by decide) e_X10_readSeed_18 ?_
    refine m_aload_n F rfl e_X10_readSeed_19 ?_
    refine m_iconst F (v := 0) (by decide) e_X10_readSeed_20 ?_
    refine m_ldc F kc_X10_177 e_X10_readSeed_21 ?_
    refine r_callV F e_X10_readSeed_23 (q_X10_numeralG (x_l X) V c T 0 u h P L _ _ 0 99999 3 h12430.1 (hob) hP (by omega) (by omega) (yd12426) (by decide)) cb_X10_numeral ml_X10_165 im_X10_numeral se_X10_numeral h12430 rfl rfl (rest := [.int 4, .ref c]) rfl (Nat.le_of_ble_eq_true rfl) ⟨Nat.le_of_ble_eq_true rfl, Nat.le_of_ble_eq_true rfl⟩ ⟨Nat.le_of_ble_eq_true rfl, Nat.le_of_ble_eq_true rfl⟩ (fun r σ12438 hp => ?_)
    obtain ⟨h12439, hp⟩ := hp
    have h12440 := HS.trans h12430 h12439 (by decide)
    have ga12441 := ga12414.of (h12439.2 (c + 1) (by rw [kC_at (k := 1) (by decide)]; decide))
    have ga12442 := ga12415.of (h12439.2 (c + 2) (by rw [kC_at (k := 2) (by decide)]; decide))
    have ga12443 := ga12416.of (h12439.2 (c + 3) (by rw [kC_at (k := 3) (by decide)]; decide))
    have ga12444 := ga12417.of (h12439.2 (c + 7) (by rw [kC_at (k := 7) (by decide)]; decide))
    have ga12445 := ga12418.of (h12439.2 (c + 8) (by rw [kC_at (k := 8) (by decide)]; decide))
    have ga12446 := ga12419.of (h12439.2 (c + 9) (by rw [kC_at (k := 9) (by decide)]; decide))
    have ga12447 := ga12420.of (h12439.2 (c + 11) (by rw [kC_at (k := 11) (by decide)]; decide))
    obtain ⟨rfl, rfl⟩ := hp
    refine m_iconst F (v := 1) (by decide) e_X10_readSeed_26 ?_
    refine m_iadd F e_X10_readSeed_27 ?_
    refine Wm.topE (w := nI (0 + 1)) (nI_add 0 1) ?_
    refine r_callV F e_X10_readSeed_28 (q_X10_reads4 (x_l X) V c T 0 u h P L _ _ (nI (0 + 1)) h12440.1 (hob) hP ) cb_X10_reads ml_X10_170 im_X10_reads se_X10_reads h12440 rfl rfl (rest := []) rfl (Nat.le_of_ble_eq_true rfl) ⟨Nat.le_of_ble_eq_true rfl, Nat.le_of_ble_eq_true rfl⟩ ⟨Nat.le_of_ble_eq_true rfl, Nat.le_of_ble_eq_true rfl⟩ (fun r σ12448 hp => ?_)
    obtain ⟨h12449, rfl⟩ := hp
    have h12450 := HS.trans h12440 h12449 (by decide)
    have ga12451 := ga12414.of (h12449.2 (c + 1) (by rw [kC_at (k := 1) (by decide)]; decide))
    have ga12452 := ga12416.of (h12449.2 (c + 3) (by rw [kC_at (k := 3) (by decide)]; decide))
    have ga12453 := ga12417.of (h12449.2 (c + 7) (by rw [kC_at (k := 7) (by decide)]; decide))
    have ga12454 := ga12418.of (h12449.2 (c + 8) (by rw [kC_at (k := 8) (by decide)]; decide))
    have ga12455 := ga12419.of (h12449.2 (c + 9) (by rw [kC_at (k := 9) (by decide)]; decide))
    have ga12456 := ga12420.of (h12449.2 (c + 11) (by rw [kC_at (k := 11) (by decide)]; decide))
    have h12457 : HS V c _ [0, 2, 4, 5, 6, 7, 8, 9, 10, 11, 12, 13, 14, 15, 16, 17, 18, 19, 20, 21, 22, 23] _ _ := ⟨HR.mono (Z' := Z) (by intro e; first | rfl | assumption | omega) h12450.1, h12450.2⟩
    exact m_vret F hQ e_X10_readSeed_31 (⟨P, hP, (by unfold RP; omega), (by unfold seedS; dsimp only; rw [if_neg (by omega)]; exact RM.l ((fld_eq (h12449.2 c (by rw [show kC c c = 1 from kC_at (k := 0) (by decide)]; decide))).trans yd12426) ((fld_eq (h12449.2 c (by rw [show kC c c = 1 from kC_at (k := 0) (by decide)]; decide))).trans yd12427) (by decide) (by decide) (by omega)), h12457, rfl⟩)
