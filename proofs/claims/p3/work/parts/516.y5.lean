set_option maxRecDepth 20000 in
theorem q_X10_readMark1E (l : Launch) (V : VX) (c T Z u h : Nat) (P : NP) (L : Nat → LQ) (N : Nat) (σ : Mem) (n st : Nat) (so va : Int32) (ln : Nat) (fp : Int32) (t : Nat → Nat) (s9 v9 : Nat) (nm : Nat → Nat) (np lc no sd : Nat) (md : Nat → Nat → Bool) (h0 : HR V c ⟨T, Z, u, h, P, L⟩ σ) (hob : OKB L) (hP : OKP P) (hp0 : YD σ c n st so va ln 0 fp) (hp1 : BR σ c n t) (hp2 : n ≤ 700) (hp3 : P.a ≤ n) (hp4 : MT so va s9 v9) (hp5 : st ≤ n) (hp6 : NR σ c np no sd) (hp7 : MR σ c P.n5 nm) (hp8 : KR σ c P.n5 md) (hp9 : FR σ c 8 1 P.n5 md) (hp10 : FR σ c 9 2 P.n5 md) (hp11 : QR σ c P.n7 lc) (hp12 : np ≤ 12) (hp13 : no ≤ 4) (hp14 : sd ≤ 1) : Ct l V yX10_readMark cX10_readMark 3 none 8 0 0 N σ [.ref c, .int 1] (fun r τ => ∃ P9 : NP, OKP P9 ∧ RP P P9 ∧ RM τ c n P9 (earlyS (tok t n) (st, s9, v9, P.a) P.n5 nm np P.n7 lc no sd md ln) ∧ HS V c (⟨T, Z, u, h, P9, L⟩ : RG) [0, 2, 3, 4, 5, 6, 7, 9, 10, 11, 12, 13, 14, 15, 16, 17, 18, 19, 20, 21, 22, 23] σ τ ∧ r = none) := by
  refine Ct.of (by decide) (Nat.le_of_ble_eq_true rfl) [(0, .ref c), (1, .int 1)] rfl (fun X hX F hQ => ?_)
  have hPP := hP
  unfold OKP at hPP
  have h1 : HS V c ⟨T, Z, u, h, P, L⟩ [0, 2, 3, 4, 5, 6, 7, 9, 10, 11, 12, 13, 14, 15, 16, 17, 18, 19, 20, 21, 22, 23] σ σ := HS.start h0
  have hyd11860 := hp0
  obtain ⟨yd11860, yd11861, yd11862, yd11863, yd11864, yd11865, yd11866⟩ := hyd11860
  have hn7 := hp2
  refine m_aload_n F rfl e_X10_readMark_0 ?_
  refine r_callV F e_X10_readMark_1 (q_X10_atHandE (x_l X) V c T Z u h P L _ _  n st so va ln fp t nm h1.1 (hob) hP  ⟨(yd11860), (yd11861), (yd11862), (yd11863), (yd11864), (yd11865), (yd11866)⟩ hp1 hn7 (by omega) hp7) cb_X10_atHand ml_X10_174 im_X10_atHand se_X10_atHand h1 rfl rfl (rest := []) rfl (Nat.le_of_ble_eq_true rfl) ⟨Nat.le_of_ble_eq_true rfl, Nat.le_of_ble_eq_true rfl⟩ ⟨Nat.le_of_ble_eq_true rfl, Nat.le_of_ble_eq_true rfl⟩ (fun r σ11867 hp => ?_)
  obtain ⟨P11870, oP11870, rP11870, pr11871, h11868, hp⟩ := hp
  have h11869 := HS.trans h1 h11868 (by decide)
  have xP11870 := oP11870
  unfold OKP at xP11870
  unfold RA at rP11870
  have ga11872 := hp1.of (h11868.2 (c + 1) (by rw [kC_at (k := 1) (by decide)]; decide))
  have ga11873 := hp6.of (h11868.2 (c + 2) (by rw [kC_at (k := 2) (by decide)]; decide))
  have ga11874 := hp7.of (h11868.2 (c + 3) (by rw [kC_at (k := 3) (by decide)]; decide))
  have ga11875 := hp8.of (h11868.2 (c + 7) (by rw [kC_at (k := 7) (by decide)]; decide))
  have ga11876 := hp9.of (h11868.2 (c + 8) (by rw [kC_at (k := 8) (by decide)]; decide))
  have ga11877 := hp10.of (h11868.2 (c + 9) (by rw [kC_at (k := 9) (by decide)]; decide))
  have ga11878 := hp11.of (h11868.2 (c + 11) (by rw [kC_at (k := 11) (by decide)]; decide))
  have bk11888 := tok_ok (t := t) (n := n) P.a (by omega)
  generalize ek11888 : tok t n P.a = k11888 at pr11871 bk11888
  rcases pr11871 with ⟨e11879, e11880, ea11881, ⟨so11882, va11883, mt11884, yd11885⟩, rfl⟩ | ⟨e11879, ⟨fa11886, fb11887⟩, rfl⟩ | ⟨e11879, e11880, ⟨fa11886, fb11887⟩, rfl⟩
  · have hyd11889 := yd11885
    obtain ⟨yd11889, yd11890, yd11891, yd11892, yd11893, yd11894, yd11895⟩ := hyd11889
    refine m_istore_n F (lv' := [(2, .int (nI (4 + fx nm k11888.2.2.1 P.n5))), (0, .ref c), (1, .int 1)]) e_X10_readMark_4 (by decide) rfl ?_
    refine m_aload_n F rfl e_X10_readMark_5 ?_
    refine r_getC F e_X10_readMark_6 fl_X10_141 h11869 (yd11894) ?_
    refine m_if_ne F e_X10_readMark_9 (fun q => absurd (by decide) q) (fun _ => ?_)
    refine m_aload_n F rfl e_X10_readMark_12 ?_
    refine r_get F e_X10_readMark_13 fl_X10_28 h11869 rfl (fun v hv f11896 => ?_)
    obtain rfl : v = .ref (c + 7) := hv
    refine m_iload_n F rfl e_X10_readMark_16 ?_
    refine r_iald F (len := 8) (j := 4 + fx nm k11888.2.2.1 P.n5) e_X10_readMark_17 h11869 (fun _ h => h) (by decide) (nI_clamp (by omega)) (vp_in_nI (by omega) (by decide)) (fun x11897 h11898 f11899 => ?_)
    obtain rfl := Option.some.inj ((f11899).symm.trans (ga11875 (fx nm k11888.2.2.1 P.n5) e11880))
    refine m_iload_n F rfl e_X10_readMark_18 ?_
    refine m_iand F e_X10_readMark_19 ?_
    refine m_if_eq F e_X10_readMark_20 (fun q20 => ?_) (fun q20 => ?_)
    · have e3 : md (fx nm k11888.2.2.1 P.n5) 0 = false := mk2_and.1.mp q20
      refine m_aload_n F rfl e_X10_readMark_28 ?_
      refine r_getC F e_X10_readMark_29 fl_X10_141 h11869 (yd11894) ?_
      refine m_if_ne F e_X10_readMark_32 (fun q => absurd (by decide) q) (fun _ => ?_)
      refine m_aload_n F rfl e_X10_readMark_35 ?_
      refine r_getC F e_X10_readMark_36 fl_X10_28 h11869 (f11896) ?_
      refine m_iload_n F rfl e_X10_readMark_39 ?_
      refine m_dup2_11 F rfl rfl e_X10_readMark_40 ?_
      refine r_iald F (len := 8) (j := 4 + fx nm k11888.2.2.1 P.n5) e_X10_readMark_41 h11869 (fun _ h => h) (by decide) (nI_clamp (by omega)) (vp_in_nI (by omega) (by decide)) (fun x11900 h11901 f11902 => ?_)
      obtain rfl := Option.some.inj ((f11902).symm.trans (ga11875 (fx nm k11888.2.2.1 P.n5) e11880))
      refine m_iload_n F rfl e_X10_readMark_42 ?_
      refine m_ior F e_X10_readMark_43 ?_
      refine Wm.topE (w := nI (mk2 (fun j => if j = 0 then true else md (fx nm k11888.2.2.1 P.n5) j))) mk2_or.1 ?_
      refine r_iast F (g' := (⟨T, Z, u, h, P11870, L⟩ : RG)) (len := 8) (j := 4 + fx nm k11888.2.2.1 P.n5) e_X10_readMark_44 h11869 (fun _ h => h) (fun f h => ⟨f, rfl, h⟩) (by decide) (by decide) (nI_clamp (by omega)) (vp_in_nI (by omega) (by decide)) trivial (fun _ _ _ h => h) (fun _ _ _ h => h) (fun σ11903 h11904 g11905 f11906 g11907 => ?_)
      have ga11908 := ga11872.of (g11905 _ (by omega))
      have ga11909 := ga11873.of (g11905 _ (by omega))
      have ga11910 := ga11874.of (g11905 _ (by omega))
      have ga11911 := ga11876.of (g11905 _ (by omega))
      have ga11912 := ga11877.of (g11905 _ (by omega))
      have ga11913 := ga11878.of (g11905 _ (by omega))
      have ga11915 := FR.upbL (l := fx nm k11888.2.2.1 P.n5) (b' := 0) ga11911 (by decide)
      have ga11916 := FR.upbL (l := fx nm k11888.2.2.1 P.n5) (b' := 0) ga11912 (by decide)
      have ga11914 := KR.put (b := 0) ga11875 f11906 g11907
      refine m_aload_n F rfl e_X10_readMark_45 ?_
      refine r_callV F e_X10_readMark_46 (q_X10_goOnE (x_l X) V c T Z u h P11870 L _ _  n k11888.1 so11882 va11883 ln fp t h11904.1 (hob) oP11870  ⟨((fld_eq (g11905 _ (by omega))).trans yd11889), ((fld_eq (g11905 _ (by omega))).trans yd11890), ((fld_eq (g11905 _ (by omega))).trans yd11891), ((fld_eq (g11905 _ (by omega))).trans yd11892), ((fld_eq (g11905 _ (by omega))).trans yd11893), ((fld_eq (g11905 _ (by omega))).trans yd11894), ((fld_eq (g11905 _ (by omega))).trans yd11895)⟩ ga11908 hn7 (by omega)) cb_X10_goOn ml_X10_154 im_X10_goOn se_X10_goOn h11904 rfl rfl (rest := []) rfl (Nat.le_of_ble_eq_true rfl) ⟨Nat.le_of_ble_eq_true rfl, Nat.le_of_ble_eq_true rfl⟩ ⟨Nat.le_of_ble_eq_true rfl, Nat.le_of_ble_eq_true rfl⟩ (fun r σ11917 hp => ?_)
      obtain ⟨P11920, oP11920, rP11920, pr11921, pr11922, h11918, hp⟩ := hp
      have h11919 := HS.trans h11904 h11918 (by decide)
      have xP11920 := oP11920
      unfold OKP at xP11920
      unfold RA at rP11920
      have ga11923 := ga11908.of (h11918.2 (c + 1) (by rw [kC_at (k := 1) (by decide)]; decide))
      have ga11924 := ga11909.of (h11918.2 (c + 2) (by rw [kC_at (k := 2) (by decide)]; decide))
      have ga11925 := ga11910.of (h11918.2 (c + 3) (by rw [kC_at (k := 3) (by decide)]; decide))
      have ga11926 := ga11915.of (h11918.2 (c + 8) (by rw [kC_at (k := 8) (by decide)]; decide))
      have ga11927 := ga11916.of (h11918.2 (c + 9) (by rw [kC_at (k := 9) (by decide)]; decide))
      have ga11928 := ga11913.of (h11918.2 (c + 11) (by rw [kC_at (k := 11) (by decide)]; decide))
      have ga11929 := ga11914.of (h11918.2 (c + 7) (by rw [kC_at (k := 7) (by decide)]; decide))
      obtain rfl := hp
      obtain ⟨so11930, va11931, mt11932, yd11933⟩ := pr11922
      generalize ek11934 : tok t n P11870.a = k11934 at pr11921 mt11932 yd11933
      have bk11934 := tok_ok (t := t) (n := n) P11870.a (by omega)
      rw [ek11934] at bk11934
      rw [show P11870.a = k11888.2.2.2 by omega] at ek11934
      have hyd11935 := yd11933
      obtain ⟨yd11935, yd11936, yd11937, yd11938, yd11939, yd11940, yd11941⟩ := hyd11935
      exact m_vret F hQ e_X10_readMark_49 (⟨P11920, oP11920, (by unfold RP; omega), (by unfold earlyS; dsimp only; rw [ek11888, oncK_ok e11879 e11880 e3, ek11934]; exact RM.r mt11932 ⟨(yd11935), (yd11936), (yd11937), (yd11938), (yd11939), (yd11940), (yd11941)⟩ (by omega) (by omega) (by omega) ga11924 ga11925 ga11929 ga11926 ga11927 ga11928 (by omega) (by omega) (by omega) (by omega) (by omega)), h11919, rfl⟩)
    · have e3 : md (fx nm k11888.2.2.1 P.n5) 0 = true := by cases hmd : md (fx nm k11888.2.2.1 P.n5) 0 with | true => rfl | false => exact absurd (mk2_and.1.mpr hmd) q20
      refine m_aload_n F rfl e_X10_readMark_23 ?_
      refine m_iconst F (v := 3) (by decide) e_X10_readMark_24 ?_
      refine r_callV F e_X10_readMark_25 (q_X10_wrongE (x_l X) V c T Z u h P11870 L _ _ 3 n k11888.1 so11882 va11883 ln fp h11869.1 (hob) oP11870 (by omega) ⟨(yd11889), (yd11890), (yd11891), (yd11892), (yd11893), (yd11894), (yd11895)⟩ (by decide)) cb_X10_wrong ml_X10_150 im_X10_wrong se_X10_wrong h11869 rfl rfl (rest := []) rfl (Nat.le_of_ble_eq_true rfl) ⟨Nat.le_of_ble_eq_true rfl, Nat.le_of_ble_eq_true rfl⟩ ⟨Nat.le_of_ble_eq_true rfl, Nat.le_of_ble_eq_true rfl⟩ (fun r σ11942 hp => ?_)
      obtain ⟨h11943, hp⟩ := hp
      have h11944 := HS.trans h11869 h11943 (by decide)
      have ga11945 := ga11872.of (h11943.2 (c + 1) (by rw [kC_at (k := 1) (by decide)]; decide))
      have ga11946 := ga11873.of (h11943.2 (c + 2) (by rw [kC_at (k := 2) (by decide)]; decide))
      have ga11947 := ga11874.of (h11943.2 (c + 3) (by rw [kC_at (k := 3) (by decide)]; decide))
      have ga11948 := ga11875.of (h11943.2 (c + 7) (by rw [kC_at (k := 7) (by decide)]; decide))
      have ga11949 := ga11876.of (h11943.2 (c + 8) (by rw [kC_at (k := 8) (by decide)]; decide))
      have ga11950 := ga11877.of (h11943.2 (c + 9) (by rw [kC_at (k := 9) (by decide)]; decide))
      have ga11951 := ga11878.of (h11943.2 (c + 11) (by rw [kC_at (k := 11) (by decide)]; decide))
      obtain ⟨hp, rfl⟩ := hp
      have hyd11952 := hp
      obtain ⟨yd11952, yd11953, yd11954, yd11955, yd11956, yd11957, yd11958⟩ := hyd11952
      refine m_aload_n F rfl e_X10_readMark_28 ?_
      refine r_getC F e_X10_readMark_29 fl_X10_141 h11944 (yd11957) ?_
      refine m_if_ne F e_X10_readMark_32 (fun _ => ?_) (fun q => absurd q (by decide))
      refine m_aload_n F rfl e_X10_readMark_45 ?_
      refine r_callV F e_X10_readMark_46 (q_X10_goOnG (x_l X) V c T 0 u h P11870 L _ _  3 h11944.1 (hob) oP11870  (yd11957) (by decide)) cb_X10_goOn ml_X10_154 im_X10_goOn se_X10_goOn h11944 rfl rfl (rest := []) rfl (Nat.le_of_ble_eq_true rfl) ⟨Nat.le_of_ble_eq_true rfl, Nat.le_of_ble_eq_true rfl⟩ ⟨Nat.le_of_ble_eq_true rfl, Nat.le_of_ble_eq_true rfl⟩ (fun r σ11959 hp => ?_)
      obtain ⟨h11960, hp⟩ := hp
      have h11961 := HS.trans h11944 h11960 (by decide)
      have ga11962 := ga11945.of (h11960.2 (c + 1) (by rw [kC_at (k := 1) (by decide)]; decide))
      have ga11963 := ga11946.of (h11960.2 (c + 2) (by rw [kC_at (k := 2) (by decide)]; decide))
      have ga11964 := ga11947.of (h11960.2 (c + 3) (by rw [kC_at (k := 3) (by decide)]; decide))
      have ga11965 := ga11948.of (h11960.2 (c + 7) (by rw [kC_at (k := 7) (by decide)]; decide))
      have ga11966 := ga11949.of (h11960.2 (c + 8) (by rw [kC_at (k := 8) (by decide)]; decide))
      have ga11967 := ga11950.of (h11960.2 (c + 9) (by rw [kC_at (k := 9) (by decide)]; decide))
      have ga11968 := ga11951.of (h11960.2 (c + 11) (by rw [kC_at (k := 11) (by decide)]; decide))
      obtain ⟨rfl, rfl⟩ := hp
      have h11969 : HS V c _ [0, 2, 3, 4, 5, 6, 7, 9, 10, 11, 12, 13, 14, 15, 16, 17, 18, 19, 20, 21, 22, 23] _ _ := ⟨HR.mono (Z' := Z) (by intro e; first | rfl | assumption | omega) h11961.1, h11961.2⟩
      exact m_vret F hQ e_X10_readMark_49 (⟨P11870, oP11870, (by unfold RP; omega), (by unfold earlyS; dsimp only; rw [ek11888, oncK_3 e11879 e11880 e3]; exact RM.l (yd11957) (yd11958) (by decide) (by decide) (by omega)), h11969, rfl⟩)
  · have hz9 : True := trivial
    refine m_istore_n F (lv' := [(2, .int (nI 4)), (0, .ref c), (1, .int 1)]) e_X10_readMark_4 (by decide) rfl ?_
    refine m_aload_n F rfl e_X10_readMark_5 ?_
    refine r_getC F e_X10_readMark_6 fl_X10_141 h11869 (fa11886) ?_
    refine m_if_ne F e_X10_readMark_9 (fun _ => ?_) (fun q => absurd q (by decide))
    refine m_aload_n F rfl e_X10_readMark_28 ?_
    refine r_getC F e_X10_readMark_29 fl_X10_141 h11869 (fa11886) ?_
    refine m_if_ne F e_X10_readMark_32 (fun _ => ?_) (fun q => absurd q (by decide))
    refine m_aload_n F rfl e_X10_readMark_45 ?_
    refine r_callV F e_X10_readMark_46 (q_X10_goOnG (x_l X) V c T Z u h P11870 L _ _  1 h11869.1 (hob) oP11870  (fa11886) (by decide)) cb_X10_goOn ml_X10_154 im_X10_goOn se_X10_goOn h11869 rfl rfl (rest := []) rfl (Nat.le_of_ble_eq_true rfl) ⟨Nat.le_of_ble_eq_true rfl, Nat.le_of_ble_eq_true rfl⟩ ⟨Nat.le_of_ble_eq_true rfl, Nat.le_of_ble_eq_true rfl⟩ (fun r σ11970 hp => ?_)
    obtain ⟨h11971, hp⟩ := hp
    have h11972 := HS.trans h11869 h11971 (by decide)
    obtain ⟨rfl, rfl⟩ := hp
    exact m_vret F hQ e_X10_readMark_49 (⟨P11870, oP11870, (by unfold RP; omega), (by unfold earlyS; dsimp only; rw [ek11888, oncK_1 e11879]; exact RM.l (fa11886) (fb11887) (by decide) (by decide) (by omega)), h11972, rfl⟩)
  · have hz9 : True := trivial
    refine m_istore_n F (lv' := [(2, .int (nI 4)), (0, .ref c), (1, .int 1)]) e_X10_readMark_4 (by decide) rfl ?_
    refine m_aload_n F rfl e_X10_readMark_5 ?_
    refine r_getC F e_X10_readMark_6 fl_X10_141 h11869 (fa11886) ?_
    refine m_if_ne F e_X10_readMark_9 (fun _ => ?_) (fun q => absurd q (by decide))
    refine m_aload_n F rfl e_X10_readMark_28 ?_
    refine r_getC F e_X10_readMark_29 fl_X10_141 h11869 (fa11886) ?_
    refine m_if_ne F e_X10_readMark_32 (fun _ => ?_) (fun q => absurd q (by decide))
    refine m_aload_n F rfl e_X10_readMark_45 ?_
    refine r_callV F e_X10_readMark_46 (q_X10_goOnG (x_l X) V c T Z u h P11870 L _ _  4 h11869.1 (hob) oP11870  (fa11886) (by decide)) cb_X10_goOn ml_X10_154 im_X10_goOn se_X10_goOn h11869 rfl rfl (rest := []) rfl (Nat.le_of_ble_eq_true rfl) ⟨Nat.le_of_ble_eq_true rfl, Nat.le_of_ble_eq_true rfl⟩ ⟨Nat.le_of_ble_eq_true rfl, Nat.le_of_ble_eq_true rfl⟩ (fun r σ11973 hp => ?_)
    obtain ⟨h11974, hp⟩ := hp
    have h11975 := HS.trans h11869 h11974 (by decide)
    obtain ⟨rfl, rfl⟩ := hp
    exact m_vret F hQ e_X10_readMark_49 (⟨P11870, oP11870, (by unfold RP; omega), (by unfold earlyS; dsimp only; rw [ek11888, oncK_4 e11879 e11880]; exact RM.l (fa11886) (fb11887) (by decide) (by decide) (by omega)), h11975, rfl⟩)
set_option maxRecDepth 20000 in
theorem q_X10_readMark2E (l : Launch) (V : VX) (c T Z u h : Nat) (P : NP) (L : Nat → LQ) (N : Nat) (σ : Mem) (n st : Nat) (so va : Int32) (ln : Nat) (fp : Int32) (t : Nat → Nat) (s9 v9 : Nat) (nm : Nat → Nat) (np lc no sd : Nat) (md : Nat → Nat → Bool) (h0 : HR V c ⟨T, Z, u, h, P, L⟩ σ) (hob : OKB L) (hP : OKP P) (hp0 : YD σ c n st so va ln 0 fp) (hp1 : BR σ c n t) (hp2 : n ≤ 700) (hp3 : P.a ≤ n) (hp4 : MT so va s9 v9) (hp5 : st ≤ n) (hp6 : NR σ c np no sd) (hp7 : MR σ c P.n5 nm) (hp8 : KR σ c P.n5 md) (hp9 : FR σ c 8 1 P.n5 md) (hp10 : FR σ c 9 2 P.n5 md) (hp11 : QR σ c P.n7 lc) (hp12 : np ≤ 12) (hp13 : no ≤ 4) (hp14 : sd ≤ 1) : Ct l V yX10_readMark cX10_readMark 3 none 8 0 0 N σ [.ref c, .int 2] (fun r τ => ∃ P9 : NP, OKP P9 ∧ RP P P9 ∧ RM τ c n P9 (tiedS (tok t n) (st, s9, v9, P.a) P.n5 nm np P.n7 lc no sd md ln) ∧ HS V c (⟨T, Z, u, h, P9, L⟩ : RG) [0, 2, 3, 4, 5, 6, 7, 9, 10, 11, 12, 13, 14, 15, 16, 17, 18, 19, 20, 21, 22, 23] σ τ ∧ r = none) := by
  refine Ct.of (by decide) (Nat.le_of_ble_eq_true rfl) [(0, .ref c), (1, .int 2)] rfl (fun X hX F hQ => ?_)
  have hPP := hP
  unfold OKP at hPP
  have h1 : HS V c ⟨T, Z, u, h, P, L⟩ [0, 2, 3, 4, 5, 6, 7, 9, 10, 11, 12, 13, 14, 15, 16, 17, 18, 19, 20, 21, 22, 23] σ σ := HS.start h0
  have hyd11976 := hp0
  obtain ⟨yd11976, yd11977, yd11978, yd11979, yd11980, yd11981, yd11982⟩ := hyd11976
  have hn7 := hp2
  refine m_aload_n F rfl e_X10_readMark_0 ?_
  refine r_callV F e_X10_readMark_1 (q_X10_atHandE (x_l X) V c T Z u h P L _ _  n st so va ln fp t nm h1.1 (hob) hP  ⟨(yd11976), (yd11977), (yd11978), (yd11979), (yd11980), (yd11981), (yd11982)⟩ hp1 hn7 (by omega) hp7) cb_X10_atHand ml_X10_174 im_X10_atHand se_X10_atHand h1 rfl rfl (rest := []) rfl (Nat.le_of_ble_eq_true rfl) ⟨Nat.le_of_ble_eq_true rfl, Nat.le_of_ble_eq_true rfl⟩ ⟨Nat.le_of_ble_eq_true rfl, Nat.le_of_ble_eq_true rfl⟩ (fun r σ11983 hp => ?_)
  obtain ⟨P11986, oP11986, rP11986, pr11987, h11984, hp⟩ := hp
  have h11985 := HS.trans h1 h11984 (by decide)
  have xP11986 := oP11986
  unfold OKP at xP11986
  unfold RA at rP11986
  have ga11988 := hp1.of (h11984.2 (c + 1) (by rw [kC_at (k := 1) (by decide)]; decide))
  have ga11989 := hp6.of (h11984.2 (c + 2) (by rw [kC_at (k := 2) (by decide)]; decide))
  have ga11990 := hp7.of (h11984.2 (c + 3) (by rw [kC_at (k := 3) (by decide)]; decide))
  have ga11991 := hp8.of (h11984.2 (c + 7) (by rw [kC_at (k := 7) (by decide)]; decide))
  have ga11992 := hp9.of (h11984.2 (c + 8) (by rw [kC_at (k := 8) (by decide)]; decide))
  have ga11993 := hp10.of (h11984.2 (c + 9) (by rw [kC_at (k := 9) (by decide)]; decide))
  have ga11994 := hp11.of (h11984.2 (c + 11) (by rw [kC_at (k := 11) (by decide)]; decide))
  have bk12004 := tok_ok (t := t) (n := n) P.a (by omega)
  generalize ek12004 : tok t n P.a = k12004 at pr11987 bk12004
  rcases pr11987 with ⟨e11995, e11996, ea11997, ⟨so11998, va11999, mt12000, yd12001⟩, rfl⟩ | ⟨e11995, ⟨fa12002, fb12003⟩, rfl⟩ | ⟨e11995, e11996, ⟨fa12002, fb12003⟩, rfl⟩
  · have hyd12005 := yd12001
    obtain ⟨yd12005, yd12006, yd12007, yd12008, yd12009, yd12010, yd12011⟩ := hyd12005
    refine m_istore_n F (lv' := [(2, .int (nI (4 + fx nm k12004.2.2.1 P.n5))), (0, .ref c), (1, .int 2)]) e_X10_readMark_4 (by decide) rfl ?_
    refine m_aload_n F rfl e_X10_readMark_5 ?_
    refine r_getC F e_X10_readMark_6 fl_X10_141 h11985 (yd12010) ?_
    refine m_if_ne F e_X10_readMark_9 (fun q => absurd (by decide) q) (fun _ => ?_)
    refine m_aload_n F rfl e_X10_readMark_12 ?_
    refine r_get F e_X10_readMark_13 fl_X10_28 h11985 rfl (fun v hv f12012 => ?_)
    obtain rfl : v = .ref (c + 7) := hv
    refine m_iload_n F rfl e_X10_readMark_16 ?_
    refine r_iald F (len := 8) (j := 4 + fx nm k12004.2.2.1 P.n5) e_X10_readMark_17 h11985 (fun _ h => h) (by decide) (nI_clamp (by omega)) (vp_in_nI (by omega) (by decide)) (fun x12013 h12014 f12015 => ?_)
    obtain rfl := Option.some.inj ((f12015).symm.trans (ga11991 (fx nm k12004.2.2.1 P.n5) e11996))
    refine m_iload_n F rfl e_X10_readMark_18 ?_
    refine m_iand F e_X10_readMark_19 ?_
    refine m_if_eq F e_X10_readMark_20 (fun q20 => ?_) (fun q20 => ?_)
    · have e3 : md (fx nm k12004.2.2.1 P.n5) 3 = false := mk2_and.2.mp q20
      refine m_aload_n F rfl e_X10_readMark_28 ?_
      refine r_getC F e_X10_readMark_29 fl_X10_141 h11985 (yd12010) ?_
      refine m_if_ne F e_X10_readMark_32 (fun q => absurd (by decide) q) (fun _ => ?_)
      refine m_aload_n F rfl e_X10_readMark_35 ?_
      refine r_getC F e_X10_readMark_36 fl_X10_28 h11985 (f12012) ?_
      refine m_iload_n F rfl e_X10_readMark_39 ?_
      refine m_dup2_11 F rfl rfl e_X10_readMark_40 ?_
      refine r_iald F (len := 8) (j := 4 + fx nm k12004.2.2.1 P.n5) e_X10_readMark_41 h11985 (fun _ h => h) (by decide) (nI_clamp (by omega)) (vp_in_nI (by omega) (by decide)) (fun x12016 h12017 f12018 => ?_)
      obtain rfl := Option.some.inj ((f12018).symm.trans (ga11991 (fx nm k12004.2.2.1 P.n5) e11996))
      refine m_iload_n F rfl e_X10_readMark_42 ?_
      refine m_ior F e_X10_readMark_43 ?_
      refine Wm.topE (w := nI (mk2 (fun j => if j = 3 then true else md (fx nm k12004.2.2.1 P.n5) j))) mk2_or.2 ?_
      refine r_iast F (g' := (⟨T, Z, u, h, P11986, L⟩ : RG)) (len := 8) (j := 4 + fx nm k12004.2.2.1 P.n5) e_X10_readMark_44 h11985 (fun _ h => h) (fun f h => ⟨f, rfl, h⟩) (by decide) (by decide) (nI_clamp (by omega)) (vp_in_nI (by omega) (by decide)) trivial (fun _ _ _ h => h) (fun _ _ _ h => h) (fun σ12019 h12020 g12021 f12022 g12023 => ?_)
      have ga12024 := ga11988.of (g12021 _ (by omega))
      have ga12025 := ga11989.of (g12021 _ (by omega))
      have ga12026 := ga11990.of (g12021 _ (by omega))
      have ga12027 := ga11992.of (g12021 _ (by omega))
      have ga12028 := ga11993.of (g12021 _ (by omega))
      have ga12029 := ga11994.of (g12021 _ (by omega))
      have ga12031 := FR.upbL (l := fx nm k12004.2.2.1 P.n5) (b' := 3) ga12027 (by decide)
      have ga12032 := FR.upbL (l := fx nm k12004.2.2.1 P.n5) (b' := 3) ga12028 (by decide)
      have ga12030 := KR.put (b := 3) ga11991 f12022 g12023
      refine m_aload_n F rfl e_X10_readMark_45 ?_
      refine r_callV F e_X10_readMark_46 (q_X10_goOnE (x_l X) V c T Z u h P11986 L _ _  n k12004.1 so11998 va11999 ln fp t h12020.1 (hob) oP11986  ⟨((fld_eq (g12021 _ (by omega))).trans yd12005), ((fld_eq (g12021 _ (by omega))).trans yd12006), ((fld_eq (g12021 _ (by omega))).trans yd12007), ((fld_eq (g12021 _ (by omega))).trans yd12008), ((fld_eq (g12021 _ (by omega))).trans yd12009), ((fld_eq (g12021 _ (by omega))).trans yd12010), ((fld_eq (g12021 _ (by omega))).trans yd12011)⟩ ga12024 hn7 (by omega)) cb_X10_goOn ml_X10_154 im_X10_goOn se_X10_goOn h12020 rfl rfl (rest := []) rfl (Nat.le_of_ble_eq_true rfl) ⟨Nat.le_of_ble_eq_true rfl, Nat.le_of_ble_eq_true rfl⟩ ⟨Nat.le_of_ble_eq_true rfl, Nat.le_of_ble_eq_true rfl⟩ (fun r σ12033 hp => ?_)
      obtain ⟨P12036, oP12036, rP12036, pr12037, pr12038, h12034, hp⟩ := hp
      have h12035 := HS.trans h12020 h12034 (by decide)
      have xP12036 := oP12036
      unfold OKP at xP12036
      unfold RA at rP12036
      have ga12039 := ga12024.of (h12034.2 (c + 1) (by rw [kC_at (k := 1) (by decide)]; decide))
      have ga12040 := ga12025.of (h12034.2 (c + 2) (by rw [kC_at (k := 2) (by decide)]; decide))
      have ga12041 := ga12026.of (h12034.2 (c + 3) (by rw [kC_at (k := 3) (by decide)]; decide))
      have ga12042 := ga12031.of (h12034.2 (c + 8) (by rw [kC_at (k := 8) (by decide)]; decide))
      have ga12043 := ga12032.of (h12034.2 (c + 9) (by rw [kC_at (k := 9) (by decide)]; decide))
      have ga12044 := ga12029.of (h12034.2 (c + 11) (by rw [kC_at (k := 11) (by decide)]; decide))
      have ga12045 := ga12030.of (h12034.2 (c + 7) (by rw [kC_at (k := 7) (by decide)]; decide))
      obtain rfl := hp
      obtain ⟨so12046, va12047, mt12048, yd12049⟩ := pr12038
      generalize ek12050 : tok t n P11986.a = k12050 at pr12037 mt12048 yd12049
      have bk12050 := tok_ok (t := t) (n := n) P11986.a (by omega)
      rw [ek12050] at bk12050
      rw [show P11986.a = k12004.2.2.2 by omega] at ek12050
      have hyd12051 := yd12049
      obtain ⟨yd12051, yd12052, yd12053, yd12054, yd12055, yd12056, yd12057⟩ := hyd12051
      exact m_vret F hQ e_X10_readMark_49 (⟨P12036, oP12036, (by unfold RP; omega), (by unfold tiedS; dsimp only; rw [ek12004, oncK_ok e11995 e11996 e3, ek12050]; exact RM.r mt12048 ⟨(yd12051), (yd12052), (yd12053), (yd12054), (yd12055), (yd12056), (yd12057)⟩ (by omega) (by omega) (by omega) ga12040 ga12041 ga12045 ga12042 ga12043 ga12044 (by omega) (by omega) (by omega) (by omega) (by omega)), h12035, rfl⟩)
    · have e3 : md (fx nm k12004.2.2.1 P.n5) 3 = true := by cases hmd : md (fx nm k12004.2.2.1 P.n5) 3 with | true => rfl | false => exact absurd (mk2_and.2.mpr hmd) q20
      refine m_aload_n F rfl e_X10_readMark_23 ?_
      refine m_iconst F (v := 3) (by decide) e_X10_readMark_24 ?_
      refine r_callV F e_X10_readMark_25 (q_X10_wrongE (x_l X) V c T Z u h P11986 L _ _ 3 n k12004.1 so11998 va11999 ln fp h11985.1 (hob) oP11986 (by omega) ⟨(yd12005), (yd12006), (yd12007), (yd12008), (yd12009), (yd12010), (yd12011)⟩ (by decide)) cb_X10_wrong ml_X10_150 im_X10_wrong se_X10_wrong h11985 rfl rfl (rest := []) rfl (Nat.le_of_ble_eq_true rfl) ⟨Nat.le_of_ble_eq_true rfl, Nat.le_of_ble_eq_true rfl⟩ ⟨Nat.le_of_ble_eq_true rfl, Nat.le_of_ble_eq_true rfl⟩ (fun r σ12058 hp => ?_)
      obtain ⟨h12059, hp⟩ := hp
      have h12060 := HS.trans h11985 h12059 (by decide)
      have ga12061 := ga11988.of (h12059.2 (c + 1) (by rw [kC_at (k := 1) (by decide)]; decide))
      have ga12062 := ga11989.of (h12059.2 (c + 2) (by rw [kC_at (k := 2) (by decide)]; decide))
      have ga12063 := ga11990.of (h12059.2 (c + 3) (by rw [kC_at (k := 3) (by decide)]; decide))
      have ga12064 := ga11991.of (h12059.2 (c + 7) (by rw [kC_at (k := 7) (by decide)]; decide))
      have ga12065 := ga11992.of (h12059.2 (c + 8) (by rw [kC_at (k := 8) (by decide)]; decide))
      have ga12066 := ga11993.of (h12059.2 (c + 9) (by rw [kC_at (k := 9) (by decide)]; decide))
      have ga12067 := ga11994.of (h12059.2 (c + 11) (by rw [kC_at (k := 11) (by decide)]; decide))
      obtain ⟨hp, rfl⟩ := hp
      have hyd12068 := hp
      obtain ⟨yd12068, yd12069, yd12070, yd12071, yd12072, yd12073, yd12074⟩ := hyd12068
      refine m_aload_n F rfl e_X10_readMark_28 ?_
      refine r_getC F e_X10_readMark_29 fl_X10_141 h12060 (yd12073) ?_
      refine m_if_ne F e_X10_readMark_32 (fun _ => ?_) (fun q => absurd q (by decide))
      refine m_aload_n F rfl e_X10_readMark_45 ?_
      refine r_callV F e_X10_readMark_46 (q_X10_goOnG (x_l X) V c T 0 u h P11986 L _ _  3 h12060.1 (hob) oP11986  (yd12073) (by decide)) cb_X10_goOn ml_X10_154 im_X10_goOn se_X10_goOn h12060 rfl rfl (rest := []) rfl (Nat.le_of_ble_eq_true rfl) ⟨Nat.le_of_ble_eq_true rfl, Nat.le_of_ble_eq_true rfl⟩ ⟨Nat.le_of_ble_eq_true rfl, Nat.le_of_ble_eq_true rfl⟩ (fun r σ12075 hp => ?_)
      obtain ⟨h12076, hp⟩ := hp
      have h12077 := HS.trans h12060 h12076 (by decide)
      have ga12078 := ga12061.of (h12076.2 (c + 1) (by rw [kC_at (k := 1) (by decide)]; decide))
      have ga12079 := ga12062.of (h12076.2 (c + 2) (by rw [kC_at (k := 2) (by decide)]; decide))
      have ga12080 := ga12063.of (h12076.2 (c + 3) (by rw [kC_at (k := 3) (by decide)]; decide))
      have ga12081 := ga12064.of (h12076.2 (c + 7) (by rw [kC_at (k := 7) (by decide)]; decide))
      have ga12082 := ga12065.of (h12076.2 (c + 8) (by rw [kC_at (k := 8) (by decide)]; decide))
      have ga12083 := ga12066.of (h12076.2 (c + 9) (by rw [kC_at (k := 9) (by decide)]; decide))
      have ga12084 := ga12067.of (h12076.2 (c + 11) (by rw [kC_at (k := 11) (by decide)]; decide))
      obtain ⟨rfl, rfl⟩ := hp
      have h12085 : HS V c _ [0, 2, 3, 4, 5, 6, 7, 9, 10, 11, 12, 13, 14, 15, 16, 17, 18, 19, 20, 21, 22, 23] _ _ := ⟨HR.mono (Z' := Z) (by intro e; first | rfl | assumption | omega) h12077.1, h12077.2⟩
      exact m_vret F hQ e_X10_readMark_49 (⟨P11986, oP11986, (by unfold RP; omega), (by unfold tiedS; dsimp only; rw [ek12004, oncK_3 e11995 e11996 e3]; exact RM.l (yd12073) (yd12074) (by decide) (by decide) (by omega)), h12085, rfl⟩)
  · have hz9 : True := trivial
    refine m_istore_n F (lv' := [(2, .int (nI 4)), (0, .ref c), (1, .int 2)]) e_X10_readMark_4 (by decide) rfl ?_
    refine m_aload_n F rfl e_X10_readMark_5 ?_
    refine r_getC F e_X10_readMark_6 fl_X10_141 h11985 (fa12002) ?_
    refine m_if_ne F e_X10_readMark_9 (fun _ => ?_) (fun q => absurd q (by decide))
    refine m_aload_n F rfl e_X10_readMark_28 ?_
    refine r_getC F e_X10_readMark_29 fl_X10_141 h11985 (fa12002) ?_
    refine m_if_ne F e_X10_readMark_32 (fun _ => ?_) (fun q => absurd q (by decide))
    refine m_aload_n F rfl e_X10_readMark_45 ?_
    refine r_callV F e_X10_readMark_46 (q_X10_goOnG (x_l X) V c T Z u h P11986 L _ _  1 h11985.1 (hob) oP11986  (fa12002) (by decide)) cb_X10_goOn ml_X10_154 im_X10_goOn se_X10_goOn h11985 rfl rfl (rest := []) rfl (Nat.le_of_ble_eq_true rfl) ⟨Nat.le_of_ble_eq_true rfl, Nat.le_of_ble_eq_true rfl⟩ ⟨Nat.le_of_ble_eq_true rfl, Nat.le_of_ble_eq_true rfl⟩ (fun r σ12086 hp => ?_)
    obtain ⟨h12087, hp⟩ := hp
    have h12088 := HS.trans h11985 h12087 (by decide)
    obtain ⟨rfl, rfl⟩ := hp
    exact m_vret F hQ e_X10_readMark_49 (⟨P11986, oP11986, (by unfold RP; omega), (by unfold tiedS; dsimp only; rw [ek12004, oncK_1 e11995]; exact RM.l (fa12002) (fb12003) (by decide) (by decide) (by omega)), h12088, rfl⟩)
  · have hz9 : True := trivial
    refine m_istore_n F (lv' := [(2, .int (nI 4)), (0, .ref c), (1, .int 2)]) e_X10_readMark_4 (by decide) rfl ?_
    refine m_aload_n F rfl e_X10_readMark_5 ?_
    refine r_getC F e_X10_readMark_6 fl_X10_141 h11985 (fa12002) ?_
    refine m_if_ne F e_X10_readMark_9 (fun _ => ?_) (fun q => absurd q (by decide))
    refine m_aload_n F rfl e_X10_readMark_28 ?_
    refine r_getC F e_X10_readMark_29 fl_X10_141 h11985 (fa12002) ?_
    refine m_if_ne F e_X10_readMark_32 (fun _ => ?_) (fun q => absurd q (by decide))
    refine m_aload_n F rfl e_X10_readMark_45 ?_
    refine r_callV F e_X10_readMark_46 (q_X10_goOnG (x_l X) V c T Z u h P11986 L _ _  4 h11985.1 (hob) oP11986  (fa12002) (by decide)) cb_X10_goOn ml_X10_154 im_X10_goOn se_X10_goOn h11985 rfl rfl (rest := []) rfl (Nat.le_of_ble_eq_true rfl) ⟨Nat.le_of_ble_eq_true rfl, Nat.le_of_ble_eq_true rfl⟩ ⟨Nat.le_of_ble_eq_true rfl, Nat.le_of_ble_eq_true rfl⟩ (fun r σ12089 hp => ?_)
    obtain ⟨h12090, hp⟩ := hp
    have h12091 := HS.trans h11985 h12090 (by decide)
    obtain ⟨rfl, rfl⟩ := hp
    exact m_vret F hQ e_X10_readMark_49 (⟨P11986, oP11986, (by unfold RP; omega), (by unfold tiedS; dsimp only; rw [ek12004, oncK_4 e11995 e11996]; exact RM.l (fa12002) (fb12003) (by decide) (by decide) (by omega)), h12091, rfl⟩)
set_option maxRecDepth 20000 in
theorem q_X10_readFairE (l : Launch) (V : VX) (c T Z u h : Nat) (P : NP) (L : Nat → LQ) (N : Nat) (σ : Mem) (n st : Nat) (so va : Int32) (ln : Nat) (fp : Int32) (t : Nat → Nat) (s9 v9 : Nat) (nm : Nat → Nat) (np lc no sd : Nat) (md : Nat → Nat → Bool) (h0 : HR V c ⟨T, Z, u, h, P, L⟩ σ) (hob : OKB L) (hP : OKP P) (hp0 : YD σ c n st so va ln 0 fp) (hp1 : BR σ c n t) (hp2 : n ≤ 700) (hp3 : P.a ≤ n) (hp4 : MT so va s9 v9) (hp5 : st ≤ n) (hp6 : NR σ c np no sd) (hp7 : MR σ c P.n5 nm) (hp8 : KR σ c P.n5 md) (hp9 : FR σ c 8 1 P.n5 md) (hp10 : FR σ c 9 2 P.n5 md) (hp11 : QR σ c P.n7 lc) (hp12 : np ≤ 12) (hp13 : no ≤ 4) (hp14 : sd ≤ 1) : Ct l V yX10_readFair cX10_readFair 3 none 8 0 0 N σ [.ref c] (fun r τ => ∃ P9 : NP, OKP P9 ∧ RP P P9 ∧ RM τ c n P9 (fairS (tok t n) (st, s9, v9, P.a) P.n5 nm np P.n7 lc no sd md ln) ∧ HS V c (⟨T, Z, u, h, P9, L⟩ : RG) [0, 2, 3, 4, 5, 6, 7, 8, 10, 11, 12, 13, 14, 15, 16, 17, 18, 19, 20, 21, 22, 23] σ τ ∧ r = none) := by
  refine Ct.of (by decide) (Nat.le_of_ble_eq_true rfl) [(0, .ref c)] rfl (fun X hX F hQ => ?_)
  have hPP := hP
  unfold OKP at hPP
  have h1 : HS V c ⟨T, Z, u, h, P, L⟩ [0, 2, 3, 4, 5, 6, 7, 8, 10, 11, 12, 13, 14, 15, 16, 17, 18, 19, 20, 21, 22, 23] σ σ := HS.start h0
  have hyd12092 := hp0
  obtain ⟨yd12092, yd12093, yd12094, yd12095, yd12096, yd12097, yd12098⟩ := hyd12092
  have hn7 := hp2
  refine m_aload_n F rfl e_X10_readFair_0 ?_
  refine r_callV F e_X10_readFair_1 (q_X10_atHandE (x_l X) V c T Z u h P L _ _  n st so va ln fp t nm h1.1 (hob) hP  ⟨(yd12092), (yd12093), (yd12094), (yd12095), (yd12096), (yd12097), (yd12098)⟩ hp1 hn7 (by omega) hp7) cb_X10_atHand ml_X10_174 im_X10_atHand se_X10_atHand h1 rfl rfl (rest := []) rfl (Nat.le_of_ble_eq_true rfl) ⟨Nat.le_of_ble_eq_true rfl, Nat.le_of_ble_eq_true rfl⟩ ⟨Nat.le_of_ble_eq_true rfl, Nat.le_of_ble_eq_true rfl⟩ (fun r σ12099 hp => ?_)
  obtain ⟨P12102, oP12102, rP12102, pr12103, h12100, hp⟩ := hp
  have h12101 := HS.trans h1 h12100 (by decide)
  have xP12102 := oP12102
  unfold OKP at xP12102
  unfold RA at rP12102
  have ga12104 := hp1.of (h12100.2 (c + 1) (by rw [kC_at (k := 1) (by decide)]; decide))
  have ga12105 := hp6.of (h12100.2 (c + 2) (by rw [kC_at (k := 2) (by decide)]; decide))
  have ga12106 := hp7.of (h12100.2 (c + 3) (by rw [kC_at (k := 3) (by decide)]; decide))
  have ga12107 := hp8.of (h12100.2 (c + 7) (by rw [kC_at (k := 7) (by decide)]; decide))
  have ga12108 := hp9.of (h12100.2 (c + 8) (by rw [kC_at (k := 8) (by decide)]; decide))
  have ga12109 := hp10.of (h12100.2 (c + 9) (by rw [kC_at (k := 9) (by decide)]; decide))
  have ga12110 := hp11.of (h12100.2 (c + 11) (by rw [kC_at (k := 11) (by decide)]; decide))
  have bk12120 := tok_ok (t := t) (n := n) P.a (by omega)
  generalize ek12120 : tok t n P.a = k12120 at pr12103 bk12120
  rcases pr12103 with ⟨e12111, e12112, ea12113, ⟨so12114, va12115, mt12116, yd12117⟩, rfl⟩ | ⟨e12111, ⟨fa12118, fb12119⟩, rfl⟩ | ⟨e12111, e12112, ⟨fa12118, fb12119⟩, rfl⟩
  · have hyd12121 := yd12117
    obtain ⟨yd12121, yd12122, yd12123, yd12124, yd12125, yd12126, yd12127⟩ := hyd12121
    refine m_istore_n F (lv' := [(1, .int (nI (4 + fx nm k12120.2.2.1 P.n5))), (0, .ref c)]) e_X10_readFair_4 (by decide) rfl ?_
    refine m_aload_n F rfl e_X10_readFair_5 ?_
    refine r_getC F e_X10_readFair_6 fl_X10_141 h12101 (yd12126) ?_
    refine m_if_ne F e_X10_readFair_9 (fun q => absurd (by decide) q) (fun _ => ?_)
    refine m_aload_n F rfl e_X10_readFair_12 ?_
    refine r_get F e_X10_readFair_13 fl_X10_31 h12101 rfl (fun v hv f12128 => ?_)
    obtain rfl : v = .ref (c + 8) := hv
    refine m_iload_n F rfl e_X10_readFair_16 ?_
    obtain ⟨w12129, hw12129, fw12129, gw12129⟩ := ga12108 (fx nm k12120.2.2.1 P.n5) e12112
    refine r_iald F (len := 8) (j := 4 + fx nm k12120.2.2.1 P.n5) e_X10_readFair_17 h12101 (fun _ h => h) (by decide) (nI_clamp (by omega)) (vp_in_nI (by omega) (by decide)) (fun x12130 h12131 f12132 => ?_)
    obtain rfl := Option.some.inj ((f12132).symm.trans (fw12129))
    refine m_if_eq F e_X10_readFair_18 (fun q18 => ?_) (fun q18 => ?_)
    · have c18 : w12129 = 0 := (nI_eq (a := w12129) (b := 0) (by omega) (by omega)).mp q18
      have e3 : md (fx nm k12120.2.2.1 P.n5) 1 = false := gw12129.mp c18
      refine m_aload_n F rfl e_X10_readFair_26 ?_
      refine r_callV F e_X10_readFair_27 (q_X10_goOnE (x_l X) V c T Z u h P12102 L _ _  n k12120.1 so12114 va12115 ln fp t h12101.1 (hob) oP12102  ⟨(yd12121), (yd12122), (yd12123), (yd12124), (yd12125), (yd12126), (yd12127)⟩ ga12104 hn7 (by omega)) cb_X10_goOn ml_X10_154 im_X10_goOn se_X10_goOn h12101 rfl rfl (rest := []) rfl (Nat.le_of_ble_eq_true rfl) ⟨Nat.le_of_ble_eq_true rfl, Nat.le_of_ble_eq_true rfl⟩ ⟨Nat.le_of_ble_eq_true rfl, Nat.le_of_ble_eq_true rfl⟩ (fun r σ12133 hp => ?_)
      obtain ⟨P12136, oP12136, rP12136, pr12137, pr12138, h12134, hp⟩ := hp
      have h12135 := HS.trans h12101 h12134 (by decide)
      have xP12136 := oP12136
      unfold OKP at xP12136
      unfold RA at rP12136
      have ga12139 := ga12104.of (h12134.2 (c + 1) (by rw [kC_at (k := 1) (by decide)]; decide))
      have ga12140 := ga12105.of (h12134.2 (c + 2) (by rw [kC_at (k := 2) (by decide)]; decide))
      have ga12141 := ga12106.of (h12134.2 (c + 3) (by rw [kC_at (k := 3) (by decide)]; decide))
      have ga12142 := ga12107.of (h12134.2 (c + 7) (by rw [kC_at (k := 7) (by decide)]; decide))
      have ga12143 := ga12108.of (h12134.2 (c + 8) (by rw [kC_at (k := 8) (by decide)]; decide))
      have ga12144 := ga12109.of (h12134.2 (c + 9) (by rw [kC_at (k := 9) (by decide)]; decide))
      have ga12145 := ga12110.of (h12134.2 (c + 11) (by rw [kC_at (k := 11) (by decide)]; decide))
      obtain rfl := hp
      obtain ⟨so12146, va12147, mt12148, yd12149⟩ := pr12138
      generalize ek12150 : tok t n P12102.a = k12150 at pr12137 mt12148 yd12149
      have bk12150 := tok_ok (t := t) (n := n) P12102.a (by omega)
      rw [ek12150] at bk12150
      rw [show P12102.a = k12120.2.2.2 by omega] at ek12150
      have hyd12151 := yd12149
      obtain ⟨yd12151, yd12152, yd12153, yd12154, yd12155, yd12156, yd12157⟩ := hyd12151
      refine m_aload_n F rfl e_X10_readFair_30 ?_
      refine m_iconst F (v := 1) (by decide) e_X10_readFair_31 ?_
      refine m_ldc F kc_X10_129 e_X10_readFair_32 ?_
      refine r_callV F e_X10_readFair_34 (q_X10_numeralE (x_l X) V c T Z u h P12136 L _ _ 1 9999999 n k12150.1 so12146 va12147 ln fp t k12150.2.1 k12150.2.2.1 h12135.1 (hob) oP12136 (by omega) (by omega) ⟨(yd12151), (yd12152), (yd12153), (yd12154), (yd12155), (yd12156), (yd12157)⟩ ga12139 hn7 (by omega) mt12148) cb_X10_numeral ml_X10_165 im_X10_numeral se_X10_numeral h12135 rfl rfl (rest := []) rfl (Nat.le_of_ble_eq_true rfl) ⟨Nat.le_of_ble_eq_true rfl, Nat.le_of_ble_eq_true rfl⟩ ⟨Nat.le_of_ble_eq_true rfl, Nat.le_of_ble_eq_true rfl⟩ (fun r σ12158 hp => ?_)
      obtain ⟨P12161, oP12161, rP12161, pr12162, h12159, hp⟩ := hp
      have h12160 := HS.trans h12135 h12159 (by decide)
      have xP12161 := oP12161
      unfold OKP at xP12161
      unfold RA at rP12161
      have ga12163 := ga12139.of (h12159.2 (c + 1) (by rw [kC_at (k := 1) (by decide)]; decide))
      have ga12164 := ga12140.of (h12159.2 (c + 2) (by rw [kC_at (k := 2) (by decide)]; decide))
      have ga12165 := ga12141.of (h12159.2 (c + 3) (by rw [kC_at (k := 3) (by decide)]; decide))
      have ga12166 := ga12142.of (h12159.2 (c + 7) (by rw [kC_at (k := 7) (by decide)]; decide))
      have ga12167 := ga12143.of (h12159.2 (c + 8) (by rw [kC_at (k := 8) (by decide)]; decide))
      have ga12168 := ga12144.of (h12159.2 (c + 9) (by rw [kC_at (k := 9) (by decide)]; decide))
      have ga12169 := ga12145.of (h12159.2 (c + 11) (by rw [kC_at (k := 11) (by decide)]; decide))
      rcases pr12162 with ⟨e12170, l12172, l12173, ea12174, ⟨so12175, va12176, mt12177, yd12178⟩, rfl⟩ | ⟨e12170, ⟨fa12179, fb12180⟩, rfl⟩ | ⟨e12170, e12171, ⟨fa12179, fb12180⟩, rfl⟩
      · have bk12181 := tok_ok (t := t) (n := n) P12136.a (by omega)
        generalize ek12181 : tok t n P12136.a = k12181 at ea12174 mt12177 yd12178 bk12181
        rw [show P12136.a = k12150.2.2.2 by omega] at ek12181
        have hyd12182 := yd12178
        obtain ⟨yd12182, yd12183, yd12184, yd12185, yd12186, yd12187, yd12188⟩ := hyd12182
        refine m_istore_n F (lv' := [(2, .int (nI k12150.2.2.1)), (1, .int (nI (4 + fx nm k12120.2.2.1 P.n5))), (0, .ref c)]) e_X10_readFair_37 (by decide) rfl ?_
        refine m_aload_n F rfl e_X10_readFair_38 ?_
        refine r_getC F e_X10_readFair_39 fl_X10_141 h12160 (yd12187) ?_
        refine m_if_ne F e_X10_readFair_42 (fun q => absurd (by decide) q) (fun _ => ?_)
        refine m_aload_n F rfl e_X10_readFair_45 ?_
        refine r_get F e_X10_readFair_46 fl_X10_31 h12160 rfl (fun v hv f12189 => ?_)
        obtain rfl : v = .ref (c + 8) := hv
        refine m_iload_n F rfl e_X10_readFair_49 ?_
        refine m_iload_n F rfl e_X10_readFair_50 ?_
        refine r_iast F (g' := (⟨T, Z, u, h, P12161, L⟩ : RG)) (len := 8) (j := 4 + fx nm k12120.2.2.1 P.n5) e_X10_readFair_51 h12160 (fun _ h => h) (fun f h => ⟨f, rfl, h⟩) (by decide) (by decide) (nI_clamp (by omega)) (vp_in_nI (by omega) (by decide)) trivial (fun _ _ _ h => h) (fun _ _ _ h => h) (fun σ12190 h12191 g12192 f12193 g12194 => ?_)
        have ga12195 := ga12163.of (g12192 _ (by omega))
        have ga12196 := ga12164.of (g12192 _ (by omega))
        have ga12197 := ga12165.of (g12192 _ (by omega))
        have ga12198 := ga12166.of (g12192 _ (by omega))
        have ga12199 := ga12168.of (g12192 _ (by omega))
        have ga12200 := ga12169.of (g12192 _ (by omega))
        have ga12202 := FR.upbL (l := fx nm k12120.2.2.1 P.n5) (b' := 1) ga12199 (by decide)
        have ga12203 := KR.upbL (l := fx nm k12120.2.2.1 P.n5) (b' := 1) ga12198 (by decide) (by decide)
        have ga12201 := FR.put (b := 1) ga12167 (by omega) (by omega) f12193 g12194
        exact m_vret F hQ e_X10_readFair_52 (⟨P12161, oP12161, (by unfold RP; omega), (by unfold fairS; dsimp only; rw [ek12120, oncK_ok e12111 e12112 e3, ek12150, numK_ok e12170 l12172 l12173, ek12181]; exact RM.r mt12177 ⟨((fld_eq (g12192 _ (by omega))).trans yd12182), ((fld_eq (g12192 _ (by omega))).trans yd12183), ((fld_eq (g12192 _ (by omega))).trans yd12184), ((fld_eq (g12192 _ (by omega))).trans yd12185), ((fld_eq (g12192 _ (by omega))).trans yd12186), ((fld_eq (g12192 _ (by omega))).trans yd12187), ((fld_eq (g12192 _ (by omega))).trans yd12188)⟩ (by omega) (by omega) (by omega) ga12196 ga12197 ga12203 ga12201 ga12202 ga12200 (by omega) (by omega) (by omega) (by omega) (by omega)), h12191, rfl⟩)
      · have hz9 : True := trivial
        refine m_istore_n F (lv' := [(2, .int (nI 1)), (1, .int (nI (4 + fx nm k12120.2.2.1 P.n5))), (0, .ref c)]) e_X10_readFair_37 (by decide) rfl ?_
        refine m_aload_n F rfl e_X10_readFair_38 ?_
        refine r_getC F e_X10_readFair_39 fl_X10_141 h12160 (fa12179) ?_
        refine m_if_ne F e_X10_readFair_42 (fun _ => ?_) (fun q => absurd q (by decide))
        exact m_vret F hQ e_X10_readFair_52 (⟨P12161, oP12161, (by unfold RP; omega), (by unfold fairS; dsimp only; rw [ek12120, oncK_ok e12111 e12112 e3, ek12150, numK_1 e12170]; exact RM.l (fa12179) (fb12180) (by decide) (by decide) (by omega)), h12160, rfl⟩)
      · have hz9 : True := trivial
        refine m_istore_n F (lv' := [(2, .int (nI 1)), (1, .int (nI (4 + fx nm k12120.2.2.1 P.n5))), (0, .ref c)]) e_X10_readFair_37 (by decide) rfl ?_
        refine m_aload_n F rfl e_X10_readFair_38 ?_
        refine r_getC F e_X10_readFair_39 fl_X10_141 h12160 (fa12179) ?_
        refine m_if_ne F e_X10_readFair_42 (fun _ => ?_) (fun q => absurd q (by decide))
        exact m_vret F hQ e_X10_readFair_52 (⟨P12161, oP12161, (by unfold RP; omega), (by unfold fairS; dsimp only; rw [ek12120, oncK_ok e12111 e12112 e3, ek12150, numK_2 e12170 e12171]; exact RM.l (fa12179) (fb12180) (by decide) (by decide) (by omega)), h12160, rfl⟩)
    · have c18 : w12129 ≠ 0 := by have hh := mt (nI_eq (a := w12129) (b := 0) (by omega) (by omega)).mpr q18; omega
      have e3 : md (fx nm k12120.2.2.1 P.n5) 1 = true := by cases hmd : md (fx nm k12120.2.2.1 P.n5) 1 with | true => rfl | false => exact absurd (gw12129.mpr hmd) (by omega)
      refine m_aload_n F rfl e_X10_readFair_21 ?_
      refine m_iconst F (v := 3) (by decide) e_X10_readFair_22 ?_
      refine r_callV F e_X10_readFair_23 (q_X10_wrongE (x_l X) V c T Z u h P12102 L _ _ 3 n k12120.1 so12114 va12115 ln fp h12101.1 (hob) oP12102 (by omega) ⟨(yd12121), (yd12122), (yd12123), (yd12124), (yd12125), (yd12126), (yd12127)⟩ (by decide)) cb_X10_wrong ml_X10_150 im_X10_wrong se_X10_wrong h12101 rfl rfl (rest := []) rfl (Nat.le_of_ble_eq_true rfl) ⟨Nat.le_of_ble_eq_true rfl, Nat.le_of_ble_eq_true rfl⟩ ⟨Nat.le_of_ble_eq_true rfl, Nat.le_of_ble_eq_true rfl⟩ (fun r σ12204 hp => ?_)
      obtain ⟨h12205, hp⟩ := hp
      have h12206 := HS.trans h12101 h12205 (by decide)
      have ga12207 := ga12104.of (h12205.2 (c + 1) (by rw [kC_at (k := 1) (by decide)]; decide))
      have ga12208 := ga12105.of (h12205.2 (c + 2) (by rw [kC_at (k := 2) (by decide)]; decide))
      have ga12209 := ga12106.of (h12205.2 (c + 3) (by rw [kC_at (k := 3) (by decide)]; decide))
      have ga12210 := ga12107.of (h12205.2 (c + 7) (by rw [kC_at (k := 7) (by decide)]; decide))
      have ga12211 := ga12108.of (h12205.2 (c + 8) (by rw [kC_at (k := 8) (by decide)]; decide))
      have ga12212 := ga12109.of (h12205.2 (c + 9) (by rw [kC_at (k := 9) (by decide)]; decide))
      have ga12213 := ga12110.of (h12205.2 (c + 11) (by rw [kC_at (k := 11) (by decide)]; decide))
      obtain ⟨hp, rfl⟩ := hp
      have hyd12214 := hp
      obtain ⟨yd12214, yd12215, yd12216, yd12217, yd12218, yd12219, yd12220⟩ := hyd12214
      refine m_aload_n F rfl e_X10_readFair_26 ?_
      refine r_callV F e_X10_readFair_27 (q_X10_goOnG (x_l X) V c T 0 u h P12102 L _ _  3 h12206.1 (hob) oP12102  (yd12219) (by decide)) cb_X10_goOn ml_X10_154 im_X10_goOn se_X10_goOn h12206 rfl rfl (rest := []) rfl (Nat.le_of_ble_eq_true rfl) ⟨Nat.le_of_ble_eq_true rfl, Nat.le_of_ble_eq_true rfl⟩ ⟨Nat.le_of_ble_eq_true rfl, Nat.le_of_ble_eq_true rfl⟩ (fun r σ12221 hp => ?_)
      obtain ⟨h12222, hp⟩ := hp
      have h12223 := HS.trans h12206 h12222 (by decide)
      have ga12224 := ga12207.of (h12222.2 (c + 1) (by rw [kC_at (k := 1) (by decide)]; decide))
      have ga12225 := ga12208.of (h12222.2 (c + 2) (by rw [kC_at (k := 2) (by decide)]; decide))
      have ga12226 := ga12209.of (h12222.2 (c + 3) (by rw [kC_at (k := 3) (by decide)]; decide))
      have ga12227 := ga12210.of (h12222.2 (c + 7) (by rw [kC_at (k := 7) (by decide)]; decide))
      have ga12228 := ga12211.of (h12222.2 (c + 8) (by rw [kC_at (k := 8) (by decide)]; decide))
      have ga12229 := ga12212.of (h12222.2 (c + 9) (by rw [kC_at (k := 9) (by decide)]; decide))
      have ga12230 := ga12213.of (h12222.2 (c + 11) (by rw [kC_at (k := 11) (by decide)]; decide))
      obtain ⟨rfl, rfl⟩ := hp
      refine m_aload_n F rfl e_X10_readFair_30 ?_
      refine m_iconst F (v := 1) (by decide) e_X10_readFair_31 ?_
      refine m_ldc F kc_X10_129 e_X10_readFair_32 ?_
      refine r_callV F e_X10_readFair_34 (q_X10_numeralG (x_l X) V c T 0 u h P12102 L _ _ 1 9999999 3 h12223.1 (hob) oP12102 (by omega) (by omega) (yd12219) (by decide)) cb_X10_numeral ml_X10_165 im_X10_numeral se_X10_numeral h12223 rfl rfl (rest := []) rfl (Nat.le_of_ble_eq_true rfl) ⟨Nat.le_of_ble_eq_true rfl, Nat.le_of_ble_eq_true rfl⟩ ⟨Nat.le_of_ble_eq_true rfl, Nat.le_of_ble_eq_true rfl⟩ (fun r σ12231 hp => ?_)
      obtain ⟨h12232, hp⟩ := hp
      have h12233 := HS.trans h12223 h12232 (by decide)
      have ga12234 := ga12207.of (h12232.2 (c + 1) (by rw [kC_at (k := 1) (by decide)]; decide))
      have ga12235 := ga12208.of (h12232.2 (c + 2) (by rw [kC_at (k := 2) (by decide)]; decide))
      have ga12236 := ga12209.of (h12232.2 (c + 3) (by rw [kC_at (k := 3) (by decide)]; decide))
      have ga12237 := ga12210.of (h12232.2 (c + 7) (by rw [kC_at (k := 7) (by decide)]; decide))
      have ga12238 := ga12211.of (h12232.2 (c + 8) (by rw [kC_at (k := 8) (by decide)]; decide))
      have ga12239 := ga12212.of (h12232.2 (c + 9) (by rw [kC_at (k := 9) (by decide)]; decide))
      have ga12240 := ga12213.of (h12232.2 (c + 11) (by rw [kC_at (k := 11) (by decide)]; decide))
      obtain ⟨rfl, rfl⟩ := hp
      refine m_istore_n F (lv' := [(2, .int (nI 1)), (1, .int (nI (4 + fx nm k12120.2.2.1 P.n5))), (0, .ref c)]) e_X10_readFair_37 (by decide) rfl ?_
      refine m_aload_n F rfl e_X10_readFair_38 ?_
      refine r_getC F e_X10_readFair_39 fl_X10_141 h12233 (yd12219) ?_
      refine m_if_ne F e_X10_readFair_42 (fun _ => ?_) (fun q => absurd q (by decide))
      have h12241 : HS V c _ [0, 2, 3, 4, 5, 6, 7, 8, 10, 11, 12, 13, 14, 15, 16, 17, 18, 19, 20, 21, 22, 23] _ _ := ⟨HR.mono (Z' := Z) (by intro e; first | rfl | assumption | omega) h12233.1, h12233.2⟩
      exact m_vret F hQ e_X10_readFair_52 (⟨P12102, oP12102, (by unfold RP; omega), (by unfold fairS; dsimp only; rw [ek12120, oncK_3 e12111 e12112 e3]; exact RM.l (yd12219) (yd12220) (by decide) (by decide) (by omega)), h12241, rfl⟩)
  · have hz9 : True := trivial
    refine m_istore_n F (lv' := [(1, .int (nI 4)), (0, .ref c)]) e_X10_readFair_4 (by decide) rfl ?_
    refine m_aload_n F rfl e_X10_readFair_5 ?_
    refine r_getC F e_X10_readFair_6 fl_X10_141 h12101 (fa12118) ?_
    refine m_if_ne F e_X10_readFair_9 (fun _ => ?_) (fun q => absurd q (by decide))
    refine m_aload_n F rfl e_X10_readFair_26 ?_
    refine r_callV F e_X10_readFair_27 (q_X10_goOnG (x_l X) V c T Z u h P12102 L _ _  1 h12101.1 (hob) oP12102  (fa12118) (by decide)) cb_X10_goOn ml_X10_154 im_X10_goOn se_X10_goOn h12101 rfl rfl (rest := []) rfl (Nat.le_of_ble_eq_true rfl) ⟨Nat.le_of_ble_eq_true rfl, Nat.le_of_ble_eq_true rfl⟩ ⟨Nat.le_of_ble_eq_true rfl, Nat.le_of_ble_eq_true rfl⟩ (fun r σ12242 hp => ?_)
    obtain ⟨h12243, hp⟩ := hp
    have h12244 := HS.trans h12101 h12243 (by decide)
    obtain ⟨rfl, rfl⟩ := hp
    refine m_aload_n F rfl e_X10_readFair_30 ?_
    refine m_iconst F (v := 1) (by decide) e_X10_readFair_31 ?_
    refine m_ldc F kc_X10_129 e_X10_readFair_32 ?_
    refine r_callV F e_X10_readFair_34 (q_X10_numeralG (x_l X) V c T Z u h P12102 L _ _ 1 9999999 1 h12244.1 (hob) oP12102 (by omega) (by omega) (fa12118) (by decide)) cb_X10_numeral ml_X10_165 im_X10_numeral se_X10_numeral h12244 rfl rfl (rest := []) rfl (Nat.le_of_ble_eq_true rfl) ⟨Nat.le_of_ble_eq_true rfl, Nat.le_of_ble_eq_true rfl⟩ ⟨Nat.le_of_ble_eq_true rfl, Nat.le_of_ble_eq_true rfl⟩ (fun r σ12245 hp => ?_)
    obtain ⟨h12246, hp⟩ := hp
    have h12247 := HS.trans h12244 h12246 (by decide)
    obtain ⟨rfl, rfl⟩ := hp
    refine m_istore_n F (lv' := [(2, .int (nI 1)), (1, .int (nI 4)), (0, .ref c)]) e_X10_readFair_37 (by decide) rfl ?_
    refine m_aload_n F rfl e_X10_readFair_38 ?_
    refine r_getC F e_X10_readFair_39 fl_X10_141 h12247 (fa12118) ?_
    refine m_if_ne F e_X10_readFair_42 (fun _ => ?_) (fun q => absurd q (by decide))
    exact m_vret F hQ e_X10_readFair_52 (⟨P12102, oP12102, (by unfold RP; omega), (by unfold fairS; dsimp only; rw [ek12120, oncK_1 e12111]; exact RM.l (fa12118) (fb12119) (by decide) (by decide) (by omega)), h12247, rfl⟩)
  · have hz9 : True := trivial
    refine m_istore_n F (lv' := [(1, .int (nI 4)), (0, .ref c)]) e_X10_readFair_4 (by decide) rfl ?_
    refine m_aload_n F rfl e_X10_readFair_5 ?_
    refine r_getC F e_X10_readFair_6 fl_X10_141 h12101 (fa12118) ?_
    refine m_if_ne F e_X10_readFair_9 (fun _ => ?_) (fun q => absurd q (by decide))
    refine m_aload_n F rfl e_X10_readFair_26 ?_
    refine r_callV F e_X10_readFair_27 (q_X10_goOnG (x_l X) V c T Z u h P12102 L _ _  4 h12101.1 (hob) oP12102  (fa12118) (by decide)) cb_X10_goOn ml_X10_154 im_X10_goOn se_X10_goOn h12101 rfl rfl (rest := []) rfl (Nat.le_of_ble_eq_true rfl) ⟨Nat.le_of_ble_eq_true rfl, Nat.le_of_ble_eq_true rfl⟩ ⟨Nat.le_of_ble_eq_true rfl, Nat.le_of_ble_eq_true rfl⟩ (fun r σ12248 hp => ?_)
    obtain ⟨h12249, hp⟩ := hp
    have h12250 := HS.trans h12101 h12249 (by decide)
    obtain ⟨rfl, rfl⟩ := hp
    refine m_aload_n F rfl e_X10_readFair_30 ?_
    refine m_iconst F (v := 1) (by decide) e_X10_readFair_31 ?_
    refine m_ldc F kc_X10_129 e_X10_readFair_32 ?_
    refine r_callV F e_X10_readFair_34 (q_X10_numeralG (x_l X) V c T Z u h P12102 L _ _ 1 9999999 4 h12250.1 (hob) oP12102 (by omega) (by omega) (fa12118) (by decide)) cb_X10_numeral ml_X10_165 im_X10_numeral se_X10_numeral h12250 rfl rfl (rest := []) rfl (Nat.le_of_ble_eq_true rfl) ⟨Nat.le_of_ble_eq_true rfl, Nat.le_of_ble_eq_true rfl⟩ ⟨Nat.le_of_ble_eq_true rfl, Nat.le_of_ble_eq_true rfl⟩ (fun r σ12251 hp => ?_)
    obtain ⟨h12252, hp⟩ := hp
    have h12253 := HS.trans h12250 h12252 (by decide)
    obtain ⟨rfl, rfl⟩ := hp
    refine m_istore_n F (lv' := [(2, .int (nI 1)), (1, .int (nI 4)), (0, .ref c)]) e_X10_readFair_37 (by decide) rfl ?_
    refine m_aload_n F rfl e_X10_readFair_38 ?_
    refine r_getC F e_X10_readFair_39 fl_X10_141 h12253 (fa12118) ?_
    refine m_if_ne F e_X10_readFair_42 (fun _ => ?_) (fun q => absurd q (by decide))
    exact m_vret F hQ e_X10_readFair_52 (⟨P12102, oP12102, (by unfold RP; omega), (by unfold fairS; dsimp only; rw [ek12120, oncK_4 e12111 e12112]; exact RM.l (fa12118) (fb12119) (by decide) (by decide) (by omega)), h12253, rfl⟩)
set_option maxRecDepth 20000 in
theorem q_X10_readFeeE (l : Launch) (V : VX) (c T Z u h : Nat) (P : NP) (L : Nat → LQ) (N : Nat) (σ : Mem) (n st : Nat) (so va : Int32) (ln : Nat) (fp : Int32) (t : Nat → Nat) (s9 v9 : Nat) (nm : Nat → Nat) (np lc no sd : Nat) (md : Nat → Nat → Bool) (h0 : HR V c ⟨T, Z, u, h, P, L⟩ σ) (hob : OKB L) (hP : OKP P) (hp0 : YD σ c n st so va ln 0 fp) (hp1 : BR σ c n t) (hp2 : n ≤ 700) (hp3 : P.a ≤ n) (hp4 : MT so va s9 v9) (hp5 : st ≤ n) (hp6 : NR σ c np no sd) (hp7 : MR σ c P.n5 nm) (hp8 : KR σ c P.n5 md) (hp9 : FR σ c 8 1 P.n5 md) (hp10 : FR σ c 9 2 P.n5 md) (hp11 : QR σ c P.n7 lc) (hp12 : np ≤ 12) (hp13 : no ≤ 4) (hp14 : sd ≤ 1) : Ct l V yX10_readFee cX10_readFee 3 none 8 0 0 N σ [.ref c] (fun r τ => ∃ P9 : NP, OKP P9 ∧ RP P P9 ∧ RM τ c n P9 (feeS (tok t n) (st, s9, v9, P.a) P.n5 nm np P.n7 lc no sd md ln) ∧ HS V c (⟨T, Z, u, h, P9, L⟩ : RG) [0, 2, 3, 4, 5, 6, 7, 8, 9, 11, 12, 13, 14, 15, 16, 17, 18, 19, 20, 21, 22, 23] σ τ ∧ r = none) := by
  refine Ct.of (by decide) (Nat.le_of_ble_eq_true rfl) [(0, .ref c)] rfl (fun X hX F hQ => ?_)
  have hPP := hP
  unfold OKP at hPP
  have h1 : HS V c ⟨T, Z, u, h, P, L⟩ [0, 2, 3, 4, 5, 6, 7, 8, 9, 11, 12, 13, 14, 15, 16, 17, 18, 19, 20, 21, 22, 23] σ σ := HS.start h0
  have hyd12254 := hp0
  obtain ⟨yd12254, yd12255, yd12256, yd12257, yd12258, yd12259, yd12260⟩ := hyd12254
  have hn7 := hp2
  refine m_aload_n F rfl e_X10_readFee_0 ?_
  refine r_callV F e_X10_readFee_1 (q_X10_atHandE (x_l X) V c T Z u h P L _ _  n st so va ln fp t nm h1.1 (hob) hP  ⟨(yd12254), (yd12255), (yd12256), (yd12257), (yd12258), (yd12259), (yd12260)⟩ hp1 hn7 (by omega) hp7) cb_X10_atHand ml_X10_174 im_X10_atHand se_X10_atHand h1 rfl rfl (rest := []) rfl (Nat.le_of_ble_eq_true rfl) ⟨Nat.le_of_ble_eq_true rfl, Nat.le_of_ble_eq_true rfl⟩ ⟨Nat.le_of_ble_eq_true rfl, Nat.le_of_ble_eq_true rfl⟩ (fun r σ12261 hp => ?_)
  obtain ⟨P12264, oP12264, rP12264, pr12265, h12262, hp⟩ := hp
  have h12263 := HS.trans h1 h12262 (by decide)
  have xP12264 := oP12264
  unfold OKP at xP12264
  unfold RA at rP12264
  have ga12266 := hp1.of (h12262.2 (c + 1) (by rw [kC_at (k := 1) (by decide)]; decide))
  have ga12267 := hp6.of (h12262.2 (c + 2) (by rw [kC_at (k := 2) (by decide)]; decide))
  have ga12268 := hp7.of (h12262.2 (c + 3) (by rw [kC_at (k := 3) (by decide)]; decide))
  have ga12269 := hp8.of (h12262.2 (c + 7) (by rw [kC_at (k := 7) (by decide)]; decide))
  have ga12270 := hp9.of (h12262.2 (c + 8) (by rw [kC_at (k := 8) (by decide)]; decide))
  have ga12271 := hp10.of (h12262.2 (c + 9) (by rw [kC_at (k := 9) (by decide)]; decide))
  have ga12272 := hp11.of (h12262.2 (c + 11) (by rw [kC_at (k := 11) (by decide)]; decide))
  have bk12282 := tok_ok (t := t) (n := n) P.a (by omega)
  generalize ek12282 : tok t n P.a = k12282 at pr12265 bk12282
  rcases pr12265 with ⟨e12273, e12274, ea12275, ⟨so12276, va12277, mt12278, yd12279⟩, rfl⟩ | ⟨e12273, ⟨fa12280, fb12281⟩, rfl⟩ | ⟨e12273, e12274, ⟨fa12280, fb12281⟩, rfl⟩
  · have hyd12283 := yd12279
    obtain ⟨yd12283, yd12284, yd12285, yd12286, yd12287, yd12288, yd12289⟩ := hyd12283
    refine m_istore_n F (lv' := [(1, .int (nI (4 + fx nm k12282.2.2.1 P.n5))), (0, .ref c)]) e_X10_readFee_4 (by decide) rfl ?_
    refine m_aload_n F rfl e_X10_readFee_5 ?_
    refine r_getC F e_X10_readFee_6 fl_X10_141 h12263 (yd12288) ?_
    refine m_if_ne F e_X10_readFee_9 (fun q => absurd (by decide) q) (fun _ => ?_)
    refine m_aload_n F rfl e_X10_readFee_12 ?_
    refine r_get F e_X10_readFee_13 fl_X10_34 h12263 rfl (fun v hv f12290 => ?_)
    obtain rfl : v = .ref (c + 9) := hv
    refine m_iload_n F rfl e_X10_readFee_16 ?_
    obtain ⟨w12291, hw12291, fw12291, gw12291⟩ := ga12271 (fx nm k12282.2.2.1 P.n5) e12274
    refine r_iald F (len := 8) (j := 4 + fx nm k12282.2.2.1 P.n5) e_X10_readFee_17 h12263 (fun _ h => h) (by decide) (nI_clamp (by omega)) (vp_in_nI (by omega) (by decide)) (fun x12292 h12293 f12294 => ?_)
    obtain rfl := Option.some.inj ((f12294).symm.trans (fw12291))
    refine m_if_eq F e_X10_readFee_18 (fun q18 => ?_) (fun q18 => ?_)
    · have c18 : w12291 = 0 := (nI_eq (a := w12291) (b := 0) (by omega) (by omega)).mp q18
      have e3 : md (fx nm k12282.2.2.1 P.n5) 2 = false := gw12291.mp c18
      refine m_aload_n F rfl e_X10_readFee_26 ?_
      refine r_callV F e_X10_readFee_27 (q_X10_goOnE (x_l X) V c T Z u h P12264 L _ _  n k12282.1 so12276 va12277 ln fp t h12263.1 (hob) oP12264  ⟨(yd12283), (yd12284), (yd12285), (yd12286), (yd12287), (yd12288), (yd12289)⟩ ga12266 hn7 (by omega)) cb_X10_goOn ml_X10_154 im_X10_goOn se_X10_goOn h12263 rfl rfl (rest := []) rfl (Nat.le_of_ble_eq_true rfl) ⟨Nat.le_of_ble_eq_true rfl, Nat.le_of_ble_eq_true rfl⟩ ⟨Nat.le_of_ble_eq_true rfl, Nat.le_of_ble_eq_true rfl⟩ (fun r σ12295 hp => ?_)
      obtain ⟨P12298, oP12298, rP12298, pr12299, pr12300, h12296, hp⟩ := hp
      have h12297 := HS.trans h12263 h12296 (by decide)
      have xP12298 := oP12298
      unfold OKP at xP12298
      unfold RA at rP12298
      have ga12301 := ga12266.of (h12296.2 (c + 1) (by rw [kC_at (k := 1) (by decide)]; decide))
      have ga12302 := ga12267.of (h12296.2 (c + 2) (by rw [kC_at (k := 2) (by decide)]; decide))
      have ga12303 := ga12268.of (h12296.2 (c + 3) (by rw [kC_at (k := 3) (by decide)]; decide))
      have ga12304 := ga12269.of (h12296.2 (c + 7) (by rw [kC_at (k := 7) (by decide)]; decide))
      have ga12305 := ga12270.of (h12296.2 (c + 8) (by rw [kC_at (k := 8) (by decide)]; decide))
      have ga12306 := ga12271.of (h12296.2 (c + 9) (by rw [kC_at (k := 9) (by decide)]; decide))
      have ga12307 := ga12272.of (h12296.2 (c + 11) (by rw [kC_at (k := 11) (by decide)]; decide))
      obtain rfl := hp
      obtain ⟨so12308, va12309, mt12310, yd12311⟩ := pr12300
      generalize ek12312 : tok t n P12264.a = k12312 at pr12299 mt12310 yd12311
      have bk12312 := tok_ok (t := t) (n := n) P12264.a (by omega)
      rw [ek12312] at bk12312
      rw [show P12264.a = k12282.2.2.2 by omega] at ek12312
      have hyd12313 := yd12311
      obtain ⟨yd12313, yd12314, yd12315, yd12316, yd12317, yd12318, yd12319⟩ := hyd12313
      refine m_aload_n F rfl e_X10_readFee_30 ?_
      refine m_iconst F (v := 0) (by decide) e_X10_readFee_31 ?_
      refine m_ldc F kc_X10_177 e_X10_readFee_32 ?_
      refine r_callV F e_X10_readFee_34 (q_X10_numeralE (x_l X) V c T Z u h P12298 L _ _ 0 99999 n k12312.1 so12308 va12309 ln fp t k12312.2.1 k12312.2.2.1 h12297.1 (hob) oP12298 (by omega) (by omega) ⟨(yd12313), (yd12314), (yd12315), (yd12316), (yd12317), (yd12318), (yd12319)⟩ ga12301 hn7 (by omega) mt12310) cb_X10_numeral ml_X10_165 im_X10_numeral se_X10_numeral h12297 rfl rfl (rest := []) rfl (Nat.le_of_ble_eq_true rfl) ⟨Nat.le_of_ble_eq_true rfl, Nat.le_of_ble_eq_true rfl⟩ ⟨Nat.le_of_ble_eq_true rfl, Nat.le_of_ble_eq_true rfl⟩ (fun r σ12320 hp => ?_)
      obtain ⟨P12323, oP12323, rP12323, pr12324, h12321, hp⟩ := hp
      have h12322 := HS.trans h12297 h12321 (by decide)
      have xP12323 := oP12323
      unfold OKP at xP12323
      unfold RA at rP12323
      have ga12325 := ga12301.of (h12321.2 (c + 1) (by rw [kC_at (k := 1) (by decide)]; decide))
      have ga12326 := ga12302.of (h12321.2 (c + 2) (by rw [kC_at (k := 2) (by decide)]; decide))
      have ga12327 := ga12303.of (h12321.2 (c + 3) (by rw [kC_at (k := 3) (by decide)]; decide))
      have ga12328 := ga12304.of (h12321.2 (c + 7) (by rw [kC_at (k := 7) (by decide)]; decide))
      have ga12329 := ga12305.of (h12321.2 (c + 8) (by rw [kC_at (k := 8) (by decide)]; decide))
      have ga12330 := ga12306.of (h12321.2 (c + 9) (by rw [kC_at (k := 9) (by decide)]; decide))
      have ga12331 := ga12307.of (h12321.2 (c + 11) (by rw [kC_at (k := 11) (by decide)]; decide))
      rcases pr12324 with ⟨e12332, l12334, l12335, ea12336, ⟨so12337, va12338, mt12339, yd12340⟩, rfl⟩ | ⟨e12332, ⟨fa12341, fb12342⟩, rfl⟩ | ⟨e12332, e12333, ⟨fa12341, fb12342⟩, rfl⟩
      · have bk12343 := tok_ok (t := t) (n := n) P12298.a (by omega)
        generalize ek12343 : tok t n P12298.a = k12343 at ea12336 mt12339 yd12340 bk12343
        rw [show P12298.a = k12312.2.2.2 by omega] at ek12343
        have hyd12344 := yd12340
        obtain ⟨yd12344, yd12345, yd12346, yd12347, yd12348, yd12349, yd12350⟩ := hyd12344
        refine m_istore_n F (lv' := [(2, .int (nI k12312.2.2.1)), (1, .int (nI (4 + fx nm k12282.2.2.1 P.n5))), (0, .ref c)]) e_X10_readFee_37 (by decide) rfl ?_
        refine m_aload_n F rfl e_X10_readFee_38 ?_
        refine r_getC F e_X10_readFee_39 fl_X10_141 h12322 (yd12349) ?_
        refine m_if_ne F e_X10_readFee_42 (fun q => absurd (by decide) q) (fun _ => ?_)
        refine m_aload_n F rfl e_X10_readFee_45 ?_
        refine r_get F e_X10_readFee_46 fl_X10_34 h12322 rfl (fun v hv f12351 => ?_)
        obtain rfl : v = .ref (c + 9) := hv
        refine m_iload_n F rfl e_X10_readFee_49 ?_
        refine m_iload_n F rfl e_X10_readFee_50 ?_
        refine m_iconst F (v := 1) (by decide) e_X10_readFee_51 ?_
        refine m_iadd F e_X10_readFee_52 ?_
        refine Wm.topE (w := nI (k12312.2.2.1 + 1)) (nI_add k12312.2.2.1 1) ?_
        refine r_iast F (g' := (⟨T, Z, u, h, P12323, L⟩ : RG)) (len := 8) (j := 4 + fx nm k12282.2.2.1 P.n5) e_X10_readFee_53 h12322 (fun _ h => h) (fun f h => ⟨f, rfl, h⟩) (by decide) (by decide) (nI_clamp (by omega)) (vp_in_nI (by omega) (by decide)) trivial (fun _ _ _ h => h) (fun _ _ _ h => h) (fun σ12352 h12353 g12354 f12355 g12356 => ?_)
        have ga12357 := ga12325.of (g12354 _ (by omega))
        have ga12358 := ga12326.of (g12354 _ (by omega))
        have ga12359 := ga12327.of (g12354 _ (by omega))
        have ga12360 := ga12328.of (g12354 _ (by omega))
        have ga12361 := ga12329.of (g12354 _ (by omega))
        have ga12362 := ga12331.of (g12354 _ (by omega))
        have ga12364 := FR.upbL (l := fx nm k12282.2.2.1 P.n5) (b' := 2) ga12361 (by decide)
        have ga12365 := KR.upbL (l := fx nm k12282.2.2.1 P.n5) (b' := 2) ga12360 (by decide) (by decide)
        have ga12363 := FR.put (b := 2) ga12330 (by omega) (by omega) f12355 g12356
        exact m_vret F hQ e_X10_readFee_54 (⟨P12323, oP12323, (by unfold RP; omega), (by unfold feeS; dsimp only; rw [ek12282, oncK_ok e12273 e12274 e3, ek12312, numK_ok e12332 l12334 l12335, ek12343]; exact RM.r mt12339 ⟨((fld_eq (g12354 _ (by omega))).trans yd12344), ((fld_eq (g12354 _ (by omega))).trans yd12345), ((fld_eq (g12354 _ (by omega))).trans yd12346), ((fld_eq (g12354 _ (by omega))).trans yd12347), ((fld_eq (g12354 _ (by omega))).trans yd12348), ((fld_eq (g12354 _ (by omega))).trans yd12349), ((fld_eq (g12354 _ (by omega))).trans yd12350)⟩ (by omega) (by omega) (by omega) ga12358 ga12359 ga12365 ga12364 ga12363 ga12362 (by omega) (by omega) (by omega) (by omega) (by omega)), h12353, rfl⟩)
      · have hz9 : True := trivial
        refine m_istore_n F (lv' := [(2, .int (nI 0)), (1, .int (nI (4 + fx nm k12282.2.2.1 P.n5))), (0, .ref c)]) e_X10_readFee_37 (by decide) rfl ?_
        refine m_aload_n F rfl e_X10_readFee_38 ?_
        refine r_getC F e_X10_readFee_39 fl_X10_141 h12322 (fa12341) ?_
        refine m_if_ne F e_X10_readFee_42 (fun _ => ?_) (fun q => absurd q (by decide))
        exact m_vret F hQ e_X10_readFee_54 (⟨P12323, oP12323, (by unfold RP; omega), (by unfold feeS; dsimp only; rw [ek12282, oncK_ok e12273 e12274 e3, ek12312, numK_1 e12332]; exact RM.l (fa12341) (fb12342) (by decide) (by decide) (by omega)), h12322, rfl⟩)
      · have hz9 : True := trivial
        refine m_istore_n F (lv' := [(2, .int (nI 0)), (1, .int (nI (4 + fx nm k12282.2.2.1 P.n5))), (0, .ref c)]) e_X10_readFee_37 (by decide) rfl ?_
        refine m_aload_n F rfl e_X10_readFee_38 ?_
        refine r_getC F e_X10_readFee_39 fl_X10_141 h12322 (fa12341) ?_
        refine m_if_ne F e_X10_readFee_42 (fun _ => ?_) (fun q => absurd q (by decide))
        exact m_vret F hQ e_X10_readFee_54 (⟨P12323, oP12323, (by unfold RP; omega), (by unfold feeS; dsimp only; rw [ek12282, oncK_ok e12273 e12274 e3, ek12312, numK_2 e12332 e12333]; exact RM.l (fa12341) (fb12342) (by decide) (by decide) (by omega)), h12322, rfl⟩)
    · have c18 : w12291 ≠ 0 := by have hh := mt (nI_eq (a := w12291) (b := 0) (by omega) (by omega)).mpr q18; omega
      have e3 : md (fx nm k12282.2.2.1 P.n5) 2 = true := by cases hmd : md (fx nm k12282.2.2.1 P.n5) 2 with | true => rfl | false => exact absurd (gw12291.mpr hmd) (by omega)
      refine m_aload_n F rfl e_X10_readFee_21 ?_
      refine m_iconst F (v := 3) (by decide) e_X10_readFee_22 ?_
      refine r_callV F e_X10_readFee_23 (q_X10_wrongE (x_l X) V c T Z u h P12264 L _ _ 3 n k12282.1 so12276 va12277 ln fp h12263.1 (hob) oP12264 (by omega) ⟨(yd12283), (yd12284), (yd12285), (yd12286), (yd12287), (yd12288), (yd12289)⟩ (by decide)) cb_X10_wrong ml_X10_150 im_X10_wrong se_X10_wrong h12263 rfl rfl (rest := []) rfl (Nat.le_of_ble_eq_true rfl) ⟨Nat.le_of_ble_eq_true rfl, Nat.le_of_ble_eq_true rfl⟩ ⟨Nat.le_of_ble_eq_true rfl, Nat.le_of_ble_eq_true rfl⟩ (fun r σ12366 hp => ?_)
      obtain ⟨h12367, hp⟩ := hp
      have h12368 := HS.trans h12263 h12367 (by decide)
      have ga12369 := ga12266.of (h12367.2 (c + 1) (by rw [kC_at (k := 1) (by decide)]; decide))
      have ga12370 := ga12267.of (h12367.2 (c + 2) (by rw [kC_at (k := 2) (by decide)]; decide))
      have ga12371 := ga12268.of (h12367.2 (c + 3) (by rw [kC_at (k := 3) (by decide)]; decide))
      have ga12372 := ga12269.of (h12367.2 (c + 7) (by rw [kC_at (k := 7) (by decide)]; decide))
      have ga12373 := ga12270.of (h12367.2 (c + 8) (by rw [kC_at (k := 8) (by decide)]; decide))
      have ga12374 := ga12271.of (h12367.2 (c + 9) (by rw [kC_at (k := 9) (by decide)]; decide))
      have ga12375 := ga12272.of (h12367.2 (c + 11) (by rw [kC_at (k := 11) (by decide)]; decide))
      obtain ⟨hp, rfl⟩ := hp
      have hyd12376 := hp
      obtain ⟨yd12376, yd12377, yd12378, yd12379, yd12380, yd12381, yd12382⟩ := hyd12376
      refine m_aload_n F rfl e_X10_readFee_26 ?_
      refine r_callV F e_X10_readFee_27 (q_X10_goOnG (x_l X) V c T 0 u h P12264 L _ _  3 h12368.1 (hob) oP12264  (yd12381) (by decide)) cb_X10_goOn ml_X10_154 im_X10_goOn se_X10_goOn h12368 rfl rfl (rest := []) rfl (Nat.le_of_ble_eq_true rfl) ⟨Nat.le_of_ble_eq_true rfl, Nat.le_of_ble_eq_true rfl⟩ ⟨Nat.le_of_ble_eq_true rfl, Nat.le_of_ble_eq_true rfl⟩ (fun r σ12383 hp => ?_)
      obtain ⟨h12384, hp⟩ := hp
      have h12385 := HS.trans h12368 h12384 (by decide)
      have ga12386 := ga12369.of (h12384.2 (c + 1) (by rw [kC_at (k := 1) (by decide)]; decide))
      have ga12387 := ga12370.of (h12384.2 (c + 2) (by rw [kC_at (k := 2) (by decide)]; decide))
      have ga12388 := ga12371.of (h12384.2 (c + 3) (by rw [kC_at (k := 3) (by decide)]; decide))
      have ga12389 := ga12372.of (h12384.2 (c + 7) (by rw [kC_at (k := 7) (by decide)]; decide))
      have ga12390 := ga12373.of (h12384.2 (c + 8) (by rw [kC_at (k := 8) (by decide)]; decide))
      have ga12391 := ga12374.of (h12384.2 (c + 9) (by rw [kC_at (k := 9) (by decide)]; decide))
      have ga12392 := ga12375.of (h12384.2 (c + 11) (by rw [kC_at (k := 11) (by decide)]; decide))
      obtain ⟨rfl, rfl⟩ := hp
      refine m_aload_n F rfl e_X10_readFee_30 ?_
      refine m_iconst F (v := 0) (by decide) e_X10_readFee_31 ?_
      refine m_ldc F kc_X10_177 e_X10_readFee_32 ?_
      refine r_callV F e_X10_readFee_34 (q_X10_numeralG (x_l X) V c T 0 u h P12264 L _ _ 0 99999 3 h12385.1 (hob) oP12264 (by omega) (by omega) (yd12381) (by decide)) cb_X10_numeral ml_X10_165 im_X10_numeral se_X10_numeral h12385 rfl rfl (rest := []) rfl (Nat.le_of_ble_eq_true rfl) ⟨Nat.le_of_ble_eq_true rfl, Nat.le_of_ble_eq_true rfl⟩ ⟨Nat.le_of_ble_eq_true rfl, Nat.le_of_ble_eq_true rfl⟩ (fun r σ12393 hp => ?_)
      obtain ⟨h12394, hp⟩ := hp
      have h12395 := HS.trans h12385 h12394 (by decide)
      have ga12396 := ga12369.of (h12394.2 (c + 1) (by rw [kC_at (k := 1) (by decide)]; decide))
      have ga12397 := ga12370.of (h12394.2 (c + 2) (by rw [kC_at (k := 2) (by decide)]; decide))
      have ga12398 := ga12371.of (h12394.2 (c + 3) (by rw [kC_at (k := 3) (by decide)]; decide))
      have ga12399 := ga12372.of (h12394.2 (c + 7) (by rw [kC_at (k := 7) (by decide)]; decide))
      have ga12400 := ga12373.of (h12394.2 (c + 8) (by rw [kC_at (k := 8) (by decide)]; decide))
      have ga12401 := ga12374.of (h12394.2 (c + 9) (by rw [kC_at (k := 9) (by decide)]; decide))
      have ga12402 := ga12375.of (h12394.2 (c + 11) (by rw [kC_at (k := 11) (by decide)]; decide))
      obtain ⟨rfl, rfl⟩ := hp
      refine m_istore_n F (lv' := [(2, .int (nI 0)), (1, .int (nI (4 + fx nm k12282.2.2.1 P.n5))), (0, .ref c)]) e_X10_readFee_37 (by decide) rfl ?_
      refine m_aload_n F rfl e_X10_readFee_38 ?_
      refine r_getC F e_X10_readFee_39 fl_X10_141 h12395 (yd12381) ?_
      refine m_if_ne F e_X10_readFee_42 (fun _ => ?_) (fun q => absurd q (by decide))
      have h12403 : HS V c _ [0, 2, 3, 4, 5, 6, 7, 8, 9, 11, 12, 13, 14, 15, 16, 17, 18, 19, 20, 21, 22, 23] _ _ := ⟨HR.mono (Z' := Z) (by intro e; first | rfl | assumption | omega) h12395.1, h12395.2⟩
      exact m_vret F hQ e_X10_readFee_54 (⟨P12264, oP12264, (by unfold RP; omega), (by unfold feeS; dsimp only; rw [ek12282, oncK_3 e12273 e12274 e3]; exact RM.l (yd12381) (yd12382) (by decide) (by decide) (by omega)), h12403, rfl⟩)
  · have hz9 : True := trivial
    refine m_istore_n F (lv' := [(1, .int (nI 4)), (0, .ref c)]) e_X10_readFee_4 (by decide) rfl ?_
    refine m_aload_n F rfl e_X10_readFee_5 ?_
    refine r_getC F e_X10_readFee_6 fl_X10_141 h12263 (fa12280) ?_
    refine m_if_ne F e_X10_readFee_9 (fun _ => ?_) (fun q => absurd q (by decide))
    refine m_aload_n F rfl e_X10_readFee_26 ?_
    refine r_callV F e_X10_readFee_27 (q_X10_goOnG (x_l X) V c T Z u h P12264 L _ _  1 h12263.1 (hob) oP12264  (fa12280) (by decide)) cb_X10_goOn ml_X10_154 im_X10_goOn se_X10_goOn h12263 rfl rfl (rest := []) rfl (Nat.le_of_ble_eq_true rfl) ⟨Nat.le_of_ble_eq_true rfl, Nat.le_of_ble_eq_true rfl⟩ ⟨Nat.le_of_ble_eq_true rfl, Nat.le_of_ble_eq_true rfl⟩ (fun r σ12404 hp => ?_)
    obtain ⟨h12405, hp⟩ := hp
    have h12406 := HS.trans h12263 h12405 (by decide)
    obtain ⟨rfl, rfl⟩ := hp
    refine m_aload_n F rfl e_X10_readFee_30 ?_
    refine m_iconst F (v := 0) (by decide) e_X10_readFee_31 ?_
    refine m_ldc F kc_X10_177 e_X10_readFee_32 ?_
    refine r_callV F e_X10_readFee_34 (q_X10_numeralG (x_l X) V c T Z u h P12264 L _ _ 0 99999 1 h12406.1 (hob) oP12264 (by omega) (by omega) (fa12280) (by decide)) cb_X10_numeral ml_X10_165 im_X10_numeral se_X10_numeral h12406 rfl rfl (rest := []) rfl (Nat.le_of_ble_eq_true rfl) ⟨Nat.le_of_ble_eq_true rfl, Nat.le_of_ble_eq_true rfl⟩ ⟨Nat.le_of_ble_eq_true rfl, Nat.le_of_ble_eq_true rfl⟩ (fun r σ12407 hp => ?_)
    obtain ⟨h12408, hp⟩ := hp
    have h12409 := HS.trans h12406 h12408 (by decide)
    obtain ⟨rfl, rfl⟩ := hp
    refine m_istore_n F (lv' := [(2, .int (nI 0)), (1, .int (nI 4)), (0, .ref c)]) e_X10_readFee_37 (by decide) rfl ?_
    refine m_aload_n F rfl e_X10_readFee_38 ?_
    refine r_getC F e_X10_readFee_39 fl_X10_141 h12409 (fa12280) ?_
    refine m_if_ne F e_X10_readFee_42 (fun _ => ?_) (fun q => absurd q (by decide))
    exact m_vret F hQ e_X10_readFee_54 (⟨P12264, oP12264, (by unfold RP; omega), (by unfold feeS; dsimp only; rw [ek12282, oncK_1 e12273]; exact RM.l (fa12280) (fb12281) (by decide) (by decide) (by omega)), h12409, rfl⟩)
  · have hz9 : True := trivial
    refine m_istore_n F (lv' := [(1, .int (nI 4)), (0, .ref c)]) e_X10_readFee_4 (by decide) rfl ?_
    refine m_aload_n F rfl e_X10_readFee_5 ?_
    refine r_getC F e_X10_readFee_6 fl_X10_141 h12263 (fa12280) ?_
    refine m_if_ne F e_X10_readFee_9 (fun _ => ?_) (fun q => absurd q (by decide))
    refine m_aload_n F rfl e_X10_readFee_26 ?_
    refine r_callV F e_X10_readFee_27 (q_X10_goOnG (x_l X) V c T Z u h P12264 L _ _  4 h12263.1 (hob) oP12264  (fa12280) (by decide)) cb_X10_goOn ml_X10_154 im_X10_goOn se_X10_goOn h12263 rfl rfl (rest := []) rfl (Nat.le_of_ble_eq_true rfl) ⟨Nat.le_of_ble_eq_true rfl, Nat.le_of_ble_eq_true rfl⟩ ⟨Nat.le_of_ble_eq_true rfl, Nat.le_of_ble_eq_true rfl⟩ (fun r σ12410 hp => ?_)
    obtain ⟨h12411, hp⟩ := hp
    have h12412 := HS.trans h12263 h12411 (by decide)
    obtain ⟨rfl, rfl⟩ := hp
    refine m_aload_n F rfl e_X10_readFee_30 ?_
    refine m_iconst F (v := 0) (by decide) e_X10_readFee_31 ?_
    refine m_ldc F kc_X10_177 e_X10_readFee_32 ?_
    refine r_callV F e_X10_readFee_34 (q_X10_numeralG (x_l X) V c T Z u h P12264 L _ _ 0 99999 4 h12412.1 (hob) oP12264 (by omega) (by omega) (fa12280) (by decide)) cb_X10_numeral ml_X10_165 im_X10_numeral se_X10_numeral h12412 rfl rfl (rest := []) rfl (Nat.le_of_ble_eq_true rfl) ⟨Nat.le_of_ble_eq_true rfl, Nat.le_of_ble_eq_true rfl⟩ ⟨Nat.le_of_ble_eq_true rfl, Nat.le_of_ble_eq_true rfl⟩ (fun r σ12413 hp => ?_)
    obtain ⟨h12414, hp⟩ := hp
    have h12415 := HS.trans h12412 h12414 (by decide)
    obtain ⟨rfl, rfl⟩ := hp
    refine m_istore_n F (lv' := [(2, .int (nI 0)), (1, .int (nI 4)), (0, .ref c)]) e_X10_readFee_37 (by decide) rfl ?_
    refine m_aload_n F rfl e_X10_readFee_38 ?_
    refine r_getC F e_X10_readFee_39 fl_X10_141 h12415 (fa12280) ?_
    refine m_if_ne F e_X10_readFee_42 (fun _ => ?_) (fun q => absurd q (by decide))
    exact m_vret F hQ e_X10_readFee_54 (⟨P12264, oP12264, (by unfold RP; omega), (by unfold feeS; dsimp only; rw [ek12282, oncK_4 e12273 e12274]; exact RM.l (fa12280) (fb12281) (by decide) (by decide) (by omega)), h12415, rfl⟩)
set_option maxRecDepth 20000 in
theorem q_X10_readSeedE (l : Launch) (V : VX) (c T Z u h : Nat) (P : NP) (L : Nat → LQ) (N : Nat) (σ : Mem) (n st : Nat) (so va : Int32) (ln : Nat) (fp : Int32) (t : Nat → Nat) (s9 v9 : Nat) (nm : Nat → Nat) (np lc no sd : Nat) (md : Nat → Nat → Bool) (h0 : HR V c ⟨T, Z, u, h, P, L⟩ σ) (hob : OKB L) (hP : OKP P) (hp0 : YD σ c n st so va ln 0 fp) (hp1 : BR σ c n t) (hp2 : n ≤ 700) (hp3 : P.a ≤ n) (hp4 : MT so va s9 v9) (hp5 : st ≤ n) (hp6 : NR σ c np no sd) (hp7 : MR σ c P.n5 nm) (hp8 : KR σ c P.n5 md) (hp9 : FR σ c 8 1 P.n5 md) (hp10 : FR σ c 9 2 P.n5 md) (hp11 : QR σ c P.n7 lc) (hp12 : np ≤ 12) (hp13 : no ≤ 4) (hp14 : sd ≤ 1) : Ct l V yX10_readSeed cX10_readSeed 1 none 8 0 0 N σ [.ref c] (fun r τ => ∃ P9 : NP, OKP P9 ∧ RP P P9 ∧ RM τ c n P9 (seedS (tok t n) (st, s9, v9, P.a) P.n5 nm np P.n7 lc no sd md ln) ∧ HS V c (⟨T, Z, u, h, P9, L⟩ : RG) [0, 2, 4, 5, 6, 7, 8, 9, 10, 11, 12, 13, 14, 15, 16, 17, 18, 19, 20, 21, 22, 23] σ τ ∧ r = none) := by
  refine Ct.of (by decide) (Nat.le_of_ble_eq_true rfl) [(0, .ref c)] rfl (fun X hX F hQ => ?_)
  have hPP := hP
  unfold OKP at hPP
  have h1 : HS V c ⟨T, Z, u, h, P, L⟩ [0, 2, 4, 5, 6, 7, 8, 9, 10, 11, 12, 13, 14, 15, 16, 17, 18, 19, 20, 21, 22, 23] σ σ := HS.start h0
  have hyd12416 := hp0
  obtain ⟨yd12416, yd12417, yd12418, yd12419, yd12420, yd12421, yd12422⟩ := hyd12416
  have hn7 := hp2
  refine m_aload_n F rfl e_X10_readSeed_0 ?_
  refine m_iconst F (v := 4) (by decide) e_X10_readSeed_1 ?_
  refine r_callV F e_X10_readSeed_2 (q_X10_reading4E (x_l X) V c T Z u h P L _ _  np no sd h1.1 (hob) hP  hp6) cb_X10_reading ml_X10_157 im_X10_reading se_X10_reading h1 rfl rfl (rest := []) rfl (Nat.le_of_ble_eq_true rfl) ⟨Nat.le_of_ble_eq_true rfl, Nat.le_of_ble_eq_true rfl⟩ ⟨Nat.le_of_ble_eq_true rfl, Nat.le_of_ble_eq_true rfl⟩ (fun r σ12423 hp => ?_)
  obtain ⟨h12424, hp⟩ := hp
  have h12425 := HS.trans h1 h12424 (by decide)
  have ga12426 := hp1.of (h12424.2 (c + 1) (by rw [kC_at (k := 1) (by decide)]; decide))
  have ga12427 := hp6.of (h12424.2 (c + 2) (by rw [kC_at (k := 2) (by decide)]; decide))
  have ga12428 := hp7.of (h12424.2 (c + 3) (by rw [kC_at (k := 3) (by decide)]; decide))
  have ga12429 := hp8.of (h12424.2 (c + 7) (by rw [kC_at (k := 7) (by decide)]; decide))
  have ga12430 := hp9.of (h12424.2 (c + 8) (by rw [kC_at (k := 8) (by decide)]; decide))
  have ga12431 := hp10.of (h12424.2 (c + 9) (by rw [kC_at (k := 9) (by decide)]; decide))
  have ga12432 := hp11.of (h12424.2 (c + 11) (by rw [kC_at (k := 11) (by decide)]; decide))
  obtain ⟨w12433, hw12433, gw12433, rfl⟩ := hp
  refine m_if_eq F e_X10_readSeed_5 (fun q5 => ?_) (fun q5 => ?_)
  · have c5 : w12433 = 0 := (nI_eq (a := w12433) (b := 0) (by omega) (by omega)).mp q5
    refine m_aload_n F rfl e_X10_readSeed_13 ?_
    refine r_callV F e_X10_readSeed_14 (q_X10_goOnE (x_l X) V c T Z u h P L _ _  n st so va ln fp t h12425.1 (hob) hP  ⟨((fld_eq (h12424.2 c (by rw [show kC c c = 1 from kC_at (k := 0) (by decide)]; decide))).trans yd12416), ((fld_eq (h12424.2 c (by rw [show kC c c = 1 from kC_at (k := 0) (by decide)]; decide))).trans yd12417), ((fld_eq (h12424.2 c (by rw [show kC c c = 1 from kC_at (k := 0) (by decide)]; decide))).trans yd12418), ((fld_eq (h12424.2 c (by rw [show kC c c = 1 from kC_at (k := 0) (by decide)]; decide))).trans yd12419), ((fld_eq (h12424.2 c (by rw [show kC c c = 1 from kC_at (k := 0) (by decide)]; decide))).trans yd12420), ((fld_eq (h12424.2 c (by rw [show kC c c = 1 from kC_at (k := 0) (by decide)]; decide))).trans yd12421), ((fld_eq (h12424.2 c (by rw [show kC c c = 1 from kC_at (k := 0) (by decide)]; decide))).trans yd12422)⟩ ga12426 hn7 (by omega)) cb_X10_goOn ml_X10_154 im_X10_goOn se_X10_goOn h12425 rfl rfl (rest := []) rfl (Nat.le_of_ble_eq_true rfl) ⟨Nat.le_of_ble_eq_true rfl, Nat.le_of_ble_eq_true rfl⟩ ⟨Nat.le_of_ble_eq_true rfl, Nat.le_of_ble_eq_true rfl⟩ (fun r σ12434 hp => ?_)
    obtain ⟨P12437, oP12437, rP12437, pr12438, pr12439, h12435, hp⟩ := hp
    have h12436 := HS.trans h12425 h12435 (by decide)
    have xP12437 := oP12437
    unfold OKP at xP12437
    unfold RA at rP12437
    have ga12440 := ga12426.of (h12435.2 (c + 1) (by rw [kC_at (k := 1) (by decide)]; decide))
    have ga12441 := ga12427.of (h12435.2 (c + 2) (by rw [kC_at (k := 2) (by decide)]; decide))
    have ga12442 := ga12428.of (h12435.2 (c + 3) (by rw [kC_at (k := 3) (by decide)]; decide))
    have ga12443 := ga12429.of (h12435.2 (c + 7) (by rw [kC_at (k := 7) (by decide)]; decide))
    have ga12444 := ga12430.of (h12435.2 (c + 8) (by rw [kC_at (k := 8) (by decide)]; decide))
    have ga12445 := ga12431.of (h12435.2 (c + 9) (by rw [kC_at (k := 9) (by decide)]; decide))
    have ga12446 := ga12432.of (h12435.2 (c + 11) (by rw [kC_at (k := 11) (by decide)]; decide))
    obtain rfl := hp
    obtain ⟨so12447, va12448, mt12449, yd12450⟩ := pr12439
    generalize ek12451 : tok t n P.a = k12451 at pr12438 mt12449 yd12450
    have bk12451 := tok_ok (t := t) (n := n) P.a (by omega)
    rw [ek12451] at bk12451
    have hyd12452 := yd12450
    obtain ⟨yd12452, yd12453, yd12454, yd12455, yd12456, yd12457, yd12458⟩ := hyd12452
    refine m_aload_n F rfl e_X10_readSeed_17 ?_
    refine m_iconst F (v := 4) (by decide) e_X10_readSeed_18 ?_
    refine m_aload_n F rfl e_X10_readSeed_19 ?_
    refine m_iconst F (v := 0) (by decide) e_X10_readSeed_20 ?_
    refine m_ldc F kc_X10_177 e_X10_readSeed_21 ?_
    refine r_callV F e_X10_readSeed_23 (q_X10_numeralE (x_l X) V c T Z u h P12437 L _ _ 0 99999 n k12451.1 so12447 va12448 ln fp t k12451.2.1 k12451.2.2.1 h12436.1 (hob) oP12437 (by omega) (by omega) ⟨(yd12452), (yd12453), (yd12454), (yd12455), (yd12456), (yd12457), (yd12458)⟩ ga12440 hn7 (by omega) mt12449) cb_X10_numeral ml_X10_165 im_X10_numeral se_X10_numeral h12436 rfl rfl (rest := [.int 4, .ref c]) rfl (Nat.le_of_ble_eq_true rfl) ⟨Nat.le_of_ble_eq_true rfl, Nat.le_of_ble_eq_true rfl⟩ ⟨Nat.le_of_ble_eq_true rfl, Nat.le_of_ble_eq_true rfl⟩ (fun r σ12459 hp => ?_)
    obtain ⟨P12462, oP12462, rP12462, pr12463, h12460, hp⟩ := hp
    have h12461 := HS.trans h12436 h12460 (by decide)
    have xP12462 := oP12462
    unfold OKP at xP12462
    unfold RA at rP12462
    have ga12464 := ga12440.of (h12460.2 (c + 1) (by rw [kC_at (k := 1) (by decide)]; decide))
    have ga12465 := ga12441.of (h12460.2 (c + 2) (by rw [kC_at (k := 2) (by decide)]; decide))
    have ga12466 := ga12442.of (h12460.2 (c + 3) (by rw [kC_at (k := 3) (by decide)]; decide))
    have ga12467 := ga12443.of (h12460.2 (c + 7) (by rw [kC_at (k := 7) (by decide)]; decide))
    have ga12468 := ga12444.of (h12460.2 (c + 8) (by rw [kC_at (k := 8) (by decide)]; decide))
    have ga12469 := ga12445.of (h12460.2 (c + 9) (by rw [kC_at (k := 9) (by decide)]; decide))
    have ga12470 := ga12446.of (h12460.2 (c + 11) (by rw [kC_at (k := 11) (by decide)]; decide))
    rcases pr12463 with ⟨e12471, l12473, l12474, ea12475, ⟨so12476, va12477, mt12478, yd12479⟩, rfl⟩ | ⟨e12471, ⟨fa12480, fb12481⟩, rfl⟩ | ⟨e12471, e12472, ⟨fa12480, fb12481⟩, rfl⟩
    · have bk12482 := tok_ok (t := t) (n := n) P12437.a (by omega)
      generalize ek12482 : tok t n P12437.a = k12482 at ea12475 mt12478 yd12479 bk12482
      rw [show P12437.a = k12451.2.2.2 by omega] at ek12482
      have hyd12483 := yd12479
      obtain ⟨yd12483, yd12484, yd12485, yd12486, yd12487, yd12488, yd12489⟩ := hyd12483
      refine m_iconst F (v := 1) (by decide) e_X10_readSeed_26 ?_
      refine m_iadd F e_X10_readSeed_27 ?_
      refine Wm.topE (w := nI (k12451.2.2.1 + 1)) (nI_add k12451.2.2.1 1) ?_
      refine r_callV F e_X10_readSeed_28 (q_X10_reads4E (x_l X) V c T Z u h P12462 L _ _ (k12451.2.2.1 + 1)  h12461.1 (hob) oP12462 (by omega) ) cb_X10_reads ml_X10_170 im_X10_reads se_X10_reads h12461 rfl rfl (rest := []) rfl (Nat.le_of_ble_eq_true rfl) ⟨Nat.le_of_ble_eq_true rfl, Nat.le_of_ble_eq_true rfl⟩ ⟨Nat.le_of_ble_eq_true rfl, Nat.le_of_ble_eq_true rfl⟩ (fun r σ12490 hp => ?_)
      obtain ⟨h12491, hp⟩ := hp
      have h12492 := HS.trans h12461 h12491 (by decide)
      have ga12493 := ga12464.of (h12491.2 (c + 1) (by rw [kC_at (k := 1) (by decide)]; decide))
      have ga12494 := ga12466.of (h12491.2 (c + 3) (by rw [kC_at (k := 3) (by decide)]; decide))
      have ga12495 := ga12467.of (h12491.2 (c + 7) (by rw [kC_at (k := 7) (by decide)]; decide))
      have ga12496 := ga12468.of (h12491.2 (c + 8) (by rw [kC_at (k := 8) (by decide)]; decide))
      have ga12497 := ga12469.of (h12491.2 (c + 9) (by rw [kC_at (k := 9) (by decide)]; decide))
      have ga12498 := ga12470.of (h12491.2 (c + 11) (by rw [kC_at (k := 11) (by decide)]; decide))
      obtain ⟨ea12499, eb12500, rfl⟩ := hp
      have ga12501 := NR.s ga12465 (by omega) (by omega) ea12499 eb12500
      exact m_vret F hQ e_X10_readSeed_31 (⟨P12462, oP12462, (by unfold RP; omega), (by unfold seedS; dsimp only; rw [if_pos (by omega), ek12451, numK_ok e12471 l12473 l12474, ek12482]; exact RM.r mt12478 ⟨((fld_eq (h12491.2 c (by rw [show kC c c = 1 from kC_at (k := 0) (by decide)]; decide))).trans yd12483), ((fld_eq (h12491.2 c (by rw [show kC c c = 1 from kC_at (k := 0) (by decide)]; decide))).trans yd12484), ((fld_eq (h12491.2 c (by rw [show kC c c = 1 from kC_at (k := 0) (by decide)]; decide))).trans yd12485), ((fld_eq (h12491.2 c (by rw [show kC c c = 1 from kC_at (k := 0) (by decide)]; decide))).trans yd12486), ((fld_eq (h12491.2 c (by rw [show kC c c = 1 from kC_at (k := 0) (by decide)]; decide))).trans yd12487), ((fld_eq (h12491.2 c (by rw [show kC c c = 1 from kC_at (k := 0) (by decide)]; decide))).trans yd12488), ((fld_eq (h12491.2 c (by rw [show kC c c = 1 from kC_at (k := 0) (by decide)]; decide))).trans yd12489)⟩ (by omega) (by omega) (by omega) ga12501 ga12494 ga12495 ga12496 ga12497 ga12498 (by omega) (by omega) (by omega) (by omega) (by omega)), h12492, rfl⟩)
    · have hz9 : True := trivial
      refine m_iconst F (v := 1) (by decide) e_X10_readSeed_26 ?_
      refine m_iadd F e_X10_readSeed_27 ?_
      refine Wm.topE (w := nI (0 + 1)) (nI_add 0 1) ?_
      refine r_callV F e_X10_readSeed_28 (q_X10_reads4 (x_l X) V c T Z u h P12462 L _ _ (nI (0 + 1)) h12461.1 (hob) oP12462 ) cb_X10_reads ml_X10_170 im_X10_reads se_X10_reads h12461 rfl rfl (rest := []) rfl (Nat.le_of_ble_eq_true rfl) ⟨Nat.le_of_ble_eq_true rfl, Nat.le_of_ble_eq_true rfl⟩ ⟨Nat.le_of_ble_eq_true rfl, Nat.le_of_ble_eq_true rfl⟩ (fun r σ12502 hp => ?_)
      obtain ⟨h12503, rfl⟩ := hp
      have h12504 := HS.trans h12461 h12503 (by decide)
      exact m_vret F hQ e_X10_readSeed_31 (⟨P12462, oP12462, (by unfold RP; omega), (by unfold seedS; dsimp only; rw [if_pos (by omega), ek12451, numK_1 e12471]; exact RM.l ((fld_eq (h12503.2 c (by rw [show kC c c = 1 from kC_at (k := 0) (by decide)]; decide))).trans fa12480) ((fld_eq (h12503.2 c (by rw [show kC c c = 1 from kC_at (k := 0) (by decide)]; decide))).trans fb12481) (by decide) (by decide) (by omega)), h12504, rfl⟩)
    · have hz9 : True := trivial
      refine m_iconst F (v := 1) (by decide) e_X10_readSeed_26 ?_
      refine m_iadd F e_X10_readSeed_27 ?_
      refine Wm.topE (w := nI (0 + 1)) (nI_add 0 1) ?_
      refine r_callV F e_X10_readSeed_28 (q_X10_reads4 (x_l X) V c T Z u h P12462 L _ _ (nI (0 + 1)) h12461.1 (hob) oP12462 ) cb_X10_reads ml_X10_170 im_X10_reads se_X10_reads h12461 rfl rfl (rest := []) rfl (Nat.le_of_ble_eq_true rfl) ⟨Nat.le_of_ble_eq_true rfl, Nat.le_of_ble_eq_true rfl⟩ ⟨Nat.le_of_ble_eq_true rfl, Nat.le_of_ble_eq_true rfl⟩ (fun r σ12505 hp => ?_)
      obtain ⟨h12506, rfl⟩ := hp
      have h12507 := HS.trans h12461 h12506 (by decide)
      exact m_vret F hQ e_X10_readSeed_31 (⟨P12462, oP12462, (by unfold RP; omega), (by unfold seedS; dsimp only; rw [if_pos (by omega), ek12451, numK_2 e12471 e12472]; exact RM.l ((fld_eq (h12506.2 c (by rw [show kC c c = 1 from kC_at (k := 0) (by decide)]; decide))).trans fa12480) ((fld_eq (h12506.2 c (by rw [show kC c c = 1 from kC_at (k := 0) (by decide)]; decide))).trans fb12481) (by decide) (by decide) (by omega)), h12507, rfl⟩)
  · have c5 : w12433 ≠ 0 := by have hh := mt (nI_eq (a := w12433) (b := 0) (by omega) (by omega)).mpr q5; omega
    refine m_aload_n F rfl e_X10_readSeed_8 ?_
    refine m_iconst F (v := 3) (by decide) e_X10_readSeed_9 ?_
    refine r_callV F e_X10_readSeed_10 (q_X10_wrongE (x_l X) V c T Z u h P L _ _ 3 n st so va ln fp h12425.1 (hob) hP (by omega) ⟨((fld_eq (h12424.2 c (by rw [show kC c c = 1 from kC_at (k := 0) (by decide)]; decide))).trans yd12416), ((fld_eq (h12424.2 c (by rw [show kC c c = 1 from kC_at (k := 0) (by decide)]; decide))).trans yd12417), ((fld_eq (h12424.2 c (by rw [show kC c c = 1 from kC_at (k := 0) (by decide)]; decide))).trans yd12418), ((fld_eq (h12424.2 c (by rw [show kC c c = 1 from kC_at (k := 0) (by decide)]; decide))).trans yd12419), ((fld_eq (h12424.2 c (by rw [show kC c c = 1 from kC_at (k := 0) (by decide)]; decide))).trans yd12420), ((fld_eq (h12424.2 c (by rw [show kC c c = 1 from kC_at (k := 0) (by decide)]; decide))).trans yd12421), ((fld_eq (h12424.2 c (by rw [show kC c c = 1 from kC_at (k := 0) (by decide)]; decide))).trans yd12422)⟩ (by decide)) cb_X10_wrong ml_X10_150 im_X10_wrong se_X10_wrong h12425 rfl rfl (rest := []) rfl (Nat.le_of_ble_eq_true rfl) ⟨Nat.le_of_ble_eq_true rfl, Nat.le_of_ble_eq_true rfl⟩ ⟨Nat.le_of_ble_eq_true rfl, Nat.le_of_ble_eq_true rfl⟩ (fun r σ12508 hp => ?_)
    obtain ⟨h12509, hp⟩ := hp
    have h12510 := HS.trans h12425 h12509 (by decide)
    have ga12511 := ga12426.of (h12509.2 (c + 1) (by rw [kC_at (k := 1) (by decide)]; decide))
    have ga12512 := ga12427.of (h12509.2 (c + 2) (by rw [kC_at (k := 2) (by decide)]; decide))
    have ga12513 := ga12428.of (h12509.2 (c + 3) (by rw [kC_at (k := 3) (by decide)]; decide))
    have ga12514 := ga12429.of (h12509.2 (c + 7) (by rw [kC_at (k := 7) (by decide)]; decide))
    have ga12515 := ga12430.of (h12509.2 (c + 8) (by rw [kC_at (k := 8) (by decide)]; decide))
    have ga12516 := ga12431.of (h12509.2 (c + 9) (by rw [kC_at (k := 9) (by decide)]; decide))
    have ga12517 := ga12432.of (h12509.2 (c + 11) (by rw [kC_at (k := 11) (by decide)]; decide))
    obtain ⟨hp, rfl⟩ := hp
    have hyd12518 := hp
    obtain ⟨yd12518, yd12519, yd12520, yd12521, yd12522, yd12523, yd12524⟩ := hyd12518
    refine m_aload_n F rfl e_X10_readSeed_13 ?_
    refine r_callV F e_X10_readSeed_14 (q_X10_goOnG (x_l X) V c T 0 u h P L _ _  3 h12510.1 (hob) hP  (yd12523) (by decide)) cb_X10_goOn ml_X10_154 im_X10_goOn se_X10_goOn h12510 rfl rfl (rest := []) rfl (Nat.le_of_ble_eq_true rfl) ⟨Nat.le_of_ble_eq_true rfl, Nat.le_of_ble_eq_true rfl⟩ ⟨Nat.le_of_ble_eq_true rfl, Nat.le_of_ble_eq_true rfl⟩ (fun r σ12525 hp => ?_)
    obtain ⟨h12526, hp⟩ := hp
    have h12527 := HS.trans h12510 h12526 (by decide)
    have ga12528 := ga12511.of (h12526.2 (c + 1) (by rw [kC_at (k := 1) (by decide)]; decide))
    have ga12529 := ga12512.of (h12526.2 (c + 2) (by rw [kC_at (k := 2) (by decide)]; decide))
    have ga12530 := ga12513.of (h12526.2 (c + 3) (by rw [kC_at (k := 3) (by decide)]; decide))
    have ga12531 := ga12514.of (h12526.2 (c + 7) (by rw [kC_at (k := 7) (by decide)]; decide))
    have ga12532 := ga12515.of (h12526.2 (c + 8) (by rw [kC_at (k := 8) (by decide)]; decide))
    have ga12533 := ga12516.of (h12526.2 (c + 9) (by rw [kC_at (k := 9) (by decide)]; decide))
    have ga12534 := ga12517.of (h12526.2 (c + 11) (by rw [kC_at (k := 11) (by decide)]; decide))
    obtain ⟨rfl, rfl⟩ := hp
    refine m_aload_n F rfl e_X10_readSeed_17 ?_
    refine m_iconst F (v := 4) (by decide) e_X10_readSeed_18 ?_
    refine m_aload_n F rfl e_X10_readSeed_19 ?_
    refine m_iconst F (v := 0) (by decide) e_X10_readSeed_20 ?_
    refine m_ldc F kc_X10_177 e_X10_readSeed_21 ?_
    refine r_callV F e_X10_readSeed_23 (q_X10_numeralG (x_l X) V c T 0 u h P L _ _ 0 99999 3 h12527.1 (hob) hP (by omega) (by omega) (yd12523) (by decide)) cb_X10_numeral ml_X10_165 im_X10_numeral se_X10_numeral h12527 rfl rfl (rest := [.int 4, .ref c]) rfl (Nat.le_of_ble_eq_true rfl) ⟨Nat.le_of_ble_eq_true rfl, Nat.le_of_ble_eq_true rfl⟩ ⟨Nat.le_of_ble_eq_true rfl, Nat.le_of_ble_eq_true rfl⟩ (fun r σ12535 hp => ?_)
    obtain ⟨h12536, hp⟩ := hp
    have h12537 := HS.trans h12527 h12536 (by decide)
    have ga12538 := ga12511.of (h12536.2 (c + 1) (by rw [kC_at (k := 1) (by decide)]; decide))
    have ga12539 := ga12512.of (h12536.2 (c + 2) (by rw [kC_at (k := 2) (by decide)]; decide))
    have ga12540 := ga12513.of (h12536.2 (c + 3) (by rw [kC_at (k := 3) (by decide)]; decide))
    have ga12541 := ga12514.of (h12536.2 (c + 7) (by rw [kC_at (k := 7) (by decide)]; decide))
    have ga12542 := ga12515.of (h12536.2 (c + 8) (by rw [kC_at (k := 8) (by decide)]; decide))
    have ga12543 := ga12516.of (h12536.2 (c + 9) (by rw [kC_at (k := 9) (by decide)]; decide))
    have ga12544 := ga12517.of (h12536.2 (c + 11) (by rw [kC_at (k := 11) (by decide)]; decide))
    obtain ⟨rfl, rfl⟩ := hp
    refine m_iconst F (v := 1) (by decide) e_X10_readSeed_26 ?_
    refine m_iadd F e_X10_readSeed_27 ?_
    refine Wm.topE (w := nI (0 + 1)) (nI_add 0 1) ?_
    refine r_callV F e_X10_readSeed_28 (q_X10_reads4 (x_l X) V c T 0 u h P L _ _ (nI (0 + 1)) h12537.1 (hob) hP ) cb_X10_reads ml_X10_170 im_X10_reads se_X10_reads h12537 rfl rfl (rest := []) rfl (Nat.le_of_ble_eq_true rfl) ⟨Nat.le_of_ble_eq_true rfl, Nat.le_of_ble_eq_true rfl⟩ ⟨Nat.le_of_ble_eq_true rfl, Nat.le_of_ble_eq_true rfl⟩ (fun r σ12545 hp => ?_)
    obtain ⟨h12546, rfl⟩ := hp
    have h12547 := HS.trans h12537 h12546 (by decide)
    have ga12548 := ga12511.of (h12546.2 (c + 1) (by rw [kC_at (k := 1) (by decide)]; decide))
    have ga12549 := ga12513.of (h12546.2 (c + 3) (by rw [kC_at (k := 3) (by decide)]; decide))
    have ga12550 := ga12514.of (h12546.2 (c + 7) (by rw [kC_at (k := 7) (by decide)]; decide))
    have ga12551 := ga12515.of (h12546.2 (c + 8) (by rw [kC_at (k := 8) (by decide)]; decide))
    have ga12552 := ga12516.of (h12546.2 (c + 9) (by rw [kC_at (k := 9) (by decide)]; decide))
    have ga12553 := ga12517.of (h12546.2 (c + 11) (by rw [kC_at (k := 11) (by decide)]; decide))
    have h12554 : HS V c _ [0, 2, 4, 5, 6, 7, 8, 9, 10, 11, 12, 13, 14, 15, 16, 17, 18, 19, 20, 21, 22, 23] _ _ := ⟨HR.mono (Z' := Z) (by intro e; first | rfl | assumption | omega) h12547.1, h12547.2⟩
    exact m_vret F hQ e_X10_readSeed_31 (⟨P, hP, (by unfold RP; omega), (by unfold seedS; dsimp only; rw [if_neg (by omega)]; exact RM.l ((fld_eq (h12546.2 c (by rw [show kC c c = 1 from kC_at (k := 0) (by decide)]; decide))).trans yd12523) ((fld_eq (h12546.2 c (by rw [show kC c c = 1 from kC_at (k := 0) (by decide)]; decide))).trans yd12524) (by decide) (by decide) (by omega)), h12554, rfl⟩)
