set_option maxRecDepth 20000 in
theorem q_X10_readMark1E (l : Launch) (V : VX) (c T Z u h : Nat) (P : NP) (L : Nat → LQ) (N : Nat) (σ : Mem) (n st : Nat) (so va : Int32) (ln : Nat) (fp : Int32) (t : Nat → Nat) (s9 v9 : Nat) (nm : Nat → Nat) (np lc no sd : Nat) (md : Nat → Nat → Bool) (h0 : HR V c ⟨T, Z, u, h, P, L⟩ σ) (hob : OKB L) (hP : OKP P) (hp0 : YD σ c n st so va ln 0 fp) (hp1 : BR σ c n t) (hp2 : n ≤ 700) (hp3 : P.a ≤ n) (hp4 : MT so va s9 v9) (hp5 : st ≤ n) (hp6 : NR σ c np no sd) (hp7 : MR σ c P.n5 nm) (hp8 : KR σ c P.n5 md) (hp9 : FR σ c 8 1 P.n5 md) (hp10 : FR σ c 9 2 P.n5 md) (hp11 : QR σ c P.n7 lc) (hp12 : np ≤ 12) (hp13 : no ≤ 4) (hp14 : sd ≤ 1) : Ct l V yX10_readMark cX10_readMark 3 none 8 0 0 N σ [.ref c, .int 1] (fun r τ => ∃ P9 : NP, OKP P9 ∧ RP P P9 ∧ RM τ c n P9 (earlyS (tok t n) (st, s9, v9, P.a) P.n5 nm np P.n7 lc no sd md ln) ∧ HS V c (⟨T, Z, u, h, P9, L⟩ : RG) [0, 2, 3, 4, 5, 6, 7, 9, 10, 11, 12, 13, 14, 15, 16, 17, 18, 19, 20, 21, 22, 23] σ τ ∧ r = none) := by
  refine Ct.of (by decide) (Nat.le_of_ble_eq_true rfl) [(0, .ref c), (1, .int 1)] rfl (fun X hX F hQ => ?_)
  have hPP := hP
  unfold OKP at hPP
  have h1 : HS V c ⟨T, Z, u, h, P, L⟩ [0, 2, 3, 4, 5, 6, 7, 9, 10, 11, 12, 13, 14, 15, 16, 17, 18, 19, 20, 21, 22, 23] σ σ := HS.start h0
  have hyd11865 := hp0
  obtain ⟨yd11865, yd11866, yd11867, yd11868, yd11869, yd11870, yd11871⟩ := hyd11865
  have hn7 := hp2
  refine m_aload_n F rfl e_X10_readMark_0 ?_
  refine r_callV F e_X10_readMark_1 (q_X10_atHandE (x_l X) V c T Z u h P L _ _  n st so va ln fp t nm h1.1 (hob) hP  ⟨(yd11865), (yd11866), (yd11867), (yd11868), (yd11869), (yd11870), (yd11871)⟩ hp1 hn7 (by omega) hp7) cb_X10_atHand ml_X10_174 im_X10_atHand se_X10_atHand h1 rfl rfl (rest := []) rfl (Nat.le_of_ble_eq_true rfl) ⟨Nat.le_of_ble_eq_true rfl, Nat.le_of_ble_eq_true rfl⟩ ⟨Nat.le_of_ble_eq_true rfl, Nat.le_of_ble_eq_true rfl⟩ (fun r σ11872 hp => ?_)
  obtain ⟨P11875, oP11875, rP11875, pr11876, h11873, hp⟩ := hp
  have h11874 := HS.trans h1 h11873 (by decide)
  have xP11875 := oP11875
  unfold OKP at xP11875
  unfold RA at rP11875
  have ga11877 := hp1.of (h11873.2 (c + 1) (by rw [kC_at (k := 1) (by decide)]; decide))
  have ga11878 := hp6.of (h11873.2 (c + 2) (by rw [kC_at (k := 2) (by decide)]; decide))
  have ga11879 := hp7.of (h11873.2 (c + 3) (by rw [kC_at (k := 3) (by decide)]; decide))
  have ga11880 := hp8.of (h11873.2 (c + 7) (by rw [kC_at (k := 7) (by decide)]; decide))
  have ga11881 := hp9.of (h11873.2 (c + 8) (by rw [kC_at (k := 8) (by decide)]; decide))
  have ga11882 := hp10.of (h11873.2 (c + 9) (by rw [kC_at (k := 9) (by decide)]; decide))
  have ga11883 := hp11.of (h11873.2 (c + 11) (by rw [kC_at (k := 11) (by decide)]; decide))
  have bk11893 := tok_ok (t := t) (n := n) P.a (by omega)
  generalize ek11893 : tok t n P.a = k11893 at pr11876 bk11893
  rcases pr11876 with ⟨e11884, e11885, ea11886, ⟨so11887, va11888, mt11889, yd11890⟩, rfl⟩ | ⟨e11884, ⟨fa11891, fb11892⟩, rfl⟩ | ⟨e11884, e11885, ⟨fa11891, fb11892⟩, rfl⟩
  · have hyd11894 := yd11890
    obtain ⟨yd11894, yd11895, yd11896, yd11897, yd11898, yd11899, yd11900⟩ := hyd11894
    refine m_istore_n F (lv' := [(2, .int (nI (4 + fx nm k11893.2.2.1 P.n5))), (0, .ref c), (1, .int 1)]) e_X10_readMark_4 (by decide) rfl ?_
    refine m_aload_n F rfl e_X10_readMark_5 ?_
    refine r_getC F e_X10_readMark_6 fl_X10_141 h11874 (yd11899) ?_
    refine m_if_ne F e_X10_readMark_9 (fun q => absurd (by decide) q) (fun _ => ?_)
    refine m_aload_n F rfl e_X10_readMark_12 ?_
    refine r_get F e_X10_readMark_13 fl_X10_28 h11874 rfl (fun v hv f11901 => ?_)
    obtain rfl : v = .ref (c + 7) := hv
    refine m_iload_n F rfl e_X10_readMark_16 ?_
    refine r_iald F (len := 8) (j := 4 + fx nm k11893.2.2.1 P.n5) e_X10_readMark_17 h11874 (fun _ h => h) (by decide) (nI_clamp (by omega)) (vp_in_nI (by omega) (by decide)) (fun x11902 h11903 f11904 => ?_)
    obtain rfl := Option.some.inj ((f11904).symm.trans (ga11880 (fx nm k11893.2.2.1 P.n5) e11885))
    refine m_iload_n F rfl e_X10_readMark_18 ?_
    refine m_iand F e_X10_readMark_19 ?_
    refine m_if_eq F e_X10_readMark_20 (fun q20 => ?_) (fun q20 => ?_)
    · have e3 : md (fx nm k11893.2.2.1 P.n5) 0 = false := mk2_and.1.mp q20
      refine m_aload_n F rfl e_X10_readMark_28 ?_
      refine r_getC F e_X10_readMark_29 fl_X10_141 h11874 (yd11899) ?_
      refine m_if_ne F e_X10_readMark_32 (fun q => absurd (by decide) q) (fun _ => ?_)
      refine m_aload_n F rfl e_X10_readMark_35 ?_
      refine r_getC F e_X10_readMark_36 fl_X10_28 h11874 (f11901) ?_
      refine m_iload_n F rfl e_X10_readMark_39 ?_
      refine m_dup2_11 F rfl rfl e_X10_readMark_40 ?_
      refine r_iald F (len := 8) (j := 4 + fx nm k11893.2.2.1 P.n5) e_X10_readMark_41 h11874 (fun _ h => h) (by decide) (nI_clamp (by omega)) (vp_in_nI (by omega) (by decide)) (fun x11905 h11906 f11907 => ?_)
      obtain rfl := Option.some.inj ((f11907).symm.trans (ga11880 (fx nm k11893.2.2.1 P.n5) e11885))
      refine m_iload_n F rfl e_X10_readMark_42 ?_
      refine m_ior F e_X10_readMark_43 ?_
      refine Wm.topE (w := nI (mk2 (fun j => if j = 0 then true else md (fx nm k11893.2.2.1 P.n5) j))) mk2_or.1 ?_
      refine r_iast F (g' := (⟨T, Z, u, h, P11875, L⟩ : RG)) (len := 8) (j := 4 + fx nm k11893.2.2.1 P.n5) e_X10_readMark_44 h11874 (fun _ h => h) (fun f h => ⟨f, rfl, h⟩) (by decide) (by decide) (nI_clamp (by omega)) (vp_in_nI (by omega) (by decide)) trivial (fun _ _ _ h => h) (fun _ _ _ h => h) (fun σ11908 h11909 g11910 f11911 g11912 => ?_)
      have ga11913 := ga11877.of (g11910 _ (by omega))
      have ga11914 := ga11878.of (g11910 _ (by omega))
      have ga11915 := ga11879.of (g11910 _ (by omega))
      have ga11916 := ga11881.of (g11910 _ (by omega))
      have ga11917 := ga11882.of (g11910 _ (by omega))
      have ga11918 := ga11883.of (g11910 _ (by omega))
      have ga11920 := FR.upbL (l := fx nm k11893.2.2.1 P.n5) (b' := 0) ga11916 (by decide)
      have ga11921 := FR.upbL (l := fx nm k11893.2.2.1 P.n5) (b' := 0) ga11917 (by decide)
      have ga11919 := KR.put (b := 0) ga11880 f11911 g11912
      refine m_aload_n F rfl e_X10_readMark_45 ?_
      refine r_callV F e_X10_readMark_46 (q_X10_goOnE (x_l X) V c T Z u h P11875 L _ _  n k11893.1 so11887 va11888 ln fp t h11909.1 (hob) oP11875  ⟨((fld_eq (g11910 _ (by omega))).trans yd11894), ((fld_eq (g11910 _ (by omega))).trans yd11895), ((fld_eq (g11910 _ (by omega))).trans yd11896), ((fld_eq (g11910 _ (by omega))).trans yd11897), ((fld_eq (g11910 _ (by omega))).trans yd11898), ((fld_eq (g11910 _ (by omega))).trans yd11899), ((fld_eq (g11910 _ (by omega))).trans yd11900)⟩ ga11913 hn7 (by omega)) cb_X10_goOn ml_X10_154 im_X10_goOn se_X10_goOn h11909 rfl rfl (rest := []) rfl (Nat.le_of_ble_eq_true rfl) ⟨Nat.le_of_ble_eq_true rfl, Nat.le_of_ble_eq_true rfl⟩ ⟨Nat.le_of_ble_eq_true rfl, Nat.le_of_ble_eq_true rfl⟩ (fun r σ11922 hp => ?_)
      obtain ⟨P11925, oP11925, rP11925, pr11926, pr11927, h11923, hp⟩ := hp
      have h11924 := HS.trans h11909 h11923 (by decide)
      have xP11925 := oP11925
      unfold OKP at xP11925
      unfold RA at rP11925
      have ga11928 := ga11913.of (h11923.2 (c + 1) (by rw [kC_at (k := 1) (by decide)]; decide))
      have ga11929 := ga11914.of (h11923.2 (c + 2) (by rw [kC_at (k := 2) (by decide)]; decide))
      have ga11930 := ga11915.of (h11923.2 (c + 3) (by rw [kC_at (k := 3) (by decide)]; decide))
      have ga11931 := ga11920.of (h11923.2 (c + 8) (by rw [kC_at (k := 8) (by decide)]; decide))
      have ga11932 := ga11921.of (h11923.2 (c + 9) (by rw [kC_at (k := 9) (by decide)]; decide))
      have ga11933 := ga11918.of (h11923.2 (c + 11) (by rw [kC_at (k := 11) (by decide)]; decide))
      have ga11934 := ga11919.of (h11923.2 (c + 7) (by rw [kC_at (k := 7) (by decide)]; decide))
      obtain rfl := hp
      obtain ⟨so11935, va11936, mt11937, yd11938⟩ := pr11927
      generalize ek11939 : tok t n P11875.a = k11939 at pr11926 mt11937 yd11938
      have bk11939 := tok_ok (t := t) (n := n) P11875.a (by omega)
      rw [ek11939] at bk11939
      rw [show P11875.a = k11893.2.2.2 by omega] at ek11939
      have hyd11940 := yd11938
      obtain ⟨yd11940, yd11941, yd11942, yd11943, yd11944, yd11945, yd11946⟩ := hyd11940
      exact m_vret F hQ e_X10_readMark_49 (⟨P11925, oP11925, (by unfold RP; omega), (by unfold earlyS; dsimp only; rw [ek11893, oncK_ok e11884 e11885 e3, ek11939]; exact RM.r mt11937 ⟨(yd11940), (yd11941), (yd11942), (yd11943), (yd11944), (yd11945), (yd11946)⟩ (by omega) (by omega) (by omega) ga11929 ga11930 ga11934 ga11931 ga11932 ga11933 (by omega) (by omega) (by omega) (by omega) (by omega)), h11924, rfl⟩)
    · have e3 : md (fx nm k11893.2.2.1 P.n5) 0 = true := by cases hmd : md (fx nm k11893.2.2.1 P.n5) 0 with | true => rfl | false => exact absurd (mk2_and.1.mpr hmd) q20
      refine m_aload_n F rfl e_X10_readMark_23 ?_
      refine m_iconst F (v := 3) (by decide) e_X10_readMark_24 ?_
      refine r_callV F e_X10_readMark_25 (q_X10_wrongE (x_l X) V c T Z u h P11875 L _ _ 3 n k11893.1 so11887 va11888 ln fp h11874.1 (hob) oP11875 (by omega) ⟨(yd11894), (yd11895), (yd11896), (yd11897), (yd11898), (yd11899), (yd11900)⟩ (by decide)) cb_X10_wrong ml_X10_150 im_X10_wrong se_X10_wrong h11874 rfl rfl (rest := []) rfl (Nat.le_of_ble_eq_true rfl) ⟨Nat.le_of_ble_eq_true rfl, Nat.le_of_ble_eq_true rfl⟩ ⟨Nat.le_of_ble_eq_true rfl, Nat.le_of_ble_eq_true rfl⟩ (fun r σ11947 hp => ?_)
      obtain ⟨h11948, hp⟩ := hp
      have h11949 := HS.trans h11874 h11948 (by decide)
      have ga11950 := ga11877.of (h11948.2 (c + 1) (by rw [kC_at (k := 1) (by decide)]; decide))
      have ga11951 := ga11878.of (h11948.2 (c + 2) (by rw [kC_at (k := 2) (by decide)]; decide))
      have ga11952 := ga11879.of (h11948.2 (c + 3) (by rw [kC_at (k := 3) (by decide)]; decide))
      have ga11953 := ga11880.of (h11948.2 (c + 7) (by rw [kC_at (k := 7) (by decide)]; decide))
      have ga11954 := ga11881.of (h11948.2 (c + 8) (by rw [kC_at (k := 8) (by decide)]; decide))
      have ga11955 := ga11882.of (h11948.2 (c + 9) (by rw [kC_at (k := 9) (by decide)]; decide))
      have ga11956 := ga11883.of (h11948.2 (c + 11) (by rw [kC_at (k := 11) (by decide)]; decide))
      obtain ⟨hp, rfl⟩ := hp
      have hyd11957 := hp
      obtain ⟨yd11957, yd11958, yd11959, yd11960, yd11961, yd11962, yd11963⟩ := hyd11957
      refine m_aload_n F rfl e_X10_readMark_28 ?_
      refine r_getC F e_X10_readMark_29 fl_X10_141 h11949 (yd11962) ?_
      refine m_if_ne F e_X10_readMark_32 (fun _ => ?_) (fun q => absurd q (by decide))
      refine m_aload_n F rfl e_X10_readMark_45 ?_
      refine r_callV F e_X10_readMark_46 (q_X10_goOnG (x_l X) V c T 0 u h P11875 L _ _  3 h11949.1 (hob) oP11875  (yd11962) (by decide)) cb_X10_goOn ml_X10_154 im_X10_goOn se_X10_goOn h11949 rfl rfl (rest := []) rfl (Nat.le_of_ble_eq_true rfl) ⟨Nat.le_of_ble_eq_true rfl, Nat.le_of_ble_eq_true rfl⟩ ⟨Nat.le_of_ble_eq_true rfl, Nat.le_of_ble_eq_true rfl⟩ (fun r σ11964 hp => ?_)
      obtain ⟨h11965, hp⟩ := hp
      have h11966 := HS.trans h11949 h11965 (by decide)
      have ga11967 := ga11950.of (h11965.2 (c + 1) (by rw [kC_at (k := 1) (by decide)]; decide))
      have ga11968 := ga11951.of (h11965.2 (c + 2) (by rw [kC_at (k := 2) (by decide)]; decide))
      have ga11969 := ga11952.of (h11965.2 (c + 3) (by rw [kC_at (k := 3) (by decide)]; decide))
      have ga11970 := ga11953.of (h11965.2 (c + 7) (by rw [kC_at (k := 7) (by decide)]; decide))
      have ga11971 := ga11954.of (h11965.2 (c + 8) (by rw [kC_at (k := 8) (by decide)]; decide))
      have ga11972 := ga11955.of (h11965.2 (c + 9) (by rw [kC_at (k := 9) (by decide)]; decide))
      have ga11973 := ga11956.of (h11965.2 (c + 11) (by rw [kC_at (k := 11) (by decide)]; decide))
      obtain ⟨rfl, rfl⟩ := hp
      have h11974 : HS V c _ [0, 2, 3, 4, 5, 6, 7, 9, 10, 11, 12, 13, 14, 15, 16, 17, 18, 19, 20, 21, 22, 23] _ _ := ⟨HR.mono (Z' := Z) (by intro e; first | rfl | assumption | omega) h11966.1, h11966.2⟩
      exact m_vret F hQ e_X10_readMark_49 (⟨P11875, oP11875, (by unfold RP; omega), (by unfold earlyS; dsimp only; rw [ek11893, oncK_3 e11884 e11885 e3]; exact RM.l (yd11962) (yd11963) (by decide) (by decide) (by omega)), h11974, rfl⟩)
  · have hz9 : True := trivial
    refine m_istore_n F (lv' := [(2, .int (nI 4)), (0, .ref c), (1, .int 1)]) e_X10_readMark_4 (by decide) rfl ?_
    refine m_aload_n F rfl e_X10_readMark_5 ?_
    refine r_getC F e_X10_readMark_6 fl_X10_141 h11874 (fa11891) ?_
    refine m_if_ne F e_X10_readMark_9 (fun _ => ?_) (fun q => absurd q (by decide))
    refine m_aload_n F rfl e_X10_readMark_28 ?_
    refine r_getC F e_X10_readMark_29 fl_X10_141 h11874 (fa11891) ?_
    refine m_if_ne F e_X10_readMark_32 (fun _ => ?_) (fun q => absurd q (by decide))
    refine m_aload_n F rfl e_X10_readMark_45 ?_
    refine r_callV F e_X10_readMark_46 (q_X10_goOnG (x_l X) V c T Z u h P11875 L _ _  1 h11874.1 (hob) oP11875  (fa11891) (by decide)) cb_X10_goOn ml_X10_154 im_X10_goOn se_X10_goOn h11874 rfl rfl (rest := []) rfl (Nat.le_of_ble_eq_true rfl) ⟨Nat.le_of_ble_eq_true rfl, Nat.le_of_ble_eq_true rfl⟩ ⟨Nat.le_of_ble_eq_true rfl, Nat.le_of_ble_eq_true rfl⟩ (fun r σ11975 hp => ?_)
    obtain ⟨h11976, hp⟩ := hp
    have h11977 := HS.trans h11874 h11976 (by decide)
    obtain ⟨rfl, rfl⟩ := hp
    exact m_vret F hQ e_X10_readMark_49 (⟨P11875, oP11875, (by unfold RP; omega), (by unfold earlyS; dsimp only; rw [ek11893, oncK_1 e11884]; exact RM.l (fa11891) (fb11892) (by decide) (by decide) (by omega)), h11977, rfl⟩)
  · have hz9 : True := trivial
    refine m_istore_n F (lv' := [(2, .int (nI 4)), (0, .ref c), (1, .int 1)]) e_X10_readMark_4 (by decide) rfl ?_
    refine m_aload_n F rfl e_X10_readMark_5 ?_
    refine r_getC F e_X10_readMark_6 fl_X10_141 h11874 (fa11891) ?_
    refine m_if_ne F e_X10_readMark_9 (fun _ => ?_) (fun q => absurd q (by decide))
    refine m_aload_n F rfl e_X10_readMark_28 ?_
    refine r_getC F e_X10_readMark_29 fl_X10_141 h11874 (fa11891) ?_
    refine m_if_ne F e_X10_readMark_32 (fun _ => ?_) (fun q => absurd q (by decide))
    refine m_aload_n F rfl e_X10_readMark_45 ?_
    refine r_callV F e_X10_readMark_46 (q_X10_goOnG (x_l X) V c T Z u h P11875 L _ _  4 h11874.1 (hob) oP11875  (fa11891) (by decide)) cb_X10_goOn ml_X10_154 im_X10_goOn se_X10_goOn h11874 rfl rfl (rest := []) rfl (Nat.le_of_ble_eq_true rfl) ⟨Nat.le_of_ble_eq_true rfl, Nat.le_of_ble_eq_true rfl⟩ ⟨Nat.le_of_ble_eq_true rfl, Nat.le_of_ble_eq_true rfl⟩ (fun r σ11978 hp => ?_)
    obtain ⟨h11979, hp⟩ := hp
    have h11980 := HS.trans h11874 h11979 (by decide)
    obtain ⟨rfl, rfl⟩ := hp
    exact m_vret F hQ e_X10_readMark_49 (⟨P11875, oP11875, (by unfold RP; omega), (by unfold earlyS; dsimp only; rw [ek11893, oncK_4 e11884 e11885]; exact RM.l (fa11891) (fb11892) (by decide) (by decide) (by omega)), h11980, rfl⟩)
set_option maxRecDepth 20000 in
theorem q_X10_readMark2E (l : Launch) (V : VX) (c T Z u h : Nat) (P : NP) (L : Nat → LQ) (N : Nat) (σ : Mem) (n st : Nat) (so va : Int32) (ln : Nat) (fp : Int32) (t : Nat → Nat) (s9 v9 : Nat) (nm : Nat → Nat) (np lc no sd : Nat) (md : Nat → Nat → Bool) (h0 : HR V c ⟨T, Z, u, h, P, L⟩ σ) (hob : OKB L) (hP : OKP P) (hp0 : YD σ c n st so va ln 0 fp) (hp1 : BR σ c n t) (hp2 : n ≤ 700) (hp3 : P.a ≤ n) (hp4 : MT so va s9 v9) (hp5 : st ≤ n) (hp6 : NR σ c np no sd) (hp7 : MR σ c P.n5 nm) (hp8 : KR σ c P.n5 md) (hp9 : FR σ c 8 1 P.n5 md) (hp10 : FR σ c 9 2 P.n5 md) (hp11 : QR σ c P.n7 lc) (hp12 : np ≤ 12) (hp13 : no ≤ 4) (hp14 : sd ≤ 1) : Ct l V yX10_readMark cX10_readMark 3 none 8 0 0 N σ [.ref c, .int 2] (fun r τ => ∃ P9 : NP, OKP P9 ∧ RP P P9 ∧ RM τ c n P9 (tiedS (tok t n) (st, s9, v9, P.a) P.n5 nm np P.n7 lc no sd md ln) ∧ HS V c (⟨T, Z, u, h, P9, L⟩ : RG) [0, 2, 3, 4, 5, 6, 7, 9, 10, 11, 12, 13, 14, 15, 16, 17, 18, 19, 20, 21, 22, 23] σ τ ∧ r = none) := by
  refine Ct.of (by decide) (Nat.le_of_ble_eq_true rfl) [(0, .ref c), (1, .int 2)] rfl (fun X hX F hQ => ?_)
  have hPP := hP
  unfold OKP at hPP
  have h1 : HS V c ⟨T, Z, u, h, P, L⟩ [0, 2, 3, 4, 5, 6, 7, 9, 10, 11, 12, 13, 14, 15, 16, 17, 18, 19, 20, 21, 22, 23] σ σ := HS.start h0
  have hyd11981 := hp0
  obtain ⟨yd11981, yd11982, yd11983, yd11984, yd11985, yd11986, yd11987⟩ := hyd11981
  have hn7 := hp2
  refine m_aload_n F rfl e_X10_readMark_0 ?_
  refine r_callV F e_X10_readMark_1 (q_X10_atHandE (x_l X) V c T Z u h P L _ _  n st so va ln fp t nm h1.1 (hob) hP  ⟨(yd11981), (yd11982), (yd11983), (yd11984), (yd11985), (yd11986), (yd11987)⟩ hp1 hn7 (by omega) hp7) cb_X10_atHand ml_X10_174 im_X10_atHand se_X10_atHand h1 rfl rfl (rest := []) rfl (Nat.le_of_ble_eq_true rfl) ⟨Nat.le_of_ble_eq_true rfl, Nat.le_of_ble_eq_true rfl⟩ ⟨Nat.le_of_ble_eq_true rfl, Nat.le_of_ble_eq_true rfl⟩ (fun r σ11988 hp => ?_)
  obtain ⟨P11991, oP11991, rP11991, pr11992, h11989, hp⟩ := hp
  have h11990 := HS.trans h1 h11989 (by decide)
  have xP11991 := oP11991
  unfold OKP at xP11991
  unfold RA at rP11991
  have ga11993 := hp1.of (h11989.2 (c + 1) (by rw [kC_at (k := 1) (by decide)]; decide))
  have ga11994 := hp6.of (h11989.2 (c + 2) (by rw [kC_at (k := 2) (by decide)]; decide))
  have ga11995 := hp7.of (h11989.2 (c + 3) (by rw [kC_at (k := 3) (by decide)]; decide))
  have ga11996 := hp8.of (h11989.2 (c + 7) (by rw [kC_at (k := 7) (by decide)]; decide))
  have ga11997 := hp9.of (h11989.2 (c + 8) (by rw [kC_at (k := 8) (by decide)]; decide))
  have ga11998 := hp10.of (h11989.2 (c + 9) (by rw [kC_at (k := 9) (by decide)]; decide))
  have ga11999 := hp11.of (h11989.2 (c + 11) (by rw [kC_at (k := 11) (by decide)]; decide))
  have bk12009 := tok_ok (t := t) (n := n) P.a (by omega)
  generalize ek12009 : tok t n P.a = k12009 at pr11992 bk12009
  rcases pr11992 with ⟨e12000, e12001, ea12002, ⟨so12003, va12004, mt12005, yd12006⟩, rfl⟩ | ⟨e12000, ⟨fa12007, fb12008⟩, rfl⟩ | ⟨e12000, e12001, ⟨fa12007, fb12008⟩, rfl⟩
  · have hyd12010 := yd12006
    obtain ⟨yd12010, yd12011, yd12012, yd12013, yd12014, yd12015, yd12016⟩ := hyd12010
    refine m_istore_n F (lv' := [(2, .int (nI (4 + fx nm k12009.2.2.1 P.n5))), (0, .ref c), (1, .int 2)]) e_X10_readMark_4 (by decide) rfl ?_
    refine m_aload_n F rfl e_X10_readMark_5 ?_
    refine r_getC F e_X10_readMark_6 fl_X10_141 h11990 (yd12015) ?_
    refine m_if_ne F e_X10_readMark_9 (fun q => absurd (by decide) q) (fun _ => ?_)
    refine m_aload_n F rfl e_X10_readMark_12 ?_
    refine r_get F e_X10_readMark_13 fl_X10_28 h11990 rfl (fun v hv f12017 => ?_)
    obtain rfl : v = .ref (c + 7) := hv
    refine m_iload_n F rfl e_X10_readMark_16 ?_
    refine r_iald F (len := 8) (j := 4 + fx nm k12009.2.2.1 P.n5) e_X10_readMark_17 h11990 (fun _ h => h) (by decide) (nI_clamp (by omega)) (vp_in_nI (by omega) (by decide)) (fun x12018 h12019 f12020 => ?_)
    obtain rfl := Option.some.inj ((f12020).symm.trans (ga11996 (fx nm k12009.2.2.1 P.n5) e12001))
    refine m_iload_n F rfl e_X10_readMark_18 ?_
    refine m_iand F e_X10_readMark_19 ?_
    refine m_if_eq F e_X10_readMark_20 (fun q20 => ?_) (fun q20 => ?_)
    · have e3 : md (fx nm k12009.2.2.1 P.n5) 3 = false := mk2_and.2.mp q20
      refine m_aload_n F rfl e_X10_readMark_28 ?_
      refine r_getC F e_X10_readMark_29 fl_X10_141 h11990 (yd12015) ?_
      refine m_if_ne F e_X10_readMark_32 (fun q => absurd (by decide) q) (fun _ => ?_)
      refine m_aload_n F rfl e_X10_readMark_35 ?_
      refine r_getC F e_X10_readMark_36 fl_X10_28 h11990 (f12017) ?_
      refine m_iload_n F rfl e_X10_readMark_39 ?_
      refine m_dup2_11 F rfl rfl e_X10_readMark_40 ?_
      refine r_iald F (len := 8) (j := 4 + fx nm k12009.2.2.1 P.n5) e_X10_readMark_41 h11990 (fun _ h => h) (by decide) (nI_clamp (by omega)) (vp_in_nI (by omega) (by decide)) (fun x12021 h12022 f12023 => ?_)
      obtain rfl := Option.some.inj ((f12023).symm.trans (ga11996 (fx nm k12009.2.2.1 P.n5) e12001))
      refine m_iload_n F rfl e_X10_readMark_42 ?_
      refine m_ior F e_X10_readMark_43 ?_
      refine Wm.topE (w := nI (mk2 (fun j => if j = 3 then true else md (fx nm k12009.2.2.1 P.n5) j))) mk2_or.2 ?_
      refine r_iast F (g' := (⟨T, Z, u, h, P11991, L⟩ : RG)) (len := 8) (j := 4 + fx nm k12009.2.2.1 P.n5) e_X10_readMark_44 h11990 (fun _ h => h) (fun f h => ⟨f, rfl, h⟩) (by decide) (by decide) (nI_clamp (by omega)) (vp_in_nI (by omega) (by decide)) trivial (fun _ _ _ h => h) (fun _ _ _ h => h) (fun σ12024 h12025 g12026 f12027 g12028 => ?_)
      have ga12029 := ga11993.of (g12026 _ (by omega))
      have ga12030 := ga11994.of (g12026 _ (by omega))
      have ga12031 := ga11995.of (g12026 _ (by omega))
      have ga12032 := ga11997.of (g12026 _ (by omega))
      have ga12033 := ga11998.of (g12026 _ (by omega))
      have ga12034 := ga11999.of (g12026 _ (by omega))
      have ga12036 := FR.upbL (l := fx nm k12009.2.2.1 P.n5) (b' := 3) ga12032 (by decide)
      have ga12037 := FR.upbL (l := fx nm k12009.2.2.1 P.n5) (b' := 3) ga12033 (by decide)
      have ga12035 := KR.put (b := 3) ga11996 f12027 g12028
      refine m_aload_n F rfl e_X10_readMark_45 ?_
      refine r_callV F e_X10_readMark_46 (q_X10_goOnE (x_l X) V c T Z u h P11991 L _ _  n k12009.1 so12003 va12004 ln fp t h12025.1 (hob) oP11991  ⟨((fld_eq (g12026 _ (by omega))).trans yd12010), ((fld_eq (g12026 _ (by omega))).trans yd12011), ((fld_eq (g12026 _ (by omega))).trans yd12012), ((fld_eq (g12026 _ (by omega))).trans yd12013), ((fld_eq (g12026 _ (by omega))).trans yd12014), ((fld_eq (g12026 _ (by omega))).trans yd12015), ((fld_eq (g12026 _ (by omega))).trans yd12016)⟩ ga12029 hn7 (by omega)) cb_X10_goOn ml_X10_154 im_X10_goOn se_X10_goOn h12025 rfl rfl (rest := []) rfl (Nat.le_of_ble_eq_true rfl) ⟨Nat.le_of_ble_eq_true rfl, Nat.le_of_ble_eq_true rfl⟩ ⟨Nat.le_of_ble_eq_true rfl, Nat.le_of_ble_eq_true rfl⟩ (fun r σ12038 hp => ?_)
      obtain ⟨P12041, oP12041, rP12041, pr12042, pr12043, h12039, hp⟩ := hp
      have h12040 := HS.trans h12025 h12039 (by decide)
      have xP12041 := oP12041
      unfold OKP at xP12041
      unfold RA at rP12041
      have ga12044 := ga12029.of (h12039.2 (c + 1) (by rw [kC_at (k := 1) (by decide)]; decide))
      have ga12045 := ga12030.of (h12039.2 (c + 2) (by rw [kC_at (k := 2) (by decide)]; decide))
      have ga12046 := ga12031.of (h12039.2 (c + 3) (by rw [kC_at (k := 3) (by decide)]; decide))
      have ga12047 := ga12036.of (h12039.2 (c + 8) (by rw [kC_at (k := 8) (by decide)]; decide))
      have ga12048 := ga12037.of (h12039.2 (c + 9) (by rw [kC_at (k := 9) (by decide)]; decide))
      have ga12049 := ga12034.of (h12039.2 (c + 11) (by rw [kC_at (k := 11) (by decide)]; decide))
      have ga12050 := ga12035.of (h12039.2 (c + 7) (by rw [kC_at (k := 7) (by decide)]; decide))
      obtain rfl := hp
      obtain ⟨so12051, va12052, mt12053, yd12054⟩ := pr12043
      generalize ek12055 : tok t n P11991.a = k12055 at pr12042 mt12053 yd12054
      have bk12055 := tok_ok (t := t) (n := n) P11991.a (by omega)
      rw [ek12055] at bk12055
      rw [show P11991.a = k12009.2.2.2 by omega] at ek12055
      have hyd12056 := yd12054
      obtain ⟨yd12056, yd12057, yd12058, yd12059, yd12060, yd12061, yd12062⟩ := hyd12056
      exact m_vret F hQ e_X10_readMark_49 (⟨P12041, oP12041, (by unfold RP; omega), (by unfold tiedS; dsimp only; rw [ek12009, oncK_ok e12000 e12001 e3, ek12055]; exact RM.r mt12053 ⟨(yd12056), (yd12057), (yd12058), (yd12059), (yd12060), (yd12061), (yd12062)⟩ (by omega) (by omega) (by omega) ga12045 ga12046 ga12050 ga12047 ga12048 ga12049 (by omega) (by omega) (by omega) (by omega) (by omega)), h12040, rfl⟩)
    · have e3 : md (fx nm k12009.2.2.1 P.n5) 3 = true := by cases hmd : md (fx nm k12009.2.2.1 P.n5) 3 with | true => rfl | false => exact absurd (mk2_and.2.mpr hmd) q20
      refine m_aload_n F rfl e_X10_readMark_23 ?_
      refine m_iconst F (v := 3) (by decide) e_X10_readMark_24 ?_
      refine r_callV F e_X10_readMark_25 (q_X10_wrongE (x_l X) V c T Z u h P11991 L _ _ 3 n k12009.1 so12003 va12004 ln fp h11990.1 (hob) oP11991 (by omega) ⟨(yd12010), (yd12011), (yd12012), (yd12013), (yd12014), (yd12015), (yd12016)⟩ (by decide)) cb_X10_wrong ml_X10_150 im_X10_wrong se_X10_wrong h11990 rfl rfl (rest := []) rfl (Nat.le_of_ble_eq_true rfl) ⟨Nat.le_of_ble_eq_true rfl, Nat.le_of_ble_eq_true rfl⟩ ⟨Nat.le_of_ble_eq_true rfl, Nat.le_of_ble_eq_true rfl⟩ (fun r σ12063 hp => ?_)
      obtain ⟨h12064, hp⟩ := hp
      have h12065 := HS.trans h11990 h12064 (by decide)
      have ga12066 := ga11993.of (h12064.2 (c + 1) (by rw [kC_at (k := 1) (by decide)]; decide))
      have ga12067 := ga11994.of (h12064.2 (c + 2) (by rw [kC_at (k := 2) (by decide)]; decide))
      have ga12068 := ga11995.of (h12064.2 (c + 3) (by rw [kC_at (k := 3) (by decide)]; decide))
      have ga12069 := ga11996.of (h12064.2 (c + 7) (by rw [kC_at (k := 7) (by decide)]; decide))
      have ga12070 := ga11997.of (h12064.2 (c + 8) (by rw [kC_at (k := 8) (by decide)]; decide))
      have ga12071 := ga11998.of (h12064.2 (c + 9) (by rw [kC_at (k := 9) (by decide)]; decide))
      have ga12072 := ga11999.of (h12064.2 (c + 11) (by rw [kC_at (k := 11) (by decide)]; decide))
      obtain ⟨hp, rfl⟩ := hp
      have hyd12073 := hp
      obtain ⟨yd12073, yd12074, yd12075, yd12076, yd12077, yd12078, yd12079⟩ := hyd12073
      refine m_aload_n F rfl e_X10_readMark_28 ?_
      refine r_getC F e_X10_readMark_29 fl_X10_141 h12065 (yd12078) ?_
      refine m_if_ne F e_X10_readMark_32 (fun _ => ?_) (fun q => absurd q (by decide))
      refine m_aload_n F rfl e_X10_readMark_45 ?_
      refine r_callV F e_X10_readMark_46 (q_X10_goOnG (x_l X) V c T 0 u h P11991 L _ _  3 h12065.1 (hob) oP11991  (yd12078) (by decide)) cb_X10_goOn ml_X10_154 im_X10_goOn se_X10_goOn h12065 rfl rfl (rest := []) rfl (Nat.le_of_ble_eq_true rfl) ⟨Nat.le_of_ble_eq_true rfl, Nat.le_of_ble_eq_true rfl⟩ ⟨Nat.le_of_ble_eq_true rfl, Nat.le_of_ble_eq_true rfl⟩ (fun r σ12080 hp => ?_)
      obtain ⟨h12081, hp⟩ := hp
      have h12082 := HS.trans h12065 h12081 (by decide)
      have ga12083 := ga12066.of (h12081.2 (c + 1) (by rw [kC_at (k := 1) (by decide)]; decide))
      have ga12084 := ga12067.of (h12081.2 (c + 2) (by rw [kC_at (k := 2) (by decide)]; decide))
      have ga12085 := ga12068.of (h12081.2 (c + 3) (by rw [kC_at (k := 3) (by decide)]; decide))
      have ga12086 := ga12069.of (h12081.2 (c + 7) (by rw [kC_at (k := 7) (by decide)]; decide))
      have ga12087 := ga12070.of (h12081.2 (c + 8) (by rw [kC_at (k := 8) (by decide)]; decide))
      have ga12088 := ga12071.of (h12081.2 (c + 9) (by rw [kC_at (k := 9) (by decide)]; decide))
      have ga12089 := ga12072.of (h12081.2 (c + 11) (by rw [kC_at (k := 11) (by decide)]; decide))
      obtain ⟨rfl, rfl⟩ := hp
      have h12090 : HS V c _ [0, 2, 3, 4, 5, 6, 7, 9, 10, 11, 12, 13, 14, 15, 16, 17, 18, 19, 20, 21, 22, 23] _ _ := ⟨HR.mono (Z' := Z) (by intro e; first | rfl | assumption | omega) h12082.1, h12082.2⟩
      exact m_vret F hQ e_X10_readMark_49 (⟨P11991, oP11991, (by unfold RP; omega), (by unfold tiedS; dsimp only; rw [ek12009, oncK_3 e12000 e12001 e3]; exact RM.l (yd12078) (yd12079) (by decide) (by decide) (by omega)), h12090, rfl⟩)
  · have hz9 : True := trivial
    refine m_istore_n F (lv' := [(2, .int (nI 4)), (0, .ref c), (1, .int 2)]) e_X10_readMark_4 (by decide) rfl ?_
    refine m_aload_n F rfl e_X10_readMark_5 ?_
    refine r_getC F e_X10_readMark_6 fl_X10_141 h11990 (fa12007) ?_
    refine m_if_ne F e_X10_readMark_9 (fun _ => ?_) (fun q => absurd q (by decide))
    refine m_aload_n F rfl e_X10_readMark_28 ?_
    refine r_getC F e_X10_readMark_29 fl_X10_141 h11990 (fa12007) ?_
    refine m_if_ne F e_X10_readMark_32 (fun _ => ?_) (fun q => absurd q (by decide))
    refine m_aload_n F rfl e_X10_readMark_45 ?_
    refine r_callV F e_X10_readMark_46 (q_X10_goOnG (x_l X) V c T Z u h P11991 L _ _  1 h11990.1 (hob) oP11991  (fa12007) (by decide)) cb_X10_goOn ml_X10_154 im_X10_goOn se_X10_goOn h11990 rfl rfl (rest := []) rfl (Nat.le_of_ble_eq_true rfl) ⟨Nat.le_of_ble_eq_true rfl, Nat.le_of_ble_eq_true rfl⟩ ⟨Nat.le_of_ble_eq_true rfl, Nat.le_of_ble_eq_true rfl⟩ (fun r σ12091 hp => ?_)
    obtain ⟨h12092, hp⟩ := hp
    have h12093 := HS.trans h11990 h12092 (by decide)
    obtain ⟨rfl, rfl⟩ := hp
    exact m_vret F hQ e_X10_readMark_49 (⟨P11991, oP11991, (by unfold RP; omega), (by unfold tiedS; dsimp only; rw [ek12009, oncK_1 e12000]; exact RM.l (fa12007) (fb12008) (by decide) (by decide) (by omega)), h12093, rfl⟩)
  · have hz9 : True := trivial
    refine m_istore_n F (lv' := [(2, .int (nI 4)), (0, .ref c), (1, .int 2)]) e_X10_readMark_4 (by decide) rfl ?_
    refine m_aload_n F rfl e_X10_readMark_5 ?_
    refine r_getC F e_X10_readMark_6 fl_X10_141 h11990 (fa12007) ?_
    refine m_if_ne F e_X10_readMark_9 (fun _ => ?_) (fun q => absurd q (by decide))
    refine m_aload_n F rfl e_X10_readMark_28 ?_
    refine r_getC F e_X10_readMark_29 fl_X10_141 h11990 (fa12007) ?_
    refine m_if_ne F e_X10_readMark_32 (fun _ => ?_) (fun q => absurd q (by decide))
    refine m_aload_n F rfl e_X10_readMark_45 ?_
    refine r_callV F e_X10_readMark_46 (q_X10_goOnG (x_l X) V c T Z u h P11991 L _ _  4 h11990.1 (hob) oP11991  (fa12007) (by decide)) cb_X10_goOn ml_X10_154 im_X10_goOn se_X10_goOn h11990 rfl rfl (rest := []) rfl (Nat.le_of_ble_eq_true rfl) ⟨Nat.le_of_ble_eq_true rfl, Nat.le_of_ble_eq_true rfl⟩ ⟨Nat.le_of_ble_eq_true rfl, Nat.le_of_ble_eq_true rfl⟩ (fun r σ12094 hp => ?_)
    obtain ⟨h12095, hp⟩ := hp
    have h12096 := HS.trans h11990 h12095 (by decide)
    obtain ⟨rfl, rfl⟩ := hp
    exact m_vret F hQ e_X10_readMark_49 (⟨P11991, oP11991, (by unfold RP; omega), (by unfold tiedS; dsimp only; rw [ek12009, oncK_4 e12000 e12001]; exact RM.l (fa12007) (fb12008) (by decide) (by decide) (by omega)), h12096, rfl⟩)
set_option maxRecDepth 20000 in
theorem q_X10_readFairE (l : Launch) (V : VX) (c T Z u h : Nat) (P : NP) (L : Nat → LQ) (N : Nat) (σ : Mem) (n st : Nat) (so va : Int32) (ln : Nat) (fp : Int32) (t : Nat → Nat) (s9 v9 : Nat) (nm : Nat → Nat) (np lc no sd : Nat) (md : Nat → Nat → Bool) (h0 : HR V c ⟨T, Z, u, h, P, L⟩ σ) (hob : OKB L) (hP : OKP P) (hp0 : YD σ c n st so va ln 0 fp) (hp1 : BR σ c n t) (hp2 : n ≤ 700) (hp3 : P.a ≤ n) (hp4 : MT so va s9 v9) (hp5 : st ≤ n) (hp6 : NR σ c np no sd) (hp7 : MR σ c P.n5 nm) (hp8 : KR σ c P.n5 md) (hp9 : FR σ c 8 1 P.n5 md) (hp10 : FR σ c 9 2 P.n5 md) (hp11 : QR σ c P.n7 lc) (hp12 : np ≤ 12) (hp13 : no ≤ 4) (hp14 : sd ≤ 1) : Ct l V yX10_readFair cX10_readFair 3 none 8 0 0 N σ [.ref c] (fun r τ => ∃ P9 : NP, OKP P9 ∧ RP P P9 ∧ RM τ c n P9 (fairS (tok t n) (st, s9, v9, P.a) P.n5 nm np P.n7 lc no sd md ln) ∧ HS V c (⟨T, Z, u, h, P9, L⟩ : RG) [0, 2, 3, 4, 5, 6, 7, 8, 10, 11, 12, 13, 14, 15, 16, 17, 18, 19, 20, 21, 22, 23] σ τ ∧ r = none) := by
  refine Ct.of (by decide) (Nat.le_of_ble_eq_true rfl) [(0, .ref c)] rfl (fun X hX F hQ => ?_)
  have hPP := hP
  unfold OKP at hPP
  have h1 : HS V c ⟨T, Z, u, h, P, L⟩ [0, 2, 3, 4, 5, 6, 7, 8, 10, 11, 12, 13, 14, 15, 16, 17, 18, 19, 20, 21, 22, 23] σ σ := HS.start h0
  have hyd12097 := hp0
  obtain ⟨yd12097, yd12098, yd12099, yd12100, yd12101, yd12102, yd12103⟩ := hyd12097
  have hn7 := hp2
  refine m_aload_n F rfl e_X10_readFair_0 ?_
  refine r_callV F e_X10_readFair_1 (q_X10_atHandE (x_l X) V c T Z u h P L _ _  n st so va ln fp t nm h1.1 (hob) hP  ⟨(yd12097), (yd12098), (yd12099), (yd12100), (yd12101), (yd12102), (yd12103)⟩ hp1 hn7 (by omega) hp7) cb_X10_atHand ml_X10_174 im_X10_atHand se_X10_atHand h1 rfl rfl (rest := []) rfl (Nat.le_of_ble_eq_true rfl) ⟨Nat.le_of_ble_eq_true rfl, Nat.le_of_ble_eq_true rfl⟩ ⟨Nat.le_of_ble_eq_true rfl, Nat.le_of_ble_eq_true rfl⟩ (fun r σ12104 hp => ?_)
  obtain ⟨P12107, oP12107, rP12107, pr12108, h12105, hp⟩ := hp
  have h12106 := HS.trans h1 h12105 (by decide)
  have xP12107 := oP12107
  unfold OKP at xP12107
  unfold RA at rP12107
  have ga12109 := hp1.of (h12105.2 (c + 1) (by rw [kC_at (k := 1) (by decide)]; decide))
  have ga12110 := hp6.of (h12105.2 (c + 2) (by rw [kC_at (k := 2) (by decide)]; decide))
  have ga12111 := hp7.of (h12105.2 (c + 3) (by rw [kC_at (k := 3) (by decide)]; decide))
  have ga12112 := hp8.of (h12105.2 (c + 7) (by rw [kC_at (k := 7) (by decide)]; decide))
  have ga12113 := hp9.of (h12105.2 (c + 8) (by rw [kC_at (k := 8) (by decide)]; decide))
  have ga12114 := hp10.of (h12105.2 (c + 9) (by rw [kC_at (k := 9) (by decide)]; decide))
  have ga12115 := hp11.of (h12105.2 (c + 11) (by rw [kC_at (k := 11) (by decide)]; decide))
  have bk12125 := tok_ok (t := t) (n := n) P.a (by omega)
  generalize ek12125 : tok t n P.a = k12125 at pr12108 bk12125
  rcases pr12108 with ⟨e12116, e12117, ea12118, ⟨so12119, va12120, mt12121, yd12122⟩, rfl⟩ | ⟨e12116, ⟨fa12123, fb12124⟩, rfl⟩ | ⟨e12116, e12117, ⟨fa12123, fb12124⟩, rfl⟩
  · have hyd12126 := yd12122
    obtain ⟨yd12126, yd12127, yd12128, yd12129, yd12130, yd12131, yd12132⟩ := hyd12126
    refine m_istore_n F (lv' := [(1, .int (nI (4 + fx nm k12125.2.2.1 P.n5))), (0, .ref c)]) e_X10_readFair_4 (by decide) rfl ?_
    refine m_aload_n F rfl e_X10_readFair_5 ?_
    refine r_getC F e_X10_readFair_6 fl_X10_141 h12106 (yd12131) ?_
    refine m_if_ne F e_X10_readFair_9 (fun q => absurd (by decide) q) (fun _ => ?_)
    refine m_aload_n F rfl e_X10_readFair_12 ?_
    refine r_get F e_X10_readFair_13 fl_X10_31 h12106 rfl (fun v hv f12133 => ?_)
    obtain rfl : v = .ref (c + 8) := hv
    refine m_iload_n F rfl e_X10_readFair_16 ?_
    obtain ⟨w12134, hw12134, fw12134, gw12134⟩ := ga12113 (fx nm k12125.2.2.1 P.n5) e12117
    refine r_iald F (len := 8) (j := 4 + fx nm k12125.2.2.1 P.n5) e_X10_readFair_17 h12106 (fun _ h => h) (by decide) (nI_clamp (by omega)) (vp_in_nI (by omega) (by decide)) (fun x12135 h12136 f12137 => ?_)
    obtain rfl := Option.some.inj ((f12137).symm.trans (fw12134))
    refine m_if_eq F e_X10_readFair_18 (fun q18 => ?_) (fun q18 => ?_)
    · have c18 : w12134 = 0 := (nI_eq (a := w12134) (b := 0) (by omega) (by omega)).mp q18
      have e3 : md (fx nm k12125.2.2.1 P.n5) 1 = false := gw12134.mp c18
      refine m_aload_n F rfl e_X10_readFair_26 ?_
      refine r_callV F e_X10_readFair_27 (q_X10_goOnE (x_l X) V c T Z u h P12107 L _ _  n k12125.1 so12119 va12120 ln fp t h12106.1 (hob) oP12107  ⟨(yd12126), (yd12127), (yd12128), (yd12129), (yd12130), (yd12131), (yd12132)⟩ ga12109 hn7 (by omega)) cb_X10_goOn ml_X10_154 im_X10_goOn se_X10_goOn h12106 rfl rfl (rest := []) rfl (Nat.le_of_ble_eq_true rfl) ⟨Nat.le_of_ble_eq_true rfl, Nat.le_of_ble_eq_true rfl⟩ ⟨Nat.le_of_ble_eq_true rfl, Nat.le_of_ble_eq_true rfl⟩ (fun r σ12138 hp => ?_)
      obtain ⟨P12141, oP12141, rP12141, pr12142, pr12143, h12139, hp⟩ := hp
      have h12140 := HS.trans h12106 h12139 (by decide)
      have xP12141 := oP12141
      unfold OKP at xP12141
      unfold RA at rP12141
      have ga12144 := ga12109.of (h12139.2 (c + 1) (by rw [kC_at (k := 1) (by decide)]; decide))
      have ga12145 := ga12110.of (h12139.2 (c + 2) (by rw [kC_at (k := 2) (by decide)]; decide))
      have ga12146 := ga12111.of (h12139.2 (c + 3) (by rw [kC_at (k := 3) (by decide)]; decide))
      have ga12147 := ga12112.of (h12139.2 (c + 7) (by rw [kC_at (k := 7) (by decide)]; decide))
      have ga12148 := ga12113.of (h12139.2 (c + 8) (by rw [kC_at (k := 8) (by decide)]; decide))
      have ga12149 := ga12114.of (h12139.2 (c + 9) (by rw [kC_at (k := 9) (by decide)]; decide))
      have ga12150 := ga12115.of (h12139.2 (c + 11) (by rw [kC_at (k := 11) (by decide)]; decide))
      obtain rfl := hp
      obtain ⟨so12151, va12152, mt12153, yd12154⟩ := pr12143
      generalize ek12155 : tok t n P12107.a = k12155 at pr12142 mt12153 yd12154
      have bk12155 := tok_ok (t := t) (n := n) P12107.a (by omega)
      rw [ek12155] at bk12155
      rw [show P12107.a = k12125.2.2.2 by omega] at ek12155
      have hyd12156 := yd12154
      obtain ⟨yd12156, yd12157, yd12158, yd12159, yd12160, yd12161, yd12162⟩ := hyd12156
      refine m_aload_n F rfl e_X10_readFair_30 ?_
      refine m_iconst F (v := 1) (by decide) e_X10_readFair_31 ?_
      refine m_ldc F kc_X10_129 e_X10_readFair_32 ?_
      refine r_callV F e_X10_readFair_34 (q_X10_numeralE (x_l X) V c T Z u h P12141 L _ _ 1 9999999 n k12155.1 so12151 va12152 ln fp t k12155.2.1 k12155.2.2.1 h12140.1 (hob) oP12141 (by omega) (by omega) ⟨(yd12156), (yd12157), (yd12158), (yd12159), (yd12160), (yd12161), (yd12162)⟩ ga12144 hn7 (by omega) mt12153) cb_X10_numeral ml_X10_165 im_X10_numeral se_X10_numeral h12140 rfl rfl (rest := []) rfl (Nat.le_of_ble_eq_true rfl) ⟨Nat.le_of_ble_eq_true rfl, Nat.le_of_ble_eq_true rfl⟩ ⟨Nat.le_of_ble_eq_true rfl, Nat.le_of_ble_eq_true rfl⟩ (fun r σ12163 hp => ?_)
      obtain ⟨P12166, oP12166, rP12166, pr12167, h12164, hp⟩ := hp
      have h12165 := HS.trans h12140 h12164 (by decide)
      have xP12166 := oP12166
      unfold OKP at xP12166
      unfold RA at rP12166
      have ga12168 := ga12144.of (h12164.2 (c + 1) (by rw [kC_at (k := 1) (by decide)]; decide))
      have ga12169 := ga12145.of (h12164.2 (c + 2) (by rw [kC_at (k := 2) (by decide)]; decide))
      have ga12170 := ga12146.of (h12164.2 (c + 3) (by rw [kC_at (k := 3) (by decide)]; decide))
      have ga12171 := ga12147.of (h12164.2 (c + 7) (by rw [kC_at (k := 7) (by decide)]; decide))
      have ga12172 := ga12148.of (h12164.2 (c + 8) (by rw [kC_at (k := 8) (by decide)]; decide))
      have ga12173 := ga12149.of (h12164.2 (c + 9) (by rw [kC_at (k := 9) (by decide)]; decide))
      have ga12174 := ga12150.of (h12164.2 (c + 11) (by rw [kC_at (k := 11) (by decide)]; decide))
      rcases pr12167 with ⟨e12175, l12177, l12178, ea12179, ⟨so12180, va12181, mt12182, yd12183⟩, rfl⟩ | ⟨e12175, ⟨fa12184, fb12185⟩, rfl⟩ | ⟨e12175, e12176, ⟨fa12184, fb12185⟩, rfl⟩
      · have bk12186 := tok_ok (t := t) (n := n) P12141.a (by omega)
        generalize ek12186 : tok t n P12141.a = k12186 at ea12179 mt12182 yd12183 bk12186
        rw [show P12141.a = k12155.2.2.2 by omega] at ek12186
        have hyd12187 := yd12183
        obtain ⟨yd12187, yd12188, yd12189, yd12190, yd12191, yd12192, yd12193⟩ := hyd12187
        refine m_istore_n F (lv' := [(2, .int (nI k12155.2.2.1)), (1, .int (nI (4 + fx nm k12125.2.2.1 P.n5))), (0, .ref c)]) e_X10_readFair_37 (by decide) rfl ?_
        refine m_aload_n F rfl e_X10_readFair_38 ?_
        refine r_getC F e_X10_readFair_39 fl_X10_141 h12165 (yd12192) ?_
        refine m_if_ne F e_X10_readFair_42 (fun q => absurd (by decide) q) (fun _ => ?_)
        refine m_aload_n F rfl e_X10_readFair_45 ?_
        refine r_get F e_X10_readFair_46 fl_X10_31 h12165 rfl (fun v hv f12194 => ?_)
        obtain rfl : v = .ref (c + 8) := hv
        refine m_iload_n F rfl e_X10_readFair_49 ?_
        refine m_iload_n F rfl e_X10_readFair_50 ?_
        refine r_iast F (g' := (⟨T, Z, u, h, P12166, L⟩ : RG)) (len := 8) (j := 4 + fx nm k12125.2.2.1 P.n5) e_X10_readFair_51 h12165 (fun _ h => h) (fun f h => ⟨f, rfl, h⟩) (by decide) (by decide) (nI_clamp (by omega)) (vp_in_nI (by omega) (by decide)) trivial (fun _ _ _ h => h) (fun _ _ _ h => h) (fun σ12195 h12196 g12197 f12198 g12199 => ?_)
        have ga12200 := ga12168.of (g12197 _ (by omega))
        have ga12201 := ga12169.of (g12197 _ (by omega))
        have ga12202 := ga12170.of (g12197 _ (by omega))
        have ga12203 := ga12171.of (g12197 _ (by omega))
        have ga12204 := ga12173.of (g12197 _ (by omega))
        have ga12205 := ga12174.of (g12197 _ (by omega))
        have ga12207 := FR.upbL (l := fx nm k12125.2.2.1 P.n5) (b' := 1) ga12204 (by decide)
        have ga12208 := KR.upbL (l := fx nm k12125.2.2.1 P.n5) (b' := 1) ga12203 (by decide) (by decide)
        have ga12206 := FR.put (b := 1) ga12172 (by omega) (by omega) f12198 g12199
        exact m_vret F hQ e_X10_readFair_52 (⟨P12166, oP12166, (by unfold RP; omega), (by unfold fairS; dsimp only; rw [ek12125, oncK_ok e12116 e12117 e3, ek12155, numK_ok e12175 l12177 l12178, ek12186]; exact RM.r mt12182 ⟨((fld_eq (g12197 _ (by omega))).trans yd12187), ((fld_eq (g12197 _ (by omega))).trans yd12188), ((fld_eq (g12197 _ (by omega))).trans yd12189), ((fld_eq (g12197 _ (by omega))).trans yd12190), ((fld_eq (g12197 _ (by omega))).trans yd12191), ((fld_eq (g12197 _ (by omega))).trans yd12192), ((fld_eq (g12197 _ (by omega))).trans yd12193)⟩ (by omega) (by omega) (by omega) ga12201 ga12202 ga12208 ga12206 ga12207 ga12205 (by omega) (by omega) (by omega) (by omega) (by omega)), h12196, rfl⟩)
      · have hz9 : True := trivial
        refine m_istore_n F (lv' := [(2, .int (nI 1)), (1, .int (nI (4 + fx nm k12125.2.2.1 P.n5))), (0, .ref c)]) e_X10_readFair_37 (by decide) rfl ?_
        refine m_aload_n F rfl e_X10_readFair_38 ?_
        refine r_getC F e_X10_readFair_39 fl_X10_141 h12165 (fa12184) ?_
        refine m_if_ne F e_X10_readFair_42 (fun _ => ?_) (fun q => absurd q (by decide))
        exact m_vret F hQ e_X10_readFair_52 (⟨P12166, oP12166, (by unfold RP; omega), (by unfold fairS; dsimp only; rw [ek12125, oncK_ok e12116 e12117 e3, ek12155, numK_1 e12175]; exact RM.l (fa12184) (fb12185) (by decide) (by decide) (by omega)), h12165, rfl⟩)
      · have hz9 : True := trivial
        refine m_istore_n F (lv' := [(2, .int (nI 1)), (1, .int (nI (4 + fx nm k12125.2.2.1 P.n5))), (0, .ref c)]) e_X10_readFair_37 (by decide) rfl ?_
        refine m_aload_n F rfl e_X10_readFair_38 ?_
        refine r_getC F e_X10_readFair_39 fl_X10_141 h12165 (fa12184) ?_
        refine m_if_ne F e_X10_readFair_42 (fun _ => ?_) (fun q => absurd q (by decide))
        exact m_vret F hQ e_X10_readFair_52 (⟨P12166, oP12166, (by unfold RP; omega), (by unfold fairS; dsimp only; rw [ek12125, oncK_ok e12116 e12117 e3, ek12155, numK_2 e12175 e12176]; exact RM.l (fa12184) (fb12185) (by decide) (by decide) (by omega)), h12165, rfl⟩)
    · have c18 : w12134 ≠ 0 := by have hh := mt (nI_eq (a := w12134) (b := 0) (by omega) (by omega)).mpr q18; omega
      have e3 : md (fx nm k12125.2.2.1 P.n5) 1 = true := by cases hmd : md (fx nm k12125.2.2.1 P.n5) 1 with | true => rfl | false => exact absurd (gw12134.mpr hmd) (by omega)
      refine m_aload_n F rfl e_X10_readFair_21 ?_
      refine m_iconst F (v := 3) (by decide) e_X10_readFair_22 ?_
      refine r_callV F e_X10_readFair_23 (q_X10_wrongE (x_l X) V c T Z u h P12107 L _ _ 3 n k12125.1 so12119 va12120 ln fp h12106.1 (hob) oP12107 (by omega) ⟨(yd12126), (yd12127), (yd12128), (yd12129), (yd12130), (yd12131), (yd12132)⟩ (by decide)) cb_X10_wrong ml_X10_150 im_X10_wrong se_X10_wrong h12106 rfl rfl (rest := []) rfl (Nat.le_of_ble_eq_true rfl) ⟨Nat.le_of_ble_eq_true rfl, Nat.le_of_ble_eq_true rfl⟩ ⟨Nat.le_of_ble_eq_true rfl, Nat.le_of_ble_eq_true rfl⟩ (fun r σ12209 hp => ?_)
      obtain ⟨h12210, hp⟩ := hp
      have h12211 := HS.trans h12106 h12210 (by decide)
      have ga12212 := ga12109.of (h12210.2 (c + 1) (by rw [kC_at (k := 1) (by decide)]; decide))
      have ga12213 := ga12110.of (h12210.2 (c + 2) (by rw [kC_at (k := 2) (by decide)]; decide))
      have ga12214 := ga12111.of (h12210.2 (c + 3) (by rw [kC_at (k := 3) (by decide)]; decide))
      have ga12215 := ga12112.of (h12210.2 (c + 7) (by rw [kC_at (k := 7) (by decide)]; decide))
      have ga12216 := ga12113.of (h12210.2 (c + 8) (by rw [kC_at (k := 8) (by decide)]; decide))
      have ga12217 := ga12114.of (h12210.2 (c + 9) (by rw [kC_at (k := 9) (by decide)]; decide))
      have ga12218 := ga12115.of (h12210.2 (c + 11) (by rw [kC_at (k := 11) (by decide)]; decide))
      obtain ⟨hp, rfl⟩ := hp
      have hyd12219 := hp
      obtain ⟨yd12219, yd12220, yd12221, yd12222, yd12223, yd12224, yd12225⟩ := hyd12219
      refine m_aload_n F rfl e_X10_readFair_26 ?_
      refine r_callV F e_X10_readFair_27 (q_X10_goOnG (x_l X) V c T 0 u h P12107 L _ _  3 h12211.1 (hob) oP12107  (yd12224) (by decide)) cb_X10_goOn ml_X10_154 im_X10_goOn se_X10_goOn h12211 rfl rfl (rest := []) rfl (Nat.le_of_ble_eq_true rfl) ⟨Nat.le_of_ble_eq_true rfl, Nat.le_of_ble_eq_true rfl⟩ ⟨Nat.le_of_ble_eq_true rfl, Nat.le_of_ble_eq_true rfl⟩ (fun r σ12226 hp => ?_)
      obtain ⟨h12227, hp⟩ := hp
      have h12228 := HS.trans h12211 h12227 (by decide)
      have ga12229 := ga12212.of (h12227.2 (c + 1) (by rw [kC_at (k := 1) (by decide)]; decide))
      have ga12230 := ga12213.of (h12227.2 (c + 2) (by rw [kC_at (k := 2) (by decide)]; decide))
      have ga12231 := ga12214.of (h12227.2 (c + 3) (by rw [kC_at (k := 3) (by decide)]; decide))
      have ga12232 := ga12215.of (h12227.2 (c + 7) (by rw [kC_at (k := 7) (by decide)]; decide))
      have ga12233 := ga12216.of (h12227.2 (c + 8) (by rw [kC_at (k := 8) (by decide)]; decide))
      have ga12234 := ga12217.of (h12227.2 (c + 9) (by rw [kC_at (k := 9) (by decide)]; decide))
      have ga12235 := ga12218.of (h12227.2 (c + 11) (by rw [kC_at (k := 11) (by decide)]; decide))
      obtain ⟨rfl, rfl⟩ := hp
      refine m_aload_n F rfl e_X10_readFair_30 ?_
      refine m_iconst F (v := 1) (by decide) e_X10_readFair_31 ?_
      refine m_ldc F kc_X10_129 e_X10_readFair_32 ?_
      refine r_callV F e_X10_readFair_34 (q_X10_numeralG (x_l X) V c T 0 u h P12107 L _ _ 1 9999999 3 h12228.1 (hob) oP12107 (by omega) (by omega) (yd12224) (by decide)) cb_X10_numeral ml_X10_165 im_X10_numeral se_X10_numeral h12228 rfl rfl (rest := []) rfl (Nat.le_of_ble_eq_true rfl) ⟨Nat.le_of_ble_eq_true rfl, Nat.le_of_ble_eq_true rfl⟩ ⟨Nat.le_of_ble_eq_true rfl, Nat.le_of_ble_eq_true rfl⟩ (fun r σ12236 hp => ?_)
      obtain ⟨h12237, hp⟩ := hp
      have h12238 := HS.trans h12228 h12237 (by decide)
      have ga12239 := ga12212.of (h12237.2 (c + 1) (by rw [kC_at (k := 1) (by decide)]; decide))
      have ga12240 := ga12213.of (h12237.2 (c + 2) (by rw [kC_at (k := 2) (by decide)]; decide))
      have ga12241 := ga12214.of (h12237.2 (c + 3) (by rw [kC_at (k := 3) (by decide)]; decide))
      have ga12242 := ga12215.of (h12237.2 (c + 7) (by rw [kC_at (k := 7) (by decide)]; decide))
      have ga12243 := ga12216.of (h12237.2 (c + 8) (by rw [kC_at (k := 8) (by decide)]; decide))
      have ga12244 := ga12217.of (h12237.2 (c + 9) (by rw [kC_at (k := 9) (by decide)]; decide))
      have ga12245 := ga12218.of (h12237.2 (c + 11) (by rw [kC_at (k := 11) (by decide)]; decide))
      obtain ⟨rfl, rfl⟩ := hp
      refine m_istore_n F (lv' := [(2, .int (nI 1)), (1, .int (nI (4 + fx nm k12125.2.2.1 P.n5))), (0, .ref c)]) e_X10_readFair_37 (by decide) rfl ?_
      refine m_aload_n F rfl e_X10_readFair_38 ?_
      refine r_getC F e_X10_readFair_39 fl_X10_141 h12238 (yd12224) ?_
      refine m_if_ne F e_X10_readFair_42 (fun _ => ?_) (fun q => absurd q (by decide))
      have h12246 : HS V c _ [0, 2, 3, 4, 5, 6, 7, 8, 10, 11, 12, 13, 14, 15, 16, 17, 18, 19, 20, 21, 22, 23] _ _ := ⟨HR.mono (Z' := Z) (by intro e; first | rfl | assumption | omega) h12238.1, h12238.2⟩
      exact m_vret F hQ e_X10_readFair_52 (⟨P12107, oP12107, (by unfold RP; omega), (by unfold fairS; dsimp only; rw [ek12125, oncK_3 e12116 e12117 e3]; exact RM.l (yd12224) (yd12225) (by decide) (by decide) (by omega)), h12246, rfl⟩)
  · have hz9 : True := trivial
    refine m_istore_n F (lv' := [(1, .int (nI 4)), (0, .ref c)]) e_X10_readFair_4 (by decide) rfl ?_
    refine m_aload_n F rfl e_X10_readFair_5 ?_
    refine r_getC F e_X10_readFair_6 fl_X10_141 h12106 (fa12123) ?_
    refine m_if_ne F e_X10_readFair_9 (fun _ => ?_) (fun q => absurd q (by decide))
    refine m_aload_n F rfl e_X10_readFair_26 ?_
    refine r_callV F e_X10_readFair_27 (q_X10_goOnG (x_l X) V c T Z u h P12107 L _ _  1 h12106.1 (hob) oP12107  (fa12123) (by decide)) cb_X10_goOn ml_X10_154 im_X10_goOn se_X10_goOn h12106 rfl rfl (rest := []) rfl (Nat.le_of_ble_eq_true rfl) ⟨Nat.le_of_ble_eq_true rfl, Nat.le_of_ble_eq_true rfl⟩ ⟨Nat.le_of_ble_eq_true rfl, Nat.le_of_ble_eq_true rfl⟩ (fun r σ12247 hp => ?_)
    obtain ⟨h12248, hp⟩ := hp
    have h12249 := HS.trans h12106 h12248 (by decide)
    obtain ⟨rfl, rfl⟩ := hp
    refine m_aload_n F rfl e_X10_readFair_30 ?_
    refine m_iconst F (v := 1) (by decide) e_X10_readFair_31 ?_
    refine m_ldc F kc_X10_129 e_X10_readFair_32 ?_
    refine r_callV F e_X10_readFair_34 (q_X10_numeralG (x_l X) V c T Z u h P12107 L _ _ 1 9999999 1 h12249.1 (hob) oP12107 (by omega) (by omega) (fa12123) (by decide)) cb_X10_numeral ml_X10_165 im_X10_numeral se_X10_numeral h12249 rfl rfl (rest := []) rfl (Nat.le_of_ble_eq_true rfl) ⟨Nat.le_of_ble_eq_true rfl, Nat.le_of_ble_eq_true rfl⟩ ⟨Nat.le_of_ble_eq_true rfl, Nat.le_of_ble_eq_true rfl⟩ (fun r σ12250 hp => ?_)
    obtain ⟨h12251, hp⟩ := hp
    have h12252 := HS.trans h12249 h12251 (by decide)
    obtain ⟨rfl, rfl⟩ := hp
    refine m_istore_n F (lv' := [(2, .int (nI 1)), (1, .int (nI 4)), (0, .ref c)]) e_X10_readFair_37 (by decide) rfl ?_
    refine m_aload_n F rfl e_X10_readFair_38 ?_
    refine r_getC F e_X10_readFair_39 fl_X10_141 h12252 (fa12123) ?_
    refine m_if_ne F e_X10_readFair_42 (fun _ => ?_) (fun q => absurd q (by decide))
    exact m_vret F hQ e_X10_readFair_52 (⟨P12107, oP12107, (by unfold RP; omega), (by unfold fairS; dsimp only; rw [ek12125, oncK_1 e12116]; exact RM.l (fa12123) (fb12124) (by decide) (by decide) (by omega)), h12252, rfl⟩)
  · have hz9 : True := trivial
    refine m_istore_n F (lv' := [(1, .int (nI 4)), (0, .ref c)]) e_X10_readFair_4 (by decide) rfl ?_
    refine m_aload_n F rfl e_X10_readFair_5 ?_
    refine r_getC F e_X10_readFair_6 fl_X10_141 h12106 (fa12123) ?_
    refine m_if_ne F e_X10_readFair_9 (fun _ => ?_) (fun q => absurd q (by decide))
    refine m_aload_n F rfl e_X10_readFair_26 ?_
    refine r_callV F e_X10_readFair_27 (q_X10_goOnG (x_l X) V c T Z u h P12107 L _ _  4 h12106.1 (hob) oP12107  (fa12123) (by decide)) cb_X10_goOn ml_X10_154 im_X10_goOn se_X10_goOn h12106 rfl rfl (rest := []) rfl (Nat.le_of_ble_eq_true rfl) ⟨Nat.le_of_ble_eq_true rfl, Nat.le_of_ble_eq_true rfl⟩ ⟨Nat.le_of_ble_eq_true rfl, Nat.le_of_ble_eq_true rfl⟩ (fun r σ12253 hp => ?_)
    obtain ⟨h12254, hp⟩ := hp
    have h12255 := HS.trans h12106 h12254 (by decide)
    obtain ⟨rfl, rfl⟩ := hp
    refine m_aload_n F rfl e_X10_readFair_30 ?_
    refine m_iconst F (v := 1) (by decide) e_X10_readFair_31 ?_
    refine m_ldc F kc_X10_129 e_X10_readFair_32 ?_
    refine r_callV F e_X10_readFair_34 (q_X10_numeralG (x_l X) V c T Z u h P12107 L _ _ 1 9999999 4 h12255.1 (hob) oP12107 (by omega) (by omega) (fa12123) (by decide)) cb_X10_numeral ml_X10_165 im_X10_numeral se_X10_numeral h12255 rfl rfl (rest := []) rfl (Nat.le_of_ble_eq_true rfl) ⟨Nat.le_of_ble_eq_true rfl, Nat.le_of_ble_eq_true rfl⟩ ⟨Nat.le_of_ble_eq_true rfl, Nat.le_of_ble_eq_true rfl⟩ (fun r σ12256 hp => ?_)
    obtain ⟨h12257, hp⟩ := hp
    have h12258 := HS.trans h12255 h12257 (by decide)
    obtain ⟨rfl, rfl⟩ := hp
    refine m_istore_n F (lv' := [(2, .int (nI 1)), (1, .int (nI 4)), (0, .ref c)]) e_X10_readFair_37 (by decide) rfl ?_
    refine m_aload_n F rfl e_X10_readFair_38 ?_
    refine r_getC F e_X10_readFair_39 fl_X10_141 h12258 (fa12123) ?_
    refine m_if_ne F e_X10_readFair_42 (fun _ => ?_) (fun q => absurd q (by decide))
    exact m_vret F hQ e_X10_readFair_52 (⟨P12107, oP12107, (by unfold RP; omega), (by unfold fairS; dsimp only; rw [ek12125, oncK_4 e12116 e12117]; exact RM.l (fa12123) (fb12124) (by decide) (by decide) (by omega)), h12258, rfl⟩)
set_option maxRecDepth 20000 in
theorem q_X10_readFeeE (l : Launch) (V : VX) (c T Z u h : Nat) (P : NP) (L : Nat → LQ) (N : Nat) (σ : Mem) (n st : Nat) (so va : Int32) (ln : Nat) (fp : Int32) (t : Nat → Nat) (s9 v9 : Nat) (nm : Nat → Nat) (np lc no sd : Nat) (md : Nat → Nat → Bool) (h0 : HR V c ⟨T, Z, u, h, P, L⟩ σ) (hob : OKB L) (hP : OKP P) (hp0 : YD σ c n st so va ln 0 fp) (hp1 : BR σ c n t) (hp2 : n ≤ 700) (hp3 : P.a ≤ n) (hp4 : MT so va s9 v9) (hp5 : st ≤ n) (hp6 : NR σ c np no sd) (hp7 : MR σ c P.n5 nm) (hp8 : KR σ c P.n5 md) (hp9 : FR σ c 8 1 P.n5 md) (hp10 : FR σ c 9 2 P.n5 md) (hp11 : QR σ c P.n7 lc) (hp12 : np ≤ 12) (hp13 : no ≤ 4) (hp14 : sd ≤ 1) : Ct l V yX10_readFee cX10_readFee 3 none 8 0 0 N σ [.ref c] (fun r τ => ∃ P9 : NP, OKP P9 ∧ RP P P9 ∧ RM τ c n P9 (feeS (tok t n) (st, s9, v9, P.a) P.n5 nm np P.n7 lc no sd md ln) ∧ HS V c (⟨T, Z, u, h, P9, L⟩ : RG) [0, 2, 3, 4, 5, 6, 7, 8, 9, 11, 12, 13, 14, 15, 16, 17, 18, 19, 20, 21, 22, 23] σ τ ∧ r = none) := by
  refine Ct.of (by decide) (Nat.le_of_ble_eq_true rfl) [(0, .ref c)] rfl (fun X hX F hQ => ?_)
  have hPP := hP
  unfold OKP at hPP
  have h1 : HS V c ⟨T, Z, u, h, P, L⟩ [0, 2, 3, 4, 5, 6, 7, 8, 9, 11, 12, 13, 14, 15, 16, 17, 18, 19, 20, 21, 22, 23] σ σ := HS.start h0
  have hyd12259 := hp0
  obtain ⟨yd12259, yd12260, yd12261, yd12262, yd12263, yd12264, yd12265⟩ := hyd12259
  have hn7 := hp2
  refine m_aload_n F rfl e_X10_readFee_0 ?_
  refine r_callV F e_X10_readFee_1 (q_X10_atHandE (x_l X) V c T Z u h P L _ _  n st so va ln fp t nm h1.1 (hob) hP  ⟨(yd12259), (yd12260), (yd12261), (yd12262), (yd12263), (yd12264), (yd12265)⟩ hp1 hn7 (by omega) hp7) cb_X10_atHand ml_X10_174 im_X10_atHand se_X10_atHand h1 rfl rfl (rest := []) rfl (Nat.le_of_ble_eq_true rfl) ⟨Nat.le_of_ble_eq_true rfl, Nat.le_of_ble_eq_true rfl⟩ ⟨Nat.le_of_ble_eq_true rfl, Nat.le_of_ble_eq_true rfl⟩ (fun r σ12266 hp => ?_)
  obtain ⟨P12269, oP12269, rP12269, pr12270, h12267, hp⟩ := hp
  have h12268 := HS.trans h1 h12267 (by decide)
  have xP12269 := oP12269
  unfold OKP at xP12269
  unfold RA at rP12269
  have ga12271 := hp1.of (h12267.2 (c + 1) (by rw [kC_at (k := 1) (by decide)]; decide))
  have ga12272 := hp6.of (h12267.2 (c + 2) (by rw [kC_at (k := 2) (by decide)]; decide))
  have ga12273 := hp7.of (h12267.2 (c + 3) (by rw [kC_at (k := 3) (by decide)]; decide))
  have ga12274 := hp8.of (h12267.2 (c + 7) (by rw [kC_at (k := 7) (by decide)]; decide))
  have ga12275 := hp9.of (h12267.2 (c + 8) (by rw [kC_at (k := 8) (by decide)]; decide))
  have ga12276 := hp10.of (h12267.2 (c + 9) (by rw [kC_at (k := 9) (by decide)]; decide))
  have ga12277 := hp11.of (h12267.2 (c + 11) (by rw [kC_at (k := 11) (by decide)]; decide))
  have bk12287 := tok_ok (t := t) (n := n) P.a (by omega)
  generalize ek12287 : tok t n P.a = k12287 at pr12270 bk12287
  rcases pr12270 with ⟨e12278, e12279, ea12280, ⟨so12281, va12282, mt12283, yd12284⟩, rfl⟩ | ⟨e12278, ⟨fa12285, fb12286⟩, rfl⟩ | ⟨e12278, e12279, ⟨fa12285, fb12286⟩, rfl⟩
  · have hyd12288 := yd12284
    obtain ⟨yd12288, yd12289, yd12290, yd12291, yd12292, yd12293, yd12294⟩ := hyd12288
    refine m_istore_n F (lv' := [(1, .int (nI (4 + fx nm k12287.2.2.1 P.n5))), (0, .ref c)]) e_X10_readFee_4 (by decide) rfl ?_
    refine m_aload_n F rfl e_X10_readFee_5 ?_
    refine r_getC F e_X10_readFee_6 fl_X10_141 h12268 (yd12293) ?_
    refine m_if_ne F e_X10_readFee_9 (fun q => absurd (by decide) q) (fun _ => ?_)
    refine m_aload_n F rfl e_X10_readFee_12 ?_
    refine r_get F e_X10_readFee_13 fl_X10_34 h12268 rfl (fun v hv f12295 => ?_)
    obtain rfl : v = .ref (c + 9) := hv
    refine m_iload_n F rfl e_X10_readFee_16 ?_
    obtain ⟨w12296, hw12296, fw12296, gw12296⟩ := ga12276 (fx nm k12287.2.2.1 P.n5) e12279
    refine r_iald F (len := 8) (j := 4 + fx nm k12287.2.2.1 P.n5) e_X10_readFee_17 h12268 (fun _ h => h) (by decide) (nI_clamp (by omega)) (vp_in_nI (by omega) (by decide)) (fun x12297 h12298 f12299 => ?_)
    obtain rfl := Option.some.inj ((f12299).symm.trans (fw12296))
    refine m_if_eq F e_X10_readFee_18 (fun q18 => ?_) (fun q18 => ?_)
    · have c18 : w12296 = 0 := (nI_eq (a := w12296) (b := 0) (by omega) (by omega)).mp q18
      have e3 : md (fx nm k12287.2.2.1 P.n5) 2 = false := gw12296.mp c18
      refine m_aload_n F rfl e_X10_readFee_26 ?_
      refine r_callV F e_X10_readFee_27 (q_X10_goOnE (x_l X) V c T Z u h P12269 L _ _  n k12287.1 so12281 va12282 ln fp t h12268.1 (hob) oP12269  ⟨(yd12288), (yd12289), (yd12290), (yd12291), (yd12292), (yd12293), (yd12294)⟩ ga12271 hn7 (by omega)) cb_X10_goOn ml_X10_154 im_X10_goOn se_X10_goOn h12268 rfl rfl (rest := []) rfl (Nat.le_of_ble_eq_true rfl) ⟨Nat.le_of_ble_eq_true rfl, Nat.le_of_ble_eq_true rfl⟩ ⟨Nat.le_of_ble_eq_true rfl, Nat.le_of_ble_eq_true rfl⟩ (fun r σ12300 hp => ?_)
      obtain ⟨P12303, oP12303, rP12303, pr12304, pr12305, h12301, hp⟩ := hp
      have h12302 := HS.trans h12268 h12301 (by decide)
      have xP12303 := oP12303
      unfold OKP at xP12303
      unfold RA at rP12303
      have ga12306 := ga12271.of (h12301.2 (c + 1) (by rw [kC_at (k := 1) (by decide)]; decide))
      have ga12307 := ga12272.of (h12301.2 (c + 2) (by rw [kC_at (k := 2) (by decide)]; decide))
      have ga12308 := ga12273.of (h12301.2 (c + 3) (by rw [kC_at (k := 3) (by decide)]; decide))
      have ga12309 := ga12274.of (h12301.2 (c + 7) (by rw [kC_at (k := 7) (by decide)]; decide))
      have ga12310 := ga12275.of (h12301.2 (c + 8) (by rw [kC_at (k := 8) (by decide)]; decide))
      have ga12311 := ga12276.of (h12301.2 (c + 9) (by rw [kC_at (k := 9) (by decide)]; decide))
      have ga12312 := ga12277.of (h12301.2 (c + 11) (by rw [kC_at (k := 11) (by decide)]; decide))
      obtain rfl := hp
      obtain ⟨so12313, va12314, mt12315, yd12316⟩ := pr12305
      generalize ek12317 : tok t n P12269.a = k12317 at pr12304 mt12315 yd12316
      have bk12317 := tok_ok (t := t) (n := n) P12269.a (by omega)
      rw [ek12317] at bk12317
      rw [show P12269.a = k12287.2.2.2 by omega] at ek12317
      have hyd12318 := yd12316
      obtain ⟨yd12318, yd12319, yd12320, yd12321, yd12322, yd12323, yd12324⟩ := hyd12318
      refine m_aload_n F rfl e_X10_readFee_30 ?_
      refine m_iconst F (v := 0) (by decide) e_X10_readFee_31 ?_
      refine m_ldc F kc_X10_177 e_X10_readFee_32 ?_
      refine r_callV F e_X10_readFee_34 (q_X10_numeralE (x_l X) V c T Z u h P12303 L _ _ 0 99999 n k12317.1 so12313 va12314 ln fp t k12317.2.1 k12317.2.2.1 h12302.1 (hob) oP12303 (by omega) (by omega) ⟨(yd12318), (yd12319), (yd12320), (yd12321), (yd12322), (yd12323), (yd12324)⟩ ga12306 hn7 (by omega) mt12315) cb_X10_numeral ml_X10_165 im_X10_numeral se_X10_numeral h12302 rfl rfl (rest := []) rfl (Nat.le_of_ble_eq_true rfl) ⟨Nat.le_of_ble_eq_true rfl, Nat.le_of_ble_eq_true rfl⟩ ⟨Nat.le_of_ble_eq_true rfl, Nat.le_of_ble_eq_true rfl⟩ (fun r σ12325 hp => ?_)
      obtain ⟨P12328, oP12328, rP12328, pr12329, h12326, hp⟩ := hp
      have h12327 := HS.trans h12302 h12326 (by decide)
      have xP12328 := oP12328
      unfold OKP at xP12328
      unfold RA at rP12328
      have ga12330 := ga12306.of (h12326.2 (c + 1) (by rw [kC_at (k := 1) (by decide)]; decide))
      have ga12331 := ga12307.of (h12326.2 (c + 2) (by rw [kC_at (k := 2) (by decide)]; decide))
      have ga12332 := ga12308.of (h12326.2 (c + 3) (by rw [kC_at (k := 3) (by decide)]; decide))
      have ga12333 := ga12309.of (h12326.2 (c + 7) (by rw [kC_at (k := 7) (by decide)]; decide))
      have ga12334 := ga12310.of (h12326.2 (c + 8) (by rw [kC_at (k := 8) (by decide)]; decide))
      have ga12335 := ga12311.of (h12326.2 (c + 9) (by rw [kC_at (k := 9) (by decide)]; decide))
      have ga12336 := ga12312.of (h12326.2 (c + 11) (by rw [kC_at (k := 11) (by decide)]; decide))
      rcases pr12329 with ⟨e12337, l12339, l12340, ea12341, ⟨so12342, va12343, mt12344, yd12345⟩, rfl⟩ | ⟨e12337, ⟨fa12346, fb12347⟩, rfl⟩ | ⟨e12337, e12338, ⟨fa12346, fb12347⟩, rfl⟩
      · have bk12348 := tok_ok (t := t) (n := n) P12303.a (by omega)
        generalize ek12348 : tok t n P12303.a = k12348 at ea12341 mt12344 yd12345 bk12348
        rw [show P12303.a = k12317.2.2.2 by omega] at ek12348
        have hyd12349 := yd12345
        obtain ⟨yd12349, yd12350, yd12351, yd12352, yd12353, yd12354, yd12355⟩ := hyd12349
        refine m_istore_n F (lv' := [(2, .int (nI k12317.2.2.1)), (1, .int (nI (4 + fx nm k12287.2.2.1 P.n5))), (0, .ref c)]) e_X10_readFee_37 (by decide) rfl ?_
        refine m_aload_n F rfl e_X10_readFee_38 ?_
        refine r_getC F e_X10_readFee_39 fl_X10_141 h12327 (yd12354) ?_
        refine m_if_ne F e_X10_readFee_42 (fun q => absurd (by decide) q) (fun _ => ?_)
        refine m_aload_n F rfl e_X10_readFee_45 ?_
        refine r_get F e_X10_readFee_46 fl_X10_34 h12327 rfl (fun v hv f12356 => ?_)
        obtain rfl : v = .ref (c + 9) := hv
        refine m_iload_n F rfl e_X10_readFee_49 ?_
        refine m_iload_n F rfl e_X10_readFee_50 ?_
        refine m_iconst F (v := 1) (by decide) e_X10_readFee_51 ?_
        refine m_iadd F e_X10_readFee_52 ?_
        refine Wm.topE (w := nI (k12317.2.2.1 + 1)) (nI_add k12317.2.2.1 1) ?_
        refine r_iast F (g' := (⟨T, Z, u, h, P12328, L⟩ : RG)) (len := 8) (j := 4 + fx nm k12287.2.2.1 P.n5) e_X10_readFee_53 h12327 (fun _ h => h) (fun f h => ⟨f, rfl, h⟩) (by decide) (by decide) (nI_clamp (by omega)) (vp_in_nI (by omega) (by decide)) trivial (fun _ _ _ h => h) (fun _ _ _ h => h) (fun σ12357 h12358 g12359 f12360 g12361 => ?_)
        have ga12362 := ga12330.of (g12359 _ (by omega))
        have ga12363 := ga12331.of (g12359 _ (by omega))
        have ga12364 := ga12332.of (g12359 _ (by omega))
        have ga12365 := ga12333.of (g12359 _ (by omega))
        have ga12366 := ga12334.of (g12359 _ (by omega))
        have ga12367 := ga12336.of (g12359 _ (by omega))
        have ga12369 := FR.upbL (l := fx nm k12287.2.2.1 P.n5) (b' := 2) ga12366 (by decide)
        have ga12370 := KR.upbL (l := fx nm k12287.2.2.1 P.n5) (b' := 2) ga12365 (by decide) (by decide)
        have ga12368 := FR.put (b := 2) ga12335 (by omega) (by omega) f12360 g12361
        exact m_vret F hQ e_X10_readFee_54 (⟨P12328, oP12328, (by unfold RP; omega), (by unfold feeS; dsimp only; rw [ek12287, oncK_ok e12278 e12279 e3, ek12317, numK_ok e12337 l12339 l12340, ek12348]; exact RM.r mt12344 ⟨((fld_eq (g12359 _ (by omega))).trans yd12349), ((fld_eq (g12359 _ (by omega))).trans yd12350), ((fld_eq (g12359 _ (by omega))).trans yd12351), ((fld_eq (g12359 _ (by omega))).trans yd12352), ((fld_eq (g12359 _ (by omega))).trans yd12353), ((fld_eq (g12359 _ (by omega))).trans yd12354), ((fld_eq (g12359 _ (by omega))).trans yd12355)⟩ (by omega) (by omega) (by omega) ga12363 ga12364 ga12370 ga12369 ga12368 ga12367 (by omega) (by omega) (by omega) (by omega) (by omega)), h12358, rfl⟩)
      · have hz9 : True := trivial
        refine m_istore_n F (lv' := [(2, .int (nI 0)), (1, .int (nI (4 + fx nm k12287.2.2.1 P.n5))), (0, .ref c)]) e_X10_readFee_37 (by decide) rfl ?_
        refine m_aload_n F rfl e_X10_readFee_38 ?_
        refine r_getC F e_X10_readFee_39 fl_X10_141 h12327 (fa12346) ?_
        refine m_if_ne F e_X10_readFee_42 (fun _ => ?_) (fun q => absurd q (by decide))
        exact m_vret F hQ e_X10_readFee_54 (⟨P12328, oP12328, (by unfold RP; omega), (by unfold feeS; dsimp only; rw [ek12287, oncK_ok e12278 e12279 e3, ek12317, numK_1 e12337]; exact RM.l (fa12346) (fb12347) (by decide) (by decide) (by omega)), h12327, rfl⟩)
      · have hz9 : True := trivial
        refine m_istore_n F (lv' := [(2, .int (nI 0)), (1, .int (nI (4 + fx nm k12287.2.2.1 P.n5))), (0, .ref c)]) e_X10_readFee_37 (by decide) rfl ?_
        refine m_aload_n F rfl e_X10_readFee_38 ?_
        refine r_getC F e_X10_readFee_39 fl_X10_141 h12327 (fa12346) ?_
        refine m_if_ne F e_X10_readFee_42 (fun _ => ?_) (fun q => absurd q (by decide))
        exact m_vret F hQ e_X10_readFee_54 (⟨P12328, oP12328, (by unfold RP; omega), (by unfold feeS; dsimp only; rw [ek12287, oncK_ok e12278 e12279 e3, ek12317, numK_2 e12337 e12338]; exact RM.l (fa12346) (fb12347) (by decide) (by decide) (by omega)), h12327, rfl⟩)
    · have c18 : w12296 ≠ 0 := by have hh := mt (nI_eq (a := w12296) (b := 0) (by omega) (by omega)).mpr q18; omega
      have e3 : md (fx nm k12287.2.2.1 P.n5) 2 = true := by cases hmd : md (fx nm k12287.2.2.1 P.n5) 2 with | true => rfl | false => exact absurd (gw12296.mpr hmd) (by omega)
      refine m_aload_n F rfl e_X10_readFee_21 ?_
      refine m_iconst F (v := 3) (by decide) e_X10_readFee_22 ?_
      refine r_callV F e_X10_readFee_23 (q_X10_wrongE (x_l X) V c T Z u h P12269 L _ _ 3 n k12287.1 so12281 va12282 ln fp h12268.1 (hob) oP12269 (by omega) ⟨(yd12288), (yd12289), (yd12290), (yd12291), (yd12292), (yd12293), (yd12294)⟩ (by decide)) cb_X10_wrong ml_X10_150 im_X10_wrong se_X10_wrong h12268 rfl rfl (rest := []) rfl (Nat.le_of_ble_eq_true rfl) ⟨Nat.le_of_ble_eq_true rfl, Nat.le_of_ble_eq_true rfl⟩ ⟨Nat.le_of_ble_eq_true rfl, Nat.le_of_ble_eq_true rfl⟩ (fun r σ12371 hp => ?_)
      obtain ⟨h12372, hp⟩ := hp
      have h12373 := HS.trans h12268 h12372 (by decide)
      have ga12374 := ga12271.of (h12372.2 (c + 1) (by rw [kC_at (k := 1) (by decide)]; decide))
      have ga12375 := ga12272.of (h12372.2 (c + 2) (by rw [kC_at (k := 2) (by decide)]; decide))
      have ga12376 := ga12273.of (h12372.2 (c + 3) (by rw [kC_at (k := 3) (by decide)]; decide))
      have ga12377 := ga12274.of (h12372.2 (c + 7) (by rw [kC_at (k := 7) (by decide)]; decide))
      have ga12378 := ga12275.of (h12372.2 (c + 8) (by rw [kC_at (k := 8) (by decide)]; decide))
      have ga12379 := ga12276.of (h12372.2 (c + 9) (by rw [kC_at (k := 9) (by decide)]; decide))
      have ga12380 := ga12277.of (h12372.2 (c + 11) (by rw [kC_at (k := 11) (by decide)]; decide))
      obtain ⟨hp, rfl⟩ := hp
      have hyd12381 := hp
      obtain ⟨yd12381, yd12382, yd12383, yd12384, yd12385, yd12386, yd12387⟩ := hyd12381
      refine m_aload_n F rfl e_X10_readFee_26 ?_
      refine r_callV F e_X10_readFee_27 (q_X10_goOnG (x_l X) V c T 0 u h P12269 L _ _  3 h12373.1 (hob) oP12269  (yd12386) (by decide)) cb_X10_goOn ml_X10_154 im_X10_goOn se_X10_goOn h12373 rfl rfl (rest := []) rfl (Nat.le_of_ble_eq_true rfl) ⟨Nat.le_of_ble_eq_true rfl, Nat.le_of_ble_eq_true rfl⟩ ⟨Nat.le_of_ble_eq_true rfl, Nat.le_of_ble_eq_true rfl⟩ (fun r σ12388 hp => ?_)
      obtain ⟨h12389, hp⟩ := hp
      have h12390 := HS.trans h12373 h12389 (by decide)
      have ga12391 := ga12374.of (h12389.2 (c + 1) (by rw [kC_at (k := 1) (by decide)]; decide))
      have ga12392 := ga12375.of (h12389.2 (c + 2) (by rw [kC_at (k := 2) (by decide)]; decide))
      have ga12393 := ga12376.of (h12389.2 (c + 3) (by rw [kC_at (k := 3) (by decide)]; decide))
      have ga12394 := ga12377.of (h12389.2 (c + 7) (by rw [kC_at (k := 7) (by decide)]; decide))
      have ga12395 := ga12378.of (h12389.2 (c + 8) (by rw [kC_at (k := 8) (by decide)]; decide))
      have ga12396 := ga12379.of (h12389.2 (c + 9) (by rw [kC_at (k := 9) (by decide)]; decide))
      have ga12397 := ga12380.of (h12389.2 (c + 11) (by rw [kC_at (k := 11) (by decide)]; decide))
      obtain ⟨rfl, rfl⟩ := hp
      refine m_aload_n F rfl e_X10_readFee_30 ?_
      refine m_iconst F (v := 0) (by decide) e_X10_readFee_31 ?_
      refine m_ldc F kc_X10_177 e_X10_readFee_32 ?_
      refine r_callV F e_X10_readFee_34 (q_X10_numeralG (x_l X) V c T 0 u h P12269 L _ _ 0 99999 3 h12390.1 (hob) oP12269 (by omega) (by omega) (yd12386) (by decide)) cb_X10_numeral ml_X10_165 im_X10_numeral se_X10_numeral h12390 rfl rfl (rest := []) rfl (Nat.le_of_ble_eq_true rfl) ⟨Nat.le_of_ble_eq_true rfl, Nat.le_of_ble_eq_true rfl⟩ ⟨Nat.le_of_ble_eq_true rfl, Nat.le_of_ble_eq_true rfl⟩ (fun r σ12398 hp => ?_)
      obtain ⟨h12399, hp⟩ := hp
      have h12400 := HS.trans h12390 h12399 (by decide)
      have ga12401 := ga12374.of (h12399.2 (c + 1) (by rw [kC_at (k := 1) (by decide)]; decide))
      have ga12402 := ga12375.of (h12399.2 (c + 2) (by rw [kC_at (k := 2) (by decide)]; decide))
      have ga12403 := ga12376.of (h12399.2 (c + 3) (by rw [kC_at (k := 3) (by decide)]; decide))
      have ga12404 := ga12377.of (h12399.2 (c + 7) (by rw [kC_at (k := 7) (by decide)]; decide))
      have ga12405 := ga12378.of (h12399.2 (c + 8) (by rw [kC_at (k := 8) (by decide)]; decide))
      have ga12406 := ga12379.of (h12399.2 (c + 9) (by rw [kC_at (k := 9) (by decide)]; decide))
      have ga12407 := ga12380.of (h12399.2 (c + 11) (by rw [kC_at (k := 11) (by decide)]; decide))
      obtain ⟨rfl, rfl⟩ := hp
      refine m_istore_n F (lv' := [(2, .int (nI 0)), (1, .int (nI (4 + fx nm k12287.2.2.1 P.n5))), (0, .ref c)]) e_X10_readFee_37 (by decide) rfl ?_
      refine m_aload_n F rfl e_X10_readFee_38 ?_
      refine r_getC F e_X10_readFee_39 fl_X10_141 h12400 (yd12386) ?_
      refine m_if_ne F e_X10_readFee_42 (fun _ => ?_) (fun q => absurd q (by decide))
      have h12408 : HS V c _ [0, 2, 3, 4, 5, 6, 7, 8, 9, 11, 12, 13, 14, 15, 16, 17, 18, 19, 20, 21, 22, 23] _ _ := ⟨HR.mono (Z' := Z) (by intro e; first | rfl | assumption | omega) h12400.1, h12400.2⟩
      exact m_vret F hQ e_X10_readFee_54 (⟨P12269, oP12269, (by unfold RP; omega), (by unfold feeS; dsimp only; rw [ek12287, oncK_3 e12278 e12279 e3]; exact RM.l (yd12386) (yd12387) (by decide) (by decide) (by omega)), h12408, rfl⟩)
  · have hz9 : True := trivial
    refine m_istore_n F (lv' := [(1, .int (nI 4)), (0, .ref c)]) e_X10_readFee_4 (by decide) rfl ?_
    refine m_aload_n F rfl e_X10_readFee_5 ?_
    refine r_getC F e_X10_readFee_6 fl_X10_141 h12268 (fa12285) ?_
    refine m_if_ne F e_X10_readFee_9 (fun _ => ?_) (fun q => absurd q (by decide))
    refine m_aload_n F rfl e_X10_readFee_26 ?_
    refine r_callV F e_X10_readFee_27 (q_X10_goOnG (x_l X) V c T Z u h P12269 L _ _  1 h12268.1 (hob) oP12269  (fa12285) (by decide)) cb_X10_goOn ml_X10_154 im_X10_goOn se_X10_goOn h12268 rfl rfl (rest := []) rfl (Nat.le_of_ble_eq_true rfl) ⟨Nat.le_of_ble_eq_true rfl, Nat.le_of_ble_eq_true rfl⟩ ⟨Nat.le_of_ble_eq_true rfl, Nat.le_of_ble_eq_true rfl⟩ (fun r σ12409 hp => ?_)
    obtain ⟨h12410, hp⟩ := hp
    have h12411 := HS.trans h12268 h12410 (by decide)
    obtain ⟨rfl, rfl⟩ := hp
    refine m_aload_n F rfl e_X10_readFee_30 ?_
    refine m_iconst F (v := 0) (by decide) e_X10_readFee_31 ?_
    refine m_ldc F kc_X10_177 e_X10_readFee_32 ?_
    refine r_callV F e_X10_readFee_34 (q_X10_numeralG (x_l X) V c T Z u h P12269 L _ _ 0 99999 1 h12411.1 (hob) oP12269 (by omega) (by omega) (fa12285) (by decide)) cb_X10_numeral ml_X10_165 im_X10_numeral se_X10_numeral h12411 rfl rfl (rest := []) rfl (Nat.le_of_ble_eq_true rfl) ⟨Nat.le_of_ble_eq_true rfl, Nat.le_of_ble_eq_true rfl⟩ ⟨Nat.le_of_ble_eq_true rfl, Nat.le_of_ble_eq_true rfl⟩ (fun r σ12412 hp => ?_)
    obtain ⟨h12413, hp⟩ := hp
    have h12414 := HS.trans h12411 h12413 (by decide)
    obtain ⟨rfl, rfl⟩ := hp
    refine m_istore_n F (lv' := [(2, .int (nI 0)), (1, .int (nI 4)), (0, .ref c)]) e_X10_readFee_37 (by decide) rfl ?_
    refine m_aload_n F rfl e_X10_readFee_38 ?_
    refine r_getC F e_X10_readFee_39 fl_X10_141 h12414 (fa12285) ?_
    refine m_if_ne F e_X10_readFee_42 (fun _ => ?_) (fun q => absurd q (by decide))
    exact m_vret F hQ e_X10_readFee_54 (⟨P12269, oP12269, (by unfold RP; omega), (by unfold feeS; dsimp only; rw [ek12287, oncK_1 e12278]; exact RM.l (fa12285) (fb12286) (by decide) (by decide) (by omega)), h12414, rfl⟩)
  · have hz9 : True := trivial
    refine m_istore_n F (lv' := [(1, .int (nI 4)), (0, .ref c)]) e_X10_readFee_4 (by decide) rfl ?_
    refine m_aload_n F rfl e_X10_readFee_5 ?_
    refine r_getC F e_X10_readFee_6 fl_X10_141 h12268 (fa12285) ?_
    refine m_if_ne F e_X10_readFee_9 (fun _ => ?_) (fun q => absurd q (by decide))
    refine m_aload_n F rfl e_X10_readFee_26 ?_
    refine r_callV F e_X10_readFee_27 (q_X10_goOnG (x_l X) V c T Z u h P12269 L _ _  4 h12268.1 (hob) oP12269  (fa12285) (by decide)) cb_X10_goOn ml_X10_154 im_X10_goOn se_X10_goOn h12268 rfl rfl (rest := []) rfl (Nat.le_of_ble_eq_true rfl) ⟨Nat.le_of_ble_eq_true rfl, Nat.le_of_ble_eq_true rfl⟩ ⟨Nat.le_of_ble_eq_true rfl, Nat.le_of_ble_eq_true rfl⟩ (fun r σ12415 hp => ?_)
    obtain ⟨h12416, hp⟩ := hp
    have h12417 := HS.trans h12268 h12416 (by decide)
    obtain ⟨rfl, rfl⟩ := hp
    refine m_aload_n F rfl e_X10_readFee_30 ?_
    refine m_iconst F (v := 0) (by decide) e_X10_readFee_31 ?_
    refine m_ldc F kc_X10_177 e_X10_readFee_32 ?_
    refine r_callV F e_X10_readFee_34 (q_X10_numeralG (x_l X) V c T Z u h P12269 L _ _ 0 99999 4 h12417.1 (hob) oP12269 (by omega) (by omega) (fa12285) (by decide)) cb_X10_numeral ml_X10_165 im_X10_numeral se_X10_numeral h12417 rfl rfl (rest := []) rfl (Nat.le_of_ble_eq_true rfl) ⟨Nat.le_of_ble_eq_true rfl, Nat.le_of_ble_eq_true rfl⟩ ⟨Nat.le_of_ble_eq_true rfl, Nat.le_of_ble_eq_true rfl⟩ (fun r σ12418 hp => ?_)
    obtain ⟨h12419, hp⟩ := hp
    have h12420 := HS.trans h12417 h12419 (by decide)
    obtain ⟨rfl, rfl⟩ := hp
    refine m_istore_n F (lv' := [(2, .int (nI 0)), (1, .int (nI 4)), (0, .ref c)]) e_X10_readFee_37 (by decide) rfl ?_
    refine m_aload_n F rfl e_X10_readFee_38 ?_
    refine r_getC F e_X10_readFee_39 fl_X10_141 h12420 (fa12285) ?_
    refine m_if_ne F e_X10_readFee_42 (fun _ => ?_) (fun q => absurd q (by decide))
    exact m_vret F hQ e_X10_readFee_54 (⟨P12269, oP12269, (by unfold RP; omega), (by unfold feeS; dsimp only; rw [ek12287, oncK_4 e12278 e12279]; exact RM.l (fa12285) (fb12286) (by decide) (by decide) (by omega)), h12420, rfl⟩)
set_option maxRecDepth 20000 in
theorem q_X10_readSeedE (l : Launch) (V : VX) (c T Z u h : Nat) (P : NP) (L : Nat → LQ) (N : Nat) (σ : Mem) (n st : Nat) (so va : Int32) (ln : Nat) (fp : Int32) (t : Nat → Nat) (s9 v9 : Nat) (nm : Nat → Nat) (np lc no sd : Nat) (md : Nat → Nat → Bool) (h0 : HR V c ⟨T, Z, u, h, P, L⟩ σ) (hob : OKB L) (hP : OKP P) (hp0 : YD σ c n st so va ln 0 fp) (hp1 : BR σ c n t) (hp2 : n ≤ 700) (hp3 : P.a ≤ n) (hp4 : MT so va s9 v9) (hp5 : st ≤ n) (hp6 : NR σ c np no sd) (hp7 : MR σ c P.n5 nm) (hp8 : KR σ c P.n5 md) (hp9 : FR σ c 8 1 P.n5 md) (hp10 : FR σ c 9 2 P.n5 md) (hp11 : QR σ c P.n7 lc) (hp12 : np ≤ 12) (hp13 : no ≤ 4) (hp14 : sd ≤ 1) : Ct l V yX10_readSeed cX10_readSeed 1 none 8 0 0 N σ [.ref c] (fun r τ => ∃ P9 : NP, OKP P9 ∧ RP P P9 ∧ RM τ c n P9 (seedS (tok t n) (st, s9, v9, P.a) P.n5 nm np P.n7 lc no sd md ln) ∧ HS V c (⟨T, Z, u, h, P9, L⟩ : RG) [0, 2, 4, 5, 6, 7, 8, 9, 10, 11, 12, 13, 14, 15, 16, 17, 18, 19, 20, 21, 22, 23] σ τ ∧ r = none) := by
  refine Ct.of (by decide) (Nat.le_of_ble_eq_true rfl) [(0, .ref c)] rfl (fun X hX F hQ => ?_)
  have hPP := hP
  unfold OKP at hPP
  have h1 : HS V c ⟨T, Z, u, h, P, L⟩ [0, 2, 4, 5, 6, 7, 8, 9, 10, 11, 12, 13, 14, 15, 16, 17, 18, 19, 20, 21, 22, 23] σ σ := HS.start h0
  have hyd12421 := hp0
  obtain ⟨yd12421, yd12422, yd12423, yd12424, yd12425, yd12426, yd12427⟩ := hyd12421
  have hn7 := hp2
  refine m_aload_n F rfl e_X10_readSeed_0 ?_
  refine m_iconst F (v := 4) (by decide) e_X10_readSeed_1 ?_
  refine r_callV F e_X10_readSeed_2 (q_X10_reading4E (x_l X) V c T Z u h P L _ _  np no sd h1.1 (hob) hP  hp6) cb_X10_reading ml_X10_157 im_X10_reading se_X10_reading h1 rfl rfl (rest := []) rfl (Nat.le_of_ble_eq_true rfl) ⟨Nat.le_of_ble_eq_true rfl, Nat.le_of_ble_eq_true rfl⟩ ⟨Nat.le_of_ble_eq_true rfl, Nat.le_of_ble_eq_true rfl⟩ (fun r σ12428 hp => ?_)
  obtain ⟨h12429, hp⟩ := hp
  have h12430 := HS.trans h1 h12429 (by decide)
  have ga12431 := hp1.of (h12429.2 (c + 1) (by rw [kC_at (k := 1) (by decide)]; decide))
  have ga12432 := hp6.of (h12429.2 (c + 2) (by rw [kC_at (k := 2) (by decide)]; decide))
  have ga12433 := hp7.of (h12429.2 (c + 3) (by rw [kC_at (k := 3) (by decide)]; decide))
  have ga12434 := hp8.of (h12429.2 (c + 7) (by rw [kC_at (k := 7) (by decide)]; decide))
  have ga12435 := hp9.of (h12429.2 (c + 8) (by rw [kC_at (k := 8) (by decide)]; decide))
  have ga12436 := hp10.of (h12429.2 (c + 9) (by rw [kC_at (k := 9) (by decide)]; decide))
  have ga12437 := hp11.of (h12429.2 (c + 11) (by rw [kC_at (k := 11) (by decide)]; decide))
  obtain ⟨w12438, hw12438, gw12438, rfl⟩ := hp
  refine m_if_eq F e_X10_readSeed_5 (fun q5 => ?_) (fun q5 => ?_)
  · have c5 : w12438 = 0 := (nI_eq (a := w12438) (b := 0) (by omega) (by omega)).mp q5
    refine m_aload_n F rfl e_X10_readSeed_13 ?_
    refine r_callV F e_X10_readSeed_14 (q_X10_goOnE (x_l X) V c T Z u h P L _ _  n st so va ln fp t h12430.1 (hob) hP  ⟨((fld_eq (h12429.2 c (by rw [show kC c c = 1 from kC_at (k := 0) (by decide)]; decide))).trans yd12421), ((fld_eq (h12429.2 c (by rw [show kC c c = 1 from kC_at (k := 0) (by decide)]; decide))).trans yd12422), ((fld_eq (h12429.2 c (by rw [show kC c c = 1 from kC_at (k := 0) (by decide)]; decide))).trans yd12423), ((fld_eq (h12429.2 c (by rw [show kC c c = 1 from kC_at (k := 0) (by decide)]; decide))).trans yd12424), ((fld_eq (h12429.2 c (by rw [show kC c c = 1 from kC_at (k := 0) (by decide)]; decide))).trans yd12425), ((fld_eq (h12429.2 c (by rw [show kC c c = 1 from kC_at (k := 0) (by decide)]; decide))).trans yd12426), ((fld_eq (h12429.2 c (by rw [show kC c c = 1 from kC_at (k := 0) (by decide)]; decide))).trans yd12427)⟩ ga12431 hn7 (by omega)) cb_X10_goOn ml_X10_154 im_X10_goOn se_X10_goOn h12430 rfl rfl (rest := []) rfl (Nat.le_of_ble_eq_true rfl) ⟨Nat.le_of_ble_eq_true rfl, Nat.le_of_ble_eq_true rfl⟩ ⟨Nat.le_of_ble_eq_true rfl, Nat.le_of_ble_eq_true rfl⟩ (fun r σ12439 hp => ?_)
    obtain ⟨P12442, oP12442, rP12442, pr12443, pr12444, h12440, hp⟩ := hp
    have h12441 := HS.trans h12430 h12440 (by decide)
    have xP12442 := oP12442
    unfold OKP at xP12442
    unfold RA at rP12442
    have ga12445 := ga12431.of (h12440.2 (c + 1) (by rw [kC_at (k := 1) (by decide)]; decide))
    have ga12446 := ga12432.of (h12440.2 (c + 2) (by rw [kC_at (k := 2) (by decide)]; decide))
    have ga12447 := ga12433.of (h12440.2 (c + 3) (by rw [kC_at (k := 3) (by decide)]; decide))
    have ga12448 := ga12434.of (h12440.2 (c + 7) (by rw [kC_at (k := 7) (by decide)]; decide))
    have ga12449 := ga12435.of (h12440.2 (c + 8) (by rw [kC_at (k := 8) (by decide)]; decide))
    have ga12450 := ga12436.of (h12440.2 (c + 9) (by rw [kC_at (k := 9) (by decide)]; decide))
    have ga12451 := ga12437.of (h12440.2 (c + 11) (by rw [kC_at (k := 11) (by decide)]; decide))
    obtain rfl := hp
    obtain ⟨so12452, va12453, mt12454, yd12455⟩ := pr12444
    generalize ek12456 : tok t n P.a = k12456 at pr12443 mt12454 yd12455
    have bk12456 := tok_ok (t := t) (n := n) P.a (by omega)
    rw [ek12456] at bk12456
    have hyd12457 := yd12455
    obtain ⟨yd12457, yd12458, yd12459, yd12460, yd12461, yd12462, yd12463⟩ := hyd12457
    refine m_aload_n F rfl e_X10_readSeed_17 ?_
    refine m_iconst F (v := 4) (by decide) e_X10_readSeed_18 ?_
    refine m_aload_n F rfl e_X10_readSeed_19 ?_
    refine m_iconst F (v := 0) (by decide) e_X10_readSeed_20 ?_
    refine m_ldc F kc_X10_177 e_X10_readSeed_21 ?_
    refine r_callV F e_X10_readSeed_23 (q_X10_numeralE (x_l X) V c T Z u h P12442 L _ _ 0 99999 n k12456.1 so12452 va12453 ln fp t k12456.2.1 k12456.2.2.1 h12441.1 (hob) oP12442 (by omega) (by omega) ⟨(yd12457), (yd12458), (yd12459), (yd12460), (yd12461), (yd12462), (yd12463)⟩ ga12445 hn7 (by omega) mt12454) cb_X10_numeral ml_X10_165 im_X10_numeral se_X10_numeral h12441 rfl rfl (rest := [.int 4, .ref c]) rfl (Nat.le_of_ble_eq_true rfl) ⟨Nat.le_of_ble_eq_true rfl, Nat.le_of_ble_eq_true rfl⟩ ⟨Nat.le_of_ble_eq_true rfl, Nat.le_of_ble_eq_true rfl⟩ (fun r σ12464 hp => ?_)
    obtain ⟨P12467, oP12467, rP12467, pr12468, h12465, hp⟩ := hp
    have h12466 := HS.trans h12441 h12465 (by decide)
    have xP12467 := oP12467
    unfold OKP at xP12467
    unfold RA at rP12467
    have ga12469 := ga12445.of (h12465.2 (c + 1) (by rw [kC_at (k := 1) (by decide)]; decide))
    have ga12470 := ga12446.of (h12465.2 (c + 2) (by rw [kC_at (k := 2) (by decide)]; decide))
    have ga12471 := ga12447.of (h12465.2 (c + 3) (by rw [kC_at (k := 3) (by decide)]; decide))
    have ga12472 := ga12448.of (h12465.2 (c + 7) (by rw [kC_at (k := 7) (by decide)]; decide))
    have ga12473 := ga12449.of (h12465.2 (c + 8) (by rw [kC_at (k := 8) (by decide)]; decide))
    have ga12474 := ga12450.of (h12465.2 (c + 9) (by rw [kC_at (k := 9) (by decide)]; decide))
    have ga12475 := ga12451.of (h12465.2 (c + 11) (by rw [kC_at (k := 11) (by decide)]; decide))
    rcases pr12468 with ⟨e12476, l12478, l12479, ea12480, ⟨so12481, va12482, mt12483, yd12484⟩, rfl⟩ | ⟨e12476, ⟨fa12485, fb12486⟩, rfl⟩ | ⟨e12476, e12477, ⟨fa12485, fb12486⟩, rfl⟩
    · have bk12487 := tok_ok (t := t) (n := n) P12442.a (by omega)
      generalize ek12487 : tok t n P12442.a = k12487 at ea12480 mt12483 yd12484 bk12487
      rw [show P12442.a = k12456.2.2.2 by omega] at ek12487
      have hyd12488 := yd12484
      obtain ⟨yd12488, yd12489, yd12490, yd12491, yd12492, yd12493, yd12494⟩ := hyd12488
      refine m_iconst F (v := 1) (by decide) e_X10_readSeed_26 ?_
      refine m_iadd F e_X10_readSeed_27 ?_
      refine Wm.topE (w := nI (k12456.2.2.1 + 1)) (nI_add k12456.2.2.1 1) ?_
      refine r_callV F e_X10_readSeed_28 (q_X10_reads4E (x_l X) V c T Z u h P12467 L _ _ (k12456.2.2.1 + 1)  h12466.1 (hob) oP12467 (by omega) ) cb_X10_reads ml_X10_170 im_X10_reads se_X10_reads h12466 rfl rfl (rest := []) rfl (Nat.le_of_ble_eq_true rfl) ⟨Nat.le_of_ble_eq_true rfl, Nat.le_of_ble_eq_true rfl⟩ ⟨Nat.le_of_ble_eq_true rfl, Nat.le_of_ble_eq_true rfl⟩ (fun r σ12495 hp => ?_)
      obtain ⟨h12496, hp⟩ := hp
      have h12497 := HS.trans h12466 h12496 (by decide)
      have ga12498 := ga12469.of (h12496.2 (c + 1) (by rw [kC_at (k := 1) (by decide)]; decide))
      have ga12499 := ga12471.of (h12496.2 (c + 3) (by rw [kC_at (k := 3) (by decide)]; decide))
      have ga12500 := ga12472.of (h12496.2 (c + 7) (by rw [kC_at (k := 7) (by decide)]; decide))
      have ga12501 := ga12473.of (h12496.2 (c + 8) (by rw [kC_at (k := 8) (by decide)]; decide))
      have ga12502 := ga12474.of (h12496.2 (c + 9) (by rw [kC_at (k := 9) (by decide)]; decide))
      have ga12503 := ga12475.of (h12496.2 (c + 11) (by rw [kC_at (k := 11) (by decide)]; decide))
      obtain ⟨ea12504, eb12505, rfl⟩ := hp
      have ga12506 := NR.s ga12470 (by omega) (by omega) ea12504 eb12505
      exact m_vret F hQ e_X10_readSeed_31 (⟨P12467, oP12467, (by unfold RP; omega), (by unfold seedS; dsimp only; rw [if_pos (by omega), ek12456, numK_ok e12476 l12478 l12479, ek12487]; exact RM.r mt12483 ⟨((fld_eq (h12496.2 c (by rw [show kC c c = 1 from kC_at (k := 0) (by decide)]; decide))).trans yd12488), ((fld_eq (h12496.2 c (by rw [show kC c c = 1 from kC_at (k := 0) (by decide)]; decide))).trans yd12489), ((fld_eq (h12496.2 c (by rw [show kC c c = 1 from kC_at (k := 0) (by decide)]; decide))).trans yd12490), ((fld_eq (h12496.2 c (by rw [show kC c c = 1 from kC_at (k := 0) (by decide)]; decide))).trans yd12491), ((fld_eq (h12496.2 c (by rw [show kC c c = 1 from kC_at (k := 0) (by decide)]; decide))).trans yd12492), ((fld_eq (h12496.2 c (by rw [show kC c c = 1 from kC_at (k := 0) (by decide)]; decide))).trans yd12493), ((fld_eq (h12496.2 c (by rw [show kC c c = 1 from kC_at (k := 0) (by decide)]; decide))).trans yd12494)⟩ (by omega) (by omega) (by omega) ga12506 ga12499 ga12500 ga12501 ga12502 ga12503 (by omega) (by omega) (by omega) (by omega) (by omega)), h12497, rfl⟩)
    · have hz9 : True := trivial
      refine m_iconst F (v := 1) (by decide) e_X10_readSeed_26 ?_
      refine m_iadd F e_X10_readSeed_27 ?_
      refine Wm.topE (w := nI (0 + 1)) (nI_add 0 1) ?_
      refine r_callV F e_X10_readSeed_28 (q_X10_reads4 (x_l X) V c T Z u h P12467 L _ _ (nI (0 + 1)) h12466.1 (hob) oP12467 ) cb_X10_reads ml_X10_170 im_X10_reads se_X10_reads h12466 rfl rfl (rest := []) rfl (Nat.le_of_ble_eq_true rfl) ⟨Nat.le_of_ble_eq_true rfl, Nat.le_of_ble_eq_true rfl⟩ ⟨Nat.le_of_ble_eq_true rfl, Nat.le_of_ble_eq_true rfl⟩ (fun r σ12507 hp => ?_)
      obtain ⟨h12508, rfl⟩ := hp
      have h12509 := HS.trans h12466 h12508 (by decide)
      exact m_vret F hQ e_X10_readSeed_31 (⟨P12467, oP12467, (by unfold RP; omega), (by unfold seedS; dsimp only; rw [if_pos (by omega), ek12456, numK_1 e12476]; exact RM.l ((fld_eq (h12508.2 c (by rw [show kC c c = 1 from kC_at (k := 0) (by decide)]; decide))).trans fa12485) ((fld_eq (h12508.2 c (by rw [show kC c c = 1 from kC_at (k := 0) (by decide)]; decide))).trans fb12486) (by decide) (by decide) (by omega)), h12509, rfl⟩)
    · have hz9 : True := trivial
      refine m_iconst F (v := 1) (by decide) e_X10_readSeed_26 ?_
      refine m_iadd F e_X10_readSeed_27 ?_
      refine Wm.topE (w := nI (0 + 1)) (nI_add 0 1) ?_
      refine r_callV F e_X10_readSeed_28 (q_X10_reads4 (x_l X) V c T Z u h P12467 L _ _ (nI (0 + 1)) h12466.1 (hob) oP12467 ) cb_X10_reads ml_X10_170 im_X10_reads se_X10_reads h12466 rfl rfl (rest := []) rfl (Nat.le_of_ble_eq_true rfl) ⟨Nat.le_of_ble_eq_true rfl, Nat.le_of_ble_eq_true rfl⟩ ⟨Nat.le_of_ble_eq_true rfl, Nat.le_of_ble_eq_true rfl⟩ (fun r σ12510 hp => ?_)
      obtain ⟨h12511, rfl⟩ := hp
      have h12512 := HS.trans h12466 h12511 (by decide)
      exact m_vret F hQ e_X10_readSeed_31 (⟨P12467, oP12467, (by unfold RP; omega), (by unfold seedS; dsimp only; rw [if_pos (by omega), ek12456, numK_2 e12476 e12477]; exact RM.l ((fld_eq (h12511.2 c (by rw [show kC c c = 1 from kC_at (k := 0) (by decide)]; decide))).trans fa12485) ((fld_eq (h12511.2 c (by rw [show kC c c = 1 from kC_at (k := 0) (by decide)]; decide))).trans fb12486) (by decide) (by decide) (by omega)), h12512, rfl⟩)
  · have c5 : w12438 ≠ 0 := by have hh := mt (nI_eq (a := w12438) (b := 0) (by omega) (by omega)).mpr q5; omega
    refine m_aload_n F rfl e_X10_readSeed_8 ?_
    refine m_iconst F (v := 3) (by decide) e_X10_readSeed_9 ?_
    refine r_callV F e_X10_readSeed_10 (q_X10_wrongE (x_l X) V c T Z u h P L _ _ 3 n st so va ln fp h12430.1 (hob) hP (by omega) ⟨((fld_eq (h12429.2 c (by rw [show kC c c = 1 from kC_at (k := 0) (by decide)]; decide))).trans yd12421), ((fld_eq (h12429.2 c (by rw [show kC c c = 1 from kC_at (k := 0) (by decide)]; decide))).trans yd12422), ((fld_eq (h12429.2 c (by rw [show kC c c = 1 from kC_at (k := 0) (by decide)]; decide))).trans yd12423), ((fld_eq (h12429.2 c (by rw [show kC c c = 1 from kC_at (k := 0) (by decide)]; decide))).trans yd12424), ((fld_eq (h12429.2 c (by rw [show kC c c = 1 from kC_at (k := 0) (by decide)]; decide))).trans yd12425), ((fld_eq (h12429.2 c (by rw [show kC c c = 1 from kC_at (k := 0) (by decide)]; decide))).trans yd12426), ((fld_eq (h12429.2 c (by rw [show kC c c = 1 from kC_at (k := 0) (by decide)]; decide))).trans yd12427)⟩ (by decide)) cb_X10_wrong ml_X10_150 im_X10_wrong se_X10_wrong h12430 rfl rfl (rest := []) rfl (Nat.le_of_ble_eq_true rfl) ⟨Nat.le_of_ble_eq_true rfl, Nat.le_of_ble_eq_true rfl⟩ ⟨Nat.le_of_ble_eq_true rfl, Nat.le_of_ble_eq_true rfl⟩ (fun r σ12513 hp => ?_)
    obtain ⟨h12514, hp⟩ := hp
    have h12515 := HS.trans h12430 h12514 (by decide)
    have ga12516 := ga12431.of (h12514.2 (c + 1) (by rw [kC_at (k := 1) (by decide)]; decide))
    have ga12517 := ga12432.of (h12514.2 (c + 2) (by rw [kC_at (k := 2) (by decide)]; decide))
    have ga12518 := ga12433.of (h12514.2 (c + 3) (by rw [kC_at (k := 3) (by decide)]; decide))
    have ga12519 := ga12434.of (h12514.2 (c + 7) (by rw [kC_at (k := 7) (by decide)]; decide))
    have ga12520 := ga12435.of (h12514.2 (c + 8) (by rw [kC_at (k := 8) (by decide)]; decide))
    have ga12521 := ga12436.of (h12514.2 (c + 9) (by rw [kC_at (k := 9) (by decide)]; decide))
    have ga12522 := ga12437.of (h12514.2 (c + 11) (by rw [kC_at (k := 11) (by decide)]; decide))
    obtain ⟨hp, rfl⟩ := hp
    have hyd12523 := hp
    obtain ⟨yd12523, yd12524, yd12525, yd12526, yd12527, yd12528, yd12529⟩ := hyd12523
    refine m_aload_n F rfl e_X10_readSeed_13 ?_
    refine r_callV F e_X10_readSeed_14 (q_X10_goOnG (x_l X) V c T 0 u h P L _ _  3 h12515.1 (hob) hP  (yd12528) (by decide)) cb_X10_goOn ml_X10_154 im_X10_goOn se_X10_goOn h12515 rfl rfl (rest := []) rfl (Nat.le_of_ble_eq_true rfl) ⟨Nat.le_of_ble_eq_true rfl, Nat.le_of_ble_eq_true rfl⟩ ⟨Nat.le_of_ble_eq_true rfl, Nat.le_of_ble_eq_true rfl⟩ (fun r σ12530 hp => ?_)
    obtain ⟨h12531, hp⟩ := hp
    have h12532 := HS.trans h12515 h12531 (by decide)
    have ga12533 := ga12516.of (h12531.2 (c + 1) (by rw [kC_at (k := 1) (by decide)]; decide))
    have ga12534 := ga12517.of (h12531.2 (c + 2) (by rw [kC_at (k := 2) (by decide)]; decide))
    have ga12535 := ga12518.of (h12531.2 (c + 3) (by rw [kC_at (k := 3) (by decide)]; decide))
    have ga12536 := ga12519.of (h12531.2 (c + 7) (by rw [kC_at (k := 7) (by decide)]; decide))
    have ga12537 := ga12520.of (h12531.2 (c + 8) (by rw [kC_at (k := 8) (by decide)]; decide))
    have ga12538 := ga12521.of (h12531.2 (c + 9) (by rw [kC_at (k := 9) (by decide)]; decide))
    have ga12539 := ga12522.of (h12531.2 (c + 11) (by rw [kC_at (k := 11) (by decide)]; decide))
    obtain ⟨rfl, rfl⟩ := hp
    refine m_aload_n F rfl e_X10_readSeed_17 ?_
    refine m_iconst F (v := 4) (by decide) e_X10_readSeed_18 ?_
    refine m_aload_n F rfl e_X10_readSeed_19 ?_
    refine m_iconst F (v := 0) (by decide) e_X10_readSeed_20 ?_
    refine m_ldc F kc_X10_177 e_X10_readSeed_21 ?_
    refine r_callV F e_X10_readSeed_23 (q_X10_numeralG (x_l X) V c T 0 u h P L _ _ 0 99999 3 h12532.1 (hob) hP (by omega) (by omega) (yd12528) (by decide)) cb_X10_numeral ml_X10_165 im_X10_numeral se_X10_numeral h12532 rfl rfl (rest := [.int 4, .ref c]) rfl (Nat.le_of_ble_eq_true rfl) ⟨Nat.le_of_ble_eq_true rfl, Nat.le_of_ble_eq_true rfl⟩ ⟨Nat.le_of_ble_eq_true rfl, Nat.le_of_ble_eq_true rfl⟩ (fun r σ12540 hp => ?_)
    obtain ⟨h12541, hp⟩ := hp
    have h12542 := HS.trans h12532 h12541 (by decide)
    have ga12543 := ga12516.of (h12541.2 (c + 1) (by rw [kC_at (k := 1) (by decide)]; decide))
    have ga12544 := ga12517.of (h12541.2 (c + 2) (by rw [kC_at (k := 2) (by decide)]; decide))
    have ga12545 := ga12518.of (h12541.2 (c + 3) (by rw [kC_at (k := 3) (by decide)]; decide))
    have ga12546 := ga12519.of (h12541.2 (c + 7) (by rw [kC_at (k := 7) (by decide)]; decide))
    have ga12547 := ga12520.of (h12541.2 (c + 8) (by rw [kC_at (k := 8) (by decide)]; decide))
    have ga12548 := ga12521.of (h12541.2 (c + 9) (by rw [kC_at (k := 9) (by decide)]; decide))
    have ga12549 := ga12522.of (h12541.2 (c + 11) (by rw [kC_at (k := 11) (by decide)]; decide))
    obtain ⟨rfl, rfl⟩ := hp
    refine m_iconst F (v := 1) (by decide) e_X10_readSeed_26 ?_
    refine m_iadd F e_X10_readSeed_27 ?_
    refine Wm.topE (w := nI (0 + 1)) (nI_add 0 1) ?_
    refine r_callV F e_X10_readSeed_28 (q_X10_reads4 (x_l X) V c T 0 u h P L _ _ (nI (0 + 1)) h12542.1 (hob) hP ) cb_X10_reads ml_X10_170 im_X10_reads se_X10_reads h12542 rfl rfl (rest := []) rfl (Nat.le_of_ble_eq_true rfl) ⟨Nat.le_of_ble_eq_true rfl, Nat.le_of_ble_eq_true rfl⟩ ⟨Nat.le_of_ble_eq_true rfl, Nat.le_of_ble_eq_true rfl⟩ (fun r σ12550 hp => ?_)
    obtain ⟨h12551, rfl⟩ := hp
    have h12552 := HS.trans h12542 h12551 (by decide)
    have ga12553 := ga12516.of (h12551.2 (c + 1) (by rw [kC_at (k := 1) (by decide)]; decide))
    have ga12554 := ga12518.of (h12551.2 (c + 3) (by rw [kC_at (k := 3) (by decide)]; decide))
    have ga12555 := ga12519.of (h12551.2 (c + 7) (by rw [kC_at (k := 7) (by decide)]; decide))
    have ga12556 := ga12520.of (h12551.2 (c + 8) (by rw [kC_at (k := 8) (by decide)]; decide))
    have ga12557 := ga12521.of (h12551.2 (c + 9) (by rw [kC_at (k := 9) (by decide)]; decide))
    have ga12558 := ga12522.of (h12551.2 (c + 11) (by rw [kC_at (k := 11) (by decide)]; decide))
    have h12559 : HS V c _ [0, 2, 4, 5, 6, 7, 8, 9, 10, 11, 12, 13, 14, 15, 16, 17, 18, 19, 20, 21, 22, 23] _ _ := ⟨HR.mono (Z' := Z) (by intro e; first | rfl | assumption | omega) h12552.1, h12552.2⟩
    exact m_vret F hQ e_X10_readSeed_31 (⟨P, hP, (by unfold RP; omega), (by unfold seedS; dsimp only; rw [if_neg (by omega)]; exact RM.l ((fld_eq (h12551.2 c (by rw [show kC c c = 1 from kC_at (k := 0) (by decide)]; decide))).trans yd12528) ((fld_eq (h12551.2 c (by rw [show kC c c = 1 from kC_at (k := 0) (by decide)]; decide))).trans yd12529) (by decide) (by decide) (by omega)), h12559, rfl⟩)
