set_option maxRecDepth 20000 in
theorem lc_14 {V : VX} {X : MX} {nm : String} {b sb N sa : Nat} {xs : Nat → Int32} {σ : Mem} (F : Fx V X (yLw nm) cL_law 7 ret room_1) (hQ : QW X) (hH : V.2.2 = (x_s X).heap) (hX : va_X sb 6 xs (x_s X) V.2.2) (hb : sb < V.2.2.size) (hl : (x_l X).stackTraces = false) (hT : TW V sa (x_s X)) (hZ : LLz V σ b) (hM : MZ V σ (b + 1457)) : Wm V X 7 N σ 1481 70582 756 [(4, .int 0), (3, .ref (b + 1480)), (2, .ref (b + 1457)), (1, .ref b), (0, .ref sb)] [] := by
  refine m_aload_n F rfl e_L_law_756 ?_
  refine m_aload_n F rfl e_L_law_757 ?_
  refine m_iload F rfl e_L_law_758 ?_
  refine m_iconst F (v := 1) (by decide) e_L_law_760 ?_
  refine m_iadd F e_L_law_761 ?_
  refine Wm.topE (w := 1) (by decide) ?_
  refine m_sld F (j := 1) e_L_law_762 hX hb (by decide) (by unfold vp_in; decide) ?_
  refine m_callV F e_L_law_763 (ldg_take (x_l X) V _ _ b (xs 1) hZ) cb_X9_take ml_L_88 im_X9_take se_X9_take hZ.1 rfl rfl (rest := []) rfl (Nat.le_of_ble_eq_true rfl) ⟨Nat.le_of_ble_eq_true rfl, Nat.le_of_ble_eq_true rfl⟩ ⟨Nat.le_of_ble_eq_true rfl, Nat.le_of_ble_eq_true rfl⟩ (k' := 1481) (z' := 70582) (N' := N) rfl rfl rfl (fun r τ1 hp => ?_)
  obtain ⟨rfl, hfr⟩ := hp
  replace hM : MZ V τ1 (b + 1457) := hM.keep (fun x g1 _ => hfr x g1)
  refine m_aload_n F rfl e_L_law_766 ?_
  refine m_aload_n F rfl e_L_law_767 ?_
  refine m_iload F rfl e_L_law_768 ?_
  refine m_iconst F (v := 1) (by decide) e_L_law_770 ?_
  refine m_iadd F e_L_law_771 ?_
  refine Wm.topE (w := 1) (by decide) ?_
  refine m_sld F (j := 1) e_L_law_772 hX hb (by decide) (by unfold vp_in; decide) ?_
  refine m_callV F e_L_law_773 (n_take (x_l X) V _ _ (b + 1457) (xs 1) hM) cb_X10_take ml_L_91 im_X10_take se_X10_take hM.1 rfl rfl (rest := [.long NOA]) rfl (Nat.le_of_ble_eq_true rfl) ⟨Nat.le_of_ble_eq_true rfl, Nat.le_of_ble_eq_true rfl⟩ ⟨Nat.le_of_ble_eq_true rfl, Nat.le_of_ble_eq_true rfl⟩ (k' := 1481) (z' := 70582) (N' := N) rfl rfl rfl (fun r τ2 hp => ?_)
  subst hp
  refine m_lcmp F e_L_law_776 ?_
  refine m_if_eq F e_L_law_777 (fun _ => ?_) (fun q => absurd ((lg_cmp_eq _ _).mpr rfl) q)
  exact m_lbreak F hQ hH hX hb (Nat.le_of_ble_eq_true rfl) (Nat.le_of_ble_eq_true rfl)
set_option maxRecDepth 20000 in
theorem lc_15 {V : VX} {X : MX} {nm : String} {b sb N sa : Nat} {xs : Nat → Int32} {σ : Mem} (F : Fx V X (yLw nm) cL_law 7 ret room_1) (hQ : QW X) (hH : V.2.2 = (x_s X).heap) (hX : va_X sb 6 xs (x_s X) V.2.2) (hb : sb < V.2.2.size) (hl : (x_l X).stackTraces = false) (hT : TW V sa (x_s X)) (hZ : LLz V σ b) (hM : MZ V σ (b + 1457)) : Wm V X 7 N σ 1481 70582 782 [(4, .int 0), (3, .ref (b + 1480)), (2, .ref (b + 1457)), (1, .ref b), (0, .ref sb)] [] := by
  refine m_aload_n F rfl e_L_law_782 ?_
  refine m_aload_n F rfl e_L_law_783 ?_
  refine m_iload F rfl e_L_law_784 ?_
  refine m_iconst F (v := 1) (by decide) e_L_law_786 ?_
  refine m_iadd F e_L_law_787 ?_
  refine Wm.topE (w := 1) (by decide) ?_
  refine m_sld F (j := 1) e_L_law_788 hX hb (by decide) (by unfold vp_in; decide) ?_
  refine m_aload_n F rfl e_L_law_789 ?_
  refine m_iload F rfl e_L_law_790 ?_
  refine m_iconst F (v := 2) (by decide) e_L_law_792 ?_
  refine m_iadd F e_L_law_793 ?_
  refine Wm.topE (w := 2) (by decide) ?_
  refine m_sld F (j := 2) e_L_law_794 hX hb (by decide) (by unfold vp_in; decide) ?_
  refine m_callV F e_L_law_795 (ldg_part (x_l X) V _ _ b (xs 1) (xs 2) hZ) cb_X9_part ml_L_92 im_X9_part se_X9_part hZ.1 rfl rfl (rest := []) rfl (Nat.le_of_ble_eq_true rfl) ⟨Nat.le_of_ble_eq_true rfl, Nat.le_of_ble_eq_true rfl⟩ ⟨Nat.le_of_ble_eq_true rfl, Nat.le_of_ble_eq_true rfl⟩ (k' := 1481) (z' := 70582) (N' := N) rfl rfl rfl (fun r τ1 hp => ?_)
  obtain ⟨rfl, hfr⟩ := hp
  replace hM : MZ V τ1 (b + 1457) := hM.keep (fun x g1 _ => hfr x g1)
  refine m_aload_n F rfl e_L_law_798 ?_
  refine m_aload_n F rfl e_L_law_799 ?_
  refine m_iload F rfl e_L_law_800 ?_
  refine m_iconst F (v := 1) (by decide) e_L_law_802 ?_
  refine m_iadd F e_L_law_803 ?_
  refine Wm.topE (w := 1) (by decide) ?_
  refine m_sld F (j := 1) e_L_law_804 hX hb (by decide) (by unfold vp_in; decide) ?_
  refine m_aload_n F rfl e_L_law_805 ?_
  refine m_iload F rfl e_L_law_806 ?_
  refine m_iconst F (v := 2) (by decide) e_L_law_808 ?_
  refine m_iadd F e_L_law_809 ?_
  refine Wm.topE (w := 2) (by decide) ?_
  refine m_sld F (j := 2) e_L_law_810 hX hb (by decide) (by unfold vp_in; decide) ?_
  refine m_callV F e_L_law_811 (n_part (x_l X) V _ _ (b + 1457) (xs 1) (xs 2) hM) cb_X10_part ml_L_95 im_X10_part se_X10_part hM.1 rfl rfl (rest := [.long NOA]) rfl (Nat.le_of_ble_eq_true rfl) ⟨Nat.le_of_ble_eq_true rfl, Nat.le_of_ble_eq_true rfl⟩ ⟨Nat.le_of_ble_eq_true rfl, Nat.le_of_ble_eq_true rfl⟩ (k' := 1481) (z' := 70582) (N' := N) rfl rfl rfl (fun r τ2 hp => ?_)
  subst hp
  refine m_lcmp F e_L_law_814 ?_
  refine m_if_eq F e_L_law_815 (fun _ => ?_) (fun q => absurd ((lg_cmp_eq _ _).mpr rfl) q)
  exact m_lbreak F hQ hH hX hb (Nat.le_of_ble_eq_true rfl) (Nat.le_of_ble_eq_true rfl)
set_option maxRecDepth 20000 in
theorem lc_16 {V : VX} {X : MX} {nm : String} {b sb N sa : Nat} {xs : Nat → Int32} {σ : Mem} (F : Fx V X (yLw nm) cL_law 7 ret room_1) (hQ : QW X) (hH : V.2.2 = (x_s X).heap) (hX : va_X sb 6 xs (x_s X) V.2.2) (hb : sb < V.2.2.size) (hl : (x_l X).stackTraces = false) (hT : TW V sa (x_s X)) (hZ : LLz V σ b) (hM : MZ V σ (b + 1457)) : Wm V X 7 N σ 1481 70582 820 [(4, .int 0), (3, .ref (b + 1480)), (2, .ref (b + 1457)), (1, .ref b), (0, .ref sb)] [] := by
  refine m_aload_n F rfl e_L_law_820 ?_
  refine m_aload_n F rfl e_L_law_821 ?_
  refine m_iload F rfl e_L_law_822 ?_
  refine m_iconst F (v := 1) (by decide) e_L_law_824 ?_
  refine m_iadd F e_L_law_825 ?_
  refine Wm.topE (w := 1) (by decide) ?_
  refine m_sld F (j := 1) e_L_law_826 hX hb (by decide) (by unfold vp_in; decide) ?_
  refine m_callV F e_L_law_827 (ldg_end (x_l X) V _ _ b (xs 1) hZ) cb_X9_end ml_L_96 im_X9_end se_X9_end hZ.1 rfl rfl (rest := []) rfl (Nat.le_of_ble_eq_true rfl) ⟨Nat.le_of_ble_eq_true rfl, Nat.le_of_ble_eq_true rfl⟩ ⟨Nat.le_of_ble_eq_true rfl, Nat.le_of_ble_eq_true rfl⟩ (k' := 1481) (z' := 70582) (N' := N) rfl rfl rfl (fun r τ1 hp => ?_)
  obtain ⟨rfl, hfr⟩ := hp
  replace hM : MZ V τ1 (b + 1457) := hM.keep (fun x g1 _ => hfr x g1)
  refine m_aload_n F rfl e_L_law_830 ?_
  refine m_aload_n F rfl e_L_law_831 ?_
  refine m_iload F rfl e_L_law_832 ?_
  refine m_iconst F (v := 1) (by decide) e_L_law_834 ?_
  refine m_iadd F e_L_law_835 ?_
  refine Wm.topE (w := 1) (by decide) ?_
  refine m_sld F (j := 1) e_L_law_836 hX hb (by decide) (by unfold vp_in; decide) ?_
  refine m_callV F e_L_law_837 (n_end (x_l X) V _ _ (b + 1457) (xs 1) hM) cb_X10_end ml_L_99 im_X10_end se_X10_end hM.1 rfl rfl (rest := [.long NOA]) rfl (Nat.le_of_ble_eq_true rfl) ⟨Nat.le_of_ble_eq_true rfl, Nat.le_of_ble_eq_true rfl⟩ ⟨Nat.le_of_ble_eq_true rfl, Nat.le_of_ble_eq_true rfl⟩ (k' := 1481) (z' := 70582) (N' := N) rfl rfl rfl (fun r τ2 hp => ?_)
  subst hp
  refine m_lcmp F e_L_law_840 ?_
  refine m_if_eq F e_L_law_841 (fun _ => ?_) (fun q => absurd ((lg_cmp_eq _ _).mpr rfl) q)
  exact m_lbreak F hQ hH hX hb (Nat.le_of_ble_eq_true rfl) (Nat.le_of_ble_eq_true rfl)
set_option maxRecDepth 20000 in
theorem lc_17 {V : VX} {X : MX} {nm : String} {b sb N sa : Nat} {xs : Nat → Int32} {σ : Mem} (F : Fx V X (yLw nm) cL_law 7 ret room_1) (hQ : QW X) (hH : V.2.2 = (x_s X).heap) (hX : va_X sb 6 xs (x_s X) V.2.2) (hb : sb < V.2.2.size) (hl : (x_l X).stackTraces = false) (hT : TW V sa (x_s X)) (hZ : LLz V σ b) (hM : MZ V σ (b + 1457)) : Wm V X 7 N σ 1481 70582 846 [(4, .int 0), (3, .ref (b + 1480)), (2, .ref (b + 1457)), (1, .ref b), (0, .ref sb)] [] := by
  refine m_aload_n F rfl e_L_law_846 ?_
  refine m_aload_n F rfl e_L_law_847 ?_
  refine m_iload F rfl e_L_law_848 ?_
  refine m_iconst F (v := 1) (by decide) e_L_law_850 ?_
  refine m_iadd F e_L_law_851 ?_
  refine Wm.topE (w := 1) (by decide) ?_
  refine m_sld F (j := 1) e_L_law_852 hX hb (by decide) (by unfold vp_in; decide) ?_
  refine m_aload_n F rfl e_L_law_853 ?_
  refine m_iload F rfl e_L_law_854 ?_
  refine m_iconst F (v := 2) (by decide) e_L_law_856 ?_
  refine m_iadd F e_L_law_857 ?_
  refine Wm.topE (w := 2) (by decide) ?_
  refine m_sld F (j := 2) e_L_law_858 hX hb (by decide) (by unfold vp_in; decide) ?_
  refine m_i2l F e_L_law_859 ?_
  refine m_bipush F (v := 32) (by decide) e_L_law_860 ?_
  refine m_lshl F e_L_law_862 ?_
  refine m_aload_n F rfl e_L_law_863 ?_
  refine m_iload F rfl e_L_law_864 ?_
  refine m_iconst F (v := 3) (by decide) e_L_law_866 ?_
  refine m_iadd F e_L_law_867 ?_
  refine Wm.topE (w := 3) (by decide) ?_
  refine m_sld F (j := 3) e_L_law_868 hX hb (by decide) (by unfold vp_in; decide) ?_
  refine m_i2l F e_L_law_869 ?_
  refine m_ldc2 F kc_L_100 e_L_law_870 ?_
  refine m_land F e_L_law_873 ?_
  refine m_lor F e_L_law_874 ?_
  refine m_callV F e_L_law_875 (ldg_down (x_l X) V _ _ b (xs 1) ((((xs 2)).toInt64 <<< ((32 : Int32).toInt64 &&& 63)) ||| (((xs 3)).toInt64 &&& 4294967295)) hZ) cb_X9_down ml_L_102 im_X9_down se_X9_down hZ.1 rfl rfl (rest := []) rfl (Nat.le_of_ble_eq_true rfl) ⟨Nat.le_of_ble_eq_true rfl, Nat.le_of_ble_eq_true rfl⟩ ⟨Nat.le_of_ble_eq_true rfl, Nat.le_of_ble_eq_true rfl⟩ (k' := 1481) (z' := 70582) (N' := N) rfl rfl rfl (fun r τ1 hp => ?_)
  obtain ⟨rfl, hfr⟩ := hp
  replace hM : MZ V τ1 (b + 1457) := hM.keep (fun x g1 _ => hfr x g1)
  refine m_aload_n F rfl e_L_law_878 ?_
  refine m_aload_n F rfl e_L_law_879 ?_
  refine m_iload F rfl e_L_law_880 ?_
  refine m_iconst F (v := 1) (by decide) e_L_law_882 ?_
  refine m_iadd F e_L_law_883 ?_
  refine Wm.topE (w := 1) (by decide) ?_
  refine m_sld F (j := 1) e_L_law_884 hX hb (by decide) (by unfold vp_in; decide) ?_
  refine m_aload_n F rfl e_L_law_885 ?_
  refine m_iload F rfl e_L_law_886 ?_
  refine m_iconst F (v := 2) (by decide) e_L_law_888 ?_
  refine m_iadd F e_L_law_889 ?_
  refine Wm.topE (w := 2) (by decide) ?_
  refine m_sld F (j := 2) e_L_law_890 hX hb (by decide) (by unfold vp_in; decide) ?_
  refine m_i2l F e_L_law_891 ?_
  refine m_bipush F (v := 32) (by decide) e_L_law_892 ?_
  refine m_lshl F e_L_law_894 ?_
  refine m_aload_n F rfl e_L_law_895 ?_
  refine m_iload F rfl e_L_law_896 ?_
  refine m_iconst F (v := 3) (by decide) e_L_law_898 ?_
  refine m_iadd F e_L_law_899 ?_
  refine Wm.topE (w := 3) (by decide) ?_
  refine m_sld F (j := 3) e_L_law_900 hX hb (by decide) (by unfold vp_in; decide) ?_
  refine m_i2l F e_L_law_901 ?_
  refine m_ldc2 F kc_L_100 e_L_law_902 ?_
  refine m_land F e_L_law_905 ?_
  refine m_lor F e_L_law_906 ?_
  refine m_callV F e_L_law_907 (n_down (x_l X) V _ _ (b + 1457) (xs 1) ((((xs 2)).toInt64 <<< ((32 : Int32).toInt64 &&& 63)) ||| (((xs 3)).toInt64 &&& 4294967295)) hM) cb_X10_down ml_L_106 im_X10_down se_X10_down hM.1 rfl rfl (rest := [.long NOA]) rfl (Nat.le_of_ble_eq_true rfl) ⟨Nat.le_of_ble_eq_true rfl, Nat.le_of_ble_eq_true rfl⟩ ⟨Nat.le_of_ble_eq_true rfl, Nat.le_of_ble_eq_true rfl⟩ (k' := 1481) (z' := 70582) (N' := N) rfl rfl rfl (fun r τ2 hp => ?_)
  subst hp
  refine m_lcmp F e_L_law_910 ?_
  refine m_if_eq F e_L_law_911 (fun _ => ?_) (fun q => absurd ((lg_cmp_eq _ _).mpr rfl) q)
  exact m_lbreak F hQ hH hX hb (Nat.le_of_ble_eq_true rfl) (Nat.le_of_ble_eq_true rfl)
set_option maxRecDepth 20000 in
theorem lc_18 {V : VX} {X : MX} {nm : String} {b sb N sa : Nat} {xs : Nat → Int32} {σ : Mem} (F : Fx V X (yLw nm) cL_law 7 ret room_1) (hQ : QW X) (hH : V.2.2 = (x_s X).heap) (hX : va_X sb 6 xs (x_s X) V.2.2) (hb : sb < V.2.2.size) (hl : (x_l X).stackTraces = false) (hT : TW V sa (x_s X)) (hZ : LLz V σ b) (hM : MZ V σ (b + 1457)) : Wm V X 7 N σ 1481 70582 916 [(4, .int 0), (3, .ref (b + 1480)), (2, .ref (b + 1457)), (1, .ref b), (0, .ref sb)] [] := by
  refine m_aload_n F rfl e_L_law_916 ?_
  refine m_aload_n F rfl e_L_law_917 ?_
  refine m_iload F rfl e_L_law_918 ?_
  refine m_iconst F (v := 1) (by decide) e_L_law_920 ?_
  refine m_iadd F e_L_law_921 ?_
  refine Wm.topE (w := 1) (by decide) ?_
  refine m_sld F (j := 1) e_L_law_922 hX hb (by decide) (by unfold vp_in; decide) ?_
  refine m_aload_n F rfl e_L_law_923 ?_
  refine m_iload F rfl e_L_law_924 ?_
  refine m_iconst F (v := 2) (by decide) e_L_law_926 ?_
  refine m_iadd F e_L_law_927 ?_
  refine Wm.topE (w := 2) (by decide) ?_
  refine m_sld F (j := 2) e_L_law_928 hX hb (by decide) (by unfold vp_in; decide) ?_
  refine m_aload_n F rfl e_L_law_929 ?_
  refine m_iload F rfl e_L_law_930 ?_
  refine m_iconst F (v := 3) (by decide) e_L_law_932 ?_
  refine m_iadd F e_L_law_933 ?_
  refine Wm.topE (w := 3) (by decide) ?_
  refine m_sld F (j := 3) e_L_law_934 hX hb (by decide) (by unfold vp_in; decide) ?_
  refine m_callV F e_L_law_935 (ldg_putOff (x_l X) V _ _ b (xs 1) (xs 2) (xs 3) hZ) cb_X9_putOff ml_L_107 im_X9_putOff se_X9_putOff hZ.1 rfl rfl (rest := []) rfl (Nat.le_of_ble_eq_true rfl) ⟨Nat.le_of_ble_eq_true rfl, Nat.le_of_ble_eq_true rfl⟩ ⟨Nat.le_of_ble_eq_true rfl, Nat.le_of_ble_eq_true rfl⟩ (k' := 1481) (z' := 70582) (N' := N) rfl rfl rfl (fun r τ1 hp => ?_)
  obtain ⟨rfl, hfr⟩ := hp
  replace hM : MZ V τ1 (b + 1457) := hM.keep (fun x g1 _ => hfr x g1)
  refine m_aload_n F rfl e_L_law_938 ?_
  refine m_aload_n F rfl e_L_law_939 ?_
  refine m_iload F rfl e_L_law_940 ?_
  refine m_iconst F (v := 1) (by decide) e_L_law_942 ?_
  refine m_iadd F e_L_law_943 ?_
  refine Wm.topE (w := 1) (by decide) ?_
  refine m_sld F (j := 1) e_L_law_944 hX hb (by decide) (by unfold vp_in; decide) ?_
  refine m_aload_n F rfl e_L_law_945 ?_
  refine m_iload F rfl e_L_law_946 ?_
  refine m_iconst F (v := 2) (by decide) e_L_law_948 ?_
  refine m_iadd F e_L_law_949 ?_
  refine Wm.topE (w := 2) (by decide) ?_
  refine m_sld F (j := 2) e_L_law_950 hX hb (by decide) (by unfold vp_in; decide) ?_
  refine m_aload_n F rfl e_L_law_951 ?_
  refine m_iload F rfl e_L_law_952 ?_
  refine m_iconst F (v := 3) (by decide) e_L_law_954 ?_
  refine m_iadd F e_L_law_955 ?_
  refine Wm.topE (w := 3) (by decide) ?_
  refine m_sld F (j := 3) e_L_law_956 hX hb (by decide) (by unfold vp_in; decide) ?_
  refine m_callV F e_L_law_957 (n_putOff (x_l X) V _ _ (b + 1457) (xs 1) (xs 2) (xs 3) hM) cb_X10_putOff ml_L_110 im_X10_putOff se_X10_putOff hM.1 rfl rfl (rest := [.long NOA]) rfl (Nat.le_of_ble_eq_true rfl) ⟨Nat.le_of_ble_eq_true rfl, Nat.le_of_ble_eq_true rfl⟩ ⟨Nat.le_of_ble_eq_true rfl, Nat.le_of_ble_eq_true rfl⟩ (k' := 1481) (z' := 70582) (N' := N) rfl rfl rfl (fun r τ2 hp => ?_)
  subst hp
  refine m_lcmp F e_L_law_960 ?_
  refine m_if_eq F e_L_law_961 (fun _ => ?_) (fun q => absurd ((lg_cmp_eq _ _).mpr rfl) q)
  exact m_lbreak F hQ hH hX hb (Nat.le_of_ble_eq_true rfl) (Nat.le_of_ble_eq_true rfl)
set_option maxRecDepth 20000 in
theorem lc_19 {V : VX} {X : MX} {nm : String} {b sb N sa : Nat} {xs : Nat → Int32} {σ : Mem} (F : Fx V X (yLw nm) cL_law 7 ret room_1) (hQ : QW X) (hH : V.2.2 = (x_s X).heap) (hX : va_X sb 6 xs (x_s X) V.2.2) (hb : sb < V.2.2.size) (hl : (x_l X).stackTraces = false) (hT : TW V sa (x_s X)) (hZ : LLz V σ b) (hM : MZ V σ (b + 1457)) : Wm V X 7 N σ 1481 70582 966 [(4, .int 0), (3, .ref (b + 1480)), (2, .ref (b + 1457)), (1, .ref b), (0, .ref sb)] [] := by
  refine m_aload_n F rfl e_L_law_966 ?_
  refine m_aload_n F rfl e_L_law_967 ?_
  refine m_iload F rfl e_L_law_968 ?_
  refine m_iconst F (v := 1) (by decide) e_L_law_970 ?_
  refine m_iadd F e_L_law_971 ?_
  refine Wm.topE (w := 1) (by decide) ?_
  refine m_sld F (j := 1) e_L_law_972 hX hb (by decide) (by unfold vp_in; decide) ?_
  refine m_callV F e_L_law_973 (ldg_become (x_l X) V _ _ b (xs 1) hZ) cb_X9_become ml_L_111 im_X9_become se_X9_become hZ.1 rfl rfl (rest := []) rfl (Nat.le_of_ble_eq_true rfl) ⟨Nat.le_of_ble_eq_true rfl, Nat.le_of_ble_eq_true rfl⟩ ⟨Nat.le_of_ble_eq_true rfl, Nat.le_of_ble_eq_true rfl⟩ (k' := 1481) (z' := 70582) (N' := N) rfl rfl rfl (fun r τ1 hp => ?_)
  obtain ⟨rfl, hfr⟩ := hp
  replace hM : MZ V τ1 (b + 1457) := hM.keep (fun x g1 _ => hfr x g1)
  refine m_aload_n F rfl e_L_law_976 ?_
  refine m_aload_n F rfl e_L_law_977 ?_
  refine m_iload F rfl e_L_law_978 ?_
  refine m_iconst F (v := 1) (by decide) e_L_law_980 ?_
  refine m_iadd F e_L_law_981 ?_
  refine Wm.topE (w := 1) (by decide) ?_
  refine m_sld F (j := 1) e_L_law_982 hX hb (by decide) (by unfold vp_in; decide) ?_
  refine m_callV F e_L_law_983 (n_become (x_l X) V _ _ (b + 1457) (xs 1) hM) cb_X10_become ml_L_114 im_X10_become se_X10_become hM.1 rfl rfl (rest := [.int (if (xs 1) < 500 ∨ 2000 < (xs 1) then -1 else 1000)]) rfl (Nat.le_of_ble_eq_true rfl) ⟨Nat.le_of_ble_eq_true rfl, Nat.le_of_ble_eq_true rfl⟩ ⟨Nat.le_of_ble_eq_true rfl, Nat.le_of_ble_eq_true rfl⟩ (k' := 1481) (z' := 70582) (N' := N) rfl rfl rfl (fun r τ2 hp => ?_)
  subst hp
  refine m_icmp_eq F e_L_law_986 (fun _ => ?_) (fun q => absurd rfl q)
  exact m_lbreak F hQ hH hX hb (Nat.le_of_ble_eq_true rfl) (Nat.le_of_ble_eq_true rfl)
set_option maxRecDepth 20000 in
theorem lc_20 {V : VX} {X : MX} {nm : String} {b sb N sa : Nat} {xs : Nat → Int32} {σ : Mem} (F : Fx V X (yLw nm) cL_law 7 ret room_1) (hQ : QW X) (hH : V.2.2 = (x_s X).heap) (hX : va_X sb 6 xs (x_s X) V.2.2) (hb : sb < V.2.2.size) (hl : (x_l X).stackTraces = false) (hT : TW V sa (x_s X)) (hZ : LLz V σ b) (hM : MZ V σ (b + 1457)) : Wm V X 7 N σ 1481 70582 991 [(4, .int 0), (3, .ref (b + 1480)), (2, .ref (b + 1457)), (1, .ref b), (0, .ref sb)] [] := by
  refine m_aload_n F rfl e_L_law_991 ?_
  refine m_aload_n F rfl e_L_law_992 ?_
  refine m_iload F rfl e_L_law_993 ?_
  refine m_iconst F (v := 1) (by decide) e_L_law_995 ?_
  refine m_iadd F e_L_law_996 ?_
  refine Wm.topE (w := 1) (by decide) ?_
  refine m_sld F (j := 1) e_L_law_997 hX hb (by decide) (by unfold vp_in; decide) ?_
  refine m_aload_n F rfl e_L_law_998 ?_
  refine m_iload F rfl e_L_law_999 ?_
  refine m_iconst F (v := 2) (by decide) e_L_law_1001 ?_
  refine m_iadd F e_L_law_1002 ?_
  refine Wm.topE (w := 2) (by decide) ?_
  refine m_sld F (j := 2) e_L_law_1003 hX hb (by decide) (by unfold vp_in; decide) ?_
  refine m_aload_n F rfl e_L_law_1004 ?_
  refine m_iload F rfl e_L_law_1005 ?_
  refine m_iconst F (v := 3) (by decide) e_L_law_1007 ?_
  refine m_iadd F e_L_law_1008 ?_
  refine Wm.topE (w := 3) (by decide) ?_
  refine m_sld F (j := 3) e_L_law_1009 hX hb (by decide) (by unfold vp_in; decide) ?_
  refine m_callV F e_L_law_1010 (ldg_plan (x_l X) V _ _ b (xs 1) (xs 2) (xs 3) hZ) cb_X9_plan ml_L_115 im_X9_plan se_X9_plan hZ.1 rfl rfl (rest := []) rfl (Nat.le_of_ble_eq_true rfl) ⟨Nat.le_of_ble_eq_true rfl, Nat.le_of_ble_eq_true rfl⟩ ⟨Nat.le_of_ble_eq_true rfl, Nat.le_of_ble_eq_true rfl⟩ (k' := 1481) (z' := 70582) (N' := N) rfl rfl rfl (fun r τ1 hp => ?_)
  obtain ⟨rfl, hfr⟩ := hp
  replace hM : MZ V τ1 (b + 1457) := hM.keep (fun x g1 _ => hfr x g1)
  refine m_aload_n F rfl e_L_law_1013 ?_
  refine m_aload_n F rfl e_L_law_1014 ?_
  refine m_iload F rfl e_L_law_1015 ?_
  refine m_iconst F (v := 1) (by decide) e_L_law_1017 ?_
  refine m_iadd F e_L_law_1018 ?_
  refine Wm.topE (w := 1) (by decide) ?_
  refine m_sld F (j := 1) e_L_law_1019 hX hb (by decide) (by unfold vp_in; decide) ?_
  refine m_aload_n F rfl e_L_law_1020 ?_
  refine m_iload F rfl e_L_law_1021 ?_
  refine m_iconst F (v := 2) (by decide) e_L_law_1023 ?_
  refine m_iadd F e_L_law_1024 ?_
  refine Wm.topE (w := 2) (by decide) ?_
  refine m_sld F (j := 2) e_L_law_1025 hX hb (by decide) (by unfold vp_in; decide) ?_
  refine m_aload_n F rfl e_L_law_1026 ?_
  refine m_iload F rfl e_L_law_1027 ?_
  refine m_iconst F (v := 3) (by decide) e_L_law_1029 ?_
  refine m_iadd F e_L_law_1030 ?_
  refine Wm.topE (w := 3) (by decide) ?_
  refine m_sld F (j := 3) e_L_law_1031 hX hb (by decide) (by unfold vp_in; decide) ?_
  refine m_callV F e_L_law_1032 (n_plan (x_l X) V _ _ (b + 1457) (xs 1) (xs 2) (xs 3) hM) cb_X10_plan ml_L_118 im_X10_plan se_X10_plan hM.1 rfl rfl (rest := [.long (-1)]) rfl (Nat.le_of_ble_eq_true rfl) ⟨Nat.le_of_ble_eq_true rfl, Nat.le_of_ble_eq_true rfl⟩ ⟨Nat.le_of_ble_eq_true rfl, Nat.le_of_ble_eq_true rfl⟩ (k' := 1481) (z' := 70582) (N' := N) rfl rfl rfl (fun r τ2 hp => ?_)
  subst hp
  refine m_lcmp F e_L_law_1035 ?_
  refine Wm.topE (w := 0) (by decide) ?_
  refine m_if_eq F e_L_law_1036 (fun _ => ?_) (fun q => absurd (by decide) q)
  exact m_lbreak F hQ hH hX hb (Nat.le_of_ble_eq_true rfl) (Nat.le_of_ble_eq_true rfl)
set_option maxRecDepth 20000 in
theorem lc_21 {V : VX} {X : MX} {nm : String} {b sb N sa : Nat} {xs : Nat → Int32} {σ : Mem} (F : Fx V X (yLw nm) cL_law 7 ret room_1) (hQ : QW X) (hH : V.2.2 = (x_s X).heap) (hX : va_X sb 6 xs (x_s X) V.2.2) (hb : sb < V.2.2.size) (hl : (x_l X).stackTraces = false) (hT : TW V sa (x_s X)) (hZ : LLz V σ b) (hM : MZ V σ (b + 1457)) : Wm V X 7 N σ 1481 70582 1041 [(4, .int 0), (3, .ref (b + 1480)), (2, .ref (b + 1457)), (1, .ref b), (0, .ref sb)] [] := by
  refine m_aload_n F rfl e_L_law_1041 ?_
  refine m_aload_n F rfl e_L_law_1042 ?_
  refine m_iload F rfl e_L_law_1043 ?_
  refine m_iconst F (v := 1) (by decide) e_L_law_1045 ?_
  refine m_iadd F e_L_law_1046 ?_
  refine Wm.topE (w := 1) (by decide) ?_
  refine m_sld F (j := 1) e_L_law_1047 hX hb (by decide) (by unfold vp_in; decide) ?_
  refine m_callV F e_L_law_1048 (ldg_all (x_l X) V _ _ b (xs 1) hZ) cb_X9_all ml_L_119 im_X9_all se_X9_all hZ.1 rfl rfl (rest := []) rfl (Nat.le_of_ble_eq_true rfl) ⟨Nat.le_of_ble_eq_true rfl, Nat.le_of_ble_eq_true rfl⟩ ⟨Nat.le_of_ble_eq_true rfl, Nat.le_of_ble_eq_true rfl⟩ (k' := 1481) (z' := 70582) (N' := N) rfl rfl rfl (fun r τ1 hp => ?_)
  obtain ⟨rfl, hfr⟩ := hp
  replace hM : MZ V τ1 (b + 1457) := hM.keep (fun x g1 _ => hfr x g1)
  refine m_aload_n F rfl e_L_law_1051 ?_
  refine m_aload_n F rfl e_L_law_1052 ?_
  refine m_iload F rfl e_L_law_1053 ?_
  refine m_iconst F (v := 1) (by decide) e_L_law_1055 ?_
  refine m_iadd F e_L_law_1056 ?_
  refine Wm.topE (w := 1) (by decide) ?_
  refine m_sld F (j := 1) e_L_law_1057 hX hb (by decide) (by unfold vp_in; decide) ?_
  refine m_callV F e_L_law_1058 (n_all (x_l X) V _ _ (b + 1457) (xs 1) hM) cb_X10_all ml_L_122 im_X10_all se_X10_all hM.1 rfl rfl (rest := [.long (if (xs 1) < 0 ∨ 72 < (xs 1) then -1 else 0)]) rfl (Nat.le_of_ble_eq_true rfl) ⟨Nat.le_of_ble_eq_true rfl, Nat.le_of_ble_eq_true rfl⟩ ⟨Nat.le_of_ble_eq_true rfl, Nat.le_of_ble_eq_true rfl⟩ (k' := 1481) (z' := 70582) (N' := N) rfl rfl rfl (fun r τ2 hp => ?_)
  subst hp
  refine m_lcmp F e_L_law_1061 ?_
  refine m_if_eq F e_L_law_1062 (fun _ => ?_) (fun q => absurd ((lg_cmp_eq _ _).mpr rfl) q)
  exact m_lbreak F hQ hH hX hb (Nat.le_of_ble_eq_true rfl) (Nat.le_of_ble_eq_true rfl)
set_option maxRecDepth 20000 in
theorem lc_22 {V : VX} {X : MX} {nm : String} {b sb N sa : Nat} {xs : Nat → Int32} {σ : Mem} (F : Fx V X (yLw nm) cL_law 7 ret room_1) (hQ : QW X) (hH : V.2.2 = (x_s X).heap) (hX : va_X sb 6 xs (x_s X) V.2.2) (hb : sb < V.2.2.size) (hl : (x_l X).stackTraces = false) (hT : TW V sa (x_s X)) (hZ : LLz V σ b) (hM : MZ V σ (b + 1457)) : Wm V X 7 N σ 1481 70582 1067 [(4, .int 0), (3, .ref (b + 1480)), (2, .ref (b + 1457)), (1, .ref b), (0, .ref sb)] [] := by
  refine m_aload_n F rfl e_L_law_1067 ?_
  refine m_aload_n F rfl e_L_law_1068 ?_
  refine m_iload F rfl e_L_law_1069 ?_
  refine m_iconst F (v := 1) (by decide) e_L_law_1071 ?_
  refine m_iadd F e_L_law_1072 ?_
  refine Wm.topE (w := 1) (by decide) ?_
  refine m_sld F (j := 1) e_L_law_1073 hX hb (by decide) (by unfold vp_in; decide) ?_
  refine m_aload_n F rfl e_L_law_1074 ?_
  refine m_iload F rfl e_L_law_1075 ?_
  refine m_iconst F (v := 2) (by decide) e_L_law_1077 ?_
  refine m_iadd F e_L_law_1078 ?_
  refine Wm.topE (w := 2) (by decide) ?_
  refine m_sld F (j := 2) e_L_law_1079 hX hb (by decide) (by unfold vp_in; decide) ?_
  refine m_callV F e_L_law_1080 (ldg_soon (x_l X) V _ _ b (xs 1) (xs 2) hZ) cb_X9_soon ml_L_123 im_X9_soon se_X9_soon hZ.1 rfl rfl (rest := []) rfl (Nat.le_of_ble_eq_true rfl) ⟨Nat.le_of_ble_eq_true rfl, Nat.le_of_ble_eq_true rfl⟩ ⟨Nat.le_of_ble_eq_true rfl, Nat.le_of_ble_eq_true rfl⟩ (k' := 1481) (z' := 70582) (N' := N) rfl rfl rfl (fun r τ1 hp => ?_)
  obtain ⟨rfl, hfr⟩ := hp
  replace hM : MZ V τ1 (b + 1457) := hM.keep (fun x g1 _ => hfr x g1)
  refine m_aload_n F rfl e_L_law_1083 ?_
  refine m_aload_n F rfl e_L_law_1084 ?_
  refine m_iload F rfl e_L_law_1085 ?_
  refine m_iconst F (v := 1) (by decide) e_L_law_1087 ?_
  refine m_iadd F e_L_law_1088 ?_
  refine Wm.topE (w := 1) (by decide) ?_
  refine m_sld F (j := 1) e_L_law_1089 hX hb (by decide) (by unfold vp_in; decide) ?_
  refine m_aload_n F rfl e_L_law_1090 ?_
  refine m_iload F rfl e_L_law_1091 ?_
  refine m_iconst F (v := 2) (by decide) e_L_law_1093 ?_
  refine m_iadd F e_L_law_1094 ?_
  refine Wm.topE (w := 2) (by decide) ?_
  refine m_sld F (j := 2) e_L_law_1095 hX hb (by decide) (by unfold vp_in; decide) ?_
  refine m_callV F e_L_law_1096 (n_soon (x_l X) V _ _ (b + 1457) (xs 1) (xs 2) hM) cb_X10_soon ml_L_126 im_X10_soon se_X10_soon hM.1 rfl rfl (rest := [.long (-1)]) rfl (Nat.le_of_ble_eq_true rfl) ⟨Nat.le_of_ble_eq_true rfl, Nat.le_of_ble_eq_true rfl⟩ ⟨Nat.le_of_ble_eq_true rfl, Nat.le_of_ble_eq_true rfl⟩ (k' := 1481) (z' := 70582) (N' := N) rfl rfl rfl (fun r τ2 hp => ?_)
  subst hp
  refine m_lcmp F e_L_law_1099 ?_
  refine Wm.topE (w := 0) (by decide) ?_
  refine m_if_eq F e_L_law_1100 (fun _ => ?_) (fun q => absurd (by decide) q)
  exact m_lbreak F hQ hH hX hb (Nat.le_of_ble_eq_true rfl) (Nat.le_of_ble_eq_true rfl)
set_option maxRecDepth 20000 in
theorem lc_23 {V : VX} {X : MX} {nm : String} {b sb N sa : Nat} {xs : Nat → Int32} {σ : Mem} (F : Fx V X (yLw nm) cL_law 7 ret room_1) (hQ : QW X) (hH : V.2.2 = (x_s X).heap) (hX : va_X sb 6 xs (x_s X) V.2.2) (hb : sb < V.2.2.size) (hl : (x_l X).stackTraces = false) (hT : TW V sa (x_s X)) (hZ : LLz V σ b) (hM : MZ V σ (b + 1457)) : Wm V X 7 N σ 1481 70582 1105 [(4, .int 0), (3, .ref (b + 1480)), (2, .ref (b + 1457)), (1, .ref b), (0, .ref sb)] [] := by
  refine m_aload_n F rfl e_L_law_1105 ?_
  refine m_aload_n F rfl e_L_law_1106 ?_
  refine m_iload F rfl e_L_law_1107 ?_
  refine m_iconst F (v := 1) (by decide) e_L_law_1109 ?_
  refine m_iadd F e_L_law_1110 ?_
  refine Wm.topE (w := 1) (by decide) ?_
  refine m_sld F (j := 1) e_L_law_1111 hX hb (by decide) (by unfold vp_in; decide) ?_
  refine m_aload_n F rfl e_L_law_1112 ?_
  refine m_iload F rfl e_L_law_1113 ?_
  refine m_iconst F (v := 2) (by decide) e_L_law_1115 ?_
  refine m_iadd F e_L_law_1116 ?_
  refine Wm.topE (w := 2) (by decide) ?_
  refine m_sld F (j := 2) e_L_law_1117 hX hb (by decide) (by unfold vp_in; decide) ?_
  refine m_callV F e_L_law_1118 (ldg_sum (x_l X) V _ _ b (xs 1) (xs 2) hZ) cb_X9_sum ml_L_127 im_X9_sum se_X9_sum hZ.1 rfl rfl (rest := []) rfl (Nat.le_of_ble_eq_true rfl) ⟨Nat.le_of_ble_eq_true rfl, Nat.le_of_ble_eq_true rfl⟩ ⟨Nat.le_of_ble_eq_true rfl, Nat.le_of_ble_eq_true rfl⟩ (k' := 1481) (z' := 70582) (N' := N) rfl rfl rfl (fun r τ1 hp => ?_)
  obtain ⟨rfl, hfr⟩ := hp
  replace hM : MZ V τ1 (b + 1457) := hM.keep (fun x g1 _ => hfr x g1)
  refine m_aload_n F rfl e_L_law_1121 ?_
  refine m_aload_n F rfl e_L_law_1122 ?_
  refine m_iload F rfl e_L_law_1123 ?_
  refine m_iconst F (v := 1) (by decide) e_L_law_1125 ?_
  refine m_iadd F e_L_law_1126 ?_
  refine Wm.topE (w := 1) (by decide) ?_
  refine m_sld F (j := 1) e_L_law_1127 hX hb (by decide) (by unfold vp_in; decide) ?_
  refine m_aload_n F rfl e_L_law_1128 ?_
  refine m_iload F rfl e_L_law_1129 ?_
  refine m_iconst F (v := 2) (by decide) e_L_law_1131 ?_
  refine m_iadd F e_L_law_1132 ?_
  refine Wm.topE (w := 2) (by decide) ?_
  refine m_sld F (j := 2) e_L_law_1133 hX hb (by decide) (by unfold vp_in; decide) ?_
  refine m_callV F e_L_law_1134 (n_sum (x_l X) V _ _ (b + 1457) (xs 1) (xs 2) hM) cb_X10_sum ml_L_130 im_X10_sum se_X10_sum hM.1 rfl rfl (rest := [.long (if (xs 1) < 0 ∨ 5 < (xs 1) ∨ (xs 2) < 0 ∨ 5 < (xs 2) then NOA else 0)]) rfl (Nat.le_of_ble_eq_true rfl) ⟨Nat.le_of_ble_eq_true rfl, Nat.le_of_ble_eq_true rfl⟩ ⟨Nat.le_of_ble_eq_true rfl, Nat.le_of_ble_eq_true rfl⟩ (k' := 1481) (z' := 70582) (N' := N) rfl rfl rfl (fun r τ2 hp => ?_)
  subst hp
  refine m_lcmp F e_L_law_1137 ?_
  refine m_if_eq F e_L_law_1138 (fun _ => ?_) (fun q => absurd ((lg_cmp_eq _ _).mpr rfl) q)
  exact m_lbreak F hQ hH hX hb (Nat.le_of_ble_eq_true rfl) (Nat.le_of_ble_eq_true rfl)
set_option maxRecDepth 20000 in
theorem lc_24 {V : VX} {X : MX} {nm : String} {b sb N sa : Nat} {xs : Nat → Int32} {σ : Mem} (F : Fx V X (yLw nm) cL_law 7 ret room_1) (hQ : QW X) (hH : V.2.2 = (x_s X).heap) (hX : va_X sb 6 xs (x_s X) V.2.2) (hb : sb < V.2.2.size) (hl : (x_l X).stackTraces = false) (hT : TW V sa (x_s X)) (hZ : LLz V σ b) (hM : MZ V σ (b + 1457)) : Wm V X 7 N σ 1481 70582 1143 [(4, .int 0), (3, .ref (b + 1480)), (2, .ref (b + 1457)), (1, .ref b), (0, .ref sb)] [] := by
  refine m_aload_n F rfl e_L_law_1143 ?_
  refine m_aload_n F rfl e_L_law_1144 ?_
  refine m_iload F rfl e_L_law_1145 ?_
  refine m_iconst F (v := 1) (by decide) e_L_law_1147 ?_
  refine m_iadd F e_L_law_1148 ?_
  refine Wm.topE (w := 1) (by decide) ?_
  refine m_sld F (j := 1) e_L_law_1149 hX hb (by decide) (by unfold vp_in; decide) ?_
  refine m_aload_n F rfl e_L_law_1150 ?_
  refine m_iload F rfl e_L_law_1151 ?_
  refine m_iconst F (v := 2) (by decide) e_L_law_1153 ?_
  refine m_iadd F e_L_law_1154 ?_
  refine Wm.topE (w := 2) (by decide) ?_
  refine m_sld F (j := 2) e_L_law_1155 hX hb (by decide) (by unfold vp_in; decide) ?_
  refine m_callV F e_L_law_1156 (ldg_moved (x_l X) V _ _ b (xs 1) (xs 2) hZ) cb_X9_moved ml_L_131 im_X9_moved se_X9_moved hZ.1 rfl rfl (rest := []) rfl (Nat.le_of_ble_eq_true rfl) ⟨Nat.le_of_ble_eq_true rfl, Nat.le_of_ble_eq_true rfl⟩ ⟨Nat.le_of_ble_eq_true rfl, Nat.le_of_ble_eq_true rfl⟩ (k' := 1481) (z' := 70582) (N' := N) rfl rfl rfl (fun r τ1 hp => ?_)
  obtain ⟨rfl, hfr⟩ := hp
  replace hM : MZ V τ1 (b + 1457) := hM.keep (fun x g1 _ => hfr x g1)
  refine m_aload_n F rfl e_L_law_1159 ?_
  refine m_aload_n F rfl e_L_law_1160 ?_
  refine m_iload F rfl e_L_law_1161 ?_
  refine m_iconst F (v := 1) (by decide) e_L_law_1163 ?_
  refine m_iadd F e_L_law_1164 ?_
  refine Wm.topE (w := 1) (by decide) ?_
  refine m_sld F (j := 1) e_L_law_1165 hX hb (by decide) (by unfold vp_in; decide) ?_
  refine m_aload_n F rfl e_L_law_1166 ?_
  refine m_iload F rfl e_L_law_1167 ?_
  refine m_iconst F (v := 2) (by decide) e_L_law_1169 ?_
  refine m_iadd F e_L_law_1170 ?_
  refine Wm.topE (w := 2) (by decide) ?_
  refine m_sld F (j := 2) e_L_law_1171 hX hb (by decide) (by unfold vp_in; decide) ?_
  refine m_callV F e_L_law_1172 (n_moved (x_l X) V _ _ (b + 1457) (xs 1) (xs 2) hM) cb_X10_moved ml_L_134 im_X10_moved se_X10_moved hM.1 rfl rfl (rest := [.long NOA]) rfl (Nat.le_of_ble_eq_true rfl) ⟨Nat.le_of_ble_eq_true rfl, Nat.le_of_ble_eq_true rfl⟩ ⟨Nat.le_of_ble_eq_true rfl, Nat.le_of_ble_eq_true rfl⟩ (k' := 1481) (z' := 70582) (N' := N) rfl rfl rfl (fun r τ2 hp => ?_)
  subst hp
  refine m_lcmp F e_L_law_1175 ?_
  refine m_if_eq F e_L_law_1176 (fun _ => ?_) (fun q => absurd ((lg_cmp_eq _ _).mpr rfl) q)
  exact m_lbreak F hQ hH hX hb (Nat.le_of_ble_eq_true rfl) (Nat.le_of_ble_eq_true rfl)
set_option maxRecDepth 20000 in
theorem lc_25 {V : VX} {X : MX} {nm : String} {b sb N sa : Nat} {xs : Nat → Int32} {σ : Mem} (F : Fx V X (yLw nm) cL_law 7 ret room_1) (hQ : QW X) (hH : V.2.2 = (x_s X).heap) (hX : va_X sb 6 xs (x_s X) V.2.2) (hb : sb < V.2.2.size) (hl : (x_l X).stackTraces = false) (hT : TW V sa (x_s X)) (hZ : LLz V σ b) (hM : MZ V σ (b + 1457)) : Wm V X 7 N σ 1481 70582 1181 [(4, .int 0), (3, .ref (b + 1480)), (2, .ref (b + 1457)), (1, .ref b), (0, .ref sb)] [] := by
  refine m_aload_n F rfl e_L_law_1181 ?_
  refine m_aload_n F rfl e_L_law_1182 ?_
  refine m_iload F rfl e_L_law_1183 ?_
  refine m_iconst F (v := 1) (by decide) e_L_law_1185 ?_
  refine m_iadd F e_L_law_1186 ?_
  refine Wm.topE (w := 1) (by decide) ?_
  refine m_sld F (j := 1) e_L_law_1187 hX hb (by decide) (by unfold vp_in; decide) ?_
  refine m_callV F e_L_law_1188 (ldg_choose (x_l X) V _ _ b (xs 1) hZ) cb_X9_choose ml_L_135 im_X9_choose se_X9_choose hZ.1 rfl rfl (rest := []) rfl (Nat.le_of_ble_eq_true rfl) ⟨Nat.le_of_ble_eq_true rfl, Nat.le_of_ble_eq_true rfl⟩ ⟨Nat.le_of_ble_eq_true rfl, Nat.le_of_ble_eq_true rfl⟩ (k' := 1481) (z' := 70582) (N' := N) rfl rfl rfl (fun r τ1 hp => ?_)
  obtain ⟨rfl, hfr⟩ := hp
  replace hM : MZ V τ1 (b + 1457) := hM.keep (fun x g1 _ => hfr x g1)
  refine m_aload_n F rfl e_L_law_1191 ?_
  refine m_aload_n F rfl e_L_law_1192 ?_
  refine m_iload F rfl e_L_law_1193 ?_
  refine m_iconst F (v := 1) (by decide) e_L_law_1195 ?_
  refine m_iadd F e_L_law_1196 ?_
  refine Wm.topE (w := 1) (by decide) ?_
  refine m_sld F (j := 1) e_L_law_1197 hX hb (by decide) (by unfold vp_in; decide) ?_
  refine m_callV F e_L_law_1198 (n_choose (x_l X) V _ _ (b + 1457) (xs 1) hM) cb_X10_choose ml_L_138 im_X10_choose se_X10_choose hM.1 rfl rfl (rest := [.int (-1)]) rfl (Nat.le_of_ble_eq_true rfl) ⟨Nat.le_of_ble_eq_true rfl, Nat.le_of_ble_eq_true rfl⟩ ⟨Nat.le_of_ble_eq_true rfl, Nat.le_of_ble_eq_true rfl⟩ (k' := 1481) (z' := 70582) (N' := N) rfl rfl rfl (fun r τ2 hp => ?_)
  subst hp
  refine m_icmp_eq F e_L_law_1201 (fun _ => ?_) (fun q => absurd (by decide) q)
  exact m_lbreak F hQ hH hX hb (Nat.le_of_ble_eq_true rfl) (Nat.le_of_ble_eq_true rfl)
set_option maxRecDepth 20000 in
theorem lc_26 {V : VX} {X : MX} {nm : String} {b sb N sa : Nat} {xs : Nat → Int32} {σ : Mem} (F : Fx V X (yLw nm) cL_law 7 ret room_1) (hQ : QW X) (hH : V.2.2 = (x_s X).heap) (hX : va_X sb 6 xs (x_s X) V.2.2) (hb : sb < V.2.2.size) (hl : (x_l X).stackTraces = false) (hT : TW V sa (x_s X)) (hZ : LLz V σ b) (hM : MZ V σ (b + 1457)) : Wm V X 7 N σ 1481 70582 1206 [(4, .int 0), (3, .ref (b + 1480)), (2, .ref (b + 1457)), (1, .ref b), (0, .ref sb)] [] := by
  refine m_aload_n F rfl e_L_law_1206 ?_
  refine m_aload_n F rfl e_L_law_1207 ?_
  refine m_iload F rfl e_L_law_1208 ?_
  refine m_iconst F (v := 1) (by decide) e_L_law_1210 ?_
  refine m_iadd F e_L_law_1211 ?_
  refine Wm.topE (w := 1) (by decide) ?_
  refine m_sld F (j := 1) e_L_law_1212 hX hb (by decide) (by unfold vp_in; decide) ?_
  refine m_aload_n F rfl e_L_law_1213 ?_
  refine m_iload F rfl e_L_law_1214 ?_
  refine m_iconst F (v := 2) (by decide) e_L_law_1216 ?_
  refine m_iadd F e_L_law_1217 ?_
  refine Wm.topE (w := 2) (by decide) ?_
  refine m_sld F (j := 2) e_L_law_1218 hX hb (by decide) (by unfold vp_in; decide) ?_
  refine m_if_eq F e_L_law_1219 (fun q1219 => ?_) (fun q1219 => ?_)
  · refine m_iconst F (v := 0) (by decide) e_L_law_1226 ?_
    refine m_callV F e_L_law_1227 (ldg_life (x_l X) V _ _ b (xs 1) 0 hZ) cb_X9_life ml_L_139 im_X9_life se_X9_life hZ.1 rfl rfl (rest := []) rfl (Nat.le_of_ble_eq_true rfl) ⟨Nat.le_of_ble_eq_true rfl, Nat.le_of_ble_eq_true rfl⟩ ⟨Nat.le_of_ble_eq_true rfl, Nat.le_of_ble_eq_true rfl⟩ (k' := 1481) (z' := 70582) (N' := N) rfl rfl rfl (fun r τ1 hp => ?_)
    obtain ⟨rfl, hfr⟩ := hp
    replace hM : MZ V τ1 (b + 1457) := hM.keep (fun x g1 _ => hfr x g1)
    refine m_aload_n F rfl e_L_law_1230 ?_
    refine m_aload_n F rfl e_L_law_1231 ?_
    refine m_iload F rfl e_L_law_1232 ?_
    refine m_iconst F (v := 1) (by decide) e_L_law_1234 ?_
    refine m_iadd F e_L_law_1235 ?_
    refine Wm.topE (w := 1) (by decide) ?_
    refine m_sld F (j := 1) e_L_law_1236 hX hb (by decide) (by unfold vp_in; decide) ?_
    refine m_aload_n F rfl e_L_law_1237 ?_
    refine m_iload F rfl e_L_law_1238 ?_
    refine m_iconst F (v := 2) (by decide) e_L_law_1240 ?_
    refine m_iadd F e_L_law_1241 ?_
    refine Wm.topE (w := 2) (by decide) ?_
    refine m_sld F (j := 2) e_L_law_1242 hX hb (by decide) (by unfold vp_in; decide) ?_
    refine m_if_eq F e_L_law_1243 (fun q1243 => ?_) (fun q1243 => ?_)
    · refine m_iconst F (v := 0) (by decide) e_L_law_1250 ?_
      refine m_callV F e_L_law_1251 (n_life (x_l X) V _ _ (b + 1457) (xs 1) 0 hM) cb_X10_life ml_L_143 im_X10_life se_X10_life hM.1 rfl rfl (rest := [.long (-1)]) rfl (Nat.le_of_ble_eq_true rfl) ⟨Nat.le_of_ble_eq_true rfl, Nat.le_of_ble_eq_true rfl⟩ ⟨Nat.le_of_ble_eq_true rfl, Nat.le_of_ble_eq_true rfl⟩ (k' := 1481) (z' := 70582) (N' := N) rfl rfl rfl (fun r τ2 hp => ?_)
      subst hp
      refine m_lcmp F e_L_law_1254 ?_
      refine Wm.topE (w := 0) (by decide) ?_
      refine m_if_eq F e_L_law_1255 (fun _ => ?_) (fun q => absurd (by decide) q)
      exact m_lbreak F hQ hH hX hb (Nat.le_of_ble_eq_true rfl) (Nat.le_of_ble_eq_true rfl)
    · refine m_iconst F (v := 1) (by decide) e_L_law_1246 ?_
      refine m_goto F e_L_law_1247 ?_
      refine m_callV F e_L_law_1251 (n_life (x_l X) V _ _ (b + 1457) (xs 1) 1 hM) cb_X10_life ml_L_143 im_X10_life se_X10_life hM.1 rfl rfl (rest := [.long (-1)]) rfl (Nat.le_of_ble_eq_true rfl) ⟨Nat.le_of_ble_eq_true rfl, Nat.le_of_ble_eq_true rfl⟩ ⟨Nat.le_of_ble_eq_true rfl, Nat.le_of_ble_eq_true rfl⟩ (k' := 1481) (z' := 70582) (N' := N) rfl rfl rfl (fun r τ2 hp => ?_)
      subst hp
      refine m_lcmp F e_L_law_1254 ?_
      refine Wm.topE (w := 0) (by decide) ?_
      refine m_if_eq F e_L_law_1255 (fun _ => ?_) (fun q => absurd (by decide) q)
      exact m_lbreak F hQ hH hX hb (Nat.le_of_ble_eq_true rfl) (Nat.le_of_ble_eq_true rfl)
  · refine m_iconst F (v := 1) (by decide) e_L_law_1222 ?_
    refine m_goto F e_L_law_1223 ?_
    refine m_callV F e_L_law_1227 (ldg_life (x_l X) V _ _ b (xs 1) 1 hZ) cb_X9_life ml_L_139 im_X9_life se_X9_life hZ.1 rfl rfl (rest := []) rfl (Nat.le_of_ble_eq_true rfl) ⟨Nat.le_of_ble_eq_true rfl, Nat.le_of_ble_eq_true rfl⟩ ⟨Nat.le_of_ble_eq_true rfl, Nat.le_of_ble_eq_true rfl⟩ (k' := 1481) (z' := 70582) (N' := N) rfl rfl rfl (fun r τ1 hp => ?_)
    obtain ⟨rfl, hfr⟩ := hp
    replace hM : MZ V τ1 (b + 1457) := hM.keep (fun x g1 _ => hfr x g1)
    refine m_aload_n F rfl e_L_law_1230 ?_
    refine m_aload_n F rfl e_L_law_1231 ?_
    refine m_iload F rfl e_L_law_1232 ?_
    refine m_iconst F (v := 1) (by decide) e_L_law_1234 ?_
    refine m_iadd F e_L_law_1235 ?_
    refine Wm.topE (w := 1) (by decide) ?_
    refine m_sld F (j := 1) e_L_law_1236 hX hb (by decide) (by unfold vp_in; decide) ?_
    refine m_aload_n F rfl e_L_law_1237 ?_
    refine m_iload F rfl e_L_law_1238 ?_
    refine m_iconst F (v := 2) (by decide) e_L_law_1240 ?_
    refine m_iadd F e_L_law_1241 ?_
    refine Wm.topE (w := 2) (by decide) ?_
    refine m_sld F (j := 2) e_L_law_1242 hX hb (by decide) (by unfold vp_in; decide) ?_
    refine m_if_eq F e_L_law_1243 (fun q1243 => ?_) (fun q1243 => ?_)
    · refine m_iconst F (v := 0) (by decide) e_L_law_1250 ?_
      refine m_callV F e_L_law_1251 (n_life (x_l X) V _ _ (b + 1457) (xs 1) 0 hM) cb_X10_life ml_L_143 im_X10_life se_X10_life hM.1 rfl rfl (rest := [.long (-1)]) rfl (Nat.le_of_ble_eq_true rfl) ⟨Nat.le_of_ble_eq_true rfl, Nat.le_of_ble_eq_true rfl⟩ ⟨Nat.le_of_ble_eq_true rfl, Nat.le_of_ble_eq_true rfl⟩ (k' := 1481) (z' := 70582) (N' := N) rfl rfl rfl (fun r τ2 hp => ?_)
      subst hp
      refine m_lcmp F e_L_law_1254 ?_
      refine Wm.topE (w := 0) (by decide) ?_
      refine m_if_eq F e_L_law_1255 (fun _ => ?_) (fun q => absurd (by decide) q)
      exact m_lbreak F hQ hH hX hb (Nat.le_of_ble_eq_true rfl) (Nat.le_of_ble_eq_true rfl)
    · refine m_iconst F (v := 1) (by decide) e_L_law_1246 ?_
      refine m_goto F e_L_law_1247 ?_
      refine m_callV F e_L_law_1251 (n_life (x_l X) V _ _ (b + 1457) (xs 1) 1 hM) cb_X10_life ml_L_143 im_X10_life se_X10_life hM.1 rfl rfl (rest := [.long (-1)]) rfl (Nat.le_of_ble_eq_true rfl) ⟨Nat.le_of_ble_eq_true rfl, Nat.le_of_ble_eq_true rfl⟩ ⟨Nat.le_of_ble_eq_true rfl, Nat.le_of_ble_eq_true rfl⟩ (k' := 1481) (z' := 70582) (N' := N) rfl rfl rfl (fun r τ2 hp => ?_)
      subst hp
      refine m_lcmp F e_L_law_1254 ?_
      refine Wm.topE (w := 0) (by decide) ?_
      refine m_if_eq F e_L_law_1255 (fun _ => ?_) (fun q => absurd (by decide) q)
      exact m_lbreak F hQ hH hX hb (Nat.le_of_ble_eq_true rfl) (Nat.le_of_ble_eq_true rfl)
set_option maxRecDepth 20000 in
theorem lc_27 {V : VX} {X : MX} {nm : String} {b sb N sa : Nat} {xs : Nat → Int32} {σ : Mem} (F : Fx V X (yLw nm) cL_law 7 ret room_1) (hQ : QW X) (hH : V.2.2 = (x_s X).heap) (hX : va_X sb 6 xs (x_s X) V.2.2) (hb : sb < V.2.2.size) (hl : (x_l X).stackTraces = false) (hT : TW V sa (x_s X)) (hZ : LLz V σ b) (hM : MZ V σ (b + 1457)) : Wm V X 7 N σ 1481 70582 1260 [(4, .int 0), (3, .ref (b + 1480)), (2, .ref (b + 1457)), (1, .ref b), (0, .ref sb)] [] := by
  refine m_aload_n F rfl e_L_law_1260 ?_
  refine m_aload_n F rfl e_L_law_1261 ?_
  refine m_iload F rfl e_L_law_1262 ?_
  refine m_iconst F (v := 1) (by decide) e_L_law_1264 ?_
  refine m_iadd F e_L_law_1265 ?_
  refine Wm.topE (w := 1) (by decide) ?_
  refine m_sld F (j := 1) e_L_law_1266 hX hb (by decide) (by unfold vp_in; decide) ?_
  refine m_callV F e_L_law_1267 (ldg_peak (x_l X) V _ _ b (xs 1) hZ) cb_X9_peak ml_L_144 im_X9_peak se_X9_peak hZ.1 rfl rfl (rest := []) rfl (Nat.le_of_ble_eq_true rfl) ⟨Nat.le_of_ble_eq_true rfl, Nat.le_of_ble_eq_true rfl⟩ ⟨Nat.le_of_ble_eq_true rfl, Nat.le_of_ble_eq_true rfl⟩ (k' := 1481) (z' := 70582) (N' := N) rfl rfl rfl (fun r τ1 hp => ?_)
  obtain ⟨rfl, hfr⟩ := hp
  replace hM : MZ V τ1 (b + 1457) := hM.keep (fun x g1 _ => hfr x g1)
  refine m_aload_n F rfl e_L_law_1270 ?_
  refine m_aload_n F rfl e_L_law_1271 ?_
  refine m_iload F rfl e_L_law_1272 ?_
  refine m_iconst F (v := 1) (by decide) e_L_law_1274 ?_
  refine m_iadd F e_L_law_1275 ?_
  refine Wm.topE (w := 1) (by decide) ?_
  refine m_sld F (j := 1) e_L_law_1276 hX hb (by decide) (by unfold vp_in; decide) ?_
  refine m_callV F e_L_law_1277 (n_peak (x_l X) V _ _ (b + 1457) (xs 1) hM) cb_X10_peak ml_L_147 im_X10_peak se_X10_peak hM.1 rfl rfl (rest := [.long (if (xs 1) < 0 ∨ 1 < (xs 1) then -1 else -2)]) rfl (Nat.le_of_ble_eq_true rfl) ⟨Nat.le_of_ble_eq_true rfl, Nat.le_of_ble_eq_true rfl⟩ ⟨Nat.le_of_ble_eq_true rfl, Nat.le_of_ble_eq_true rfl⟩ (k' := 1481) (z' := 70582) (N' := N) rfl rfl rfl (fun r τ2 hp => ?_)
  subst hp
  refine m_lcmp F e_L_law_1280 ?_
  refine m_if_eq F e_L_law_1281 (fun _ => ?_) (fun q => absurd ((lg_cmp_eq _ _).mpr rfl) q)
  exact m_lbreak F hQ hH hX hb (Nat.le_of_ble_eq_true rfl) (Nat.le_of_ble_eq_true rfl)
