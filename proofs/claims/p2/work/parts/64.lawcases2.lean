set_option maxRecDepth 20000 in
theorem lc_14 {V : VX} {X : MX} {nm : String} {b sb N k z i L M T : Nat} {xs : Nat → Int32} {σ : Mem} (F : Fx V X (yLw nm) cL_law 7 ret room_1) (hX : va_X sb L xs (x_s X) V.2.2) (hb : sb < V.2.2.size) (hl : (x_l X).stackTraces = false) (hi : i + 6 ≤ L) (hL : L ≤ 3072) (hk : k ≤ 2100) (hz : z ≤ 80000) (hM : M ≤ 10000000) (hI : IV V b M T σ) (hN : ∀ (N' M' T' : Nat) (σ' : Mem) (k' z' : Nat), k' ≤ k + 1 → z' ≤ z + 6 → M' ≤ M + 10000 → IV V b M' T' σ' → Wm V X 7 N' σ' k' z' 1745 [(4, .int (nI i)), (3, .ref (b + 1480)), (2, .ref (b + 1457)), (1, .ref b), (0, .ref sb)] []) : Wm V X 7 N σ k z 721 [(4, .int (nI i)), (3, .ref (b + 1480)), (2, .ref (b + 1457)), (1, .ref b), (0, .ref sb)] [] := by
  obtain ⟨hT, hHT, ⟨z0, hout⟩, u, h, P, L0_, ⟨hu, hh, hP, hkk, hm0, hw0, hok⟩, hHR⟩ := hI
  refine m_aload_n F rfl e_L_law_721 ?_
  refine m_aload_n F rfl e_L_law_722 ?_
  refine m_iload F rfl e_L_law_723 ?_
  refine m_iconst F (v := 1) (by decide) e_L_law_725 ?_
  refine m_iadd F e_L_law_726 ?_
  refine Wm.topE (w := nI (i + 1)) (nI_add i 1) ?_
  refine m_sld F (j := i + 1) e_L_law_727 hX hb (nI_clamp (by omega)) (vp_in_nI (by omega) (by omega)) ?_
  refine l_callC F e_L_law_728 (s_X9_take (x_l X) V b M 1 T _ _ b (xs (i + 1)) hHT kA_b  (by omega)) cb_X9_take ml_L_84 im_X9_take se_X9_take hHT rfl rfl (rest := []) rfl (Nat.le_of_ble_eq_true rfl) ⟨Nat.le_of_ble_eq_true rfl, Nat.le_of_ble_eq_true rfl⟩ (by omega) (by omega) (fun r σ11295 hp => ?_)
  obtain ⟨h11296, x11297, rfl⟩ := hp
  have h11298 := h11296.1
  have h11299 := hHR.keepL (fun a ha _ => h11296.2 a (by rw [show kA _ a = 0 from ha]; decide))
  have h11300 := (h11296.2 (b + 1480) (by rw [show kA _ (b + 1480) = 0 from kA_o]; decide)).trans hout
  refine m_pop2_2 F rfl e_L_law_731 ?_
  refine m_aload_n F rfl e_L_law_732 ?_
  refine m_aload_n F rfl e_L_law_733 ?_
  refine m_iload F rfl e_L_law_734 ?_
  refine m_iconst F (v := 1) (by decide) e_L_law_736 ?_
  refine m_iadd F e_L_law_737 ?_
  refine Wm.topE (w := nI (i + 1)) (nI_add i 1) ?_
  refine m_sld F (j := i + 1) e_L_law_738 hX hb (nI_clamp (by omega)) (vp_in_nI (by omega) (by omega)) ?_
  refine l_callM F e_L_law_739 (q_X10_take (x_l X) V (b + 1457) T 1 u h P L0_ _ _ (xs (i + 1)) h11299 hok hP (by first | omega | assumption) (by first | omega | assumption)) cb_X10_take ml_L_87 im_X10_take se_X10_take h11299 rfl rfl (rest := []) rfl (Nat.le_of_ble_eq_true rfl) ⟨Nat.le_of_ble_eq_true rfl, Nat.le_of_ble_eq_true rfl⟩ (by omega) (by omega) (fun r σ11301 hp => ?_)
  obtain ⟨u11303, hu11303, L11304, okL11304, h11302, x11305, rfl⟩ := hp
  have h11306 := h11302.1
  have h11307 := h11298.keepM (fun a ha => h11302.2 a (by rw [ha]; decide))
  have h11308 := (h11302.2 (b + 1480) (by rw [kC_0 (c := b + 1457) (by omega)]; decide)).trans h11300
  refine m_pop2_2 F rfl e_L_law_742 ?_
  refine m_goto F e_L_law_743 ?_
  exact hN _ (M + 1) T _ _ _ (by omega) (by omega) (by omega) ⟨by omega, h11307, ⟨_, h11308⟩, u11303, h, P, L11304, ⟨hu11303, hh, hP, hkk, hm0, hw0, okL11304⟩, h11306⟩
set_option maxRecDepth 20000 in
theorem lc_15 {V : VX} {X : MX} {nm : String} {b sb N k z i L M T : Nat} {xs : Nat → Int32} {σ : Mem} (F : Fx V X (yLw nm) cL_law 7 ret room_1) (hX : va_X sb L xs (x_s X) V.2.2) (hb : sb < V.2.2.size) (hl : (x_l X).stackTraces = false) (hi : i + 6 ≤ L) (hL : L ≤ 3072) (hk : k ≤ 2100) (hz : z ≤ 80000) (hM : M ≤ 10000000) (hI : IV V b M T σ) (hN : ∀ (N' M' T' : Nat) (σ' : Mem) (k' z' : Nat), k' ≤ k + 1 → z' ≤ z + 6 → M' ≤ M + 10000 → IV V b M' T' σ' → Wm V X 7 N' σ' k' z' 1745 [(4, .int (nI i)), (3, .ref (b + 1480)), (2, .ref (b + 1457)), (1, .ref b), (0, .ref sb)] []) : Wm V X 7 N σ k z 746 [(4, .int (nI i)), (3, .ref (b + 1480)), (2, .ref (b + 1457)), (1, .ref b), (0, .ref sb)] [] := by
  obtain ⟨hT, hHT, ⟨z0, hout⟩, u, h, P, L0_, ⟨hu, hh, hP, hkk, hm0, hw0, hok⟩, hHR⟩ := hI
  refine m_aload_n F rfl e_L_law_746 ?_
  refine m_aload_n F rfl e_L_law_747 ?_
  refine m_iload F rfl e_L_law_748 ?_
  refine m_iconst F (v := 1) (by decide) e_L_law_750 ?_
  refine m_iadd F e_L_law_751 ?_
  refine Wm.topE (w := nI (i + 1)) (nI_add i 1) ?_
  refine m_sld F (j := i + 1) e_L_law_752 hX hb (nI_clamp (by omega)) (vp_in_nI (by omega) (by omega)) ?_
  refine m_aload_n F rfl e_L_law_753 ?_
  refine m_iload F rfl e_L_law_754 ?_
  refine m_iconst F (v := 2) (by decide) e_L_law_756 ?_
  refine m_iadd F e_L_law_757 ?_
  refine Wm.topE (w := nI (i + 2)) (nI_add i 2) ?_
  refine m_sld F (j := i + 2) e_L_law_758 hX hb (nI_clamp (by omega)) (vp_in_nI (by omega) (by omega)) ?_
  refine l_callC F e_L_law_759 (s_X9_part (x_l X) V b M 1 T _ _ b (xs (i + 1)) (xs (i + 2)) hHT kA_b  (by omega)) cb_X9_part ml_L_88 im_X9_part se_X9_part hHT rfl rfl (rest := []) rfl (Nat.le_of_ble_eq_true rfl) ⟨Nat.le_of_ble_eq_true rfl, Nat.le_of_ble_eq_true rfl⟩ (by omega) (by omega) (fun r σ11309 hp => ?_)
  obtain ⟨h11310, x11311, rfl⟩ := hp
  have h11312 := h11310.1
  have h11313 := hHR.keepL (fun a ha _ => h11310.2 a (by rw [show kA _ a = 0 from ha]; decide))
  have h11314 := (h11310.2 (b + 1480) (by rw [show kA _ (b + 1480) = 0 from kA_o]; decide)).trans hout
  refine m_pop2_2 F rfl e_L_law_762 ?_
  refine m_aload_n F rfl e_L_law_763 ?_
  refine m_aload_n F rfl e_L_law_764 ?_
  refine m_iload F rfl e_L_law_765 ?_
  refine m_iconst F (v := 1) (by decide) e_L_law_767 ?_
  refine m_iadd F e_L_law_768 ?_
  refine Wm.topE (w := nI (i + 1)) (nI_add i 1) ?_
  refine m_sld F (j := i + 1) e_L_law_769 hX hb (nI_clamp (by omega)) (vp_in_nI (by omega) (by omega)) ?_
  refine m_aload_n F rfl e_L_law_770 ?_
  refine m_iload F rfl e_L_law_771 ?_
  refine m_iconst F (v := 2) (by decide) e_L_law_773 ?_
  refine m_iadd F e_L_law_774 ?_
  refine Wm.topE (w := nI (i + 2)) (nI_add i 2) ?_
  refine m_sld F (j := i + 2) e_L_law_775 hX hb (nI_clamp (by omega)) (vp_in_nI (by omega) (by omega)) ?_
  refine l_callM F e_L_law_776 (q_X10_part (x_l X) V (b + 1457) T 1 u h P L0_ _ _ (xs (i + 1)) (xs (i + 2)) h11313 hok hP (by first | omega | assumption) (by first | omega | assumption)) cb_X10_part ml_L_91 im_X10_part se_X10_part h11313 rfl rfl (rest := []) rfl (Nat.le_of_ble_eq_true rfl) ⟨Nat.le_of_ble_eq_true rfl, Nat.le_of_ble_eq_true rfl⟩ (by omega) (by omega) (fun r σ11315 hp => ?_)
  obtain ⟨u11317, hu11317, L11318, okL11318, h11316, x11319, rfl⟩ := hp
  have h11320 := h11316.1
  have h11321 := h11312.keepM (fun a ha => h11316.2 a (by rw [ha]; decide))
  have h11322 := (h11316.2 (b + 1480) (by rw [kC_0 (c := b + 1457) (by omega)]; decide)).trans h11314
  refine m_pop2_2 F rfl e_L_law_779 ?_
  refine m_goto F e_L_law_780 ?_
  exact hN _ (M + 1) T _ _ _ (by omega) (by omega) (by omega) ⟨by omega, h11321, ⟨_, h11322⟩, u11317, h, P, L11318, ⟨hu11317, hh, hP, hkk, hm0, hw0, okL11318⟩, h11320⟩
set_option maxRecDepth 20000 in
theorem lc_16 {V : VX} {X : MX} {nm : String} {b sb N k z i L M T : Nat} {xs : Nat → Int32} {σ : Mem} (F : Fx V X (yLw nm) cL_law 7 ret room_1) (hX : va_X sb L xs (x_s X) V.2.2) (hb : sb < V.2.2.size) (hl : (x_l X).stackTraces = false) (hi : i + 6 ≤ L) (hL : L ≤ 3072) (hk : k ≤ 2100) (hz : z ≤ 80000) (hM : M ≤ 10000000) (hI : IV V b M T σ) (hN : ∀ (N' M' T' : Nat) (σ' : Mem) (k' z' : Nat), k' ≤ k + 1 → z' ≤ z + 6 → M' ≤ M + 10000 → IV V b M' T' σ' → Wm V X 7 N' σ' k' z' 1745 [(4, .int (nI i)), (3, .ref (b + 1480)), (2, .ref (b + 1457)), (1, .ref b), (0, .ref sb)] []) : Wm V X 7 N σ k z 783 [(4, .int (nI i)), (3, .ref (b + 1480)), (2, .ref (b + 1457)), (1, .ref b), (0, .ref sb)] [] := by
  obtain ⟨hT, hHT, ⟨z0, hout⟩, u, h, P, L0_, ⟨hu, hh, hP, hkk, hm0, hw0, hok⟩, hHR⟩ := hI
  refine m_aload_n F rfl e_L_law_783 ?_
  refine m_aload_n F rfl e_L_law_784 ?_
  refine m_iload F rfl e_L_law_785 ?_
  refine m_iconst F (v := 1) (by decide) e_L_law_787 ?_
  refine m_iadd F e_L_law_788 ?_
  refine Wm.topE (w := nI (i + 1)) (nI_add i 1) ?_
  refine m_sld F (j := i + 1) e_L_law_789 hX hb (nI_clamp (by omega)) (vp_in_nI (by omega) (by omega)) ?_
  refine l_callC F e_L_law_790 (s_X9_end (x_l X) V b M 1 T _ _ b (xs (i + 1)) hHT kA_b  (by omega)) cb_X9_end ml_L_92 im_X9_end se_X9_end hHT rfl rfl (rest := []) rfl (Nat.le_of_ble_eq_true rfl) ⟨Nat.le_of_ble_eq_true rfl, Nat.le_of_ble_eq_true rfl⟩ (by omega) (by omega) (fun r σ11323 hp => ?_)
  obtain ⟨h11324, x11325, rfl⟩ := hp
  have h11326 := h11324.1
  have h11327 := hHR.keepL (fun a ha _ => h11324.2 a (by rw [show kA _ a = 0 from ha]; decide))
  have h11328 := (h11324.2 (b + 1480) (by rw [show kA _ (b + 1480) = 0 from kA_o]; decide)).trans hout
  refine m_pop2_2 F rfl e_L_law_793 ?_
  refine m_aload_n F rfl e_L_law_794 ?_
  refine m_aload_n F rfl e_L_law_795 ?_
  refine m_iload F rfl e_L_law_796 ?_
  refine m_iconst F (v := 1) (by decide) e_L_law_798 ?_
  refine m_iadd F e_L_law_799 ?_
  refine Wm.topE (w := nI (i + 1)) (nI_add i 1) ?_
  refine m_sld F (j := i + 1) e_L_law_800 hX hb (nI_clamp (by omega)) (vp_in_nI (by omega) (by omega)) ?_
  refine l_callM F e_L_law_801 (q_X10_end (x_l X) V (b + 1457) T 1 u h P L0_ _ _ (xs (i + 1)) h11327 hok hP (by first | omega | assumption) (by first | omega | assumption)) cb_X10_end ml_L_95 im_X10_end se_X10_end h11327 rfl rfl (rest := []) rfl (Nat.le_of_ble_eq_true rfl) ⟨Nat.le_of_ble_eq_true rfl, Nat.le_of_ble_eq_true rfl⟩ (by omega) (by omega) (fun r σ11329 hp => ?_)
  obtain ⟨u11331, hu11331, L11332, okL11332, h11330, x11333, rfl⟩ := hp
  have h11334 := h11330.1
  have h11335 := h11326.keepM (fun a ha => h11330.2 a (by rw [ha]; decide))
  have h11336 := (h11330.2 (b + 1480) (by rw [kC_0 (c := b + 1457) (by omega)]; decide)).trans h11328
  refine m_pop2_2 F rfl e_L_law_804 ?_
  refine m_goto F e_L_law_805 ?_
  exact hN _ (M + 1) T _ _ _ (by omega) (by omega) (by omega) ⟨by omega, h11335, ⟨_, h11336⟩, u11331, h, P, L11332, ⟨hu11331, hh, hP, hkk, hm0, hw0, okL11332⟩, h11334⟩
set_option maxRecDepth 20000 in
theorem lc_17 {V : VX} {X : MX} {nm : String} {b sb N k z i L M T : Nat} {xs : Nat → Int32} {σ : Mem} (F : Fx V X (yLw nm) cL_law 7 ret room_1) (hX : va_X sb L xs (x_s X) V.2.2) (hb : sb < V.2.2.size) (hl : (x_l X).stackTraces = false) (hi : i + 6 ≤ L) (hL : L ≤ 3072) (hk : k ≤ 2100) (hz : z ≤ 80000) (hM : M ≤ 10000000) (hI : IV V b M T σ) (hN : ∀ (N' M' T' : Nat) (σ' : Mem) (k' z' : Nat), k' ≤ k + 1 → z' ≤ z + 6 → M' ≤ M + 10000 → IV V b M' T' σ' → Wm V X 7 N' σ' k' z' 1745 [(4, .int (nI i)), (3, .ref (b + 1480)), (2, .ref (b + 1457)), (1, .ref b), (0, .ref sb)] []) : Wm V X 7 N σ k z 808 [(4, .int (nI i)), (3, .ref (b + 1480)), (2, .ref (b + 1457)), (1, .ref b), (0, .ref sb)] [] := by
  obtain ⟨hT, hHT, ⟨z0, hout⟩, u, h, P, L0_, ⟨hu, hh, hP, hkk, hm0, hw0, hok⟩, hHR⟩ := hI
  refine m_aload_n F rfl e_L_law_808 ?_
  refine m_aload_n F rfl e_L_law_809 ?_
  refine m_iload F rfl e_L_law_810 ?_
  refine m_iconst F (v := 1) (by decide) e_L_law_812 ?_
  refine m_iadd F e_L_law_813 ?_
  refine Wm.topE (w := nI (i + 1)) (nI_add i 1) ?_
  refine m_sld F (j := i + 1) e_L_law_814 hX hb (nI_clamp (by omega)) (vp_in_nI (by omega) (by omega)) ?_
  refine m_aload_n F rfl e_L_law_815 ?_
  refine m_iload F rfl e_L_law_816 ?_
  refine m_iconst F (v := 2) (by decide) e_L_law_818 ?_
  refine m_iadd F e_L_law_819 ?_
  refine Wm.topE (w := nI (i + 2)) (nI_add i 2) ?_
  refine m_sld F (j := i + 2) e_L_law_820 hX hb (nI_clamp (by omega)) (vp_in_nI (by omega) (by omega)) ?_
  refine m_i2l F e_L_law_821 ?_
  refine Wm.topl (fun x11337 _ => ?_)
  refine m_bipush F (v := 32) (by decide) e_L_law_822 ?_
  refine m_lshl F e_L_law_824 ?_
  refine Wm.topl (fun x11338 _ => ?_)
  refine m_aload_n F rfl e_L_law_825 ?_
  refine m_iload F rfl e_L_law_826 ?_
  refine m_iconst F (v := 3) (by decide) e_L_law_828 ?_
  refine m_iadd F e_L_law_829 ?_
  refine Wm.topE (w := nI (i + 3)) (nI_add i 3) ?_
  refine m_sld F (j := i + 3) e_L_law_830 hX hb (nI_clamp (by omega)) (vp_in_nI (by omega) (by omega)) ?_
  refine m_i2l F e_L_law_831 ?_
  refine Wm.topl (fun x11339 _ => ?_)
  refine m_ldc2 F kc_L_96 e_L_law_832 ?_
  refine m_land F e_L_law_835 ?_
  refine Wm.topl (fun x11340 _ => ?_)
  refine m_lor F e_L_law_836 ?_
  refine Wm.topl (fun x11341 _ => ?_)
  refine l_callC F e_L_law_837 (s_X9_down (x_l X) V b M 1 T _ _ b (xs (i + 1)) x11341 hHT kA_b  (by omega)) cb_X9_down ml_L_98 im_X9_down se_X9_down hHT rfl rfl (rest := []) rfl (Nat.le_of_ble_eq_true rfl) ⟨Nat.le_of_ble_eq_true rfl, Nat.le_of_ble_eq_true rfl⟩ (by omega) (by omega) (fun r σ11342 hp => ?_)
  obtain ⟨h11343, x11344, rfl⟩ := hp
  have h11345 := h11343.1
  have h11346 := hHR.keepL (fun a ha _ => h11343.2 a (by rw [show kA _ a = 0 from ha]; decide))
  have h11347 := (h11343.2 (b + 1480) (by rw [show kA _ (b + 1480) = 0 from kA_o]; decide)).trans hout
  refine m_pop2_2 F rfl e_L_law_840 ?_
  refine m_aload_n F rfl e_L_law_841 ?_
  refine m_aload_n F rfl e_L_law_842 ?_
  refine m_iload F rfl e_L_law_843 ?_
  refine m_iconst F (v := 1) (by decide) e_L_law_845 ?_
  refine m_iadd F e_L_law_846 ?_
  refine Wm.topE (w := nI (i + 1)) (nI_add i 1) ?_
  refine m_sld F (j := i + 1) e_L_law_847 hX hb (nI_clamp (by omega)) (vp_in_nI (by omega) (by omega)) ?_
  refine m_aload_n F rfl e_L_law_848 ?_
  refine m_iload F rfl e_L_law_849 ?_
  refine m_iconst F (v := 2) (by decide) e_L_law_851 ?_
  refine m_iadd F e_L_law_852 ?_
  refine Wm.topE (w := nI (i + 2)) (nI_add i 2) ?_
  refine m_sld F (j := i + 2) e_L_law_853 hX hb (nI_clamp (by omega)) (vp_in_nI (by omega) (by omega)) ?_
  refine m_i2l F e_L_law_854 ?_
  refine Wm.topl (fun x11348 _ => ?_)
  refine m_bipush F (v := 32) (by decide) e_L_law_855 ?_
  refine m_lshl F e_L_law_857 ?_
  refine Wm.topl (fun x11349 _ => ?_)
  refine m_aload_n F rfl e_L_law_858 ?_
  refine m_iload F rfl e_L_law_859 ?_
  refine m_iconst F (v := 3) (by decide) e_L_law_861 ?_
  refine m_iadd F e_L_law_862 ?_
  refine Wm.topE (w := nI (i + 3)) (nI_add i 3) ?_
  refine m_sld F (j := i + 3) e_L_law_863 hX hb (nI_clamp (by omega)) (vp_in_nI (by omega) (by omega)) ?_
  refine m_i2l F e_L_law_864 ?_
  refine Wm.topl (fun x11350 _ => ?_)
  refine m_ldc2 F kc_L_96 e_L_law_865 ?_
  refine m_land F e_L_law_868 ?_
  refine Wm.topl (fun x11351 _ => ?_)
  refine m_lor F e_L_law_869 ?_
  refine Wm.topl (fun x11352 _ => ?_)
  refine l_callM F e_L_law_870 (q_X10_down (x_l X) V (b + 1457) T 1 u h P L0_ _ _ (xs (i + 1)) x11352 h11346 hok hP (by first | omega | assumption) (by first | omega | assumption)) cb_X10_down ml_L_102 im_X10_down se_X10_down h11346 rfl rfl (rest := []) rfl (Nat.le_of_ble_eq_true rfl) ⟨Nat.le_of_ble_eq_true rfl, Nat.le_of_ble_eq_true rfl⟩ (by omega) (by omega) (fun r σ11353 hp => ?_)
  obtain ⟨u11355, hu11355, L11356, okL11356, h11354, x11357, rfl⟩ := hp
  have h11358 := h11354.1
  have h11359 := h11345.keepM (fun a ha => h11354.2 a (by rw [ha]; decide))
  have h11360 := (h11354.2 (b + 1480) (by rw [kC_0 (c := b + 1457) (by omega)]; decide)).trans h11347
  refine m_pop2_2 F rfl e_L_law_873 ?_
  refine m_goto F e_L_law_874 ?_
  exact hN _ (M + 1) T _ _ _ (by omega) (by omega) (by omega) ⟨by omega, h11359, ⟨_, h11360⟩, u11355, h, P, L11356, ⟨hu11355, hh, hP, hkk, hm0, hw0, okL11356⟩, h11358⟩
set_option maxRecDepth 20000 in
theorem lc_18 {V : VX} {X : MX} {nm : String} {b sb N k z i L M T : Nat} {xs : Nat → Int32} {σ : Mem} (F : Fx V X (yLw nm) cL_law 7 ret room_1) (hX : va_X sb L xs (x_s X) V.2.2) (hb : sb < V.2.2.size) (hl : (x_l X).stackTraces = false) (hi : i + 6 ≤ L) (hL : L ≤ 3072) (hk : k ≤ 2100) (hz : z ≤ 80000) (hM : M ≤ 10000000) (hI : IV V b M T σ) (hN : ∀ (N' M' T' : Nat) (σ' : Mem) (k' z' : Nat), k' ≤ k + 1 → z' ≤ z + 6 → M' ≤ M + 10000 → IV V b M' T' σ' → Wm V X 7 N' σ' k' z' 1745 [(4, .int (nI i)), (3, .ref (b + 1480)), (2, .ref (b + 1457)), (1, .ref b), (0, .ref sb)] []) : Wm V X 7 N σ k z 877 [(4, .int (nI i)), (3, .ref (b + 1480)), (2, .ref (b + 1457)), (1, .ref b), (0, .ref sb)] [] := by
  obtain ⟨hT, hHT, ⟨z0, hout⟩, u, h, P, L0_, ⟨hu, hh, hP, hkk, hm0, hw0, hok⟩, hHR⟩ := hI
  refine m_aload_n F rfl e_L_law_877 ?_
  refine m_aload_n F rfl e_L_law_878 ?_
  refine m_iload F rfl e_L_law_879 ?_
  refine m_iconst F (v := 1) (by decide) e_L_law_881 ?_
  refine m_iadd F e_L_law_882 ?_
  refine Wm.topE (w := nI (i + 1)) (nI_add i 1) ?_
  refine m_sld F (j := i + 1) e_L_law_883 hX hb (nI_clamp (by omega)) (vp_in_nI (by omega) (by omega)) ?_
  refine m_aload_n F rfl e_L_law_884 ?_
  refine m_iload F rfl e_L_law_885 ?_
  refine m_iconst F (v := 2) (by decide) e_L_law_887 ?_
  refine m_iadd F e_L_law_888 ?_
  refine Wm.topE (w := nI (i + 2)) (nI_add i 2) ?_
  refine m_sld F (j := i + 2) e_L_law_889 hX hb (nI_clamp (by omega)) (vp_in_nI (by omega) (by omega)) ?_
  refine m_aload_n F rfl e_L_law_890 ?_
  refine m_iload F rfl e_L_law_891 ?_
  refine m_iconst F (v := 3) (by decide) e_L_law_893 ?_
  refine m_iadd F e_L_law_894 ?_
  refine Wm.topE (w := nI (i + 3)) (nI_add i 3) ?_
  refine m_sld F (j := i + 3) e_L_law_895 hX hb (nI_clamp (by omega)) (vp_in_nI (by omega) (by omega)) ?_
  refine l_callC F e_L_law_896 (s_X9_putOff (x_l X) V b M 1 T _ _ b (xs (i + 1)) (xs (i + 2)) (xs (i + 3)) hHT kA_b  (by omega)) cb_X9_putOff ml_L_103 im_X9_putOff se_X9_putOff hHT rfl rfl (rest := []) rfl (Nat.le_of_ble_eq_true rfl) ⟨Nat.le_of_ble_eq_true rfl, Nat.le_of_ble_eq_true rfl⟩ (by omega) (by omega) (fun r σ11361 hp => ?_)
  obtain ⟨h11362, x11363, rfl⟩ := hp
  have h11364 := h11362.1
  have h11365 := hHR.keepL (fun a ha _ => h11362.2 a (by rw [show kA _ a = 0 from ha]; decide))
  have h11366 := (h11362.2 (b + 1480) (by rw [show kA _ (b + 1480) = 0 from kA_o]; decide)).trans hout
  refine m_pop2_2 F rfl e_L_law_899 ?_
  refine m_aload_n F rfl e_L_law_900 ?_
  refine m_aload_n F rfl e_L_law_901 ?_
  refine m_iload F rfl e_L_law_902 ?_
  refine m_iconst F (v := 1) (by decide) e_L_law_904 ?_
  refine m_iadd F e_L_law_905 ?_
  refine Wm.topE (w := nI (i + 1)) (nI_add i 1) ?_
  refine m_sld F (j := i + 1) e_L_law_906 hX hb (nI_clamp (by omega)) (vp_in_nI (by omega) (by omega)) ?_
  refine m_aload_n F rfl e_L_law_907 ?_
  refine m_iload F rfl e_L_law_908 ?_
  refine m_iconst F (v := 2) (by decide) e_L_law_910 ?_
  refine m_iadd F e_L_law_911 ?_
  refine Wm.topE (w := nI (i + 2)) (nI_add i 2) ?_
  refine m_sld F (j := i + 2) e_L_law_912 hX hb (nI_clamp (by omega)) (vp_in_nI (by omega) (by omega)) ?_
  refine m_aload_n F rfl e_L_law_913 ?_
  refine m_iload F rfl e_L_law_914 ?_
  refine m_iconst F (v := 3) (by decide) e_L_law_916 ?_
  refine m_iadd F e_L_law_917 ?_
  refine Wm.topE (w := nI (i + 3)) (nI_add i 3) ?_
  refine m_sld F (j := i + 3) e_L_law_918 hX hb (nI_clamp (by omega)) (vp_in_nI (by omega) (by omega)) ?_
  refine l_callM F e_L_law_919 (q_X10_putOff (x_l X) V (b + 1457) T 1 u h P L0_ _ _ (xs (i + 1)) (xs (i + 2)) (xs (i + 3)) h11365 hok hP (by first | omega | assumption) (by first | omega | assumption)) cb_X10_putOff ml_L_106 im_X10_putOff se_X10_putOff h11365 rfl rfl (rest := []) rfl (Nat.le_of_ble_eq_true rfl) ⟨Nat.le_of_ble_eq_true rfl, Nat.le_of_ble_eq_true rfl⟩ (by omega) (by omega) (fun r σ11367 hp => ?_)
  obtain ⟨u11369, hu11369, L11370, okL11370, h11368, x11371, rfl⟩ := hp
  have h11372 := h11368.1
  have h11373 := h11364.keepM (fun a ha => h11368.2 a (by rw [ha]; decide))
  have h11374 := (h11368.2 (b + 1480) (by rw [kC_0 (c := b + 1457) (by omega)]; decide)).trans h11366
  refine m_pop2_2 F rfl e_L_law_922 ?_
  refine m_goto F e_L_law_923 ?_
  exact hN _ (M + 1) T _ _ _ (by omega) (by omega) (by omega) ⟨by omega, h11373, ⟨_, h11374⟩, u11369, h, P, L11370, ⟨hu11369, hh, hP, hkk, hm0, hw0, okL11370⟩, h11372⟩
set_option maxRecDepth 20000 in
theorem lc_19 {V : VX} {X : MX} {nm : String} {b sb N k z i L M T : Nat} {xs : Nat → Int32} {σ : Mem} (F : Fx V X (yLw nm) cL_law 7 ret room_1) (hX : va_X sb L xs (x_s X) V.2.2) (hb : sb < V.2.2.size) (hl : (x_l X).stackTraces = false) (hi : i + 6 ≤ L) (hL : L ≤ 3072) (hk : k ≤ 2100) (hz : z ≤ 80000) (hM : M ≤ 10000000) (hI : IV V b M T σ) (hN : ∀ (N' M' T' : Nat) (σ' : Mem) (k' z' : Nat), k' ≤ k + 1 → z' ≤ z + 6 → M' ≤ M + 10000 → IV V b M' T' σ' → Wm V X 7 N' σ' k' z' 1745 [(4, .int (nI i)), (3, .ref (b + 1480)), (2, .ref (b + 1457)), (1, .ref b), (0, .ref sb)] []) : Wm V X 7 N σ k z 926 [(4, .int (nI i)), (3, .ref (b + 1480)), (2, .ref (b + 1457)), (1, .ref b), (0, .ref sb)] [] := by
  obtain ⟨hT, hHT, ⟨z0, hout⟩, u, h, P, L0_, ⟨hu, hh, hP, hkk, hm0, hw0, hok⟩, hHR⟩ := hI
  refine m_aload_n F rfl e_L_law_926 ?_
  refine m_aload_n F rfl e_L_law_927 ?_
  refine m_iload F rfl e_L_law_928 ?_
  refine m_iconst F (v := 1) (by decide) e_L_law_930 ?_
  refine m_iadd F e_L_law_931 ?_
  refine Wm.topE (w := nI (i + 1)) (nI_add i 1) ?_
  refine m_sld F (j := i + 1) e_L_law_932 hX hb (nI_clamp (by omega)) (vp_in_nI (by omega) (by omega)) ?_
  refine l_callC F e_L_law_933 (s_X9_become (x_l X) V b M 1 T _ _ b (xs (i + 1)) hHT kA_b  (by omega)) cb_X9_become ml_L_107 im_X9_become se_X9_become hHT rfl rfl (rest := []) rfl (Nat.le_of_ble_eq_true rfl) ⟨Nat.le_of_ble_eq_true rfl, Nat.le_of_ble_eq_true rfl⟩ (by omega) (by omega) (fun r σ11375 hp => ?_)
  obtain ⟨h11376, x11377, rfl⟩ := hp
  have h11378 := h11376.1
  have h11379 := hHR.keepL (fun a ha _ => h11376.2 a (by rw [show kA _ a = 0 from ha]; decide))
  have h11380 := (h11376.2 (b + 1480) (by rw [show kA _ (b + 1480) = 0 from kA_o]; decide)).trans hout
  refine m_pop F rfl e_L_law_936 ?_
  refine m_aload_n F rfl e_L_law_937 ?_
  refine m_aload_n F rfl e_L_law_938 ?_
  refine m_iload F rfl e_L_law_939 ?_
  refine m_iconst F (v := 1) (by decide) e_L_law_941 ?_
  refine m_iadd F e_L_law_942 ?_
  refine Wm.topE (w := nI (i + 1)) (nI_add i 1) ?_
  refine m_sld F (j := i + 1) e_L_law_943 hX hb (nI_clamp (by omega)) (vp_in_nI (by omega) (by omega)) ?_
  refine l_callM F e_L_law_944 (q_X10_become (x_l X) V (b + 1457) T 1 u h P L0_ _ _ (xs (i + 1)) h11379 hok hP (by first | omega | assumption) (by first | omega | assumption)) cb_X10_become ml_L_110 im_X10_become se_X10_become h11379 rfl rfl (rest := []) rfl (Nat.le_of_ble_eq_true rfl) ⟨Nat.le_of_ble_eq_true rfl, Nat.le_of_ble_eq_true rfl⟩ (by omega) (by omega) (fun r σ11381 hp => ?_)
  obtain ⟨u11383, hu11383, L11384, okL11384, h11382, x11385, rfl⟩ := hp
  have h11386 := h11382.1
  have h11387 := h11378.keepM (fun a ha => h11382.2 a (by rw [ha]; decide))
  have h11388 := (h11382.2 (b + 1480) (by rw [kC_0 (c := b + 1457) (by omega)]; decide)).trans h11380
  refine m_pop F rfl e_L_law_947 ?_
  refine m_goto F e_L_law_948 ?_
  exact hN _ M T _ _ _ (by omega) (by omega) (by omega) ⟨by omega, h11387, ⟨_, h11388⟩, u11383, h, P, L11384, ⟨hu11383, hh, hP, hkk, hm0, hw0, okL11384⟩, h11386⟩
set_option maxRecDepth 20000 in
theorem lc_20 {V : VX} {X : MX} {nm : String} {b sb N k z i L M T : Nat} {xs : Nat → Int32} {σ : Mem} (F : Fx V X (yLw nm) cL_law 7 ret room_1) (hX : va_X sb L xs (x_s X) V.2.2) (hb : sb < V.2.2.size) (hl : (x_l X).stackTraces = false) (hi : i + 6 ≤ L) (hL : L ≤ 3072) (hk : k ≤ 2100) (hz : z ≤ 80000) (hM : M ≤ 10000000) (hI : IV V b M T σ) (hN : ∀ (N' M' T' : Nat) (σ' : Mem) (k' z' : Nat), k' ≤ k + 1 → z' ≤ z + 6 → M' ≤ M + 10000 → IV V b M' T' σ' → Wm V X 7 N' σ' k' z' 1745 [(4, .int (nI i)), (3, .ref (b + 1480)), (2, .ref (b + 1457)), (1, .ref b), (0, .ref sb)] []) : Wm V X 7 N σ k z 951 [(4, .int (nI i)), (3, .ref (b + 1480)), (2, .ref (b + 1457)), (1, .ref b), (0, .ref sb)] [] := by
  obtain ⟨hT, hHT, ⟨z0, hout⟩, u, h, P, L0_, ⟨hu, hh, hP, hkk, hm0, hw0, hok⟩, hHR⟩ := hI
  refine m_aload_n F rfl e_L_law_951 ?_
  refine m_aload_n F rfl e_L_law_952 ?_
  refine m_iload F rfl e_L_law_953 ?_
  refine m_iconst F (v := 1) (by decide) e_L_law_955 ?_
  refine m_iadd F e_L_law_956 ?_
  refine Wm.topE (w := nI (i + 1)) (nI_add i 1) ?_
  refine m_sld F (j := i + 1) e_L_law_957 hX hb (nI_clamp (by omega)) (vp_in_nI (by omega) (by omega)) ?_
  refine m_aload_n F rfl e_L_law_958 ?_
  refine m_iload F rfl e_L_law_959 ?_
  refine m_iconst F (v := 2) (by decide) e_L_law_961 ?_
  refine m_iadd F e_L_law_962 ?_
  refine Wm.topE (w := nI (i + 2)) (nI_add i 2) ?_
  refine m_sld F (j := i + 2) e_L_law_963 hX hb (nI_clamp (by omega)) (vp_in_nI (by omega) (by omega)) ?_
  refine m_aload_n F rfl e_L_law_964 ?_
  refine m_iload F rfl e_L_law_965 ?_
  refine m_iconst F (v := 3) (by decide) e_L_law_967 ?_
  refine m_iadd F e_L_law_968 ?_
  refine Wm.topE (w := nI (i + 3)) (nI_add i 3) ?_
  refine m_sld F (j := i + 3) e_L_law_969 hX hb (nI_clamp (by omega)) (vp_in_nI (by omega) (by omega)) ?_
  refine l_callC F e_L_law_970 (s_X9_plan (x_l X) V b M 1 T _ _ b (xs (i + 1)) (xs (i + 2)) (xs (i + 3)) hHT kA_b  (by omega)) cb_X9_plan ml_L_111 im_X9_plan se_X9_plan hHT rfl rfl (rest := []) rfl (Nat.le_of_ble_eq_true rfl) ⟨Nat.le_of_ble_eq_true rfl, Nat.le_of_ble_eq_true rfl⟩ (by omega) (by omega) (fun r σ11389 hp => ?_)
  obtain ⟨h11390, x11391, rfl⟩ := hp
  have h11392 := h11390.1
  have h11393 := hHR.keepL (fun a ha _ => h11390.2 a (by rw [show kA _ a = 0 from ha]; decide))
  have h11394 := (h11390.2 (b + 1480) (by rw [show kA _ (b + 1480) = 0 from kA_o]; decide)).trans hout
  refine m_pop2_2 F rfl e_L_law_973 ?_
  refine m_aload_n F rfl e_L_law_974 ?_
  refine m_aload_n F rfl e_L_law_975 ?_
  refine m_iload F rfl e_L_law_976 ?_
  refine m_iconst F (v := 1) (by decide) e_L_law_978 ?_
  refine m_iadd F e_L_law_979 ?_
  refine Wm.topE (w := nI (i + 1)) (nI_add i 1) ?_
  refine m_sld F (j := i + 1) e_L_law_980 hX hb (nI_clamp (by omega)) (vp_in_nI (by omega) (by omega)) ?_
  refine m_aload_n F rfl e_L_law_981 ?_
  refine m_iload F rfl e_L_law_982 ?_
  refine m_iconst F (v := 2) (by decide) e_L_law_984 ?_
  refine m_iadd F e_L_law_985 ?_
  refine Wm.topE (w := nI (i + 2)) (nI_add i 2) ?_
  refine m_sld F (j := i + 2) e_L_law_986 hX hb (nI_clamp (by omega)) (vp_in_nI (by omega) (by omega)) ?_
  refine m_aload_n F rfl e_L_law_987 ?_
  refine m_iload F rfl e_L_law_988 ?_
  refine m_iconst F (v := 3) (by decide) e_L_law_990 ?_
  refine m_iadd F e_L_law_991 ?_
  refine Wm.topE (w := nI (i + 3)) (nI_add i 3) ?_
  refine m_sld F (j := i + 3) e_L_law_992 hX hb (nI_clamp (by omega)) (vp_in_nI (by omega) (by omega)) ?_
  refine l_callM F e_L_law_993 (q_X10_plan (x_l X) V (b + 1457) T 1 u h P L0_ _ _ (xs (i + 1)) (xs (i + 2)) (xs (i + 3)) h11393 hok hP ) cb_X10_plan ml_L_114 im_X10_plan se_X10_plan h11393 rfl rfl (rest := []) rfl (Nat.le_of_ble_eq_true rfl) ⟨Nat.le_of_ble_eq_true rfl, Nat.le_of_ble_eq_true rfl⟩ (by omega) (by omega) (fun r σ11395 hp => ?_)
  obtain ⟨h11396, x11397, rfl⟩ := hp
  have h11398 := h11396.1
  have h11399 := h11392.keepM (fun a ha => h11396.2 a (by rw [ha]; decide))
  have h11400 := (h11396.2 (b + 1480) (by rw [kC_0 (c := b + 1457) (by omega)]; decide)).trans h11394
  refine m_pop2_2 F rfl e_L_law_996 ?_
  refine m_goto F e_L_law_997 ?_
  exact hN _ (M + 648) T _ _ _ (by omega) (by omega) (by omega) ⟨by omega, h11399, ⟨_, h11400⟩, u, h, P, L0_, ⟨hu, hh, hP, hkk, hm0, hw0, hok⟩, h11398⟩
set_option maxRecDepth 20000 in
theorem lc_21 {V : VX} {X : MX} {nm : String} {b sb N k z i L M T : Nat} {xs : Nat → Int32} {σ : Mem} (F : Fx V X (yLw nm) cL_law 7 ret room_1) (hX : va_X sb L xs (x_s X) V.2.2) (hb : sb < V.2.2.size) (hl : (x_l X).stackTraces = false) (hi : i + 6 ≤ L) (hL : L ≤ 3072) (hk : k ≤ 2100) (hz : z ≤ 80000) (hM : M ≤ 10000000) (hI : IV V b M T σ) (hN : ∀ (N' M' T' : Nat) (σ' : Mem) (k' z' : Nat), k' ≤ k + 1 → z' ≤ z + 6 → M' ≤ M + 10000 → IV V b M' T' σ' → Wm V X 7 N' σ' k' z' 1745 [(4, .int (nI i)), (3, .ref (b + 1480)), (2, .ref (b + 1457)), (1, .ref b), (0, .ref sb)] []) : Wm V X 7 N σ k z 1000 [(4, .int (nI i)), (3, .ref (b + 1480)), (2, .ref (b + 1457)), (1, .ref b), (0, .ref sb)] [] := by
  obtain ⟨hT, hHT, ⟨z0, hout⟩, u, h, P, L0_, ⟨hu, hh, hP, hkk, hm0, hw0, hok⟩, hHR⟩ := hI
  refine m_aload_n F rfl e_L_law_1000 ?_
  refine m_aload_n F rfl e_L_law_1001 ?_
  refine m_iload F rfl e_L_law_1002 ?_
  refine m_iconst F (v := 1) (by decide) e_L_law_1004 ?_
  refine m_iadd F e_L_law_1005 ?_
  refine Wm.topE (w := nI (i + 1)) (nI_add i 1) ?_
  refine m_sld F (j := i + 1) e_L_law_1006 hX hb (nI_clamp (by omega)) (vp_in_nI (by omega) (by omega)) ?_
  refine l_callC F e_L_law_1007 (s_X9_all (x_l X) V b M 1 T _ _ b (xs (i + 1)) hHT kA_b  (by omega)) cb_X9_all ml_L_115 im_X9_all se_X9_all hHT rfl rfl (rest := []) rfl (Nat.le_of_ble_eq_true rfl) ⟨Nat.le_of_ble_eq_true rfl, Nat.le_of_ble_eq_true rfl⟩ (by omega) (by omega) (fun r σ11401 hp => ?_)
  obtain ⟨h11402, x11403, rfl⟩ := hp
  have h11404 := h11402.1
  have h11405 := hHR.keepL (fun a ha _ => h11402.2 a (by rw [show kA _ a = 0 from ha]; decide))
  have h11406 := (h11402.2 (b + 1480) (by rw [show kA _ (b + 1480) = 0 from kA_o]; decide)).trans hout
  refine m_pop2_2 F rfl e_L_law_1010 ?_
  refine m_aload_n F rfl e_L_law_1011 ?_
  refine m_aload_n F rfl e_L_law_1012 ?_
  refine m_iload F rfl e_L_law_1013 ?_
  refine m_iconst F (v := 1) (by decide) e_L_law_1015 ?_
  refine m_iadd F e_L_law_1016 ?_
  refine Wm.topE (w := nI (i + 1)) (nI_add i 1) ?_
  refine m_sld F (j := i + 1) e_L_law_1017 hX hb (nI_clamp (by omega)) (vp_in_nI (by omega) (by omega)) ?_
  refine l_callM F e_L_law_1018 (q_X10_all (x_l X) V (b + 1457) T 1 u h P L0_ _ _ (xs (i + 1)) h11405 hok hP ) cb_X10_all ml_L_118 im_X10_all se_X10_all h11405 rfl rfl (rest := []) rfl (Nat.le_of_ble_eq_true rfl) ⟨Nat.le_of_ble_eq_true rfl, Nat.le_of_ble_eq_true rfl⟩ (by omega) (by omega) (fun r σ11407 hp => ?_)
  obtain ⟨h11408, x11409, rfl⟩ := hp
  have h11410 := h11408.1
  have h11411 := h11404.keepM (fun a ha => h11408.2 a (by rw [ha]; decide))
  have h11412 := (h11408.2 (b + 1480) (by rw [kC_0 (c := b + 1457) (by omega)]; decide)).trans h11406
  refine m_pop2_2 F rfl e_L_law_1021 ?_
  refine m_goto F e_L_law_1022 ?_
  exact hN _ (M + 648) T _ _ _ (by omega) (by omega) (by omega) ⟨by omega, h11411, ⟨_, h11412⟩, u, h, P, L0_, ⟨hu, hh, hP, hkk, hm0, hw0, hok⟩, h11410⟩
set_option maxRecDepth 20000 in
theorem lc_22 {V : VX} {X : MX} {nm : String} {b sb N k z i L M T : Nat} {xs : Nat → Int32} {σ : Mem} (F : Fx V X (yLw nm) cL_law 7 ret room_1) (hX : va_X sb L xs (x_s X) V.2.2) (hb : sb < V.2.2.size) (hl : (x_l X).stackTraces = false) (hi : i + 6 ≤ L) (hL : L ≤ 3072) (hk : k ≤ 2100) (hz : z ≤ 80000) (hM : M ≤ 10000000) (hI : IV V b M T σ) (hN : ∀ (N' M' T' : Nat) (σ' : Mem) (k' z' : Nat), k' ≤ k + 1 → z' ≤ z + 6 → M' ≤ M + 10000 → IV V b M' T' σ' → Wm V X 7 N' σ' k' z' 1745 [(4, .int (nI i)), (3, .ref (b + 1480)), (2, .ref (b + 1457)), (1, .ref b), (0, .ref sb)] []) : Wm V X 7 N σ k z 1025 [(4, .int (nI i)), (3, .ref (b + 1480)), (2, .ref (b + 1457)), (1, .ref b), (0, .ref sb)] [] := by
  obtain ⟨hT, hHT, ⟨z0, hout⟩, u, h, P, L0_, ⟨hu, hh, hP, hkk, hm0, hw0, hok⟩, hHR⟩ := hI
  refine m_aload_n F rfl e_L_law_1025 ?_
  refine m_aload_n F rfl e_L_law_1026 ?_
  refine m_iload F rfl e_L_law_1027 ?_
  refine m_iconst F (v := 1) (by decide) e_L_law_1029 ?_
  refine m_iadd F e_L_law_1030 ?_
  refine Wm.topE (w := nI (i + 1)) (nI_add i 1) ?_
  refine m_sld F (j := i + 1) e_L_law_1031 hX hb (nI_clamp (by omega)) (vp_in_nI (by omega) (by omega)) ?_
  refine m_aload_n F rfl e_L_law_1032 ?_
  refine m_iload F rfl e_L_law_1033 ?_
  refine m_iconst F (v := 2) (by decide) e_L_law_1035 ?_
  refine m_iadd F e_L_law_1036 ?_
  refine Wm.topE (w := nI (i + 2)) (nI_add i 2) ?_
  refine m_sld F (j := i + 2) e_L_law_1037 hX hb (nI_clamp (by omega)) (vp_in_nI (by omega) (by omega)) ?_
  refine l_callC F e_L_law_1038 (s_X9_soon (x_l X) V b M 1 T _ _ b (xs (i + 1)) (xs (i + 2)) hHT kA_b  (by omega)) cb_X9_soon ml_L_119 im_X9_soon se_X9_soon hHT rfl rfl (rest := []) rfl (Nat.le_of_ble_eq_true rfl) ⟨Nat.le_of_ble_eq_true rfl, Nat.le_of_ble_eq_true rfl⟩ (by omega) (by omega) (fun r σ11413 hp => ?_)
  obtain ⟨h11414, x11415, rfl⟩ := hp
  have h11416 := h11414.1
  have h11417 := hHR.keepL (fun a ha _ => h11414.2 a (by rw [show kA _ a = 0 from ha]; decide))
  have h11418 := (h11414.2 (b + 1480) (by rw [show kA _ (b + 1480) = 0 from kA_o]; decide)).trans hout
  refine m_pop2_2 F rfl e_L_law_1041 ?_
  refine m_aload_n F rfl e_L_law_1042 ?_
  refine m_aload_n F rfl e_L_law_1043 ?_
  refine m_iload F rfl e_L_law_1044 ?_
  refine m_iconst F (v := 1) (by decide) e_L_law_1046 ?_
  refine m_iadd F e_L_law_1047 ?_
  refine Wm.topE (w := nI (i + 1)) (nI_add i 1) ?_
  refine m_sld F (j := i + 1) e_L_law_1048 hX hb (nI_clamp (by omega)) (vp_in_nI (by omega) (by omega)) ?_
  refine m_aload_n F rfl e_L_law_1049 ?_
  refine m_iload F rfl e_L_law_1050 ?_
  refine m_iconst F (v := 2) (by decide) e_L_law_1052 ?_
  refine m_iadd F e_L_law_1053 ?_
  refine Wm.topE (w := nI (i + 2)) (nI_add i 2) ?_
  refine m_sld F (j := i + 2) e_L_law_1054 hX hb (nI_clamp (by omega)) (vp_in_nI (by omega) (by omega)) ?_
  refine l_callM F e_L_law_1055 (q_X10_soon (x_l X) V (b + 1457) T 1 u h P L0_ _ _ (xs (i + 1)) (xs (i + 2)) h11417 hok hP ) cb_X10_soon ml_L_122 im_X10_soon se_X10_soon h11417 rfl rfl (rest := []) rfl (Nat.le_of_ble_eq_true rfl) ⟨Nat.le_of_ble_eq_true rfl, Nat.le_of_ble_eq_true rfl⟩ (by omega) (by omega) (fun r σ11419 hp => ?_)
  obtain ⟨h11420, x11421, rfl⟩ := hp
  have h11422 := h11420.1
  have h11423 := h11416.keepM (fun a ha => h11420.2 a (by rw [ha]; decide))
  have h11424 := (h11420.2 (b + 1480) (by rw [kC_0 (c := b + 1457) (by omega)]; decide)).trans h11418
  refine m_pop2_2 F rfl e_L_law_1058 ?_
  refine m_goto F e_L_law_1059 ?_
  exact hN _ (M + 648) T _ _ _ (by omega) (by omega) (by omega) ⟨by omega, h11423, ⟨_, h11424⟩, u, h, P, L0_, ⟨hu, hh, hP, hkk, hm0, hw0, hok⟩, h11422⟩
set_option maxRecDepth 20000 in
theorem lc_23 {V : VX} {X : MX} {nm : String} {b sb N k z i L M T : Nat} {xs : Nat → Int32} {σ : Mem} (F : Fx V X (yLw nm) cL_law 7 ret room_1) (hX : va_X sb L xs (x_s X) V.2.2) (hb : sb < V.2.2.size) (hl : (x_l X).stackTraces = false) (hi : i + 6 ≤ L) (hL : L ≤ 3072) (hk : k ≤ 2100) (hz : z ≤ 80000) (hM : M ≤ 10000000) (hI : IV V b M T σ) (hN : ∀ (N' M' T' : Nat) (σ' : Mem) (k' z' : Nat), k' ≤ k + 1 → z' ≤ z + 6 → M' ≤ M + 10000 → IV V b M' T' σ' → Wm V X 7 N' σ' k' z' 1745 [(4, .int (nI i)), (3, .ref (b + 1480)), (2, .ref (b + 1457)), (1, .ref b), (0, .ref sb)] []) : Wm V X 7 N σ k z 1062 [(4, .int (nI i)), (3, .ref (b + 1480)), (2, .ref (b + 1457)), (1, .ref b), (0, .ref sb)] [] := by
  obtain ⟨hT, hHT, ⟨z0, hout⟩, u, h, P, L0_, ⟨hu, hh, hP, hkk, hm0, hw0, hok⟩, hHR⟩ := hI
  refine m_aload_n F rfl e_L_law_1062 ?_
  refine m_aload_n F rfl e_L_law_1063 ?_
  refine m_iload F rfl e_L_law_1064 ?_
  refine m_iconst F (v := 1) (by decide) e_L_law_1066 ?_
  refine m_iadd F e_L_law_1067 ?_
  refine Wm.topE (w := nI (i + 1)) (nI_add i 1) ?_
  refine m_sld F (j := i + 1) e_L_law_1068 hX hb (nI_clamp (by omega)) (vp_in_nI (by omega) (by omega)) ?_
  refine m_aload_n F rfl e_L_law_1069 ?_
  refine m_iload F rfl e_L_law_1070 ?_
  refine m_iconst F (v := 2) (by decide) e_L_law_1072 ?_
  refine m_iadd F e_L_law_1073 ?_
  refine Wm.topE (w := nI (i + 2)) (nI_add i 2) ?_
  refine m_sld F (j := i + 2) e_L_law_1074 hX hb (nI_clamp (by omega)) (vp_in_nI (by omega) (by omega)) ?_
  refine l_callC F e_L_law_1075 (s_X9_sum (x_l X) V b M 1 T _ _ b (xs (i + 1)) (xs (i + 2)) hHT kA_b  (by omega)) cb_X9_sum ml_L_123 im_X9_sum se_X9_sum hHT rfl rfl (rest := []) rfl (Nat.le_of_ble_eq_true rfl) ⟨Nat.le_of_ble_eq_true rfl, Nat.le_of_ble_eq_true rfl⟩ (by omega) (by omega) (fun r σ11425 hp => ?_)
  obtain ⟨h11426, x11427, rfl⟩ := hp
  have h11428 := h11426.1
  have h11429 := hHR.keepL (fun a ha _ => h11426.2 a (by rw [show kA _ a = 0 from ha]; decide))
  have h11430 := (h11426.2 (b + 1480) (by rw [show kA _ (b + 1480) = 0 from kA_o]; decide)).trans hout
  refine m_pop2_2 F rfl e_L_law_1078 ?_
  refine m_aload_n F rfl e_L_law_1079 ?_
  refine m_aload_n F rfl e_L_law_1080 ?_
  refine m_iload F rfl e_L_law_1081 ?_
  refine m_iconst F (v := 1) (by decide) e_L_law_1083 ?_
  refine m_iadd F e_L_law_1084 ?_
  refine Wm.topE (w := nI (i + 1)) (nI_add i 1) ?_
  refine m_sld F (j := i + 1) e_L_law_1085 hX hb (nI_clamp (by omega)) (vp_in_nI (by omega) (by omega)) ?_
  refine m_aload_n F rfl e_L_law_1086 ?_
  refine m_iload F rfl e_L_law_1087 ?_
  refine m_iconst F (v := 2) (by decide) e_L_law_1089 ?_
  refine m_iadd F e_L_law_1090 ?_
  refine Wm.topE (w := nI (i + 2)) (nI_add i 2) ?_
  refine m_sld F (j := i + 2) e_L_law_1091 hX hb (nI_clamp (by omega)) (vp_in_nI (by omega) (by omega)) ?_
  refine l_callM F e_L_law_1092 (q_X10_sum (x_l X) V (b + 1457) T 1 u h P L0_ _ _ (xs (i + 1)) (xs (i + 2)) h11429 hok.b hP ) cb_X10_sum ml_L_126 im_X10_sum se_X10_sum h11429 rfl rfl (rest := []) rfl (Nat.le_of_ble_eq_true rfl) ⟨Nat.le_of_ble_eq_true rfl, Nat.le_of_ble_eq_true rfl⟩ (by omega) (by omega) (fun r σ11431 hp => ?_)
  obtain ⟨h11432, x11433, rfl⟩ := hp
  have h11434 := h11432.1
  have h11435 := h11428.keepM (fun a ha => h11432.2 a (by rw [ha]; decide))
  have h11436 := (h11432.2 (b + 1480) (by rw [kC_0 (c := b + 1457) (by omega)]; decide)).trans h11430
  refine m_pop2_2 F rfl e_L_law_1095 ?_
  refine m_goto F e_L_law_1096 ?_
  exact hN _ M T _ _ _ (by omega) (by omega) (by omega) ⟨by omega, h11435, ⟨_, h11436⟩, u, h, P, L0_, ⟨hu, hh, hP, hkk, hm0, hw0, hok⟩, h11434⟩
set_option maxRecDepth 20000 in
theorem lc_24 {V : VX} {X : MX} {nm : String} {b sb N k z i L M T : Nat} {xs : Nat → Int32} {σ : Mem} (F : Fx V X (yLw nm) cL_law 7 ret room_1) (hX : va_X sb L xs (x_s X) V.2.2) (hb : sb < V.2.2.size) (hl : (x_l X).stackTraces = false) (hi : i + 6 ≤ L) (hL : L ≤ 3072) (hk : k ≤ 2100) (hz : z ≤ 80000) (hM : M ≤ 10000000) (hI : IV V b M T σ) (hN : ∀ (N' M' T' : Nat) (σ' : Mem) (k' z' : Nat), k' ≤ k + 1 → z' ≤ z + 6 → M' ≤ M + 10000 → IV V b M' T' σ' → Wm V X 7 N' σ' k' z' 1745 [(4, .int (nI i)), (3, .ref (b + 1480)), (2, .ref (b + 1457)), (1, .ref b), (0, .ref sb)] []) : Wm V X 7 N σ k z 1099 [(4, .int (nI i)), (3, .ref (b + 1480)), (2, .ref (b + 1457)), (1, .ref b), (0, .ref sb)] [] := by
  obtain ⟨hT, hHT, ⟨z0, hout⟩, u, h, P, L0_, ⟨hu, hh, hP, hkk, hm0, hw0, hok⟩, hHR⟩ := hI
  refine m_aload_n F rfl e_L_law_1099 ?_
  refine m_aload_n F rfl e_L_law_1100 ?_
  refine m_iload F rfl e_L_law_1101 ?_
  refine m_iconst F (v := 1) (by decide) e_L_law_1103 ?_
  refine m_iadd F e_L_law_1104 ?_
  refine Wm.topE (w := nI (i + 1)) (nI_add i 1) ?_
  refine m_sld F (j := i + 1) e_L_law_1105 hX hb (nI_clamp (by omega)) (vp_in_nI (by omega) (by omega)) ?_
  refine m_aload_n F rfl e_L_law_1106 ?_
  refine m_iload F rfl e_L_law_1107 ?_
  refine m_iconst F (v := 2) (by decide) e_L_law_1109 ?_
  refine m_iadd F e_L_law_1110 ?_
  refine Wm.topE (w := nI (i + 2)) (nI_add i 2) ?_
  refine m_sld F (j := i + 2) e_L_law_1111 hX hb (nI_clamp (by omega)) (vp_in_nI (by omega) (by omega)) ?_
  refine l_callC F e_L_law_1112 (s_X9_moved (x_l X) V b M 1 T _ _ b (xs (i + 1)) (xs (i + 2)) hHT kA_b  (by omega)) cb_X9_moved ml_L_127 im_X9_moved se_X9_moved hHT rfl rfl (rest := []) rfl (Nat.le_of_ble_eq_true rfl) ⟨Nat.le_of_ble_eq_true rfl, Nat.le_of_ble_eq_true rfl⟩ (by omega) (by omega) (fun r σ11437 hp => ?_)
  obtain ⟨h11438, x11439, rfl⟩ := hp
  have h11440 := h11438.1
  have h11441 := hHR.keepL (fun a ha _ => h11438.2 a (by rw [show kA _ a = 0 from ha]; decide))
  have h11442 := (h11438.2 (b + 1480) (by rw [show kA _ (b + 1480) = 0 from kA_o]; decide)).trans hout
  refine m_pop2_2 F rfl e_L_law_1115 ?_
  refine m_aload_n F rfl e_L_law_1116 ?_
  refine m_aload_n F rfl e_L_law_1117 ?_
  refine m_iload F rfl e_L_law_1118 ?_
  refine m_iconst F (v := 1) (by decide) e_L_law_1120 ?_
  refine m_iadd F e_L_law_1121 ?_
  refine Wm.topE (w := nI (i + 1)) (nI_add i 1) ?_
  refine m_sld F (j := i + 1) e_L_law_1122 hX hb (nI_clamp (by omega)) (vp_in_nI (by omega) (by omega)) ?_
  refine m_aload_n F rfl e_L_law_1123 ?_
  refine m_iload F rfl e_L_law_1124 ?_
  refine m_iconst F (v := 2) (by decide) e_L_law_1126 ?_
  refine m_iadd F e_L_law_1127 ?_
  refine Wm.topE (w := nI (i + 2)) (nI_add i 2) ?_
  refine m_sld F (j := i + 2) e_L_law_1128 hX hb (nI_clamp (by omega)) (vp_in_nI (by omega) (by omega)) ?_
  refine l_callM F e_L_law_1129 (q_X10_moved (x_l X) V (b + 1457) T 1 u h P L0_ _ _ (xs (i + 1)) (xs (i + 2)) h11441 hok.b hP ) cb_X10_moved ml_L_130 im_X10_moved se_X10_moved h11441 rfl rfl (rest := []) rfl (Nat.le_of_ble_eq_true rfl) ⟨Nat.le_of_ble_eq_true rfl, Nat.le_of_ble_eq_true rfl⟩ (by omega) (by omega) (fun r σ11443 hp => ?_)
  obtain ⟨h11444, x11445, rfl⟩ := hp
  have h11446 := h11444.1
  have h11447 := h11440.keepM (fun a ha => h11444.2 a (by rw [ha]; decide))
  have h11448 := (h11444.2 (b + 1480) (by rw [kC_0 (c := b + 1457) (by omega)]; decide)).trans h11442
  refine m_pop2_2 F rfl e_L_law_1132 ?_
  refine m_goto F e_L_law_1133 ?_
  exact hN _ M T _ _ _ (by omega) (by omega) (by omega) ⟨by omega, h11447, ⟨_, h11448⟩, u, h, P, L0_, ⟨hu, hh, hP, hkk, hm0, hw0, hok⟩, h11446⟩
set_option maxRecDepth 20000 in
theorem lc_25 {V : VX} {X : MX} {nm : String} {b sb N k z i L M T : Nat} {xs : Nat → Int32} {σ : Mem} (F : Fx V X (yLw nm) cL_law 7 ret room_1) (hX : va_X sb L xs (x_s X) V.2.2) (hb : sb < V.2.2.size) (hl : (x_l X).stackTraces = false) (hi : i + 6 ≤ L) (hL : L ≤ 3072) (hk : k ≤ 2100) (hz : z ≤ 80000) (hM : M ≤ 10000000) (hI : IV V b M T σ) (hN : ∀ (N' M' T' : Nat) (σ' : Mem) (k' z' : Nat), k' ≤ k + 1 → z' ≤ z + 6 → M' ≤ M + 10000 → IV V b M' T' σ' → Wm V X 7 N' σ' k' z' 1745 [(4, .int (nI i)), (3, .ref (b + 1480)), (2, .ref (b + 1457)), (1, .ref b), (0, .ref sb)] []) : Wm V X 7 N σ k z 1136 [(4, .int (nI i)), (3, .ref (b + 1480)), (2, .ref (b + 1457)), (1, .ref b), (0, .ref sb)] [] := by
  obtain ⟨hT, hHT, ⟨z0, hout⟩, u, h, P, L0_, ⟨hu, hh, hP, hkk, hm0, hw0, hok⟩, hHR⟩ := hI
  refine m_aload_n F rfl e_L_law_1136 ?_
  refine m_aload_n F rfl e_L_law_1137 ?_
  refine m_iload F rfl e_L_law_1138 ?_
  refine m_iconst F (v := 1) (by decide) e_L_law_1140 ?_
  refine m_iadd F e_L_law_1141 ?_
  refine Wm.topE (w := nI (i + 1)) (nI_add i 1) ?_
  refine m_sld F (j := i + 1) e_L_law_1142 hX hb (nI_clamp (by omega)) (vp_in_nI (by omega) (by omega)) ?_
  refine l_callC F e_L_law_1143 (s_X9_choose (x_l X) V b M 1 T _ _ b (xs (i + 1)) hHT kA_b  (by omega)) cb_X9_choose ml_L_131 im_X9_choose se_X9_choose hHT rfl rfl (rest := []) rfl (Nat.le_of_ble_eq_true rfl) ⟨Nat.le_of_ble_eq_true rfl, Nat.le_of_ble_eq_true rfl⟩ (by omega) (by omega) (fun r σ11449 hp => ?_)
  obtain ⟨h11450, x11451, rfl⟩ := hp
  have h11452 := h11450.1
  have h11453 := hHR.keepL (fun a ha _ => h11450.2 a (by rw [show kA _ a = 0 from ha]; decide))
  have h11454 := (h11450.2 (b + 1480) (by rw [show kA _ (b + 1480) = 0 from kA_o]; decide)).trans hout
  refine m_pop F rfl e_L_law_1146 ?_
  refine m_aload_n F rfl e_L_law_1147 ?_
  refine m_aload_n F rfl e_L_law_1148 ?_
  refine m_iload F rfl e_L_law_1149 ?_
  refine m_iconst F (v := 1) (by decide) e_L_law_1151 ?_
  refine m_iadd F e_L_law_1152 ?_
  refine Wm.topE (w := nI (i + 1)) (nI_add i 1) ?_
  refine m_sld F (j := i + 1) e_L_law_1153 hX hb (nI_clamp (by omega)) (vp_in_nI (by omega) (by omega)) ?_
  refine l_callM F e_L_law_1154 (q_X10_choose (x_l X) V (b + 1457) T 1 u h P L0_ _ _ (xs (i + 1)) h11453 hok hP ) cb_X10_choose ml_L_134 im_X10_choose se_X10_choose h11453 rfl rfl (rest := []) rfl (Nat.le_of_ble_eq_true rfl) ⟨Nat.le_of_ble_eq_true rfl, Nat.le_of_ble_eq_true rfl⟩ (by omega) (by omega) (fun r σ11455 hp => ?_)
  obtain ⟨h11456, x11457, rfl⟩ := hp
  have h11458 := h11456.1
  have h11459 := h11452.keepM (fun a ha => h11456.2 a (by rw [ha]; decide))
  have h11460 := (h11456.2 (b + 1480) (by rw [kC_0 (c := b + 1457) (by omega)]; decide)).trans h11454
  refine m_pop F rfl e_L_law_1157 ?_
  refine m_goto F e_L_law_1158 ?_
  exact hN _ M T _ _ _ (by omega) (by omega) (by omega) ⟨by omega, h11459, ⟨_, h11460⟩, u, h, P, L0_, ⟨hu, hh, hP, hkk, hm0, hw0, hok⟩, h11458⟩
set_option maxRecDepth 20000 in
theorem lc_26 {V : VX} {X : MX} {nm : String} {b sb N k z i L M T : Nat} {xs : Nat → Int32} {σ : Mem} (F : Fx V X (yLw nm) cL_law 7 ret room_1) (hX : va_X sb L xs (x_s X) V.2.2) (hb : sb < V.2.2.size) (hl : (x_l X).stackTraces = false) (hi : i + 6 ≤ L) (hL : L ≤ 3072) (hk : k ≤ 2100) (hz : z ≤ 80000) (hM : M ≤ 10000000) (hI : IV V b M T σ) (hN : ∀ (N' M' T' : Nat) (σ' : Mem) (k' z' : Nat), k' ≤ k + 1 → z' ≤ z + 6 → M' ≤ M + 10000 → IV V b M' T' σ' → Wm V X 7 N' σ' k' z' 1745 [(4, .int (nI i)), (3, .ref (b + 1480)), (2, .ref (b + 1457)), (1, .ref b), (0, .ref sb)] []) : Wm V X 7 N σ k z 1161 [(4, .int (nI i)), (3, .ref (b + 1480)), (2, .ref (b + 1457)), (1, .ref b), (0, .ref sb)] [] := by
  obtain ⟨hT, hHT, ⟨z0, hout⟩, u, h, P, L0_, ⟨hu, hh, hP, hkk, hm0, hw0, hok⟩, hHR⟩ := hI
  refine m_aload_n F rfl e_L_law_1161 ?_
  refine m_aload_n F rfl e_L_law_1162 ?_
  refine m_iload F rfl e_L_law_1163 ?_
  refine m_iconst F (v := 1) (by decide) e_L_law_1165 ?_
  refine m_iadd F e_L_law_1166 ?_
  refine Wm.topE (w := nI (i + 1)) (nI_add i 1) ?_
  refine m_sld F (j := i + 1) e_L_law_1167 hX hb (nI_clamp (by omega)) (vp_in_nI (by omega) (by omega)) ?_
  refine m_aload_n F rfl e_L_law_1168 ?_
  refine m_iload F rfl e_L_law_1169 ?_
  refine m_iconst F (v := 2) (by decide) e_L_law_1171 ?_
  refine m_iadd F e_L_law_1172 ?_
  refine Wm.topE (w := nI (i + 2)) (nI_add i 2) ?_
  refine m_sld F (j := i + 2) e_L_law_1173 hX hb (nI_clamp (by omega)) (vp_in_nI (by omega) (by omega)) ?_
  refine m_if_eq F e_L_law_1174 (fun q1174 => ?_) (fun q1174 => ?_)
  · refine m_iconst F (v := 0) (by decide) e_L_law_1181 ?_
    refine l_callC F e_L_law_1182 (s_X9_life (x_l X) V b M 1 T _ _ b (xs (i + 1)) 0 hHT kA_b (by omega) (by omega)) cb_X9_life ml_L_135 im_X9_life se_X9_life hHT rfl rfl (rest := []) rfl (Nat.le_of_ble_eq_true rfl) ⟨Nat.le_of_ble_eq_true rfl, Nat.le_of_ble_eq_true rfl⟩ (by omega) (by omega) (fun r σ11461 hp => ?_)
    obtain ⟨h11462, x11463, rfl⟩ := hp
    have h11464 := h11462.1
    have h11465 := hHR.keepL (fun a ha _ => h11462.2 a (by rw [show kA _ a = 0 from ha]; decide))
    have h11466 := (h11462.2 (b + 1480) (by rw [show kA _ (b + 1480) = 0 from kA_o]; decide)).trans hout
    refine m_pop2_2 F rfl e_L_law_1185 ?_
    refine m_aload_n F rfl e_L_law_1186 ?_
    refine m_aload_n F rfl e_L_law_1187 ?_
    refine m_iload F rfl e_L_law_1188 ?_
    refine m_iconst F (v := 1) (by decide) e_L_law_1190 ?_
    refine m_iadd F e_L_law_1191 ?_
    refine Wm.topE (w := nI (i + 1)) (nI_add i 1) ?_
    refine m_sld F (j := i + 1) e_L_law_1192 hX hb (nI_clamp (by omega)) (vp_in_nI (by omega) (by omega)) ?_
    refine m_aload_n F rfl e_L_law_1193 ?_
    refine m_iload F rfl e_L_law_1194 ?_
    refine m_iconst F (v := 2) (by decide) e_L_law_1196 ?_
    refine m_iadd F e_L_law_1197 ?_
    refine Wm.topE (w := nI (i + 2)) (nI_add i 2) ?_
    refine m_sld F (j := i + 2) e_L_law_1198 hX hb (nI_clamp (by omega)) (vp_in_nI (by omega) (by omega)) ?_
    refine m_if_eq F e_L_law_1199 (fun q1199 => ?_) (fun q1199 => ?_)
    · refine m_iconst F (v := 0) (by decide) e_L_law_1206 ?_
      refine l_callM F e_L_law_1207 (q_X10_life (x_l X) V (b + 1457) T 1 u h P L0_ _ _ (xs (i + 1)) 0 h11465 hok.b hP ) cb_X10_life ml_L_139 im_X10_life se_X10_life h11465 rfl rfl (rest := []) rfl (Nat.le_of_ble_eq_true rfl) ⟨Nat.le_of_ble_eq_true rfl, Nat.le_of_ble_eq_true rfl⟩ (by omega) (by omega) (fun r σ11467 hp => ?_)
      obtain ⟨h11468, x11469, rfl⟩ := hp
      have h11470 := h11468.1
      have h11471 := h11464.keepM (fun a ha => h11468.2 a (by rw [ha]; decide))
      have h11472 := (h11468.2 (b + 1480) (by rw [kC_0 (c := b + 1457) (by omega)]; decide)).trans h11466
      refine m_pop2_2 F rfl e_L_law_1210 ?_
      refine m_goto F e_L_law_1211 ?_
      exact hN _ M T _ _ _ (by omega) (by omega) (by omega) ⟨by omega, h11471, ⟨_, h11472⟩, u, h, P, L0_, ⟨hu, hh, hP, hkk, hm0, hw0, hok⟩, h11470⟩
    · refine m_iconst F (v := 1) (by decide) e_L_law_1202 ?_
      refine m_goto F e_L_law_1203 ?_
      refine l_callM F e_L_law_1207 (q_X10_life (x_l X) V (b + 1457) T 1 u h P L0_ _ _ (xs (i + 1)) 1 h11465 hok.b hP ) cb_X10_life ml_L_139 im_X10_life se_X10_life h11465 rfl rfl (rest := []) rfl (Nat.le_of_ble_eq_true rfl) ⟨Nat.le_of_ble_eq_true rfl, Nat.le_of_ble_eq_true rfl⟩ (by omega) (by omega) (fun r σ11473 hp => ?_)
      obtain ⟨h11474, x11475, rfl⟩ := hp
      have h11476 := h11474.1
      have h11477 := h11464.keepM (fun a ha => h11474.2 a (by rw [ha]; decide))
      have h11478 := (h11474.2 (b + 1480) (by rw [kC_0 (c := b + 1457) (by omega)]; decide)).trans h11466
      refine m_pop2_2 F rfl e_L_law_1210 ?_
      refine m_goto F e_L_law_1211 ?_
      exact hN _ M T _ _ _ (by omega) (by omega) (by omega) ⟨by omega, h11477, ⟨_, h11478⟩, u, h, P, L0_, ⟨hu, hh, hP, hkk, hm0, hw0, hok⟩, h11476⟩
  · refine m_iconst F (v := 1) (by decide) e_L_law_1177 ?_
    refine m_goto F e_L_law_1178 ?_
    refine l_callC F e_L_law_1182 (s_X9_life (x_l X) V b M 1 T _ _ b (xs (i + 1)) 1 hHT kA_b (by omega) (by omega)) cb_X9_life ml_L_135 im_X9_life se_X9_life hHT rfl rfl (rest := []) rfl (Nat.le_of_ble_eq_true rfl) ⟨Nat.le_of_ble_eq_true rfl, Nat.le_of_ble_eq_true rfl⟩ (by omega) (by omega) (fun r σ11479 hp => ?_)
    obtain ⟨h11480, x11481, rfl⟩ := hp
    have h11482 := h11480.1
    have h11483 := hHR.keepL (fun a ha _ => h11480.2 a (by rw [show kA _ a = 0 from ha]; decide))
    have h11484 := (h11480.2 (b + 1480) (by rw [show kA _ (b + 1480) = 0 from kA_o]; decide)).trans hout
    refine m_pop2_2 F rfl e_L_law_1185 ?_
    refine m_aload_n F rfl e_L_law_1186 ?_
    refine m_aload_n F rfl e_L_law_1187 ?_
    refine m_iload F rfl e_L_law_1188 ?_
    refine m_iconst F (v := 1) (by decide) e_L_law_1190 ?_
    refine m_iadd F e_L_law_1191 ?_
    refine Wm.topE (w := nI (i + 1)) (nI_add i 1) ?_
    refine m_sld F (j := i + 1) e_L_law_1192 hX hb (nI_clamp (by omega)) (vp_in_nI (by omega) (by omega)) ?_
    refine m_aload_n F rfl e_L_law_1193 ?_
    refine m_iload F rfl e_L_law_1194 ?_
    refine m_iconst F (v := 2) (by decide) e_L_law_1196 ?_
    refine m_iadd F e_L_law_1197 ?_
    refine Wm.topE (w := nI (i + 2)) (nI_add i 2) ?_
    refine m_sld F (j := i + 2) e_L_law_1198 hX hb (nI_clamp (by omega)) (vp_in_nI (by omega) (by omega)) ?_
    refine m_if_eq F e_L_law_1199 (fun q1199 => ?_) (fun q1199 => ?_)
    · refine m_iconst F (v := 0) (by decide) e_L_law_1206 ?_
      refine l_callM F e_L_law_1207 (q_X10_life (x_l X) V (b + 1457) T 1 u h P L0_ _ _ (xs (i + 1)) 0 h11483 hok.b hP ) cb_X10_life ml_L_139 im_X10_life se_X10_life h11483 rfl rfl (rest := []) rfl (Nat.le_of_ble_eq_true rfl) ⟨Nat.le_of_ble_eq_true rfl, Nat.le_of_ble_eq_true rfl⟩ (by omega) (by omega) (fun r σ11485 hp => ?_)
      obtain ⟨h11486, x11487, rfl⟩ := hp
      have h11488 := h11486.1
      have h11489 := h11482.keepM (fun a ha => h11486.2 a (by rw [ha]; decide))
      have h11490 := (h11486.2 (b + 1480) (by rw [kC_0 (c := b + 1457) (by omega)]; decide)).trans h11484
      refine m_pop2_2 F rfl e_L_law_1210 ?_
      refine m_goto F e_L_law_1211 ?_
      exact hN _ M T _ _ _ (by omega) (by omega) (by omega) ⟨by omega, h11489, ⟨_, h11490⟩, u, h, P, L0_, ⟨hu, hh, hP, hkk, hm0, hw0, hok⟩, h11488⟩
    · refine m_iconst F (v := 1) (by decide) e_L_law_1202 ?_
      refine m_goto F e_L_law_1203 ?_
      refine l_callM F e_L_law_1207 (q_X10_life (x_l X) V (b + 1457) T 1 u h P L0_ _ _ (xs (i + 1)) 1 h11483 hok.b hP ) cb_X10_life ml_L_139 im_X10_life se_X10_life h11483 rfl rfl (rest := []) rfl (Nat.le_of_ble_eq_true rfl) ⟨Nat.le_of_ble_eq_true rfl, Nat.le_of_ble_eq_true rfl⟩ (by omega) (by omega) (fun r σ11491 hp => ?_)
      obtain ⟨h11492, x11493, rfl⟩ := hp
      have h11494 := h11492.1
      have h11495 := h11482.keepM (fun a ha => h11492.2 a (by rw [ha]; decide))
      have h11496 := (h11492.2 (b + 1480) (by rw [kC_0 (c := b + 1457) (by omega)]; decide)).trans h11484
      refine m_pop2_2 F rfl e_L_law_1210 ?_
      refine m_goto F e_L_law_1211 ?_
      exact hN _ M T _ _ _ (by omega) (by omega) (by omega) ⟨by omega, h11495, ⟨_, h11496⟩, u, h, P, L0_, ⟨hu, hh, hP, hkk, hm0, hw0, hok⟩, h11494⟩
set_option maxRecDepth 20000 in
theorem lc_27 {V : VX} {X : MX} {nm : String} {b sb N k z i L M T : Nat} {xs : Nat → Int32} {σ : Mem} (F : Fx V X (yLw nm) cL_law 7 ret room_1) (hX : va_X sb L xs (x_s X) V.2.2) (hb : sb < V.2.2.size) (hl : (x_l X).stackTraces = false) (hi : i + 6 ≤ L) (hL : L ≤ 3072) (hk : k ≤ 2100) (hz : z ≤ 80000) (hM : M ≤ 10000000) (hI : IV V b M T σ) (hN : ∀ (N' M' T' : Nat) (σ' : Mem) (k' z' : Nat), k' ≤ k + 1 → z' ≤ z + 6 → M' ≤ M + 10000 → IV V b M' T' σ' → Wm V X 7 N' σ' k' z' 1745 [(4, .int (nI i)), (3, .ref (b + 1480)), (2, .ref (b + 1457)), (1, .ref b), (0, .ref sb)] []) : Wm V X 7 N σ k z 1214 [(4, .int (nI i)), (3, .ref (b + 1480)), (2, .ref (b + 1457)), (1, .ref b), (0, .ref sb)] [] := by
  obtain ⟨hT, hHT, ⟨z0, hout⟩, u, h, P, L0_, ⟨hu, hh, hP, hkk, hm0, hw0, hok⟩, hHR⟩ := hI
  refine m_aload_n F rfl e_L_law_1214 ?_
  refine m_aload_n F rfl e_L_law_1215 ?_
  refine m_iload F rfl e_L_law_1216 ?_
  refine m_iconst F (v := 1) (by decide) e_L_law_1218 ?_
  refine m_iadd F e_L_law_1219 ?_
  refine Wm.topE (w := nI (i + 1)) (nI_add i 1) ?_
  refine m_sld F (j := i + 1) e_L_law_1220 hX hb (nI_clamp (by omega)) (vp_in_nI (by omega) (by omega)) ?_
  refine l_callC F e_L_law_1221 (s_X9_peak (x_l X) V b M 1 T _ _ b (xs (i + 1)) hHT kA_b  (by omega)) cb_X9_peak ml_L_140 im_X9_peak se_X9_peak hHT rfl rfl (rest := []) rfl (Nat.le_of_ble_eq_true rfl) ⟨Nat.le_of_ble_eq_true rfl, Nat.le_of_ble_eq_true rfl⟩ (by omega) (by omega) (fun r σ11497 hp => ?_)
  obtain ⟨h11498, x11499, rfl⟩ := hp
  have h11500 := h11498.1
  have h11501 := hHR.keepL (fun a ha _ => h11498.2 a (by rw [show kA _ a = 0 from ha]; decide))
  have h11502 := (h11498.2 (b + 1480) (by rw [show kA _ (b + 1480) = 0 from kA_o]; decide)).trans hout
  refine m_pop2_2 F rfl e_L_law_1224 ?_
  refine m_aload_n F rfl e_L_law_1225 ?_
  refine m_aload_n F rfl e_L_law_1226 ?_
  refine m_iload F rfl e_L_law_1227 ?_
  refine m_iconst F (v := 1) (by decide) e_L_law_1229 ?_
  refine m_iadd F e_L_law_1230 ?_
  refine Wm.topE (w := nI (i + 1)) (nI_add i 1) ?_
  refine m_sld F (j := i + 1) e_L_law_1231 hX hb (nI_clamp (by omega)) (vp_in_nI (by omega) (by omega)) ?_
  refine l_callM F e_L_law_1232 (q_X10_peak (x_l X) V (b + 1457) T 1 u h P L0_ _ _ (xs (i + 1)) h11501 hok hP ) cb_X10_peak ml_L_143 im_X10_peak se_X10_peak h11501 rfl rfl (rest := []) rfl (Nat.le_of_ble_eq_true rfl) ⟨Nat.le_of_ble_eq_true rfl, Nat.le_of_ble_eq_true rfl⟩ (by omega) (by omega) (fun r σ11503 hp => ?_)
  obtain ⟨h11504, x11505, rfl⟩ := hp
  have h11506 := h11504.1
  have h11507 := h11500.keepM (fun a ha => h11504.2 a (by rw [ha]; decide))
  have h11508 := (h11504.2 (b + 1480) (by rw [kC_0 (c := b + 1457) (by omega)]; decide)).trans h11502
  refine m_pop2_2 F rfl e_L_law_1235 ?_
  refine m_goto F e_L_law_1236 ?_
  exact hN _ (M + 1296) T _ _ _ (by omega) (by omega) (by omega) ⟨by omega, h11507, ⟨_, h11508⟩, u, h, P, L0_, ⟨hu, hh, hP, hkk, hm0, hw0, hok⟩, h11506⟩
