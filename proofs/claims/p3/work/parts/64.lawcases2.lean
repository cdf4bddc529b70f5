set_option maxRecDepth 20000 in
theorem lc_14 {V : VX} {X : MX} {nm : String} {b sb N k z i L M T : Nat} {xs : Nat → Int32} {σ : Mem} (F : Fx V X (yLw nm) cL_law 7 ret room_1) (hX : va_X sb L xs (x_s X) V.2.2) (hb : sb < V.2.2.size) (hl : (x_l X).stackTraces = false) (hi : i + 6 ≤ L) (hL : L ≤ 3072) (hk : k ≤ 2100) (hz : z ≤ 80000) (hM : M ≤ 10000000) (hI : IV V b M T σ) (hN : ∀ (N' M' T' : Nat) (σ' : Mem) (k' z' : Nat), k' ≤ k + 1 → z' ≤ z + 6 → M' ≤ M + 10000 → IV V b M' T' σ' → Wm V X 7 N' σ' k' z' 1745 [(4, .int (nI i)), (3, .ref (b + 1480)), (2, .ref (b + 1457)), (1, .ref b), (0, .ref sb)] []) : Wm V X 7 N σ k z 721 [(4, .int (nI i)), (3, .ref (b + 1480)), (2, .ref (b + 1457)), (1, .ref b), (0, .ref sb)] [] := by
  obtain ⟨hT, hHT, ⟨z0, hout⟩, u, h, P, L0_, ⟨hu, hh, hP, hkk, hm0, hw0, hok⟩, hHR, t, hBy, hBr⟩ := hI
  refine m_aload_n F rfl e_L_law_721 ?_
  refine m_aload_n F rfl e_L_law_722 ?_
  refine m_iload F rfl e_L_law_723 ?_
  refine m_iconst F (v := 1) (by decide) e_L_law_725 ?_
  refine m_iadd F e_L_law_726 ?_
  refine Wm.topE (w := nI (i + 1)) (nI_add i 1) ?_
  refine m_sld F (j := i + 1) e_L_law_727 hX hb (nI_clamp (by omega)) (vp_in_nI (by omega) (by omega)) ?_
  refine l_callC F e_L_law_728 (s_X9_take (x_l X) V b M 1 T _ _ b (xs (i + 1)) hHT kA_b  (by omega)) cb_X9_take ml_L_84 im_X9_take se_X9_take hHT rfl rfl (rest := []) rfl (Nat.le_of_ble_eq_true rfl) ⟨Nat.le_of_ble_eq_true rfl, Nat.le_of_ble_eq_true rfl⟩ (by omega) (by omega) (fun r σ11091 hp => ?_)
  obtain ⟨h11092, x11093, rfl⟩ := hp
  have h11094 := h11092.1
  have h11095 := hHR.keepL (fun a ha _ => h11092.2 a (by rw [show kA _ a = 0 from ha]; decide))
  have h11096 := (h11092.2 (b + 1480) (by rw [show kA _ (b + 1480) = 0 from kA_o]; decide)).trans hout
  have br11098 := hBr.of (h11092.2 (b + 1457 + 1) (by rw [show kA _ (b + 1457 + 1) = 0 from kA_big (by omega)]; decide))
  have by11097 := hBy.keep (h11092.2 (b + 1) (by rw [show kA _ (b + 1) = 2 from kA_t]; decide))
  refine m_pop2_2 F rfl e_L_law_731 ?_
  refine m_aload_n F rfl e_L_law_732 ?_
  refine m_aload_n F rfl e_L_law_733 ?_
  refine m_iload F rfl e_L_law_734 ?_
  refine m_iconst F (v := 1) (by decide) e_L_law_736 ?_
  refine m_iadd F e_L_law_737 ?_
  refine Wm.topE (w := nI (i + 1)) (nI_add i 1) ?_
  refine m_sld F (j := i + 1) e_L_law_738 hX hb (nI_clamp (by omega)) (vp_in_nI (by omega) (by omega)) ?_
  refine l_callM F e_L_law_739 (q_X10_take (x_l X) V (b + 1457) T 1 u h P L0_ _ _ (xs (i + 1)) h11095 hok hP (by first | omega | assumption) (by first | omega | assumption)) cb_X10_take ml_L_87 im_X10_take se_X10_take h11095 rfl rfl (rest := []) rfl (Nat.le_of_ble_eq_true rfl) ⟨Nat.le_of_ble_eq_true rfl, Nat.le_of_ble_eq_true rfl⟩ (by omega) (by omega) (fun r σ11099 hp => ?_)
  obtain ⟨u11101, hu11101, L11102, okL11102, h11100, x11103, rfl⟩ := hp
  have h11104 := h11100.1
  have h11105 := h11094.keepM (fun a ha => h11100.2 a (by rw [ha]; decide))
  have h11106 := (h11100.2 (b + 1480) (by rw [kC_0 (c := b + 1457) (by omega)]; decide)).trans h11096
  have by11107 := by11097.keep (h11100.2 (b + 1) (by rw [kC_0 (c := b + 1457) (by omega)]; decide))
  have br11108 := br11098.of (h11100.2 (b + 1457 + 1) (by rw [kC_at (k := 1) (by decide)]; decide))
  refine m_pop2_2 F rfl e_L_law_742 ?_
  refine m_goto F e_L_law_743 ?_
  exact hN _ (M + 1) T _ _ _ (by omega) (by omega) (by omega) ⟨by omega, h11105, ⟨_, h11106⟩, u11101, h, P, L11102, ⟨hu11101, hh, hP, hkk, hm0, hw0, okL11102⟩, h11104, _, by11107, br11108⟩
set_option maxRecDepth 20000 in
theorem lc_15 {V : VX} {X : MX} {nm : String} {b sb N k z i L M T : Nat} {xs : Nat → Int32} {σ : Mem} (F : Fx V X (yLw nm) cL_law 7 ret room_1) (hX : va_X sb L xs (x_s X) V.2.2) (hb : sb < V.2.2.size) (hl : (x_l X).stackTraces = false) (hi : i + 6 ≤ L) (hL : L ≤ 3072) (hk : k ≤ 2100) (hz : z ≤ 80000) (hM : M ≤ 10000000) (hI : IV V b M T σ) (hN : ∀ (N' M' T' : Nat) (σ' : Mem) (k' z' : Nat), k' ≤ k + 1 → z' ≤ z + 6 → M' ≤ M + 10000 → IV V b M' T' σ' → Wm V X 7 N' σ' k' z' 1745 [(4, .int (nI i)), (3, .ref (b + 1480)), (2, .ref (b + 1457)), (1, .ref b), (0, .ref sb)] []) : Wm V X 7 N σ k z 746 [(4, .int (nI i)), (3, .ref (b + 1480)), (2, .ref (b + 1457)), (1, .ref b), (0, .ref sb)] [] := by
  obtain ⟨hT, hHT, ⟨z0, hout⟩, u, h, P, L0_, ⟨hu, hh, hP, hkk, hm0, hw0, hok⟩, hHR, t, hBy, hBr⟩ := hI
  refine m_aload_n F rfl e_L_law_746 ?_
  refine m_aload_n F rfl e_L_law_747 ?_
  refine m_iload F rfl e_L_law_748 ?_
  refine m_iconst F (v := 1) (by decide) e_L_law_750 ?_
  refine m_iadd F e_L_law_751 ?_
  refine Wm.topE (w := nI (i + 1)) (nI_add i 1) ?_
  refine m_sld F (j := i + 1) e_L_law_752 hX hb (nI_clamp (by omega)) (vp_in_nI (by omega) (by omega)) ?_
  refine m_aload_n F rfl e_L_law_753 ?_
  refine m_iload F rfl e_L_law_754 ?_
  refine m_iconst F (v := 2) (by decide) e_L_law_756 ?_
  refine m_iadd F e_L_law_757 ?_
  refine Wm.topE (w := nI (i + 2)) (nI_add i 2) ?_
  refine m_sld F (j := i + 2) e_L_law_758 hX hb (nI_clamp (by omega)) (vp_in_nI (by omega) (by omega)) ?_
  refine l_callC F e_L_law_759 (s_X9_part (x_l X) V b M 1 T _ _ b (xs (i + 1)) (xs (i + 2)) hHT kA_b  (by omega)) cb_X9_part ml_L_88 im_X9_part se_X9_part hHT rfl rfl (rest := []) rfl (Nat.le_of_ble_eq_true rfl) ⟨Nat.le_of_ble_eq_true rfl, Nat.le_of_ble_eq_true rfl⟩ (by omega) (by omega) (fun r σ11109 hp => ?_)
  obtain ⟨h11110, x11111, rfl⟩ := hp
  have h11112 := h11110.1
  have h11113 := hHR.keepL (fun a ha _ => h11110.2 a (by rw [show kA _ a = 0 from ha]; decide))
  have h11114 := (h11110.2 (b + 1480) (by rw [show kA _ (b + 1480) = 0 from kA_o]; decide)).trans hout
  have br11116 := hBr.of (h11110.2 (b + 1457 + 1) (by rw [show kA _ (b + 1457 + 1) = 0 from kA_big (by omega)]; decide))
  have by11115 := hBy.keep (h11110.2 (b + 1) (by rw [show kA _ (b + 1) = 2 from kA_t]; decide))
  refine m_pop2_2 F rfl e_L_law_762 ?_
  refine m_aload_n F rfl e_L_law_763 ?_
  refine m_aload_n F rfl e_L_law_764 ?_
  refine m_iload F rfl e_L_law_765 ?_
  refine m_iconst F (v := 1) (by decide) e_L_law_767 ?_
  refine m_iadd F e_L_law_768 ?_
  refine Wm.topE (w := nI (i + 1)) (nI_add i 1) ?_
  refine m_sld F (j := i + 1) e_L_law_769 hX hb (nI_clamp (by omega)) (vp_in_nI (by omega) (by omega)) ?_
  refine m_aload_n F rfl e_L_law_770 ?_
  refine m_iload F rfl e_L_law_771 ?_
  refine m_iconst F (v := 2) (by decide) e_L_law_773 ?_
  refine m_iadd F e_L_law_774 ?_
  refine Wm.topE (w := nI (i + 2)) (nI_add i 2) ?_
  refine m_sld F (j := i + 2) e_L_law_775 hX hb (nI_clamp (by omega)) (vp_in_nI (by omega) (by omega)) ?_
  refine l_callM F e_L_law_776 (q_X10_part (x_l X) V (b + 1457) T 1 u h P L0_ _ _ (xs (i + 1)) (xs (i + 2)) h11113 hok hP (by first | omega | assumption) (by first | omega | assumption)) cb_X10_part ml_L_91 im_X10_part se_X10_part h11113 rfl rfl (rest := []) rfl (Nat.le_of_ble_eq_true rfl) ⟨Nat.le_of_ble_eq_true rfl, Nat.le_of_ble_eq_true rfl⟩ (by omega) (by omega) (fun r σ11117 hp => ?_)
  obtain ⟨u11119, hu11119, L11120, okL11120, h11118, x11121, rfl⟩ := hp
  have h11122 := h11118.1
  have h11123 := h11112.keepM (fun a ha => h11118.2 a (by rw [ha]; decide))
  have h11124 := (h11118.2 (b + 1480) (by rw [kC_0 (c := b + 1457) (by omega)]; decide)).trans h11114
  have by11125 := by11115.keep (h11118.2 (b + 1) (by rw [kC_0 (c := b + 1457) (by omega)]; decide))
  have br11126 := br11116.of (h11118.2 (b + 1457 + 1) (by rw [kC_at (k := 1) (by decide)]; decide))
  refine m_pop2_2 F rfl e_L_law_779 ?_
  refine m_goto F e_L_law_780 ?_
  exact hN _ (M + 1) T _ _ _ (by omega) (by omega) (by omega) ⟨by omega, h11123, ⟨_, h11124⟩, u11119, h, P, L11120, ⟨hu11119, hh, hP, hkk, hm0, hw0, okL11120⟩, h11122, _, by11125, br11126⟩
set_option maxRecDepth 20000 in
theorem lc_16 {V : VX} {X : MX} {nm : String} {b sb N k z i L M T : Nat} {xs : Nat → Int32} {σ : Mem} (F : Fx V X (yLw nm) cL_law 7 ret room_1) (hX : va_X sb L xs (x_s X) V.2.2) (hb : sb < V.2.2.size) (hl : (x_l X).stackTraces = false) (hi : i + 6 ≤ L) (hL : L ≤ 3072) (hk : k ≤ 2100) (hz : z ≤ 80000) (hM : M ≤ 10000000) (hI : IV V b M T σ) (hN : ∀ (N' M' T' : Nat) (σ' : Mem) (k' z' : Nat), k' ≤ k + 1 → z' ≤ z + 6 → M' ≤ M + 10000 → IV V b M' T' σ' → Wm V X 7 N' σ' k' z' 1745 [(4, .int (nI i)), (3, .ref (b + 1480)), (2, .ref (b + 1457)), (1, .ref b), (0, .ref sb)] []) : Wm V X 7 N σ k z 783 [(4, .int (nI i)), (3, .ref (b + 1480)), (2, .ref (b + 1457)), (1, .ref b), (0, .ref sb)] [] := by
  obtain ⟨hT, hHT, ⟨z0, hout⟩, u, h, P, L0_, ⟨hu, hh, hP, hkk, hm0, hw0, hok⟩, hHR, t, hBy, hBr⟩ := hI
  refine m_aload_n F rfl e_L_law_783 ?_
  refine m_aload_n F rfl e_L_law_784 ?_
  refine m_iload F rfl e_L_law_785 ?_
  refine m_iconst F (v := 1) (by decide) e_L_law_787 ?_
  refine m_iadd F e_L_law_788 ?_
  refine Wm.topE (w := nI (i + 1)) (nI_add i 1) ?_
  refine m_sld F (j := i + 1) e_L_law_789 hX hb (nI_clamp (by omega)) (vp_in_nI (by omega) (by omega)) ?_
  refine l_callC F e_L_law_790 (s_X9_end (x_l X) V b M 1 T _ _ b (xs (i + 1)) hHT kA_b  (by omega)) cb_X9_end ml_L_92 im_X9_end se_X9_end hHT rfl rfl (rest := []) rfl (Nat.le_of_ble_eq_true rfl) ⟨Nat.le_of_ble_eq_true rfl, Nat.le_of_ble_eq_true rfl⟩ (by omega) (by omega) (fun r σ11127 hp => ?_)
  obtain ⟨h11128, x11129, rfl⟩ := hp
  have h11130 := h11128.1
  have h11131 := hHR.keepL (fun a ha _ => h11128.2 a (by rw [show kA _ a = 0 from ha]; decide))
  have h11132 := (h11128.2 (b + 1480) (by rw [show kA _ (b + 1480) = 0 from kA_o]; decide)).trans hout
  have br11134 := hBr.of (h11128.2 (b + 1457 + 1) (by rw [show kA _ (b + 1457 + 1) = 0 from kA_big (by omega)]; decide))
  have by11133 := hBy.keep (h11128.2 (b + 1) (by rw [show kA _ (b + 1) = 2 from kA_t]; decide))
  refine m_pop2_2 F rfl e_L_law_793 ?_
  refine m_aload_n F rfl e_L_law_794 ?_
  refine m_aload_n F rfl e_L_law_795 ?_
  refine m_iload F rfl e_L_law_796 ?_
  refine m_iconst F (v := 1) (by decide) e_L_law_798 ?_
  refine m_iadd F e_L_law_799 ?_
  refine Wm.topE (w := nI (i + 1)) (nI_add i 1) ?_
  refine m_sld F (j := i + 1) e_L_law_800 hX hb (nI_clamp (by omega)) (vp_in_nI (by omega) (by omega)) ?_
  refine l_callM F e_L_law_801 (q_X10_end (x_l X) V (b + 1457) T 1 u h P L0_ _ _ (xs (i + 1)) h11131 hok hP (by first | omega | assumption) (by first | omega | assumption)) cb_X10_end ml_L_95 im_X10_end se_X10_end h11131 rfl rfl (rest := []) rfl (Nat.le_of_ble_eq_true rfl) ⟨Nat.le_of_ble_eq_true rfl, Nat.le_of_ble_eq_true rfl⟩ (by omega) (by omega) (fun r σ11135 hp => ?_)
  obtain ⟨u11137, hu11137, L11138, okL11138, h11136, x11139, rfl⟩ := hp
  have h11140 := h11136.1
  have h11141 := h11130.keepM (fun a ha => h11136.2 a (by rw [ha]; decide))
  have h11142 := (h11136.2 (b + 1480) (by rw [kC_0 (c := b + 1457) (by omega)]; decide)).trans h11132
  have by11143 := by11133.keep (h11136.2 (b + 1) (by rw [kC_0 (c := b + 1457) (by omega)]; decide))
  have br11144 := br11134.of (h11136.2 (b + 1457 + 1) (by rw [kC_at (k := 1) (by decide)]; decide))
  refine m_pop2_2 F rfl e_L_law_804 ?_
  refine m_goto F e_L_law_805 ?_
  exact hN _ (M + 1) T _ _ _ (by omega) (by omega) (by omega) ⟨by omega, h11141, ⟨_, h11142⟩, u11137, h, P, L11138, ⟨hu11137, hh, hP, hkk, hm0, hw0, okL11138⟩, h11140, _, by11143, br11144⟩
set_option maxRecDepth 20000 in
theorem lc_17 {V : VX} {X : MX} {nm : String} {b sb N k z i L M T : Nat} {xs : Nat → Int32} {σ : Mem} (F : Fx V X (yLw nm) cL_law 7 ret room_1) (hX : va_X sb L xs (x_s X) V.2.2) (hb : sb < V.2.2.size) (hl : (x_l X).stackTraces = false) (hi : i + 6 ≤ L) (hL : L ≤ 3072) (hk : k ≤ 2100) (hz : z ≤ 80000) (hM : M ≤ 10000000) (hI : IV V b M T σ) (hN : ∀ (N' M' T' : Nat) (σ' : Mem) (k' z' : Nat), k' ≤ k + 1 → z' ≤ z + 6 → M' ≤ M + 10000 → IV V b M' T' σ' → Wm V X 7 N' σ' k' z' 1745 [(4, .int (nI i)), (3, .ref (b + 1480)), (2, .ref (b + 1457)), (1, .ref b), (0, .ref sb)] []) : Wm V X 7 N σ k z 808 [(4, .int (nI i)), (3, .ref (b + 1480)), (2, .ref (b + 1457)), (1, .ref b), (0, .ref sb)] [] := by
  obtain ⟨hT, hHT, ⟨z0, hout⟩, u, h, P, L0_, ⟨hu, hh, hP, hkk, hm0, hw0, hok⟩, hHR, t, hBy, hBr⟩ := hI
  refine m_aload_n F rfl e_L_law_808 ?_
  refine m_aload_n F rfl e_L_law_809 ?_
  refine m_iload F rfl e_L_law_810 ?_
  refine m_iconst F (v := 1) (by decide) e_L_law_812 ?_
  refine m_iadd F e_L_law_813 ?_
  refine Wm.topE (w := nI (i + 1)) (nI_add i 1) ?_
  refine m_sld F (j := i + 1) e_L_law_814 hX hb (nI_clamp (by omega)) (vp_in_nI (by omega) (by omega)) ?_
  refine m_aload_n F rfl e_L_law_815 ?_
  refine m_iload F rfl e_L_law_816 ?_
  refine m_iconst F (v := 2) (by decide) e_L_law_818 ?_
  refine m_iadd F e_L_law_819 ?_
  refine Wm.topE (w := nI (i + 2)) (nI_add i 2) ?_
  refine m_sld F (j := i + 2) e_L_law_820 hX hb (nI_clamp (by omega)) (vp_in_nI (by omega) (by omega)) ?_
  refine m_i2l F e_L_law_821 ?_
  refine Wm.topl (fun x11145 _ => ?_)
  refine m_bipush F (v := 32) (by decide) e_L_law_822 ?_
  refine m_lshl F e_L_law_824 ?_
  refine Wm.topl (fun x11146 _ => ?_)
  refine m_aload_n F rfl e_L_law_825 ?_
  refine m_iload F rfl e_L_law_826 ?_
  refine m_iconst F (v := 3) (by decide) e_L_law_828 ?_
  refine m_iadd F e_L_law_829 ?_
  refine Wm.topE (w := nI (i + 3)) (nI_add i 3) ?_
  refine m_sld F (j := i + 3) e_L_law_830 hX hb (nI_clamp (by omega)) (vp_in_nI (by omega) (by omega)) ?_
  refine m_i2l F e_L_law_831 ?_
  refine Wm.topl (fun x11147 _ => ?_)
  refine m_ldc2 F kc_L_96 e_L_law_832 ?_
  refine m_land F e_L_law_835 ?_
  refine Wm.topl (fun x11148 _ => ?_)
  refine m_lor F e_L_law_836 ?_
  refine Wm.topl (fun x11149 _ => ?_)
  refine l_callC F e_L_law_837 (s_X9_down (x_l X) V b M 1 T _ _ b (xs (i + 1)) x11149 hHT kA_b  (by omega)) cb_X9_down ml_L_98 im_X9_down se_X9_down hHT rfl rfl (rest := []) rfl (Nat.le_of_ble_eq_true rfl) ⟨Nat.le_of_ble_eq_true rfl, Nat.le_of_ble_eq_true rfl⟩ (by omega) (by omega) (fun r σ11150 hp => ?_)
  obtain ⟨h11151, x11152, rfl⟩ := hp
  have h11153 := h11151.1
  have h11154 := hHR.keepL (fun a ha _ => h11151.2 a (by rw [show kA _ a = 0 from ha]; decide))
  have h11155 := (h11151.2 (b + 1480) (by rw [show kA _ (b + 1480) = 0 from kA_o]; decide)).trans hout
  have br11157 := hBr.of (h11151.2 (b + 1457 + 1) (by rw [show kA _ (b + 1457 + 1) = 0 from kA_big (by omega)]; decide))
  have by11156 := hBy.keep (h11151.2 (b + 1) (by rw [show kA _ (b + 1) = 2 from kA_t]; decide))
  refine m_pop2_2 F rfl e_L_law_840 ?_
  refine m_aload_n F rfl e_L_law_841 ?_
  refine m_aload_n F rfl e_L_law_842 ?_
  refine m_iload F rfl e_L_law_843 ?_
  refine m_iconst F (v := 1) (by decide) e_L_law_845 ?_
  refine m_iadd F e_L_law_846 ?_
  refine Wm.topE (w := nI (i + 1)) (nI_add i 1) ?_
  refine m_sld F (j := i + 1) e_L_law_847 hX hb (nI_clamp (by omega)) (vp_in_nI (by omega) (by omega)) ?_
  refine m_aload_n F rfl e_L_law_848 ?_
  refine m_iload F rfl e_L_law_849 ?_
  refine m_iconst F (v := 2) (by decide) e_L_law_851 ?_
  refine m_iadd F e_L_law_852 ?_
  refine Wm.topE (w := nI (i + 2)) (nI_add i 2) ?_
  refine m_sld F (j := i + 2) e_L_law_853 hX hb (nI_clamp (by omega)) (vp_in_nI (by omega) (by omega)) ?_
  refine m_i2l F e_L_law_854 ?_
  refine Wm.topl (fun x11158 _ => ?_)
  refine m_bipush F (v := 32) (by decide) e_L_law_855 ?_
  refine m_lshl F e_L_law_857 ?_
  refine Wm.topl (fun x11159 _ => ?_)
  refine m_aload_n F rfl e_L_law_858 ?_
  refine m_iload F rfl e_L_law_859 ?_
  refine m_iconst F (v := 3) (by decide) e_L_law_861 ?_
  refine m_iadd F e_L_law_862 ?_
  refine Wm.topE (w := nI (i + 3)) (nI_add i 3) ?_
  refine m_sld F (j := i + 3) e_L_law_863 hX hb (nI_clamp (by omega)) (vp_in_nI (by omega) (by omega)) ?_
  refine m_i2l F e_L_law_864 ?_
  refine Wm.topl (fun x11160 _ => ?_)
  refine m_ldc2 F kc_L_96 e_L_law_865 ?_
  refine m_land F e_L_law_868 ?_
  refine Wm.topl (fun x11161 _ => ?_)
  refine m_lor F e_L_law_869 ?_
  refine Wm.topl (fun x11162 _ => ?_)
  refine l_callM F e_L_law_870 (q_X10_down (x_l X) V (b + 1457) T 1 u h P L0_ _ _ (xs (i + 1)) x11162 h11154 hok hP (by first | omega | assumption) (by first | omega | assumption)) cb_X10_down ml_L_102 im_X10_down se_X10_down h11154 rfl rfl (rest := []) rfl (Nat.le_of_ble_eq_true rfl) ⟨Nat.le_of_ble_eq_true rfl, Nat.le_of_ble_eq_true rfl⟩ (by omega) (by omega) (fun r σ11163 hp => ?_)
  obtain ⟨u11165, hu11165, L11166, okL11166, h11164, x11167, rfl⟩ := hp
  have h11168 := h11164.1
  have h11169 := h11153.keepM (fun a ha => h11164.2 a (by rw [ha]; decide))
  have h11170 := (h11164.2 (b + 1480) (by rw [kC_0 (c := b + 1457) (by omega)]; decide)).trans h11155
  have by11171 := by11156.keep (h11164.2 (b + 1) (by rw [kC_0 (c := b + 1457) (by omega)]; decide))
  have br11172 := br11157.of (h11164.2 (b + 1457 + 1) (by rw [kC_at (k := 1) (by decide)]; decide))
  refine m_pop2_2 F rfl e_L_law_873 ?_
  refine m_goto F e_L_law_874 ?_
  exact hN _ (M + 1) T _ _ _ (by omega) (by omega) (by omega) ⟨by omega, h11169, ⟨_, h11170⟩, u11165, h, P, L11166, ⟨hu11165, hh, hP, hkk, hm0, hw0, okL11166⟩, h11168, _, by11171, br11172⟩
set_option maxRecDepth 20000 in
theorem lc_18 {V : VX} {X : MX} {nm : String} {b sb N k z i L M T : Nat} {xs : Nat → Int32} {σ : Mem} (F : Fx V X (yLw nm) cL_law 7 ret room_1) (hX : va_X sb L xs (x_s X) V.2.2) (hb : sb < V.2.2.size) (hl : (x_l X).stackTraces = false) (hi : i + 6 ≤ L) (hL : L ≤ 3072) (hk : k ≤ 2100) (hz : z ≤ 80000) (hM : M ≤ 10000000) (hI : IV V b M T σ) (hN : ∀ (N' M' T' : Nat) (σ' : Mem) (k' z' : Nat), k' ≤ k + 1 → z' ≤ z + 6 → M' ≤ M + 10000 → IV V b M' T' σ' → Wm V X 7 N' σ' k' z' 1745 [(4, .int (nI i)), (3, .ref (b + 1480)), (2, .ref (b + 1457)), (1, .ref b), (0, .ref sb)] []) : Wm V X 7 N σ k z 877 [(4, .int (nI i)), (3, .ref (b + 1480)), (2, .ref (b + 1457)), (1, .ref b), (0, .ref sb)] [] := by
  obtain ⟨hT, hHT, ⟨z0, hout⟩, u, h, P, L0_, ⟨hu, hh, hP, hkk, hm0, hw0, hok⟩, hHR, t, hBy, hBr⟩ := hI
  refine m_aload_n F rfl e_L_law_877 ?_
  refine m_aload_n F rfl e_L_law_878 ?_
  refine m_iload F rfl e_L_law_879 ?_
  refine m_iconst F (v := 1) (by decide) e_L_law_881 ?_
  refine m_iadd F e_L_law_882 ?_
  refine Wm.topE (w := nI (i + 1)) (nI_add i 1) ?_
  refine m_sld F (j := i + 1) e_L_law_883 hX hb (nI_clamp (by omega)) (vp_in_nI (by omega) (by omega)) ?_
  refine m_aload_n F rfl e_L_law_884 ?_
  refine m_iload F rfl e_L_law_885 ?_
  refine m_iconst F (v := 2) (by decide) e_L_law_887 ?_
  refine m_iadd F e_L_law_888 ?_
  refine Wm.topE (w := nI (i + 2)) (nI_add i 2) ?_
  refine m_sld F (j := i + 2) e_L_law_889 hX hb (nI_clamp (by omega)) (vp_in_nI (by omega) (by omega)) ?_
  refine m_aload_n F rfl e_L_law_890 ?_
  refine m_iload F rfl e_L_law_891 ?_
  refine m_iconst F (v := 3) (by decide) e_L_law_893 ?_
  refine m_iadd F e_L_law_894 ?_
  refine Wm.topE (w := nI (i + 3)) (nI_add i 3) ?_
  refine m_sld F (j := i + 3) e_L_law_895 hX hb (nI_clamp (by omega)) (vp_in_nI (by omega) (by omega)) ?_
  refine l_callC F e_L_law_896 (s_X9_putOff (x_l X) V b M 1 T _ _ b (xs (i + 1)) (xs (i + 2)) (xs (i + 3)) hHT kA_b  (by omega)) cb_X9_putOff ml_L_103 im_X9_putOff se_X9_putOff hHT rfl rfl (rest := []) rfl (Nat.le_of_ble_eq_true rfl) ⟨Nat.le_of_ble_eq_true rfl, Nat.le_of_ble_eq_true rfl⟩ (by omega) (by omega) (fun r σ11173 hp => ?_)
  obtain ⟨h11174, x11175, rfl⟩ := hp
  have h11176 := h11174.1
  have h11177 := hHR.keepL (fun a ha _ => h11174.2 a (by rw [show kA _ a = 0 from ha]; decide))
  have h11178 := (h11174.2 (b + 1480) (by rw [show kA _ (b + 1480) = 0 from kA_o]; decide)).trans hout
  have br11180 := hBr.of (h11174.2 (b + 1457 + 1) (by rw [show kA _ (b + 1457 + 1) = 0 from kA_big (by omega)]; decide))
  have by11179 := hBy.keep (h11174.2 (b + 1) (by rw [show kA _ (b + 1) = 2 from kA_t]; decide))
  refine m_pop2_2 F rfl e_L_law_899 ?_
  refine m_aload_n F rfl e_L_law_900 ?_
  refine m_aload_n F rfl e_L_law_901 ?_
  refine m_iload F rfl e_L_law_902 ?_
  refine m_iconst F (v := 1) (by decide) e_L_law_904 ?_
  refine m_iadd F e_L_law_905 ?_
  refine Wm.topE (w := nI (i + 1)) (nI_add i 1) ?_
  refine m_sld F (j := i + 1) e_L_law_906 hX hb (nI_clamp (by omega)) (vp_in_nI (by omega) (by omega)) ?_
  refine m_aload_n F rfl e_L_law_907 ?_
  refine m_iload F rfl e_L_law_908 ?_
  refine m_iconst F (v := 2) (by decide) e_L_law_910 ?_
  refine m_iadd F e_L_law_911 ?_
  refine Wm.topE (w := nI (i + 2)) (nI_add i 2) ?_
  refine m_sld F (j := i + 2) e_L_law_912 hX hb (nI_clamp (by omega)) (vp_in_nI (by omega) (by omega)) ?_
  refine m_aload_n F rfl e_L_law_913 ?_
  refine m_iload F rfl e_L_law_914 ?_
  refine m_iconst F (v := 3) (by decide) e_L_law_916 ?_
  refine m_iadd F e_L_law_917 ?_
  refine Wm.topE (w := nI (i + 3)) (nI_add i 3) ?_
  refine m_sld F (j := i + 3) e_L_law_918 hX hb (nI_clamp (by omega)) (vp_in_nI (by omega) (by omega)) ?_
  refine l_callM F e_L_law_919 (q_X10_putOff (x_l X) V (b + 1457) T 1 u h P L0_ _ _ (xs (i + 1)) (xs (i + 2)) (xs (i + 3)) h11177 hok hP (by first | omega | assumption) (by first | omega | assumption)) cb_X10_putOff ml_L_106 im_X10_putOff se_X10_putOff h11177 rfl rfl (rest := []) rfl (Nat.le_of_ble_eq_true rfl) ⟨Nat.le_of_ble_eq_true rfl, Nat.le_of_ble_eq_true rfl⟩ (by omega) (by omega) (fun r σ11181 hp => ?_)
  obtain ⟨u11183, hu11183, L11184, okL11184, h11182, x11185, rfl⟩ := hp
  have h11186 := h11182.1
  have h11187 := h11176.keepM (fun a ha => h11182.2 a (by rw [ha]; decide))
  have h11188 := (h11182.2 (b + 1480) (by rw [kC_0 (c := b + 1457) (by omega)]; decide)).trans h11178
  have by11189 := by11179.keep (h11182.2 (b + 1) (by rw [kC_0 (c := b + 1457) (by omega)]; decide))
  have br11190 := br11180.of (h11182.2 (b + 1457 + 1) (by rw [kC_at (k := 1) (by decide)]; decide))
  refine m_pop2_2 F rfl e_L_law_922 ?_
  refine m_goto F e_L_law_923 ?_
  exact hN _ (M + 1) T _ _ _ (by omega) (by omega) (by omega) ⟨by omega, h11187, ⟨_, h11188⟩, u11183, h, P, L11184, ⟨hu11183, hh, hP, hkk, hm0, hw0, okL11184⟩, h11186, _, by11189, br11190⟩
set_option maxRecDepth 20000 in
theorem lc_19 {V : VX} {X : MX} {nm : String} {b sb N k z i L M T : Nat} {xs : Nat → Int32} {σ : Mem} (F : Fx V X (yLw nm) cL_law 7 ret room_1) (hX : va_X sb L xs (x_s X) V.2.2) (hb : sb < V.2.2.size) (hl : (x_l X).stackTraces = false) (hi : i + 6 ≤ L) (hL : L ≤ 3072) (hk : k ≤ 2100) (hz : z ≤ 80000) (hM : M ≤ 10000000) (hI : IV V b M T σ) (hN : ∀ (N' M' T' : Nat) (σ' : Mem) (k' z' : Nat), k' ≤ k + 1 → z' ≤ z + 6 → M' ≤ M + 10000 → IV V b M' T' σ' → Wm V X 7 N' σ' k' z' 1745 [(4, .int (nI i)), (3, .ref (b + 1480)), (2, .ref (b + 1457)), (1, .ref b), (0, .ref sb)] []) : Wm V X 7 N σ k z 926 [(4, .int (nI i)), (3, .ref (b + 1480)), (2, .ref (b + 1457)), (1, .ref b), (0, .ref sb)] [] := by
  obtain ⟨hT, hHT, ⟨z0, hout⟩, u, h, P, L0_, ⟨hu, hh, hP, hkk, hm0, hw0, hok⟩, hHR, t, hBy, hBr⟩ := hI
  refine m_aload_n F rfl e_L_law_926 ?_
  refine m_aload_n F rfl e_L_law_927 ?_
  refine m_iload F rfl e_L_law_928 ?_
  refine m_iconst F (v := 1) (by decide) e_L_law_930 ?_
  refine m_iadd F e_L_law_931 ?_
  refine Wm.topE (w := nI (i + 1)) (nI_add i 1) ?_
  refine m_sld F (j := i + 1) e_L_law_932 hX hb (nI_clamp (by omega)) (vp_in_nI (by omega) (by omega)) ?_
  refine l_callC F e_L_law_933 (s_X9_become (x_l X) V b M 1 T _ _ b (xs (i + 1)) hHT kA_b  (by omega)) cb_X9_become ml_L_107 im_X9_become se_X9_become hHT rfl rfl (rest := []) rfl (Nat.le_of_ble_eq_true rfl) ⟨Nat.le_of_ble_eq_true rfl, Nat.le_of_ble_eq_true rfl⟩ (by omega) (by omega) (fun r σ11191 hp => ?_)
  obtain ⟨h11192, x11193, rfl⟩ := hp
  have h11194 := h11192.1
  have h11195 := hHR.keepL (fun a ha _ => h11192.2 a (by rw [show kA _ a = 0 from ha]; decide))
  have h11196 := (h11192.2 (b + 1480) (by rw [show kA _ (b + 1480) = 0 from kA_o]; decide)).trans hout
  have br11198 := hBr.of (h11192.2 (b + 1457 + 1) (by rw [show kA _ (b + 1457 + 1) = 0 from kA_big (by omega)]; decide))
  have by11197 := hBy.keep (h11192.2 (b + 1) (by rw [show kA _ (b + 1) = 2 from kA_t]; decide))
  refine m_pop F rfl e_L_law_936 ?_
  refine m_aload_n F rfl e_L_law_937 ?_
  refine m_aload_n F rfl e_L_law_938 ?_
  refine m_iload F rfl e_L_law_939 ?_
  refine m_iconst F (v := 1) (by decide) e_L_law_941 ?_
  refine m_iadd F e_L_law_942 ?_
  refine Wm.topE (w := nI (i + 1)) (nI_add i 1) ?_
  refine m_sld F (j := i + 1) e_L_law_943 hX hb (nI_clamp (by omega)) (vp_in_nI (by omega) (by omega)) ?_
  refine l_callM F e_L_law_944 (q_X10_become (x_l X) V (b + 1457) T 1 u h P L0_ _ _ (xs (i + 1)) h11195 hok hP (by first | omega | assumption) (by first | omega | assumption)) cb_X10_become ml_L_110 im_X10_become se_X10_become h11195 rfl rfl (rest := []) rfl (Nat.le_of_ble_eq_true rfl) ⟨Nat.le_of_ble_eq_true rfl, Nat.le_of_ble_eq_true rfl⟩ (by omega) (by omega) (fun r σ11199 hp => ?_)
  obtain ⟨u11201, hu11201, L11202, okL11202, h11200, x11203, rfl⟩ := hp
  have h11204 := h11200.1
  have h11205 := h11194.keepM (fun a ha => h11200.2 a (by rw [ha]; decide))
  have h11206 := (h11200.2 (b + 1480) (by rw [kC_0 (c := b + 1457) (by omega)]; decide)).trans h11196
  have by11207 := by11197.keep (h11200.2 (b + 1) (by rw [kC_0 (c := b + 1457) (by omega)]; decide))
  have br11208 := br11198.of (h11200.2 (b + 1457 + 1) (by rw [kC_at (k := 1) (by decide)]; decide))
  refine m_pop F rfl e_L_law_947 ?_
  refine m_goto F e_L_law_948 ?_
  exact hN _ M T _ _ _ (by omega) (by omega) (by omega) ⟨by omega, h11205, ⟨_, h11206⟩, u11201, h, P, L11202, ⟨hu11201, hh, hP, hkk, hm0, hw0, okL11202⟩, h11204, _, by11207, br11208⟩
set_option maxRecDepth 20000 in
theorem lc_20 {V : VX} {X : MX} {nm : String} {b sb N k z i L M T : Nat} {xs : Nat → Int32} {σ : Mem} (F : Fx V X (yLw nm) cL_law 7 ret room_1) (hX : va_X sb L xs (x_s X) V.2.2) (hb : sb < V.2.2.size) (hl : (x_l X).stackTraces = false) (hi : i + 6 ≤ L) (hL : L ≤ 3072) (hk : k ≤ 2100) (hz : z ≤ 80000) (hM : M ≤ 10000000) (hI : IV V b M T σ) (hN : ∀ (N' M' T' : Nat) (σ' : Mem) (k' z' : Nat), k' ≤ k + 1 → z' ≤ z + 6 → M' ≤ M + 10000 → IV V b M' T' σ' → Wm V X 7 N' σ' k' z' 1745 [(4, .int (nI i)), (3, .ref (b + 1480)), (2, .ref (b + 1457)), (1, .ref b), (0, .ref sb)] []) : Wm V X 7 N σ k z 951 [(4, .int (nI i)), (3, .ref (b + 1480)), (2, .ref (b + 1457)), (1, .ref b), (0, .ref sb)] [] := by
  obtain ⟨hT, hHT, ⟨z0, hout⟩, u, h, P, L0_, ⟨hu, hh, hP, hkk, hm0, hw0, hok⟩, hHR, t, hBy, hBr⟩ := hI
  refine m_aload_n F rfl e_L_law_951 ?_
  refine m_aload_n F rfl e_L_law_952 ?_
  refine m_iload F rfl e_L_law_953 ?_
  refine m_iconst F (v := 1) (by decide) e_L_law_955 ?_
  refine m_iadd F e_L_law_956 ?_
  refine Wm.topE (w := nI (i + 1)) (nI_add i 1) ?_
  refine m_sld F (j := i + 1) e_L_law_957 hX hb (nI_clamp (by omega)) (vp_in_nI (by omega) (by omega)) ?_
  refine m_aload_n F rfl e_L_law_958 ?_
  refine m_iload F rfl e_L_law_959 ?_
  refine m_iconst F (v := 2) (by decide) e_L_law_961 ?_
  refine m_iadd F e_L_law_962 ?_
  refine Wm.topE (w := nI (i + 2)) (nI_add i 2) ?_
  refine m_sld F (j := i + 2) e_L_law_963 hX hb (nI_clamp (by omega)) (vp_in_nI (by omega) (by omega)) ?_
  refine m_aload_n F rfl e_L_law_964 ?_
  refine m_iload F rfl e_L_law_965 ?_
  refine m_iconst F (v := 3) (by decide) e_L_law_967 ?_
  refine m_iadd F e_L_law_968 ?_
  refine Wm.topE (w := nI (i + 3)) (nI_add i 3) ?_
  refine m_sld F (j := i + 3) e_L_law_969 hX hb (nI_clamp (by omega)) (vp_in_nI (by omega) (by omega)) ?_
  refine l_callC F e_L_law_970 (s_X9_plan (x_l X) V b M 1 T _ _ b (xs (i + 1)) (xs (i + 2)) (xs (i + 3)) hHT kA_b  (by omega)) cb_X9_plan ml_L_111 im_X9_plan se_X9_plan hHT rfl rfl (rest := []) rfl (Nat.le_of_ble_eq_true rfl) ⟨Nat.le_of_ble_eq_true rfl, Nat.le_of_ble_eq_true rfl⟩ (by omega) (by omega) (fun r σ11209 hp => ?_)
  obtain ⟨h11210, x11211, rfl⟩ := hp
  have h11212 := h11210.1
  have h11213 := hHR.keepL (fun a ha _ => h11210.2 a (by rw [show kA _ a = 0 from ha]; decide))
  have h11214 := (h11210.2 (b + 1480) (by rw [show kA _ (b + 1480) = 0 from kA_o]; decide)).trans hout
  have br11216 := hBr.of (h11210.2 (b + 1457 + 1) (by rw [show kA _ (b + 1457 + 1) = 0 from kA_big (by omega)]; decide))
  have by11215 := hBy.keep (h11210.2 (b + 1) (by rw [show kA _ (b + 1) = 2 from kA_t]; decide))
  refine m_pop2_2 F rfl e_L_law_973 ?_
  refine m_aload_n F rfl e_L_law_974 ?_
  refine m_aload_n F rfl e_L_law_975 ?_
  refine m_iload F rfl e_L_law_976 ?_
  refine m_iconst F (v := 1) (by decide) e_L_law_978 ?_
  refine m_iadd F e_L_law_979 ?_
  refine Wm.topE (w := nI (i + 1)) (nI_add i 1) ?_
  refine m_sld F (j := i + 1) e_L_law_980 hX hb (nI_clamp (by omega)) (vp_in_nI (by omega) (by omega)) ?_
  refine m_aload_n F rfl e_L_law_981 ?_
  refine m_iload F rfl e_L_law_982 ?_
  refine m_iconst F (v := 2) (by decide) e_L_law_984 ?_
  refine m_iadd F e_L_law_985 ?_
  refine Wm.topE (w := nI (i + 2)) (nI_add i 2) ?_
  refine m_sld F (j := i + 2) e_L_law_986 hX hb (nI_clamp (by omega)) (vp_in_nI (by omega) (by omega)) ?_
  refine m_aload_n F rfl e_L_law_987 ?_
  refine m_iload F rfl e_L_law_988 ?_
  refine m_iconst F (v := 3) (by decide) e_L_law_990 ?_
  refine m_iadd F e_L_law_991 ?_
  refine Wm.topE (w := nI (i + 3)) (nI_add i 3) ?_
  refine m_sld F (j := i + 3) e_L_law_992 hX hb (nI_clamp (by omega)) (vp_in_nI (by omega) (by omega)) ?_
  refine l_callM F e_L_law_993 (q_X10_plan (x_l X) V (b + 1457) T 1 u h P L0_ _ _ (xs (i + 1)) (xs (i + 2)) (xs (i + 3)) h11213 hok hP ) cb_X10_plan ml_L_114 im_X10_plan se_X10_plan h11213 rfl rfl (rest := []) rfl (Nat.le_of_ble_eq_true rfl) ⟨Nat.le_of_ble_eq_true rfl, Nat.le_of_ble_eq_true rfl⟩ (by omega) (by omega) (fun r σ11217 hp => ?_)
  obtain ⟨h11218, x11219, rfl⟩ := hp
  have h11220 := h11218.1
  have h11221 := h11212.keepM (fun a ha => h11218.2 a (by rw [ha]; decide))
  have h11222 := (h11218.2 (b + 1480) (by rw [kC_0 (c := b + 1457) (by omega)]; decide)).trans h11214
  have by11223 := by11215.keep (h11218.2 (b + 1) (by rw [kC_0 (c := b + 1457) (by omega)]; decide))
  have br11224 := br11216.of (h11218.2 (b + 1457 + 1) (by rw [kC_at (k := 1) (by decide)]; decide))
  refine m_pop2_2 F rfl e_L_law_996 ?_
  refine m_goto F e_L_law_997 ?_
  exact hN _ (M + 648) T _ _ _ (by omega) (by omega) (by omega) ⟨by omega, h11221, ⟨_, h11222⟩, u, h, P, L0_, ⟨hu, hh, hP, hkk, hm0, hw0, hok⟩, h11220, _, by11223, br11224⟩
set_option maxRecDepth 20000 in
theorem lc_21 {V : VX} {X : MX} {nm : String} {b sb N k z i L M T : Nat} {xs : Nat → Int32} {σ : Mem} (F : Fx V X (yLw nm) cL_law 7 ret room_1) (hX : va_X sb L xs (x_s X) V.2.2) (hb : sb < V.2.2.size) (hl : (x_l X).stackTraces = false) (hi : i + 6 ≤ L) (hL : L ≤ 3072) (hk : k ≤ 2100) (hz : z ≤ 80000) (hM : M ≤ 10000000) (hI : IV V b M T σ) (hN : ∀ (N' M' T' : Nat) (σ' : Mem) (k' z' : Nat), k' ≤ k + 1 → z' ≤ z + 6 → M' ≤ M + 10000 → IV V b M' T' σ' → Wm V X 7 N' σ' k' z' 1745 [(4, .int (nI i)), (3, .ref (b + 1480)), (2, .ref (b + 1457)), (1, .ref b), (0, .ref sb)] []) : Wm V X 7 N σ k z 1000 [(4, .int (nI i)), (3, .ref (b + 1480)), (2, .ref (b + 1457)), (1, .ref b), (0, .ref sb)] [] := by
  obtain ⟨hT, hHT, ⟨z0, hout⟩, u, h, P, L0_, ⟨hu, hh, hP, hkk, hm0, hw0, hok⟩, hHR, t, hBy, hBr⟩ := hI
  refine m_aload_n F rfl e_L_law_1000 ?_
  refine m_aload_n F rfl e_L_law_1001 ?_
  refine m_iload F rfl e_L_law_1002 ?_
  refine m_iconst F (v := 1) (by decide) e_L_law_1004 ?_
  refine m_iadd F e_L_law_1005 ?_
  refine Wm.topE (w := nI (i + 1)) (nI_add i 1) ?_
  refine m_sld F (j := i + 1) e_L_law_1006 hX hb (nI_clamp (by omega)) (vp_in_nI (by omega) (by omega)) ?_
  refine l_callC F e_L_law_1007 (s_X9_all (x_l X) V b M 1 T _ _ b (xs (i + 1)) hHT kA_b  (by omega)) cb_X9_all ml_L_115 im_X9_all se_X9_all hHT rfl rfl (rest := []) rfl (Nat.le_of_ble_eq_true rfl) ⟨Nat.le_of_ble_eq_true rfl, Nat.le_of_ble_eq_true rfl⟩ (by omega) (by omega) (fun r σ11225 hp => ?_)
  obtain ⟨h11226, x11227, rfl⟩ := hp
  have h11228 := h11226.1
  have h11229 := hHR.keepL (fun a ha _ => h11226.2 a (by rw [show kA _ a = 0 from ha]; decide))
  have h11230 := (h11226.2 (b + 1480) (by rw [show kA _ (b + 1480) = 0 from kA_o]; decide)).trans hout
  have br11232 := hBr.of (h11226.2 (b + 1457 + 1) (by rw [show kA _ (b + 1457 + 1) = 0 from kA_big (by omega)]; decide))
  have by11231 := hBy.keep (h11226.2 (b + 1) (by rw [show kA _ (b + 1) = 2 from kA_t]; decide))
  refine m_pop2_2 F rfl e_L_law_1010 ?_
  refine m_aload_n F rfl e_L_law_1011 ?_
  refine m_aload_n F rfl e_L_law_1012 ?_
  refine m_iload F rfl e_L_law_1013 ?_
  refine m_iconst F (v := 1) (by decide) e_L_law_1015 ?_
  refine m_iadd F e_L_law_1016 ?_
  refine Wm.topE (w := nI (i + 1)) (nI_add i 1) ?_
  refine m_sld F (j := i + 1) e_L_law_1017 hX hb (nI_clamp (by omega)) (vp_in_nI (by omega) (by omega)) ?_
  refine l_callM F e_L_law_1018 (q_X10_all (x_l X) V (b + 1457) T 1 u h P L0_ _ _ (xs (i + 1)) h11229 hok hP ) cb_X10_all ml_L_118 im_X10_all se_X10_all h11229 rfl rfl (rest := []) rfl (Nat.le_of_ble_eq_true rfl) ⟨Nat.le_of_ble_eq_true rfl, Nat.le_of_ble_eq_true rfl⟩ (by omega) (by omega) (fun r σ11233 hp => ?_)
  obtain ⟨h11234, x11235, rfl⟩ := hp
  have h11236 := h11234.1
  have h11237 := h11228.keepM (fun a ha => h11234.2 a (by rw [ha]; decide))
  have h11238 := (h11234.2 (b + 1480) (by rw [kC_0 (c := b + 1457) (by omega)]; decide)).trans h11230
  have by11239 := by11231.keep (h11234.2 (b + 1) (by rw [kC_0 (c := b + 1457) (by omega)]; decide))
  have br11240 := br11232.of (h11234.2 (b + 1457 + 1) (by rw [kC_at (k := 1) (by decide)]; decide))
  refine m_pop2_2 F rfl e_L_law_1021 ?_
  refine m_goto F e_L_law_1022 ?_
  exact hN _ (M + 648) T _ _ _ (by omega) (by omega) (by omega) ⟨by omega, h11237, ⟨_, h11238⟩, u, h, P, L0_, ⟨hu, hh, hP, hkk, hm0, hw0, hok⟩, h11236, _, by11239, br11240⟩
set_option maxRecDepth 20000 in
theorem lc_22 {V : VX} {X : MX} {nm : String} {b sb N k z i L M T : Nat} {xs : Nat → Int32} {σ : Mem} (F : Fx V X (yLw nm) cL_law 7 ret room_1) (hX : va_X sb L xs (x_s X) V.2.2) (hb : sb < V.2.2.size) (hl : (x_l X).stackTraces = false) (hi : i + 6 ≤ L) (hL : L ≤ 3072) (hk : k ≤ 2100) (hz : z ≤ 80000) (hM : M ≤ 10000000) (hI : IV V b M T σ) (hN : ∀ (N' M' T' : Nat) (σ' : Mem) (k' z' : Nat), k' ≤ k + 1 → z' ≤ z + 6 → M' ≤ M + 10000 → IV V b M' T' σ' → Wm V X 7 N' σ' k' z' 1745 [(4, .int (nI i)), (3, .ref (b + 1480)), (2, .ref (b + 1457)), (1, .ref b), (0, .ref sb)] []) : Wm V X 7 N σ k z 1025 [(4, .int (nI i)), (3, .ref (b + 1480)), (2, .ref (b + 1457)), (1, .ref b), (0, .ref sb)] [] := by
  obtain ⟨hT, hHT, ⟨z0, hout⟩, u, h, P, L0_, ⟨hu, hh, hP, hkk, hm0, hw0, hok⟩, hHR, t, hBy, hBr⟩ := hI
  refine m_aload_n F rfl e_L_law_1025 ?_
  refine m_aload_n F rfl e_L_law_1026 ?_
  refine m_iload F rfl e_L_law_1027 ?_
  refine m_iconst F (v := 1) (by decide) e_L_law_1029 ?_
  refine m_iadd F e_L_law_1030 ?_
  refine Wm.topE (w := nI (i + 1)) (nI_add i 1) ?_
  refine m_sld F (j := i + 1) e_L_law_1031 hX hb (nI_clamp (by omega)) (vp_in_nI (by omega) (by omega)) ?_
  refine m_aload_n F rfl e_L_law_1032 ?_
  refine m_iload F rfl e_L_law_1033 ?_
  refine m_iconst F (v := 2) (by decide) e_L_law_1035 ?_
  refine m_iadd F e_L_law_1036 ?_
  refine Wm.topE (w := nI (i + 2)) (nI_add i 2) ?_
  refine m_sld F (j := i + 2) e_L_law_1037 hX hb (nI_clamp (by omega)) (vp_in_nI (by omega) (by omega)) ?_
  refine l_callC F e_L_law_1038 (s_X9_soon (x_l X) V b M 1 T _ _ b (xs (i + 1)) (xs (i + 2)) hHT kA_b  (by omega)) cb_X9_soon ml_L_119 im_X9_soon se_X9_soon hHT rfl rfl (rest := []) rfl (Nat.le_of_ble_eq_true rfl) ⟨Nat.le_of_ble_eq_true rfl, Nat.le_of_ble_eq_true rfl⟩ (by omega) (by omega) (fun r σ11241 hp => ?_)
  obtain ⟨h11242, x11243, rfl⟩ := hp
  have h11244 := h11242.1
  have h11245 := hHR.keepL (fun a ha _ => h11242.2 a (by rw [show kA _ a = 0 from ha]; decide))
  have h11246 := (h11242.2 (b + 1480) (by rw [show kA _ (b + 1480) = 0 from kA_o]; decide)).trans hout
  have br11248 := hBr.of (h11242.2 (b + 1457 + 1) (by rw [show kA _ (b + 1457 + 1) = 0 from kA_big (by omega)]; decide))
  have by11247 := hBy.keep (h11242.2 (b + 1) (by rw [show kA _ (b + 1) = 2 from kA_t]; decide))
  refine m_pop2_2 F rfl e_L_law_1041 ?_
  refine m_aload_n F rfl e_L_law_1042 ?_
  refine m_aload_n F rfl e_L_law_1043 ?_
  refine m_iload F rfl e_L_law_1044 ?_
  refine m_iconst F (v := 1) (by decide) e_L_law_1046 ?_
  refine m_iadd F e_L_law_1047 ?_
  refine Wm.topE (w := nI (i + 1)) (nI_add i 1) ?_
  refine m_sld F (j := i + 1) e_L_law_1048 hX hb (nI_clamp (by omega)) (vp_in_nI (by omega) (by omega)) ?_
  refine m_aload_n F rfl e_L_law_1049 ?_
  refine m_iload F rfl e_L_law_1050 ?_
  refine m_iconst F (v := 2) (by decide) e_L_law_1052 ?_
  refine m_iadd F e_L_law_1053 ?_
  refine Wm.topE (w := nI (i + 2)) (nI_add i 2) ?_
  refine m_sld F (j := i + 2) e_L_law_1054 hX hb (nI_clamp (by omega)) (vp_in_nI (by omega) (by omega)) ?_
  refine l_callM F e_L_law_1055 (q_X10_soon (x_l X) V (b + 1457) T 1 u h P L0_ _ _ (xs (i + 1)) (xs (i + 2)) h11245 hok hP ) cb_X10_soon ml_L_122 im_X10_soon se_X10_soon h11245 rfl rfl (rest := []) rfl (Nat.le_of_ble_eq_true rfl) ⟨Nat.le_of_ble_eq_true rfl, Nat.le_of_ble_eq_true rfl⟩ (by omega) (by omega) (fun r σ11249 hp => ?_)
  obtain ⟨h11250, x11251, rfl⟩ := hp
  have h11252 := h11250.1
  have h11253 := h11244.keepM (fun a ha => h11250.2 a (by rw [ha]; decide))
  have h11254 := (h11250.2 (b + 1480) (by rw [kC_0 (c := b + 1457) (by omega)]; decide)).trans h11246
  have by11255 := by11247.keep (h11250.2 (b + 1) (by rw [kC_0 (c := b + 1457) (by omega)]; decide))
  have br11256 := br11248.of (h11250.2 (b + 1457 + 1) (by rw [kC_at (k := 1) (by decide)]; decide))
  refine m_pop2_2 F rfl e_L_law_1058 ?_
  refine m_goto F e_L_law_1059 ?_
  exact hN _ (M + 648) T _ _ _ (by omega) (by omega) (by omega) ⟨by omega, h11253, ⟨_, h11254⟩, u, h, P, L0_, ⟨hu, hh, hP, hkk, hm0, hw0, hok⟩, h11252, _, by11255, br11256⟩
set_option maxRecDepth 20000 in
theorem lc_23 {V : VX} {X : MX} {nm : String} {b sb N k z i L M T : Nat} {xs : Nat → Int32} {σ : Mem} (F : Fx V X (yLw nm) cL_law 7 ret room_1) (hX : va_X sb L xs (x_s X) V.2.2) (hb : sb < V.2.2.size) (hl : (x_l X).stackTraces = false) (hi : i + 6 ≤ L) (hL : L ≤ 3072) (hk : k ≤ 2100) (hz : z ≤ 80000) (hM : M ≤ 10000000) (hI : IV V b M T σ) (hN : ∀ (N' M' T' : Nat) (σ' : Mem) (k' z' : Nat), k' ≤ k + 1 → z' ≤ z + 6 → M' ≤ M + 10000 → IV V b M' T' σ' → Wm V X 7 N' σ' k' z' 1745 [(4, .int (nI i)), (3, .ref (b + 1480)), (2, .ref (b + 1457)), (1, .ref b), (0, .ref sb)] []) : Wm V X 7 N σ k z 1062 [(4, .int (nI i)), (3, .ref (b + 1480)), (2, .ref (b + 1457)), (1, .ref b), (0, .ref sb)] [] := by
  obtain ⟨hT, hHT, ⟨z0, hout⟩, u, h, P, L0_, ⟨hu, hh, hP, hkk, hm0, hw0, hok⟩, hHR, t, hBy, hBr⟩ := hI
  refine m_aload_n F rfl e_L_law_1062 ?_
  refine m_aload_n F rfl e_L_law_1063 ?_
  refine m_iload F rfl e_L_law_1064 ?_
  refine m_iconst F (v := 1) (by decide) e_L_law_1066 ?_
  refine m_iadd F e_L_law_1067 ?_
  refine Wm.topE (w := nI (i + 1)) (nI_add i 1) ?_
  refine m_sld F (j := i + 1) e_L_law_1068 hX hb (nI_clamp (by omega)) (vp_in_nI (by omega) (by omega)) ?_
  refine m_aload_n F rfl e_L_law_1069 ?_
  refine m_iload F rfl e_L_law_1070 ?_
  refine m_iconst F (v := 2) (by decide) e_L_law_1072 ?_
  refine m_iadd F e_L_law_1073 ?_
  refine Wm.topE (w := nI (i + 2)) (nI_add i 2) ?_
  refine m_sld F (j := i + 2) e_L_law_1074 hX hb (nI_clamp (by omega)) (vp_in_nI (by omega) (by omega)) ?_
  refine l_callC F e_L_law_1075 (s_X9_sum (x_l X) V b M 1 T _ _ b (xs (i + 1)) (xs (i + 2)) hHT kA_b  (by omega)) cb_X9_sum ml_L_123 im_X9_sum se_X9_sum hHT rfl rfl (rest := []) rfl (Nat.le_of_ble_eq_true rfl) ⟨Nat.le_of_ble_eq_true rfl, Nat.le_of_ble_eq_true rfl⟩ (by omega) (by omega) (fun r σ11257 hp => ?_)
  obtain ⟨h11258, x11259, rfl⟩ := hp
  have h11260 := h11258.1
  have h11261 := hHR.keepL (fun a ha _ => h11258.2 a (by rw [show kA _ a = 0 from ha]; decide))
  have h11262 := (h11258.2 (b + 1480) (by rw [show kA _ (b + 1480) = 0 from kA_o]; decide)).trans hout
  have br11264 := hBr.of (h11258.2 (b + 1457 + 1) (by rw [show kA _ (b + 1457 + 1) = 0 from kA_big (by omega)]; decide))
  have by11263 := hBy.keep (h11258.2 (b + 1) (by rw [show kA _ (b + 1) = 2 from kA_t]; decide))
  refine m_pop2_2 F rfl e_L_law_1078 ?_
  refine m_aload_n F rfl e_L_law_1079 ?_
  refine m_aload_n F rfl e_L_law_1080 ?_
  refine m_iload F rfl e_L_law_1081 ?_
  refine m_iconst F (v := 1) (by decide) e_L_law_1083 ?_
  refine m_iadd F e_L_law_1084 ?_
  refine Wm.topE (w := nI (i + 1)) (nI_add i 1) ?_
  refine m_sld F (j := i + 1) e_L_law_1085 hX hb (nI_clamp (by omega)) (vp_in_nI (by omega) (by omega)) ?_
  refine m_aload_n F rfl e_L_law_1086 ?_
  refine m_iload F rfl e_L_law_1087 ?_
  refine m_iconst F (v := 2) (by decide) e_L_law_1089 ?_
  refine m_iadd F e_L_law_1090 ?_
  refine Wm.topE (w := nI (i + 2)) (nI_add i 2) ?_
  refine m_sld F (j := i + 2) e_L_law_1091 hX hb (nI_clamp (by omega)) (vp_in_nI (by omega) (by omega)) ?_
  refine l_callM F e_L_law_1092 (q_X10_sum (x_l X) V (b + 1457) T 1 u h P L0_ _ _ (xs (i + 1)) (xs (i + 2)) h11261 hok.b hP ) cb_X10_sum ml_L_126 im_X10_sum se_X10_sum h11261 rfl rfl (rest := []) rfl (Nat.le_of_ble_eq_true rfl) ⟨Nat.le_of_ble_eq_true rfl, Nat.le_of_ble_eq_true rfl⟩ (by omega) (by omega) (fun r σ11265 hp => ?_)
  obtain ⟨h11266, x11267, rfl⟩ := hp
  have h11268 := h11266.1
  have h11269 := h11260.keepM (fun a ha => h11266.2 a (by rw [ha]; decide))
  have h11270 := (h11266.2 (b + 1480) (by rw [kC_0 (c := b + 1457) (by omega)]; decide)).trans h11262
  have by11271 := by11263.keep (h11266.2 (b + 1) (by rw [kC_0 (c := b + 1457) (by omega)]; decide))
  have br11272 := br11264.of (h11266.2 (b + 1457 + 1) (by rw [kC_at (k := 1) (by decide)]; decide))
  refine m_pop2_2 F rfl e_L_law_1095 ?_
  refine m_goto F e_L_law_1096 ?_
  exact hN _ M T _ _ _ (by omega) (by omega) (by omega) ⟨by omega, h11269, ⟨_, h11270⟩, u, h, P, L0_, ⟨hu, hh, hP, hkk, hm0, hw0, hok⟩, h11268, _, by11271, br11272⟩
set_option maxRecDepth 20000 in
theorem lc_24 {V : VX} {X : MX} {nm : String} {b sb N k z i L M T : Nat} {xs : Nat → Int32} {σ : Mem} (F : Fx V X (yLw nm) cL_law 7 ret room_1) (hX : va_X sb L xs (x_s X) V.2.2) (hb : sb < V.2.2.size) (hl : (x_l X).stackTraces = false) (hi : i + 6 ≤ L) (hL : L ≤ 3072) (hk : k ≤ 2100) (hz : z ≤ 80000) (hM : M ≤ 10000000) (hI : IV V b M T σ) (hN : ∀ (N' M' T' : Nat) (σ' : Mem) (k' z' : Nat), k' ≤ k + 1 → z' ≤ z + 6 → M' ≤ M + 10000 → IV V b M' T' σ' → Wm V X 7 N' σ' k' z' 1745 [(4, .int (nI i)), (3, .ref (b + 1480)), (2, .ref (b + 1457)), (1, .ref b), (0, .ref sb)] []) : Wm V X 7 N σ k z 1099 [(4, .int (nI i)), (3, .ref (b + 1480)), (2, .ref (b + 1457)), (1, .ref b), (0, .ref sb)] [] := by
  obtain ⟨hT, hHT, ⟨z0, hout⟩, u, h, P, L0_, ⟨hu, hh, hP, hkk, hm0, hw0, hok⟩, hHR, t, hBy, hBr⟩ := hI
  refine m_aload_n F rfl e_L_law_1099 ?_
  refine m_aload_n F rfl e_L_law_1100 ?_
  refine m_iload F rfl e_L_law_1101 ?_
  refine m_iconst F (v := 1) (by decide) e_L_law_1103 ?_
  refine m_iadd F e_L_law_1104 ?_
  refine Wm.topE (w := nI (i + 1)) (nI_add i 1) ?_
  refine m_sld F (j := i + 1) e_L_law_1105 hX hb (nI_clamp (by omega)) (vp_in_nI (by omega) (by omega)) ?_
  refine m_aload_n F rfl e_L_law_1106 ?_
  refine m_iload F rfl e_L_law_1107 ?_
  refine m_iconst F (v := 2) (by decide) e_L_law_1109 ?_
  refine m_iadd F e_L_law_1110 ?_
  refine Wm.topE (w := nI (i + 2)) (nI_add i 2) ?_
  refine m_sld F (j := i + 2) e_L_law_1111 hX hb (nI_clamp (by omega)) (vp_in_nI (by omega) (by omega)) ?_
  refine l_callC F e_L_law_1112 (s_X9_moved (x_l X) V b M 1 T _ _ b (xs (i + 1)) (xs (i + 2)) hHT kA_b  (by omega)) cb_X9_moved ml_L_127 im_X9_moved se_X9_moved hHT rfl rfl (rest := []) rfl (Nat.le_of_ble_eq_true rfl) ⟨Nat.le_of_ble_eq_true rfl, Nat.le_of_ble_eq_true rfl⟩ (by omega) (by omega) (fun r σ11273 hp => ?_)
  obtain ⟨h11274, x11275, rfl⟩ := hp
  have h11276 := h11274.1
  have h11277 := hHR.keepL (fun a ha _ => h11274.2 a (by rw [show kA _ a = 0 from ha]; decide))
  have h11278 := (h11274.2 (b + 1480) (by rw [show kA _ (b + 1480) = 0 from kA_o]; decide)).trans hout
  have br11280 := hBr.of (h11274.2 (b + 1457 + 1) (by rw [show kA _ (b + 1457 + 1) = 0 from kA_big (by omega)]; decide))
  have by11279 := hBy.keep (h11274.2 (b + 1) (by rw [show kA _ (b + 1) = 2 from kA_t]; decide))
  refine m_pop2_2 F rfl e_L_law_1115 ?_
  refine m_aload_n F rfl e_L_law_1116 ?_
  refine m_aload_n F rfl e_L_law_1117 ?_
  refine m_iload F rfl e_L_law_1118 ?_
  refine m_iconst F (v := 1) (by decide) e_L_law_1120 ?_
  refine m_iadd F e_L_law_1121 ?_
  refine Wm.topE (w := nI (i + 1)) (nI_add i 1) ?_
  refine m_sld F (j := i + 1) e_L_law_1122 hX hb (nI_clamp (by omega)) (vp_in_nI (by omega) (by omega)) ?_
  refine m_aload_n F rfl e_L_law_1123 ?_
  refine m_iload F rfl e_L_law_1124 ?_
  refine m_iconst F (v := 2) (by decide) e_L_law_1126 ?_
  refine m_iadd F e_L_law_1127 ?_
  refine Wm.topE (w := nI (i + 2)) (nI_add i 2) ?_
  refine m_sld F (j := i + 2) e_L_law_1128 hX hb (nI_clamp (by omega)) (vp_in_nI (by omega) (by omega)) ?_
  refine l_callM F e_L_law_1129 (q_X10_moved (x_l X) V (b + 1457) T 1 u h P L0_ _ _ (xs (i + 1)) (xs (i + 2)) h11277 hok.b hP ) cb_X10_moved ml_L_130 im_X10_moved se_X10_moved h11277 rfl rfl (rest := []) rfl (Nat.le_of_ble_eq_true rfl) ⟨Nat.le_of_ble_eq_true rfl, Nat.le_of_ble_eq_true rfl⟩ (by omega) (by omega) (fun r σ11281 hp => ?_)
  obtain ⟨h11282, x11283, rfl⟩ := hp
  have h11284 := h11282.1
  have h11285 := h11276.keepM (fun a ha => h11282.2 a (by rw [ha]; decide))
  have h11286 := (h11282.2 (b + 1480) (by rw [kC_0 (c := b + 1457) (by omega)]; decide)).trans h11278
  have by11287 := by11279.keep (h11282.2 (b + 1) (by rw [kC_0 (c := b + 1457) (by omega)]; decide))
  have br11288 := br11280.of (h11282.2 (b + 1457 + 1) (by rw [kC_at (k := 1) (by decide)]; decide))
  refine m_pop2_2 F rfl e_L_law_1132 ?_
  refine m_goto F e_L_law_1133 ?_
  exact hN _ M T _ _ _ (by omega) (by omega) (by omega) ⟨by omega, h11285, ⟨_, h11286⟩, u, h, P, L0_, ⟨hu, hh, hP, hkk, hm0, hw0, hok⟩, h11284, _, by11287, br11288⟩
set_option maxRecDepth 20000 in
theorem lc_25 {V : VX} {X : MX} {nm : String} {b sb N k z i L M T : Nat} {xs : Nat → Int32} {σ : Mem} (F : Fx V X (yLw nm) cL_law 7 ret room_1) (hX : va_X sb L xs (x_s X) V.2.2) (hb : sb < V.2.2.size) (hl : (x_l X).stackTraces = false) (hi : i + 6 ≤ L) (hL : L ≤ 3072) (hk : k ≤ 2100) (hz : z ≤ 80000) (hM : M ≤ 10000000) (hI : IV V b M T σ) (hN : ∀ (N' M' T' : Nat) (σ' : Mem) (k' z' : Nat), k' ≤ k + 1 → z' ≤ z + 6 → M' ≤ M + 10000 → IV V b M' T' σ' → Wm V X 7 N' σ' k' z' 1745 [(4, .int (nI i)), (3, .ref (b + 1480)), (2, .ref (b + 1457)), (1, .ref b), (0, .ref sb)] []) : Wm V X 7 N σ k z 1136 [(4, .int (nI i)), (3, .ref (b + 1480)), (2, .ref (b + 1457)), (1, .ref b), (0, .ref sb)] [] := by
  obtain ⟨hT, hHT, ⟨z0, hout⟩, u, h, P, L0_, ⟨hu, hh, hP, hkk, hm0, hw0, hok⟩, hHR, t, hBy, hBr⟩ := hI
  refine m_aload_n F rfl e_L_law_1136 ?_
  refine m_aload_n F rfl e_L_law_1137 ?_
  refine m_iload F rfl e_L_law_1138 ?_
  refine m_iconst F (v := 1) (by decide) e_L_law_1140 ?_
  refine m_iadd F e_L_law_1141 ?_
  refine Wm.topE (w := nI (i + 1)) (nI_add i 1) ?_
  refine m_sld F (j := i + 1) e_L_law_1142 hX hb (nI_clamp (by omega)) (vp_in_nI (by omega) (by omega)) ?_
  refine l_callC F e_L_law_1143 (s_X9_choose (x_l X) V b M 1 T _ _ b (xs (i + 1)) hHT kA_b  (by omega)) cb_X9_choose ml_L_131 im_X9_choose se_X9_choose hHT rfl rfl (rest := []) rfl (Nat.le_of_ble_eq_true rfl) ⟨Nat.le_of_ble_eq_true rfl, Nat.le_of_ble_eq_true rfl⟩ (by omega) (by omega) (fun r σ11289 hp => ?_)
  obtain ⟨h11290, x11291, rfl⟩ := hp
  have h11292 := h11290.1
  have h11293 := hHR.keepL (fun a ha _ => h11290.2 a (by rw [show kA _ a = 0 from ha]; decide))
  have h11294 := (h11290.2 (b + 1480) (by rw [show kA _ (b + 1480) = 0 from kA_o]; decide)).trans hout
  have br11296 := hBr.of (h11290.2 (b + 1457 + 1) (by rw [show kA _ (b + 1457 + 1) = 0 from kA_big (by omega)]; decide))
  have by11295 := hBy.keep (h11290.2 (b + 1) (by rw [show kA _ (b + 1) = 2 from kA_t]; decide))
  refine m_pop F rfl e_L_law_1146 ?_
  refine m_aload_n F rfl e_L_law_1147 ?_
  refine m_aload_n F rfl e_L_law_1148 ?_
  refine m_iload F rfl e_L_law_1149 ?_
  refine m_iconst F (v := 1) (by decide) e_L_law_1151 ?_
  refine m_iadd F e_L_law_1152 ?_
  refine Wm.topE (w := nI (i + 1)) (nI_add i 1) ?_
  refine m_sld F (j := i + 1) e_L_law_1153 hX hb (nI_clamp (by omega)) (vp_in_nI (by omega) (by omega)) ?_
  refine l_callM F e_L_law_1154 (q_X10_choose (x_l X) V (b + 1457) T 1 u h P L0_ _ _ (xs (i + 1)) h11293 hok hP ) cb_X10_choose ml_L_134 im_X10_choose se_X10_choose h11293 rfl rfl (rest := []) rfl (Nat.le_of_ble_eq_true rfl) ⟨Nat.le_of_ble_eq_true rfl, Nat.le_of_ble_eq_true rfl⟩ (by omega) (by omega) (fun r σ11297 hp => ?_)
  obtain ⟨h11298, x11299, rfl⟩ := hp
  have h11300 := h11298.1
  have h11301 := h11292.keepM (fun a ha => h11298.2 a (by rw [ha]; decide))
  have h11302 := (h11298.2 (b + 1480) (by rw [kC_0 (c := b + 1457) (by omega)]; decide)).trans h11294
  have by11303 := by11295.keep (h11298.2 (b + 1) (by rw [kC_0 (c := b + 1457) (by omega)]; decide))
  have br11304 := br11296.of (h11298.2 (b + 1457 + 1) (by rw [kC_at (k := 1) (by decide)]; decide))
  refine m_pop F rfl e_L_law_1157 ?_
  refine m_goto F e_L_law_1158 ?_
  exact hN _ M T _ _ _ (by omega) (by omega) (by omega) ⟨by omega, h11301, ⟨_, h11302⟩, u, h, P, L0_, ⟨hu, hh, hP, hkk, hm0, hw0, hok⟩, h11300, _, by11303, br11304⟩
set_option maxRecDepth 20000 in
theorem lc_26 {V : VX} {X : MX} {nm : String} {b sb N k z i L M T : Nat} {xs : Nat → Int32} {σ : Mem} (F : Fx V X (yLw nm) cL_law 7 ret room_1) (hX : va_X sb L xs (x_s X) V.2.2) (hb : sb < V.2.2.size) (hl : (x_l X).stackTraces = false) (hi : i + 6 ≤ L) (hL : L ≤ 3072) (hk : k ≤ 2100) (hz : z ≤ 80000) (hM : M ≤ 10000000) (hI : IV V b M T σ) (hN : ∀ (N' M' T' : Nat) (σ' : Mem) (k' z' : Nat), k' ≤ k + 1 → z' ≤ z + 6 → M' ≤ M + 10000 → IV V b M' T' σ' → Wm V X 7 N' σ' k' z' 1745 [(4, .int (nI i)), (3, .ref (b + 1480)), (2, .ref (b + 1457)), (1, .ref b), (0, .ref sb)] []) : Wm V X 7 N σ k z 1161 [(4, .int (nI i)), (3, .ref (b + 1480)), (2, .ref (b + 1457)), (1, .ref b), (0, .ref sb)] [] := by
  obtain ⟨hT, hHT, ⟨z0, hout⟩, u, h, P, L0_, ⟨hu, hh, hP, hkk, hm0, hw0, hok⟩, hHR, t, hBy, hBr⟩ := hI
  refine m_aload_n F rfl e_L_law_1161 ?_
  refine m_aload_n F rfl e_L_law_1162 ?_
  refine m_iload F rfl e_L_law_1163 ?_
  refine m_iconst F (v := 1) (by decide) e_L_law_1165 ?_
  refine m_iadd F e_L_law_1166 ?_
  refine Wm.topE (w := nI (i + 1)) (nI_add i 1) ?_
  refine m_sld F (j := i + 1) e_L_law_1167 hX hb (nI_clamp (by omega)) (vp_in_nI (by omega) (by omega)) ?_
  refine m_aload_n F rfl e_L_law_1168 ?_
  refine m_iload F rfl e_L_law_1169 ?_
  refine m_iconst F (v := 2) (by decide) e_L_law_1171 ?_
  refine m_iadd F e_L_law_1172 ?_
  refine Wm.topE (w := nI (i + 2)) (nI_add i 2) ?_
  refine m_sld F (j := i + 2) e_L_law_1173 hX hb (nI_clamp (by omega)) (vp_in_nI (by omega) (by omega)) ?_
  refine m_if_eq F e_L_law_1174 (fun q1174 => ?_) (fun q1174 => ?_)
  · refine m_iconst F (v := 0) (by decide) e_L_law_1181 ?_
    refine l_callC F e_L_law_1182 (s_X9_life (x_l X) V b M 1 T _ _ b (xs (i + 1)) 0 hHT kA_b (by omega) (by omega)) cb_X9_life ml_L_135 im_X9_life se_X9_life hHT rfl rfl (rest := []) rfl (Nat.le_of_ble_eq_true rfl) ⟨Nat.le_of_ble_eq_true rfl, Nat.le_of_ble_eq_true rfl⟩ (by omega) (by omega) (fun r σ11305 hp => ?_)
    obtain ⟨h11306, x11307, rfl⟩ := hp
    have h11308 := h11306.1
    have h11309 := hHR.keepL (fun a ha _ => h11306.2 a (by rw [show kA _ a = 0 from ha]; decide))
    have h11310 := (h11306.2 (b + 1480) (by rw [show kA _ (b + 1480) = 0 from kA_o]; decide)).trans hout
    have br11312 := hBr.of (h11306.2 (b + 1457 + 1) (by rw [show kA _ (b + 1457 + 1) = 0 from kA_big (by omega)]; decide))
    have by11311 := hBy.keep (h11306.2 (b + 1) (by rw [show kA _ (b + 1) = 2 from kA_t]; decide))
    refine m_pop2_2 F rfl e_L_law_1185 ?_
    refine m_aload_n F rfl e_L_law_1186 ?_
    refine m_aload_n F rfl e_L_law_1187 ?_
    refine m_iload F rfl e_L_law_1188 ?_
    refine m_iconst F (v := 1) (by decide) e_L_law_1190 ?_
    refine m_iadd F e_L_law_1191 ?_
    refine Wm.topE (w := nI (i + 1)) (nI_add i 1) ?_
    refine m_sld F (j := i + 1) e_L_law_1192 hX hb (nI_clamp (by omega)) (vp_in_nI (by omega) (by omega)) ?_
    refine m_aload_n F rfl e_L_law_1193 ?_
    refine m_iload F rfl e_L_law_1194 ?_
    refine m_iconst F (v := 2) (by decide) e_L_law_1196 ?_
    refine m_iadd F e_L_law_1197 ?_
    refine Wm.topE (w := nI (i + 2)) (nI_add i 2) ?_
    refine m_sld F (j := i + 2) e_L_law_1198 hX hb (nI_clamp (by omega)) (vp_in_nI (by omega) (by omega)) ?_
    refine m_if_eq F e_L_law_1199 (fun q1199 => ?_) (fun q1199 => ?_)
    · refine m_iconst F (v := 0) (by decide) e_L_law_1206 ?_
      refine l_callM F e_L_law_1207 (q_X10_life (x_l X) V (b + 1457) T 1 u h P L0_ _ _ (xs (i + 1)) 0 h11309 hok.b hP ) cb_X10_life ml_L_139 im_X10_life se_X10_life h11309 rfl rfl (rest := []) rfl (Nat.le_of_ble_eq_true rfl) ⟨Nat.le_of_ble_eq_true rfl, Nat.le_of_ble_eq_true rfl⟩ (by omega) (by omega) (fun r σ11313 hp => ?_)
      obtain ⟨h11314, x11315, rfl⟩ := hp
      have h11316 := h11314.1
      have h11317 := h11308.keepM (fun a ha => h11314.2 a (by rw [ha]; decide))
      have h11318 := (h11314.2 (b + 1480) (by rw [kC_0 (c := b + 1457) (by omega)]; decide)).trans h11310
      have by11319 := by11311.keep (h11314.2 (b + 1) (by rw [kC_0 (c := b + 1457) (by omega)]; decide))
      have br11320 := br11312.of (h11314.2 (b + 1457 + 1) (by rw [kC_at (k := 1) (by decide)]; decide))
      refine m_pop2_2 F rfl e_L_law_1210 ?_
      refine m_goto F e_L_law_1211 ?_
      exact hN _ M T _ _ _ (by omega) (by omega) (by omega) ⟨by omega, h11317, ⟨_, h11318⟩, u, h, P, L0_, ⟨hu, hh, hP, hkk, hm0, hw0, hok⟩, h11316, _, by11319, br11320⟩
    · refine m_iconst F (v := 1) (by decide) e_L_law_1202 ?_
      refine m_goto F e_L_law_1203 ?_
      refine l_callM F e_L_law_1207 (q_X10_life (x_l X) V (b + 1457) T 1 u h P L0_ _ _ (xs (i + 1)) 1 h11309 hok.b hP ) cb_X10_life ml_L_139 im_X10_life se_X10_life h11309 rfl rfl (rest := []) rfl (Nat.le_of_ble_eq_true rfl) ⟨Nat.le_of_ble_eq_true rfl, Nat.le_of_ble_eq_true rfl⟩ (by omega) (by omega) (fun r σ11321 hp => ?_)
      obtain ⟨h11322, x11323, rfl⟩ := hp
      have h11324 := h11322.1
      have h11325 := h11308.keepM (fun a ha => h11322.2 a (by rw [ha]; decide))
      have h11326 := (h11322.2 (b + 1480) (by rw [kC_0 (c := b + 1457) (by omega)]; decide)).trans h11310
      have by11327 := by11311.keep (h11322.2 (b + 1) (by rw [kC_0 (c := b + 1457) (by omega)]; decide))
      have br11328 := br11312.of (h11322.2 (b + 1457 + 1) (by rw [kC_at (k := 1) (by decide)]; decide))
      refine m_pop2_2 F rfl e_L_law_1210 ?_
      refine m_goto F e_L_law_1211 ?_
      exact hN _ M T _ _ _ (by omega) (by omega) (by omega) ⟨by omega, h11325, ⟨_, h11326⟩, u, h, P, L0_, ⟨hu, hh, hP, hkk, hm0, hw0, hok⟩, h11324, _, by11327, br11328⟩
  · refine m_iconst F (v := 1) (by decide) e_L_law_1177 ?_
    refine m_goto F e_L_law_1178 ?_
    refine l_callC F e_L_law_1182 (s_X9_life (x_l X) V b M 1 T _ _ b (xs (i + 1)) 1 hHT kA_b (by omega) (by omega)) cb_X9_life ml_L_135 im_X9_life se_X9_life hHT rfl rfl (rest := []) rfl (Nat.le_of_ble_eq_true rfl) ⟨Nat.le_of_ble_eq_true rfl, Nat.le_of_ble_eq_true rfl⟩ (by omega) (by omega) (fun r σ11329 hp => ?_)
    obtain ⟨h11330, x11331, rfl⟩ := hp
    have h11332 := h11330.1
    have h11333 := hHR.keepL (fun a ha _ => h11330.2 a (by rw [show kA _ a = 0 from ha]; decide))
    have h11334 := (h11330.2 (b + 1480) (by rw [show kA _ (b + 1480) = 0 from kA_o]; decide)).trans hout
    have br11336 := hBr.of (h11330.2 (b + 1457 + 1) (by rw [show kA _ (b + 1457 + 1) = 0 from kA_big (by omega)]; decide))
    have by11335 := hBy.keep (h11330.2 (b + 1) (by rw [show kA _ (b + 1) = 2 from kA_t]; decide))
    refine m_pop2_2 F rfl e_L_law_1185 ?_
    refine m_aload_n F rfl e_L_law_1186 ?_
    refine m_aload_n F rfl e_L_law_1187 ?_
    refine m_iload F rfl e_L_law_1188 ?_
    refine m_iconst F (v := 1) (by decide) e_L_law_1190 ?_
    refine m_iadd F e_L_law_1191 ?_
    refine Wm.topE (w := nI (i + 1)) (nI_add i 1) ?_
    refine m_sld F (j := i + 1) e_L_law_1192 hX hb (nI_clamp (by omega)) (vp_in_nI (by omega) (by omega)) ?_
    refine m_aload_n F rfl e_L_law_1193 ?_
    refine m_iload F rfl e_L_law_1194 ?_
    refine m_iconst F (v := 2) (by decide) e_L_law_1196 ?_
    refine m_iadd F e_L_law_1197 ?_
    refine Wm.topE (w := nI (i + 2)) (nI_add i 2) ?_
    refine m_sld F (j := i + 2) e_L_law_1198 hX hb (nI_clamp (by omega)) (vp_in_nI (by omega) (by omega)) ?_
    refine m_if_eq F e_L_law_1199 (fun q1199 => ?_) (fun q1199 => ?_)
    · refine m_iconst F (v := 0) (by decide) e_L_law_1206 ?_
      refine l_callM F e_L_law_1207 (q_X10_life (x_l X) V (b + 1457) T 1 u h P L0_ _ _ (xs (i + 1)) 0 h11333 hok.b hP ) cb_X10_life ml_L_139 im_X10_life se_X10_life h11333 rfl rfl (rest := []) rfl (Nat.le_of_ble_eq_true rfl) ⟨Nat.le_of_ble_eq_true rfl, Nat.le_of_ble_eq_true rfl⟩ (by omega) (by omega) (fun r σ11337 hp => ?_)
      obtain ⟨h11338, x11339, rfl⟩ := hp
      have h11340 := h11338.1
      have h11341 := h11332.keepM (fun a ha => h11338.2 a (by rw [ha]; decide))
      have h11342 := (h11338.2 (b + 1480) (by rw [kC_0 (c := b + 1457) (by omega)]; decide)).trans h11334
      have by11343 := by11335.keep (h11338.2 (b + 1) (by rw [kC_0 (c := b + 1457) (by omega)]; decide))
      have br11344 := br11336.of (h11338.2 (b + 1457 + 1) (by rw [kC_at (k := 1) (by decide)]; decide))
      refine m_pop2_2 F rfl e_L_law_1210 ?_
      refine m_goto F e_L_law_1211 ?_
      exact hN _ M T _ _ _ (by omega) (by omega) (by omega) ⟨by omega, h11341, ⟨_, h11342⟩, u, h, P, L0_, ⟨hu, hh, hP, hkk, hm0, hw0, hok⟩, h11340, _, by11343, br11344⟩
    · refine m_iconst F (v := 1) (by decide) e_L_law_1202 ?_
      refine m_goto F e_L_law_1203 ?_
      refine l_callM F e_L_law_1207 (q_X10_life (x_l X) V (b + 1457) T 1 u h P L0_ _ _ (xs (i + 1)) 1 h11333 hok.b hP ) cb_X10_life ml_L_139 im_X10_life se_X10_life h11333 rfl rfl (rest := []) rfl (Nat.le_of_ble_eq_true rfl) ⟨Nat.le_of_ble_eq_true rfl, Nat.le_of_ble_eq_true rfl⟩ (by omega) (by omega) (fun r σ11345 hp => ?_)
      obtain ⟨h11346, x11347, rfl⟩ := hp
      have h11348 := h11346.1
      have h11349 := h11332.keepM (fun a ha => h11346.2 a (by rw [ha]; decide))
      have h11350 := (h11346.2 (b + 1480) (by rw [kC_0 (c := b + 1457) (by omega)]; decide)).trans h11334
      have by11351 := by11335.keep (h11346.2 (b + 1) (by rw [kC_0 (c := b + 1457) (by omega)]; decide))
      have br11352 := br11336.of (h11346.2 (b + 1457 + 1) (by rw [kC_at (k := 1) (by decide)]; decide))
      refine m_pop2_2 F rfl e_L_law_1210 ?_
      refine m_goto F e_L_law_1211 ?_
      exact hN _ M T _ _ _ (by omega) (by omega) (by omega) ⟨by omega, h11349, ⟨_, h11350⟩, u, h, P, L0_, ⟨hu, hh, hP, hkk, hm0, hw0, hok⟩, h11348, _, by11351, br11352⟩
set_option maxRecDepth 20000 in
theorem lc_27 {V : VX} {X : MX} {nm : String} {b sb N k z i L M T : Nat} {xs : Nat → Int32} {σ : Mem} (F : Fx V X (yLw nm) cL_law 7 ret room_1) (hX : va_X sb L xs (x_s X) V.2.2) (hb : sb < V.2.2.size) (hl : (x_l X).stackTraces = false) (hi : i + 6 ≤ L) (hL : L ≤ 3072) (hk : k ≤ 2100) (hz : z ≤ 80000) (hM : M ≤ 10000000) (hI : IV V b M T σ) (hN : ∀ (N' M' T' : Nat) (σ' : Mem) (k' z' : Nat), k' ≤ k + 1 → z' ≤ z + 6 → M' ≤ M + 10000 → IV V b M' T' σ' → Wm V X 7 N' σ' k' z' 1745 [(4, .int (nI i)), (3, .ref (b + 1480)), (2, .ref (b + 1457)), (1, .ref b), (0, .ref sb)] []) : Wm V X 7 N σ k z 1214 [(4, .int (nI i)), (3, .ref (b + 1480)), (2, .ref (b + 1457)), (1, .ref b), (0, .ref sb)] [] := by
  obtain ⟨hT, hHT, ⟨z0, hout⟩, u, h, P, L0_, ⟨hu, hh, hP, hkk, hm0, hw0, hok⟩, hHR, t, hBy, hBr⟩ := hI
  refine m_aload_n F rfl e_L_law_1214 ?_
  refine m_aload_n F rfl e_L_law_1215 ?_
  refine m_iload F rfl e_L_law_1216 ?_
  refine m_iconst F (v := 1) (by decide) e_L_law_1218 ?_
  refine m_iadd F e_L_law_1219 ?_
  refine Wm.topE (w := nI (i + 1)) (nI_add i 1) ?_
  refine m_sld F (j := i + 1) e_L_law_1220 hX hb (nI_clamp (by omega)) (vp_in_nI (by omega) (by omega)) ?_
  refine l_callC F e_L_law_1221 (s_X9_peak (x_l X) V b M 1 T _ _ b (xs (i + 1)) hHT kA_b  (by omega)) cb_X9_peak ml_L_140 im_X9_peak se_X9_peak hHT rfl rfl (rest := []) rfl (Nat.le_of_ble_eq_true rfl) ⟨Nat.le_of_ble_eq_true rfl, Nat.le_of_ble_eq_true rfl⟩ (by omega) (by omega) (fun r σ11353 hp => ?_)
  obtain ⟨h11354, x11355, rfl⟩ := hp
  have h11356 := h11354.1
  have h11357 := hHR.keepL (fun a ha _ => h11354.2 a (by rw [show kA _ a = 0 from ha]; decide))
  have h11358 := (h11354.2 (b + 1480) (by rw [show kA _ (b + 1480) = 0 from kA_o]; decide)).trans hout
  have br11360 := hBr.of (h11354.2 (b + 1457 + 1) (by rw [show kA _ (b + 1457 + 1) = 0 from kA_big (by omega)]; decide))
  have by11359 := hBy.keep (h11354.2 (b + 1) (by rw [show kA _ (b + 1) = 2 from kA_t]; decide))
  refine m_pop2_2 F rfl e_L_law_1224 ?_
  refine m_aload_n F rfl e_L_law_1225 ?_
  refine m_aload_n F rfl e_L_law_1226 ?_
  refine m_iload F rfl e_L_law_1227 ?_
  refine m_iconst F (v := 1) (by decide) e_L_law_1229 ?_
  refine m_iadd F e_L_law_1230 ?_
  refine Wm.topE (w := nI (i + 1)) (nI_add i 1) ?_
  refine m_sld F (j := i + 1) e_L_law_1231 hX hb (nI_clamp (by omega)) (vp_in_nI (by omega) (by omega)) ?_
  refine l_callM F e_L_law_1232 (q_X10_peak (x_l X) V (b + 1457) T 1 u h P L0_ _ _ (xs (i + 1)) h11357 hok hP ) cb_X10_peak ml_L_143 im_X10_peak se_X10_peak h11357 rfl rfl (rest := []) rfl (Nat.le_of_ble_eq_true rfl) ⟨Nat.le_of_ble_eq_true rfl, Nat.le_of_ble_eq_true rfl⟩ (by omega) (by omega) (fun r σ11361 hp => ?_)
  obtain ⟨h11362, x11363, rfl⟩ := hp
  have h11364 := h11362.1
  have h11365 := h11356.keepM (fun a ha => h11362.2 a (by rw [ha]; decide))
  have h11366 := (h11362.2 (b + 1480) (by rw [kC_0 (c := b + 1457) (by omega)]; decide)).trans h11358
  have by11367 := by11359.keep (h11362.2 (b + 1) (by rw [kC_0 (c := b + 1457) (by omega)]; decide))
  have br11368 := br11360.of (h11362.2 (b + 1457 + 1) (by rw [kC_at (k := 1) (by decide)]; decide))
  refine m_pop2_2 F rfl e_L_law_1235 ?_
  refine m_goto F e_L_law_1236 ?_
  exact hN _ (M + 1296) T _ _ _ (by omega) (by omega) (by omega) ⟨by omega, h11365, ⟨_, h11366⟩, u, h, P, L0_, ⟨hu, hh, hP, hkk, hm0, hw0, hok⟩, h11364, _, by11367, br11368⟩
