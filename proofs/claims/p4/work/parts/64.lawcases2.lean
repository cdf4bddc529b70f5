set_option maxRecDepth 20000 in
theorem lc_14 {V : VX} {X : MX} {nm : String} {b sb N k z i L M T : Nat} {xs : Nat → Int32} {σ : Mem} (F : Fx V X (yLw nm) cL_law 7 ret room_1) (hX : va_X sb L xs (x_s X) V.2.2) (hb : sb < V.2.2.size) (hl : (x_l X).stackTraces = false) (hi : i + 6 ≤ L) (hL : L ≤ 3072) (hk : k ≤ 2100) (hz : z ≤ 80000) (hM : M ≤ 10000000) (hI : IV V b M T σ) (hN : ∀ (N' M' T' : Nat) (σ' : Mem) (k' z' : Nat), k' ≤ k + 1 → z' ≤ z + 6 → M' ≤ M + 10000 → IV V b M' T' σ' → Wm V X 7 N' σ' k' z' 1745 [(4, .int (nI i)), (3, .ref (b + 1480)), (2, .ref (b + 1457)), (1, .ref b), (0, .ref sb)] []) : Wm V X 7 N σ k z 721 [(4, .int (nI i)), (3, .ref (b + 1480)), (2, .ref (b + 1457)), (1, .ref b), (0, .ref sb)] [] := by
  obtain ⟨hT, hHT, ⟨z0, hout⟩, u, h, P, L0_, ⟨hu, hh, hP, hkk, hm0, hw0, hok⟩, hHR, hFt, t, hBy, hBr⟩ := hI
  refine m_aload_n F rfl e_L_law_721 ?_
  refine m_aload_n F rfl e_L_law_722 ?_
  refine m_iload F rfl e_L_law_723 ?_
  refine m_iconst F (v := 1) (by decide) e_L_law_725 ?_
  refine m_iadd F e_L_law_726 ?_
  refine Wm.topE (w := nI (i + 1)) (nI_add i 1) ?_
  refine m_sld F (j := i + 1) e_L_law_727 hX hb (nI_clamp (by omega)) (vp_in_nI (by omega) (by omega)) ?_
  refine l_callC F e_L_law_728 (s_X9_take (x_l X) V b M 1 T _ _ b (xs (i + 1)) hHT kA_b  (by omega)) cb_X9_take ml_L_84 im_X9_take se_X9_take hHT rfl rfl (rest := []) rfl (Nat.le_of_ble_eq_true rfl) ⟨Nat.le_of_ble_eq_true rfl, Nat.le_of_ble_eq_true rfl⟩ (by omega) (by omega) (fun r σ11125 hp => ?_)
  obtain ⟨h11126, x11127, rfl⟩ := hp
  have h11128 := h11126.1
  have h11129 := hHR.keepL (fun a ha _ => h11126.2 a (by rw [show kA _ a = 0 from ha]; decide))
  have h11130 := (h11126.2 (b + 1480) (by rw [show kA _ (b + 1480) = 0 from kA_o]; decide)).trans hout
  have br11132 := hBr.of (h11126.2 (b + 1457 + 1) (by rw [show kA _ (b + 1457 + 1) = 0 from kA_big (by omega)]; decide))
  have ft11133 := hFt.of (h11126.2 (b + 128) (by rw [show kA _ (b + 128) = 3 from kA_r]; decide))
  have by11131 := hBy.keep (h11126.2 (b + 1) (by rw [show kA _ (b + 1) = 2 from kA_t]; decide))
  refine m_pop2_2 F rfl e_L_law_731 ?_
  refine m_aload_n F rfl e_L_law_732 ?_
  refine m_aload_n F rfl e_L_law_733 ?_
  refine m_iload F rfl e_L_law_734 ?_
  refine m_iconst F (v := 1) (by decide) e_L_law_736 ?_
  refine m_iadd F e_L_law_737 ?_
  refine Wm.topE (w := nI (i + 1)) (nI_add i 1) ?_
  refine m_sld F (j := i + 1) e_L_law_738 hX hb (nI_clamp (by omega)) (vp_in_nI (by omega) (by omega)) ?_
  refine l_callM F e_L_law_739 (q_X10_take (x_l X) V (b + 1457) T 1 u h P L0_ _ _ (xs (i + 1)) h11129 hok hP (by first | omega | assumption) (by first | omega | assumption)) cb_X10_take ml_L_87 im_X10_take se_X10_take h11129 rfl rfl (rest := []) rfl (Nat.le_of_ble_eq_true rfl) ⟨Nat.le_of_ble_eq_true rfl, Nat.le_of_ble_eq_true rfl⟩ (by omega) (by omega) (fun r σ11134 hp => ?_)
  obtain ⟨u11136, hu11136, L11137, okL11137, h11135, x11138, rfl⟩ := hp
  have ft11139 := ft11133.of (h11135.2 (b + 128) (by rw [kC_0 (c := b + 1457) (by omega)]; decide))
  have h11140 := h11135.1
  have h11141 := h11128.keepM (fun a ha => h11135.2 a (by rw [ha]; decide))
  have h11142 := (h11135.2 (b + 1480) (by rw [kC_0 (c := b + 1457) (by omega)]; decide)).trans h11130
  have by11143 := by11131.keep (h11135.2 (b + 1) (by rw [kC_0 (c := b + 1457) (by omega)]; decide))
  have br11144 := br11132.of (h11135.2 (b + 1457 + 1) (by rw [kC_at (k := 1) (by decide)]; decide))
  refine m_pop2_2 F rfl e_L_law_742 ?_
  refine m_goto F e_L_law_743 ?_
  exact hN _ (M + 1) T _ _ _ (by omega) (by omega) (by omega) ⟨by omega, h11141, ⟨_, h11142⟩, u11136, h, P, L11137, ⟨hu11136, hh, hP, hkk, hm0, hw0, okL11137⟩, h11140, ft11139, _, by11143, br11144⟩
set_option maxRecDepth 20000 in
theorem lc_15 {V : VX} {X : MX} {nm : String} {b sb N k z i L M T : Nat} {xs : Nat → Int32} {σ : Mem} (F : Fx V X (yLw nm) cL_law 7 ret room_1) (hX : va_X sb L xs (x_s X) V.2.2) (hb : sb < V.2.2.size) (hl : (x_l X).stackTraces = false) (hi : i + 6 ≤ L) (hL : L ≤ 3072) (hk : k ≤ 2100) (hz : z ≤ 80000) (hM : M ≤ 10000000) (hI : IV V b M T σ) (hN : ∀ (N' M' T' : Nat) (σ' : Mem) (k' z' : Nat), k' ≤ k + 1 → z' ≤ z + 6 → M' ≤ M + 10000 → IV V b M' T' σ' → Wm V X 7 N' σ' k' z' 1745 [(4, .int (nI i)), (3, .ref (b + 1480)), (2, .ref (b + 1457)), (1, .ref b), (0, .ref sb)] []) : Wm V X 7 N σ k z 746 [(4, .int (nI i)), (3, .ref (b + 1480)), (2, .ref (b + 1457)), (1, .ref b), (0, .ref sb)] [] := by
  obtain ⟨hT, hHT, ⟨z0, hout⟩, u, h, P, L0_, ⟨hu, hh, hP, hkk, hm0, hw0, hok⟩, hHR, hFt, t, hBy, hBr⟩ := hI
  refine m_aload_n F rfl e_L_law_746 ?_
  refine m_aload_n F rfl e_L_law_747 ?_
  refine m_iload F rfl e_L_law_748 ?_
  refine m_iconst F (v := 1) (by decide) e_L_law_750 ?_
  refine m_iadd F e_L_law_751 ?_
  refine Wm.topE (w := nI (i + 1)) (nI_add i 1) ?_
  refine m_sld F (j := i + 1) e_L_law_752 hX hb (nI_clamp (by omega)) (vp_in_nI (by omega) (by omega)) ?_
  refine m_aload_n F rfl e_L_law_753 ?_
  refine m_iload F rfl e_L_law_754 ?_
  refine m_iconst F (v := 2) (by decide) e_L_law_756 ?_
  refine m_iadd F e_L_law_757 ?_
  refine Wm.topE (w := nI (i + 2)) (nI_add i 2) ?_
  refine m_sld F (j := i + 2) e_L_law_758 hX hb (nI_clamp (by omega)) (vp_in_nI (by omega) (by omega)) ?_
  refine l_callC F e_L_law_759 (s_X9_part (x_l X) V b M 1 T _ _ b (xs (i + 1)) (xs (i + 2)) hHT kA_b  (by omega)) cb_X9_part ml_L_88 im_X9_part se_X9_part hHT rfl rfl (rest := []) rfl (Nat.le_of_ble_eq_true rfl) ⟨Nat.le_of_ble_eq_true rfl, Nat.le_of_ble_eq_true rfl⟩ (by omega) (by omega) (fun r σ11145 hp => ?_)
  obtain ⟨h11146, x11147, rfl⟩ := hp
  have h11148 := h11146.1
  have h11149 := hHR.keepL (fun a ha _ => h11146.2 a (by rw [show kA _ a = 0 from ha]; decide))
  have h11150 := (h11146.2 (b + 1480) (by rw [show kA _ (b + 1480) = 0 from kA_o]; decide)).trans hout
  have br11152 := hBr.of (h11146.2 (b + 1457 + 1) (by rw [show kA _ (b + 1457 + 1) = 0 from kA_big (by omega)]; decide))
  have ft11153 := hFt.of (h11146.2 (b + 128) (by rw [show kA _ (b + 128) = 3 from kA_r]; decide))
  have by11151 := hBy.keep (h11146.2 (b + 1) (by rw [show kA _ (b + 1) = 2 from kA_t]; decide))
  refine m_pop2_2 F rfl e_L_law_762 ?_
  refine m_aload_n F rfl e_L_law_763 ?_
  refine m_aload_n F rfl e_L_law_764 ?_
  refine m_iload F rfl e_L_law_765 ?_
  refine m_iconst F (v := 1) (by decide) e_L_law_767 ?_
  refine m_iadd F e_L_law_768 ?_
  refine Wm.topE (w := nI (i + 1)) (nI_add i 1) ?_
  refine m_sld F (j := i + 1) e_L_law_769 hX hb (nI_clamp (by omega)) (vp_in_nI (by omega) (by omega)) ?_
  refine m_aload_n F rfl e_L_law_770 ?_
  refine m_iload F rfl e_L_law_771 ?_
  refine m_iconst F (v := 2) (by decide) e_L_law_773 ?_
  refine m_iadd F e_L_law_774 ?_
  refine Wm.topE (w := nI (i + 2)) (nI_add i 2) ?_
  refine m_sld F (j := i + 2) e_L_law_775 hX hb (nI_clamp (by omega)) (vp_in_nI (by omega) (by omega)) ?_
  refine l_callM F e_L_law_776 (q_X10_part (x_l X) V (b + 1457) T 1 u h P L0_ _ _ (xs (i + 1)) (xs (i + 2)) h11149 hok hP (by first | omega | assumption) (by first | omega | assumption)) cb_X10_part ml_L_91 im_X10_part se_X10_part h11149 rfl rfl (rest := []) rfl (Nat.le_of_ble_eq_true rfl) ⟨Nat.le_of_ble_eq_true rfl, Nat.le_of_ble_eq_true rfl⟩ (by omega) (by omega) (fun r σ11154 hp => ?_)
  obtain ⟨u11156, hu11156, L11157, okL11157, h11155, x11158, rfl⟩ := hp
  have ft11159 := ft11153.of (h11155.2 (b + 128) (by rw [kC_0 (c := b + 1457) (by omega)]; decide))
  have h11160 := h11155.1
  have h11161 := h11148.keepM (fun a ha => h11155.2 a (by rw [ha]; decide))
  have h11162 := (h11155.2 (b + 1480) (by rw [kC_0 (c := b + 1457) (by omega)]; decide)).trans h11150
  have by11163 := by11151.keep (h11155.2 (b + 1) (by rw [kC_0 (c := b + 1457) (by omega)]; decide))
  have br11164 := br11152.of (h11155.2 (b + 1457 + 1) (by rw [kC_at (k := 1) (by decide)]; decide))
  refine m_pop2_2 F rfl e_L_law_779 ?_
  refine m_goto F e_L_law_780 ?_
  exact hN _ (M + 1) T _ _ _ (by omega) (by omega) (by omega) ⟨by omega, h11161, ⟨_, h11162⟩, u11156, h, P, L11157, ⟨hu11156, hh, hP, hkk, hm0, hw0, okL11157⟩, h11160, ft11159, _, by11163, br11164⟩
set_option maxRecDepth 20000 in
theorem lc_16 {V : VX} {X : MX} {nm : String} {b sb N k z i L M T : Nat} {xs : Nat → Int32} {σ : Mem} (F : Fx V X (yLw nm) cL_law 7 ret room_1) (hX : va_X sb L xs (x_s X) V.2.2) (hb : sb < V.2.2.size) (hl : (x_l X).stackTraces = false) (hi : i + 6 ≤ L) (hL : L ≤ 3072) (hk : k ≤ 2100) (hz : z ≤ 80000) (hM : M ≤ 10000000) (hI : IV V b M T σ) (hN : ∀ (N' M' T' : Nat) (σ' : Mem) (k' z' : Nat), k' ≤ k + 1 → z' ≤ z + 6 → M' ≤ M + 10000 → IV V b M' T' σ' → Wm V X 7 N' σ' k' z' 1745 [(4, .int (nI i)), (3, .ref (b + 1480)), (2, .ref (b + 1457)), (1, .ref b), (0, .ref sb)] []) : Wm V X 7 N σ k z 783 [(4, .int (nI i)), (3, .ref (b + 1480)), (2, .ref (b + 1457)), (1, .ref b), (0, .ref sb)] [] := by
  obtain ⟨hT, hHT, ⟨z0, hout⟩, u, h, P, L0_, ⟨hu, hh, hP, hkk, hm0, hw0, hok⟩, hHR, hFt, t, hBy, hBr⟩ := hI
  refine m_aload_n F rfl e_L_law_783 ?_
  refine m_aload_n F rfl e_L_law_784 ?_
  refine m_iload F rfl e_L_law_785 ?_
  refine m_iconst F (v := 1) (by decide) e_L_law_787 ?_
  refine m_iadd F e_L_law_788 ?_
  refine Wm.topE (w := nI (i + 1)) (nI_add i 1) ?_
  refine m_sld F (j := i + 1) e_L_law_789 hX hb (nI_clamp (by omega)) (vp_in_nI (by omega) (by omega)) ?_
  refine l_callC F e_L_law_790 (s_X9_end (x_l X) V b M 1 T _ _ b (xs (i + 1)) hHT kA_b  (by omega)) cb_X9_end ml_L_92 im_X9_end se_X9_end hHT rfl rfl (rest := []) rfl (Nat.le_of_ble_eq_true rfl) ⟨Nat.le_of_ble_eq_true rfl, Nat.le_of_ble_eq_true rfl⟩ (by omega) (by omega) (fun r σ11165 hp => ?_)
  obtain ⟨h11166, x11167, rfl⟩ := hp
  have h11168 := h11166.1
  have h11169 := hHR.keepL (fun a ha _ => h11166.2 a (by rw [show kA _ a = 0 from ha]; decide))
  have h11170 := (h11166.2 (b + 1480) (by rw [show kA _ (b + 1480) = 0 from kA_o]; decide)).trans hout
  have br11172 := hBr.of (h11166.2 (b + 1457 + 1) (by rw [show kA _ (b + 1457 + 1) = 0 from kA_big (by omega)]; decide))
  have ft11173 := hFt.of (h11166.2 (b + 128) (by rw [show kA _ (b + 128) = 3 from kA_r]; decide))
  have by11171 := hBy.keep (h11166.2 (b + 1) (by rw [show kA _ (b + 1) = 2 from kA_t]; decide))
  refine m_pop2_2 F rfl e_L_law_793 ?_
  refine m_aload_n F rfl e_L_law_794 ?_
  refine m_aload_n F rfl e_L_law_795 ?_
  refine m_iload F rfl e_L_law_796 ?_
  refine m_iconst F (v := 1) (by decide) e_L_law_798 ?_
  refine m_iadd F e_L_law_799 ?_
  refine Wm.topE (w := nI (i + 1)) (nI_add i 1) ?_
  refine m_sld F (j := i + 1) e_L_law_800 hX hb (nI_clamp (by omega)) (vp_in_nI (by omega) (by omega)) ?_
  refine l_callM F e_L_law_801 (q_X10_end (x_l X) V (b + 1457) T 1 u h P L0_ _ _ (xs (i + 1)) h11169 hok hP (by first | omega | assumption) (by first | omega | assumption)) cb_X10_end ml_L_95 im_X10_end se_X10_end h11169 rfl rfl (rest := []) rfl (Nat.le_of_ble_eq_true rfl) ⟨Nat.le_of_ble_eq_true rfl, Nat.le_of_ble_eq_true rfl⟩ (by omega) (by omega) (fun r σ11174 hp => ?_)
  obtain ⟨u11176, hu11176, L11177, okL11177, h11175, x11178, rfl⟩ := hp
  have ft11179 := ft11173.of (h11175.2 (b + 128) (by rw [kC_0 (c := b + 1457) (by omega)]; decide))
  have h11180 := h11175.1
  have h11181 := h11168.keepM (fun a ha => h11175.2 a (by rw [ha]; decide))
  have h11182 := (h11175.2 (b + 1480) (by rw [kC_0 (c := b + 1457) (by omega)]; decide)).trans h11170
  have by11183 := by11171.keep (h11175.2 (b + 1) (by rw [kC_0 (c := b + 1457) (by omega)]; decide))
  have br11184 := br11172.of (h11175.2 (b + 1457 + 1) (by rw [kC_at (k := 1) (by decide)]; decide))
  refine m_pop2_2 F rfl e_L_law_804 ?_
  refine m_goto F e_L_law_805 ?_
  exact hN _ (M + 1) T _ _ _ (by omega) (by omega) (by omega) ⟨by omega, h11181, ⟨_, h11182⟩, u11176, h, P, L11177, ⟨hu11176, hh, hP, hkk, hm0, hw0, okL11177⟩, h11180, ft11179, _, by11183, br11184⟩
set_option maxRecDepth 20000 in
theorem lc_17 {V : VX} {X : MX} {nm : String} {b sb N k z i L M T : Nat} {xs : Nat → Int32} {σ : Mem} (F : Fx V X (yLw nm) cL_law 7 ret room_1) (hX : va_X sb L xs (x_s X) V.2.2) (hb : sb < V.2.2.size) (hl : (x_l X).stackTraces = false) (hi : i + 6 ≤ L) (hL : L ≤ 3072) (hk : k ≤ 2100) (hz : z ≤ 80000) (hM : M ≤ 10000000) (hI : IV V b M T σ) (hN : ∀ (N' M' T' : Nat) (σ' : Mem) (k' z' : Nat), k' ≤ k + 1 → z' ≤ z + 6 → M' ≤ M + 10000 → IV V b M' T' σ' → Wm V X 7 N' σ' k' z' 1745 [(4, .int (nI i)), (3, .ref (b + 1480)), (2, .ref (b + 1457)), (1, .ref b), (0, .ref sb)] []) : Wm V X 7 N σ k z 808 [(4, .int (nI i)), (3, .ref (b + 1480)), (2, .ref (b + 1457)), (1, .ref b), (0, .ref sb)] [] := by
  obtain ⟨hT, hHT, ⟨z0, hout⟩, u, h, P, L0_, ⟨hu, hh, hP, hkk, hm0, hw0, hok⟩, hHR, hFt, t, hBy, hBr⟩ := hI
  refine m_aload_n F rfl e_L_law_808 ?_
  refine m_aload_n F rfl e_L_law_809 ?_
  refine m_iload F rfl e_L_law_810 ?_
  refine m_iconst F (v := 1) (by decide) e_L_law_812 ?_
  refine m_iadd F e_L_law_813 ?_
  refine Wm.topE (w := nI (i + 1)) (nI_add i 1) ?_
  refine m_sld F (j := i + 1) e_L_law_814 hX hb (nI_clamp (by omega)) (vp_in_nI (by omega) (by omega)) ?_
  refine m_aload_n F rfl e_L_law_815 ?_
  refine m_iload F rfl e_L_law_816 ?_
  refine m_iconst F (v := 2) (by decide) e_L_law_818 ?_
  refine m_iadd F e_L_law_819 ?_
  refine Wm.topE (w := nI (i + 2)) (nI_add i 2) ?_
  refine m_sld F (j := i + 2) e_L_law_820 hX hb (nI_clamp (by omega)) (vp_in_nI (by omega) (by omega)) ?_
  refine m_i2l F e_L_law_821 ?_
  refine Wm.topl (fun x11185 _ => ?_)
  refine m_bipush F (v := 32) (by decide) e_L_law_822 ?_
  refine m_lshl F e_L_law_824 ?_
  refine Wm.topl (fun x11186 _ => ?_)
  refine m_aload_n F rfl e_L_law_825 ?_
  refine m_iload F rfl e_L_law_826 ?_
  refine m_iconst F (v := 3) (by decide) e_L_law_828 ?_
  refine m_iadd F e_L_law_829 ?_
  refine Wm.topE (w := nI (i + 3)) (nI_add i 3) ?_
  refine m_sld F (j := i + 3) e_L_law_830 hX hb (nI_clamp (by omega)) (vp_in_nI (by omega) (by omega)) ?_
  refine m_i2l F e_L_law_831 ?_
  refine Wm.topl (fun x11187 _ => ?_)
  refine m_ldc2 F kc_L_96 e_L_law_832 ?_
  refine m_land F e_L_law_835 ?_
  refine Wm.topl (fun x11188 _ => ?_)
  refine m_lor F e_L_law_836 ?_
  refine Wm.topl (fun x11189 _ => ?_)
  refine l_callC F e_L_law_837 (s_X9_down (x_l X) V b M 1 T _ _ b (xs (i + 1)) x11189 hHT kA_b  (by omega)) cb_X9_down ml_L_98 im_X9_down se_X9_down hHT rfl rfl (rest := []) rfl (Nat.le_of_ble_eq_true rfl) ⟨Nat.le_of_ble_eq_true rfl, Nat.le_of_ble_eq_true rfl⟩ (by omega) (by omega) (fun r σ11190 hp => ?_)
  obtain ⟨h11191, x11192, rfl⟩ := hp
  have h11193 := h11191.1
  have h11194 := hHR.keepL (fun a ha _ => h11191.2 a (by rw [show kA _ a = 0 from ha]; decide))
  have h11195 := (h11191.2 (b + 1480) (by rw [show kA _ (b + 1480) = 0 from kA_o]; decide)).trans hout
  have br11197 := hBr.of (h11191.2 (b + 1457 + 1) (by rw [show kA _ (b + 1457 + 1) = 0 from kA_big (by omega)]; decide))
  have ft11198 := hFt.of (h11191.2 (b + 128) (by rw [show kA _ (b + 128) = 3 from kA_r]; decide))
  have by11196 := hBy.keep (h11191.2 (b + 1) (by rw [show kA _ (b + 1) = 2 from kA_t]; decide))
  refine m_pop2_2 F rfl e_L_law_840 ?_
  refine m_aload_n F rfl e_L_law_841 ?_
  refine m_aload_n F rfl e_L_law_842 ?_
  refine m_iload F rfl e_L_law_843 ?_
  refine m_iconst F (v := 1) (by decide) e_L_law_845 ?_
  refine m_iadd F e_L_law_846 ?_
  refine Wm.topE (w := nI (i + 1)) (nI_add i 1) ?_
  refine m_sld F (j := i + 1) e_L_law_847 hX hb (nI_clamp (by omega)) (vp_in_nI (by omega) (by omega)) ?_
  refine m_aload_n F rfl e_L_law_848 ?_
  refine m_iload F rfl e_L_law_849 ?_
  refine m_iconst F (v := 2) (by decide) e_L_law_851 ?_
  refine m_iadd F e_L_law_852 ?_
  refine Wm.topE (w := nI (i + 2)) (nI_add i 2) ?_
  refine m_sld F (j := i + 2) e_L_law_853 hX hb (nI_clamp (by omega)) (vp_in_nI (by omega) (by omega)) ?_
  refine m_i2l F e_L_law_854 ?_
  refine Wm.topl (fun x11199 _ => ?_)
  refine m_bipush F (v := 32) (by decide) e_L_law_855 ?_
  refine m_lshl F e_L_law_857 ?_
  refine Wm.topl (fun x11200 _ => ?_)
  refine m_aload_n F rfl e_L_law_858 ?_
  refine m_iload F rfl e_L_law_859 ?_
  refine m_iconst F (v := 3) (by decide) e_L_law_861 ?_
  refine m_iadd F e_L_law_862 ?_
  refine Wm.topE (w := nI (i + 3)) (nI_add i 3) ?_
  refine m_sld F (j := i + 3) e_L_law_863 hX hb (nI_clamp (by omega)) (vp_in_nI (by omega) (by omega)) ?_
  refine m_i2l F e_L_law_864 ?_
  refine Wm.topl (fun x11201 _ => ?_)
  refine m_ldc2 F kc_L_96 e_L_law_865 ?_
  refine m_land F e_L_law_868 ?_
  refine Wm.topl (fun x11202 _ => ?_)
  refine m_lor F e_L_law_869 ?_
  refine Wm.topl (fun x11203 _ => ?_)
  refine l_callM F e_L_law_870 (q_X10_down (x_l X) V (b + 1457) T 1 u h P L0_ _ _ (xs (i + 1)) x11203 h11194 hok hP (by first | omega | assumption) (by first | omega | assumption)) cb_X10_down ml_L_102 im_X10_down se_X10_down h11194 rfl rfl (rest := []) rfl (Nat.le_of_ble_eq_true rfl) ⟨Nat.le_of_ble_eq_true rfl, Nat.le_of_ble_eq_true rfl⟩ (by omega) (by omega) (fun r σ11204 hp => ?_)
  obtain ⟨u11206, hu11206, L11207, okL11207, h11205, x11208, rfl⟩ := hp
  have ft11209 := ft11198.of (h11205.2 (b + 128) (by rw [kC_0 (c := b + 1457) (by omega)]; decide))
  have h11210 := h11205.1
  have h11211 := h11193.keepM (fun a ha => h11205.2 a (by rw [ha]; decide))
  have h11212 := (h11205.2 (b + 1480) (by rw [kC_0 (c := b + 1457) (by omega)]; decide)).trans h11195
  have by11213 := by11196.keep (h11205.2 (b + 1) (by rw [kC_0 (c := b + 1457) (by omega)]; decide))
  have br11214 := br11197.of (h11205.2 (b + 1457 + 1) (by rw [kC_at (k := 1) (by decide)]; decide))
  refine m_pop2_2 F rfl e_L_law_873 ?_
  refine m_goto F e_L_law_874 ?_
  exact hN _ (M + 1) T _ _ _ (by omega) (by omega) (by omega) ⟨by omega, h11211, ⟨_, h11212⟩, u11206, h, P, L11207, ⟨hu11206, hh, hP, hkk, hm0, hw0, okL11207⟩, h11210, ft11209, _, by11213, br11214⟩
set_option maxRecDepth 20000 in
theorem lc_18 {V : VX} {X : MX} {nm : String} {b sb N k z i L M T : Nat} {xs : Nat → Int32} {σ : Mem} (F : Fx V X (yLw nm) cL_law 7 ret room_1) (hX : va_X sb L xs (x_s X) V.2.2) (hb : sb < V.2.2.size) (hl : (x_l X).stackTraces = false) (hi : i + 6 ≤ L) (hL : L ≤ 3072) (hk : k ≤ 2100) (hz : z ≤ 80000) (hM : M ≤ 10000000) (hI : IV V b M T σ) (hN : ∀ (N' M' T' : Nat) (σ' : Mem) (k' z' : Nat), k' ≤ k + 1 → z' ≤ z + 6 → M' ≤ M + 10000 → IV V b M' T' σ' → Wm V X 7 N' σ' k' z' 1745 [(4, .int (nI i)), (3, .ref (b + 1480)), (2, .ref (b + 1457)), (1, .ref b), (0, .ref sb)] []) : Wm V X 7 N σ k z 877 [(4, .int (nI i)), (3, .ref (b + 1480)), (2, .ref (b + 1457)), (1, .ref b), (0, .ref sb)] [] := by
  obtain ⟨hT, hHT, ⟨z0, hout⟩, u, h, P, L0_, ⟨hu, hh, hP, hkk, hm0, hw0, hok⟩, hHR, hFt, t, hBy, hBr⟩ := hI
  refine m_aload_n F rfl e_L_law_877 ?_
  refine m_aload_n F rfl e_L_law_878 ?_
  refine m_iload F rfl e_L_law_879 ?_
  refine m_iconst F (v := 1) (by decide) e_L_law_881 ?_
  refine m_iadd F e_L_law_882 ?_
  refine Wm.topE (w := nI (i + 1)) (nI_add i 1) ?_
  refine m_sld F (j := i + 1) e_L_law_883 hX hb (nI_clamp (by omega)) (vp_in_nI (by omega) (by omega)) ?_
  refine m_aload_n F rfl e_L_law_884 ?_
  refine m_iload F rfl e_L_law_885 ?_
  refine m_iconst F (v := 2) (by decide) e_L_law_887 ?_
  refine m_iadd F e_L_law_888 ?_
  refine Wm.topE (w := nI (i + 2)) (nI_add i 2) ?_
  refine m_sld F (j := i + 2) e_L_law_889 hX hb (nI_clamp (by omega)) (vp_in_nI (by omega) (by omega)) ?_
  refine m_aload_n F rfl e_L_law_890 ?_
  refine m_iload F rfl e_L_law_891 ?_
  refine m_iconst F (v := 3) (by decide) e_L_law_893 ?_
  refine m_iadd F e_L_law_894 ?_
  refine Wm.topE (w := nI (i + 3)) (nI_add i 3) ?_
  refine m_sld F (j := i + 3) e_L_law_895 hX hb (nI_clamp (by omega)) (vp_in_nI (by omega) (by omega)) ?_
  refine l_callC F e_L_law_896 (s_X9_putOff (x_l X) V b M 1 T _ _ b (xs (i + 1)) (xs (i + 2)) (xs (i + 3)) hHT kA_b  (by omega)) cb_X9_putOff ml_L_103 im_X9_putOff se_X9_putOff hHT rfl rfl (rest := []) rfl (Nat.le_of_ble_eq_true rfl) ⟨Nat.le_of_ble_eq_true rfl, Nat.le_of_ble_eq_true rfl⟩ (by omega) (by omega) (fun r σ11215 hp => ?_)
  obtain ⟨h11216, x11217, rfl⟩ := hp
  have h11218 := h11216.1
  have h11219 := hHR.keepL (fun a ha _ => h11216.2 a (by rw [show kA _ a = 0 from ha]; decide))
  have h11220 := (h11216.2 (b + 1480) (by rw [show kA _ (b + 1480) = 0 from kA_o]; decide)).trans hout
  have br11222 := hBr.of (h11216.2 (b + 1457 + 1) (by rw [show kA _ (b + 1457 + 1) = 0 from kA_big (by omega)]; decide))
  have ft11223 := hFt.of (h11216.2 (b + 128) (by rw [show kA _ (b + 128) = 3 from kA_r]; decide))
  have by11221 := hBy.keep (h11216.2 (b + 1) (by rw [show kA _ (b + 1) = 2 from kA_t]; decide))
  refine m_pop2_2 F rfl e_L_law_899 ?_
  refine m_aload_n F rfl e_L_law_900 ?_
  refine m_aload_n F rfl e_L_law_901 ?_
  refine m_iload F rfl e_L_law_902 ?_
  refine m_iconst F (v := 1) (by decide) e_L_law_904 ?_
  refine m_iadd F e_L_law_905 ?_
  refine Wm.topE (w := nI (i + 1)) (nI_add i 1) ?_
  refine m_sld F (j := i + 1) e_L_law_906 hX hb (nI_clamp (by omega)) (vp_in_nI (by omega) (by omega)) ?_
  refine m_aload_n F rfl e_L_law_907 ?_
  refine m_iload F rfl e_L_law_908 ?_
  refine m_iconst F (v := 2) (by decide) e_L_law_910 ?_
  refine m_iadd F e_L_law_911 ?_
  refine Wm.topE (w := nI (i + 2)) (nI_add i 2) ?_
  refine m_sld F (j := i + 2) e_L_law_912 hX hb (nI_clamp (by omega)) (vp_in_nI (by omega) (by omega)) ?_
  refine m_aload_n F rfl e_L_law_913 ?_
  refine m_iload F rfl e_L_law_914 ?_
  refine m_iconst F (v := 3) (by decide) e_L_law_916 ?_
  refine m_iadd F e_L_law_917 ?_
  refine Wm.topE (w := nI (i + 3)) (nI_add i 3) ?_
  refine m_sld F (j := i + 3) e_L_law_918 hX hb (nI_clamp (by omega)) (vp_in_nI (by omega) (by omega)) ?_
  refine l_callM F e_L_law_919 (q_X10_putOff (x_l X) V (b + 1457) T 1 u h P L0_ _ _ (xs (i + 1)) (xs (i + 2)) (xs (i + 3)) h11219 hok hP (by first | omega | assumption) (by first | omega | assumption)) cb_X10_putOff ml_L_106 im_X10_putOff se_X10_putOff h11219 rfl rfl (rest := []) rfl (Nat.le_of_ble_eq_true rfl) ⟨Nat.le_of_ble_eq_true rfl, Nat.le_of_ble_eq_true rfl⟩ (by omega) (by omega) (fun r σ11224 hp => ?_)
  obtain ⟨u11226, hu11226, L11227, okL11227, h11225, x11228, rfl⟩ := hp
  have ft11229 := ft11223.of (h11225.2 (b + 128) (by rw [kC_0 (c := b + 1457) (by omega)]; decide))
  have h11230 := h11225.1
  have h11231 := h11218.keepM (fun a ha => h11225.2 a (by rw [ha]; decide))
  have h11232 := (h11225.2 (b + 1480) (by rw [kC_0 (c := b + 1457) (by omega)]; decide)).trans h11220
  have by11233 := by11221.keep (h11225.2 (b + 1) (by rw [kC_0 (c := b + 1457) (by omega)]; decide))
  have br11234 := br11222.of (h11225.2 (b + 1457 + 1) (by rw [kC_at (k := 1) (by decide)]; decide))
  refine m_pop2_2 F rfl e_L_law_922 ?_
  refine m_goto F e_L_law_923 ?_
  exact hN _ (M + 1) T _ _ _ (by omega) (by omega) (by omega) ⟨by omega, h11231, ⟨_, h11232⟩, u11226, h, P, L11227, ⟨hu11226, hh, hP, hkk, hm0, hw0, okL11227⟩, h11230, ft11229, _, by11233, br11234⟩
set_option maxRecDepth 20000 in
theorem lc_19 {V : VX} {X : MX} {nm : String} {b sb N k z i L M T : Nat} {xs : Nat → Int32} {σ : Mem} (F : Fx V X (yLw nm) cL_law 7 ret room_1) (hX : va_X sb L xs (x_s X) V.2.2) (hb : sb < V.2.2.size) (hl : (x_l X).stackTraces = false) (hi : i + 6 ≤ L) (hL : L ≤ 3072) (hk : k ≤ 2100) (hz : z ≤ 80000) (hM : M ≤ 10000000) (hI : IV V b M T σ) (hN : ∀ (N' M' T' : Nat) (σ' : Mem) (k' z' : Nat), k' ≤ k + 1 → z' ≤ z + 6 → M' ≤ M + 10000 → IV V b M' T' σ' → Wm V X 7 N' σ' k' z' 1745 [(4, .int (nI i)), (3, .ref (b + 1480)), (2, .ref (b + 1457)), (1, .ref b), (0, .ref sb)] []) : Wm V X 7 N σ k z 926 [(4, .int (nI i)), (3, .ref (b + 1480)), (2, .ref (b + 1457)), (1, .ref b), (0, .ref sb)] [] := by
  obtain ⟨hT, hHT, ⟨z0, hout⟩, u, h, P, L0_, ⟨hu, hh, hP, hkk, hm0, hw0, hok⟩, hHR, hFt, t, hBy, hBr⟩ := hI
  refine m_aload_n F rfl e_L_law_926 ?_
  refine m_aload_n F rfl e_L_law_927 ?_
  refine m_iload F rfl e_L_law_928 ?_
  refine m_iconst F (v := 1) (by decide) e_L_law_930 ?_
  refine m_iadd F e_L_law_931 ?_
  refine Wm.topE (w := nI (i + 1)) (nI_add i 1) ?_
  refine m_sld F (j := i + 1) e_L_law_932 hX hb (nI_clamp (by omega)) (vp_in_nI (by omega) (by omega)) ?_
  refine l_callC F e_L_law_933 (s_X9_become (x_l X) V b M 1 T _ _ b (xs (i + 1)) hHT kA_b  (by omega)) cb_X9_become ml_L_107 im_X9_become se_X9_become hHT rfl rfl (rest := []) rfl (Nat.le_of_ble_eq_true rfl) ⟨Nat.le_of_ble_eq_true rfl, Nat.le_of_ble_eq_true rfl⟩ (by omega) (by omega) (fun r σ11235 hp => ?_)
  obtain ⟨h11236, x11237, rfl⟩ := hp
  have h11238 := h11236.1
  have h11239 := hHR.keepL (fun a ha _ => h11236.2 a (by rw [show kA _ a = 0 from ha]; decide))
  have h11240 := (h11236.2 (b + 1480) (by rw [show kA _ (b + 1480) = 0 from kA_o]; decide)).trans hout
  have br11242 := hBr.of (h11236.2 (b + 1457 + 1) (by rw [show kA _ (b + 1457 + 1) = 0 from kA_big (by omega)]; decide))
  have ft11243 := hFt.of (h11236.2 (b + 128) (by rw [show kA _ (b + 128) = 3 from kA_r]; decide))
  have by11241 := hBy.keep (h11236.2 (b + 1) (by rw [show kA _ (b + 1) = 2 from kA_t]; decide))
  refine m_pop F rfl e_L_law_936 ?_
  refine m_aload_n F rfl e_L_law_937 ?_
  refine m_aload_n F rfl e_L_law_938 ?_
  refine m_iload F rfl e_L_law_939 ?_
  refine m_iconst F (v := 1) (by decide) e_L_law_941 ?_
  refine m_iadd F e_L_law_942 ?_
  refine Wm.topE (w := nI (i + 1)) (nI_add i 1) ?_
  refine m_sld F (j := i + 1) e_L_law_943 hX hb (nI_clamp (by omega)) (vp_in_nI (by omega) (by omega)) ?_
  refine l_callM F e_L_law_944 (q_X10_become (x_l X) V (b + 1457) T 1 u h P L0_ _ _ (xs (i + 1)) h11239 hok hP (by first | omega | assumption) (by first | omega | assumption)) cb_X10_become ml_L_110 im_X10_become se_X10_become h11239 rfl rfl (rest := []) rfl (Nat.le_of_ble_eq_true rfl) ⟨Nat.le_of_ble_eq_true rfl, Nat.le_of_ble_eq_true rfl⟩ (by omega) (by omega) (fun r σ11244 hp => ?_)
  obtain ⟨u11246, hu11246, L11247, okL11247, h11245, x11248, rfl⟩ := hp
  have ft11249 := ft11243.of (h11245.2 (b + 128) (by rw [kC_0 (c := b + 1457) (by omega)]; decide))
  have h11250 := h11245.1
  have h11251 := h11238.keepM (fun a ha => h11245.2 a (by rw [ha]; decide))
  have h11252 := (h11245.2 (b + 1480) (by rw [kC_0 (c := b + 1457) (by omega)]; decide)).trans h11240
  have by11253 := by11241.keep (h11245.2 (b + 1) (by rw [kC_0 (c := b + 1457) (by omega)]; decide))
  have br11254 := br11242.of (h11245.2 (b + 1457 + 1) (by rw [kC_at (k := 1) (by decide)]; decide))
  refine m_pop F rfl e_L_law_947 ?_
  refine m_goto F e_L_law_948 ?_
  exact hN _ M T _ _ _ (by omega) (by omega) (by omega) ⟨by omega, h11251, ⟨_, h11252⟩, u11246, h, P, L11247, ⟨hu11246, hh, hP, hkk, hm0, hw0, okL11247⟩, h11250, ft11249, _, by11253, br11254⟩
set_option maxRecDepth 20000 in
theorem lc_20 {V : VX} {X : MX} {nm : String} {b sb N k z i L M T : Nat} {xs : Nat → Int32} {σ : Mem} (F : Fx V X (yLw nm) cL_law 7 ret room_1) (hX : va_X sb L xs (x_s X) V.2.2) (hb : sb < V.2.2.size) (hl : (x_l X).stackTraces = false) (hi : i + 6 ≤ L) (hL : L ≤ 3072) (hk : k ≤ 2100) (hz : z ≤ 80000) (hM : M ≤ 10000000) (hI : IV V b M T σ) (hN : ∀ (N' M' T' : Nat) (σ' : Mem) (k' z' : Nat), k' ≤ k + 1 → z' ≤ z + 6 → M' ≤ M + 10000 → IV V b M' T' σ' → Wm V X 7 N' σ' k' z' 1745 [(4, .int (nI i)), (3, .ref (b + 1480)), (2, .ref (b + 1457)), (1, .ref b), (0, .ref sb)] []) : Wm V X 7 N σ k z 951 [(4, .int (nI i)), (3, .ref (b + 1480)), (2, .ref (b + 1457)), (1, .ref b), (0, .ref sb)] [] := by
  obtain ⟨hT, hHT, ⟨z0, hout⟩, u, h, P, L0_, ⟨hu, hh, hP, hkk, hm0, hw0, hok⟩, hHR, hFt, t, hBy, hBr⟩ := hI
  refine m_aload_n F rfl e_L_law_951 ?_
  refine m_aload_n F rfl e_L_law_952 ?_
  refine m_iload F rfl e_L_law_953 ?_
  refine m_iconst F (v := 1) (by decide) e_L_law_955 ?_
  refine m_iadd F e_L_law_956 ?_
  refine Wm.topE (w := nI (i + 1)) (nI_add i 1) ?_
  refine m_sld F (j := i + 1) e_L_law_957 hX hb (nI_clamp (by omega)) (vp_in_nI (by omega) (by omega)) ?_
  refine m_aload_n F rfl e_L_law_958 ?_
  refine m_iload F rfl e_L_law_959 ?_
  refine m_iconst F (v := 2) (by decide) e_L_law_961 ?_
  refine m_iadd F e_L_law_962 ?_
  refine Wm.topE (w := nI (i + 2)) (nI_add i 2) ?_
  refine m_sld F (j := i + 2) e_L_law_963 hX hb (nI_clamp (by omega)) (vp_in_nI (by omega) (by omega)) ?_
  refine m_aload_n F rfl e_L_law_964 ?_
  refine m_iload F rfl e_L_law_965 ?_
  refine m_iconst F (v := 3) (by decide) e_L_law_967 ?_
  refine m_iadd F e_L_law_968 ?_
  refine Wm.topE (w := nI (i + 3)) (nI_add i 3) ?_
  refine m_sld F (j := i + 3) e_L_law_969 hX hb (nI_clamp (by omega)) (vp_in_nI (by omega) (by omega)) ?_
  refine l_callC F e_L_law_970 (s_X9_plan (x_l X) V b M 1 T _ _ b (xs (i + 1)) (xs (i + 2)) (xs (i + 3)) hHT kA_b  (by omega)) cb_X9_plan ml_L_111 im_X9_plan se_X9_plan hHT rfl rfl (rest := []) rfl (Nat.le_of_ble_eq_true rfl) ⟨Nat.le_of_ble_eq_true rfl, Nat.le_of_ble_eq_true rfl⟩ (by omega) (by omega) (fun r σ11255 hp => ?_)
  obtain ⟨h11256, x11257, rfl⟩ := hp
  have h11258 := h11256.1
  have h11259 := hHR.keepL (fun a ha _ => h11256.2 a (by rw [show kA _ a = 0 from ha]; decide))
  have h11260 := (h11256.2 (b + 1480) (by rw [show kA _ (b + 1480) = 0 from kA_o]; decide)).trans hout
  have br11262 := hBr.of (h11256.2 (b + 1457 + 1) (by rw [show kA _ (b + 1457 + 1) = 0 from kA_big (by omega)]; decide))
  have ft11263 := hFt.of (h11256.2 (b + 128) (by rw [show kA _ (b + 128) = 3 from kA_r]; decide))
  have by11261 := hBy.keep (h11256.2 (b + 1) (by rw [show kA _ (b + 1) = 2 from kA_t]; decide))
  refine m_pop2_2 F rfl e_L_law_973 ?_
  refine m_aload_n F rfl e_L_law_974 ?_
  refine m_aload_n F rfl e_L_law_975 ?_
  refine m_iload F rfl e_L_law_976 ?_
  refine m_iconst F (v := 1) (by decide) e_L_law_978 ?_
  refine m_iadd F e_L_law_979 ?_
  refine Wm.topE (w := nI (i + 1)) (nI_add i 1) ?_
  refine m_sld F (j := i + 1) e_L_law_980 hX hb (nI_clamp (by omega)) (vp_in_nI (by omega) (by omega)) ?_
  refine m_aload_n F rfl e_L_law_981 ?_
  refine m_iload F rfl e_L_law_982 ?_
  refine m_iconst F (v := 2) (by decide) e_L_law_984 ?_
  refine m_iadd F e_L_law_985 ?_
  refine Wm.topE (w := nI (i + 2)) (nI_add i 2) ?_
  refine m_sld F (j := i + 2) e_L_law_986 hX hb (nI_clamp (by omega)) (vp_in_nI (by omega) (by omega)) ?_
  refine m_aload_n F rfl e_L_law_987 ?_
  refine m_iload F rfl e_L_law_988 ?_
  refine m_iconst F (v := 3) (by decide) e_L_law_990 ?_
  refine m_iadd F e_L_law_991 ?_
  refine Wm.topE (w := nI (i + 3)) (nI_add i 3) ?_
  refine m_sld F (j := i + 3) e_L_law_992 hX hb (nI_clamp (by omega)) (vp_in_nI (by omega) (by omega)) ?_
  refine l_callM F e_L_law_993 (q_X10_plan (x_l X) V (b + 1457) T 1 u h P L0_ _ _ (xs (i + 1)) (xs (i + 2)) (xs (i + 3)) h11259 hok hP ) cb_X10_plan ml_L_114 im_X10_plan se_X10_plan h11259 rfl rfl (rest := []) rfl (Nat.le_of_ble_eq_true rfl) ⟨Nat.le_of_ble_eq_true rfl, Nat.le_of_ble_eq_true rfl⟩ (by omega) (by omega) (fun r σ11264 hp => ?_)
  obtain ⟨h11265, x11266, rfl⟩ := hp
  have ft11267 := ft11263.of (h11265.2 (b + 128) (by rw [kC_0 (c := b + 1457) (by omega)]; decide))
  have h11268 := h11265.1
  have h11269 := h11258.keepM (fun a ha => h11265.2 a (by rw [ha]; decide))
  have h11270 := (h11265.2 (b + 1480) (by rw [kC_0 (c := b + 1457) (by omega)]; decide)).trans h11260
  have by11271 := by11261.keep (h11265.2 (b + 1) (by rw [kC_0 (c := b + 1457) (by omega)]; decide))
  have br11272 := br11262.of (h11265.2 (b + 1457 + 1) (by rw [kC_at (k := 1) (by decide)]; decide))
  refine m_pop2_2 F rfl e_L_law_996 ?_
  refine m_goto F e_L_law_997 ?_
  exact hN _ (M + 648) T _ _ _ (by omega) (by omega) (by omega) ⟨by omega, h11269, ⟨_, h11270⟩, u, h, P, L0_, ⟨hu, hh, hP, hkk, hm0, hw0, hok⟩, h11268, ft11267, _, by11271, br11272⟩
set_option maxRecDepth 20000 in
theorem lc_21 {V : VX} {X : MX} {nm : String} {b sb N k z i L M T : Nat} {xs : Nat → Int32} {σ : Mem} (F : Fx V X (yLw nm) cL_law 7 ret room_1) (hX : va_X sb L xs (x_s X) V.2.2) (hb : sb < V.2.2.size) (hl : (x_l X).stackTraces = false) (hi : i + 6 ≤ L) (hL : L ≤ 3072) (hk : k ≤ 2100) (hz : z ≤ 80000) (hM : M ≤ 10000000) (hI : IV V b M T σ) (hN : ∀ (N' M' T' : Nat) (σ' : Mem) (k' z' : Nat), k' ≤ k + 1 → z' ≤ z + 6 → M' ≤ M + 10000 → IV V b M' T' σ' → Wm V X 7 N' σ' k' z' 1745 [(4, .int (nI i)), (3, .ref (b + 1480)), (2, .ref (b + 1457)), (1, .ref b), (0, .ref sb)] []) : Wm V X 7 N σ k z 1000 [(4, .int (nI i)), (3, .ref (b + 1480)), (2, .ref (b + 1457)), (1, .ref b), (0, .ref sb)] [] := by
  obtain ⟨hT, hHT, ⟨z0, hout⟩, u, h, P, L0_, ⟨hu, hh, hP, hkk, hm0, hw0, hok⟩, hHR, hFt, t, hBy, hBr⟩ := hI
  refine m_aload_n F rfl e_L_law_1000 ?_
  refine m_aload_n F rfl e_L_law_1001 ?_
  refine m_iload F rfl e_L_law_1002 ?_
  refine m_iconst F (v := 1) (by decide) e_L_law_1004 ?_
  refine m_iadd F e_L_law_1005 ?_
  refine Wm.topE (w := nI (i + 1)) (nI_add i 1) ?_
  refine m_sld F (j := i + 1) e_L_law_1006 hX hb (nI_clamp (by omega)) (vp_in_nI (by omega) (by omega)) ?_
  refine l_callC F e_L_law_1007 (s_X9_all (x_l X) V b M 1 T _ _ b (xs (i + 1)) hHT kA_b  (by omega)) cb_X9_all ml_L_115 im_X9_all se_X9_all hHT rfl rfl (rest := []) rfl (Nat.le_of_ble_eq_true rfl) ⟨Nat.le_of_ble_eq_true rfl, Nat.le_of_ble_eq_true rfl⟩ (by omega) (by omega) (fun r σ11273 hp => ?_)
  obtain ⟨h11274, x11275, rfl⟩ := hp
  have h11276 := h11274.1
  have h11277 := hHR.keepL (fun a ha _ => h11274.2 a (by rw [show kA _ a = 0 from ha]; decide))
  have h11278 := (h11274.2 (b + 1480) (by rw [show kA _ (b + 1480) = 0 from kA_o]; decide)).trans hout
  have br11280 := hBr.of (h11274.2 (b + 1457 + 1) (by rw [show kA _ (b + 1457 + 1) = 0 from kA_big (by omega)]; decide))
  have ft11281 := hFt.of (h11274.2 (b + 128) (by rw [show kA _ (b + 128) = 3 from kA_r]; decide))
  have by11279 := hBy.keep (h11274.2 (b + 1) (by rw [show kA _ (b + 1) = 2 from kA_t]; decide))
  refine m_pop2_2 F rfl e_L_law_1010 ?_
  refine m_aload_n F rfl e_L_law_1011 ?_
  refine m_aload_n F rfl e_L_law_1012 ?_
  refine m_iload F rfl e_L_law_1013 ?_
  refine m_iconst F (v := 1) (by decide) e_L_law_1015 ?_
  refine m_iadd F e_L_law_1016 ?_
  refine Wm.topE (w := nI (i + 1)) (nI_add i 1) ?_
  refine m_sld F (j := i + 1) e_L_law_1017 hX hb (nI_clamp (by omega)) (vp_in_nI (by omega) (by omega)) ?_
  refine l_callM F e_L_law_1018 (q_X10_all (x_l X) V (b + 1457) T 1 u h P L0_ _ _ (xs (i + 1)) h11277 hok hP ) cb_X10_all ml_L_118 im_X10_all se_X10_all h11277 rfl rfl (rest := []) rfl (Nat.le_of_ble_eq_true rfl) ⟨Nat.le_of_ble_eq_true rfl, Nat.le_of_ble_eq_true rfl⟩ (by omega) (by omega) (fun r σ11282 hp => ?_)
  obtain ⟨h11283, x11284, rfl⟩ := hp
  have ft11285 := ft11281.of (h11283.2 (b + 128) (by rw [kC_0 (c := b + 1457) (by omega)]; decide))
  have h11286 := h11283.1
  have h11287 := h11276.keepM (fun a ha => h11283.2 a (by rw [ha]; decide))
  have h11288 := (h11283.2 (b + 1480) (by rw [kC_0 (c := b + 1457) (by omega)]; decide)).trans h11278
  have by11289 := by11279.keep (h11283.2 (b + 1) (by rw [kC_0 (c := b + 1457) (by omega)]; decide))
  have br11290 := br11280.of (h11283.2 (b + 1457 + 1) (by rw [kC_at (k := 1) (by decide)]; decide))
  refine m_pop2_2 F rfl e_L_law_1021 ?_
  refine m_goto F e_L_law_1022 ?_
  exact hN _ (M + 648) T _ _ _ (by omega) (by omega) (by omega) ⟨by omega, h11287, ⟨_, h11288⟩, u, h, P, L0_, ⟨hu, hh, hP, hkk, hm0, hw0, hok⟩, h11286, ft11285, _, by11289, br11290⟩
set_option maxRecDepth 20000 in
theorem lc_22 {V : VX} {X : MX} {nm : String} {b sb N k z i L M T : Nat} {xs : Nat → Int32} {σ : Mem} (F : Fx V X (yLw nm) cL_law 7 ret room_1) (hX : va_X sb L xs (x_s X) V.2.2) (hb : sb < V.2.2.size) (hl : (x_l X).stackTraces = false) (hi : i + 6 ≤ L) (hL : L ≤ 3072) (hk : k ≤ 2100) (hz : z ≤ 80000) (hM : M ≤ 10000000) (hI : IV V b M T σ) (hN : ∀ (N' M' T' : Nat) (σ' : Mem) (k' z' : Nat), k' ≤ k + 1 → z' ≤ z + 6 → M' ≤ M + 10000 → IV V b M' T' σ' → Wm V X 7 N' σ' k' z' 1745 [(4, .int (nI i)), (3, .ref (b + 1480)), (2, .ref (b + 1457)), (1, .ref b), (0, .ref sb)] []) : Wm V X 7 N σ k z 1025 [(4, .int (nI i)), (3, .ref (b + 1480)), (2, .ref (b + 1457)), (1, .ref b), (0, .ref sb)] [] := by
  obtain ⟨hT, hHT, ⟨z0, hout⟩, u, h, P, L0_, ⟨hu, hh, hP, hkk, hm0, hw0, hok⟩, hHR, hFt, t, hBy, hBr⟩ := hI
  refine m_aload_n F rfl e_L_law_1025 ?_
  refine m_aload_n F rfl e_L_law_1026 ?_
  refine m_iload F rfl e_L_law_1027 ?_
  refine m_iconst F (v := 1) (by decide) e_L_law_1029 ?_
  refine m_iadd F e_L_law_1030 ?_
  refine Wm.topE (w := nI (i + 1)) (nI_add i 1) ?_
  refine m_sld F (j := i + 1) e_L_law_1031 hX hb (nI_clamp (by omega)) (vp_in_nI (by omega) (by omega)) ?_
  refine m_aload_n F rfl e_L_law_1032 ?_
  refine m_iload F rfl e_L_law_1033 ?_
  refine m_iconst F (v := 2) (by decide) e_L_law_1035 ?_
  refine m_iadd F e_L_law_1036 ?_
  refine Wm.topE (w := nI (i + 2)) (nI_add i 2) ?_
  refine m_sld F (j := i + 2) e_L_law_1037 hX hb (nI_clamp (by omega)) (vp_in_nI (by omega) (by omega)) ?_
  refine l_callC F e_L_law_1038 (s_X9_soon (x_l X) V b M 1 T _ _ b (xs (i + 1)) (xs (i + 2)) hHT kA_b  (by omega)) cb_X9_soon ml_L_119 im_X9_soon se_X9_soon hHT rfl rfl (rest := []) rfl (Nat.le_of_ble_eq_true rfl) ⟨Nat.le_of_ble_eq_true rfl, Nat.le_of_ble_eq_true rfl⟩ (by omega) (by omega) (fun r σ11291 hp => ?_)
  obtain ⟨h11292, x11293, rfl⟩ := hp
  have h11294 := h11292.1
  have h11295 := hHR.keepL (fun a ha _ => h11292.2 a (by rw [show kA _ a = 0 from ha]; decide))
  have h11296 := (h11292.2 (b + 1480) (by rw [show kA _ (b + 1480) = 0 from kA_o]; decide)).trans hout
  have br11298 := hBr.of (h11292.2 (b + 1457 + 1) (by rw [show kA _ (b + 1457 + 1) = 0 from kA_big (by omega)]; decide))
  have ft11299 := hFt.of (h11292.2 (b + 128) (by rw [show kA _ (b + 128) = 3 from kA_r]; decide))
  have by11297 := hBy.keep (h11292.2 (b + 1) (by rw [show kA _ (b + 1) = 2 from kA_t]; decide))
  refine m_pop2_2 F rfl e_L_law_1041 ?_
  refine m_aload_n F rfl e_L_law_1042 ?_
  refine m_aload_n F rfl e_L_law_1043 ?_
  refine m_iload F rfl e_L_law_1044 ?_
  refine m_iconst F (v := 1) (by decide) e_L_law_1046 ?_
  refine m_iadd F e_L_law_1047 ?_
  refine Wm.topE (w := nI (i + 1)) (nI_add i 1) ?_
  refine m_sld F (j := i + 1) e_L_law_1048 hX hb (nI_clamp (by omega)) (vp_in_nI (by omega) (by omega)) ?_
  refine m_aload_n F rfl e_L_law_1049 ?_
  refine m_iload F rfl e_L_law_1050 ?_
  refine m_iconst F (v := 2) (by decide) e_L_law_1052 ?_
  refine m_iadd F e_L_law_1053 ?_
  refine Wm.topE (w := nI (i + 2)) (nI_add i 2) ?_
  refine m_sld F (j := i + 2) e_L_law_1054 hX hb (nI_clamp (by omega)) (vp_in_nI (by omega) (by omega)) ?_
  refine l_callM F e_L_law_1055 (q_X10_soon (x_l X) V (b + 1457) T 1 u h P L0_ _ _ (xs (i + 1)) (xs (i + 2)) h11295 hok hP ) cb_X10_soon ml_L_122 im_X10_soon se_X10_soon h11295 rfl rfl (rest := []) rfl (Nat.le_of_ble_eq_true rfl) ⟨Nat.le_of_ble_eq_true rfl, Nat.le_of_ble_eq_true rfl⟩ (by omega) (by omega) (fun r σ11300 hp => ?_)
  obtain ⟨h11301, x11302, rfl⟩ := hp
  have ft11303 := ft11299.of (h11301.2 (b + 128) (by rw [kC_0 (c := b + 1457) (by omega)]; decide))
  have h11304 := h11301.1
  have h11305 := h11294.keepM (fun a ha => h11301.2 a (by rw [ha]; decide))
  have h11306 := (h11301.2 (b + 1480) (by rw [kC_0 (c := b + 1457) (by omega)]; decide)).trans h11296
  have by11307 := by11297.keep (h11301.2 (b + 1) (by rw [kC_0 (c := b + 1457) (by omega)]; decide))
  have br11308 := br11298.of (h11301.2 (b + 1457 + 1) (by rw [kC_at (k := 1) (by decide)]; decide))
  refine m_pop2_2 F rfl e_L_law_1058 ?_
  refine m_goto F e_L_law_1059 ?_
  exact hN _ (M + 648) T _ _ _ (by omega) (by omega) (by omega) ⟨by omega, h11305, ⟨_, h11306⟩, u, h, P, L0_, ⟨hu, hh, hP, hkk, hm0, hw0, hok⟩, h11304, ft11303, _, by11307, br11308⟩
set_option maxRecDepth 20000 in
theorem lc_23 {V : VX} {X : MX} {nm : String} {b sb N k z i L M T : Nat} {xs : Nat → Int32} {σ : Mem} (F : Fx V X (yLw nm) cL_law 7 ret room_1) (hX : va_X sb L xs (x_s X) V.2.2) (hb : sb < V.2.2.size) (hl : (x_l X).stackTraces = false) (hi : i + 6 ≤ L) (hL : L ≤ 3072) (hk : k ≤ 2100) (hz : z ≤ 80000) (hM : M ≤ 10000000) (hI : IV V b M T σ) (hN : ∀ (N' M' T' : Nat) (σ' : Mem) (k' z' : Nat), k' ≤ k + 1 → z' ≤ z + 6 → M' ≤ M + 10000 → IV V b M' T' σ' → Wm V X 7 N' σ' k' z' 1745 [(4, .int (nI i)), (3, .ref (b + 1480)), (2, .ref (b + 1457)), (1, .ref b), (0, .ref sb)] []) : Wm V X 7 N σ k z 1062 [(4, .int (nI i)), (3, .ref (b + 1480)), (2, .ref (b + 1457)), (1, .ref b), (0, .ref sb)] [] := by
  obtain ⟨hT, hHT, ⟨z0, hout⟩, u, h, P, L0_, ⟨hu, hh, hP, hkk, hm0, hw0, hok⟩, hHR, hFt, t, hBy, hBr⟩ := hI
  refine m_aload_n F rfl e_L_law_1062 ?_
  refine m_aload_n F rfl e_L_law_1063 ?_
  refine m_iload F rfl e_L_law_1064 ?_
  refine m_iconst F (v := 1) (by decide) e_L_law_1066 ?_
  refine m_iadd F e_L_law_1067 ?_
  refine Wm.topE (w := nI (i + 1)) (nI_add i 1) ?_
  refine m_sld F (j := i + 1) e_L_law_1068 hX hb (nI_clamp (by omega)) (vp_in_nI (by omega) (by omega)) ?_
  refine m_aload_n F rfl e_L_law_1069 ?_
  refine m_iload F rfl e_L_law_1070 ?_
  refine m_iconst F (v := 2) (by decide) e_L_law_1072 ?_
  refine m_iadd F e_L_law_1073 ?_
  refine Wm.topE (w := nI (i + 2)) (nI_add i 2) ?_
  refine m_sld F (j := i + 2) e_L_law_1074 hX hb (nI_clamp (by omega)) (vp_in_nI (by omega) (by omega)) ?_
  refine l_callC F e_L_law_1075 (s_X9_sum (x_l X) V b M 1 T _ _ b (xs (i + 1)) (xs (i + 2)) hHT kA_b  (by omega)) cb_X9_sum ml_L_123 im_X9_sum se_X9_sum hHT rfl rfl (rest := []) rfl (Nat.le_of_ble_eq_true rfl) ⟨Nat.le_of_ble_eq_true rfl, Nat.le_of_ble_eq_true rfl⟩ (by omega) (by omega) (fun r σ11309 hp => ?_)
  obtain ⟨h11310, x11311, rfl⟩ := hp
  have h11312 := h11310.1
  have h11313 := hHR.keepL (fun a ha _ => h11310.2 a (by rw [show kA _ a = 0 from ha]; decide))
  have h11314 := (h11310.2 (b + 1480) (by rw [show kA _ (b + 1480) = 0 from kA_o]; decide)).trans hout
  have br11316 := hBr.of (h11310.2 (b + 1457 + 1) (by rw [show kA _ (b + 1457 + 1) = 0 from kA_big (by omega)]; decide))
  have ft11317 := hFt.of (h11310.2 (b + 128) (by rw [show kA _ (b + 128) = 3 from kA_r]; decide))
  have by11315 := hBy.keep (h11310.2 (b + 1) (by rw [show kA _ (b + 1) = 2 from kA_t]; decide))
  refine m_pop2_2 F rfl e_L_law_1078 ?_
  refine m_aload_n F rfl e_L_law_1079 ?_
  refine m_aload_n F rfl e_L_law_1080 ?_
  refine m_iload F rfl e_L_law_1081 ?_
  refine m_iconst F (v := 1) (by decide) e_L_law_1083 ?_
  refine m_iadd F e_L_law_1084 ?_
  refine Wm.topE (w := nI (i + 1)) (nI_add i 1) ?_
  refine m_sld F (j := i + 1) e_L_law_1085 hX hb (nI_clamp (by omega)) (vp_in_nI (by omega) (by omega)) ?_
  refine m_aload_n F rfl e_L_law_1086 ?_
  refine m_iload F rfl e_L_law_1087 ?_
  refine m_iconst F (v := 2) (by decide) e_L_law_1089 ?_
  refine m_iadd F e_L_law_1090 ?_
  refine Wm.topE (w := nI (i + 2)) (nI_add i 2) ?_
  refine m_sld F (j := i + 2) e_L_law_1091 hX hb (nI_clamp (by omega)) (vp_in_nI (by omega) (by omega)) ?_
  refine l_callM F e_L_law_1092 (q_X10_sum (x_l X) V (b + 1457) T 1 u h P L0_ _ _ (xs (i + 1)) (xs (i + 2)) h11313 hok.b hP ) cb_X10_sum ml_L_126 im_X10_sum se_X10_sum h11313 rfl rfl (rest := []) rfl (Nat.le_of_ble_eq_true rfl) ⟨Nat.le_of_ble_eq_true rfl, Nat.le_of_ble_eq_true rfl⟩ (by omega) (by omega) (fun r σ11318 hp => ?_)
  obtain ⟨h11319, x11320, rfl⟩ := hp
  have ft11321 := ft11317.of (h11319.2 (b + 128) (by rw [kC_0 (c := b + 1457) (by omega)]; decide))
  have h11322 := h11319.1
  have h11323 := h11312.keepM (fun a ha => h11319.2 a (by rw [ha]; decide))
  have h11324 := (h11319.2 (b + 1480) (by rw [kC_0 (c := b + 1457) (by omega)]; decide)).trans h11314
  have by11325 := by11315.keep (h11319.2 (b + 1) (by rw [kC_0 (c := b + 1457) (by omega)]; decide))
  have br11326 := br11316.of (h11319.2 (b + 1457 + 1) (by rw [kC_at (k := 1) (by decide)]; decide))
  refine m_pop2_2 F rfl e_L_law_1095 ?_
  refine m_goto F e_L_law_1096 ?_
  exact hN _ M T _ _ _ (by omega) (by omega) (by omega) ⟨by omega, h11323, ⟨_, h11324⟩, u, h, P, L0_, ⟨hu, hh, hP, hkk, hm0, hw0, hok⟩, h11322, ft11321, _, by11325, br11326⟩
set_option maxRecDepth 20000 in
theorem lc_24 {V : VX} {X : MX} {nm : String} {b sb N k z i L M T : Nat} {xs : Nat → Int32} {σ : Mem} (F : Fx V X (yLw nm) cL_law 7 ret room_1) (hX : va_X sb L xs (x_s X) V.2.2) (hb : sb < V.2.2.size) (hl : (x_l X).stackTraces = false) (hi : i + 6 ≤ L) (hL : L ≤ 3072) (hk : k ≤ 2100) (hz : z ≤ 80000) (hM : M ≤ 10000000) (hI : IV V b M T σ) (hN : ∀ (N' M' T' : Nat) (σ' : Mem) (k' z' : Nat), k' ≤ k + 1 → z' ≤ z + 6 → M' ≤ M + 10000 → IV V b M' T' σ' → Wm V X 7 N' σ' k' z' 1745 [(4, .int (nI i)), (3, .ref (b + 1480)), (2, .ref (b + 1457)), (1, .ref b), (0, .ref sb)] []) : Wm V X 7 N σ k z 1099 [(4, .int (nI i)), (3, .ref (b + 1480)), (2, .ref (b + 1457)), (1, .ref b), (0, .ref sb)] [] := by
  obtain ⟨hT, hHT, ⟨z0, hout⟩, u, h, P, L0_, ⟨hu, hh, hP, hkk, hm0, hw0, hok⟩, hHR, hFt, t, hBy, hBr⟩ := hI
  refine m_aload_n F rfl e_L_law_1099 ?_
  refine m_aload_n F rfl e_L_law_1100 ?_
  refine m_iload F rfl e_L_law_1101 ?_
  refine m_iconst F (v := 1) (by decide) e_L_law_1103 ?_
  refine m_iadd F e_L_law_1104 ?_
  refine Wm.topE (w := nI (i + 1)) (nI_add i 1) ?_
  refine m_sld F (j := i + 1) e_L_law_1105 hX hb (nI_clamp (by omega)) (vp_in_nI (by omega) (by omega)) ?_
  refine m_aload_n F rfl e_L_law_1106 ?_
  refine m_iload F rfl e_L_law_1107 ?_
  refine m_iconst F (v := 2) (by decide) e_L_law_1109 ?_
  refine m_iadd F e_L_law_1110 ?_
  refine Wm.topE (w := nI (i + 2)) (nI_add i 2) ?_
  refine m_sld F (j := i + 2) e_L_law_1111 hX hb (nI_clamp (by omega)) (vp_in_nI (by omega) (by omega)) ?_
  refine l_callC F e_L_law_1112 (s_X9_moved (x_l X) V b M 1 T _ _ b (xs (i + 1)) (xs (i + 2)) hHT kA_b  (by omega)) cb_X9_moved ml_L_127 im_X9_moved se_X9_moved hHT rfl rfl (rest := []) rfl (Nat.le_of_ble_eq_true rfl) ⟨Nat.le_of_ble_eq_true rfl, Nat.le_of_ble_eq_true rfl⟩ (by omega) (by omega) (fun r σ11327 hp => ?_)
  obtain ⟨h11328, x11329, rfl⟩ := hp
  have h11330 := h11328.1
  have h11331 := hHR.keepL (fun a ha _ => h11328.2 a (by rw [show kA _ a = 0 from ha]; decide))
  have h11332 := (h11328.2 (b + 1480) (by rw [show kA _ (b + 1480) = 0 from kA_o]; decide)).trans hout
  have br11334 := hBr.of (h11328.2 (b + 1457 + 1) (by rw [show kA _ (b + 1457 + 1) = 0 from kA_big (by omega)]; decide))
  have ft11335 := hFt.of (h11328.2 (b + 128) (by rw [show kA _ (b + 128) = 3 from kA_r]; decide))
  have by11333 := hBy.keep (h11328.2 (b + 1) (by rw [show kA _ (b + 1) = 2 from kA_t]; decide))
  refine m_pop2_2 F rfl e_L_law_1115 ?_
  refine m_aload_n F rfl e_L_law_1116 ?_
  refine m_aload_n F rfl e_L_law_1117 ?_
  refine m_iload F rfl e_L_law_1118 ?_
  refine m_iconst F (v := 1) (by decide) e_L_law_1120 ?_
  refine m_iadd F e_L_law_1121 ?_
  refine Wm.topE (w := nI (i + 1)) (nI_add i 1) ?_
  refine m_sld F (j := i + 1) e_L_law_1122 hX hb (nI_clamp (by omega)) (vp_in_nI (by omega) (by omega)) ?_
  refine m_aload_n F rfl e_L_law_1123 ?_
  refine m_iload F rfl e_L_law_1124 ?_
  refine m_iconst F (v := 2) (by decide) e_L_law_1126 ?_
  refine m_iadd F e_L_law_1127 ?_
  refine Wm.topE (w := nI (i + 2)) (nI_add i 2) ?_
  refine m_sld F (j := i + 2) e_L_law_1128 hX hb (nI_clamp (by omega)) (vp_in_nI (by omega) (by omega)) ?_
  refine l_callM F e_L_law_1129 (q_X10_moved (x_l X) V (b + 1457) T 1 u h P L0_ _ _ (xs (i + 1)) (xs (i + 2)) h11331 hok.b hP ) cb_X10_moved ml_L_130 im_X10_moved se_X10_moved h11331 rfl rfl (rest := []) rfl (Nat.le_of_ble_eq_true rfl) ⟨Nat.le_of_ble_eq_true rfl, Nat.le_of_ble_eq_true rfl⟩ (by omega) (by omega) (fun r σ11336 hp => ?_)
  obtain ⟨h11337, x11338, rfl⟩ := hp
  have ft11339 := ft11335.of (h11337.2 (b + 128) (by rw [kC_0 (c := b + 1457) (by omega)]; decide))
  have h11340 := h11337.1
  have h11341 := h11330.keepM (fun a ha => h11337.2 a (by rw [ha]; decide))
  have h11342 := (h11337.2 (b + 1480) (by rw [kC_0 (c := b + 1457) (by omega)]; decide)).trans h11332
  have by11343 := by11333.keep (h11337.2 (b + 1) (by rw [kC_0 (c := b + 1457) (by omega)]; decide))
  have br11344 := br11334.of (h11337.2 (b + 1457 + 1) (by rw [kC_at (k := 1) (by decide)]; decide))
  refine m_pop2_2 F rfl e_L_law_1132 ?_
  refine m_goto F e_L_law_1133 ?_
  exact hN _ M T _ _ _ (by omega) (by omega) (by omega) ⟨by omega, h11341, ⟨_, h11342⟩, u, h, P, L0_, ⟨hu, hh, hP, hkk, hm0, hw0, hok⟩, h11340, ft11339, _, by11343, br11344⟩
set_option maxRecDepth 20000 in
theorem lc_25 {V : VX} {X : MX} {nm : String} {b sb N k z i L M T : Nat} {xs : Nat → Int32} {σ : Mem} (F : Fx V X (yLw nm) cL_law 7 ret room_1) (hX : va_X sb L xs (x_s X) V.2.2) (hb : sb < V.2.2.size) (hl : (x_l X).stackTraces = false) (hi : i + 6 ≤ L) (hL : L ≤ 3072) (hk : k ≤ 2100) (hz : z ≤ 80000) (hM : M ≤ 10000000) (hI : IV V b M T σ) (hN : ∀ (N' M' T' : Nat) (σ' : Mem) (k' z' : Nat), k' ≤ k + 1 → z' ≤ z + 6 → M' ≤ M + 10000 → IV V b M' T' σ' → Wm V X 7 N' σ' k' z' 1745 [(4, .int (nI i)), (3, .ref (b + 1480)), (2, .ref (b + 1457)), (1, .ref b), (0, .ref sb)] []) : Wm V X 7 N σ k z 1136 [(4, .int (nI i)), (3, .ref (b + 1480)), (2, .ref (b + 1457)), (1, .ref b), (0, .ref sb)] [] := by
  obtain ⟨hT, hHT, ⟨z0, hout⟩, u, h, P, L0_, ⟨hu, hh, hP, hkk, hm0, hw0, hok⟩, hHR, hFt, t, hBy, hBr⟩ := hI
  refine m_aload_n F rfl e_L_law_1136 ?_
  refine m_aload_n F rfl e_L_law_1137 ?_
  refine m_iload F rfl e_L_law_1138 ?_
  refine m_iconst F (v := 1) (by decide) e_L_law_1140 ?_
  refine m_iadd F e_L_law_1141 ?_
  refine Wm.topE (w := nI (i + 1)) (nI_add i 1) ?_
  refine m_sld F (j := i + 1) e_L_law_1142 hX hb (nI_clamp (by omega)) (vp_in_nI (by omega) (by omega)) ?_
  refine l_callC F e_L_law_1143 (s_X9_choose (x_l X) V b M 1 T _ _ b (xs (i + 1)) hHT kA_b  (by omega)) cb_X9_choose ml_L_131 im_X9_choose se_X9_choose hHT rfl rfl (rest := []) rfl (Nat.le_of_ble_eq_true rfl) ⟨Nat.le_of_ble_eq_true rfl, Nat.le_of_ble_eq_true rfl⟩ (by omega) (by omega) (fun r σ11345 hp => ?_)
  obtain ⟨h11346, x11347, rfl⟩ := hp
  have h11348 := h11346.1
  have h11349 := hHR.keepL (fun a ha _ => h11346.2 a (by rw [show kA _ a = 0 from ha]; decide))
  have h11350 := (h11346.2 (b + 1480) (by rw [show kA _ (b + 1480) = 0 from kA_o]; decide)).trans hout
  have br11352 := hBr.of (h11346.2 (b + 1457 + 1) (by rw [show kA _ (b + 1457 + 1) = 0 from kA_big (by omega)]; decide))
  have ft11353 := hFt.of (h11346.2 (b + 128) (by rw [show kA _ (b + 128) = 3 from kA_r]; decide))
  have by11351 := hBy.keep (h11346.2 (b + 1) (by rw [show kA _ (b + 1) = 2 from kA_t]; decide))
  refine m_pop F rfl e_L_law_1146 ?_
  refine m_aload_n F rfl e_L_law_1147 ?_
  refine m_aload_n F rfl e_L_law_1148 ?_
  refine m_iload F rfl e_L_law_1149 ?_
  refine m_iconst F (v := 1) (by decide) e_L_law_1151 ?_
  refine m_iadd F e_L_law_1152 ?_
  refine Wm.topE (w := nI (i + 1)) (nI_add i 1) ?_
  refine m_sld F (j := i + 1) e_L_law_1153 hX hb (nI_clamp (by omega)) (vp_in_nI (by omega) (by omega)) ?_
  refine l_callM F e_L_law_1154 (q_X10_choose (x_l X) V (b + 1457) T 1 u h P L0_ _ _ (xs (i + 1)) h11349 hok hP ) cb_X10_choose ml_L_134 im_X10_choose se_X10_choose h11349 rfl rfl (rest := []) rfl (Nat.le_of_ble_eq_true rfl) ⟨Nat.le_of_ble_eq_true rfl, Nat.le_of_ble_eq_true rfl⟩ (by omega) (by omega) (fun r σ11354 hp => ?_)
  obtain ⟨h11355, x11356, rfl⟩ := hp
  have ft11357 := ft11353.of (h11355.2 (b + 128) (by rw [kC_0 (c := b + 1457) (by omega)]; decide))
  have h11358 := h11355.1
  have h11359 := h11348.keepM (fun a ha => h11355.2 a (by rw [ha]; decide))
  have h11360 := (h11355.2 (b + 1480) (by rw [kC_0 (c := b + 1457) (by omega)]; decide)).trans h11350
  have by11361 := by11351.keep (h11355.2 (b + 1) (by rw [kC_0 (c := b + 1457) (by omega)]; decide))
  have br11362 := br11352.of (h11355.2 (b + 1457 + 1) (by rw [kC_at (k := 1) (by decide)]; decide))
  refine m_pop F rfl e_L_law_1157 ?_
  refine m_goto F e_L_law_1158 ?_
  exact hN _ M T _ _ _ (by omega) (by omega) (by omega) ⟨by omega, h11359, ⟨_, h11360⟩, u, h, P, L0_, ⟨hu, hh, hP, hkk, hm0, hw0, hok⟩, h11358, ft11357, _, by11361, br11362⟩
set_option maxRecDepth 20000 in
theorem lc_26 {V : VX} {X : MX} {nm : String} {b sb N k z i L M T : Nat} {xs : Nat → Int32} {σ : Mem} (F : Fx V X (yLw nm) cL_law 7 ret room_1) (hX : va_X sb L xs (x_s X) V.2.2) (hb : sb < V.2.2.size) (hl : (x_l X).stackTraces = false) (hi : i + 6 ≤ L) (hL : L ≤ 3072) (hk : k ≤ 2100) (hz : z ≤ 80000) (hM : M ≤ 10000000) (hI : IV V b M T σ) (hN : ∀ (N' M' T' : Nat) (σ' : Mem) (k' z' : Nat), k' ≤ k + 1 → z' ≤ z + 6 → M' ≤ M + 10000 → IV V b M' T' σ' → Wm V X 7 N' σ' k' z' 1745 [(4, .int (nI i)), (3, .ref (b + 1480)), (2, .ref (b + 1457)), (1, .ref b), (0, .ref sb)] []) : Wm V X 7 N σ k z 1161 [(4, .int (nI i)), (3, .ref (b + 1480)), (2, .ref (b + 1457)), (1, .ref b), (0, .ref sb)] [] := by
  obtain ⟨hT, hHT, ⟨z0, hout⟩, u, h, P, L0_, ⟨hu, hh, hP, hkk, hm0, hw0, hok⟩, hHR, hFt, t, hBy, hBr⟩ := hI
  refine m_aload_n F rfl e_L_law_1161 ?_
  refine m_aload_n F rfl e_L_law_1162 ?_
  refine m_iload F rfl e_L_law_1163 ?_
  refine m_iconst F (v := 1) (by decide) e_L_law_1165 ?_
  refine m_iadd F e_L_law_1166 ?_
  refine Wm.topE (w := nI (i + 1)) (nI_add i 1) ?_
  refine m_sld F (j := i + 1) e_L_law_1167 hX hb (nI_clamp (by omega)) (vp_in_nI (by omega) (by omega)) ?_
  refine m_aload_n F rfl e_L_law_1168 ?_
  refine m_iload F rfl e_L_law_1169 ?_
  refine m_iconst F (v := 2) (by decide) e_L_law_1171 ?_
  refine m_iadd F e_L_law_1172 ?_
  refine Wm.topE (w := nI (i + 2)) (nI_add i 2) ?_
  refine m_sld F (j := i + 2) e_L_law_1173 hX hb (nI_clamp (by omega)) (vp_in_nI (by omega) (by omega)) ?_
  refine m_if_eq F e_L_law_1174 (fun q1174 => ?_) (fun q1174 => ?_)
  · refine m_iconst F (v := 0) (by decide) e_L_law_1181 ?_
    refine l_callC F e_L_law_1182 (s_X9_life (x_l X) V b M 1 T _ _ b (xs (i + 1)) 0 hHT kA_b (by omega) (by omega)) cb_X9_life ml_L_135 im_X9_life se_X9_life hHT rfl rfl (rest := []) rfl (Nat.le_of_ble_eq_true rfl) ⟨Nat.le_of_ble_eq_true rfl, Nat.le_of_ble_eq_true rfl⟩ (by omega) (by omega) (fun r σ11363 hp => ?_)
    obtain ⟨h11364, x11365, rfl⟩ := hp
    have h11366 := h11364.1
    have h11367 := hHR.keepL (fun a ha _ => h11364.2 a (by rw [show kA _ a = 0 from ha]; decide))
    have h11368 := (h11364.2 (b + 1480) (by rw [show kA _ (b + 1480) = 0 from kA_o]; decide)).trans hout
    have br11370 := hBr.of (h11364.2 (b + 1457 + 1) (by rw [show kA _ (b + 1457 + 1) = 0 from kA_big (by omega)]; decide))
    have ft11371 := hFt.of (h11364.2 (b + 128) (by rw [show kA _ (b + 128) = 3 from kA_r]; decide))
    have by11369 := hBy.keep (h11364.2 (b + 1) (by rw [show kA _ (b + 1) = 2 from kA_t]; decide))
    refine m_pop2_2 F rfl e_L_law_1185 ?_
    refine m_aload_n F rfl e_L_law_1186 ?_
    refine m_aload_n F rfl e_L_law_1187 ?_
    refine m_iload F rfl e_L_law_1188 ?_
    refine m_iconst F (v := 1) (by decide) e_L_law_1190 ?_
    refine m_iadd F e_L_law_1191 ?_
    refine Wm.topE (w := nI (i + 1)) (nI_add i 1) ?_
    refine m_sld F (j := i + 1) e_L_law_1192 hX hb (nI_clamp (by omega)) (vp_in_nI (by omega) (by omega)) ?_
    refine m_aload_n F rfl e_L_law_1193 ?_
    refine m_iload F rfl e_L_law_1194 ?_
    refine m_iconst F (v := 2) (by decide) e_L_law_1196 ?_
    refine m_iadd F e_L_law_1197 ?_
    refine Wm.topE (w := nI (i + 2)) (nI_add i 2) ?_
    refine m_sld F (j := i + 2) e_L_law_1198 hX hb (nI_clamp (by omega)) (vp_in_nI (by omega) (by omega)) ?_
    refine m_if_eq F e_L_law_1199 (fun q1199 => ?_) (fun q1199 => ?_)
    · refine m_iconst F (v := 0) (by decide) e_L_law_1206 ?_
      refine l_callM F e_L_law_1207 (q_X10_life (x_l X) V (b + 1457) T 1 u h P L0_ _ _ (xs (i + 1)) 0 h11367 hok.b hP ) cb_X10_life ml_L_139 im_X10_life se_X10_life h11367 rfl rfl (rest := []) rfl (Nat.le_of_ble_eq_true rfl) ⟨Nat.le_of_ble_eq_true rfl, Nat.le_of_ble_eq_true rfl⟩ (by omega) (by omega) (fun r σ11372 hp => ?_)
      obtain ⟨h11373, x11374, rfl⟩ := hp
      have ft11375 := ft11371.of (h11373.2 (b + 128) (by rw [kC_0 (c := b + 1457) (by omega)]; decide))
      have h11376 := h11373.1
      have h11377 := h11366.keepM (fun a ha => h11373.2 a (by rw [ha]; decide))
      have h11378 := (h11373.2 (b + 1480) (by rw [kC_0 (c := b + 1457) (by omega)]; decide)).trans h11368
      have by11379 := by11369.keep (h11373.2 (b + 1) (by rw [kC_0 (c := b + 1457) (by omega)]; decide))
      have br11380 := br11370.of (h11373.2 (b + 1457 + 1) (by rw [kC_at (k := 1) (by decide)]; decide))
      refine m_pop2_2 F rfl e_L_law_1210 ?_
      refine m_goto F e_L_law_1211 ?_
      exact hN _ M T _ _ _ (by omega) (by omega) (by omega) ⟨by omega, h11377, ⟨_, h11378⟩, u, h, P, L0_, ⟨hu, hh, hP, hkk, hm0, hw0, hok⟩, h11376, ft11375, _, by11379, br11380⟩
    · refine m_iconst F (v := 1) (by decide) e_L_law_1202 ?_
      refine m_goto F e_L_law_1203 ?_
      refine l_callM F e_L_law_1207 (q_X10_life (x_l X) V (b + 1457) T 1 u h P L0_ _ _ (xs (i + 1)) 1 h11367 hok.b hP ) cb_X10_life ml_L_139 im_X10_life se_X10_life h11367 rfl rfl (rest := []) rfl (Nat.le_of_ble_eq_true rfl) ⟨Nat.le_of_ble_eq_true rfl, Nat.le_of_ble_eq_true rfl⟩ (by omega) (by omega) (fun r σ11381 hp => ?_)
      obtain ⟨h11382, x11383, rfl⟩ := hp
      have ft11384 := ft11371.of (h11382.2 (b + 128) (by rw [kC_0 (c := b + 1457) (by omega)]; decide))
      have h11385 := h11382.1
      have h11386 := h11366.keepM (fun a ha => h11382.2 a (by rw [ha]; decide))
      have h11387 := (h11382.2 (b + 1480) (by rw [kC_0 (c := b + 1457) (by omega)]; decide)).trans h11368
      have by11388 := by11369.keep (h11382.2 (b + 1) (by rw [kC_0 (c := b + 1457) (by omega)]; decide))
      have br11389 := br11370.of (h11382.2 (b + 1457 + 1) (by rw [kC_at (k := 1) (by decide)]; decide))
      refine m_pop2_2 F rfl e_L_law_1210 ?_
      refine m_goto F e_L_law_1211 ?_
      exact hN _ M T _ _ _ (by omega) (by omega) (by omega) ⟨by omega, h11386, ⟨_, h11387⟩, u, h, P, L0_, ⟨hu, hh, hP, hkk, hm0, hw0, hok⟩, h11385, ft11384, _, by11388, br11389⟩
  · refine m_iconst F (v := 1) (by decide) e_L_law_1177 ?_
    refine m_goto F e_L_law_1178 ?_
    refine l_callC F e_L_law_1182 (s_X9_life (x_l X) V b M 1 T _ _ b (xs (i + 1)) 1 hHT kA_b (by omega) (by omega)) cb_X9_life ml_L_135 im_X9_life se_X9_life hHT rfl rfl (rest := []) rfl (Nat.le_of_ble_eq_true rfl) ⟨Nat.le_of_ble_eq_true rfl, Nat.le_of_ble_eq_true rfl⟩ (by omega) (by omega) (fun r σ11390 hp => ?_)
    obtain ⟨h11391, x11392, rfl⟩ := hp
    have h11393 := h11391.1
    have h11394 := hHR.keepL (fun a ha _ => h11391.2 a (by rw [show kA _ a = 0 from ha]; decide))
    have h11395 := (h11391.2 (b + 1480) (by rw [show kA _ (b + 1480) = 0 from kA_o]; decide)).trans hout
    have br11397 := hBr.of (h11391.2 (b + 1457 + 1) (by rw [show kA _ (b + 1457 + 1) = 0 from kA_big (by omega)]; decide))
    have ft11398 := hFt.of (h11391.2 (b + 128) (by rw [show kA _ (b + 128) = 3 from kA_r]; decide))
    have by11396 := hBy.keep (h11391.2 (b + 1) (by rw [show kA _ (b + 1) = 2 from kA_t]; decide))
    refine m_pop2_2 F rfl e_L_law_1185 ?_
    refine m_aload_n F rfl e_L_law_1186 ?_
    refine m_aload_n F rfl e_L_law_1187 ?_
    refine m_iload F rfl e_L_law_1188 ?_
    refine m_iconst F (v := 1) (by decide) e_L_law_1190 ?_
    refine m_iadd F e_L_law_1191 ?_
    refine Wm.topE (w := nI (i + 1)) (nI_add i 1) ?_
    refine m_sld F (j := i + 1) e_L_law_1192 hX hb (nI_clamp (by omega)) (vp_in_nI (by omega) (by omega)) ?_
    refine m_aload_n F rfl e_L_law_1193 ?_
    refine m_iload F rfl e_L_law_1194 ?_
    refine m_iconst F (v := 2) (by decide) e_L_law_1196 ?_
    refine m_iadd F e_L_law_1197 ?_
    refine Wm.topE (w := nI (i + 2)) (nI_add i 2) ?_
    refine m_sld F (j := i + 2) e_L_law_1198 hX hb (nI_clamp (by omega)) (vp_in_nI (by omega) (by omega)) ?_
    refine m_if_eq F e_L_law_1199 (fun q1199 => ?_) (fun q1199 => ?_)
    · refine m_iconst F (v := 0) (by decide) e_L_law_1206 ?_
      refine l_callM F e_L_law_1207 (q_X10_life (x_l X) V (b + 1457) T 1 u h P L0_ _ _ (xs (i + 1)) 0 h11394 hok.b hP ) cb_X10_life ml_L_139 im_X10_life se_X10_life h11394 rfl rfl (rest := []) rfl (Nat.le_of_ble_eq_true rfl) ⟨Nat.le_of_ble_eq_true rfl, Nat.le_of_ble_eq_true rfl⟩ (by omega) (by omega) (fun r σ11399 hp => ?_)
      obtain ⟨h11400, x11401, rfl⟩ := hp
      have ft11402 := ft11398.of (h11400.2 (b + 128) (by rw [kC_0 (c := b + 1457) (by omega)]; decide))
      have h11403 := h11400.1
      have h11404 := h11393.keepM (fun a ha => h11400.2 a (by rw [ha]; decide))
      have h11405 := (h11400.2 (b + 1480) (by rw [kC_0 (c := b + 1457) (by omega)]; decide)).trans h11395
      have by11406 := by11396.keep (h11400.2 (b + 1) (by rw [kC_0 (c := b + 1457) (by omega)]; decide))
      have br11407 := br11397.of (h11400.2 (b + 1457 + 1) (by rw [kC_at (k := 1) (by decide)]; decide))
      refine m_pop2_2 F rfl e_L_law_1210 ?_
      refine m_goto F e_L_law_1211 ?_
      exact hN _ M T _ _ _ (by omega) (by omega) (by omega) ⟨by omega, h11404, ⟨_, h11405⟩, u, h, P, L0_, ⟨hu, hh, hP, hkk, hm0, hw0, hok⟩, h11403, ft11402, _, by11406, br11407⟩
    · refine m_iconst F (v := 1) (by decide) e_L_law_1202 ?_
      refine m_goto F e_L_law_1203 ?_
      refine l_callM F e_L_law_1207 (q_X10_life (x_l X) V (b + 1457) T 1 u h P L0_ _ _ (xs (i + 1)) 1 h11394 hok.b hP ) cb_X10_life ml_L_139 im_X10_life se_X10_life h11394 rfl rfl (rest := []) rfl (Nat.le_of_ble_eq_true rfl) ⟨Nat.le_of_ble_eq_true rfl, Nat.le_of_ble_eq_true rfl⟩ (by omega) (by omega) (fun r σ11408 hp => ?_)
      obtain ⟨h11409, x11410, rfl⟩ := hp
      have ft11411 := ft11398.of (h11409.2 (b + 128) (by rw [kC_0 (c := b + 1457) (by omega)]; decide))
      have h11412 := h11409.1
      have h11413 := h11393.keepM (fun a ha => h11409.2 a (by rw [ha]; decide))
      have h11414 := (h11409.2 (b + 1480) (by rw [kC_0 (c := b + 1457) (by omega)]; decide)).trans h11395
      have by11415 := by11396.keep (h11409.2 (b + 1) (by rw [kC_0 (c := b + 1457) (by omega)]; decide))
      have br11416 := br11397.of (h11409.2 (b + 1457 + 1) (by rw [kC_at (k := 1) (by decide)]; decide))
      refine m_pop2_2 F rfl e_L_law_1210 ?_
      refine m_goto F e_L_law_1211 ?_
      exact hN _ M T _ _ _ (by omega) (by omega) (by omega) ⟨by omega, h11413, ⟨_, h11414⟩, u, h, P, L0_, ⟨hu, hh, hP, hkk, hm0, hw0, hok⟩, h11412, ft11411, _, by11415, br11416⟩
set_option maxRecDepth 20000 in
theorem lc_27 {V : VX} {X : MX} {nm : String} {b sb N k z i L M T : Nat} {xs : Nat → Int32} {σ : Mem} (F : Fx V X (yLw nm) cL_law 7 ret room_1) (hX : va_X sb L xs (x_s X) V.2.2) (hb : sb < V.2.2.size) (hl : (x_l X).stackTraces = false) (hi : i + 6 ≤ L) (hL : L ≤ 3072) (hk : k ≤ 2100) (hz : z ≤ 80000) (hM : M ≤ 10000000) (hI : IV V b M T σ) (hN : ∀ (N' M' T' : Nat) (σ' : Mem) (k' z' : Nat), k' ≤ k + 1 → z' ≤ z + 6 → M' ≤ M + 10000 → IV V b M' T' σ' → Wm V X 7 N' σ' k' z' 1745 [(4, .int (nI i)), (3, .ref (b + 1480)), (2, .ref (b + 1457)), (1, .ref b), (0, .ref sb)] []) : Wm V X 7 N σ k z 1214 [(4, .int (nI i)), (3, .ref (b + 1480)), (2, .ref (b + 1457)), (1, .ref b), (0, .ref sb)] [] := by
  obtain ⟨hT, hHT, ⟨z0, hout⟩, u, h, P, L0_, ⟨hu, hh, hP, hkk, hm0, hw0, hok⟩, hHR, hFt, t, hBy, hBr⟩ := hI
  refine m_aload_n F rfl e_L_law_1214 ?_
  refine m_aload_n F rfl e_L_law_1215 ?_
  refine m_iload F rfl e_L_law_1216 ?_
  refine m_iconst F (v := 1) (by decide) e_L_law_1218 ?_
  refine m_iadd F e_L_law_1219 ?_
  refine Wm.topE (w := nI (i + 1)) (nI_add i 1) ?_
  refine m_sld F (j := i + 1) e_L_law_1220 hX hb (nI_clamp (by omega)) (vp_in_nI (by omega) (by omega)) ?_
  refine l_callC F e_L_law_1221 (s_X9_peak (x_l X) V b M 1 T _ _ b (xs (i + 1)) hHT kA_b  (by omega)) cb_X9_peak ml_L_140 im_X9_peak se_X9_peak hHT rfl rfl (rest := []) rfl (Nat.le_of_ble_eq_true rfl) ⟨Nat.le_of_ble_eq_true rfl, Nat.le_of_ble_eq_true rfl⟩ (by omega) (by omega) (fun r σ11417 hp => ?_)
  obtain ⟨h11418, x11419, rfl⟩ := hp
  have h11420 := h11418.1
  have h11421 := hHR.keepL (fun a ha _ => h11418.2 a (by rw [show kA _ a = 0 from ha]; decide))
  have h11422 := (h11418.2 (b + 1480) (by rw [show kA _ (b + 1480) = 0 from kA_o]; decide)).trans hout
  have br11424 := hBr.of (h11418.2 (b + 1457 + 1) (by rw [show kA _ (b + 1457 + 1) = 0 from kA_big (by omega)]; decide))
  have ft11425 := hFt.of (h11418.2 (b + 128) (by rw [show kA _ (b + 128) = 3 from kA_r]; decide))
  have by11423 := hBy.keep (h11418.2 (b + 1) (by rw [show kA _ (b + 1) = 2 from kA_t]; decide))
  refine m_pop2_2 F rfl e_L_law_1224 ?_
  refine m_aload_n F rfl e_L_law_1225 ?_
  refine m_aload_n F rfl e_L_law_1226 ?_
  refine m_iload F rfl e_L_law_1227 ?_
  refine m_iconst F (v := 1) (by decide) e_L_law_1229 ?_
  refine m_iadd F e_L_law_1230 ?_
  refine Wm.topE (w := nI (i + 1)) (nI_add i 1) ?_
  refine m_sld F (j := i + 1) e_L_law_1231 hX hb (nI_clamp (by omega)) (vp_in_nI (by omega) (by omega)) ?_
  refine l_callM F e_L_law_1232 (q_X10_peak (x_l X) V (b + 1457) T 1 u h P L0_ _ _ (xs (i + 1)) h11421 hok hP ) cb_X10_peak ml_L_143 im_X10_peak se_X10_peak h11421 rfl rfl (rest := []) rfl (Nat.le_of_ble_eq_true rfl) ⟨Nat.le_of_ble_eq_true rfl, Nat.le_of_ble_eq_true rfl⟩ (by omega) (by omega) (fun r σ11426 hp => ?_)
  obtain ⟨h11427, x11428, rfl⟩ := hp
  have ft11429 := ft11425.of (h11427.2 (b + 128) (by rw [kC_0 (c := b + 1457) (by omega)]; decide))
  have h11430 := h11427.1
  have h11431 := h11420.keepM (fun a ha => h11427.2 a (by rw [ha]; decide))
  have h11432 := (h11427.2 (b + 1480) (by rw [kC_0 (c := b + 1457) (by omega)]; decide)).trans h11422
  have by11433 := by11423.keep (h11427.2 (b + 1) (by rw [kC_0 (c := b + 1457) (by omega)]; decide))
  have br11434 := br11424.of (h11427.2 (b + 1457 + 1) (by rw [kC_at (k := 1) (by decide)]; decide))
  refine m_pop2_2 F rfl e_L_law_1235 ?_
  refine m_goto F e_L_law_1236 ?_
  exact hN _ (M + 1296) T _ _ _ (by omega) (by omega) (by omega) ⟨by omega, h11431, ⟨_, h11432⟩, u, h, P, L0_, ⟨hu, hh, hP, hkk, hm0, hw0, hok⟩, h11430, ft11429, _, by11433, br11434⟩
