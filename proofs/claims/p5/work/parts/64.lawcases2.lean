set_option maxRecDepth 20000 in
theorem lc_14 {V : VX} {X : MX} {nm : String} {b sb N k z i L M T : Nat} {xs : Nat → Int32} {σ : Mem} (F : Fx V X (yLw nm) cL_law 7 ret room_1) (hX : va_X sb L xs (x_s X) V.2.2) (hb : sb < V.2.2.size) (hl : (x_l X).stackTraces = false) (hi : i + 6 ≤ L) (hL : L ≤ 3072) (hk : k ≤ 2100) (hz : z ≤ 80000) (hM : M ≤ 10000000) (hI : IV V b M T σ) (hN : ∀ (N' M' T' : Nat) (σ' : Mem) (k' z' : Nat), k' ≤ k + 1 → z' ≤ z + 6 → M' ≤ M + 10000 → IV V b M' T' σ' → Wm V X 7 N' σ' k' z' 1745 [(4, .int (nI i)), (3, .ref (b + 1480)), (2, .ref (b + 1457)), (1, .ref b), (0, .ref sb)] []) : Wm V X 7 N σ k z 721 [(4, .int (nI i)), (3, .ref (b + 1480)), (2, .ref (b + 1457)), (1, .ref b), (0, .ref sb)] [] := by
  obtain ⟨hT, G, hG, hHT, ⟨z0, hout⟩, u, h, P, L0_, ⟨hu, hh, hP, hkk, hm0, hw0, hok⟩, hHR, hNg, t, hBy, hBr⟩ := hI
  refine m_aload_n F rfl e_L_law_721 ?_
  refine m_aload_n F rfl e_L_law_722 ?_
  refine m_iload F rfl e_L_law_723 ?_
  refine m_iconst F (v := 1) (by decide) e_L_law_725 ?_
  refine m_iadd F e_L_law_726 ?_
  refine Wm.topE (w := nI (i + 1)) (nI_add i 1) ?_
  refine m_sld F (j := i + 1) e_L_law_727 hX hb (nI_clamp (by omega)) (vp_in_nI (by omega) (by omega)) ?_
  refine l_callC F e_L_law_728 (s_X9_take (x_l X) V G b M 1 T _ _ b (xs (i + 1)) hHT kA_b hG (by omega)) cb_X9_take ml_L_84 im_X9_take se_X9_take hHT rfl rfl (rest := []) rfl (Nat.le_of_ble_eq_true rfl) ⟨Nat.le_of_ble_eq_true rfl, Nat.le_of_ble_eq_true rfl⟩ (by omega) (by omega) (fun r σ11013 hp => ?_)
  obtain ⟨G11015, gr11016, h11014, x11017, rfl⟩ := hp
  have ng11018 := hNg.gr gr11016
  have h11019 := h11014.1
  have h11020 := hHR.keepL (fun a ha _ => h11014.2 a (by rw [show kA _ a = 0 from ha]; decide))
  have h11021 := (h11014.2 (b + 1480) (by rw [show kA _ (b + 1480) = 0 from kA_o]; decide)).trans hout
  have br11023 := hBr.of (h11014.2 (b + 1457 + 1) (by rw [show kA _ (b + 1457 + 1) = 0 from kA_big (by omega)]; decide))
  have by11022 := hBy.keep (h11014.2 (b + 1) (by rw [show kA _ (b + 1) = 2 from kA_t]; decide))
  refine m_pop2_2 F rfl e_L_law_731 ?_
  refine m_aload_n F rfl e_L_law_732 ?_
  refine m_aload_n F rfl e_L_law_733 ?_
  refine m_iload F rfl e_L_law_734 ?_
  refine m_iconst F (v := 1) (by decide) e_L_law_736 ?_
  refine m_iadd F e_L_law_737 ?_
  refine Wm.topE (w := nI (i + 1)) (nI_add i 1) ?_
  refine m_sld F (j := i + 1) e_L_law_738 hX hb (nI_clamp (by omega)) (vp_in_nI (by omega) (by omega)) ?_
  refine l_callM F e_L_law_739 (q_X10_take (x_l X) V (b + 1457) T 1 u h P L0_ _ _ (xs (i + 1)) h11020 hok hP (by first | omega | assumption) (by first | omega | assumption)) cb_X10_take ml_L_87 im_X10_take se_X10_take h11020 rfl rfl (rest := []) rfl (Nat.le_of_ble_eq_true rfl) ⟨Nat.le_of_ble_eq_true rfl, Nat.le_of_ble_eq_true rfl⟩ (by omega) (by omega) (fun r σ11024 hp => ?_)
  obtain ⟨u11026, hu11026, L11027, okL11027, h11025, x11028, rfl⟩ := hp
  have h11029 := h11025.1
  have h11030 := h11019.keepM (fun a ha => h11025.2 a (by rw [ha]; decide))
  have h11031 := (h11025.2 (b + 1480) (by rw [kC_0 (c := b + 1457) (by omega)]; decide)).trans h11021
  have by11032 := by11022.keep (h11025.2 (b + 1) (by rw [kC_0 (c := b + 1457) (by omega)]; decide))
  have br11033 := br11023.of (h11025.2 (b + 1457 + 1) (by rw [kC_at (k := 1) (by decide)]; decide))
  refine m_pop2_2 F rfl e_L_law_742 ?_
  refine m_goto F e_L_law_743 ?_
  exact hN _ (M + 1) T _ _ _ (by omega) (by omega) (by omega) ⟨by omega, G11015, gr11016.1, h11030, ⟨_, h11031⟩, u11026, h, P, L11027, ⟨hu11026, hh, hP, hkk, hm0, hw0, okL11027⟩, h11029, ng11018, _, by11032, br11033⟩
set_option maxRecDepth 20000 in
theorem lc_15 {V : VX} {X : MX} {nm : String} {b sb N k z i L M T : Nat} {xs : Nat → Int32} {σ : Mem} (F : Fx V X (yLw nm) cL_law 7 ret room_1) (hX : va_X sb L xs (x_s X) V.2.2) (hb : sb < V.2.2.size) (hl : (x_l X).stackTraces = false) (hi : i + 6 ≤ L) (hL : L ≤ 3072) (hk : k ≤ 2100) (hz : z ≤ 80000) (hM : M ≤ 10000000) (hI : IV V b M T σ) (hN : ∀ (N' M' T' : Nat) (σ' : Mem) (k' z' : Nat), k' ≤ k + 1 → z' ≤ z + 6 → M' ≤ M + 10000 → IV V b M' T' σ' → Wm V X 7 N' σ' k' z' 1745 [(4, .int (nI i)), (3, .ref (b + 1480)), (2, .ref (b + 1457)), (1, .ref b), (0, .ref sb)] []) : Wm V X 7 N σ k z 746 [(4, .int (nI i)), (3, .ref (b + 1480)), (2, .ref (b + 1457)), (1, .ref b), (0, .ref sb)] [] := by
  obtain ⟨hT, G, hG, hHT, ⟨z0, hout⟩, u, h, P, L0_, ⟨hu, hh, hP, hkk, hm0, hw0, hok⟩, hHR, hNg, t, hBy, hBr⟩ := hI
  refine m_aload_n F rfl e_L_law_746 ?_
  refine m_aload_n F rfl e_L_law_747 ?_
  refine m_iload F rfl e_L_law_748 ?_
  refine m_iconst F (v := 1) (by decide) e_L_law_750 ?_
  refine m_iadd F e_L_law_751 ?_
  refine Wm.topE (w := nI (i + 1)) (nI_add i 1) ?_
  refine m_sld F (j := i + 1) e_L_law_752 hX hb (nI_clamp (by omega)) (vp_in_nI (by omega) (by omega)) ?_
  refine m_aload_n F rfl e_L_law_753 ?_
  refine m_iload F rfl e_L_law_754 ?_
  refine m_iconst F (v := 2) (by decide) e_L_law_756 ?_
  refine m_iadd F e_L_law_757 ?_
  refine Wm.topE (w := nI (i + 2)) (nI_add i 2) ?_
  refine m_sld F (j := i + 2) e_L_law_758 hX hb (nI_clamp (by omega)) (vp_in_nI (by omega) (by omega)) ?_
  refine l_callC F e_L_law_759 (s_X9_part (x_l X) V G b M 1 T _ _ b (xs (i + 1)) (xs (i + 2)) hHT kA_b hG (by omega)) cb_X9_part ml_L_88 im_X9_part se_X9_part hHT rfl rfl (rest := []) rfl (Nat.le_of_ble_eq_true rfl) ⟨Nat.le_of_ble_eq_true rfl, Nat.le_of_ble_eq_true rfl⟩ (by omega) (by omega) (fun r σ11034 hp => ?_)
  obtain ⟨G11036, gr11037, h11035, x11038, rfl⟩ := hp
  have ng11039 := hNg.gr gr11037
  have h11040 := h11035.1
  have h11041 := hHR.keepL (fun a ha _ => h11035.2 a (by rw [show kA _ a = 0 from ha]; decide))
  have h11042 := (h11035.2 (b + 1480) (by rw [show kA _ (b + 1480) = 0 from kA_o]; decide)).trans hout
  have br11044 := hBr.of (h11035.2 (b + 1457 + 1) (by rw [show kA _ (b + 1457 + 1) = 0 from kA_big (by omega)]; decide))
  have by11043 := hBy.keep (h11035.2 (b + 1) (by rw [show kA _ (b + 1) = 2 from kA_t]; decide))
  refine m_pop2_2 F rfl e_L_law_762 ?_
  refine m_aload_n F rfl e_L_law_763 ?_
  refine m_aload_n F rfl e_L_law_764 ?_
  refine m_iload F rfl e_L_law_765 ?_
  refine m_iconst F (v := 1) (by decide) e_L_law_767 ?_
  refine m_iadd F e_L_law_768 ?_
  refine Wm.topE (w := nI (i + 1)) (nI_add i 1) ?_
  refine m_sld F (j := i + 1) e_L_law_769 hX hb (nI_clamp (by omega)) (vp_in_nI (by omega) (by omega)) ?_
  refine m_aload_n F rfl e_L_law_770 ?_
  refine m_iload F rfl e_L_law_771 ?_
  refine m_iconst F (v := 2) (by decide) e_L_law_773 ?_
  refine m_iadd F e_L_law_774 ?_
  refine Wm.topE (w := nI (i + 2)) (nI_add i 2) ?_
  refine m_sld F (j := i + 2) e_L_law_775 hX hb (nI_clamp (by omega)) (vp_in_nI (by omega) (by omega)) ?_
  refine l_callM F e_L_law_776 (q_X10_part (x_l X) V (b + 1457) T 1 u h P L0_ _ _ (xs (i + 1)) (xs (i + 2)) h11041 hok hP (by first | omega | assumption) (by first | omega | assumption)) cb_X10_part ml_L_91 im_X10_part se_X10_part h11041 rfl rfl (rest := []) rfl (Nat.le_of_ble_eq_true rfl) ⟨Nat.le_of_ble_eq_true rfl, Nat.le_of_ble_eq_true rfl⟩ (by omega) (by omega) (fun r σ11045 hp => ?_)
  obtain ⟨u11047, hu11047, L11048, okL11048, h11046, x11049, rfl⟩ := hp
  have h11050 := h11046.1
  have h11051 := h11040.keepM (fun a ha => h11046.2 a (by rw [ha]; decide))
  have h11052 := (h11046.2 (b + 1480) (by rw [kC_0 (c := b + 1457) (by omega)]; decide)).trans h11042
  have by11053 := by11043.keep (h11046.2 (b + 1) (by rw [kC_0 (c := b + 1457) (by omega)]; decide))
  have br11054 := br11044.of (h11046.2 (b + 1457 + 1) (by rw [kC_at (k := 1) (by decide)]; decide))
  refine m_pop2_2 F rfl e_L_law_779 ?_
  refine m_goto F e_L_law_780 ?_
  exact hN _ (M + 1) T _ _ _ (by omega) (by omega) (by omega) ⟨by omega, G11036, gr11037.1, h11051, ⟨_, h11052⟩, u11047, h, P, L11048, ⟨hu11047, hh, hP, hkk, hm0, hw0, okL11048⟩, h11050, ng11039, _, by11053, br11054⟩
set_option maxRecDepth 20000 in
theorem lc_16 {V : VX} {X : MX} {nm : String} {b sb N k z i L M T : Nat} {xs : Nat → Int32} {σ : Mem} (F : Fx V X (yLw nm) cL_law 7 ret room_1) (hX : va_X sb L xs (x_s X) V.2.2) (hb : sb < V.2.2.size) (hl : (x_l X).stackTraces = false) (hi : i + 6 ≤ L) (hL : L ≤ 3072) (hk : k ≤ 2100) (hz : z ≤ 80000) (hM : M ≤ 10000000) (hI : IV V b M T σ) (hN : ∀ (N' M' T' : Nat) (σ' : Mem) (k' z' : Nat), k' ≤ k + 1 → z' ≤ z + 6 → M' ≤ M + 10000 → IV V b M' T' σ' → Wm V X 7 N' σ' k' z' 1745 [(4, .int (nI i)), (3, .ref (b + 1480)), (2, .ref (b + 1457)), (1, .ref b), (0, .ref sb)] []) : Wm V X 7 N σ k z 783 [(4, .int (nI i)), (3, .ref (b + 1480)), (2, .ref (b + 1457)), (1, .ref b), (0, .ref sb)] [] := by
  obtain ⟨hT, G, hG, hHT, ⟨z0, hout⟩, u, h, P, L0_, ⟨hu, hh, hP, hkk, hm0, hw0, hok⟩, hHR, hNg, t, hBy, hBr⟩ := hI
  refine m_aload_n F rfl e_L_law_783 ?_
  refine m_aload_n F rfl e_L_law_784 ?_
  refine m_iload F rfl e_L_law_785 ?_
  refine m_iconst F (v := 1) (by decide) e_L_law_787 ?_
  refine m_iadd F e_L_law_788 ?_
  refine Wm.topE (w := nI (i + 1)) (nI_add i 1) ?_
  refine m_sld F (j := i + 1) e_L_law_789 hX hb (nI_clamp (by omega)) (vp_in_nI (by omega) (by omega)) ?_
  refine l_callC F e_L_law_790 (s_X9_end (x_l X) V G b M 1 T _ _ b (xs (i + 1)) hHT kA_b hG (by omega)) cb_X9_end ml_L_92 im_X9_end se_X9_end hHT rfl rfl (rest := []) rfl (Nat.le_of_ble_eq_true rfl) ⟨Nat.le_of_ble_eq_true rfl, Nat.le_of_ble_eq_true rfl⟩ (by omega) (by omega) (fun r σ11055 hp => ?_)
  obtain ⟨G11057, gr11058, h11056, x11059, rfl⟩ := hp
  have ng11060 := hNg.gr gr11058
  have h11061 := h11056.1
  have h11062 := hHR.keepL (fun a ha _ => h11056.2 a (by rw [show kA _ a = 0 from ha]; decide))
  have h11063 := (h11056.2 (b + 1480) (by rw [show kA _ (b + 1480) = 0 from kA_o]; decide)).trans hout
  have br11065 := hBr.of (h11056.2 (b + 1457 + 1) (by rw [show kA _ (b + 1457 + 1) = 0 from kA_big (by omega)]; decide))
  have by11064 := hBy.keep (h11056.2 (b + 1) (by rw [show kA _ (b + 1) = 2 from kA_t]; decide))
  refine m_pop2_2 F rfl e_L_law_793 ?_
  refine m_aload_n F rfl e_L_law_794 ?_
  refine m_aload_n F rfl e_L_law_795 ?_
  refine m_iload F rfl e_L_law_796 ?_
  refine m_iconst F (v := 1) (by decide) e_L_law_798 ?_
  refine m_iadd F e_L_law_799 ?_
  refine Wm.topE (w := nI (i + 1)) (nI_add i 1) ?_
  refine m_sld F (j := i + 1) e_L_law_800 hX hb (nI_clamp (by omega)) (vp_in_nI (by omega) (by omega)) ?_
  refine l_callM F e_L_law_801 (q_X10_end (x_l X) V (b + 1457) T 1 u h P L0_ _ _ (xs (i + 1)) h11062 hok hP (by first | omega | assumption) (by first | omega | assumption)) cb_X10_end ml_L_95 im_X10_end se_X10_end h11062 rfl rfl (rest := []) rfl (Nat.le_of_ble_eq_true rfl) ⟨Nat.le_of_ble_eq_true rfl, Nat.le_of_ble_eq_true rfl⟩ (by omega) (by omega) (fun r σ11066 hp => ?_)
  obtain ⟨u11068, hu11068, L11069, okL11069, h11067, x11070, rfl⟩ := hp
  have h11071 := h11067.1
  have h11072 := h11061.keepM (fun a ha => h11067.2 a (by rw [ha]; decide))
  have h11073 := (h11067.2 (b + 1480) (by rw [kC_0 (c := b + 1457) (by omega)]; decide)).trans h11063
  have by11074 := by11064.keep (h11067.2 (b + 1) (by rw [kC_0 (c := b + 1457) (by omega)]; decide))
  have br11075 := br11065.of (h11067.2 (b + 1457 + 1) (by rw [kC_at (k := 1) (by decide)]; decide))
  refine m_pop2_2 F rfl e_L_law_804 ?_
  refine m_goto F e_L_law_805 ?_
  exact hN _ (M + 1) T _ _ _ (by omega) (by omega) (by omega) ⟨by omega, G11057, gr11058.1, h11072, ⟨_, h11073⟩, u11068, h, P, L11069, ⟨hu11068, hh, hP, hkk, hm0, hw0, okL11069⟩, h11071, ng11060, _, by11074, br11075⟩
set_option maxRecDepth 20000 in
theorem lc_17 {V : VX} {X : MX} {nm : String} {b sb N k z i L M T : Nat} {xs : Nat → Int32} {σ : Mem} (F : Fx V X (yLw nm) cL_law 7 ret room_1) (hX : va_X sb L xs (x_s X) V.2.2) (hb : sb < V.2.2.size) (hl : (x_l X).stackTraces = false) (hi : i + 6 ≤ L) (hL : L ≤ 3072) (hk : k ≤ 2100) (hz : z ≤ 80000) (hM : M ≤ 10000000) (hI : IV V b M T σ) (hN : ∀ (N' M' T' : Nat) (σ' : Mem) (k' z' : Nat), k' ≤ k + 1 → z' ≤ z + 6 → M' ≤ M + 10000 → IV V b M' T' σ' → Wm V X 7 N' σ' k' z' 1745 [(4, .int (nI i)), (3, .ref (b + 1480)), (2, .ref (b + 1457)), (1, .ref b), (0, .ref sb)] []) : Wm V X 7 N σ k z 808 [(4, .int (nI i)), (3, .ref (b + 1480)), (2, .ref (b + 1457)), (1, .ref b), (0, .ref sb)] [] := by
  obtain ⟨hT, G, hG, hHT, ⟨z0, hout⟩, u, h, P, L0_, ⟨hu, hh, hP, hkk, hm0, hw0, hok⟩, hHR, hNg, t, hBy, hBr⟩ := hI
  refine m_aload_n F rfl e_L_law_808 ?_
  refine m_aload_n F rfl e_L_law_809 ?_
  refine m_iload F rfl e_L_law_810 ?_
  refine m_iconst F (v := 1) (by decide) e_L_law_812 ?_
  refine m_iadd F e_L_law_813 ?_
  refine Wm.topE (w := nI (i + 1)) (nI_add i 1) ?_
  refine m_sld F (j := i + 1) e_L_law_814 hX hb (nI_clamp (by omega)) (vp_in_nI (by omega) (by omega)) ?_
  refine m_aload_n F rfl e_L_law_815 ?_
  refine m_iload F rfl e_L_law_816 ?_
  refine m_iconst F (v := 2) (by decide) e_L_law_818 ?_
  refine m_iadd F e_L_law_819 ?_
  refine Wm.topE (w := nI (i + 2)) (nI_add i 2) ?_
  refine m_sld F (j := i + 2) e_L_law_820 hX hb (nI_clamp (by omega)) (vp_in_nI (by omega) (by omega)) ?_
  refine m_i2l F e_L_law_821 ?_
  refine Wm.topl (fun x11076 _ => ?_)
  refine m_bipush F (v := 32) (by decide) e_L_law_822 ?_
  refine m_lshl F e_L_law_824 ?_
  refine Wm.topl (fun x11077 _ => ?_)
  refine m_aload_n F rfl e_L_law_825 ?_
  refine m_iload F rfl e_L_law_826 ?_
  refine m_iconst F (v := 3) (by decide) e_L_law_828 ?_
  refine m_iadd F e_L_law_829 ?_
  refine Wm.topE (w := nI (i + 3)) (nI_add i 3) ?_
  refine m_sld F (j := i + 3) e_L_law_830 hX hb (nI_clamp (by omega)) (vp_in_nI (by omega) (by omega)) ?_
  refine m_i2l F e_L_law_831 ?_
  refine Wm.topl (fun x11078 _ => ?_)
  refine m_ldc2 F kc_L_96 e_L_law_832 ?_
  refine m_land F e_L_law_835 ?_
  refine Wm.topl (fun x11079 _ => ?_)
  refine m_lor F e_L_law_836 ?_
  refine Wm.topl (fun x11080 _ => ?_)
  refine l_callC F e_L_law_837 (s_X9_down (x_l X) V G b M 1 T _ _ b (xs (i + 1)) x11080 hHT kA_b hG (by omega)) cb_X9_down ml_L_98 im_X9_down se_X9_down hHT rfl rfl (rest := []) rfl (Nat.le_of_ble_eq_true rfl) ⟨Nat.le_of_ble_eq_true rfl, Nat.le_of_ble_eq_true rfl⟩ (by omega) (by omega) (fun r σ11081 hp => ?_)
  obtain ⟨G11083, gr11084, h11082, x11085, rfl⟩ := hp
  have ng11086 := hNg.gr gr11084
  have h11087 := h11082.1
  have h11088 := hHR.keepL (fun a ha _ => h11082.2 a (by rw [show kA _ a = 0 from ha]; decide))
  have h11089 := (h11082.2 (b + 1480) (by rw [show kA _ (b + 1480) = 0 from kA_o]; decide)).trans hout
  have br11091 := hBr.of (h11082.2 (b + 1457 + 1) (by rw [show kA _ (b + 1457 + 1) = 0 from kA_big (by omega)]; decide))
  have by11090 := hBy.keep (h11082.2 (b + 1) (by rw [show kA _ (b + 1) = 2 from kA_t]; decide))
  refine m_pop2_2 F rfl e_L_law_840 ?_
  refine m_aload_n F rfl e_L_law_841 ?_
  refine m_aload_n F rfl e_L_law_842 ?_
  refine m_iload F rfl e_L_law_843 ?_
  refine m_iconst F (v := 1) (by decide) e_L_law_845 ?_
  refine m_iadd F e_L_law_846 ?_
  refine Wm.topE (w := nI (i + 1)) (nI_add i 1) ?_
  refine m_sld F (j := i + 1) e_L_law_847 hX hb (nI_clamp (by omega)) (vp_in_nI (by omega) (by omega)) ?_
  refine m_aload_n F rfl e_L_law_848 ?_
  refine m_iload F rfl e_L_law_849 ?_
  refine m_iconst F (v := 2) (by decide) e_L_law_851 ?_
  refine m_iadd F e_L_law_852 ?_
  refine Wm.topE (w := nI (i + 2)) (nI_add i 2) ?_
  refine m_sld F (j := i + 2) e_L_law_853 hX hb (nI_clamp (by omega)) (vp_in_nI (by omega) (by omega)) ?_
  refine m_i2l F e_L_law_854 ?_
  refine Wm.topl (fun x11092 _ => ?_)
  refine m_bipush F (v := 32) (by decide) e_L_law_855 ?_
  refine m_lshl F e_L_law_857 ?_
  refine Wm.topl (fun x11093 _ => ?_)
  refine m_aload_n F rfl e_L_law_858 ?_
  refine m_iload F rfl e_L_law_859 ?_
  refine m_iconst F (v := 3) (by decide) e_L_law_861 ?_
  refine m_iadd F e_L_law_862 ?_
  refine Wm.topE (w := nI (i + 3)) (nI_add i 3) ?_
  refine m_sld F (j := i + 3) e_L_law_863 hX hb (nI_clamp (by omega)) (vp_in_nI (by omega) (by omega)) ?_
  refine m_i2l F e_L_law_864 ?_
  refine Wm.topl (fun x11094 _ => ?_)
  refine m_ldc2 F kc_L_96 e_L_law_865 ?_
  refine m_land F e_L_law_868 ?_
  refine Wm.topl (fun x11095 _ => ?_)
  refine m_lor F e_L_law_869 ?_
  refine Wm.topl (fun x11096 _ => ?_)
  refine l_callM F e_L_law_870 (q_X10_down (x_l X) V (b + 1457) T 1 u h P L0_ _ _ (xs (i + 1)) x11096 h11088 hok hP (by first | omega | assumption) (by first | omega | assumption)) cb_X10_down ml_L_102 im_X10_down se_X10_down h11088 rfl rfl (rest := []) rfl (Nat.le_of_ble_eq_true rfl) ⟨Nat.le_of_ble_eq_true rfl, Nat.le_of_ble_eq_true rfl⟩ (by omega) (by omega) (fun r σ11097 hp => ?_)
  obtain ⟨u11099, hu11099, L11100, okL11100, h11098, x11101, rfl⟩ := hp
  have h11102 := h11098.1
  have h11103 := h11087.keepM (fun a ha => h11098.2 a (by rw [ha]; decide))
  have h11104 := (h11098.2 (b + 1480) (by rw [kC_0 (c := b + 1457) (by omega)]; decide)).trans h11089
  have by11105 := by11090.keep (h11098.2 (b + 1) (by rw [kC_0 (c := b + 1457) (by omega)]; decide))
  have br11106 := br11091.of (h11098.2 (b + 1457 + 1) (by rw [kC_at (k := 1) (by decide)]; decide))
  refine m_pop2_2 F rfl e_L_law_873 ?_
  refine m_goto F e_L_law_874 ?_
  exact hN _ (M + 1) T _ _ _ (by omega) (by omega) (by omega) ⟨by omega, G11083, gr11084.1, h11103, ⟨_, h11104⟩, u11099, h, P, L11100, ⟨hu11099, hh, hP, hkk, hm0, hw0, okL11100⟩, h11102, ng11086, _, by11105, br11106⟩
set_option maxRecDepth 20000 in
theorem lc_18 {V : VX} {X : MX} {nm : String} {b sb N k z i L M T : Nat} {xs : Nat → Int32} {σ : Mem} (F : Fx V X (yLw nm) cL_law 7 ret room_1) (hX : va_X sb L xs (x_s X) V.2.2) (hb : sb < V.2.2.size) (hl : (x_l X).stackTraces = false) (hi : i + 6 ≤ L) (hL : L ≤ 3072) (hk : k ≤ 2100) (hz : z ≤ 80000) (hM : M ≤ 10000000) (hI : IV V b M T σ) (hN : ∀ (N' M' T' : Nat) (σ' : Mem) (k' z' : Nat), k' ≤ k + 1 → z' ≤ z + 6 → M' ≤ M + 10000 → IV V b M' T' σ' → Wm V X 7 N' σ' k' z' 1745 [(4, .int (nI i)), (3, .ref (b + 1480)), (2, .ref (b + 1457)), (1, .ref b), (0, .ref sb)] []) : Wm V X 7 N σ k z 877 [(4, .int (nI i)), (3, .ref (b + 1480)), (2, .ref (b + 1457)), (1, .ref b), (0, .ref sb)] [] := by
  obtain ⟨hT, G, hG, hHT, ⟨z0, hout⟩, u, h, P, L0_, ⟨hu, hh, hP, hkk, hm0, hw0, hok⟩, hHR, hNg, t, hBy, hBr⟩ := hI
  refine m_aload_n F rfl e_L_law_877 ?_
  refine m_aload_n F rfl e_L_law_878 ?_
  refine m_iload F rfl e_L_law_879 ?_
  refine m_iconst F (v := 1) (by decide) e_L_law_881 ?_
  refine m_iadd F e_L_law_882 ?_
  refine Wm.topE (w := nI (i + 1)) (nI_add i 1) ?_
  refine m_sld F (j := i + 1) e_L_law_883 hX hb (nI_clamp (by omega)) (vp_in_nI (by omega) (by omega)) ?_
  refine m_aload_n F rfl e_L_law_884 ?_
  refine m_iload F rfl e_L_law_885 ?_
  refine m_iconst F (v := 2) (by decide) e_L_law_887 ?_
  refine m_iadd F e_L_law_888 ?_
  refine Wm.topE (w := nI (i + 2)) (nI_add i 2) ?_
  refine m_sld F (j := i + 2) e_L_law_889 hX hb (nI_clamp (by omega)) (vp_in_nI (by omega) (by omega)) ?_
  refine m_aload_n F rfl e_L_law_890 ?_
  refine m_iload F rfl e_L_law_891 ?_
  refine m_iconst F (v := 3) (by decide) e_L_law_893 ?_
  refine m_iadd F e_L_law_894 ?_
  refine Wm.topE (w := nI (i + 3)) (nI_add i 3) ?_
  refine m_sld F (j := i + 3) e_L_law_895 hX hb (nI_clamp (by omega)) (vp_in_nI (by omega) (by omega)) ?_
  refine l_callC F e_L_law_896 (s_X9_putOff (x_l X) V G b M 1 T _ _ b (xs (i + 1)) (xs (i + 2)) (xs (i + 3)) hHT kA_b hG (by omega)) cb_X9_putOff ml_L_103 im_X9_putOff se_X9_putOff hHT rfl rfl (rest := []) rfl (Nat.le_of_ble_eq_true rfl) ⟨Nat.le_of_ble_eq_true rfl, Nat.le_of_ble_eq_true rfl⟩ (by omega) (by omega) (fun r σ11107 hp => ?_)
  obtain ⟨G11109, gr11110, h11108, x11111, rfl⟩ := hp
  have ng11112 := hNg.gr gr11110
  have h11113 := h11108.1
  have h11114 := hHR.keepL (fun a ha _ => h11108.2 a (by rw [show kA _ a = 0 from ha]; decide))
  have h11115 := (h11108.2 (b + 1480) (by rw [show kA _ (b + 1480) = 0 from kA_o]; decide)).trans hout
  have br11117 := hBr.of (h11108.2 (b + 1457 + 1) (by rw [show kA _ (b + 1457 + 1) = 0 from kA_big (by omega)]; decide))
  have by11116 := hBy.keep (h11108.2 (b + 1) (by rw [show kA _ (b + 1) = 2 from kA_t]; decide))
  refine m_pop2_2 F rfl e_L_law_899 ?_
  refine m_aload_n F rfl e_L_law_900 ?_
  refine m_aload_n F rfl e_L_law_901 ?_
  refine m_iload F rfl e_L_law_902 ?_
  refine m_iconst F (v := 1) (by decide) e_L_law_904 ?_
  refine m_iadd F e_L_law_905 ?_
  refine Wm.topE (w := nI (i + 1)) (nI_add i 1) ?_
  refine m_sld F (j := i + 1) e_L_law_906 hX hb (nI_clamp (by omega)) (vp_in_nI (by omega) (by omega)) ?_
  refine m_aload_n F rfl e_L_law_907 ?_
  refine m_iload F rfl e_L_law_908 ?_
  refine m_iconst F (v := 2) (by decide) e_L_law_910 ?_
  refine m_iadd F e_L_law_911 ?_
  refine Wm.topE (w := nI (i + 2)) (nI_add i 2) ?_
  refine m_sld F (j := i + 2) e_L_law_912 hX hb (nI_clamp (by omega)) (vp_in_nI (by omega) (by omega)) ?_
  refine m_aload_n F rfl e_L_law_913 ?_
  refine m_iload F rfl e_L_law_914 ?_
  refine m_iconst F (v := 3) (by decide) e_L_law_916 ?_
  refine m_iadd F e_L_law_917 ?_
  refine Wm.topE (w := nI (i + 3)) (nI_add i 3) ?_
  refine m_sld F (j := i + 3) e_L_law_918 hX hb (nI_clamp (by omega)) (vp_in_nI (by omega) (by omega)) ?_
  refine l_callM F e_L_law_919 (q_X10_putOff (x_l X) V (b + 1457) T 1 u h P L0_ _ _ (xs (i + 1)) (xs (i + 2)) (xs (i + 3)) h11114 hok hP (by first | omega | assumption) (by first | omega | assumption)) cb_X10_putOff ml_L_106 im_X10_putOff se_X10_putOff h11114 rfl rfl (rest := []) rfl (Nat.le_of_ble_eq_true rfl) ⟨Nat.le_of_ble_eq_true rfl, Nat.le_of_ble_eq_true rfl⟩ (by omega) (by omega) (fun r σ11118 hp => ?_)
  obtain ⟨u11120, hu11120, L11121, okL11121, h11119, x11122, rfl⟩ := hp
  have h11123 := h11119.1
  have h11124 := h11113.keepM (fun a ha => h11119.2 a (by rw [ha]; decide))
  have h11125 := (h11119.2 (b + 1480) (by rw [kC_0 (c := b + 1457) (by omega)]; decide)).trans h11115
  have by11126 := by11116.keep (h11119.2 (b + 1) (by rw [kC_0 (c := b + 1457) (by omega)]; decide))
  have br11127 := br11117.of (h11119.2 (b + 1457 + 1) (by rw [kC_at (k := 1) (by decide)]; decide))
  refine m_pop2_2 F rfl e_L_law_922 ?_
  refine m_goto F e_L_law_923 ?_
  exact hN _ (M + 1) T _ _ _ (by omega) (by omega) (by omega) ⟨by omega, G11109, gr11110.1, h11124, ⟨_, h11125⟩, u11120, h, P, L11121, ⟨hu11120, hh, hP, hkk, hm0, hw0, okL11121⟩, h11123, ng11112, _, by11126, br11127⟩
set_option maxRecDepth 20000 in
theorem lc_19 {V : VX} {X : MX} {nm : String} {b sb N k z i L M T : Nat} {xs : Nat → Int32} {σ : Mem} (F : Fx V X (yLw nm) cL_law 7 ret room_1) (hX : va_X sb L xs (x_s X) V.2.2) (hb : sb < V.2.2.size) (hl : (x_l X).stackTraces = false) (hi : i + 6 ≤ L) (hL : L ≤ 3072) (hk : k ≤ 2100) (hz : z ≤ 80000) (hM : M ≤ 10000000) (hI : IV V b M T σ) (hN : ∀ (N' M' T' : Nat) (σ' : Mem) (k' z' : Nat), k' ≤ k + 1 → z' ≤ z + 6 → M' ≤ M + 10000 → IV V b M' T' σ' → Wm V X 7 N' σ' k' z' 1745 [(4, .int (nI i)), (3, .ref (b + 1480)), (2, .ref (b + 1457)), (1, .ref b), (0, .ref sb)] []) : Wm V X 7 N σ k z 926 [(4, .int (nI i)), (3, .ref (b + 1480)), (2, .ref (b + 1457)), (1, .ref b), (0, .ref sb)] [] := by
  obtain ⟨hT, G, hG, hHT, ⟨z0, hout⟩, u, h, P, L0_, ⟨hu, hh, hP, hkk, hm0, hw0, hok⟩, hHR, hNg, t, hBy, hBr⟩ := hI
  refine m_aload_n F rfl e_L_law_926 ?_
  refine m_aload_n F rfl e_L_law_927 ?_
  refine m_iload F rfl e_L_law_928 ?_
  refine m_iconst F (v := 1) (by decide) e_L_law_930 ?_
  refine m_iadd F e_L_law_931 ?_
  refine Wm.topE (w := nI (i + 1)) (nI_add i 1) ?_
  refine m_sld F (j := i + 1) e_L_law_932 hX hb (nI_clamp (by omega)) (vp_in_nI (by omega) (by omega)) ?_
  refine l_callC F e_L_law_933 (s_X9_become (x_l X) V G b M 1 T _ _ b (xs (i + 1)) hHT kA_b hG (by omega)) cb_X9_become ml_L_107 im_X9_become se_X9_become hHT rfl rfl (rest := []) rfl (Nat.le_of_ble_eq_true rfl) ⟨Nat.le_of_ble_eq_true rfl, Nat.le_of_ble_eq_true rfl⟩ (by omega) (by omega) (fun r σ11128 hp => ?_)
  obtain ⟨G11130, gr11131, h11129, x11132, rfl⟩ := hp
  have ng11133 := hNg.gr gr11131
  have h11134 := h11129.1
  have h11135 := hHR.keepL (fun a ha _ => h11129.2 a (by rw [show kA _ a = 0 from ha]; decide))
  have h11136 := (h11129.2 (b + 1480) (by rw [show kA _ (b + 1480) = 0 from kA_o]; decide)).trans hout
  have br11138 := hBr.of (h11129.2 (b + 1457 + 1) (by rw [show kA _ (b + 1457 + 1) = 0 from kA_big (by omega)]; decide))
  have by11137 := hBy.keep (h11129.2 (b + 1) (by rw [show kA _ (b + 1) = 2 from kA_t]; decide))
  refine m_pop F rfl e_L_law_936 ?_
  refine m_aload_n F rfl e_L_law_937 ?_
  refine m_aload_n F rfl e_L_law_938 ?_
  refine m_iload F rfl e_L_law_939 ?_
  refine m_iconst F (v := 1) (by decide) e_L_law_941 ?_
  refine m_iadd F e_L_law_942 ?_
  refine Wm.topE (w := nI (i + 1)) (nI_add i 1) ?_
  refine m_sld F (j := i + 1) e_L_law_943 hX hb (nI_clamp (by omega)) (vp_in_nI (by omega) (by omega)) ?_
  refine l_callM F e_L_law_944 (q_X10_become (x_l X) V (b + 1457) T 1 u h P L0_ _ _ (xs (i + 1)) h11135 hok hP (by first | omega | assumption) (by first | omega | assumption)) cb_X10_become ml_L_110 im_X10_become se_X10_become h11135 rfl rfl (rest := []) rfl (Nat.le_of_ble_eq_true rfl) ⟨Nat.le_of_ble_eq_true rfl, Nat.le_of_ble_eq_true rfl⟩ (by omega) (by omega) (fun r σ11139 hp => ?_)
  obtain ⟨u11141, hu11141, L11142, okL11142, h11140, x11143, rfl⟩ := hp
  have h11144 := h11140.1
  have h11145 := h11134.keepM (fun a ha => h11140.2 a (by rw [ha]; decide))
  have h11146 := (h11140.2 (b + 1480) (by rw [kC_0 (c := b + 1457) (by omega)]; decide)).trans h11136
  have by11147 := by11137.keep (h11140.2 (b + 1) (by rw [kC_0 (c := b + 1457) (by omega)]; decide))
  have br11148 := br11138.of (h11140.2 (b + 1457 + 1) (by rw [kC_at (k := 1) (by decide)]; decide))
  refine m_pop F rfl e_L_law_947 ?_
  refine m_goto F e_L_law_948 ?_
  exact hN _ M T _ _ _ (by omega) (by omega) (by omega) ⟨by omega, G11130, gr11131.1, h11145, ⟨_, h11146⟩, u11141, h, P, L11142, ⟨hu11141, hh, hP, hkk, hm0, hw0, okL11142⟩, h11144, ng11133, _, by11147, br11148⟩
set_option maxRecDepth 20000 in
theorem lc_20 {V : VX} {X : MX} {nm : String} {b sb N k z i L M T : Nat} {xs : Nat → Int32} {σ : Mem} (F : Fx V X (yLw nm) cL_law 7 ret room_1) (hX : va_X sb L xs (x_s X) V.2.2) (hb : sb < V.2.2.size) (hl : (x_l X).stackTraces = false) (hi : i + 6 ≤ L) (hL : L ≤ 3072) (hk : k ≤ 2100) (hz : z ≤ 80000) (hM : M ≤ 10000000) (hI : IV V b M T σ) (hN : ∀ (N' M' T' : Nat) (σ' : Mem) (k' z' : Nat), k' ≤ k + 1 → z' ≤ z + 6 → M' ≤ M + 10000 → IV V b M' T' σ' → Wm V X 7 N' σ' k' z' 1745 [(4, .int (nI i)), (3, .ref (b + 1480)), (2, .ref (b + 1457)), (1, .ref b), (0, .ref sb)] []) : Wm V X 7 N σ k z 951 [(4, .int (nI i)), (3, .ref (b + 1480)), (2, .ref (b + 1457)), (1, .ref b), (0, .ref sb)] [] := by
  obtain ⟨hT, G, hG, hHT, ⟨z0, hout⟩, u, h, P, L0_, ⟨hu, hh, hP, hkk, hm0, hw0, hok⟩, hHR, hNg, t, hBy, hBr⟩ := hI
  refine m_aload_n F rfl e_L_law_951 ?_
  refine m_aload_n F rfl e_L_law_952 ?_
  refine m_iload F rfl e_L_law_953 ?_
  refine m_iconst F (v := 1) (by decide) e_L_law_955 ?_
  refine m_iadd F e_L_law_956 ?_
  refine Wm.topE (w := nI (i + 1)) (nI_add i 1) ?_
  refine m_sld F (j := i + 1) e_L_law_957 hX hb (nI_clamp (by omega)) (vp_in_nI (by omega) (by omega)) ?_
  refine m_aload_n F rfl e_L_law_958 ?_
  refine m_iload F rfl e_L_law_959 ?_
  refine m_iconst F (v := 2) (by decide) e_L_law_961 ?_
  refine m_iadd F e_L_law_962 ?_
  refine Wm.topE (w := nI (i + 2)) (nI_add i 2) ?_
  refine m_sld F (j := i + 2) e_L_law_963 hX hb (nI_clamp (by omega)) (vp_in_nI (by omega) (by omega)) ?_
  refine m_aload_n F rfl e_L_law_964 ?_
  refine m_iload F rfl e_L_law_965 ?_
  refine m_iconst F (v := 3) (by decide) e_L_law_967 ?_
  refine m_iadd F e_L_law_968 ?_
  refine Wm.topE (w := nI (i + 3)) (nI_add i 3) ?_
  refine m_sld F (j := i + 3) e_L_law_969 hX hb (nI_clamp (by omega)) (vp_in_nI (by omega) (by omega)) ?_
  refine l_callC F e_L_law_970 (s_X9_plan (x_l X) V G b M 1 T _ _ b (xs (i + 1)) (xs (i + 2)) (xs (i + 3)) hHT kA_b hG (by omega)) cb_X9_plan ml_L_111 im_X9_plan se_X9_plan hHT rfl rfl (rest := []) rfl (Nat.le_of_ble_eq_true rfl) ⟨Nat.le_of_ble_eq_true rfl, Nat.le_of_ble_eq_true rfl⟩ (by omega) (by omega) (fun r σ11149 hp => ?_)
  obtain ⟨h11150, x11151, rfl⟩ := hp
  have h11152 := h11150.1
  have h11153 := hHR.keepL (fun a ha _ => h11150.2 a (by rw [show kA _ a = 0 from ha]; decide))
  have h11154 := (h11150.2 (b + 1480) (by rw [show kA _ (b + 1480) = 0 from kA_o]; decide)).trans hout
  have br11156 := hBr.of (h11150.2 (b + 1457 + 1) (by rw [show kA _ (b + 1457 + 1) = 0 from kA_big (by omega)]; decide))
  have by11155 := hBy.keep (h11150.2 (b + 1) (by rw [show kA _ (b + 1) = 2 from kA_t]; decide))
  refine m_pop2_2 F rfl e_L_law_973 ?_
  refine m_aload_n F rfl e_L_law_974 ?_
  refine m_aload_n F rfl e_L_law_975 ?_
  refine m_iload F rfl e_L_law_976 ?_
  refine m_iconst F (v := 1) (by decide) e_L_law_978 ?_
  refine m_iadd F e_L_law_979 ?_
  refine Wm.topE (w := nI (i + 1)) (nI_add i 1) ?_
  refine m_sld F (j := i + 1) e_L_law_980 hX hb (nI_clamp (by omega)) (vp_in_nI (by omega) (by omega)) ?_
  refine m_aload_n F rfl e_L_law_981 ?_
  refine m_iload F rfl e_L_law_982 ?_
  refine m_iconst F (v := 2) (by decide) e_L_law_984 ?_
  refine m_iadd F e_L_law_985 ?_
  refine Wm.topE (w := nI (i + 2)) (nI_add i 2) ?_
  refine m_sld F (j := i + 2) e_L_law_986 hX hb (nI_clamp (by omega)) (vp_in_nI (by omega) (by omega)) ?_
  refine m_aload_n F rfl e_L_law_987 ?_
  refine m_iload F rfl e_L_law_988 ?_
  refine m_iconst F (v := 3) (by decide) e_L_law_990 ?_
  refine m_iadd F e_L_law_991 ?_
  refine Wm.topE (w := nI (i + 3)) (nI_add i 3) ?_
  refine m_sld F (j := i + 3) e_L_law_992 hX hb (nI_clamp (by omega)) (vp_in_nI (by omega) (by omega)) ?_
  refine l_callM F e_L_law_993 (q_X10_plan (x_l X) V (b + 1457) T 1 u h P L0_ _ _ (xs (i + 1)) (xs (i + 2)) (xs (i + 3)) h11153 hok hP ) cb_X10_plan ml_L_114 im_X10_plan se_X10_plan h11153 rfl rfl (rest := []) rfl (Nat.le_of_ble_eq_true rfl) ⟨Nat.le_of_ble_eq_true rfl, Nat.le_of_ble_eq_true rfl⟩ (by omega) (by omega) (fun r σ11157 hp => ?_)
  obtain ⟨h11158, x11159, rfl⟩ := hp
  have h11160 := h11158.1
  have h11161 := h11152.keepM (fun a ha => h11158.2 a (by rw [ha]; decide))
  have h11162 := (h11158.2 (b + 1480) (by rw [kC_0 (c := b + 1457) (by omega)]; decide)).trans h11154
  have by11163 := by11155.keep (h11158.2 (b + 1) (by rw [kC_0 (c := b + 1457) (by omega)]; decide))
  have br11164 := br11156.of (h11158.2 (b + 1457 + 1) (by rw [kC_at (k := 1) (by decide)]; decide))
  refine m_pop2_2 F rfl e_L_law_996 ?_
  refine m_goto F e_L_law_997 ?_
  exact hN _ (M + 648) T _ _ _ (by omega) (by omega) (by omega) ⟨by omega, G, hG, h11161, ⟨_, h11162⟩, u, h, P, L0_, ⟨hu, hh, hP, hkk, hm0, hw0, hok⟩, h11160, hNg, _, by11163, br11164⟩
set_option maxRecDepth 20000 in
theorem lc_21 {V : VX} {X : MX} {nm : String} {b sb N k z i L M T : Nat} {xs : Nat → Int32} {σ : Mem} (F : Fx V X (yLw nm) cL_law 7 ret room_1) (hX : va_X sb L xs (x_s X) V.2.2) (hb : sb < V.2.2.size) (hl : (x_l X).stackTraces = false) (hi : i + 6 ≤ L) (hL : L ≤ 3072) (hk : k ≤ 2100) (hz : z ≤ 80000) (hM : M ≤ 10000000) (hI : IV V b M T σ) (hN : ∀ (N' M' T' : Nat) (σ' : Mem) (k' z' : Nat), k' ≤ k + 1 → z' ≤ z + 6 → M' ≤ M + 10000 → IV V b M' T' σ' → Wm V X 7 N' σ' k' z' 1745 [(4, .int (nI i)), (3, .ref (b + 1480)), (2, .ref (b + 1457)), (1, .ref b), (0, .ref sb)] []) : Wm V X 7 N σ k z 1000 [(4, .int (nI i)), (3, .ref (b + 1480)), (2, .ref (b + 1457)), (1, .ref b), (0, .ref sb)] [] := by
  obtain ⟨hT, G, hG, hHT, ⟨z0, hout⟩, u, h, P, L0_, ⟨hu, hh, hP, hkk, hm0, hw0, hok⟩, hHR, hNg, t, hBy, hBr⟩ := hI
  refine m_aload_n F rfl e_L_law_1000 ?_
  refine m_aload_n F rfl e_L_law_1001 ?_
  refine m_iload F rfl e_L_law_1002 ?_
  refine m_iconst F (v := 1) (by decide) e_L_law_1004 ?_
  refine m_iadd F e_L_law_1005 ?_
  refine Wm.topE (w := nI (i + 1)) (nI_add i 1) ?_
  refine m_sld F (j := i + 1) e_L_law_1006 hX hb (nI_clamp (by omega)) (vp_in_nI (by omega) (by omega)) ?_
  refine l_callC F e_L_law_1007 (s_X9_all (x_l X) V G b M 1 T _ _ b (xs (i + 1)) hHT kA_b hG (by omega)) cb_X9_all ml_L_115 im_X9_all se_X9_all hHT rfl rfl (rest := []) rfl (Nat.le_of_ble_eq_true rfl) ⟨Nat.le_of_ble_eq_true rfl, Nat.le_of_ble_eq_true rfl⟩ (by omega) (by omega) (fun r σ11165 hp => ?_)
  obtain ⟨h11166, x11167, rfl⟩ := hp
  have h11168 := h11166.1
  have h11169 := hHR.keepL (fun a ha _ => h11166.2 a (by rw [show kA _ a = 0 from ha]; decide))
  have h11170 := (h11166.2 (b + 1480) (by rw [show kA _ (b + 1480) = 0 from kA_o]; decide)).trans hout
  have br11172 := hBr.of (h11166.2 (b + 1457 + 1) (by rw [show kA _ (b + 1457 + 1) = 0 from kA_big (by omega)]; decide))
  have by11171 := hBy.keep (h11166.2 (b + 1) (by rw [show kA _ (b + 1) = 2 from kA_t]; decide))
  refine m_pop2_2 F rfl e_L_law_1010 ?_
  refine m_aload_n F rfl e_L_law_1011 ?_
  refine m_aload_n F rfl e_L_law_1012 ?_
  refine m_iload F rfl e_L_law_1013 ?_
  refine m_iconst F (v := 1) (by decide) e_L_law_1015 ?_
  refine m_iadd F e_L_law_1016 ?_
  refine Wm.topE (w := nI (i + 1)) (nI_add i 1) ?_
  refine m_sld F (j := i + 1) e_L_law_1017 hX hb (nI_clamp (by omega)) (vp_in_nI (by omega) (by omega)) ?_
  refine l_callM F e_L_law_1018 (q_X10_all (x_l X) V (b + 1457) T 1 u h P L0_ _ _ (xs (i + 1)) h11169 hok hP ) cb_X10_all ml_L_118 im_X10_all se_X10_all h11169 rfl rfl (rest := []) rfl (Nat.le_of_ble_eq_true rfl) ⟨Nat.le_of_ble_eq_true rfl, Nat.le_of_ble_eq_true rfl⟩ (by omega) (by omega) (fun r σ11173 hp => ?_)
  obtain ⟨h11174, x11175, rfl⟩ := hp
  have h11176 := h11174.1
  have h11177 := h11168.keepM (fun a ha => h11174.2 a (by rw [ha]; decide))
  have h11178 := (h11174.2 (b + 1480) (by rw [kC_0 (c := b + 1457) (by omega)]; decide)).trans h11170
  have by11179 := by11171.keep (h11174.2 (b + 1) (by rw [kC_0 (c := b + 1457) (by omega)]; decide))
  have br11180 := br11172.of (h11174.2 (b + 1457 + 1) (by rw [kC_at (k := 1) (by decide)]; decide))
  refine m_pop2_2 F rfl e_L_law_1021 ?_
  refine m_goto F e_L_law_1022 ?_
  exact hN _ (M + 648) T _ _ _ (by omega) (by omega) (by omega) ⟨by omega, G, hG, h11177, ⟨_, h11178⟩, u, h, P, L0_, ⟨hu, hh, hP, hkk, hm0, hw0, hok⟩, h11176, hNg, _, by11179, br11180⟩
set_option maxRecDepth 20000 in
theorem lc_22 {V : VX} {X : MX} {nm : String} {b sb N k z i L M T : Nat} {xs : Nat → Int32} {σ : Mem} (F : Fx V X (yLw nm) cL_law 7 ret room_1) (hX : va_X sb L xs (x_s X) V.2.2) (hb : sb < V.2.2.size) (hl : (x_l X).stackTraces = false) (hi : i + 6 ≤ L) (hL : L ≤ 3072) (hk : k ≤ 2100) (hz : z ≤ 80000) (hM : M ≤ 10000000) (hI : IV V b M T σ) (hN : ∀ (N' M' T' : Nat) (σ' : Mem) (k' z' : Nat), k' ≤ k + 1 → z' ≤ z + 6 → M' ≤ M + 10000 → IV V b M' T' σ' → Wm V X 7 N' σ' k' z' 1745 [(4, .int (nI i)), (3, .ref (b + 1480)), (2, .ref (b + 1457)), (1, .ref b), (0, .ref sb)] []) : Wm V X 7 N σ k z 1025 [(4, .int (nI i)), (3, .ref (b + 1480)), (2, .ref (b + 1457)), (1, .ref b), (0, .ref sb)] [] := by
  obtain ⟨hT, G, hG, hHT, ⟨z0, hout⟩, u, h, P, L0_, ⟨hu, hh, hP, hkk, hm0, hw0, hok⟩, hHR, hNg, t, hBy, hBr⟩ := hI
  refine m_aload_n F rfl e_L_law_1025 ?_
  refine m_aload_n F rfl e_L_law_1026 ?_
  refine m_iload F rfl e_L_law_1027 ?_
  refine m_iconst F (v := 1) (by decide) e_L_law_1029 ?_
  refine m_iadd F e_L_law_1030 ?_
  refine Wm.topE (w := nI (i + 1)) (nI_add i 1) ?_
  refine m_sld F (j := i + 1) e_L_law_1031 hX hb (nI_clamp (by omega)) (vp_in_nI (by omega) (by omega)) ?_
  refine m_aload_n F rfl e_L_law_1032 ?_
  refine m_iload F rfl e_L_law_1033 ?_
  refine m_iconst F (v := 2) (by decide) e_L_law_1035 ?_
  refine m_iadd F e_L_law_1036 ?_
  refine Wm.topE (w := nI (i + 2)) (nI_add i 2) ?_
  refine m_sld F (j := i + 2) e_L_law_1037 hX hb (nI_clamp (by omega)) (vp_in_nI (by omega) (by omega)) ?_
  refine l_callC F e_L_law_1038 (s_X9_soon (x_l X) V G b M 1 T _ _ b (xs (i + 1)) (xs (i + 2)) hHT kA_b hG (by omega)) cb_X9_soon ml_L_119 im_X9_soon se_X9_soon hHT rfl rfl (rest := []) rfl (Nat.le_of_ble_eq_true rfl) ⟨Nat.le_of_ble_eq_true rfl, Nat.le_of_ble_eq_true rfl⟩ (by omega) (by omega) (fun r σ11181 hp => ?_)
  obtain ⟨h11182, x11183, rfl⟩ := hp
  have h11184 := h11182.1
  have h11185 := hHR.keepL (fun a ha _ => h11182.2 a (by rw [show kA _ a = 0 from ha]; decide))
  have h11186 := (h11182.2 (b + 1480) (by rw [show kA _ (b + 1480) = 0 from kA_o]; decide)).trans hout
  have br11188 := hBr.of (h11182.2 (b + 1457 + 1) (by rw [show kA _ (b + 1457 + 1) = 0 from kA_big (by omega)]; decide))
  have by11187 := hBy.keep (h11182.2 (b + 1) (by rw [show kA _ (b + 1) = 2 from kA_t]; decide))
  refine m_pop2_2 F rfl e_L_law_1041 ?_
  refine m_aload_n F rfl e_L_law_1042 ?_
  refine m_aload_n F rfl e_L_law_1043 ?_
  refine m_iload F rfl e_L_law_1044 ?_
  refine m_iconst F (v := 1) (by decide) e_L_law_1046 ?_
  refine m_iadd F e_L_law_1047 ?_
  refine Wm.topE (w := nI (i + 1)) (nI_add i 1) ?_
  refine m_sld F (j := i + 1) e_L_law_1048 hX hb (nI_clamp (by omega)) (vp_in_nI (by omega) (by omega)) ?_
  refine m_aload_n F rfl e_L_law_1049 ?_
  refine m_iload F rfl e_L_law_1050 ?_
  refine m_iconst F (v := 2) (by decide) e_L_law_1052 ?_
  refine m_iadd F e_L_law_1053 ?_
  refine Wm.topE (w := nI (i + 2)) (nI_add i 2) ?_
  refine m_sld F (j := i + 2) e_L_law_1054 hX hb (nI_clamp (by omega)) (vp_in_nI (by omega) (by omega)) ?_
  refine l_callM F e_L_law_1055 (q_X10_soon (x_l X) V (b + 1457) T 1 u h P L0_ _ _ (xs (i + 1)) (xs (i + 2)) h11185 hok hP ) cb_X10_soon ml_L_122 im_X10_soon se_X10_soon h11185 rfl rfl (rest := []) rfl (Nat.le_of_ble_eq_true rfl) ⟨Nat.le_of_ble_eq_true rfl, Nat.le_of_ble_eq_true rfl⟩ (by omega) (by omega) (fun r σ11189 hp => ?_)
  obtain ⟨h11190, x11191, rfl⟩ := hp
  have h11192 := h11190.1
  have h11193 := h11184.keepM (fun a ha => h11190.2 a (by rw [ha]; decide))
  have h11194 := (h11190.2 (b + 1480) (by rw [kC_0 (c := b + 1457) (by omega)]; decide)).trans h11186
  have by11195 := by11187.keep (h11190.2 (b + 1) (by rw [kC_0 (c := b + 1457) (by omega)]; decide))
  have br11196 := br11188.of (h11190.2 (b + 1457 + 1) (by rw [kC_at (k := 1) (by decide)]; decide))
  refine m_pop2_2 F rfl e_L_law_1058 ?_
  refine m_goto F e_L_law_1059 ?_
  exact hN _ (M + 648) T _ _ _ (by omega) (by omega) (by omega) ⟨by omega, G, hG, h11193, ⟨_, h11194⟩, u, h, P, L0_, ⟨hu, hh, hP, hkk, hm0, hw0, hok⟩, h11192, hNg, _, by11195, br11196⟩
set_option maxRecDepth 20000 in
theorem lc_23 {V : VX} {X : MX} {nm : String} {b sb N k z i L M T : Nat} {xs : Nat → Int32} {σ : Mem} (F : Fx V X (yLw nm) cL_law 7 ret room_1) (hX : va_X sb L xs (x_s X) V.2.2) (hb : sb < V.2.2.size) (hl : (x_l X).stackTraces = false) (hi : i + 6 ≤ L) (hL : L ≤ 3072) (hk : k ≤ 2100) (hz : z ≤ 80000) (hM : M ≤ 10000000) (hI : IV V b M T σ) (hN : ∀ (N' M' T' : Nat) (σ' : Mem) (k' z' : Nat), k' ≤ k + 1 → z' ≤ z + 6 → M' ≤ M + 10000 → IV V b M' T' σ' → Wm V X 7 N' σ' k' z' 1745 [(4, .int (nI i)), (3, .ref (b + 1480)), (2, .ref (b + 1457)), (1, .ref b), (0, .ref sb)] []) : Wm V X 7 N σ k z 1062 [(4, .int (nI i)), (3, .ref (b + 1480)), (2, .ref (b + 1457)), (1, .ref b), (0, .ref sb)] [] := by
  obtain ⟨hT, G, hG, hHT, ⟨z0, hout⟩, u, h, P, L0_, ⟨hu, hh, hP, hkk, hm0, hw0, hok⟩, hHR, hNg, t, hBy, hBr⟩ := hI
  refine m_aload_n F rfl e_L_law_1062 ?_
  refine m_aload_n F rfl e_L_law_1063 ?_
  refine m_iload F rfl e_L_law_1064 ?_
  refine m_iconst F (v := 1) (by decide) e_L_law_1066 ?_
  refine m_iadd F e_L_law_1067 ?_
  refine Wm.topE (w := nI (i + 1)) (nI_add i 1) ?_
  refine m_sld F (j := i + 1) e_L_law_1068 hX hb (nI_clamp (by omega)) (vp_in_nI (by omega) (by omega)) ?_
  refine m_aload_n F rfl e_L_law_1069 ?_
  refine m_iload F rfl e_L_law_1070 ?_
  refine m_iconst F (v := 2) (by decide) e_L_law_1072 ?_
  refine m_iadd F e_L_law_1073 ?_
  refine Wm.topE (w := nI (i + 2)) (nI_add i 2) ?_
  refine m_sld F (j := i + 2) e_L_law_1074 hX hb (nI_clamp (by omega)) (vp_in_nI (by omega) (by omega)) ?_
  refine l_callC F e_L_law_1075 (s_X9_sum (x_l X) V G b M 1 T _ _ b (xs (i + 1)) (xs (i + 2)) hHT kA_b hG (by omega)) cb_X9_sum ml_L_123 im_X9_sum se_X9_sum hHT rfl rfl (rest := []) rfl (Nat.le_of_ble_eq_true rfl) ⟨Nat.le_of_ble_eq_true rfl, Nat.le_of_ble_eq_true rfl⟩ (by omega) (by omega) (fun r σ11197 hp => ?_)
  obtain ⟨h11198, x11199, rfl⟩ := hp
  have h11200 := h11198.1
  have h11201 := hHR.keepL (fun a ha _ => h11198.2 a (by rw [show kA _ a = 0 from ha]; decide))
  have h11202 := (h11198.2 (b + 1480) (by rw [show kA _ (b + 1480) = 0 from kA_o]; decide)).trans hout
  have br11204 := hBr.of (h11198.2 (b + 1457 + 1) (by rw [show kA _ (b + 1457 + 1) = 0 from kA_big (by omega)]; decide))
  have by11203 := hBy.keep (h11198.2 (b + 1) (by rw [show kA _ (b + 1) = 2 from kA_t]; decide))
  refine m_pop2_2 F rfl e_L_law_1078 ?_
  refine m_aload_n F rfl e_L_law_1079 ?_
  refine m_aload_n F rfl e_L_law_1080 ?_
  refine m_iload F rfl e_L_law_1081 ?_
  refine m_iconst F (v := 1) (by decide) e_L_law_1083 ?_
  refine m_iadd F e_L_law_1084 ?_
  refine Wm.topE (w := nI (i + 1)) (nI_add i 1) ?_
  refine m_sld F (j := i + 1) e_L_law_1085 hX hb (nI_clamp (by omega)) (vp_in_nI (by omega) (by omega)) ?_
  refine m_aload_n F rfl e_L_law_1086 ?_
  refine m_iload F rfl e_L_law_1087 ?_
  refine m_iconst F (v := 2) (by decide) e_L_law_1089 ?_
  refine m_iadd F e_L_law_1090 ?_
  refine Wm.topE (w := nI (i + 2)) (nI_add i 2) ?_
  refine m_sld F (j := i + 2) e_L_law_1091 hX hb (nI_clamp (by omega)) (vp_in_nI (by omega) (by omega)) ?_
  refine l_callM F e_L_law_1092 (q_X10_sum (x_l X) V (b + 1457) T 1 u h P L0_ _ _ (xs (i + 1)) (xs (i + 2)) h11201 hok.b hP ) cb_X10_sum ml_L_126 im_X10_sum se_X10_sum h11201 rfl rfl (rest := []) rfl (Nat.le_of_ble_eq_true rfl) ⟨Nat.le_of_ble_eq_true rfl, Nat.le_of_ble_eq_true rfl⟩ (by omega) (by omega) (fun r σ11205 hp => ?_)
  obtain ⟨h11206, x11207, rfl⟩ := hp
  have h11208 := h11206.1
  have h11209 := h11200.keepM (fun a ha => h11206.2 a (by rw [ha]; decide))
  have h11210 := (h11206.2 (b + 1480) (by rw [kC_0 (c := b + 1457) (by omega)]; decide)).trans h11202
  have by11211 := by11203.keep (h11206.2 (b + 1) (by rw [kC_0 (c := b + 1457) (by omega)]; decide))
  have br11212 := br11204.of (h11206.2 (b + 1457 + 1) (by rw [kC_at (k := 1) (by decide)]; decide))
  refine m_pop2_2 F rfl e_L_law_1095 ?_
  refine m_goto F e_L_law_1096 ?_
  exact hN _ M T _ _ _ (by omega) (by omega) (by omega) ⟨by omega, G, hG, h11209, ⟨_, h11210⟩, u, h, P, L0_, ⟨hu, hh, hP, hkk, hm0, hw0, hok⟩, h11208, hNg, _, by11211, br11212⟩
set_option maxRecDepth 20000 in
theorem lc_24 {V : VX} {X : MX} {nm : String} {b sb N k z i L M T : Nat} {xs : Nat → Int32} {σ : Mem} (F : Fx V X (yLw nm) cL_law 7 ret room_1) (hX : va_X sb L xs (x_s X) V.2.2) (hb : sb < V.2.2.size) (hl : (x_l X).stackTraces = false) (hi : i + 6 ≤ L) (hL : L ≤ 3072) (hk : k ≤ 2100) (hz : z ≤ 80000) (hM : M ≤ 10000000) (hI : IV V b M T σ) (hN : ∀ (N' M' T' : Nat) (σ' : Mem) (k' z' : Nat), k' ≤ k + 1 → z' ≤ z + 6 → M' ≤ M + 10000 → IV V b M' T' σ' → Wm V X 7 N' σ' k' z' 1745 [(4, .int (nI i)), (3, .ref (b + 1480)), (2, .ref (b + 1457)), (1, .ref b), (0, .ref sb)] []) : Wm V X 7 N σ k z 1099 [(4, .int (nI i)), (3, .ref (b + 1480)), (2, .ref (b + 1457)), (1, .ref b), (0, .ref sb)] [] := by
  obtain ⟨hT, G, hG, hHT, ⟨z0, hout⟩, u, h, P, L0_, ⟨hu, hh, hP, hkk, hm0, hw0, hok⟩, hHR, hNg, t, hBy, hBr⟩ := hI
  refine m_aload_n F rfl e_L_law_1099 ?_
  refine m_aload_n F rfl e_L_law_1100 ?_
  refine m_iload F rfl e_L_law_1101 ?_
  refine m_iconst F (v := 1) (by decide) e_L_law_1103 ?_
  refine m_iadd F e_L_law_1104 ?_
  refine Wm.topE (w := nI (i + 1)) (nI_add i 1) ?_
  refine m_sld F (j := i + 1) e_L_law_1105 hX hb (nI_clamp (by omega)) (vp_in_nI (by omega) (by omega)) ?_
  refine m_aload_n F rfl e_L_law_1106 ?_
  refine m_iload F rfl e_L_law_1107 ?_
  refine m_iconst F (v := 2) (by decide) e_L_law_1109 ?_
  refine m_iadd F e_L_law_1110 ?_
  refine Wm.topE (w := nI (i + 2)) (nI_add i 2) ?_
  refine m_sld F (j := i + 2) e_L_law_1111 hX hb (nI_clamp (by omega)) (vp_in_nI (by omega) (by omega)) ?_
  refine l_callC F e_L_law_1112 (s_X9_moved (x_l X) V G b M 1 T _ _ b (xs (i + 1)) (xs (i + 2)) hHT kA_b hG (by omega)) cb_X9_moved ml_L_127 im_X9_moved se_X9_moved hHT rfl rfl (rest := []) rfl (Nat.le_of_ble_eq_true rfl) ⟨Nat.le_of_ble_eq_true rfl, Nat.le_of_ble_eq_true rfl⟩ (by omega) (by omega) (fun r σ11213 hp => ?_)
  obtain ⟨h11214, x11215, rfl⟩ := hp
  have h11216 := h11214.1
  have h11217 := hHR.keepL (fun a ha _ => h11214.2 a (by rw [show kA _ a = 0 from ha]; decide))
  have h11218 := (h11214.2 (b + 1480) (by rw [show kA _ (b + 1480) = 0 from kA_o]; decide)).trans hout
  have br11220 := hBr.of (h11214.2 (b + 1457 + 1) (by rw [show kA _ (b + 1457 + 1) = 0 from kA_big (by omega)]; decide))
  have by11219 := hBy.keep (h11214.2 (b + 1) (by rw [show kA _ (b + 1) = 2 from kA_t]; decide))
  refine m_pop2_2 F rfl e_L_law_1115 ?_
  refine m_aload_n F rfl e_L_law_1116 ?_
  refine m_aload_n F rfl e_L_law_1117 ?_
  refine m_iload F rfl e_L_law_1118 ?_
  refine m_iconst F (v := 1) (by decide) e_L_law_1120 ?_
  refine m_iadd F e_L_law_1121 ?_
  refine Wm.topE (w := nI (i + 1)) (nI_add i 1) ?_
  refine m_sld F (j := i + 1) e_L_law_1122 hX hb (nI_clamp (by omega)) (vp_in_nI (by omega) (by omega)) ?_
  refine m_aload_n F rfl e_L_law_1123 ?_
  refine m_iload F rfl e_L_law_1124 ?_
  refine m_iconst F (v := 2) (by decide) e_L_law_1126 ?_
  refine m_iadd F e_L_law_1127 ?_
  refine Wm.topE (w := nI (i + 2)) (nI_add i 2) ?_
  refine m_sld F (j := i + 2) e_L_law_1128 hX hb (nI_clamp (by omega)) (vp_in_nI (by omega) (by omega)) ?_
  refine l_callM F e_L_law_1129 (q_X10_moved (x_l X) V (b + 1457) T 1 u h P L0_ _ _ (xs (i + 1)) (xs (i + 2)) h11217 hok.b hP ) cb_X10_moved ml_L_130 im_X10_moved se_X10_moved h11217 rfl rfl (rest := []) rfl (Nat.le_of_ble_eq_true rfl) ⟨Nat.le_of_ble_eq_true rfl, Nat.le_of_ble_eq_true rfl⟩ (by omega) (by omega) (fun r σ11221 hp => ?_)
  obtain ⟨h11222, x11223, rfl⟩ := hp
  have h11224 := h11222.1
  have h11225 := h11216.keepM (fun a ha => h11222.2 a (by rw [ha]; decide))
  have h11226 := (h11222.2 (b + 1480) (by rw [kC_0 (c := b + 1457) (by omega)]; decide)).trans h11218
  have by11227 := by11219.keep (h11222.2 (b + 1) (by rw [kC_0 (c := b + 1457) (by omega)]; decide))
  have br11228 := br11220.of (h11222.2 (b + 1457 + 1) (by rw [kC_at (k := 1) (by decide)]; decide))
  refine m_pop2_2 F rfl e_L_law_1132 ?_
  refine m_goto F e_L_law_1133 ?_
  exact hN _ M T _ _ _ (by omega) (by omega) (by omega) ⟨by omega, G, hG, h11225, ⟨_, h11226⟩, u, h, P, L0_, ⟨hu, hh, hP, hkk, hm0, hw0, hok⟩, h11224, hNg, _, by11227, br11228⟩
set_option maxRecDepth 20000 in
theorem lc_25 {V : VX} {X : MX} {nm : String} {b sb N k z i L M T : Nat} {xs : Nat → Int32} {σ : Mem} (F : Fx V X (yLw nm) cL_law 7 ret room_1) (hX : va_X sb L xs (x_s X) V.2.2) (hb : sb < V.2.2.size) (hl : (x_l X).stackTraces = false) (hi : i + 6 ≤ L) (hL : L ≤ 3072) (hk : k ≤ 2100) (hz : z ≤ 80000) (hM : M ≤ 10000000) (hI : IV V b M T σ) (hN : ∀ (N' M' T' : Nat) (σ' : Mem) (k' z' : Nat), k' ≤ k + 1 → z' ≤ z + 6 → M' ≤ M + 10000 → IV V b M' T' σ' → Wm V X 7 N' σ' k' z' 1745 [(4, .int (nI i)), (3, .ref (b + 1480)), (2, .ref (b + 1457)), (1, .ref b), (0, .ref sb)] []) : Wm V X 7 N σ k z 1136 [(4, .int (nI i)), (3, .ref (b + 1480)), (2, .ref (b + 1457)), (1, .ref b), (0, .ref sb)] [] := by
  obtain ⟨hT, G, hG, hHT, ⟨z0, hout⟩, u, h, P, L0_, ⟨hu, hh, hP, hkk, hm0, hw0, hok⟩, hHR, hNg, t, hBy, hBr⟩ := hI
  refine m_aload_n F rfl e_L_law_1136 ?_
  refine m_aload_n F rfl e_L_law_1137 ?_
  refine m_iload F rfl e_L_law_1138 ?_
  refine m_iconst F (v := 1) (by decide) e_L_law_1140 ?_
  refine m_iadd F e_L_law_1141 ?_
  refine Wm.topE (w := nI (i + 1)) (nI_add i 1) ?_
  refine m_sld F (j := i + 1) e_L_law_1142 hX hb (nI_clamp (by omega)) (vp_in_nI (by omega) (by omega)) ?_
  refine l_callC F e_L_law_1143 (s_X9_choose (x_l X) V G b M 1 T _ _ b (xs (i + 1)) hHT kA_b hG (by omega)) cb_X9_choose ml_L_131 im_X9_choose se_X9_choose hHT rfl rfl (rest := []) rfl (Nat.le_of_ble_eq_true rfl) ⟨Nat.le_of_ble_eq_true rfl, Nat.le_of_ble_eq_true rfl⟩ (by omega) (by omega) (fun r σ11229 hp => ?_)
  obtain ⟨h11230, x11231, rfl⟩ := hp
  have h11232 := h11230.1
  have h11233 := hHR.keepL (fun a ha _ => h11230.2 a (by rw [show kA _ a = 0 from ha]; decide))
  have h11234 := (h11230.2 (b + 1480) (by rw [show kA _ (b + 1480) = 0 from kA_o]; decide)).trans hout
  have br11236 := hBr.of (h11230.2 (b + 1457 + 1) (by rw [show kA _ (b + 1457 + 1) = 0 from kA_big (by omega)]; decide))
  have by11235 := hBy.keep (h11230.2 (b + 1) (by rw [show kA _ (b + 1) = 2 from kA_t]; decide))
  refine m_pop F rfl e_L_law_1146 ?_
  refine m_aload_n F rfl e_L_law_1147 ?_
  refine m_aload_n F rfl e_L_law_1148 ?_
  refine m_iload F rfl e_L_law_1149 ?_
  refine m_iconst F (v := 1) (by decide) e_L_law_1151 ?_
  refine m_iadd F e_L_law_1152 ?_
  refine Wm.topE (w := nI (i + 1)) (nI_add i 1) ?_
  refine m_sld F (j := i + 1) e_L_law_1153 hX hb (nI_clamp (by omega)) (vp_in_nI (by omega) (by omega)) ?_
  refine l_callM F e_L_law_1154 (q_X10_choose (x_l X) V (b + 1457) T 1 u h P L0_ _ _ (xs (i + 1)) h11233 hok hP ) cb_X10_choose ml_L_134 im_X10_choose se_X10_choose h11233 rfl rfl (rest := []) rfl (Nat.le_of_ble_eq_true rfl) ⟨Nat.le_of_ble_eq_true rfl, Nat.le_of_ble_eq_true rfl⟩ (by omega) (by omega) (fun r σ11237 hp => ?_)
  obtain ⟨h11238, x11239, rfl⟩ := hp
  have h11240 := h11238.1
  have h11241 := h11232.keepM (fun a ha => h11238.2 a (by rw [ha]; decide))
  have h11242 := (h11238.2 (b + 1480) (by rw [kC_0 (c := b + 1457) (by omega)]; decide)).trans h11234
  have by11243 := by11235.keep (h11238.2 (b + 1) (by rw [kC_0 (c := b + 1457) (by omega)]; decide))
  have br11244 := br11236.of (h11238.2 (b + 1457 + 1) (by rw [kC_at (k := 1) (by decide)]; decide))
  refine m_pop F rfl e_L_law_1157 ?_
  refine m_goto F e_L_law_1158 ?_
  exact hN _ M T _ _ _ (by omega) (by omega) (by omega) ⟨by omega, G, hG, h11241, ⟨_, h11242⟩, u, h, P, L0_, ⟨hu, hh, hP, hkk, hm0, hw0, hok⟩, h11240, hNg, _, by11243, br11244⟩
set_option maxRecDepth 20000 in
theorem lc_26 {V : VX} {X : MX} {nm : String} {b sb N k z i L M T : Nat} {xs : Nat → Int32} {σ : Mem} (F : Fx V X (yLw nm) cL_law 7 ret room_1) (hX : va_X sb L xs (x_s X) V.2.2) (hb : sb < V.2.2.size) (hl : (x_l X).stackTraces = false) (hi : i + 6 ≤ L) (hL : L ≤ 3072) (hk : k ≤ 2100) (hz : z ≤ 80000) (hM : M ≤ 10000000) (hI : IV V b M T σ) (hN : ∀ (N' M' T' : Nat) (σ' : Mem) (k' z' : Nat), k' ≤ k + 1 → z' ≤ z + 6 → M' ≤ M + 10000 → IV V b M' T' σ' → Wm V X 7 N' σ' k' z' 1745 [(4, .int (nI i)), (3, .ref (b + 1480)), (2, .ref (b + 1457)), (1, .ref b), (0, .ref sb)] []) : Wm V X 7 N σ k z 1161 [(4, .int (nI i)), (3, .ref (b + 1480)), (2, .ref (b + 1457)), (1, .ref b), (0, .ref sb)] [] := by
  obtain ⟨hT, G, hG, hHT, ⟨z0, hout⟩, u, h, P, L0_, ⟨hu, hh, hP, hkk, hm0, hw0, hok⟩, hHR, hNg, t, hBy, hBr⟩ := hI
  refine m_aload_n F rfl e_L_law_1161 ?_
  refine m_aload_n F rfl e_L_law_1162 ?_
  refine m_iload F rfl e_L_law_1163 ?_
  refine m_iconst F (v := 1) (by decide) e_L_law_1165 ?_
  refine m_iadd F e_L_law_1166 ?_
  refine Wm.topE (w := nI (i + 1)) (nI_add i 1) ?_
  refine m_sld F (j := i + 1) e_L_law_1167 hX hb (nI_clamp (by omega)) (vp_in_nI (by omega) (by omega)) ?_
  refine m_aload_n F rfl e_L_law_1168 ?_
  refine m_iload F rfl e_L_law_1169 ?_
  refine m_iconst F (v := 2) (by decide) e_L_law_1171 ?_
  refine m_iadd F e_L_law_1172 ?_
  refine Wm.topE (w := nI (i + 2)) (nI_add i 2) ?_
  refine m_sld F (j := i + 2) e_L_law_1173 hX hb (nI_clamp (by omega)) (vp_in_nI (by omega) (by omega)) ?_
  refine m_if_eq F e_L_law_1174 (fun q1174 => ?_) (fun q1174 => ?_)
  · refine m_iconst F (v := 0) (by decide) e_L_law_1181 ?_
    refine l_callC F e_L_law_1182 (s_X9_life (x_l X) V G b M 1 T _ _ b (xs (i + 1)) 0 hHT kA_b (by omega) hG (by omega)) cb_X9_life ml_L_135 im_X9_life se_X9_life hHT rfl rfl (rest := []) rfl (Nat.le_of_ble_eq_true rfl) ⟨Nat.le_of_ble_eq_true rfl, Nat.le_of_ble_eq_true rfl⟩ (by omega) (by omega) (fun r σ11245 hp => ?_)
    obtain ⟨h11246, x11247, rfl⟩ := hp
    have h11248 := h11246.1
    have h11249 := hHR.keepL (fun a ha _ => h11246.2 a (by rw [show kA _ a = 0 from ha]; decide))
    have h11250 := (h11246.2 (b + 1480) (by rw [show kA _ (b + 1480) = 0 from kA_o]; decide)).trans hout
    have br11252 := hBr.of (h11246.2 (b + 1457 + 1) (by rw [show kA _ (b + 1457 + 1) = 0 from kA_big (by omega)]; decide))
    have by11251 := hBy.keep (h11246.2 (b + 1) (by rw [show kA _ (b + 1) = 2 from kA_t]; decide))
    refine m_pop2_2 F rfl e_L_law_1185 ?_
    refine m_aload_n F rfl e_L_law_1186 ?_
    refine m_aload_n F rfl e_L_law_1187 ?_
    refine m_iload F rfl e_L_law_1188 ?_
    refine m_iconst F (v := 1) (by decide) e_L_law_1190 ?_
    refine m_iadd F e_L_law_1191 ?_
    refine Wm.topE (w := nI (i + 1)) (nI_add i 1) ?_
    refine m_sld F (j := i + 1) e_L_law_1192 hX hb (nI_clamp (by omega)) (vp_in_nI (by omega) (by omega)) ?_
    refine m_aload_n F rfl e_L_law_1193 ?_
    refine m_iload F rfl e_L_law_1194 ?_
    refine m_iconst F (v := 2) (by decide) e_L_law_1196 ?_
    refine m_iadd F e_L_law_1197 ?_
    refine Wm.topE (w := nI (i + 2)) (nI_add i 2) ?_
    refine m_sld F (j := i + 2) e_L_law_1198 hX hb (nI_clamp (by omega)) (vp_in_nI (by omega) (by omega)) ?_
    refine m_if_eq F e_L_law_1199 (fun q1199 => ?_) (fun q1199 => ?_)
    · refine m_iconst F (v := 0) (by decide) e_L_law_1206 ?_
      refine l_callM F e_L_law_1207 (q_X10_life (x_l X) V (b + 1457) T 1 u h P L0_ _ _ (xs (i + 1)) 0 h11249 hok.b hP ) cb_X10_life ml_L_139 im_X10_life se_X10_life h11249 rfl rfl (rest := []) rfl (Nat.le_of_ble_eq_true rfl) ⟨Nat.le_of_ble_eq_true rfl, Nat.le_of_ble_eq_true rfl⟩ (by omega) (by omega) (fun r σ11253 hp => ?_)
      obtain ⟨h11254, x11255, rfl⟩ := hp
      have h11256 := h11254.1
      have h11257 := h11248.keepM (fun a ha => h11254.2 a (by rw [ha]; decide))
      have h11258 := (h11254.2 (b + 1480) (by rw [kC_0 (c := b + 1457) (by omega)]; decide)).trans h11250
      have by11259 := by11251.keep (h11254.2 (b + 1) (by rw [kC_0 (c := b + 1457) (by omega)]; decide))
      have br11260 := br11252.of (h11254.2 (b + 1457 + 1) (by rw [kC_at (k := 1) (by decide)]; decide))
      refine m_pop2_2 F rfl e_L_law_1210 ?_
      refine m_goto F e_L_law_1211 ?_
      exact hN _ M T _ _ _ (by omega) (by omega) (by omega) ⟨by omega, G, hG, h11257, ⟨_, h11258⟩, u, h, P, L0_, ⟨hu, hh, hP, hkk, hm0, hw0, hok⟩, h11256, hNg, _, by11259, br11260⟩
    · refine m_iconst F (v := 1) (by decide) e_L_law_1202 ?_
      refine m_goto F e_L_law_1203 ?_
      refine l_callM F e_L_law_1207 (q_X10_life (x_l X) V (b + 1457) T 1 u h P L0_ _ _ (xs (i + 1)) 1 h11249 hok.b hP ) cb_X10_life ml_L_139 im_X10_life se_X10_life h11249 rfl rfl (rest := []) rfl (Nat.le_of_ble_eq_true rfl) ⟨Nat.le_of_ble_eq_true rfl, Nat.le_of_ble_eq_true rfl⟩ (by omega) (by omega) (fun r σ11261 hp => ?_)
      obtain ⟨h11262, x11263, rfl⟩ := hp
      have h11264 := h11262.1
      have h11265 := h11248.keepM (fun a ha => h11262.2 a (by rw [ha]; decide))
      have h11266 := (h11262.2 (b + 1480) (by rw [kC_0 (c := b + 1457) (by omega)]; decide)).trans h11250
      have by11267 := by11251.keep (h11262.2 (b + 1) (by rw [kC_0 (c := b + 1457) (by omega)]; decide))
      have br11268 := br11252.of (h11262.2 (b + 1457 + 1) (by rw [kC_at (k := 1) (by decide)]; decide))
      refine m_pop2_2 F rfl e_L_law_1210 ?_
      refine m_goto F e_L_law_1211 ?_
      exact hN _ M T _ _ _ (by omega) (by omega) (by omega) ⟨by omega, G, hG, h11265, ⟨_, h11266⟩, u, h, P, L0_, ⟨hu, hh, hP, hkk, hm0, hw0, hok⟩, h11264, hNg, _, by11267, br11268⟩
  · refine m_iconst F (v := 1) (by decide) e_L_law_1177 ?_
    refine m_goto F e_L_law_1178 ?_
    refine l_callC F e_L_law_1182 (s_X9_life (x_l X) V G b M 1 T _ _ b (xs (i + 1)) 1 hHT kA_b (by omega) hG (by omega)) cb_X9_life ml_L_135 im_X9_life se_X9_life hHT rfl rfl (rest := []) rfl (Nat.le_of_ble_eq_true rfl) ⟨Nat.le_of_ble_eq_true rfl, Nat.le_of_ble_eq_true rfl⟩ (by omega) (by omega) (fun r σ11269 hp => ?_)
    obtain ⟨h11270, x11271, rfl⟩ := hp
    have h11272 := h11270.1
    have h11273 := hHR.keepL (fun a ha _ => h11270.2 a (by rw [show kA _ a = 0 from ha]; decide))
    have h11274 := (h11270.2 (b + 1480) (by rw [show kA _ (b + 1480) = 0 from kA_o]; decide)).trans hout
    have br11276 := hBr.of (h11270.2 (b + 1457 + 1) (by rw [show kA _ (b + 1457 + 1) = 0 from kA_big (by omega)]; decide))
    have by11275 := hBy.keep (h11270.2 (b + 1) (by rw [show kA _ (b + 1) = 2 from kA_t]; decide))
    refine m_pop2_2 F rfl e_L_law_1185 ?_
    refine m_aload_n F rfl e_L_law_1186 ?_
    refine m_aload_n F rfl e_L_law_1187 ?_
    refine m_iload F rfl e_L_law_1188 ?_
    refine m_iconst F (v := 1) (by decide) e_L_law_1190 ?_
    refine m_iadd F e_L_law_1191 ?_
    refine Wm.topE (w := nI (i + 1)) (nI_add i 1) ?_
    refine m_sld F (j := i + 1) e_L_law_1192 hX hb (nI_clamp (by omega)) (vp_in_nI (by omega) (by omega)) ?_
    refine m_aload_n F rfl e_L_law_1193 ?_
    refine m_iload F rfl e_L_law_1194 ?_
    refine m_iconst F (v := 2) (by decide) e_L_law_1196 ?_
    refine m_iadd F e_L_law_1197 ?_
    refine Wm.topE (w := nI (i + 2)) (nI_add i 2) ?_
    refine m_sld F (j := i + 2) e_L_law_1198 hX hb (nI_clamp (by omega)) (vp_in_nI (by omega) (by omega)) ?_
    refine m_if_eq F e_L_law_1199 (fun q1199 => ?_) (fun q1199 => ?_)
    · refine m_iconst F (v := 0) (by decide) e_L_law_1206 ?_
      refine l_callM F e_L_law_1207 (q_X10_life (x_l X) V (b + 1457) T 1 u h P L0_ _ _ (xs (i + 1)) 0 h11273 hok.b hP ) cb_X10_life ml_L_139 im_X10_life se_X10_life h11273 rfl rfl (rest := []) rfl (Nat.le_of_ble_eq_true rfl) ⟨Nat.le_of_ble_eq_true rfl, Nat.le_of_ble_eq_true rfl⟩ (by omega) (by omega) (fun r σ11277 hp => ?_)
      obtain ⟨h11278, x11279, rfl⟩ := hp
      have h11280 := h11278.1
      have h11281 := h11272.keepM (fun a ha => h11278.2 a (by rw [ha]; decide))
      have h11282 := (h11278.2 (b + 1480) (by rw [kC_0 (c := b + 1457) (by omega)]; decide)).trans h11274
      have by11283 := by11275.keep (h11278.2 (b + 1) (by rw [kC_0 (c := b + 1457) (by omega)]; decide))
      have br11284 := br11276.of (h11278.2 (b + 1457 + 1) (by rw [kC_at (k := 1) (by decide)]; decide))
      refine m_pop2_2 F rfl e_L_law_1210 ?_
      refine m_goto F e_L_law_1211 ?_
      exact hN _ M T _ _ _ (by omega) (by omega) (by omega) ⟨by omega, G, hG, h11281, ⟨_, h11282⟩, u, h, P, L0_, ⟨hu, hh, hP, hkk, hm0, hw0, hok⟩, h11280, hNg, _, by11283, br11284⟩
    · refine m_iconst F (v := 1) (by decide) e_L_law_1202 ?_
      refine m_goto F e_L_law_1203 ?_
      refine l_callM F e_L_law_1207 (q_X10_life (x_l X) V (b + 1457) T 1 u h P L0_ _ _ (xs (i + 1)) 1 h11273 hok.b hP ) cb_X10_life ml_L_139 im_X10_life se_X10_life h11273 rfl rfl (rest := []) rfl (Nat.le_of_ble_eq_true rfl) ⟨Nat.le_of_ble_eq_true rfl, Nat.le_of_ble_eq_true rfl⟩ (by omega) (by omega) (fun r σ11285 hp => ?_)
      obtain ⟨h11286, x11287, rfl⟩ := hp
      have h11288 := h11286.1
      have h11289 := h11272.keepM (fun a ha => h11286.2 a (by rw [ha]; decide))
      have h11290 := (h11286.2 (b + 1480) (by rw [kC_0 (c := b + 1457) (by omega)]; decide)).trans h11274
      have by11291 := by11275.keep (h11286.2 (b + 1) (by rw [kC_0 (c := b + 1457) (by omega)]; decide))
      have br11292 := br11276.of (h11286.2 (b + 1457 + 1) (by rw [kC_at (k := 1) (by decide)]; decide))
      refine m_pop2_2 F rfl e_L_law_1210 ?_
      refine m_goto F e_L_law_1211 ?_
      exact hN _ M T _ _ _ (by omega) (by omega) (by omega) ⟨by omega, G, hG, h11289, ⟨_, h11290⟩, u, h, P, L0_, ⟨hu, hh, hP, hkk, hm0, hw0, hok⟩, h11288, hNg, _, by11291, br11292⟩
set_option maxRecDepth 20000 in
theorem lc_27 {V : VX} {X : MX} {nm : String} {b sb N k z i L M T : Nat} {xs : Nat → Int32} {σ : Mem} (F : Fx V X (yLw nm) cL_law 7 ret room_1) (hX : va_X sb L xs (x_s X) V.2.2) (hb : sb < V.2.2.size) (hl : (x_l X).stackTraces = false) (hi : i + 6 ≤ L) (hL : L ≤ 3072) (hk : k ≤ 2100) (hz : z ≤ 80000) (hM : M ≤ 10000000) (hI : IV V b M T σ) (hN : ∀ (N' M' T' : Nat) (σ' : Mem) (k' z' : Nat), k' ≤ k + 1 → z' ≤ z + 6 → M' ≤ M + 10000 → IV V b M' T' σ' → Wm V X 7 N' σ' k' z' 1745 [(4, .int (nI i)), (3, .ref (b + 1480)), (2, .ref (b + 1457)), (1, .ref b), (0, .ref sb)] []) : Wm V X 7 N σ k z 1214 [(4, .int (nI i)), (3, .ref (b + 1480)), (2, .ref (b + 1457)), (1, .ref b), (0, .ref sb)] [] := by
  obtain ⟨hT, G, hG, hHT, ⟨z0, hout⟩, u, h, P, L0_, ⟨hu, hh, hP, hkk, hm0, hw0, hok⟩, hHR, hNg, t, hBy, hBr⟩ := hI
  refine m_aload_n F rfl e_L_law_1214 ?_
  refine m_aload_n F rfl e_L_law_1215 ?_
  refine m_iload F rfl e_L_law_1216 ?_
  refine m_iconst F (v := 1) (by decide) e_L_law_1218 ?_
  refine m_iadd F e_L_law_1219 ?_
  refine Wm.topE (w := nI (i + 1)) (nI_add i 1) ?_
  refine m_sld F (j := i + 1) e_L_law_1220 hX hb (nI_clamp (by omega)) (vp_in_nI (by omega) (by omega)) ?_
  refine l_callC F e_L_law_1221 (s_X9_peak (x_l X) V G b M 1 T _ _ b (xs (i + 1)) hHT kA_b hG (by omega)) cb_X9_peak ml_L_140 im_X9_peak se_X9_peak hHT rfl rfl (rest := []) rfl (Nat.le_of_ble_eq_true rfl) ⟨Nat.le_of_ble_eq_true rfl, Nat.le_of_ble_eq_true rfl⟩ (by omega) (by omega) (fun r σ11293 hp => ?_)
  obtain ⟨h11294, x11295, rfl⟩ := hp
  have h11296 := h11294.1
  have h11297 := hHR.keepL (fun a ha _ => h11294.2 a (by rw [show kA _ a = 0 from ha]; decide))
  have h11298 := (h11294.2 (b + 1480) (by rw [show kA _ (b + 1480) = 0 from kA_o]; decide)).trans hout
  have br11300 := hBr.of (h11294.2 (b + 1457 + 1) (by rw [show kA _ (b + 1457 + 1) = 0 from kA_big (by omega)]; decide))
  have by11299 := hBy.keep (h11294.2 (b + 1) (by rw [show kA _ (b + 1) = 2 from kA_t]; decide))
  refine m_pop2_2 F rfl e_L_law_1224 ?_
  refine m_aload_n F rfl e_L_law_1225 ?_
  refine m_aload_n F rfl e_L_law_1226 ?_
  refine m_iload F rfl e_L_law_1227 ?_
  refine m_iconst F (v := 1) (by decide) e_L_law_1229 ?_
  refine m_iadd F e_L_law_1230 ?_
  refine Wm.topE (w := nI (i + 1)) (nI_add i 1) ?_
  refine m_sld F (j := i + 1) e_L_law_1231 hX hb (nI_clamp (by omega)) (vp_in_nI (by omega) (by omega)) ?_
  refine l_callM F e_L_law_1232 (q_X10_peak (x_l X) V (b + 1457) T 1 u h P L0_ _ _ (xs (i + 1)) h11297 hok hP ) cb_X10_peak ml_L_143 im_X10_peak se_X10_peak h11297 rfl rfl (rest := []) rfl (Nat.le_of_ble_eq_true rfl) ⟨Nat.le_of_ble_eq_true rfl, Nat.le_of_ble_eq_true rfl⟩ (by omega) (by omega) (fun r σ11301 hp => ?_)
  obtain ⟨h11302, x11303, rfl⟩ := hp
  have h11304 := h11302.1
  have h11305 := h11296.keepM (fun a ha => h11302.2 a (by rw [ha]; decide))
  have h11306 := (h11302.2 (b + 1480) (by rw [kC_0 (c := b + 1457) (by omega)]; decide)).trans h11298
  have by11307 := by11299.keep (h11302.2 (b + 1) (by rw [kC_0 (c := b + 1457) (by omega)]; decide))
  have br11308 := br11300.of (h11302.2 (b + 1457 + 1) (by rw [kC_at (k := 1) (by decide)]; decide))
  refine m_pop2_2 F rfl e_L_law_1235 ?_
  refine m_goto F e_L_law_1236 ?_
  exact hN _ (M + 1296) T _ _ _ (by omega) (by omega) (by omega) ⟨by omega, G, hG, h11305, ⟨_, h11306⟩, u, h, P, L0_, ⟨hu, hh, hP, hkk, hm0, hw0, hok⟩, h11304, hNg, _, by11307, br11308⟩
