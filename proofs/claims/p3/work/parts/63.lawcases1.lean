set_option maxRecDepth 20000 in
theorem lc_0 {V : VX} {X : MX} {nm : String} {b sb N k z i L M T : Nat} {xs : Nat → Int32} {σ : Mem} (F : Fx V X (yLw nm) cL_law 7 ret room_1) (hX : va_X sb L xs (x_s X) V.2.2) (hb : sb < V.2.2.size) (hl : (x_l X).stackTraces = false) (hi : i + 6 ≤ L) (hL : L ≤ 3072) (hk : k ≤ 2100) (hz : z ≤ 80000) (hM : M ≤ 10000000) (hI : IV V b M T σ) (hN : ∀ (N' M' T' : Nat) (σ' : Mem) (k' z' : Nat), k' ≤ k + 1 → z' ≤ z + 6 → M' ≤ M + 10000 → IV V b M' T' σ' → Wm V X 7 N' σ' k' z' 1745 [(4, .int (nI i)), (3, .ref (b + 1480)), (2, .ref (b + 1457)), (1, .ref b), (0, .ref sb)] []) : Wm V X 7 N σ k z 224 [(4, .int (nI i)), (3, .ref (b + 1480)), (2, .ref (b + 1457)), (1, .ref b), (0, .ref sb)] [] := by
  obtain ⟨hT, hHT, ⟨z0, hout⟩, u, h, P, L0_, ⟨hu, hh, hP, hkk, hm0, hw0, hok⟩, hHR, t, hBy, hBr⟩ := hI
  refine m_aload_n F rfl e_L_law_224 ?_
  refine m_aload_n F rfl e_L_law_225 ?_
  refine m_iload F rfl e_L_law_226 ?_
  refine m_iconst F (v := 1) (by decide) e_L_law_228 ?_
  refine m_iadd F e_L_law_229 ?_
  refine Wm.topE (w := nI (i + 1)) (nI_add i 1) ?_
  refine m_sld F (j := i + 1) e_L_law_230 hX hb (nI_clamp (by omega)) (vp_in_nI (by omega) (by omega)) ?_
  refine m_aload_n F rfl e_L_law_231 ?_
  refine m_iload F rfl e_L_law_232 ?_
  refine m_iconst F (v := 2) (by decide) e_L_law_234 ?_
  refine m_iadd F e_L_law_235 ?_
  refine Wm.topE (w := nI (i + 2)) (nI_add i 2) ?_
  refine m_sld F (j := i + 2) e_L_law_236 hX hb (nI_clamp (by omega)) (vp_in_nI (by omega) (by omega)) ?_
  refine m_aload_n F rfl e_L_law_237 ?_
  refine m_iload F rfl e_L_law_238 ?_
  refine m_iconst F (v := 3) (by decide) e_L_law_240 ?_
  refine m_iadd F e_L_law_241 ?_
  refine Wm.topE (w := nI (i + 3)) (nI_add i 3) ?_
  refine m_sld F (j := i + 3) e_L_law_242 hX hb (nI_clamp (by omega)) (vp_in_nI (by omega) (by omega)) ?_
  refine m_aload_n F rfl e_L_law_243 ?_
  refine m_iload F rfl e_L_law_244 ?_
  refine m_iconst F (v := 4) (by decide) e_L_law_246 ?_
  refine m_iadd F e_L_law_247 ?_
  refine Wm.topE (w := nI (i + 4)) (nI_add i 4) ?_
  refine m_sld F (j := i + 4) e_L_law_248 hX hb (nI_clamp (by omega)) (vp_in_nI (by omega) (by omega)) ?_
  refine m_aload_n F rfl e_L_law_249 ?_
  refine m_iload F rfl e_L_law_250 ?_
  refine m_iconst F (v := 5) (by decide) e_L_law_252 ?_
  refine m_iadd F e_L_law_253 ?_
  refine Wm.topE (w := nI (i + 5)) (nI_add i 5) ?_
  refine m_sld F (j := i + 5) e_L_law_254 hX hb (nI_clamp (by omega)) (vp_in_nI (by omega) (by omega)) ?_
  obtain ⟨t2, ht2, hbt⟩ : ∃ t2 : Nat → Nat, (∀ i, i < T → t2 i = t i) ∧ ∀ k, k < 20 → t2 (T + k) = fb (xs (i + 1)) (xs (i + 2)) (xs (i + 3)) (xs (i + 4)) (xs (i + 5)) k := ⟨fun j9 => if j9 < T then t j9 else fb (xs (i + 1)) (xs (i + 2)) (xs (i + 3)) (xs (i + 4)) (xs (i + 5)) (j9 - T), fun i hi => if_pos hi, fun k hk => by show (if T + k < T then _ else _) = _; rw [if_neg (by omega), Nat.add_sub_cancel_left]⟩
  have hBy2 := hBy.ext ht2
  have hBr2 := hBr.ext ht2
  refine l_callC F e_L_law_255 (s_X9_feedE (x_l X) V b M 1 T _ _ b (xs (i + 1)) (xs (i + 2)) (xs (i + 3)) (xs (i + 4)) (xs (i + 5)) t2 hHT kA_b (by omega) hBy2 hbt (by omega)) cb_X9_feed ml_L_21 im_X9_feed se_X9_feed hHT rfl rfl (rest := []) rfl (Nat.le_of_ble_eq_true rfl) ⟨Nat.le_of_ble_eq_true rfl, Nat.le_of_ble_eq_true rfl⟩ (by omega) (by omega) (fun r σ10840 hp => ?_)
  rcases hp with ⟨g10842, h10841, ef, rfl⟩ | ⟨g10842, h10841, by20, rfl⟩
  · have h10843 := h10841.1
    have h10844 := hHR.keepL (fun a ha _ => h10841.2 a (by rw [show kA _ a = 0 from ha]; decide))
    have h10845 := (h10841.2 (b + 1480) (by rw [show kA _ (b + 1480) = 0 from kA_o]; decide)).trans hout
    have br10847 := hBr2.of (h10841.2 (b + 1457 + 1) (by rw [show kA _ (b + 1457 + 1) = 0 from kA_big (by omega)]; decide))
    refine m_pop F rfl e_L_law_258 ?_
    refine m_aload_n F rfl e_L_law_259 ?_
    refine m_aload_n F rfl e_L_law_260 ?_
    refine m_iload F rfl e_L_law_261 ?_
    refine m_iconst F (v := 1) (by decide) e_L_law_263 ?_
    refine m_iadd F e_L_law_264 ?_
    refine Wm.topE (w := nI (i + 1)) (nI_add i 1) ?_
    refine m_sld F (j := i + 1) e_L_law_265 hX hb (nI_clamp (by omega)) (vp_in_nI (by omega) (by omega)) ?_
    refine m_aload_n F rfl e_L_law_266 ?_
    refine m_iload F rfl e_L_law_267 ?_
    refine m_iconst F (v := 2) (by decide) e_L_law_269 ?_
    refine m_iadd F e_L_law_270 ?_
    refine Wm.topE (w := nI (i + 2)) (nI_add i 2) ?_
    refine m_sld F (j := i + 2) e_L_law_271 hX hb (nI_clamp (by omega)) (vp_in_nI (by omega) (by omega)) ?_
    refine m_aload_n F rfl e_L_law_272 ?_
    refine m_iload F rfl e_L_law_273 ?_
    refine m_iconst F (v := 3) (by decide) e_L_law_275 ?_
    refine m_iadd F e_L_law_276 ?_
    refine Wm.topE (w := nI (i + 3)) (nI_add i 3) ?_
    refine m_sld F (j := i + 3) e_L_law_277 hX hb (nI_clamp (by omega)) (vp_in_nI (by omega) (by omega)) ?_
    refine m_aload_n F rfl e_L_law_278 ?_
    refine m_iload F rfl e_L_law_279 ?_
    refine m_iconst F (v := 4) (by decide) e_L_law_281 ?_
    refine m_iadd F e_L_law_282 ?_
    refine Wm.topE (w := nI (i + 4)) (nI_add i 4) ?_
    refine m_sld F (j := i + 4) e_L_law_283 hX hb (nI_clamp (by omega)) (vp_in_nI (by omega) (by omega)) ?_
    refine m_aload_n F rfl e_L_law_284 ?_
    refine m_iload F rfl e_L_law_285 ?_
    refine m_iconst F (v := 5) (by decide) e_L_law_287 ?_
    refine m_iadd F e_L_law_288 ?_
    refine Wm.topE (w := nI (i + 5)) (nI_add i 5) ?_
    refine m_sld F (j := i + 5) e_L_law_289 hX hb (nI_clamp (by omega)) (vp_in_nI (by omega) (by omega)) ?_
    refine l_callM F e_L_law_290 (q_X10_feedE (x_l X) V (b + 1457) T 1 u h P L0_ _ _ (xs (i + 1)) (xs (i + 2)) (xs (i + 3)) (xs (i + 4)) (xs (i + 5)) t2 h10844 hok.b hP (by first | omega | assumption) br10847 hbt) cb_X10_feed ml_L_25 im_X10_feed se_X10_feed h10844 rfl rfl (rest := []) rfl (Nat.le_of_ble_eq_true rfl) ⟨Nat.le_of_ble_eq_true rfl, Nat.le_of_ble_eq_true rfl⟩ (by omega) (by omega) (fun r σ10848 hp => ?_)
    rcases hp with ⟨g10850, h10849, er, rfl⟩ | ⟨g10850, h10849, br20, rfl⟩
    · have h10851 := h10849.1
      have h10852 := h10843.keepM (fun a ha => h10849.2 a (by rw [ha]; decide))
      have h10853 := (h10849.2 (b + 1480) (by rw [kC_0 (c := b + 1457) (by omega)]; decide)).trans h10845
      have by10854 := (hBy2.keep (by rw [ef])).keep (h10849.2 (b + 1) (by rw [kC_0 (c := b + 1457) (by omega)]; decide))
      refine m_pop F rfl e_L_law_293 ?_
      refine m_goto F e_L_law_294 ?_
      exact hN _ M T _ _ _ (by omega) (by omega) (by omega) ⟨by omega, h10852, ⟨_, h10853⟩, u, h, P, L0_, ⟨hu, hh, hP, hkk, hm0, hw0, hok⟩, h10851, _, by10854, (br10847.of er)⟩
    · exfalso; omega
  · have h10856 := h10841.1
    have h10857 := hHR.keepL (fun a ha _ => h10841.2 a (by rw [show kA _ a = 0 from ha]; decide))
    have h10858 := (h10841.2 (b + 1480) (by rw [show kA _ (b + 1480) = 0 from kA_o]; decide)).trans hout
    have br10860 := hBr2.of (h10841.2 (b + 1457 + 1) (by rw [show kA _ (b + 1457 + 1) = 0 from kA_big (by omega)]; decide))
    refine m_pop F rfl e_L_law_258 ?_
    refine m_aload_n F rfl e_L_law_259 ?_
    refine m_aload_n F rfl e_L_law_260 ?_
    refine m_iload F rfl e_L_law_261 ?_
    refine m_iconst F (v := 1) (by decide) e_L_law_263 ?_
    refine m_iadd F e_L_law_264 ?_
    refine Wm.topE (w := nI (i + 1)) (nI_add i 1) ?_
    refine m_sld F (j := i + 1) e_L_law_265 hX hb (nI_clamp (by omega)) (vp_in_nI (by omega) (by omega)) ?_
    refine m_aload_n F rfl e_L_law_266 ?_
    refine m_iload F rfl e_L_law_267 ?_
    refine m_iconst F (v := 2) (by decide) e_L_law_269 ?_
    refine m_iadd F e_L_law_270 ?_
    refine Wm.topE (w := nI (i + 2)) (nI_add i 2) ?_
    refine m_sld F (j := i + 2) e_L_law_271 hX hb (nI_clamp (by omega)) (vp_in_nI (by omega) (by omega)) ?_
    refine m_aload_n F rfl e_L_law_272 ?_
    refine m_iload F rfl e_L_law_273 ?_
    refine m_iconst F (v := 3) (by decide) e_L_law_275 ?_
    refine m_iadd F e_L_law_276 ?_
    refine Wm.topE (w := nI (i + 3)) (nI_add i 3) ?_
    refine m_sld F (j := i + 3) e_L_law_277 hX hb (nI_clamp (by omega)) (vp_in_nI (by omega) (by omega)) ?_
    refine m_aload_n F rfl e_L_law_278 ?_
    refine m_iload F rfl e_L_law_279 ?_
    refine m_iconst F (v := 4) (by decide) e_L_law_281 ?_
    refine m_iadd F e_L_law_282 ?_
    refine Wm.topE (w := nI (i + 4)) (nI_add i 4) ?_
    refine m_sld F (j := i + 4) e_L_law_283 hX hb (nI_clamp (by omega)) (vp_in_nI (by omega) (by omega)) ?_
    refine m_aload_n F rfl e_L_law_284 ?_
    refine m_iload F rfl e_L_law_285 ?_
    refine m_iconst F (v := 5) (by decide) e_L_law_287 ?_
    refine m_iadd F e_L_law_288 ?_
    refine Wm.topE (w := nI (i + 5)) (nI_add i 5) ?_
    refine m_sld F (j := i + 5) e_L_law_289 hX hb (nI_clamp (by omega)) (vp_in_nI (by omega) (by omega)) ?_
    refine l_callM F e_L_law_290 (q_X10_feedE (x_l X) V (b + 1457) T 1 u h P L0_ _ _ (xs (i + 1)) (xs (i + 2)) (xs (i + 3)) (xs (i + 4)) (xs (i + 5)) t2 h10857 hok.b hP (by first | omega | assumption) br10860 hbt) cb_X10_feed ml_L_25 im_X10_feed se_X10_feed h10857 rfl rfl (rest := []) rfl (Nat.le_of_ble_eq_true rfl) ⟨Nat.le_of_ble_eq_true rfl, Nat.le_of_ble_eq_true rfl⟩ (by omega) (by omega) (fun r σ10861 hp => ?_)
    rcases hp with ⟨g10863, h10862, er, rfl⟩ | ⟨g10863, h10862, br20, rfl⟩
    · exfalso; omega
    · have h10864 := h10862.1
      have h10865 := h10856.keepM (fun a ha => h10862.2 a (by rw [ha]; decide))
      have h10866 := (h10862.2 (b + 1480) (by rw [kC_0 (c := b + 1457) (by omega)]; decide)).trans h10858
      have by10867 := by20.keep (h10862.2 (b + 1) (by rw [kC_0 (c := b + 1457) (by omega)]; decide))
      refine m_pop F rfl e_L_law_293 ?_
      refine m_goto F e_L_law_294 ?_
      exact hN _ M (T + 20) _ _ _ (by omega) (by omega) (by omega) ⟨by omega, h10865, ⟨_, h10866⟩, u, h, P, L0_, ⟨hu, hh, hP, hkk, hm0, hw0, hok⟩, h10864, _, by10867, br20⟩
set_option maxRecDepth 20000 in
theorem lc_1 {V : VX} {X : MX} {nm : String} {b sb N k z i L M T : Nat} {xs : Nat → Int32} {σ : Mem} (F : Fx V X (yLw nm) cL_law 7 ret room_1) (hX : va_X sb L xs (x_s X) V.2.2) (hb : sb < V.2.2.size) (hl : (x_l X).stackTraces = false) (hi : i + 6 ≤ L) (hL : L ≤ 3072) (hk : k ≤ 2100) (hz : z ≤ 80000) (hM : M ≤ 10000000) (hI : IV V b M T σ) (hN : ∀ (N' M' T' : Nat) (σ' : Mem) (k' z' : Nat), k' ≤ k + 1 → z' ≤ z + 6 → M' ≤ M + 10000 → IV V b M' T' σ' → Wm V X 7 N' σ' k' z' 1745 [(4, .int (nI i)), (3, .ref (b + 1480)), (2, .ref (b + 1457)), (1, .ref b), (0, .ref sb)] []) : Wm V X 7 N σ k z 297 [(4, .int (nI i)), (3, .ref (b + 1480)), (2, .ref (b + 1457)), (1, .ref b), (0, .ref sb)] [] := by
  obtain ⟨hT, hHT, ⟨z0, hout⟩, u, h, P, L0_, ⟨hu, hh, hP, hkk, hm0, hw0, hok⟩, hHR, t, hBy, hBr⟩ := hI
  refine m_aload_n F rfl e_L_law_297 ?_
  refine m_aload_n F rfl e_L_law_298 ?_
  refine m_iload F rfl e_L_law_299 ?_
  refine m_iconst F (v := 1) (by decide) e_L_law_301 ?_
  refine m_iadd F e_L_law_302 ?_
  refine Wm.topE (w := nI (i + 1)) (nI_add i 1) ?_
  refine m_sld F (j := i + 1) e_L_law_303 hX hb (nI_clamp (by omega)) (vp_in_nI (by omega) (by omega)) ?_
  refine l_callC F e_L_law_304 (s_X9_textE (x_l X) V b M 1 T _ _ b (xs (i + 1)) t hHT kA_b (by omega) hBy (by omega)) cb_X9_text ml_L_26 im_X9_text se_X9_text hHT rfl rfl (rest := []) rfl (Nat.le_of_ble_eq_true rfl) ⟨Nat.le_of_ble_eq_true rfl, Nat.le_of_ble_eq_true rfl⟩ (by omega) (by omega) (fun r σ10869 hp => ?_)
  rcases hp with ⟨gt, h10870, -, rfl⟩ | ⟨n1, en, gt, h10870, -, rfl⟩
  · have h10871 := h10870.1
    have h10872 := hHR.keepL (fun a ha _ => h10870.2 a (by rw [show kA _ a = 0 from ha]; decide))
    have h10873 := (h10870.2 (b + 1480) (by rw [show kA _ (b + 1480) = 0 from kA_o]; decide)).trans hout
    have br10875 := hBr.of (h10870.2 (b + 1457 + 1) (by rw [show kA _ (b + 1457 + 1) = 0 from kA_big (by omega)]; decide))
    have by10874 := hBy.keep (h10870.2 (b + 1) (by rw [show kA _ (b + 1) = 2 from kA_t]; decide))
    refine m_aload_n F rfl e_L_law_307 ?_
    refine m_aload_n F rfl e_L_law_308 ?_
    refine m_iload F rfl e_L_law_309 ?_
    refine m_iconst F (v := 1) (by decide) e_L_law_311 ?_
    refine m_iadd F e_L_law_312 ?_
    refine Wm.topE (w := nI (i + 1)) (nI_add i 1) ?_
    refine m_sld F (j := i + 1) e_L_law_313 hX hb (nI_clamp (by omega)) (vp_in_nI (by omega) (by omega)) ?_
    refine l_callM F e_L_law_314 (q_X10_textE (x_l X) V (b + 1457) T 1 u h P L0_ _ _ (xs (i + 1)) t h10872 hok hP (by first | omega | assumption) (by first | omega | assumption) (by first | omega | assumption) (by first | omega | assumption) (by first | omega | assumption) (by first | omega | assumption) br10875) cb_X10_text ml_L_30 im_X10_text se_X10_text h10872 rfl rfl (rest := [.int (-2)]) rfl (Nat.le_of_ble_eq_true rfl) ⟨Nat.le_of_ble_eq_true rfl, Nat.le_of_ble_eq_true rfl⟩ (by omega) (by omega) (fun r σ10876 hp => ?_)
    rcases hp with ⟨gm, h10877, -, -, -, rfl⟩ | ⟨n2, em, gm, -, -, rfl, u2, h2, P2, L2, ⟨hu2, hh2, hP2, hkk2, hm2, hw2, hok2⟩, h10877⟩
    · have h10878 := h10877.1
      have h10879 := h10871.keepM (fun a ha => h10877.2 a (by rw [ha]; decide))
      have h10880 := (h10877.2 (b + 1480) (by rw [kC_0 (c := b + 1457) (by omega)]; decide)).trans h10873
      have by10881 := by10874.keep (h10877.2 (b + 1) (by rw [kC_0 (c := b + 1457) (by omega)]; decide))
      have br10882 := br10875.of (h10877.2 (b + 1457 + 1) (by rw [kC_at (k := 1) (by decide)]; decide))
      refine m_icmp_eq F e_L_law_317 (fun _ => ?_) (fun q => absurd (by decide) q)
      exact hN _ M T _ _ _ (by omega) (by omega) (by omega) ⟨by omega, h10879, ⟨_, h10880⟩, u, h, P, L0_, ⟨hu, hh, hP, hkk, hm0, hw0, hok⟩, h10878, _, by10881, br10882⟩
    · exact absurd gt (tx_no em gm (by omega))
  · have h10883 := h10870.1
    have h10884 := hHR.keepL (fun a ha _ => h10870.2 a (by rw [show kA _ a = 0 from ha]; decide))
    have h10885 := (h10870.2 (b + 1480) (by rw [show kA _ (b + 1480) = 0 from kA_o]; decide)).trans hout
    have br10887 := hBr.of (h10870.2 (b + 1457 + 1) (by rw [show kA _ (b + 1457 + 1) = 0 from kA_big (by omega)]; decide))
    have by10886 := hBy.keep (h10870.2 (b + 1) (by rw [show kA _ (b + 1) = 2 from kA_t]; decide))
    refine m_aload_n F rfl e_L_law_307 ?_
    refine m_aload_n F rfl e_L_law_308 ?_
    refine m_iload F rfl e_L_law_309 ?_
    refine m_iconst F (v := 1) (by decide) e_L_law_311 ?_
    refine m_iadd F e_L_law_312 ?_
    refine Wm.topE (w := nI (i + 1)) (nI_add i 1) ?_
    refine m_sld F (j := i + 1) e_L_law_313 hX hb (nI_clamp (by omega)) (vp_in_nI (by omega) (by omega)) ?_
    refine l_callM F e_L_law_314 (q_X10_textE (x_l X) V (b + 1457) T 1 u h P L0_ _ _ (xs (i + 1)) t h10884 hok hP (by first | omega | assumption) (by first | omega | assumption) (by first | omega | assumption) (by first | omega | assumption) (by first | omega | assumption) (by first | omega | assumption) br10887) cb_X10_text ml_L_30 im_X10_text se_X10_text h10884 rfl rfl (rest := [.int ((ansO (textS (tok t n1) 700 (S0 (tok t n1)))).1)]) rfl (Nat.le_of_ble_eq_true rfl) ⟨Nat.le_of_ble_eq_true rfl, Nat.le_of_ble_eq_true rfl⟩ (by omega) (by omega) (fun r σ10888 hp => ?_)
    rcases hp with ⟨gm, h10889, -, -, -, rfl⟩ | ⟨n2, em, gm, -, -, rfl, u2, h2, P2, L2, ⟨hu2, hh2, hP2, hkk2, hm2, hw2, hok2⟩, h10889⟩
    · exact absurd gm (tx_no en gt (by omega))
    · obtain rfl : n1 = n2 := nI_inj (by omega) (by omega) (en.symm.trans em)
      have h10890 := h10889.1
      have h10891 := h10883.keepM (fun a ha => h10889.2 a (by rw [ha]; decide))
      have h10892 := (h10889.2 (b + 1480) (by rw [kC_0 (c := b + 1457) (by omega)]; decide)).trans h10885
      have by10893 := by10886.keep (h10889.2 (b + 1) (by rw [kC_0 (c := b + 1457) (by omega)]; decide))
      have br10894 := br10887.of (h10889.2 (b + 1457 + 1) (by rw [kC_at (k := 1) (by decide)]; decide))
      refine m_icmp_eq F e_L_law_317 (fun _ => ?_) (fun q => absurd rfl q)
      exact hN _ M 0 _ _ _ (by omega) (by omega) (by omega) ⟨by omega, h10891, ⟨_, h10892⟩, u2, h2, P2, L2, ⟨hu2, hh2, hP2, hkk2, hm2, hw2, hok2⟩, h10890, _, (by10893.to (m2 := 0) (Nat.zero_le _)), (br10894.to (m := 0) (Nat.zero_le _))⟩
set_option maxRecDepth 20000 in
theorem lc_2 {V : VX} {X : MX} {nm : String} {b sb N k z i L M T : Nat} {xs : Nat → Int32} {σ : Mem} (F : Fx V X (yLw nm) cL_law 7 ret room_1) (hX : va_X sb L xs (x_s X) V.2.2) (hb : sb < V.2.2.size) (hl : (x_l X).stackTraces = false) (hi : i + 6 ≤ L) (hL : L ≤ 3072) (hk : k ≤ 2100) (hz : z ≤ 80000) (hM : M ≤ 10000000) (hI : IV V b M T σ) (hN : ∀ (N' M' T' : Nat) (σ' : Mem) (k' z' : Nat), k' ≤ k + 1 → z' ≤ z + 6 → M' ≤ M + 10000 → IV V b M' T' σ' → Wm V X 7 N' σ' k' z' 1745 [(4, .int (nI i)), (3, .ref (b + 1480)), (2, .ref (b + 1457)), (1, .ref b), (0, .ref sb)] []) : Wm V X 7 N σ k z 322 [(4, .int (nI i)), (3, .ref (b + 1480)), (2, .ref (b + 1457)), (1, .ref b), (0, .ref sb)] [] := by
  obtain ⟨hT, hHT, ⟨z0, hout⟩, u, h, P, L0_, ⟨hu, hh, hP, hkk, hm0, hw0, hok⟩, hHR, t, hBy, hBr⟩ := hI
  refine m_aload_n F rfl e_L_law_322 ?_
  refine m_aload_n F rfl e_L_law_323 ?_
  refine m_iload F rfl e_L_law_324 ?_
  refine m_iconst F (v := 1) (by decide) e_L_law_326 ?_
  refine m_iadd F e_L_law_327 ?_
  refine Wm.topE (w := nI (i + 1)) (nI_add i 1) ?_
  refine m_sld F (j := i + 1) e_L_law_328 hX hb (nI_clamp (by omega)) (vp_in_nI (by omega) (by omega)) ?_
  refine l_callC F e_L_law_329 (s_X9_fault (x_l X) V b M 1 T _ _ b (xs (i + 1)) hHT kA_b  (by omega)) cb_X9_fault ml_L_31 im_X9_fault se_X9_fault hHT rfl rfl (rest := []) rfl (Nat.le_of_ble_eq_true rfl) ⟨Nat.le_of_ble_eq_true rfl, Nat.le_of_ble_eq_true rfl⟩ (by omega) (by omega) (fun r σ10895 hp => ?_)
  obtain ⟨h10896, x10897, rfl⟩ := hp
  have h10898 := h10896.1
  have h10899 := hHR.keepL (fun a ha _ => h10896.2 a (by rw [show kA _ a = 0 from ha]; decide))
  have h10900 := (h10896.2 (b + 1480) (by rw [show kA _ (b + 1480) = 0 from kA_o]; decide)).trans hout
  have br10902 := hBr.of (h10896.2 (b + 1457 + 1) (by rw [show kA _ (b + 1457 + 1) = 0 from kA_big (by omega)]; decide))
  have by10901 := hBy.keep (h10896.2 (b + 1) (by rw [show kA _ (b + 1) = 2 from kA_t]; decide))
  refine m_pop F rfl e_L_law_332 ?_
  refine m_aload_n F rfl e_L_law_333 ?_
  refine m_aload_n F rfl e_L_law_334 ?_
  refine m_iload F rfl e_L_law_335 ?_
  refine m_iconst F (v := 1) (by decide) e_L_law_337 ?_
  refine m_iadd F e_L_law_338 ?_
  refine Wm.topE (w := nI (i + 1)) (nI_add i 1) ?_
  refine m_sld F (j := i + 1) e_L_law_339 hX hb (nI_clamp (by omega)) (vp_in_nI (by omega) (by omega)) ?_
  refine l_callM F e_L_law_340 (q_X10_fault (x_l X) V (b + 1457) T 1 u h P L0_ _ _ (xs (i + 1)) h10899 hok.b hP ) cb_X10_fault ml_L_34 im_X10_fault se_X10_fault h10899 rfl rfl (rest := []) rfl (Nat.le_of_ble_eq_true rfl) ⟨Nat.le_of_ble_eq_true rfl, Nat.le_of_ble_eq_true rfl⟩ (by omega) (by omega) (fun r σ10903 hp => ?_)
  obtain ⟨h10904, x10905, rfl⟩ := hp
  have h10906 := h10904.1
  have h10907 := h10898.keepM (fun a ha => h10904.2 a (by rw [ha]; decide))
  have h10908 := (h10904.2 (b + 1480) (by rw [kC_0 (c := b + 1457) (by omega)]; decide)).trans h10900
  have by10909 := by10901.keep (h10904.2 (b + 1) (by rw [kC_0 (c := b + 1457) (by omega)]; decide))
  have br10910 := br10902.of (h10904.2 (b + 1457 + 1) (by rw [kC_at (k := 1) (by decide)]; decide))
  refine m_pop F rfl e_L_law_343 ?_
  refine m_goto F e_L_law_344 ?_
  exact hN _ M T _ _ _ (by omega) (by omega) (by omega) ⟨by omega, h10907, ⟨_, h10908⟩, u, h, P, L0_, ⟨hu, hh, hP, hkk, hm0, hw0, hok⟩, h10906, _, by10909, br10910⟩
set_option maxRecDepth 20000 in
theorem lc_3 {V : VX} {X : MX} {nm : String} {b sb N k z i L M T : Nat} {xs : Nat → Int32} {σ : Mem} (F : Fx V X (yLw nm) cL_law 7 ret room_1) (hX : va_X sb L xs (x_s X) V.2.2) (hb : sb < V.2.2.size) (hl : (x_l X).stackTraces = false) (hi : i + 6 ≤ L) (hL : L ≤ 3072) (hk : k ≤ 2100) (hz : z ≤ 80000) (hM : M ≤ 10000000) (hI : IV V b M T σ) (hN : ∀ (N' M' T' : Nat) (σ' : Mem) (k' z' : Nat), k' ≤ k + 1 → z' ≤ z + 6 → M' ≤ M + 10000 → IV V b M' T' σ' → Wm V X 7 N' σ' k' z' 1745 [(4, .int (nI i)), (3, .ref (b + 1480)), (2, .ref (b + 1457)), (1, .ref b), (0, .ref sb)] []) : Wm V X 7 N σ k z 347 [(4, .int (nI i)), (3, .ref (b + 1480)), (2, .ref (b + 1457)), (1, .ref b), (0, .ref sb)] [] := by
  obtain ⟨hT, hHT, ⟨z0, hout⟩, u, h, P, L0_, ⟨hu, hh, hP, hkk, hm0, hw0, hok⟩, hHR, t, hBy, hBr⟩ := hI
  refine m_aload_n F rfl e_L_law_347 ?_
  refine m_aload_n F rfl e_L_law_348 ?_
  refine m_iload F rfl e_L_law_349 ?_
  refine m_iconst F (v := 1) (by decide) e_L_law_351 ?_
  refine m_iadd F e_L_law_352 ?_
  refine Wm.topE (w := nI (i + 1)) (nI_add i 1) ?_
  refine m_sld F (j := i + 1) e_L_law_353 hX hb (nI_clamp (by omega)) (vp_in_nI (by omega) (by omega)) ?_
  refine l_callC F e_L_law_354 (s_X9_named (x_l X) V b M 1 T _ _ b (xs (i + 1)) hHT kA_b  (by omega)) cb_X9_named ml_L_35 im_X9_named se_X9_named hHT rfl rfl (rest := []) rfl (Nat.le_of_ble_eq_true rfl) ⟨Nat.le_of_ble_eq_true rfl, Nat.le_of_ble_eq_true rfl⟩ (by omega) (by omega) (fun r σ10911 hp => ?_)
  obtain ⟨h10912, x10913, rfl⟩ := hp
  have h10914 := h10912.1
  have h10915 := hHR.keepL (fun a ha _ => h10912.2 a (by rw [show kA _ a = 0 from ha]; decide))
  have h10916 := (h10912.2 (b + 1480) (by rw [show kA _ (b + 1480) = 0 from kA_o]; decide)).trans hout
  have br10918 := hBr.of (h10912.2 (b + 1457 + 1) (by rw [show kA _ (b + 1457 + 1) = 0 from kA_big (by omega)]; decide))
  have by10917 := hBy.keep (h10912.2 (b + 1) (by rw [show kA _ (b + 1) = 2 from kA_t]; decide))
  refine m_pop F rfl e_L_law_357 ?_
  refine m_aload_n F rfl e_L_law_358 ?_
  refine m_aload_n F rfl e_L_law_359 ?_
  refine m_iload F rfl e_L_law_360 ?_
  refine m_iconst F (v := 1) (by decide) e_L_law_362 ?_
  refine m_iadd F e_L_law_363 ?_
  refine Wm.topE (w := nI (i + 1)) (nI_add i 1) ?_
  refine m_sld F (j := i + 1) e_L_law_364 hX hb (nI_clamp (by omega)) (vp_in_nI (by omega) (by omega)) ?_
  refine l_callM F e_L_law_365 (q_X10_named (x_l X) V (b + 1457) T 1 u h P L0_ _ _ (xs (i + 1)) h10915 hok.b hP ) cb_X10_named ml_L_38 im_X10_named se_X10_named h10915 rfl rfl (rest := []) rfl (Nat.le_of_ble_eq_true rfl) ⟨Nat.le_of_ble_eq_true rfl, Nat.le_of_ble_eq_true rfl⟩ (by omega) (by omega) (fun r σ10919 hp => ?_)
  obtain ⟨h10920, x10921, rfl⟩ := hp
  have h10922 := h10920.1
  have h10923 := h10914.keepM (fun a ha => h10920.2 a (by rw [ha]; decide))
  have h10924 := (h10920.2 (b + 1480) (by rw [kC_0 (c := b + 1457) (by omega)]; decide)).trans h10916
  have by10925 := by10917.keep (h10920.2 (b + 1) (by rw [kC_0 (c := b + 1457) (by omega)]; decide))
  have br10926 := br10918.of (h10920.2 (b + 1457 + 1) (by rw [kC_at (k := 1) (by decide)]; decide))
  refine m_pop F rfl e_L_law_368 ?_
  refine m_goto F e_L_law_369 ?_
  exact hN _ M T _ _ _ (by omega) (by omega) (by omega) ⟨by omega, h10923, ⟨_, h10924⟩, u, h, P, L0_, ⟨hu, hh, hP, hkk, hm0, hw0, hok⟩, h10922, _, by10925, br10926⟩
set_option maxRecDepth 20000 in
theorem lc_4 {V : VX} {X : MX} {nm : String} {b sb N k z i L M T : Nat} {xs : Nat → Int32} {σ : Mem} (F : Fx V X (yLw nm) cL_law 7 ret room_1) (hX : va_X sb L xs (x_s X) V.2.2) (hb : sb < V.2.2.size) (hl : (x_l X).stackTraces = false) (hi : i + 6 ≤ L) (hL : L ≤ 3072) (hk : k ≤ 2100) (hz : z ≤ 80000) (hM : M ≤ 10000000) (hI : IV V b M T σ) (hN : ∀ (N' M' T' : Nat) (σ' : Mem) (k' z' : Nat), k' ≤ k + 1 → z' ≤ z + 6 → M' ≤ M + 10000 → IV V b M' T' σ' → Wm V X 7 N' σ' k' z' 1745 [(4, .int (nI i)), (3, .ref (b + 1480)), (2, .ref (b + 1457)), (1, .ref b), (0, .ref sb)] []) : Wm V X 7 N σ k z 372 [(4, .int (nI i)), (3, .ref (b + 1480)), (2, .ref (b + 1457)), (1, .ref b), (0, .ref sb)] [] := by
  obtain ⟨hT, hHT, ⟨z0, hout⟩, u, h, P, L0_, ⟨hu, hh, hP, hkk, hm0, hw0, hok⟩, hHR, t, hBy, hBr⟩ := hI
  refine m_aload_n F rfl e_L_law_372 ?_
  refine m_aload_n F rfl e_L_law_373 ?_
  refine m_iload F rfl e_L_law_374 ?_
  refine m_iconst F (v := 1) (by decide) e_L_law_376 ?_
  refine m_iadd F e_L_law_377 ?_
  refine Wm.topE (w := nI (i + 1)) (nI_add i 1) ?_
  refine m_sld F (j := i + 1) e_L_law_378 hX hb (nI_clamp (by omega)) (vp_in_nI (by omega) (by omega)) ?_
  refine l_callC F e_L_law_379 (s_X9_go (x_l X) V b M 1 T _ _ b (xs (i + 1)) hHT kA_b  (by omega)) cb_X9_go ml_L_39 im_X9_go se_X9_go hHT rfl rfl (rest := []) rfl (Nat.le_of_ble_eq_true rfl) ⟨Nat.le_of_ble_eq_true rfl, Nat.le_of_ble_eq_true rfl⟩ (by omega) (by omega) (fun r σ10927 hp => ?_)
  obtain ⟨h10928, x10929, rfl⟩ := hp
  have h10930 := h10928.1
  have h10931 := hHR.keepL (fun a ha _ => h10928.2 a (by rw [show kA _ a = 0 from ha]; decide))
  have h10932 := (h10928.2 (b + 1480) (by rw [show kA _ (b + 1480) = 0 from kA_o]; decide)).trans hout
  have br10934 := hBr.of (h10928.2 (b + 1457 + 1) (by rw [show kA _ (b + 1457 + 1) = 0 from kA_big (by omega)]; decide))
  have by10933 := hBy.keep (h10928.2 (b + 1) (by rw [show kA _ (b + 1) = 2 from kA_t]; decide))
  refine m_pop F rfl e_L_law_382 ?_
  refine m_aload_n F rfl e_L_law_383 ?_
  refine m_aload_n F rfl e_L_law_384 ?_
  refine m_iload F rfl e_L_law_385 ?_
  refine m_iconst F (v := 1) (by decide) e_L_law_387 ?_
  refine m_iadd F e_L_law_388 ?_
  refine Wm.topE (w := nI (i + 1)) (nI_add i 1) ?_
  refine m_sld F (j := i + 1) e_L_law_389 hX hb (nI_clamp (by omega)) (vp_in_nI (by omega) (by omega)) ?_
  refine l_callM F e_L_law_390 (q_X10_go (x_l X) V (b + 1457) T 1 u h P L0_ _ _ (xs (i + 1)) h10931 hok hP (by first | omega | assumption) (by first | omega | assumption)) cb_X10_go ml_L_42 im_X10_go se_X10_go h10931 rfl rfl (rest := []) rfl (Nat.le_of_ble_eq_true rfl) ⟨Nat.le_of_ble_eq_true rfl, Nat.le_of_ble_eq_true rfl⟩ (by omega) (by omega) (fun r σ10935 hp => ?_)
  obtain ⟨u10937, hu10937, L10938, okL10938, h10936, x10939, rfl⟩ := hp
  have h10940 := h10936.1
  have h10941 := h10930.keepM (fun a ha => h10936.2 a (by rw [ha]; decide))
  have h10942 := (h10936.2 (b + 1480) (by rw [kC_0 (c := b + 1457) (by omega)]; decide)).trans h10932
  have by10943 := by10933.keep (h10936.2 (b + 1) (by rw [kC_0 (c := b + 1457) (by omega)]; decide))
  have br10944 := br10934.of (h10936.2 (b + 1457 + 1) (by rw [kC_at (k := 1) (by decide)]; decide))
  refine m_pop F rfl e_L_law_393 ?_
  refine m_goto F e_L_law_394 ?_
  exact hN _ (M + 108) T _ _ _ (by omega) (by omega) (by omega) ⟨by omega, h10941, ⟨_, h10942⟩, u10937, h, P, L10938, ⟨hu10937, hh, hP, hkk, hm0, hw0, okL10938⟩, h10940, _, by10943, br10944⟩
set_option maxRecDepth 20000 in
theorem lc_5 {V : VX} {X : MX} {nm : String} {b sb N k z i L M T : Nat} {xs : Nat → Int32} {σ : Mem} (F : Fx V X (yLw nm) cL_law 7 ret room_1) (hX : va_X sb L xs (x_s X) V.2.2) (hb : sb < V.2.2.size) (hl : (x_l X).stackTraces = false) (hi : i + 6 ≤ L) (hL : L ≤ 3072) (hk : k ≤ 2100) (hz : z ≤ 80000) (hM : M ≤ 10000000) (hI : IV V b M T σ) (hN : ∀ (N' M' T' : Nat) (σ' : Mem) (k' z' : Nat), k' ≤ k + 1 → z' ≤ z + 6 → M' ≤ M + 10000 → IV V b M' T' σ' → Wm V X 7 N' σ' k' z' 1745 [(4, .int (nI i)), (3, .ref (b + 1480)), (2, .ref (b + 1457)), (1, .ref b), (0, .ref sb)] []) : Wm V X 7 N σ k z 397 [(4, .int (nI i)), (3, .ref (b + 1480)), (2, .ref (b + 1457)), (1, .ref b), (0, .ref sb)] [] := by
  obtain ⟨hT, hHT, ⟨z0, hout⟩, u, h, P, L0_, ⟨hu, hh, hP, hkk, hm0, hw0, hok⟩, hHR, t, hBy, hBr⟩ := hI
  refine m_aload_n F rfl e_L_law_397 ?_
  refine m_aload_n F rfl e_L_law_398 ?_
  refine m_iload F rfl e_L_law_399 ?_
  refine m_iconst F (v := 1) (by decide) e_L_law_401 ?_
  refine m_iadd F e_L_law_402 ?_
  refine Wm.topE (w := nI (i + 1)) (nI_add i 1) ?_
  refine m_sld F (j := i + 1) e_L_law_403 hX hb (nI_clamp (by omega)) (vp_in_nI (by omega) (by omega)) ?_
  refine m_aload_n F rfl e_L_law_404 ?_
  refine m_iload F rfl e_L_law_405 ?_
  refine m_iconst F (v := 2) (by decide) e_L_law_407 ?_
  refine m_iadd F e_L_law_408 ?_
  refine Wm.topE (w := nI (i + 2)) (nI_add i 2) ?_
  refine m_sld F (j := i + 2) e_L_law_409 hX hb (nI_clamp (by omega)) (vp_in_nI (by omega) (by omega)) ?_
  refine m_aload_n F rfl e_L_law_410 ?_
  refine m_callSL F e_L_law_411 (s_L_lease (x_l X) hl V b M T _ _ b (b + 1480) (xs (i + 1)) (xs (i + 2)) z0 hHT kA_b kA_o hout (by omega)) ml_L_43 rfl (rest := []) rfl (Nat.le_of_ble_eq_true rfl) ⟨Nat.le_of_ble_eq_true rfl, Nat.le_of_ble_eq_true rfl⟩ (by omega) (by omega) (fun N1 σ10945 x1 hp1 hp2 hp3 => ?_)
  obtain ⟨z1, hz1⟩ := hp2
  have h10947 := hHR.keepL (fun a ha hb2 => hp3 a hb2 (by rw [ha]; decide))
  have by10949 := hBy.keep (hp3 (b + 1) (by omega) (by rw [kA_t]; decide))
  have br10950 := hBr.of (hp3 (b + 1457 + 1) (by omega) (by rw [kA_big (by omega)]; decide))
  refine m_istore F (lv' := [(5, .int x1), (4, .int (nI i)), (3, .ref (b + 1480)), (2, .ref (b + 1457)), (1, .ref b), (0, .ref sb)]) e_L_law_414 (by decide) rfl ?_
  refine m_aload_n F rfl e_L_law_416 ?_
  refine m_aload_n F rfl e_L_law_417 ?_
  refine m_iload F rfl e_L_law_418 ?_
  refine m_iconst F (v := 1) (by decide) e_L_law_420 ?_
  refine m_iadd F e_L_law_421 ?_
  refine Wm.topE (w := nI (i + 1)) (nI_add i 1) ?_
  refine m_sld F (j := i + 1) e_L_law_422 hX hb (nI_clamp (by omega)) (vp_in_nI (by omega) (by omega)) ?_
  refine m_aload_n F rfl e_L_law_423 ?_
  refine m_iload F rfl e_L_law_424 ?_
  refine m_iconst F (v := 2) (by decide) e_L_law_426 ?_
  refine m_iadd F e_L_law_427 ?_
  refine Wm.topE (w := nI (i + 2)) (nI_add i 2) ?_
  refine m_sld F (j := i + 2) e_L_law_428 hX hb (nI_clamp (by omega)) (vp_in_nI (by omega) (by omega)) ?_
  refine l_callM F e_L_law_429 (q_X10_lease (x_l X) V (b + 1457) T 1 u h P L0_ _ _ (xs (i + 1)) (xs (i + 2)) h10947 hok.b hP ) cb_X10_lease ml_L_48 im_X10_lease se_X10_lease h10947 rfl rfl (rest := []) rfl (Nat.le_of_ble_eq_true rfl) ⟨Nat.le_of_ble_eq_true rfl, Nat.le_of_ble_eq_true rfl⟩ (by omega) (by omega) (fun r σ10951 hp => ?_)
  obtain ⟨h10952, x10953, rfl⟩ := hp
  have h10954 := h10952.1
  have h10955 := hp1.keepM (fun a ha => h10952.2 a (by rw [ha]; decide))
  have h10956 := (h10952.2 (b + 1480) (by rw [kC_0 (c := b + 1457) (by omega)]; decide)).trans hz1
  have by10957 := by10949.keep (h10952.2 (b + 1) (by rw [kC_0 (c := b + 1457) (by omega)]; decide))
  have br10958 := br10950.of (h10952.2 (b + 1457 + 1) (by rw [kC_at (k := 1) (by decide)]; decide))
  refine m_istore F (lv' := [(6, .int x10953), (5, .int x1), (4, .int (nI i)), (3, .ref (b + 1480)), (2, .ref (b + 1457)), (1, .ref b), (0, .ref sb)]) e_L_law_432 (by decide) rfl ?_
  refine m_goto F e_L_law_434 ?_
  refine Wm.lvsub (lv' := [(4, .int (nI i)), (3, .ref (b + 1480)), (2, .ref (b + 1457)), (1, .ref b), (0, .ref sb)]) ?_ [2, 3, 4, 5, 6] rfl
  exact hN _ M T _ _ _ (by omega) (by omega) (by omega) ⟨by omega, h10955, ⟨_, h10956⟩, u, h, P, L0_, ⟨hu, hh, hP, hkk, hm0, hw0, hok⟩, h10954, _, by10957, br10958⟩
set_option maxRecDepth 20000 in
theorem lc_6 {V : VX} {X : MX} {nm : String} {b sb N k z i L M T : Nat} {xs : Nat → Int32} {σ : Mem} (F : Fx V X (yLw nm) cL_law 7 ret room_1) (hX : va_X sb L xs (x_s X) V.2.2) (hb : sb < V.2.2.size) (hl : (x_l X).stackTraces = false) (hi : i + 6 ≤ L) (hL : L ≤ 3072) (hk : k ≤ 2100) (hz : z ≤ 80000) (hM : M ≤ 10000000) (hI : IV V b M T σ) (hN : ∀ (N' M' T' : Nat) (σ' : Mem) (k' z' : Nat), k' ≤ k + 1 → z' ≤ z + 6 → M' ≤ M + 10000 → IV V b M' T' σ' → Wm V X 7 N' σ' k' z' 1745 [(4, .int (nI i)), (3, .ref (b + 1480)), (2, .ref (b + 1457)), (1, .ref b), (0, .ref sb)] []) : Wm V X 7 N σ k z 437 [(4, .int (nI i)), (3, .ref (b + 1480)), (2, .ref (b + 1457)), (1, .ref b), (0, .ref sb)] [] := by
  obtain ⟨hT, hHT, ⟨z0, hout⟩, u, h, P, L0_, ⟨hu, hh, hP, hkk, hm0, hw0, hok⟩, hHR, t, hBy, hBr⟩ := hI
  refine m_aload_n F rfl e_L_law_437 ?_
  refine m_aload_n F rfl e_L_law_438 ?_
  refine m_iload F rfl e_L_law_439 ?_
  refine m_iconst F (v := 1) (by decide) e_L_law_441 ?_
  refine m_iadd F e_L_law_442 ?_
  refine Wm.topE (w := nI (i + 1)) (nI_add i 1) ?_
  refine m_sld F (j := i + 1) e_L_law_443 hX hb (nI_clamp (by omega)) (vp_in_nI (by omega) (by omega)) ?_
  refine m_aload_n F rfl e_L_law_444 ?_
  refine m_iload F rfl e_L_law_445 ?_
  refine m_iconst F (v := 2) (by decide) e_L_law_447 ?_
  refine m_iadd F e_L_law_448 ?_
  refine Wm.topE (w := nI (i + 2)) (nI_add i 2) ?_
  refine m_sld F (j := i + 2) e_L_law_449 hX hb (nI_clamp (by omega)) (vp_in_nI (by omega) (by omega)) ?_
  refine l_callC F e_L_law_450 (s_X9_amount (x_l X) V b M 1 T _ _ b (xs (i + 1)) (xs (i + 2)) hHT kA_b  (by omega)) cb_X9_amount ml_L_49 im_X9_amount se_X9_amount hHT rfl rfl (rest := []) rfl (Nat.le_of_ble_eq_true rfl) ⟨Nat.le_of_ble_eq_true rfl, Nat.le_of_ble_eq_true rfl⟩ (by omega) (by omega) (fun r σ10959 hp => ?_)
  obtain ⟨h10960, x10961, rfl⟩ := hp
  have h10962 := h10960.1
  have h10963 := hHR.keepL (fun a ha _ => h10960.2 a (by rw [show kA _ a = 0 from ha]; decide))
  have h10964 := (h10960.2 (b + 1480) (by rw [show kA _ (b + 1480) = 0 from kA_o]; decide)).trans hout
  have br10966 := hBr.of (h10960.2 (b + 1457 + 1) (by rw [show kA _ (b + 1457 + 1) = 0 from kA_big (by omega)]; decide))
  have by10965 := hBy.keep (h10960.2 (b + 1) (by rw [show kA _ (b + 1) = 2 from kA_t]; decide))
  refine m_pop2_2 F rfl e_L_law_453 ?_
  refine m_aload_n F rfl e_L_law_454 ?_
  refine m_aload_n F rfl e_L_law_455 ?_
  refine m_iload F rfl e_L_law_456 ?_
  refine m_iconst F (v := 1) (by decide) e_L_law_458 ?_
  refine m_iadd F e_L_law_459 ?_
  refine Wm.topE (w := nI (i + 1)) (nI_add i 1) ?_
  refine m_sld F (j := i + 1) e_L_law_460 hX hb (nI_clamp (by omega)) (vp_in_nI (by omega) (by omega)) ?_
  refine m_aload_n F rfl e_L_law_461 ?_
  refine m_iload F rfl e_L_law_462 ?_
  refine m_iconst F (v := 2) (by decide) e_L_law_464 ?_
  refine m_iadd F e_L_law_465 ?_
  refine Wm.topE (w := nI (i + 2)) (nI_add i 2) ?_
  refine m_sld F (j := i + 2) e_L_law_466 hX hb (nI_clamp (by omega)) (vp_in_nI (by omega) (by omega)) ?_
  refine l_callM F e_L_law_467 (q_X10_amount (x_l X) V (b + 1457) T 1 u h P L0_ _ _ (xs (i + 1)) (xs (i + 2)) h10963 hok.b hP ) cb_X10_amount ml_L_53 im_X10_amount se_X10_amount h10963 rfl rfl (rest := []) rfl (Nat.le_of_ble_eq_true rfl) ⟨Nat.le_of_ble_eq_true rfl, Nat.le_of_ble_eq_true rfl⟩ (by omega) (by omega) (fun r σ10967 hp => ?_)
  obtain ⟨h10968, x10969, rfl⟩ := hp
  have h10970 := h10968.1
  have h10971 := h10962.keepM (fun a ha => h10968.2 a (by rw [ha]; decide))
  have h10972 := (h10968.2 (b + 1480) (by rw [kC_0 (c := b + 1457) (by omega)]; decide)).trans h10964
  have by10973 := by10965.keep (h10968.2 (b + 1) (by rw [kC_0 (c := b + 1457) (by omega)]; decide))
  have br10974 := br10966.of (h10968.2 (b + 1457 + 1) (by rw [kC_at (k := 1) (by decide)]; decide))
  refine m_pop2_2 F rfl e_L_law_470 ?_
  refine m_goto F e_L_law_471 ?_
  exact hN _ M T _ _ _ (by omega) (by omega) (by omega) ⟨by omega, h10971, ⟨_, h10972⟩, u, h, P, L0_, ⟨hu, hh, hP, hkk, hm0, hw0, hok⟩, h10970, _, by10973, br10974⟩
set_option maxRecDepth 20000 in
theorem lc_7 {V : VX} {X : MX} {nm : String} {b sb N k z i L M T : Nat} {xs : Nat → Int32} {σ : Mem} (F : Fx V X (yLw nm) cL_law 7 ret room_1) (hX : va_X sb L xs (x_s X) V.2.2) (hb : sb < V.2.2.size) (hl : (x_l X).stackTraces = false) (hi : i + 6 ≤ L) (hL : L ≤ 3072) (hk : k ≤ 2100) (hz : z ≤ 80000) (hM : M ≤ 10000000) (hI : IV V b M T σ) (hN : ∀ (N' M' T' : Nat) (σ' : Mem) (k' z' : Nat), k' ≤ k + 1 → z' ≤ z + 6 → M' ≤ M + 10000 → IV V b M' T' σ' → Wm V X 7 N' σ' k' z' 1745 [(4, .int (nI i)), (3, .ref (b + 1480)), (2, .ref (b + 1457)), (1, .ref b), (0, .ref sb)] []) : Wm V X 7 N σ k z 474 [(4, .int (nI i)), (3, .ref (b + 1480)), (2, .ref (b + 1457)), (1, .ref b), (0, .ref sb)] [] := by
  obtain ⟨hT, hHT, ⟨z0, hout⟩, u, h, P, L0_, ⟨hu, hh, hP, hkk, hm0, hw0, hok⟩, hHR, t, hBy, hBr⟩ := hI
  refine m_aload_n F rfl e_L_law_474 ?_
  refine m_aload_n F rfl e_L_law_475 ?_
  refine m_iload F rfl e_L_law_476 ?_
  refine m_iconst F (v := 1) (by decide) e_L_law_478 ?_
  refine m_iadd F e_L_law_479 ?_
  refine Wm.topE (w := nI (i + 1)) (nI_add i 1) ?_
  refine m_sld F (j := i + 1) e_L_law_480 hX hb (nI_clamp (by omega)) (vp_in_nI (by omega) (by omega)) ?_
  refine m_aload_n F rfl e_L_law_481 ?_
  refine m_iload F rfl e_L_law_482 ?_
  refine m_iconst F (v := 2) (by decide) e_L_law_484 ?_
  refine m_iadd F e_L_law_485 ?_
  refine Wm.topE (w := nI (i + 2)) (nI_add i 2) ?_
  refine m_sld F (j := i + 2) e_L_law_486 hX hb (nI_clamp (by omega)) (vp_in_nI (by omega) (by omega)) ?_
  refine l_callC F e_L_law_487 (s_X9_due (x_l X) V b M 1 T _ _ b (xs (i + 1)) (xs (i + 2)) hHT kA_b  (by omega)) cb_X9_due ml_L_54 im_X9_due se_X9_due hHT rfl rfl (rest := []) rfl (Nat.le_of_ble_eq_true rfl) ⟨Nat.le_of_ble_eq_true rfl, Nat.le_of_ble_eq_true rfl⟩ (by omega) (by omega) (fun r σ10975 hp => ?_)
  obtain ⟨h10976, x10977, rfl⟩ := hp
  have h10978 := h10976.1
  have h10979 := hHR.keepL (fun a ha _ => h10976.2 a (by rw [show kA _ a = 0 from ha]; decide))
  have h10980 := (h10976.2 (b + 1480) (by rw [show kA _ (b + 1480) = 0 from kA_o]; decide)).trans hout
  have br10982 := hBr.of (h10976.2 (b + 1457 + 1) (by rw [show kA _ (b + 1457 + 1) = 0 from kA_big (by omega)]; decide))
  have by10981 := hBy.keep (h10976.2 (b + 1) (by rw [show kA _ (b + 1) = 2 from kA_t]; decide))
  refine m_pop2_2 F rfl e_L_law_490 ?_
  refine m_aload_n F rfl e_L_law_491 ?_
  refine m_aload_n F rfl e_L_law_492 ?_
  refine m_iload F rfl e_L_law_493 ?_
  refine m_iconst F (v := 1) (by decide) e_L_law_495 ?_
  refine m_iadd F e_L_law_496 ?_
  refine Wm.topE (w := nI (i + 1)) (nI_add i 1) ?_
  refine m_sld F (j := i + 1) e_L_law_497 hX hb (nI_clamp (by omega)) (vp_in_nI (by omega) (by omega)) ?_
  refine m_aload_n F rfl e_L_law_498 ?_
  refine m_iload F rfl e_L_law_499 ?_
  refine m_iconst F (v := 2) (by decide) e_L_law_501 ?_
  refine m_iadd F e_L_law_502 ?_
  refine Wm.topE (w := nI (i + 2)) (nI_add i 2) ?_
  refine m_sld F (j := i + 2) e_L_law_503 hX hb (nI_clamp (by omega)) (vp_in_nI (by omega) (by omega)) ?_
  refine l_callM F e_L_law_504 (q_X10_due (x_l X) V (b + 1457) T 1 u h P L0_ _ _ (xs (i + 1)) (xs (i + 2)) h10979 hok.b hP ) cb_X10_due ml_L_57 im_X10_due se_X10_due h10979 rfl rfl (rest := []) rfl (Nat.le_of_ble_eq_true rfl) ⟨Nat.le_of_ble_eq_true rfl, Nat.le_of_ble_eq_true rfl⟩ (by omega) (by omega) (fun r σ10983 hp => ?_)
  obtain ⟨h10984, x10985, rfl⟩ := hp
  have h10986 := h10984.1
  have h10987 := h10978.keepM (fun a ha => h10984.2 a (by rw [ha]; decide))
  have h10988 := (h10984.2 (b + 1480) (by rw [kC_0 (c := b + 1457) (by omega)]; decide)).trans h10980
  have by10989 := by10981.keep (h10984.2 (b + 1) (by rw [kC_0 (c := b + 1457) (by omega)]; decide))
  have br10990 := br10982.of (h10984.2 (b + 1457 + 1) (by rw [kC_at (k := 1) (by decide)]; decide))
  refine m_pop2_2 F rfl e_L_law_507 ?_
  refine m_goto F e_L_law_508 ?_
  exact hN _ M T _ _ _ (by omega) (by omega) (by omega) ⟨by omega, h10987, ⟨_, h10988⟩, u, h, P, L0_, ⟨hu, hh, hP, hkk, hm0, hw0, hok⟩, h10986, _, by10989, br10990⟩
set_option maxRecDepth 20000 in
theorem lc_8 {V : VX} {X : MX} {nm : String} {b sb N k z i L M T : Nat} {xs : Nat → Int32} {σ : Mem} (F : Fx V X (yLw nm) cL_law 7 ret room_1) (hX : va_X sb L xs (x_s X) V.2.2) (hb : sb < V.2.2.size) (hl : (x_l X).stackTraces = false) (hi : i + 6 ≤ L) (hL : L ≤ 3072) (hk : k ≤ 2100) (hz : z ≤ 80000) (hM : M ≤ 10000000) (hI : IV V b M T σ) (hN : ∀ (N' M' T' : Nat) (σ' : Mem) (k' z' : Nat), k' ≤ k + 1 → z' ≤ z + 6 → M' ≤ M + 10000 → IV V b M' T' σ' → Wm V X 7 N' σ' k' z' 1745 [(4, .int (nI i)), (3, .ref (b + 1480)), (2, .ref (b + 1457)), (1, .ref b), (0, .ref sb)] []) : Wm V X 7 N σ k z 511 [(4, .int (nI i)), (3, .ref (b + 1480)), (2, .ref (b + 1457)), (1, .ref b), (0, .ref sb)] [] := by
  obtain ⟨hT, hHT, ⟨z0, hout⟩, u, h, P, L0_, ⟨hu, hh, hP, hkk, hm0, hw0, hok⟩, hHR, t, hBy, hBr⟩ := hI
  refine m_aload_n F rfl e_L_law_511 ?_
  refine m_aload_n F rfl e_L_law_512 ?_
  refine m_iload F rfl e_L_law_513 ?_
  refine m_iconst F (v := 1) (by decide) e_L_law_515 ?_
  refine m_iadd F e_L_law_516 ?_
  refine Wm.topE (w := nI (i + 1)) (nI_add i 1) ?_
  refine m_sld F (j := i + 1) e_L_law_517 hX hb (nI_clamp (by omega)) (vp_in_nI (by omega) (by omega)) ?_
  refine m_aload_n F rfl e_L_law_518 ?_
  refine m_iload F rfl e_L_law_519 ?_
  refine m_iconst F (v := 2) (by decide) e_L_law_521 ?_
  refine m_iadd F e_L_law_522 ?_
  refine Wm.topE (w := nI (i + 2)) (nI_add i 2) ?_
  refine m_sld F (j := i + 2) e_L_law_523 hX hb (nI_clamp (by omega)) (vp_in_nI (by omega) (by omega)) ?_
  refine m_aload_n F rfl e_L_law_524 ?_
  refine m_iload F rfl e_L_law_525 ?_
  refine m_iconst F (v := 3) (by decide) e_L_law_527 ?_
  refine m_iadd F e_L_law_528 ?_
  refine Wm.topE (w := nI (i + 3)) (nI_add i 3) ?_
  refine m_sld F (j := i + 3) e_L_law_529 hX hb (nI_clamp (by omega)) (vp_in_nI (by omega) (by omega)) ?_
  refine l_callC F e_L_law_530 (s_X9_worth (x_l X) V b M 1 T _ _ b (xs (i + 1)) (xs (i + 2)) (xs (i + 3)) hHT kA_b  (by omega)) cb_X9_worth ml_L_58 im_X9_worth se_X9_worth hHT rfl rfl (rest := []) rfl (Nat.le_of_ble_eq_true rfl) ⟨Nat.le_of_ble_eq_true rfl, Nat.le_of_ble_eq_true rfl⟩ (by omega) (by omega) (fun r σ10991 hp => ?_)
  obtain ⟨h10992, x10993, rfl⟩ := hp
  have h10994 := h10992.1
  have h10995 := hHR.keepL (fun a ha _ => h10992.2 a (by rw [show kA _ a = 0 from ha]; decide))
  have h10996 := (h10992.2 (b + 1480) (by rw [show kA _ (b + 1480) = 0 from kA_o]; decide)).trans hout
  have br10998 := hBr.of (h10992.2 (b + 1457 + 1) (by rw [show kA _ (b + 1457 + 1) = 0 from kA_big (by omega)]; decide))
  have by10997 := hBy.keep (h10992.2 (b + 1) (by rw [show kA _ (b + 1) = 2 from kA_t]; decide))
  refine m_pop2_2 F rfl e_L_law_533 ?_
  refine m_aload_n F rfl e_L_law_534 ?_
  refine m_aload_n F rfl e_L_law_535 ?_
  refine m_iload F rfl e_L_law_536 ?_
  refine m_iconst F (v := 1) (by decide) e_L_law_538 ?_
  refine m_iadd F e_L_law_539 ?_
  refine Wm.topE (w := nI (i + 1)) (nI_add i 1) ?_
  refine m_sld F (j := i + 1) e_L_law_540 hX hb (nI_clamp (by omega)) (vp_in_nI (by omega) (by omega)) ?_
  refine m_aload_n F rfl e_L_law_541 ?_
  refine m_iload F rfl e_L_law_542 ?_
  refine m_iconst F (v := 2) (by decide) e_L_law_544 ?_
  refine m_iadd F e_L_law_545 ?_
  refine Wm.topE (w := nI (i + 2)) (nI_add i 2) ?_
  refine m_sld F (j := i + 2) e_L_law_546 hX hb (nI_clamp (by omega)) (vp_in_nI (by omega) (by omega)) ?_
  refine m_aload_n F rfl e_L_law_547 ?_
  refine m_iload F rfl e_L_law_548 ?_
  refine m_iconst F (v := 3) (by decide) e_L_law_550 ?_
  refine m_iadd F e_L_law_551 ?_
  refine Wm.topE (w := nI (i + 3)) (nI_add i 3) ?_
  refine m_sld F (j := i + 3) e_L_law_552 hX hb (nI_clamp (by omega)) (vp_in_nI (by omega) (by omega)) ?_
  refine l_callM F e_L_law_553 (q_X10_worth (x_l X) V (b + 1457) T 1 u h P L0_ _ _ (xs (i + 1)) (xs (i + 2)) (xs (i + 3)) h10995 hok.b hP ) cb_X10_worth ml_L_62 im_X10_worth se_X10_worth h10995 rfl rfl (rest := []) rfl (Nat.le_of_ble_eq_true rfl) ⟨Nat.le_of_ble_eq_true rfl, Nat.le_of_ble_eq_true rfl⟩ (by omega) (by omega) (fun r σ10999 hp => ?_)
  obtain ⟨h11000, x11001, rfl⟩ := hp
  have h11002 := h11000.1
  have h11003 := h10994.keepM (fun a ha => h11000.2 a (by rw [ha]; decide))
  have h11004 := (h11000.2 (b + 1480) (by rw [kC_0 (c := b + 1457) (by omega)]; decide)).trans h10996
  have by11005 := by10997.keep (h11000.2 (b + 1) (by rw [kC_0 (c := b + 1457) (by omega)]; decide))
  have br11006 := br10998.of (h11000.2 (b + 1457 + 1) (by rw [kC_at (k := 1) (by decide)]; decide))
  refine m_pop2_2 F rfl e_L_law_556 ?_
  refine m_goto F e_L_law_557 ?_
  exact hN _ M T _ _ _ (by omega) (by omega) (by omega) ⟨by omega, h11003, ⟨_, h11004⟩, u, h, P, L0_, ⟨hu, hh, hP, hkk, hm0, hw0, hok⟩, h11002, _, by11005, br11006⟩
set_option maxRecDepth 20000 in
theorem lc_9 {V : VX} {X : MX} {nm : String} {b sb N k z i L M T : Nat} {xs : Nat → Int32} {σ : Mem} (F : Fx V X (yLw nm) cL_law 7 ret room_1) (hX : va_X sb L xs (x_s X) V.2.2) (hb : sb < V.2.2.size) (hl : (x_l X).stackTraces = false) (hi : i + 6 ≤ L) (hL : L ≤ 3072) (hk : k ≤ 2100) (hz : z ≤ 80000) (hM : M ≤ 10000000) (hI : IV V b M T σ) (hN : ∀ (N' M' T' : Nat) (σ' : Mem) (k' z' : Nat), k' ≤ k + 1 → z' ≤ z + 6 → M' ≤ M + 10000 → IV V b M' T' σ' → Wm V X 7 N' σ' k' z' 1745 [(4, .int (nI i)), (3, .ref (b + 1480)), (2, .ref (b + 1457)), (1, .ref b), (0, .ref sb)] []) : Wm V X 7 N σ k z 560 [(4, .int (nI i)), (3, .ref (b + 1480)), (2, .ref (b + 1457)), (1, .ref b), (0, .ref sb)] [] := by
  obtain ⟨hT, hHT, ⟨z0, hout⟩, u, h, P, L0_, ⟨hu, hh, hP, hkk, hm0, hw0, hok⟩, hHR, t, hBy, hBr⟩ := hI
  refine m_aload_n F rfl e_L_law_560 ?_
  refine m_aload_n F rfl e_L_law_561 ?_
  refine m_iload F rfl e_L_law_562 ?_
  refine m_iconst F (v := 1) (by decide) e_L_law_564 ?_
  refine m_iadd F e_L_law_565 ?_
  refine Wm.topE (w := nI (i + 1)) (nI_add i 1) ?_
  refine m_sld F (j := i + 1) e_L_law_566 hX hb (nI_clamp (by omega)) (vp_in_nI (by omega) (by omega)) ?_
  refine l_callC F e_L_law_567 (s_X9_index (x_l X) V b M 1 T _ _ b (xs (i + 1)) hHT kA_b  (by omega)) cb_X9_index ml_L_63 im_X9_index se_X9_index hHT rfl rfl (rest := []) rfl (Nat.le_of_ble_eq_true rfl) ⟨Nat.le_of_ble_eq_true rfl, Nat.le_of_ble_eq_true rfl⟩ (by omega) (by omega) (fun r σ11007 hp => ?_)
  obtain ⟨h11008, x11009, rfl⟩ := hp
  have h11010 := h11008.1
  have h11011 := hHR.keepL (fun a ha _ => h11008.2 a (by rw [show kA _ a = 0 from ha]; decide))
  have h11012 := (h11008.2 (b + 1480) (by rw [show kA _ (b + 1480) = 0 from kA_o]; decide)).trans hout
  have br11014 := hBr.of (h11008.2 (b + 1457 + 1) (by rw [show kA _ (b + 1457 + 1) = 0 from kA_big (by omega)]; decide))
  have by11013 := hBy.keep (h11008.2 (b + 1) (by rw [show kA _ (b + 1) = 2 from kA_t]; decide))
  refine m_pop F rfl e_L_law_570 ?_
  refine m_aload_n F rfl e_L_law_571 ?_
  refine m_aload_n F rfl e_L_law_572 ?_
  refine m_iload F rfl e_L_law_573 ?_
  refine m_iconst F (v := 1) (by decide) e_L_law_575 ?_
  refine m_iadd F e_L_law_576 ?_
  refine Wm.topE (w := nI (i + 1)) (nI_add i 1) ?_
  refine m_sld F (j := i + 1) e_L_law_577 hX hb (nI_clamp (by omega)) (vp_in_nI (by omega) (by omega)) ?_
  refine l_callM F e_L_law_578 (q_X10_index (x_l X) V (b + 1457) T 1 u h P L0_ _ _ (xs (i + 1)) h11011 hok.b hP ) cb_X10_index ml_L_66 im_X10_index se_X10_index h11011 rfl rfl (rest := []) rfl (Nat.le_of_ble_eq_true rfl) ⟨Nat.le_of_ble_eq_true rfl, Nat.le_of_ble_eq_true rfl⟩ (by omega) (by omega) (fun r σ11015 hp => ?_)
  obtain ⟨h11016, x11017, rfl⟩ := hp
  have h11018 := h11016.1
  have h11019 := h11010.keepM (fun a ha => h11016.2 a (by rw [ha]; decide))
  have h11020 := (h11016.2 (b + 1480) (by rw [kC_0 (c := b + 1457) (by omega)]; decide)).trans h11012
  have by11021 := by11013.keep (h11016.2 (b + 1) (by rw [kC_0 (c := b + 1457) (by omega)]; decide))
  have br11022 := br11014.of (h11016.2 (b + 1457 + 1) (by rw [kC_at (k := 1) (by decide)]; decide))
  refine m_pop F rfl e_L_law_581 ?_
  refine m_goto F e_L_law_582 ?_
  exact hN _ M T _ _ _ (by omega) (by omega) (by omega) ⟨by omega, h11019, ⟨_, h11020⟩, u, h, P, L0_, ⟨hu, hh, hP, hkk, hm0, hw0, hok⟩, h11018, _, by11021, br11022⟩
set_option maxRecDepth 20000 in
theorem lc_10 {V : VX} {X : MX} {nm : String} {b sb N k z i L M T : Nat} {xs : Nat → Int32} {σ : Mem} (F : Fx V X (yLw nm) cL_law 7 ret room_1) (hX : va_X sb L xs (x_s X) V.2.2) (hb : sb < V.2.2.size) (hl : (x_l X).stackTraces = false) (hi : i + 6 ≤ L) (hL : L ≤ 3072) (hk : k ≤ 2100) (hz : z ≤ 80000) (hM : M ≤ 10000000) (hI : IV V b M T σ) (hN : ∀ (N' M' T' : Nat) (σ' : Mem) (k' z' : Nat), k' ≤ k + 1 → z' ≤ z + 6 → M' ≤ M + 10000 → IV V b M' T' σ' → Wm V X 7 N' σ' k' z' 1745 [(4, .int (nI i)), (3, .ref (b + 1480)), (2, .ref (b + 1457)), (1, .ref b), (0, .ref sb)] []) : Wm V X 7 N σ k z 585 [(4, .int (nI i)), (3, .ref (b + 1480)), (2, .ref (b + 1457)), (1, .ref b), (0, .ref sb)] [] := by
  obtain ⟨hT, hHT, ⟨z0, hout⟩, u, h, P, L0_, ⟨hu, hh, hP, hkk, hm0, hw0, hok⟩, hHR, t, hBy, hBr⟩ := hI
  refine m_aload_n F rfl e_L_law_585 ?_
  refine m_aload_n F rfl e_L_law_586 ?_
  refine m_iload F rfl e_L_law_587 ?_
  refine m_iconst F (v := 1) (by decide) e_L_law_589 ?_
  refine m_iadd F e_L_law_590 ?_
  refine Wm.topE (w := nI (i + 1)) (nI_add i 1) ?_
  refine m_sld F (j := i + 1) e_L_law_591 hX hb (nI_clamp (by omega)) (vp_in_nI (by omega) (by omega)) ?_
  refine l_callC F e_L_law_592 (s_X9_account (x_l X) V b M 1 T _ _ b (xs (i + 1)) hHT kA_b  (by omega)) cb_X9_account ml_L_67 im_X9_account se_X9_account hHT rfl rfl (rest := []) rfl (Nat.le_of_ble_eq_true rfl) ⟨Nat.le_of_ble_eq_true rfl, Nat.le_of_ble_eq_true rfl⟩ (by omega) (by omega) (fun r σ11023 hp => ?_)
  obtain ⟨h11024, x11025, rfl⟩ := hp
  have h11026 := h11024.1
  have h11027 := hHR.keepL (fun a ha _ => h11024.2 a (by rw [show kA _ a = 0 from ha]; decide))
  have h11028 := (h11024.2 (b + 1480) (by rw [show kA _ (b + 1480) = 0 from kA_o]; decide)).trans hout
  have br11030 := hBr.of (h11024.2 (b + 1457 + 1) (by rw [show kA _ (b + 1457 + 1) = 0 from kA_big (by omega)]; decide))
  have by11029 := hBy.keep (h11024.2 (b + 1) (by rw [show kA _ (b + 1) = 2 from kA_t]; decide))
  refine m_pop2_2 F rfl e_L_law_595 ?_
  refine m_aload_n F rfl e_L_law_596 ?_
  refine m_aload_n F rfl e_L_law_597 ?_
  refine m_iload F rfl e_L_law_598 ?_
  refine m_iconst F (v := 1) (by decide) e_L_law_600 ?_
  refine m_iadd F e_L_law_601 ?_
  refine Wm.topE (w := nI (i + 1)) (nI_add i 1) ?_
  refine m_sld F (j := i + 1) e_L_law_602 hX hb (nI_clamp (by omega)) (vp_in_nI (by omega) (by omega)) ?_
  refine l_callM F e_L_law_603 (q_X10_account (x_l X) V (b + 1457) T 1 u h P L0_ _ _ (xs (i + 1)) h11027 hok.b hP ) cb_X10_account ml_L_71 im_X10_account se_X10_account h11027 rfl rfl (rest := []) rfl (Nat.le_of_ble_eq_true rfl) ⟨Nat.le_of_ble_eq_true rfl, Nat.le_of_ble_eq_true rfl⟩ (by omega) (by omega) (fun r σ11031 hp => ?_)
  obtain ⟨h11032, x11033, rfl⟩ := hp
  have h11034 := h11032.1
  have h11035 := h11026.keepM (fun a ha => h11032.2 a (by rw [ha]; decide))
  have h11036 := (h11032.2 (b + 1480) (by rw [kC_0 (c := b + 1457) (by omega)]; decide)).trans h11028
  have by11037 := by11029.keep (h11032.2 (b + 1) (by rw [kC_0 (c := b + 1457) (by omega)]; decide))
  have br11038 := br11030.of (h11032.2 (b + 1457 + 1) (by rw [kC_at (k := 1) (by decide)]; decide))
  refine m_pop2_2 F rfl e_L_law_606 ?_
  refine m_goto F e_L_law_607 ?_
  exact hN _ M T _ _ _ (by omega) (by omega) (by omega) ⟨by omega, h11035, ⟨_, h11036⟩, u, h, P, L0_, ⟨hu, hh, hP, hkk, hm0, hw0, hok⟩, h11034, _, by11037, br11038⟩
set_option maxRecDepth 20000 in
theorem lc_11 {V : VX} {X : MX} {nm : String} {b sb N k z i L M T : Nat} {xs : Nat → Int32} {σ : Mem} (F : Fx V X (yLw nm) cL_law 7 ret room_1) (hX : va_X sb L xs (x_s X) V.2.2) (hb : sb < V.2.2.size) (hl : (x_l X).stackTraces = false) (hi : i + 6 ≤ L) (hL : L ≤ 3072) (hk : k ≤ 2100) (hz : z ≤ 80000) (hM : M ≤ 10000000) (hI : IV V b M T σ) (hN : ∀ (N' M' T' : Nat) (σ' : Mem) (k' z' : Nat), k' ≤ k + 1 → z' ≤ z + 6 → M' ≤ M + 10000 → IV V b M' T' σ' → Wm V X 7 N' σ' k' z' 1745 [(4, .int (nI i)), (3, .ref (b + 1480)), (2, .ref (b + 1457)), (1, .ref b), (0, .ref sb)] []) : Wm V X 7 N σ k z 610 [(4, .int (nI i)), (3, .ref (b + 1480)), (2, .ref (b + 1457)), (1, .ref b), (0, .ref sb)] [] := by
  obtain ⟨hT, hHT, ⟨z0, hout⟩, u, h, P, L0_, ⟨hu, hh, hP, hkk, hm0, hw0, hok⟩, hHR, t, hBy, hBr⟩ := hI
  refine m_aload_n F rfl e_L_law_610 ?_
  refine m_aload_n F rfl e_L_law_611 ?_
  refine m_iload F rfl e_L_law_612 ?_
  refine m_iconst F (v := 1) (by decide) e_L_law_614 ?_
  refine m_iadd F e_L_law_615 ?_
  refine Wm.topE (w := nI (i + 1)) (nI_add i 1) ?_
  refine m_sld F (j := i + 1) e_L_law_616 hX hb (nI_clamp (by omega)) (vp_in_nI (by omega) (by omega)) ?_
  refine m_aload_n F rfl e_L_law_617 ?_
  refine m_iload F rfl e_L_law_618 ?_
  refine m_iconst F (v := 2) (by decide) e_L_law_620 ?_
  refine m_iadd F e_L_law_621 ?_
  refine Wm.topE (w := nI (i + 2)) (nI_add i 2) ?_
  refine m_sld F (j := i + 2) e_L_law_622 hX hb (nI_clamp (by omega)) (vp_in_nI (by omega) (by omega)) ?_
  refine l_callC F e_L_law_623 (s_X9_entry (x_l X) V b M 1 T _ _ b (xs (i + 1)) (xs (i + 2)) hHT kA_b  (by omega)) cb_X9_entry ml_L_72 im_X9_entry se_X9_entry hHT rfl rfl (rest := []) rfl (Nat.le_of_ble_eq_true rfl) ⟨Nat.le_of_ble_eq_true rfl, Nat.le_of_ble_eq_true rfl⟩ (by omega) (by omega) (fun r σ11039 hp => ?_)
  obtain ⟨h11040, x11041, rfl⟩ := hp
  have h11042 := h11040.1
  have h11043 := hHR.keepL (fun a ha _ => h11040.2 a (by rw [show kA _ a = 0 from ha]; decide))
  have h11044 := (h11040.2 (b + 1480) (by rw [show kA _ (b + 1480) = 0 from kA_o]; decide)).trans hout
  have br11046 := hBr.of (h11040.2 (b + 1457 + 1) (by rw [show kA _ (b + 1457 + 1) = 0 from kA_big (by omega)]; decide))
  have by11045 := hBy.keep (h11040.2 (b + 1) (by rw [show kA _ (b + 1) = 2 from kA_t]; decide))
  refine m_pop2_2 F rfl e_L_law_626 ?_
  refine m_aload_n F rfl e_L_law_627 ?_
  refine m_aload_n F rfl e_L_law_628 ?_
  refine m_iload F rfl e_L_law_629 ?_
  refine m_iconst F (v := 1) (by decide) e_L_law_631 ?_
  refine m_iadd F e_L_law_632 ?_
  refine Wm.topE (w := nI (i + 1)) (nI_add i 1) ?_
  refine m_sld F (j := i + 1) e_L_law_633 hX hb (nI_clamp (by omega)) (vp_in_nI (by omega) (by omega)) ?_
  refine m_aload_n F rfl e_L_law_634 ?_
  refine m_iload F rfl e_L_law_635 ?_
  refine m_iconst F (v := 2) (by decide) e_L_law_637 ?_
  refine m_iadd F e_L_law_638 ?_
  refine Wm.topE (w := nI (i + 2)) (nI_add i 2) ?_
  refine m_sld F (j := i + 2) e_L_law_639 hX hb (nI_clamp (by omega)) (vp_in_nI (by omega) (by omega)) ?_
  refine l_callM F e_L_law_640 (q_X10_entry_ (x_l X) V (b + 1457) T 1 u h P L0_ _ _ (xs (i + 1)) (xs (i + 2)) h11043 hok.b hP ) cb_X10_entry_ ml_L_75 im_X10_entry_ se_X10_entry_ h11043 rfl rfl (rest := []) rfl (Nat.le_of_ble_eq_true rfl) ⟨Nat.le_of_ble_eq_true rfl, Nat.le_of_ble_eq_true rfl⟩ (by omega) (by omega) (fun r σ11047 hp => ?_)
  obtain ⟨h11048, x11049, rfl⟩ := hp
  have h11050 := h11048.1
  have h11051 := h11042.keepM (fun a ha => h11048.2 a (by rw [ha]; decide))
  have h11052 := (h11048.2 (b + 1480) (by rw [kC_0 (c := b + 1457) (by omega)]; decide)).trans h11044
  have by11053 := by11045.keep (h11048.2 (b + 1) (by rw [kC_0 (c := b + 1457) (by omega)]; decide))
  have br11054 := br11046.of (h11048.2 (b + 1457 + 1) (by rw [kC_at (k := 1) (by decide)]; decide))
  refine m_pop2_2 F rfl e_L_law_643 ?_
  refine m_goto F e_L_law_644 ?_
  exact hN _ M T _ _ _ (by omega) (by omega) (by omega) ⟨by omega, h11051, ⟨_, h11052⟩, u, h, P, L0_, ⟨hu, hh, hP, hkk, hm0, hw0, hok⟩, h11050, _, by11053, br11054⟩
set_option maxRecDepth 20000 in
theorem lc_12 {V : VX} {X : MX} {nm : String} {b sb N k z i L M T : Nat} {xs : Nat → Int32} {σ : Mem} (F : Fx V X (yLw nm) cL_law 7 ret room_1) (hX : va_X sb L xs (x_s X) V.2.2) (hb : sb < V.2.2.size) (hl : (x_l X).stackTraces = false) (hi : i + 6 ≤ L) (hL : L ≤ 3072) (hk : k ≤ 2100) (hz : z ≤ 80000) (hM : M ≤ 10000000) (hI : IV V b M T σ) (hN : ∀ (N' M' T' : Nat) (σ' : Mem) (k' z' : Nat), k' ≤ k + 1 → z' ≤ z + 6 → M' ≤ M + 10000 → IV V b M' T' σ' → Wm V X 7 N' σ' k' z' 1745 [(4, .int (nI i)), (3, .ref (b + 1480)), (2, .ref (b + 1457)), (1, .ref b), (0, .ref sb)] []) : Wm V X 7 N σ k z 647 [(4, .int (nI i)), (3, .ref (b + 1480)), (2, .ref (b + 1457)), (1, .ref b), (0, .ref sb)] [] := by
  obtain ⟨hT, hHT, ⟨z0, hout⟩, u, h, P, L0_, ⟨hu, hh, hP, hkk, hm0, hw0, hok⟩, hHR, t, hBy, hBr⟩ := hI
  refine m_aload_n F rfl e_L_law_647 ?_
  refine m_aload_n F rfl e_L_law_648 ?_
  refine m_iload F rfl e_L_law_649 ?_
  refine m_iconst F (v := 1) (by decide) e_L_law_651 ?_
  refine m_iadd F e_L_law_652 ?_
  refine Wm.topE (w := nI (i + 1)) (nI_add i 1) ?_
  refine m_sld F (j := i + 1) e_L_law_653 hX hb (nI_clamp (by omega)) (vp_in_nI (by omega) (by omega)) ?_
  refine m_aload_n F rfl e_L_law_654 ?_
  refine m_iload F rfl e_L_law_655 ?_
  refine m_iconst F (v := 2) (by decide) e_L_law_657 ?_
  refine m_iadd F e_L_law_658 ?_
  refine Wm.topE (w := nI (i + 2)) (nI_add i 2) ?_
  refine m_sld F (j := i + 2) e_L_law_659 hX hb (nI_clamp (by omega)) (vp_in_nI (by omega) (by omega)) ?_
  refine l_callC F e_L_law_660 (s_X9_rate (x_l X) V b M 1 T _ _ b (xs (i + 1)) (xs (i + 2)) hHT kA_b  (by omega)) cb_X9_rate ml_L_76 im_X9_rate se_X9_rate hHT rfl rfl (rest := []) rfl (Nat.le_of_ble_eq_true rfl) ⟨Nat.le_of_ble_eq_true rfl, Nat.le_of_ble_eq_true rfl⟩ (by omega) (by omega) (fun r σ11055 hp => ?_)
  obtain ⟨h11056, x11057, rfl⟩ := hp
  have h11058 := h11056.1
  have h11059 := hHR.keepL (fun a ha _ => h11056.2 a (by rw [show kA _ a = 0 from ha]; decide))
  have h11060 := (h11056.2 (b + 1480) (by rw [show kA _ (b + 1480) = 0 from kA_o]; decide)).trans hout
  have br11062 := hBr.of (h11056.2 (b + 1457 + 1) (by rw [show kA _ (b + 1457 + 1) = 0 from kA_big (by omega)]; decide))
  have by11061 := hBy.keep (h11056.2 (b + 1) (by rw [show kA _ (b + 1) = 2 from kA_t]; decide))
  refine m_pop2_2 F rfl e_L_law_663 ?_
  refine m_aload_n F rfl e_L_law_664 ?_
  refine m_aload_n F rfl e_L_law_665 ?_
  refine m_iload F rfl e_L_law_666 ?_
  refine m_iconst F (v := 1) (by decide) e_L_law_668 ?_
  refine m_iadd F e_L_law_669 ?_
  refine Wm.topE (w := nI (i + 1)) (nI_add i 1) ?_
  refine m_sld F (j := i + 1) e_L_law_670 hX hb (nI_clamp (by omega)) (vp_in_nI (by omega) (by omega)) ?_
  refine m_aload_n F rfl e_L_law_671 ?_
  refine m_iload F rfl e_L_law_672 ?_
  refine m_iconst F (v := 2) (by decide) e_L_law_674 ?_
  refine m_iadd F e_L_law_675 ?_
  refine Wm.topE (w := nI (i + 2)) (nI_add i 2) ?_
  refine m_sld F (j := i + 2) e_L_law_676 hX hb (nI_clamp (by omega)) (vp_in_nI (by omega) (by omega)) ?_
  refine l_callM F e_L_law_677 (q_X10_rate (x_l X) V (b + 1457) T 1 u h P L0_ _ _ (xs (i + 1)) (xs (i + 2)) h11059 hok hP (by first | omega | assumption) (by first | omega | assumption)) cb_X10_rate ml_L_79 im_X10_rate se_X10_rate h11059 rfl rfl (rest := []) rfl (Nat.le_of_ble_eq_true rfl) ⟨Nat.le_of_ble_eq_true rfl, Nat.le_of_ble_eq_true rfl⟩ (by omega) (by omega) (fun r σ11063 hp => ?_)
  obtain ⟨u11065, hu11065, L11066, okL11066, h11064, x11067, rfl⟩ := hp
  have h11068 := h11064.1
  have h11069 := h11058.keepM (fun a ha => h11064.2 a (by rw [ha]; decide))
  have h11070 := (h11064.2 (b + 1480) (by rw [kC_0 (c := b + 1457) (by omega)]; decide)).trans h11060
  have by11071 := by11061.keep (h11064.2 (b + 1) (by rw [kC_0 (c := b + 1457) (by omega)]; decide))
  have br11072 := br11062.of (h11064.2 (b + 1457 + 1) (by rw [kC_at (k := 1) (by decide)]; decide))
  refine m_pop2_2 F rfl e_L_law_680 ?_
  refine m_goto F e_L_law_681 ?_
  exact hN _ (M + 1) T _ _ _ (by omega) (by omega) (by omega) ⟨by omega, h11069, ⟨_, h11070⟩, u11065, h, P, L11066, ⟨hu11065, hh, hP, hkk, hm0, hw0, okL11066⟩, h11068, _, by11071, br11072⟩
set_option maxRecDepth 20000 in
theorem lc_13 {V : VX} {X : MX} {nm : String} {b sb N k z i L M T : Nat} {xs : Nat → Int32} {σ : Mem} (F : Fx V X (yLw nm) cL_law 7 ret room_1) (hX : va_X sb L xs (x_s X) V.2.2) (hb : sb < V.2.2.size) (hl : (x_l X).stackTraces = false) (hi : i + 6 ≤ L) (hL : L ≤ 3072) (hk : k ≤ 2100) (hz : z ≤ 80000) (hM : M ≤ 10000000) (hI : IV V b M T σ) (hN : ∀ (N' M' T' : Nat) (σ' : Mem) (k' z' : Nat), k' ≤ k + 1 → z' ≤ z + 6 → M' ≤ M + 10000 → IV V b M' T' σ' → Wm V X 7 N' σ' k' z' 1745 [(4, .int (nI i)), (3, .ref (b + 1480)), (2, .ref (b + 1457)), (1, .ref b), (0, .ref sb)] []) : Wm V X 7 N σ k z 684 [(4, .int (nI i)), (3, .ref (b + 1480)), (2, .ref (b + 1457)), (1, .ref b), (0, .ref sb)] [] := by
  obtain ⟨hT, hHT, ⟨z0, hout⟩, u, h, P, L0_, ⟨hu, hh, hP, hkk, hm0, hw0, hok⟩, hHR, t, hBy, hBr⟩ := hI
  refine m_aload_n F rfl e_L_law_684 ?_
  refine m_aload_n F rfl e_L_law_685 ?_
  refine m_iload F rfl e_L_law_686 ?_
  refine m_iconst F (v := 1) (by decide) e_L_law_688 ?_
  refine m_iadd F e_L_law_689 ?_
  refine Wm.topE (w := nI (i + 1)) (nI_add i 1) ?_
  refine m_sld F (j := i + 1) e_L_law_690 hX hb (nI_clamp (by omega)) (vp_in_nI (by omega) (by omega)) ?_
  refine m_aload_n F rfl e_L_law_691 ?_
  refine m_iload F rfl e_L_law_692 ?_
  refine m_iconst F (v := 2) (by decide) e_L_law_694 ?_
  refine m_iadd F e_L_law_695 ?_
  refine Wm.topE (w := nI (i + 2)) (nI_add i 2) ?_
  refine m_sld F (j := i + 2) e_L_law_696 hX hb (nI_clamp (by omega)) (vp_in_nI (by omega) (by omega)) ?_
  refine l_callC F e_L_law_697 (s_X9_extend (x_l X) V b M 1 T _ _ b (xs (i + 1)) (xs (i + 2)) hHT kA_b  (by omega)) cb_X9_extend ml_L_80 im_X9_extend se_X9_extend hHT rfl rfl (rest := []) rfl (Nat.le_of_ble_eq_true rfl) ⟨Nat.le_of_ble_eq_true rfl, Nat.le_of_ble_eq_true rfl⟩ (by omega) (by omega) (fun r σ11073 hp => ?_)
  obtain ⟨h11074, x11075, rfl⟩ := hp
  have h11076 := h11074.1
  have h11077 := hHR.keepL (fun a ha _ => h11074.2 a (by rw [show kA _ a = 0 from ha]; decide))
  have h11078 := (h11074.2 (b + 1480) (by rw [show kA _ (b + 1480) = 0 from kA_o]; decide)).trans hout
  have br11080 := hBr.of (h11074.2 (b + 1457 + 1) (by rw [show kA _ (b + 1457 + 1) = 0 from kA_big (by omega)]; decide))
  have by11079 := hBy.keep (h11074.2 (b + 1) (by rw [show kA _ (b + 1) = 2 from kA_t]; decide))
  refine m_pop2_2 F rfl e_L_law_700 ?_
  refine m_aload_n F rfl e_L_law_701 ?_
  refine m_aload_n F rfl e_L_law_702 ?_
  refine m_iload F rfl e_L_law_703 ?_
  refine m_iconst F (v := 1) (by decide) e_L_law_705 ?_
  refine m_iadd F e_L_law_706 ?_
  refine Wm.topE (w := nI (i + 1)) (nI_add i 1) ?_
  refine m_sld F (j := i + 1) e_L_law_707 hX hb (nI_clamp (by omega)) (vp_in_nI (by omega) (by omega)) ?_
  refine m_aload_n F rfl e_L_law_708 ?_
  refine m_iload F rfl e_L_law_709 ?_
  refine m_iconst F (v := 2) (by decide) e_L_law_711 ?_
  refine m_iadd F e_L_law_712 ?_
  refine Wm.topE (w := nI (i + 2)) (nI_add i 2) ?_
  refine m_sld F (j := i + 2) e_L_law_713 hX hb (nI_clamp (by omega)) (vp_in_nI (by omega) (by omega)) ?_
  refine l_callM F e_L_law_714 (q_X10_extend (x_l X) V (b + 1457) T 1 u h P L0_ _ _ (xs (i + 1)) (xs (i + 2)) h11077 hok hP (by first | omega | assumption) (by first | omega | assumption)) cb_X10_extend ml_L_83 im_X10_extend se_X10_extend h11077 rfl rfl (rest := []) rfl (Nat.le_of_ble_eq_true rfl) ⟨Nat.le_of_ble_eq_true rfl, Nat.le_of_ble_eq_true rfl⟩ (by omega) (by omega) (fun r σ11081 hp => ?_)
  obtain ⟨u11083, hu11083, L11084, okL11084, h11082, x11085, rfl⟩ := hp
  have h11086 := h11082.1
  have h11087 := h11076.keepM (fun a ha => h11082.2 a (by rw [ha]; decide))
  have h11088 := (h11082.2 (b + 1480) (by rw [kC_0 (c := b + 1457) (by omega)]; decide)).trans h11078
  have by11089 := by11079.keep (h11082.2 (b + 1) (by rw [kC_0 (c := b + 1457) (by omega)]; decide))
  have br11090 := br11080.of (h11082.2 (b + 1457 + 1) (by rw [kC_at (k := 1) (by decide)]; decide))
  refine m_pop2_2 F rfl e_L_law_717 ?_
  refine m_goto F e_L_law_718 ?_
  exact hN _ (M + 1) T _ _ _ (by omega) (by omega) (by omega) ⟨by omega, h11087, ⟨_, h11088⟩, u11083, h, P, L11084, ⟨hu11083, hh, hP, hkk, hm0, hw0, okL11084⟩, h11086, _, by11089, br11090⟩
