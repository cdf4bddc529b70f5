set_option maxRecDepth 20000 in
theorem lc_0 {V : VX} {X : MX} {nm : String} {b sb N k z i L M T : Nat} {xs : Nat → Int32} {σ : Mem} (F : Fx V X (yLw nm) cL_law 7 ret room_1) (hX : va_X sb L xs (x_s X) V.2.2) (hb : sb < V.2.2.size) (hl : (x_l X).stackTraces = false) (hi : i + 6 ≤ L) (hL : L ≤ 3072) (hk : k ≤ 2100) (hz : z ≤ 80000) (hM : M ≤ 10000000) (hI : IV V b M T σ) (hN : ∀ (N' M' T' : Nat) (σ' : Mem) (k' z' : Nat), k' ≤ k + 1 → z' ≤ z + 6 → M' ≤ M + 10000 → IV V b M' T' σ' → Wm V X 7 N' σ' k' z' 1745 [(4, .int (nI i)), (3, .ref (b + 1480)), (2, .ref (b + 1457)), (1, .ref b), (0, .ref sb)] []) : Wm V X 7 N σ k z 224 [(4, .int (nI i)), (3, .ref (b + 1480)), (2, .ref (b + 1457)), (1, .ref b), (0, .ref sb)] [] := by
  obtain ⟨hT, G, hG, hHT, ⟨z0, hout⟩, u, h, P, L0_, ⟨hu, hh, hP, hkk, hm0, hw0, hok⟩, hHR, hNg, t, hBy, hBr⟩ := hI
  refine m_aload_n F rfl e_L_law_224 ?_
  refine m_aload_n F rfl e_L_law_225 ?_
  refine m_iload F rfl e_L_law_226 ?_
  refine m_iconst F (v := 1) (by decide) e_L_law_228 ?_
  refine m_iadd F e_L_law_229 ?_
  refine Wm.topE (w := nI (i + 1)) (nI_add i 1) ?_
  refine m_sld F (j := i + 1) e_L_law_230 hX hb (nI_clamp (by omega)) (vp_in_nI (by omega) (by omega)) ?_
  refine m_aload_n F rfl e_L_law_231 ?_
  refine m_iload F rfl e_L_law_232 ?_
  refine m_iconst F (v := 2) (by decide) e_L_law_234 ?_
  refine m_iadd F e_L_law_235 ?_
  refine Wm.topE (w := nI (i + 2)) (nI_add i 2) ?_
  refine m_sld F (j := i + 2) e_L_law_236 hX hb (nI_clamp (by omega)) (vp_in_nI (by omega) (by omega)) ?_
  refine m_aload_n F rfl e_L_law_237 ?_
  refine m_iload F rfl e_L_law_238 ?_
  refine m_iconst F (v := 3) (by decide) e_L_law_240 ?_
  refine m_iadd F e_L_law_241 ?_
  refine Wm.topE (w := nI (i + 3)) (nI_add i 3) ?_
  refine m_sld F (j := i + 3) e_L_law_242 hX hb (nI_clamp (by omega)) (vp_in_nI (by omega) (by omega)) ?_
  refine m_aload_n F rfl e_L_law_243 ?_
  refine m_iload F rfl e_L_law_244 ?_
  refine m_iconst F (v := 4) (by decide) e_L_law_246 ?_
  refine m_iadd F e_L_law_247 ?_
  refine Wm.topE (w := nI (i + 4)) (nI_add i 4) ?_
  refine m_sld F (j := i + 4) e_L_law_248 hX hb (nI_clamp (by omega)) (vp_in_nI (by omega) (by omega)) ?_
  refine m_aload_n F rfl e_L_law_249 ?_
  refine m_iload F rfl e_L_law_250 ?_
  refine m_iconst F (v := 5) (by decide) e_L_law_252 ?_
  refine m_iadd F e_L_law_253 ?_
  refine Wm.topE (w := nI (i + 5)) (nI_add i 5) ?_
  refine m_sld F (j := i + 5) e_L_law_254 hX hb (nI_clamp (by omega)) (vp_in_nI (by omega) (by omega)) ?_
  obtain ⟨t2, ht2, hbt⟩ : ∃ t2 : Nat → Nat, (∀ i, i < T → t2 i = t i) ∧ ∀ k, k < 20 → t2 (T + k) = fb (xs (i + 1)) (xs (i + 2)) (xs (i + 3)) (xs (i + 4)) (xs (i + 5)) k := ⟨fun j9 => if j9 < T then t j9 else fb (xs (i + 1)) (xs (i + 2)) (xs (i + 3)) (xs (i + 4)) (xs (i + 5)) (j9 - T), fun i hi => if_pos hi, fun k hk => by show (if T + k < T then _ else _) = _; rw [if_neg (by omega), Nat.add_sub_cancel_left]⟩
  have hBy2 := hBy.ext ht2
  have hBr2 := hBr.ext ht2
  refine l_callC F e_L_law_255 (s_X9_feedE (x_l X) V G b M 1 T _ _ b (xs (i + 1)) (xs (i + 2)) (xs (i + 3)) (xs (i + 4)) (xs (i + 5)) t2 hHT kA_b (by omega) hG hBy2 hbt (by omega)) cb_X9_feed ml_L_21 im_X9_feed se_X9_feed hHT rfl rfl (rest := []) rfl (Nat.le_of_ble_eq_true rfl) ⟨Nat.le_of_ble_eq_true rfl, Nat.le_of_ble_eq_true rfl⟩ (by omega) (by omega) (fun r σ10743 hp => ?_)
  rcases hp with ⟨g10745, h10744, ef, rfl⟩ | ⟨g10745, h10744, by20, rfl⟩
  · have h10746 := h10744.1
    have h10747 := hHR.keepL (fun a ha _ => h10744.2 a (by rw [show kA _ a = 0 from ha]; decide))
    have h10748 := (h10744.2 (b + 1480) (by rw [show kA _ (b + 1480) = 0 from kA_o]; decide)).trans hout
    have br10750 := hBr2.of (h10744.2 (b + 1457 + 1) (by rw [show kA _ (b + 1457 + 1) = 0 from kA_big (by omega)]; decide))
    refine m_pop F rfl e_L_law_258 ?_
    refine m_aload_n F rfl e_L_law_259 ?_
    refine m_aload_n F rfl e_L_law_260 ?_
    refine m_iload F rfl e_L_law_261 ?_
    refine m_iconst F (v := 1) (by decide) e_L_law_263 ?_
    refine m_iadd F e_L_law_264 ?_
    refine Wm.topE (w := nI (i + 1)) (nI_add i 1) ?_
    refine m_sld F (j := i + 1) e_L_law_265 hX hb (nI_clamp (by omega)) (vp_in_nI (by omega) (by omega)) ?_
    refine m_aload_n F rfl e_L_law_266 ?_
    refine m_iload F rfl e_L_law_267 ?_
    refine m_iconst F (v := 2) (by decide) e_L_law_269 ?_
    refine m_iadd F e_L_law_270 ?_
    refine Wm.topE (w := nI (i + 2)) (nI_add i 2) ?_
    refine m_sld F (j := i + 2) e_L_law_271 hX hb (nI_clamp (by omega)) (vp_in_nI (by omega) (by omega)) ?_
    refine m_aload_n F rfl e_L_law_272 ?_
    refine m_iload F rfl e_L_law_273 ?_
    refine m_iconst F (v := 3) (by decide) e_L_law_275 ?_
    refine m_iadd F e_L_law_276 ?_
    refine Wm.topE (w := nI (i + 3)) (nI_add i 3) ?_
    refine m_sld F (j := i + 3) e_L_law_277 hX hb (nI_clamp (by omega)) (vp_in_nI (by omega) (by omega)) ?_
    refine m_aload_n F rfl e_L_law_278 ?_
    refine m_iload F rfl e_L_law_279 ?_
    refine m_iconst F (v := 4) (by decide) e_L_law_281 ?_
    refine m_iadd F e_L_law_282 ?_
    refine Wm.topE (w := nI (i + 4)) (nI_add i 4) ?_
    refine m_sld F (j := i + 4) e_L_law_283 hX hb (nI_clamp (by omega)) (vp_in_nI (by omega) (by omega)) ?_
    refine m_aload_n F rfl e_L_law_284 ?_
    refine m_iload F rfl e_L_law_285 ?_
    refine m_iconst F (v := 5) (by decide) e_L_law_287 ?_
    refine m_iadd F e_L_law_288 ?_
    refine Wm.topE (w := nI (i + 5)) (nI_add i 5) ?_
    refine m_sld F (j := i + 5) e_L_law_289 hX hb (nI_clamp (by omega)) (vp_in_nI (by omega) (by omega)) ?_
    refine l_callM F e_L_law_290 (q_X10_feedE (x_l X) V (b + 1457) T 1 u h P L0_ _ _ (xs (i + 1)) (xs (i + 2)) (xs (i + 3)) (xs (i + 4)) (xs (i + 5)) t2 h10747 hok.b hP (by first | omega | assumption) br10750 hbt) cb_X10_feed ml_L_25 im_X10_feed se_X10_feed h10747 rfl rfl (rest := []) rfl (Nat.le_of_ble_eq_true rfl) ⟨Nat.le_of_ble_eq_true rfl, Nat.le_of_ble_eq_true rfl⟩ (by omega) (by omega) (fun r σ10751 hp => ?_)
    rcases hp with ⟨g10753, h10752, er, rfl⟩ | ⟨g10753, h10752, br20, rfl⟩
    · have h10754 := h10752.1
      have h10755 := h10746.keepM (fun a ha => h10752.2 a (by rw [ha]; decide))
      have h10756 := (h10752.2 (b + 1480) (by rw [kC_0 (c := b + 1457) (by omega)]; decide)).trans h10748
      have by10757 := (hBy2.keep (by rw [ef])).keep (h10752.2 (b + 1) (by rw [kC_0 (c := b + 1457) (by omega)]; decide))
      refine m_pop F rfl e_L_law_293 ?_
      refine m_goto F e_L_law_294 ?_
      exact hN _ M T _ _ _ (by omega) (by omega) (by omega) ⟨by omega, G, hG, h10755, ⟨_, h10756⟩, u, h, P, L0_, ⟨hu, hh, hP, hkk, hm0, hw0, hok⟩, h10754, hNg, _, by10757, (br10750.of er)⟩
    · exfalso; omega
  · have h10759 := h10744.1
    have h10760 := hHR.keepL (fun a ha _ => h10744.2 a (by rw [show kA _ a = 0 from ha]; decide))
    have h10761 := (h10744.2 (b + 1480) (by rw [show kA _ (b + 1480) = 0 from kA_o]; decide)).trans hout
    have br10763 := hBr2.of (h10744.2 (b + 1457 + 1) (by rw [show kA _ (b + 1457 + 1) = 0 from kA_big (by omega)]; decide))
    refine m_pop F rfl e_L_law_258 ?_
    refine m_aload_n F rfl e_L_law_259 ?_
    refine m_aload_n F rfl e_L_law_260 ?_
    refine m_iload F rfl e_L_law_261 ?_
    refine m_iconst F (v := 1) (by decide) e_L_law_263 ?_
    refine m_iadd F e_L_law_264 ?_
    refine Wm.topE (w := nI (i + 1)) (nI_add i 1) ?_
    refine m_sld F (j := i + 1) e_L_law_265 hX hb (nI_clamp (by omega)) (vp_in_nI (by omega) (by omega)) ?_
    refine m_aload_n F rfl e_L_law_266 ?_
    refine m_iload F rfl e_L_law_267 ?_
    refine m_iconst F (v := 2) (by decide) e_L_law_269 ?_
    refine m_iadd F e_L_law_270 ?_
    refine Wm.topE (w := nI (i + 2)) (nI_add i 2) ?_
    refine m_sld F (j := i + 2) e_L_law_271 hX hb (nI_clamp (by omega)) (vp_in_nI (by omega) (by omega)) ?_
    refine m_aload_n F rfl e_L_law_272 ?_
    refine m_iload F rfl e_L_law_273 ?_
    refine m_iconst F (v := 3) (by decide) e_L_law_275 ?_
    refine m_iadd F e_L_law_276 ?_
    refine Wm.topE (w := nI (i + 3)) (nI_add i 3) ?_
    refine m_sld F (j := i + 3) e_L_law_277 hX hb (nI_clamp (by omega)) (vp_in_nI (by omega) (by omega)) ?_
    refine m_aload_n F rfl e_L_law_278 ?_
    refine m_iload F rfl e_L_law_279 ?_
    refine m_iconst F (v := 4) (by decide) e_L_law_281 ?_
    refine m_iadd F e_L_law_282 ?_
    refine Wm.topE (w := nI (i + 4)) (nI_add i 4) ?_
    refine m_sld F (j := i + 4) e_L_law_283 hX hb (nI_clamp (by omega)) (vp_in_nI (by omega) (by omega)) ?_
    refine m_aload_n F rfl e_L_law_284 ?_
    refine m_iload F rfl e_L_law_285 ?_
    refine m_iconst F (v := 5) (by decide) e_L_law_287 ?_
    refine m_iadd F e_L_law_288 ?_
    refine Wm.topE (w := nI (i + 5)) (nI_add i 5) ?_
    refine m_sld F (j := i + 5) e_L_law_289 hX hb (nI_clamp (by omega)) (vp_in_nI (by omega) (by omega)) ?_
    refine l_callM F e_L_law_290 (q_X10_feedE (x_l X) V (b + 1457) T 1 u h P L0_ _ _ (xs (i + 1)) (xs (i + 2)) (xs (i + 3)) (xs (i + 4)) (xs (i + 5)) t2 h10760 hok.b hP (by first | omega | assumption) br10763 hbt) cb_X10_feed ml_L_25 im_X10_feed se_X10_feed h10760 rfl rfl (rest := []) rfl (Nat.le_of_ble_eq_true rfl) ⟨Nat.le_of_ble_eq_true rfl, Nat.le_of_ble_eq_true rfl⟩ (by omega) (by omega) (fun r σ10764 hp => ?_)
    rcases hp with ⟨g10766, h10765, er, rfl⟩ | ⟨g10766, h10765, br20, rfl⟩
    · exfalso; omega
    · have h10767 := h10765.1
      have h10768 := h10759.keepM (fun a ha => h10765.2 a (by rw [ha]; decide))
      have h10769 := (h10765.2 (b + 1480) (by rw [kC_0 (c := b + 1457) (by omega)]; decide)).trans h10761
      have by10770 := by20.keep (h10765.2 (b + 1) (by rw [kC_0 (c := b + 1457) (by omega)]; decide))
      refine m_pop F rfl e_L_law_293 ?_
      refine m_goto F e_L_law_294 ?_
      exact hN _ M (T + 20) _ _ _ (by omega) (by omega) (by omega) ⟨by omega, G, hG, h10768, ⟨_, h10769⟩, u, h, P, L0_, ⟨hu, hh, hP, hkk, hm0, hw0, hok⟩, h10767, hNg, _, by10770, br20⟩
set_option maxRecDepth 20000 in
theorem lc_1 {V : VX} {X : MX} {nm : String} {b sb N k z i L M T : Nat} {xs : Nat → Int32} {σ : Mem} (F : Fx V X (yLw nm) cL_law 7 ret room_1) (hX : va_X sb L xs (x_s X) V.2.2) (hb : sb < V.2.2.size) (hl : (x_l X).stackTraces = false) (hi : i + 6 ≤ L) (hL : L ≤ 3072) (hk : k ≤ 2100) (hz : z ≤ 80000) (hM : M ≤ 10000000) (hI : IV V b M T σ) (hN : ∀ (N' M' T' : Nat) (σ' : Mem) (k' z' : Nat), k' ≤ k + 1 → z' ≤ z + 6 → M' ≤ M + 10000 → IV V b M' T' σ' → Wm V X 7 N' σ' k' z' 1745 [(4, .int (nI i)), (3, .ref (b + 1480)), (2, .ref (b + 1457)), (1, .ref b), (0, .ref sb)] []) : Wm V X 7 N σ k z 297 [(4, .int (nI i)), (3, .ref (b + 1480)), (2, .ref (b + 1457)), (1, .ref b), (0, .ref sb)] [] := by
  obtain ⟨hT, G, hG, hHT, ⟨z0, hout⟩, u, h, P, L0_, ⟨hu, hh, hP, hkk, hm0, hw0, hok⟩, hHR, hNg, t, hBy, hBr⟩ := hI
  refine m_aload_n F rfl e_L_law_297 ?_
  refine m_aload_n F rfl e_L_law_298 ?_
  refine m_iload F rfl e_L_law_299 ?_
  refine m_iconst F (v := 1) (by decide) e_L_law_301 ?_
  refine m_iadd F e_L_law_302 ?_
  refine Wm.topE (w := nI (i + 1)) (nI_add i 1) ?_
  refine m_sld F (j := i + 1) e_L_law_303 hX hb (nI_clamp (by omega)) (vp_in_nI (by omega) (by omega)) ?_
  refine l_callC F e_L_law_304 (s_X9_textE (x_l X) V G b M 1 T _ _ b (xs (i + 1)) t hHT kA_b (by omega) hG hBy (by omega)) cb_X9_text ml_L_26 im_X9_text se_X9_text hHT rfl rfl (rest := []) rfl (Nat.le_of_ble_eq_true rfl) ⟨Nat.le_of_ble_eq_true rfl, Nat.le_of_ble_eq_true rfl⟩ (by omega) (by omega) (fun r σ10772 hp => ?_)
  rcases hp with ⟨gt, h10773, et, rfl⟩ | ⟨n1, en, gt, rfl, ⟨e1, ee1, h10773⟩ | ⟨S1, ee1, G2, ok2, gn2, gm2, h10773⟩⟩
  · have h10774 := h10773.1
    have h10775 := hHR.keepL (fun a ha _ => h10773.2 a (by rw [show kA _ a = 0 from ha]; decide))
    have h10776 := (h10773.2 (b + 1480) (by rw [show kA _ (b + 1480) = 0 from kA_o]; decide)).trans hout
    have br10778 := hBr.of (h10773.2 (b + 1457 + 1) (by rw [show kA _ (b + 1457 + 1) = 0 from kA_big (by omega)]; decide))
    have by10777 := hBy.keep (h10773.2 (b + 1) (by rw [show kA _ (b + 1) = 2 from kA_t]; decide))
    refine m_pop F rfl e_L_law_307 ?_
    refine m_aload_n F rfl e_L_law_308 ?_
    refine m_aload_n F rfl e_L_law_309 ?_
    refine m_iload F rfl e_L_law_310 ?_
    refine m_iconst F (v := 1) (by decide) e_L_law_312 ?_
    refine m_iadd F e_L_law_313 ?_
    refine Wm.topE (w := nI (i + 1)) (nI_add i 1) ?_
    refine m_sld F (j := i + 1) e_L_law_314 hX hb (nI_clamp (by omega)) (vp_in_nI (by omega) (by omega)) ?_
    refine l_callM F e_L_law_315 (q_X10_textE (x_l X) V (b + 1457) T 1 u h P L0_ _ _ (xs (i + 1)) t h10775 hok hP (by first | omega | assumption) (by first | omega | assumption) (by first | omega | assumption) (by first | omega | assumption) (by first | omega | assumption) (by first | omega | assumption) br10778) cb_X10_text ml_L_30 im_X10_text se_X10_text h10775 rfl rfl (rest := []) rfl (Nat.le_of_ble_eq_true rfl) ⟨Nat.le_of_ble_eq_true rfl, Nat.le_of_ble_eq_true rfl⟩ (by omega) (by omega) (fun r σ10779 hp => ?_)
    rcases hp with ⟨gm, h10780, -, rfl⟩ | ⟨n2, em, gm, rfl, u2, h2, P2, L2, ⟨hu2, hh2, hP2, hkk2, hm2, hw2, hok2⟩, ⟨e2, ee2, pn, pb0, pb1, pb2, pb3⟩ | ⟨S2, ee2, pn, tb⟩, h10780⟩
    · have h10781 := h10780.1
      have h10782 := h10774.keepM (fun a ha => h10780.2 a (by rw [ha]; decide))
      have h10783 := (h10780.2 (b + 1480) (by rw [kC_0 (c := b + 1457) (by omega)]; decide)).trans h10776
      have by10784 := by10777.keep (h10780.2 (b + 1) (by rw [kC_0 (c := b + 1457) (by omega)]; decide))
      have br10785 := br10778.of (h10780.2 (b + 1457 + 1) (by rw [kC_at (k := 1) (by decide)]; decide))
      refine m_pop F rfl e_L_law_318 ?_
      refine m_goto F e_L_law_319 ?_
      exact hN _ M T _ _ _ (by omega) (by omega) (by omega) ⟨by omega, G, hG, h10782, ⟨_, h10783⟩, u, h, P, L0_, ⟨hu, hh, hP, hkk, hm0, hw0, hok⟩, h10781, hNg, _, by10784, br10785⟩
    · exact absurd gt (tx_no em gm (by omega))
    · exact absurd gt (tx_no em gm (by omega))
  · have h10786 := h10773.1
    have h10787 := hHR.keepL (fun a ha _ => h10773.2 a (by rw [show kA _ a = 0 from ha]; decide))
    have h10788 := (h10773.2 (b + 1480) (by rw [show kA _ (b + 1480) = 0 from kA_o]; decide)).trans hout
    have br10790 := hBr.of (h10773.2 (b + 1457 + 1) (by rw [show kA _ (b + 1457 + 1) = 0 from kA_big (by omega)]; decide))
    have by10789 := hBy.keep (h10773.2 (b + 1) (by rw [show kA _ (b + 1) = 2 from kA_t]; decide))
    refine m_pop F rfl e_L_law_307 ?_
    refine m_aload_n F rfl e_L_law_308 ?_
    refine m_aload_n F rfl e_L_law_309 ?_
    refine m_iload F rfl e_L_law_310 ?_
    refine m_iconst F (v := 1) (by decide) e_L_law_312 ?_
    refine m_iadd F e_L_law_313 ?_
    refine Wm.topE (w := nI (i + 1)) (nI_add i 1) ?_
    refine m_sld F (j := i + 1) e_L_law_314 hX hb (nI_clamp (by omega)) (vp_in_nI (by omega) (by omega)) ?_
    refine l_callM F e_L_law_315 (q_X10_textE (x_l X) V (b + 1457) T 1 u h P L0_ _ _ (xs (i + 1)) t h10787 hok hP (by first | omega | assumption) (by first | omega | assumption) (by first | omega | assumption) (by first | omega | assumption) (by first | omega | assumption) (by first | omega | assumption) br10790) cb_X10_text ml_L_30 im_X10_text se_X10_text h10787 rfl rfl (rest := []) rfl (Nat.le_of_ble_eq_true rfl) ⟨Nat.le_of_ble_eq_true rfl, Nat.le_of_ble_eq_true rfl⟩ (by omega) (by omega) (fun r σ10791 hp => ?_)
    rcases hp with ⟨gm, h10792, -, rfl⟩ | ⟨n2, em, gm, rfl, u2, h2, P2, L2, ⟨hu2, hh2, hP2, hkk2, hm2, hw2, hok2⟩, ⟨e2, ee2, pn, pb0, pb1, pb2, pb3⟩ | ⟨S2, ee2, pn, tb⟩, h10792⟩
    · exact absurd gm (tx_no en gt (by omega))
    · obtain rfl : n1 = n2 := nI_inj (by omega) (by omega) (en.symm.trans em)
      have h10793 := h10792.1
      have h10794 := h10786.keepM (fun a ha => h10792.2 a (by rw [ha]; decide))
      have h10795 := (h10792.2 (b + 1480) (by rw [kC_0 (c := b + 1457) (by omega)]; decide)).trans h10788
      have by10796 := by10789.keep (h10792.2 (b + 1) (by rw [kC_0 (c := b + 1457) (by omega)]; decide))
      have br10797 := br10790.of (h10792.2 (b + 1457 + 1) (by rw [kC_at (k := 1) (by decide)]; decide))
      refine m_pop F rfl e_L_law_318 ?_
      refine m_goto F e_L_law_319 ?_
      exact hN _ M 0 _ _ _ (by omega) (by omega) (by omega) ⟨by omega, G, hG, h10794, ⟨_, h10795⟩, u2, h2, P2, L2, ⟨hu2, hh2, hP2, hkk2, hm2, hw2, hok2⟩, h10793, (hNg.same pn pb0 pb1 pb2 pb3), _, (by10796.to (m2 := 0) (Nat.zero_le _)), (br10797.to (m := 0) (Nat.zero_le _))⟩
    · obtain rfl : n1 = n2 := nI_inj (by omega) (by omega) (en.symm.trans em)
      exact absurd (ee1.symm.trans ee2) (fun e => by cases e)
  · have h10798 := h10773.1
    have h10799 := hHR.keepL (fun a ha _ => h10773.2 a (by rw [show kA _ a = 0 from ha]; decide))
    have h10800 := (h10773.2 (b + 1480) (by rw [show kA _ (b + 1480) = 0 from kA_o]; decide)).trans hout
    have br10802 := hBr.of (h10773.2 (b + 1457 + 1) (by rw [show kA _ (b + 1457 + 1) = 0 from kA_big (by omega)]; decide))
    have by10801 := hBy.keep (h10773.2 (b + 1) (by rw [show kA _ (b + 1) = 2 from kA_t]; decide))
    refine m_pop F rfl e_L_law_307 ?_
    refine m_aload_n F rfl e_L_law_308 ?_
    refine m_aload_n F rfl e_L_law_309 ?_
    refine m_iload F rfl e_L_law_310 ?_
    refine m_iconst F (v := 1) (by decide) e_L_law_312 ?_
    refine m_iadd F e_L_law_313 ?_
    refine Wm.topE (w := nI (i + 1)) (nI_add i 1) ?_
    refine m_sld F (j := i + 1) e_L_law_314 hX hb (nI_clamp (by omega)) (vp_in_nI (by omega) (by omega)) ?_
    refine l_callM F e_L_law_315 (q_X10_textE (x_l X) V (b + 1457) T 1 u h P L0_ _ _ (xs (i + 1)) t h10799 hok hP (by first | omega | assumption) (by first | omega | assumption) (by first | omega | assumption) (by first | omega | assumption) (by first | omega | assumption) (by first | omega | assumption) br10802) cb_X10_text ml_L_30 im_X10_text se_X10_text h10799 rfl rfl (rest := []) rfl (Nat.le_of_ble_eq_true rfl) ⟨Nat.le_of_ble_eq_true rfl, Nat.le_of_ble_eq_true rfl⟩ (by omega) (by omega) (fun r σ10803 hp => ?_)
    rcases hp with ⟨gm, h10804, -, rfl⟩ | ⟨n2, em, gm, rfl, u2, h2, P2, L2, ⟨hu2, hh2, hP2, hkk2, hm2, hw2, hok2⟩, ⟨e2, ee2, pn, pb0, pb1, pb2, pb3⟩ | ⟨S2, ee2, pn, tb⟩, h10804⟩
    · exact absurd gm (tx_no en gt (by omega))
    · obtain rfl : n1 = n2 := nI_inj (by omega) (by omega) (en.symm.trans em)
      exact absurd (ee1.symm.trans ee2) (fun e => by cases e)
    · obtain rfl : n1 = n2 := nI_inj (by omega) (by omega) (en.symm.trans em)
      obtain rfl : S1 = S2 := Sum.inr.inj (ee1.symm.trans ee2)
      have h10805 := h10804.1
      have h10806 := h10798.keepM (fun a ha => h10804.2 a (by rw [ha]; decide))
      have h10807 := (h10804.2 (b + 1480) (by rw [kC_0 (c := b + 1457) (by omega)]; decide)).trans h10800
      have by10808 := by10801.keep (h10804.2 (b + 1) (by rw [kC_0 (c := b + 1457) (by omega)]; decide))
      have br10809 := br10802.of (h10804.2 (b + 1457 + 1) (by rw [kC_at (k := 1) (by decide)]; decide))
      refine m_pop F rfl e_L_law_318 ?_
      refine m_goto F e_L_law_319 ?_
      exact hN _ M 0 _ _ _ (by omega) (by omega) (by omega) ⟨by omega, G2, ok2, h10806, ⟨_, h10807⟩, u2, h2, P2, L2, ⟨hu2, hh2, hP2, hkk2, hm2, hw2, hok2⟩, h10805, (NG.text gn2 gm2 pn tb), _, (by10808.to (m2 := 0) (Nat.zero_le _)), (br10809.to (m := 0) (Nat.zero_le _))⟩
set_option maxRecDepth 20000 in
theorem lc_2 {V : VX} {X : MX} {nm : String} {b sb N k z i L M T : Nat} {xs : Nat → Int32} {σ : Mem} (F : Fx V X (yLw nm) cL_law 7 ret room_1) (hX : va_X sb L xs (x_s X) V.2.2) (hb : sb < V.2.2.size) (hl : (x_l X).stackTraces = false) (hi : i + 6 ≤ L) (hL : L ≤ 3072) (hk : k ≤ 2100) (hz : z ≤ 80000) (hM : M ≤ 10000000) (hI : IV V b M T σ) (hN : ∀ (N' M' T' : Nat) (σ' : Mem) (k' z' : Nat), k' ≤ k + 1 → z' ≤ z + 6 → M' ≤ M + 10000 → IV V b M' T' σ' → Wm V X 7 N' σ' k' z' 1745 [(4, .int (nI i)), (3, .ref (b + 1480)), (2, .ref (b + 1457)), (1, .ref b), (0, .ref sb)] []) : Wm V X 7 N σ k z 322 [(4, .int (nI i)), (3, .ref (b + 1480)), (2, .ref (b + 1457)), (1, .ref b), (0, .ref sb)] [] := by
  obtain ⟨hT, G, hG, hHT, ⟨z0, hout⟩, u, h, P, L0_, ⟨hu, hh, hP, hkk, hm0, hw0, hok⟩, hHR, hNg, t, hBy, hBr⟩ := hI
  refine m_aload_n F rfl e_L_law_322 ?_
  refine m_aload_n F rfl e_L_law_323 ?_
  refine m_iload F rfl e_L_law_324 ?_
  refine m_iconst F (v := 1) (by decide) e_L_law_326 ?_
  refine m_iadd F e_L_law_327 ?_
  refine Wm.topE (w := nI (i + 1)) (nI_add i 1) ?_
  refine m_sld F (j := i + 1) e_L_law_328 hX hb (nI_clamp (by omega)) (vp_in_nI (by omega) (by omega)) ?_
  refine l_callC F e_L_law_329 (s_X9_fault (x_l X) V G b M 1 T _ _ b (xs (i + 1)) hHT kA_b hG (by omega)) cb_X9_fault ml_L_31 im_X9_fault se_X9_fault hHT rfl rfl (rest := []) rfl (Nat.le_of_ble_eq_true rfl) ⟨Nat.le_of_ble_eq_true rfl, Nat.le_of_ble_eq_true rfl⟩ (by omega) (by omega) (fun r σ10810 hp => ?_)
  obtain ⟨h10811, x10812, rfl⟩ := hp
  have h10813 := h10811.1
  have h10814 := hHR.keepL (fun a ha _ => h10811.2 a (by rw [show kA _ a = 0 from ha]; decide))
  have h10815 := (h10811.2 (b + 1480) (by rw [show kA _ (b + 1480) = 0 from kA_o]; decide)).trans hout
  have br10817 := hBr.of (h10811.2 (b + 1457 + 1) (by rw [show kA _ (b + 1457 + 1) = 0 from kA_big (by omega)]; decide))
  have by10816 := hBy.keep (h10811.2 (b + 1) (by rw [show kA _ (b + 1) = 2 from kA_t]; decide))
  refine m_pop F rfl e_L_law_332 ?_
  refine m_aload_n F rfl e_L_law_333 ?_
  refine m_aload_n F rfl e_L_law_334 ?_
  refine m_iload F rfl e_L_law_335 ?_
  refine m_iconst F (v := 1) (by decide) e_L_law_337 ?_
  refine m_iadd F e_L_law_338 ?_
  refine Wm.topE (w := nI (i + 1)) (nI_add i 1) ?_
  refine m_sld F (j := i + 1) e_L_law_339 hX hb (nI_clamp (by omega)) (vp_in_nI (by omega) (by omega)) ?_
  refine l_callM F e_L_law_340 (q_X10_fault (x_l X) V (b + 1457) T 1 u h P L0_ _ _ (xs (i + 1)) h10814 hok.b hP ) cb_X10_fault ml_L_34 im_X10_fault se_X10_fault h10814 rfl rfl (rest := []) rfl (Nat.le_of_ble_eq_true rfl) ⟨Nat.le_of_ble_eq_true rfl, Nat.le_of_ble_eq_true rfl⟩ (by omega) (by omega) (fun r σ10818 hp => ?_)
  obtain ⟨h10819, x10820, rfl⟩ := hp
  have h10821 := h10819.1
  have h10822 := h10813.keepM (fun a ha => h10819.2 a (by rw [ha]; decide))
  have h10823 := (h10819.2 (b + 1480) (by rw [kC_0 (c := b + 1457) (by omega)]; decide)).trans h10815
  have by10824 := by10816.keep (h10819.2 (b + 1) (by rw [kC_0 (c := b + 1457) (by omega)]; decide))
  have br10825 := br10817.of (h10819.2 (b + 1457 + 1) (by rw [kC_at (k := 1) (by decide)]; decide))
  refine m_pop F rfl e_L_law_343 ?_
  refine m_goto F e_L_law_344 ?_
  exact hN _ M T _ _ _ (by omega) (by omega) (by omega) ⟨by omega, G, hG, h10822, ⟨_, h10823⟩, u, h, P, L0_, ⟨hu, hh, hP, hkk, hm0, hw0, hok⟩, h10821, hNg, _, by10824, br10825⟩
set_option maxRecDepth 20000 in
theorem lc_3 {V : VX} {X : MX} {nm : String} {b sb N k z i L M T : Nat} {xs : Nat → Int32} {σ : Mem} (F : Fx V X (yLw nm) cL_law 7 ret room_1) (hX : va_X sb L xs (x_s X) V.2.2) (hb : sb < V.2.2.size) (hl : (x_l X).stackTraces = false) (hi : i + 6 ≤ L) (hL : L ≤ 3072) (hk : k ≤ 2100) (hz : z ≤ 80000) (hM : M ≤ 10000000) (hI : IV V b M T σ) (hN : ∀ (N' M' T' : Nat) (σ' : Mem) (k' z' : Nat), k' ≤ k + 1 → z' ≤ z + 6 → M' ≤ M + 10000 → IV V b M' T' σ' → Wm V X 7 N' σ' k' z' 1745 [(4, .int (nI i)), (3, .ref (b + 1480)), (2, .ref (b + 1457)), (1, .ref b), (0, .ref sb)] []) : Wm V X 7 N σ k z 347 [(4, .int (nI i)), (3, .ref (b + 1480)), (2, .ref (b + 1457)), (1, .ref b), (0, .ref sb)] [] := by
  obtain ⟨hT, G, hG, hHT, ⟨z0, hout⟩, u, h, P, L0_, ⟨hu, hh, hP, hkk, hm0, hw0, hok⟩, hHR, hNg, t, hBy, hBr⟩ := hI
  refine m_aload_n F rfl e_L_law_347 ?_
  refine m_aload_n F rfl e_L_law_348 ?_
  refine m_iload F rfl e_L_law_349 ?_
  refine m_iconst F (v := 1) (by decide) e_L_law_351 ?_
  refine m_iadd F e_L_law_352 ?_
  refine Wm.topE (w := nI (i + 1)) (nI_add i 1) ?_
  refine m_sld F (j := i + 1) e_L_law_353 hX hb (nI_clamp (by omega)) (vp_in_nI (by omega) (by omega)) ?_
  refine l_callC F e_L_law_354 (s_X9_namedE (x_l X) V G b M 1 T _ _ b (xs (i + 1)) hHT kA_b hG (by omega)) cb_X9_named ml_L_35 im_X9_named se_X9_named hHT rfl rfl (rest := []) rfl (Nat.le_of_ble_eq_true rfl) ⟨Nat.le_of_ble_eq_true rfl, Nat.le_of_ble_eq_true rfl⟩ (by omega) (by omega) (fun r σ10826 hp => ?_)
  obtain ⟨h10827, rfl⟩ := hp
  have h10828 := h10827.1
  have h10829 := hHR.keepL (fun a ha _ => h10827.2 a (by rw [show kA _ a = 0 from ha]; decide))
  have h10830 := (h10827.2 (b + 1480) (by rw [show kA _ (b + 1480) = 0 from kA_o]; decide)).trans hout
  have br10832 := hBr.of (h10827.2 (b + 1457 + 1) (by rw [show kA _ (b + 1457 + 1) = 0 from kA_big (by omega)]; decide))
  have by10831 := hBy.keep (h10827.2 (b + 1) (by rw [show kA _ (b + 1) = 2 from kA_t]; decide))
  refine Wm.topE (w := (fnd (fun i => nI (bsel P i)) (xs (i + 1)) 0 P.n0)) (NG.fnd hNg) ?_
  refine m_aload_n F rfl e_L_law_357 ?_
  refine m_aload_n F rfl e_L_law_358 ?_
  refine m_iload F rfl e_L_law_359 ?_
  refine m_iconst F (v := 1) (by decide) e_L_law_361 ?_
  refine m_iadd F e_L_law_362 ?_
  refine Wm.topE (w := nI (i + 1)) (nI_add i 1) ?_
  refine m_sld F (j := i + 1) e_L_law_363 hX hb (nI_clamp (by omega)) (vp_in_nI (by omega) (by omega)) ?_
  refine l_callM F e_L_law_364 (q_X10_namedE (x_l X) V (b + 1457) T 1 u h P L0_ _ _ (xs (i + 1)) h10829 hok.b hP ) cb_X10_named ml_L_38 im_X10_named se_X10_named h10829 rfl rfl (rest := [.int (fnd (fun i => nI (bsel P i)) (xs (i + 1)) 0 P.n0)]) rfl (Nat.le_of_ble_eq_true rfl) ⟨Nat.le_of_ble_eq_true rfl, Nat.le_of_ble_eq_true rfl⟩ (by omega) (by omega) (fun r σ10833 hp => ?_)
  obtain ⟨h10834, rfl⟩ := hp
  have h10835 := h10834.1
  have h10836 := h10828.keepM (fun a ha => h10834.2 a (by rw [ha]; decide))
  have h10837 := (h10834.2 (b + 1480) (by rw [kC_0 (c := b + 1457) (by omega)]; decide)).trans h10830
  have by10838 := by10831.keep (h10834.2 (b + 1) (by rw [kC_0 (c := b + 1457) (by omega)]; decide))
  have br10839 := br10832.of (h10834.2 (b + 1457 + 1) (by rw [kC_at (k := 1) (by decide)]; decide))
  refine m_icmp_eq F e_L_law_367 (fun _ => ?_) (fun q => absurd rfl q)
  exact hN _ M T _ _ _ (by omega) (by omega) (by omega) ⟨by omega, G, hG, h10836, ⟨_, h10837⟩, u, h, P, L0_, ⟨hu, hh, hP, hkk, hm0, hw0, hok⟩, h10835, hNg, _, by10838, br10839⟩
set_option maxRecDepth 20000 in
theorem lc_4 {V : VX} {X : MX} {nm : String} {b sb N k z i L M T : Nat} {xs : Nat → Int32} {σ : Mem} (F : Fx V X (yLw nm) cL_law 7 ret room_1) (hX : va_X sb L xs (x_s X) V.2.2) (hb : sb < V.2.2.size) (hl : (x_l X).stackTraces = false) (hi : i + 6 ≤ L) (hL : L ≤ 3072) (hk : k ≤ 2100) (hz : z ≤ 80000) (hM : M ≤ 10000000) (hI : IV V b M T σ) (hN : ∀ (N' M' T' : Nat) (σ' : Mem) (k' z' : Nat), k' ≤ k + 1 → z' ≤ z + 6 → M' ≤ M + 10000 → IV V b M' T' σ' → Wm V X 7 N' σ' k' z' 1745 [(4, .int (nI i)), (3, .ref (b + 1480)), (2, .ref (b + 1457)), (1, .ref b), (0, .ref sb)] []) : Wm V X 7 N σ k z 372 [(4, .int (nI i)), (3, .ref (b + 1480)), (2, .ref (b + 1457)), (1, .ref b), (0, .ref sb)] [] := by
  obtain ⟨hT, G, hG, hHT, ⟨z0, hout⟩, u, h, P, L0_, ⟨hu, hh, hP, hkk, hm0, hw0, hok⟩, hHR, hNg, t, hBy, hBr⟩ := hI
  refine m_aload_n F rfl e_L_law_372 ?_
  refine m_aload_n F rfl e_L_law_373 ?_
  refine m_iload F rfl e_L_law_374 ?_
  refine m_iconst F (v := 1) (by decide) e_L_law_376 ?_
  refine m_iadd F e_L_law_377 ?_
  refine Wm.topE (w := nI (i + 1)) (nI_add i 1) ?_
  refine m_sld F (j := i + 1) e_L_law_378 hX hb (nI_clamp (by omega)) (vp_in_nI (by omega) (by omega)) ?_
  refine l_callC F e_L_law_379 (s_X9_go (x_l X) V G b M 1 T _ _ b (xs (i + 1)) hHT kA_b hG (by omega)) cb_X9_go ml_L_39 im_X9_go se_X9_go hHT rfl rfl (rest := []) rfl (Nat.le_of_ble_eq_true rfl) ⟨Nat.le_of_ble_eq_true rfl, Nat.le_of_ble_eq_true rfl⟩ (by omega) (by omega) (fun r σ10840 hp => ?_)
  obtain ⟨G10842, gr10843, h10841, x10844, rfl⟩ := hp
  have ng10845 := hNg.gr gr10843
  have h10846 := h10841.1
  have h10847 := hHR.keepL (fun a ha _ => h10841.2 a (by rw [show kA _ a = 0 from ha]; decide))
  have h10848 := (h10841.2 (b + 1480) (by rw [show kA _ (b + 1480) = 0 from kA_o]; decide)).trans hout
  have br10850 := hBr.of (h10841.2 (b + 1457 + 1) (by rw [show kA _ (b + 1457 + 1) = 0 from kA_big (by omega)]; decide))
  have by10849 := hBy.keep (h10841.2 (b + 1) (by rw [show kA _ (b + 1) = 2 from kA_t]; decide))
  refine m_pop F rfl e_L_law_382 ?_
  refine m_aload_n F rfl e_L_law_383 ?_
  refine m_aload_n F rfl e_L_law_384 ?_
  refine m_iload F rfl e_L_law_385 ?_
  refine m_iconst F (v := 1) (by decide) e_L_law_387 ?_
  refine m_iadd F e_L_law_388 ?_
  refine Wm.topE (w := nI (i + 1)) (nI_add i 1) ?_
  refine m_sld F (j := i + 1) e_L_law_389 hX hb (nI_clamp (by omega)) (vp_in_nI (by omega) (by omega)) ?_
  refine l_callM F e_L_law_390 (q_X10_go (x_l X) V (b + 1457) T 1 u h P L0_ _ _ (xs (i + 1)) h10847 hok hP (by first | omega | assumption) (by first | omega | assumption)) cb_X10_go ml_L_42 im_X10_go se_X10_go h10847 rfl rfl (rest := []) rfl (Nat.le_of_ble_eq_true rfl) ⟨Nat.le_of_ble_eq_true rfl, Nat.le_of_ble_eq_true rfl⟩ (by omega) (by omega) (fun r σ10851 hp => ?_)
  obtain ⟨u10853, hu10853, L10854, okL10854, h10852, x10855, rfl⟩ := hp
  have h10856 := h10852.1
  have h10857 := h10846.keepM (fun a ha => h10852.2 a (by rw [ha]; decide))
  have h10858 := (h10852.2 (b + 1480) (by rw [kC_0 (c := b + 1457) (by omega)]; decide)).trans h10848
  have by10859 := by10849.keep (h10852.2 (b + 1) (by rw [kC_0 (c := b + 1457) (by omega)]; decide))
  have br10860 := br10850.of (h10852.2 (b + 1457 + 1) (by rw [kC_at (k := 1) (by decide)]; decide))
  refine m_pop F rfl e_L_law_393 ?_
  refine m_goto F e_L_law_394 ?_
  exact hN _ (M + 108) T _ _ _ (by omega) (by omega) (by omega) ⟨by omega, G10842, gr10843.1, h10857, ⟨_, h10858⟩, u10853, h, P, L10854, ⟨hu10853, hh, hP, hkk, hm0, hw0, okL10854⟩, h10856, ng10845, _, by10859, br10860⟩
set_option maxRecDepth 20000 in
theorem lc_5 {V : VX} {X : MX} {nm : String} {b sb N k z i L M T : Nat} {xs : Nat → Int32} {σ : Mem} (F : Fx V X (yLw nm) cL_law 7 ret room_1) (hX : va_X sb L xs (x_s X) V.2.2) (hb : sb < V.2.2.size) (hl : (x_l X).stackTraces = false) (hi : i + 6 ≤ L) (hL : L ≤ 3072) (hk : k ≤ 2100) (hz : z ≤ 80000) (hM : M ≤ 10000000) (hI : IV V b M T σ) (hN : ∀ (N' M' T' : Nat) (σ' : Mem) (k' z' : Nat), k' ≤ k + 1 → z' ≤ z + 6 → M' ≤ M + 10000 → IV V b M' T' σ' → Wm V X 7 N' σ' k' z' 1745 [(4, .int (nI i)), (3, .ref (b + 1480)), (2, .ref (b + 1457)), (1, .ref b), (0, .ref sb)] []) : Wm V X 7 N σ k z 397 [(4, .int (nI i)), (3, .ref (b + 1480)), (2, .ref (b + 1457)), (1, .ref b), (0, .ref sb)] [] := by
  obtain ⟨hT, G, hG, hHT, ⟨z0, hout⟩, u, h, P, L0_, ⟨hu, hh, hP, hkk, hm0, hw0, hok⟩, hHR, hNg, t, hBy, hBr⟩ := hI
  refine m_aload_n F rfl e_L_law_397 ?_
  refine m_aload_n F rfl e_L_law_398 ?_
  refine m_iload F rfl e_L_law_399 ?_
  refine m_iconst F (v := 1) (by decide) e_L_law_401 ?_
  refine m_iadd F e_L_law_402 ?_
  refine Wm.topE (w := nI (i + 1)) (nI_add i 1) ?_
  refine m_sld F (j := i + 1) e_L_law_403 hX hb (nI_clamp (by omega)) (vp_in_nI (by omega) (by omega)) ?_
  refine m_aload_n F rfl e_L_law_404 ?_
  refine m_iload F rfl e_L_law_405 ?_
  refine m_iconst F (v := 2) (by decide) e_L_law_407 ?_
  refine m_iadd F e_L_law_408 ?_
  refine Wm.topE (w := nI (i + 2)) (nI_add i 2) ?_
  refine m_sld F (j := i + 2) e_L_law_409 hX hb (nI_clamp (by omega)) (vp_in_nI (by omega) (by omega)) ?_
  refine m_aload_n F rfl e_L_law_410 ?_
  refine m_callSL F e_L_law_411 (s_L_lease (x_l X) hl V G b M T _ _ b (b + 1480) (xs (i + 1)) (xs (i + 2)) z0 hHT kA_b hG kA_o hout (by omega)) ml_L_43 rfl (rest := []) rfl (Nat.le_of_ble_eq_true rfl) ⟨Nat.le_of_ble_eq_true rfl, Nat.le_of_ble_eq_true rfl⟩ (by omega) (by omega) (fun N1 σ10861 x1 hp1 hp2 hp3 => ?_)
  obtain ⟨z1, hz1⟩ := hp2
  have h10863 := hHR.keepL (fun a ha hb2 => hp3 a hb2 (by rw [ha]; decide))
  have by10865 := hBy.keep (hp3 (b + 1) (by omega) (by rw [kA_t]; decide))
  have br10866 := hBr.of (hp3 (b + 1457 + 1) (by omega) (by rw [kA_big (by omega)]; decide))
  refine m_istore F (lv' := [(5, .int x1), (4, .int (nI i)), (3, .ref (b + 1480)), (2, .ref (b + 1457)), (1, .ref b), (0, .ref sb)]) e_L_law_414 (by decide) rfl ?_
  refine m_aload_n F rfl e_L_law_416 ?_
  refine m_aload_n F rfl e_L_law_417 ?_
  refine m_iload F rfl e_L_law_418 ?_
  refine m_iconst F (v := 1) (by decide) e_L_law_420 ?_
  refine m_iadd F e_L_law_421 ?_
  refine Wm.topE (w := nI (i + 1)) (nI_add i 1) ?_
  refine m_sld F (j := i + 1) e_L_law_422 hX hb (nI_clamp (by omega)) (vp_in_nI (by omega) (by omega)) ?_
  refine m_aload_n F rfl e_L_law_423 ?_
  refine m_iload F rfl e_L_law_424 ?_
  refine m_iconst F (v := 2) (by decide) e_L_law_426 ?_
  refine m_iadd F e_L_law_427 ?_
  refine Wm.topE (w := nI (i + 2)) (nI_add i 2) ?_
  refine m_sld F (j := i + 2) e_L_law_428 hX hb (nI_clamp (by omega)) (vp_in_nI (by omega) (by omega)) ?_
  refine l_callM F e_L_law_429 (q_X10_lease (x_l X) V (b + 1457) T 1 u h P L0_ _ _ (xs (i + 1)) (xs (i + 2)) h10863 hok.b hP ) cb_X10_lease ml_L_48 im_X10_lease se_X10_lease h10863 rfl rfl (rest := []) rfl (Nat.le_of_ble_eq_true rfl) ⟨Nat.le_of_ble_eq_true rfl, Nat.le_of_ble_eq_true rfl⟩ (by omega) (by omega) (fun r σ10867 hp => ?_)
  obtain ⟨h10868, x10869, rfl⟩ := hp
  have h10870 := h10868.1
  have h10871 := hp1.keepM (fun a ha => h10868.2 a (by rw [ha]; decide))
  have h10872 := (h10868.2 (b + 1480) (by rw [kC_0 (c := b + 1457) (by omega)]; decide)).trans hz1
  have by10873 := by10865.keep (h10868.2 (b + 1) (by rw [kC_0 (c := b + 1457) (by omega)]; decide))
  have br10874 := br10866.of (h10868.2 (b + 1457 + 1) (by rw [kC_at (k := 1) (by decide)]; decide))
  refine m_istore F (lv' := [(6, .int x10869), (5, .int x1), (4, .int (nI i)), (3, .ref (b + 1480)), (2, .ref (b + 1457)), (1, .ref b), (0, .ref sb)]) e_L_law_432 (by decide) rfl ?_
  refine m_goto F e_L_law_434 ?_
  refine Wm.lvsub (lv' := [(4, .int (nI i)), (3, .ref (b + 1480)), (2, .ref (b + 1457)), (1, .ref b), (0, .ref sb)]) ?_ [2, 3, 4, 5, 6] rfl
  exact hN _ M T _ _ _ (by omega) (by omega) (by omega) ⟨by omega, G, hG, h10871, ⟨_, h10872⟩, u, h, P, L0_, ⟨hu, hh, hP, hkk, hm0, hw0, hok⟩, h10870, hNg, _, by10873, br10874⟩
set_option maxRecDepth 20000 in
theorem lc_6 {V : VX} {X : MX} {nm : String} {b sb N k z i L M T : Nat} {xs : Nat → Int32} {σ : Mem} (F : Fx V X (yLw nm) cL_law 7 ret room_1) (hX : va_X sb L xs (x_s X) V.2.2) (hb : sb < V.2.2.size) (hl : (x_l X).stackTraces = false) (hi : i + 6 ≤ L) (hL : L ≤ 3072) (hk : k ≤ 2100) (hz : z ≤ 80000) (hM : M ≤ 10000000) (hI : IV V b M T σ) (hN : ∀ (N' M' T' : Nat) (σ' : Mem) (k' z' : Nat), k' ≤ k + 1 → z' ≤ z + 6 → M' ≤ M + 10000 → IV V b M' T' σ' → Wm V X 7 N' σ' k' z' 1745 [(4, .int (nI i)), (3, .ref (b + 1480)), (2, .ref (b + 1457)), (1, .ref b), (0, .ref sb)] []) : Wm V X 7 N σ k z 437 [(4, .int (nI i)), (3, .ref (b + 1480)), (2, .ref (b + 1457)), (1, .ref b), (0, .ref sb)] [] := by
  obtain ⟨hT, G, hG, hHT, ⟨z0, hout⟩, u, h, P, L0_, ⟨hu, hh, hP, hkk, hm0, hw0, hok⟩, hHR, hNg, t, hBy, hBr⟩ := hI
  refine m_aload_n F rfl e_L_law_437 ?_
  refine m_aload_n F rfl e_L_law_438 ?_
  refine m_iload F rfl e_L_law_439 ?_
  refine m_iconst F (v := 1) (by decide) e_L_law_441 ?_
  refine m_iadd F e_L_law_442 ?_
  refine Wm.topE (w := nI (i + 1)) (nI_add i 1) ?_
  refine m_sld F (j := i + 1) e_L_law_443 hX hb (nI_clamp (by omega)) (vp_in_nI (by omega) (by omega)) ?_
  refine m_aload_n F rfl e_L_law_444 ?_
  refine m_iload F rfl e_L_law_445 ?_
  refine m_iconst F (v := 2) (by decide) e_L_law_447 ?_
  refine m_iadd F e_L_law_448 ?_
  refine Wm.topE (w := nI (i + 2)) (nI_add i 2) ?_
  refine m_sld F (j := i + 2) e_L_law_449 hX hb (nI_clamp (by omega)) (vp_in_nI (by omega) (by omega)) ?_
  refine l_callC F e_L_law_450 (s_X9_amount (x_l X) V G b M 1 T _ _ b (xs (i + 1)) (xs (i + 2)) hHT kA_b hG (by omega)) cb_X9_amount ml_L_49 im_X9_amount se_X9_amount hHT rfl rfl (rest := []) rfl (Nat.le_of_ble_eq_true rfl) ⟨Nat.le_of_ble_eq_true rfl, Nat.le_of_ble_eq_true rfl⟩ (by omega) (by omega) (fun r σ10875 hp => ?_)
  obtain ⟨h10876, x10877, rfl⟩ := hp
  have h10878 := h10876.1
  have h10879 := hHR.keepL (fun a ha _ => h10876.2 a (by rw [show kA _ a = 0 from ha]; decide))
  have h10880 := (h10876.2 (b + 1480) (by rw [show kA _ (b + 1480) = 0 from kA_o]; decide)).trans hout
  have br10882 := hBr.of (h10876.2 (b + 1457 + 1) (by rw [show kA _ (b + 1457 + 1) = 0 from kA_big (by omega)]; decide))
  have by10881 := hBy.keep (h10876.2 (b + 1) (by rw [show kA _ (b + 1) = 2 from kA_t]; decide))
  refine m_pop2_2 F rfl e_L_law_453 ?_
  refine m_aload_n F rfl e_L_law_454 ?_
  refine m_aload_n F rfl e_L_law_455 ?_
  refine m_iload F rfl e_L_law_456 ?_
  refine m_iconst F (v := 1) (by decide) e_L_law_458 ?_
  refine m_iadd F e_L_law_459 ?_
  refine Wm.topE (w := nI (i + 1)) (nI_add i 1) ?_
  refine m_sld F (j := i + 1) e_L_law_460 hX hb (nI_clamp (by omega)) (vp_in_nI (by omega) (by omega)) ?_
  refine m_aload_n F rfl e_L_law_461 ?_
  refine m_iload F rfl e_L_law_462 ?_
  refine m_iconst F (v := 2) (by decide) e_L_law_464 ?_
  refine m_iadd F e_L_law_465 ?_
  refine Wm.topE (w := nI (i + 2)) (nI_add i 2) ?_
  refine m_sld F (j := i + 2) e_L_law_466 hX hb (nI_clamp (by omega)) (vp_in_nI (by omega) (by omega)) ?_
  refine l_callM F e_L_law_467 (q_X10_amount (x_l X) V (b + 1457) T 1 u h P L0_ _ _ (xs (i + 1)) (xs (i + 2)) h10879 hok.b hP ) cb_X10_amount ml_L_53 im_X10_amount se_X10_amount h10879 rfl rfl (rest := []) rfl (Nat.le_of_ble_eq_true rfl) ⟨Nat.le_of_ble_eq_true rfl, Nat.le_of_ble_eq_true rfl⟩ (by omega) (by omega) (fun r σ10883 hp => ?_)
  obtain ⟨h10884, x10885, rfl⟩ := hp
  have h10886 := h10884.1
  have h10887 := h10878.keepM (fun a ha => h10884.2 a (by rw [ha]; decide))
  have h10888 := (h10884.2 (b + 1480) (by rw [kC_0 (c := b + 1457) (by omega)]; decide)).trans h10880
  have by10889 := by10881.keep (h10884.2 (b + 1) (by rw [kC_0 (c := b + 1457) (by omega)]; decide))
  have br10890 := br10882.of (h10884.2 (b + 1457 + 1) (by rw [kC_at (k := 1) (by decide)]; decide))
  refine m_pop2_2 F rfl e_L_law_470 ?_
  refine m_goto F e_L_law_471 ?_
  exact hN _ M T _ _ _ (by omega) (by omega) (by omega) ⟨by omega, G, hG, h10887, ⟨_, h10888⟩, u, h, P, L0_, ⟨hu, hh, hP, hkk, hm0, hw0, hok⟩, h10886, hNg, _, by10889, br10890⟩
set_option maxRecDepth 20000 in
theorem lc_7 {V : VX} {X : MX} {nm : String} {b sb N k z i L M T : Nat} {xs : Nat → Int32} {σ : Mem} (F : Fx V X (yLw nm) cL_law 7 ret room_1) (hX : va_X sb L xs (x_s X) V.2.2) (hb : sb < V.2.2.size) (hl : (x_l X).stackTraces = false) (hi : i + 6 ≤ L) (hL : L ≤ 3072) (hk : k ≤ 2100) (hz : z ≤ 80000) (hM : M ≤ 10000000) (hI : IV V b M T σ) (hN : ∀ (N' M' T' : Nat) (σ' : Mem) (k' z' : Nat), k' ≤ k + 1 → z' ≤ z + 6 → M' ≤ M + 10000 → IV V b M' T' σ' → Wm V X 7 N' σ' k' z' 1745 [(4, .int (nI i)), (3, .ref (b + 1480)), (2, .ref (b + 1457)), (1, .ref b), (0, .ref sb)] []) : Wm V X 7 N σ k z 474 [(4, .int (nI i)), (3, .ref (b + 1480)), (2, .ref (b + 1457)), (1, .ref b), (0, .ref sb)] [] := by
  obtain ⟨hT, G, hG, hHT, ⟨z0, hout⟩, u, h, P, L0_, ⟨hu, hh, hP, hkk, hm0, hw0, hok⟩, hHR, hNg, t, hBy, hBr⟩ := hI
  refine m_aload_n F rfl e_L_law_474 ?_
  refine m_aload_n F rfl e_L_law_475 ?_
  refine m_iload F rfl e_L_law_476 ?_
  refine m_iconst F (v := 1) (by decide) e_L_law_478 ?_
  refine m_iadd F e_L_law_479 ?_
  refine Wm.topE (w := nI (i + 1)) (nI_add i 1) ?_
  refine m_sld F (j := i + 1) e_L_law_480 hX hb (nI_clamp (by omega)) (vp_in_nI (by omega) (by omega)) ?_
  refine m_aload_n F rfl e_L_law_481 ?_
  refine m_iload F rfl e_L_law_482 ?_
  refine m_iconst F (v := 2) (by decide) e_L_law_484 ?_
  refine m_iadd F e_L_law_485 ?_
  refine Wm.topE (w := nI (i + 2)) (nI_add i 2) ?_
  refine m_sld F (j := i + 2) e_L_law_486 hX hb (nI_clamp (by omega)) (vp_in_nI (by omega) (by omega)) ?_
  refine l_callC F e_L_law_487 (s_X9_due (x_l X) V G b M 1 T _ _ b (xs (i + 1)) (xs (i + 2)) hHT kA_b hG (by omega)) cb_X9_due ml_L_54 im_X9_due se_X9_due hHT rfl rfl (rest := []) rfl (Nat.le_of_ble_eq_true rfl) ⟨Nat.le_of_ble_eq_true rfl, Nat.le_of_ble_eq_true rfl⟩ (by omega) (by omega) (fun r σ10891 hp => ?_)
  obtain ⟨h10892, x10893, rfl⟩ := hp
  have h10894 := h10892.1
  have h10895 := hHR.keepL (fun a ha _ => h10892.2 a (by rw [show kA _ a = 0 from ha]; decide))
  have h10896 := (h10892.2 (b + 1480) (by rw [show kA _ (b + 1480) = 0 from kA_o]; decide)).trans hout
  have br10898 := hBr.of (h10892.2 (b + 1457 + 1) (by rw [show kA _ (b + 1457 + 1) = 0 from kA_big (by omega)]; decide))
  have by10897 := hBy.keep (h10892.2 (b + 1) (by rw [show kA _ (b + 1) = 2 from kA_t]; decide))
  refine m_pop2_2 F rfl e_L_law_490 ?_
  refine m_aload_n F rfl e_L_law_491 ?_
  refine m_aload_n F rfl e_L_law_492 ?_
  refine m_iload F rfl e_L_law_493 ?_
  refine m_iconst F (v := 1) (by decide) e_L_law_495 ?_
  refine m_iadd F e_L_law_496 ?_
  refine Wm.topE (w := nI (i + 1)) (nI_add i 1) ?_
  refine m_sld F (j := i + 1) e_L_law_497 hX hb (nI_clamp (by omega)) (vp_in_nI (by omega) (by omega)) ?_
  refine m_aload_n F rfl e_L_law_498 ?_
  refine m_iload F rfl e_L_law_499 ?_
  refine m_iconst F (v := 2) (by decide) e_L_law_501 ?_
  refine m_iadd F e_L_law_502 ?_
  refine Wm.topE (w := nI (i + 2)) (nI_add i 2) ?_
  refine m_sld F (j := i + 2) e_L_law_503 hX hb (nI_clamp (by omega)) (vp_in_nI (by omega) (by omega)) ?_
  refine l_callM F e_L_law_504 (q_X10_due (x_l X) V (b + 1457) T 1 u h P L0_ _ _ (xs (i + 1)) (xs (i + 2)) h10895 hok.b hP ) cb_X10_due ml_L_57 im_X10_due se_X10_due h10895 rfl rfl (rest := []) rfl (Nat.le_of_ble_eq_true rfl) ⟨Nat.le_of_ble_eq_true rfl, Nat.le_of_ble_eq_true rfl⟩ (by omega) (by omega) (fun r σ10899 hp => ?_)
  obtain ⟨h10900, x10901, rfl⟩ := hp
  have h10902 := h10900.1
  have h10903 := h10894.keepM (fun a ha => h10900.2 a (by rw [ha]; decide))
  have h10904 := (h10900.2 (b + 1480) (by rw [kC_0 (c := b + 1457) (by omega)]; decide)).trans h10896
  have by10905 := by10897.keep (h10900.2 (b + 1) (by rw [kC_0 (c := b + 1457) (by omega)]; decide))
  have br10906 := br10898.of (h10900.2 (b + 1457 + 1) (by rw [kC_at (k := 1) (by decide)]; decide))
  refine m_pop2_2 F rfl e_L_law_507 ?_
  refine m_goto F e_L_law_508 ?_
  exact hN _ M T _ _ _ (by omega) (by omega) (by omega) ⟨by omega, G, hG, h10903, ⟨_, h10904⟩, u, h, P, L0_, ⟨hu, hh, hP, hkk, hm0, hw0, hok⟩, h10902, hNg, _, by10905, br10906⟩
set_option maxRecDepth 20000 in
theorem lc_8 {V : VX} {X : MX} {nm : String} {b sb N k z i L M T : Nat} {xs : Nat → Int32} {σ : Mem} (F : Fx V X (yLw nm) cL_law 7 ret room_1) (hX : va_X sb L xs (x_s X) V.2.2) (hb : sb < V.2.2.size) (hl : (x_l X).stackTraces = false) (hi : i + 6 ≤ L) (hL : L ≤ 3072) (hk : k ≤ 2100) (hz : z ≤ 80000) (hM : M ≤ 10000000) (hI : IV V b M T σ) (hN : ∀ (N' M' T' : Nat) (σ' : Mem) (k' z' : Nat), k' ≤ k + 1 → z' ≤ z + 6 → M' ≤ M + 10000 → IV V b M' T' σ' → Wm V X 7 N' σ' k' z' 1745 [(4, .int (nI i)), (3, .ref (b + 1480)), (2, .ref (b + 1457)), (1, .ref b), (0, .ref sb)] []) : Wm V X 7 N σ k z 511 [(4, .int (nI i)), (3, .ref (b + 1480)), (2, .ref (b + 1457)), (1, .ref b), (0, .ref sb)] [] := by
  obtain ⟨hT, G, hG, hHT, ⟨z0, hout⟩, u, h, P, L0_, ⟨hu, hh, hP, hkk, hm0, hw0, hok⟩, hHR, hNg, t, hBy, hBr⟩ := hI
  refine m_aload_n F rfl e_L_law_511 ?_
  refine m_aload_n F rfl e_L_law_512 ?_
  refine m_iload F rfl e_L_law_513 ?_
  refine m_iconst F (v := 1) (by decide) e_L_law_515 ?_
  refine m_iadd F e_L_law_516 ?_
  refine Wm.topE (w := nI (i + 1)) (nI_add i 1) ?_
  refine m_sld F (j := i + 1) e_L_law_517 hX hb (nI_clamp (by omega)) (vp_in_nI (by omega) (by omega)) ?_
  refine m_aload_n F rfl e_L_law_518 ?_
  refine m_iload F rfl e_L_law_519 ?_
  refine m_iconst F (v := 2) (by decide) e_L_law_521 ?_
  refine m_iadd F e_L_law_522 ?_
  refine Wm.topE (w := nI (i + 2)) (nI_add i 2) ?_
  refine m_sld F (j := i + 2) e_L_law_523 hX hb (nI_clamp (by omega)) (vp_in_nI (by omega) (by omega)) ?_
  refine m_aload_n F rfl e_L_law_524 ?_
  refine m_iload F rfl e_L_law_525 ?_
  refine m_iconst F (v := 3) (by decide) e_L_law_527 ?_
  refine m_iadd F e_L_law_528 ?_
  refine Wm.topE (w := nI (i + 3)) (nI_add i 3) ?_
  refine m_sld F (j := i + 3) e_L_law_529 hX hb (nI_clamp (by omega)) (vp_in_nI (by omega) (by omega)) ?_
  refine l_callC F e_L_law_530 (s_X9_worth (x_l X) V G b M 1 T _ _ b (xs (i + 1)) (xs (i + 2)) (xs (i + 3)) hHT kA_b hG (by omega)) cb_X9_worth ml_L_58 im_X9_worth se_X9_worth hHT rfl rfl (rest := []) rfl (Nat.le_of_ble_eq_true rfl) ⟨Nat.le_of_ble_eq_true rfl, Nat.le_of_ble_eq_true rfl⟩ (by omega) (by omega) (fun r σ10907 hp => ?_)
  obtain ⟨h10908, x10909, rfl⟩ := hp
  have h10910 := h10908.1
  have h10911 := hHR.keepL (fun a ha _ => h10908.2 a (by rw [show kA _ a = 0 from ha]; decide))
  have h10912 := (h10908.2 (b + 1480) (by rw [show kA _ (b + 1480) = 0 from kA_o]; decide)).trans hout
  have br10914 := hBr.of (h10908.2 (b + 1457 + 1) (by rw [show kA _ (b + 1457 + 1) = 0 from kA_big (by omega)]; decide))
  have by10913 := hBy.keep (h10908.2 (b + 1) (by rw [show kA _ (b + 1) = 2 from kA_t]; decide))
  refine m_pop2_2 F rfl e_L_law_533 ?_
  refine m_aload_n F rfl e_L_law_534 ?_
  refine m_aload_n F rfl e_L_law_535 ?_
  refine m_iload F rfl e_L_law_536 ?_
  refine m_iconst F (v := 1) (by decide) e_L_law_538 ?_
  refine m_iadd F e_L_law_539 ?_
  refine Wm.topE (w := nI (i + 1)) (nI_add i 1) ?_
  refine m_sld F (j := i + 1) e_L_law_540 hX hb (nI_clamp (by omega)) (vp_in_nI (by omega) (by omega)) ?_
  refine m_aload_n F rfl e_L_law_541 ?_
  refine m_iload F rfl e_L_law_542 ?_
  refine m_iconst F (v := 2) (by decide) e_L_law_544 ?_
  refine m_iadd F e_L_law_545 ?_
  refine Wm.topE (w := nI (i + 2)) (nI_add i 2) ?_
  refine m_sld F (j := i + 2) e_L_law_546 hX hb (nI_clamp (by omega)) (vp_in_nI (by omega) (by omega)) ?_
  refine m_aload_n F rfl e_L_law_547 ?_
  refine m_iload F rfl e_L_law_548 ?_
  refine m_iconst F (v := 3) (by decide) e_L_law_550 ?_
  refine m_iadd F e_L_law_551 ?_
  refine Wm.topE (w := nI (i + 3)) (nI_add i 3) ?_
  refine m_sld F (j := i + 3) e_L_law_552 hX hb (nI_clamp (by omega)) (vp_in_nI (by omega) (by omega)) ?_
  refine l_callM F e_L_law_553 (q_X10_worth (x_l X) V (b + 1457) T 1 u h P L0_ _ _ (xs (i + 1)) (xs (i + 2)) (xs (i + 3)) h10911 hok.b hP ) cb_X10_worth ml_L_62 im_X10_worth se_X10_worth h10911 rfl rfl (rest := []) rfl (Nat.le_of_ble_eq_true rfl) ⟨Nat.le_of_ble_eq_true rfl, Nat.le_of_ble_eq_true rfl⟩ (by omega) (by omega) (fun r σ10915 hp => ?_)
  obtain ⟨h10916, x10917, rfl⟩ := hp
  have h10918 := h10916.1
  have h10919 := h10910.keepM (fun a ha => h10916.2 a (by rw [ha]; decide))
  have h10920 := (h10916.2 (b + 1480) (by rw [kC_0 (c := b + 1457) (by omega)]; decide)).trans h10912
  have by10921 := by10913.keep (h10916.2 (b + 1) (by rw [kC_0 (c := b + 1457) (by omega)]; decide))
  have br10922 := br10914.of (h10916.2 (b + 1457 + 1) (by rw [kC_at (k := 1) (by decide)]; decide))
  refine m_pop2_2 F rfl e_L_law_556 ?_
  refine m_goto F e_L_law_557 ?_
  exact hN _ M T _ _ _ (by omega) (by omega) (by omega) ⟨by omega, G, hG, h10919, ⟨_, h10920⟩, u, h, P, L0_, ⟨hu, hh, hP, hkk, hm0, hw0, hok⟩, h10918, hNg, _, by10921, br10922⟩
set_option maxRecDepth 20000 in
theorem lc_9 {V : VX} {X : MX} {nm : String} {b sb N k z i L M T : Nat} {xs : Nat → Int32} {σ : Mem} (F : Fx V X (yLw nm) cL_law 7 ret room_1) (hX : va_X sb L xs (x_s X) V.2.2) (hb : sb < V.2.2.size) (hl : (x_l X).stackTraces = false) (hi : i + 6 ≤ L) (hL : L ≤ 3072) (hk : k ≤ 2100) (hz : z ≤ 80000) (hM : M ≤ 10000000) (hI : IV V b M T σ) (hN : ∀ (N' M' T' : Nat) (σ' : Mem) (k' z' : Nat), k' ≤ k + 1 → z' ≤ z + 6 → M' ≤ M + 10000 → IV V b M' T' σ' → Wm V X 7 N' σ' k' z' 1745 [(4, .int (nI i)), (3, .ref (b + 1480)), (2, .ref (b + 1457)), (1, .ref b), (0, .ref sb)] []) : Wm V X 7 N σ k z 560 [(4, .int (nI i)), (3, .ref (b + 1480)), (2, .ref (b + 1457)), (1, .ref b), (0, .ref sb)] [] := by
  obtain ⟨hT, G, hG, hHT, ⟨z0, hout⟩, u, h, P, L0_, ⟨hu, hh, hP, hkk, hm0, hw0, hok⟩, hHR, hNg, t, hBy, hBr⟩ := hI
  refine m_aload_n F rfl e_L_law_560 ?_
  refine m_aload_n F rfl e_L_law_561 ?_
  refine m_iload F rfl e_L_law_562 ?_
  refine m_iconst F (v := 1) (by decide) e_L_law_564 ?_
  refine m_iadd F e_L_law_565 ?_
  refine Wm.topE (w := nI (i + 1)) (nI_add i 1) ?_
  refine m_sld F (j := i + 1) e_L_law_566 hX hb (nI_clamp (by omega)) (vp_in_nI (by omega) (by omega)) ?_
  refine l_callC F e_L_law_567 (s_X9_index (x_l X) V G b M 1 T _ _ b (xs (i + 1)) hHT kA_b hG (by omega)) cb_X9_index ml_L_63 im_X9_index se_X9_index hHT rfl rfl (rest := []) rfl (Nat.le_of_ble_eq_true rfl) ⟨Nat.le_of_ble_eq_true rfl, Nat.le_of_ble_eq_true rfl⟩ (by omega) (by omega) (fun r σ10923 hp => ?_)
  obtain ⟨h10924, x10925, rfl⟩ := hp
  have h10926 := h10924.1
  have h10927 := hHR.keepL (fun a ha _ => h10924.2 a (by rw [show kA _ a = 0 from ha]; decide))
  have h10928 := (h10924.2 (b + 1480) (by rw [show kA _ (b + 1480) = 0 from kA_o]; decide)).trans hout
  have br10930 := hBr.of (h10924.2 (b + 1457 + 1) (by rw [show kA _ (b + 1457 + 1) = 0 from kA_big (by omega)]; decide))
  have by10929 := hBy.keep (h10924.2 (b + 1) (by rw [show kA _ (b + 1) = 2 from kA_t]; decide))
  refine m_pop F rfl e_L_law_570 ?_
  refine m_aload_n F rfl e_L_law_571 ?_
  refine m_aload_n F rfl e_L_law_572 ?_
  refine m_iload F rfl e_L_law_573 ?_
  refine m_iconst F (v := 1) (by decide) e_L_law_575 ?_
  refine m_iadd F e_L_law_576 ?_
  refine Wm.topE (w := nI (i + 1)) (nI_add i 1) ?_
  refine m_sld F (j := i + 1) e_L_law_577 hX hb (nI_clamp (by omega)) (vp_in_nI (by omega) (by omega)) ?_
  refine l_callM F e_L_law_578 (q_X10_index (x_l X) V (b + 1457) T 1 u h P L0_ _ _ (xs (i + 1)) h10927 hok.b hP ) cb_X10_index ml_L_66 im_X10_index se_X10_index h10927 rfl rfl (rest := []) rfl (Nat.le_of_ble_eq_true rfl) ⟨Nat.le_of_ble_eq_true rfl, Nat.le_of_ble_eq_true rfl⟩ (by omega) (by omega) (fun r σ10931 hp => ?_)
  obtain ⟨h10932, x10933, rfl⟩ := hp
  have h10934 := h10932.1
  have h10935 := h10926.keepM (fun a ha => h10932.2 a (by rw [ha]; decide))
  have h10936 := (h10932.2 (b + 1480) (by rw [kC_0 (c := b + 1457) (by omega)]; decide)).trans h10928
  have by10937 := by10929.keep (h10932.2 (b + 1) (by rw [kC_0 (c := b + 1457) (by omega)]; decide))
  have br10938 := br10930.of (h10932.2 (b + 1457 + 1) (by rw [kC_at (k := 1) (by decide)]; decide))
  refine m_pop F rfl e_L_law_581 ?_
  refine m_goto F e_L_law_582 ?_
  exact hN _ M T _ _ _ (by omega) (by omega) (by omega) ⟨by omega, G, hG, h10935, ⟨_, h10936⟩, u, h, P, L0_, ⟨hu, hh, hP, hkk, hm0, hw0, hok⟩, h10934, hNg, _, by10937, br10938⟩
set_option maxRecDepth 20000 in
theorem lc_10 {V : VX} {X : MX} {nm : String} {b sb N k z i L M T : Nat} {xs : Nat → Int32} {σ : Mem} (F : Fx V X (yLw nm) cL_law 7 ret room_1) (hX : va_X sb L xs (x_s X) V.2.2) (hb : sb < V.2.2.size) (hl : (x_l X).stackTraces = false) (hi : i + 6 ≤ L) (hL : L ≤ 3072) (hk : k ≤ 2100) (hz : z ≤ 80000) (hM : M ≤ 10000000) (hI : IV V b M T σ) (hN : ∀ (N' M' T' : Nat) (σ' : Mem) (k' z' : Nat), k' ≤ k + 1 → z' ≤ z + 6 → M' ≤ M + 10000 → IV V b M' T' σ' → Wm V X 7 N' σ' k' z' 1745 [(4, .int (nI i)), (3, .ref (b + 1480)), (2, .ref (b + 1457)), (1, .ref b), (0, .ref sb)] []) : Wm V X 7 N σ k z 585 [(4, .int (nI i)), (3, .ref (b + 1480)), (2, .ref (b + 1457)), (1, .ref b), (0, .ref sb)] [] := by
  obtain ⟨hT, G, hG, hHT, ⟨z0, hout⟩, u, h, P, L0_, ⟨hu, hh, hP, hkk, hm0, hw0, hok⟩, hHR, hNg, t, hBy, hBr⟩ := hI
  refine m_aload_n F rfl e_L_law_585 ?_
  refine m_aload_n F rfl e_L_law_586 ?_
  refine m_iload F rfl e_L_law_587 ?_
  refine m_iconst F (v := 1) (by decide) e_L_law_589 ?_
  refine m_iadd F e_L_law_590 ?_
  refine Wm.topE (w := nI (i + 1)) (nI_add i 1) ?_
  refine m_sld F (j := i + 1) e_L_law_591 hX hb (nI_clamp (by omega)) (vp_in_nI (by omega) (by omega)) ?_
  refine l_callC F e_L_law_592 (s_X9_account (x_l X) V G b M 1 T _ _ b (xs (i + 1)) hHT kA_b hG (by omega)) cb_X9_account ml_L_67 im_X9_account se_X9_account hHT rfl rfl (rest := []) rfl (Nat.le_of_ble_eq_true rfl) ⟨Nat.le_of_ble_eq_true rfl, Nat.le_of_ble_eq_true rfl⟩ (by omega) (by omega) (fun r σ10939 hp => ?_)
  obtain ⟨h10940, x10941, rfl⟩ := hp
  have h10942 := h10940.1
  have h10943 := hHR.keepL (fun a ha _ => h10940.2 a (by rw [show kA _ a = 0 from ha]; decide))
  have h10944 := (h10940.2 (b + 1480) (by rw [show kA _ (b + 1480) = 0 from kA_o]; decide)).trans hout
  have br10946 := hBr.of (h10940.2 (b + 1457 + 1) (by rw [show kA _ (b + 1457 + 1) = 0 from kA_big (by omega)]; decide))
  have by10945 := hBy.keep (h10940.2 (b + 1) (by rw [show kA _ (b + 1) = 2 from kA_t]; decide))
  refine m_pop2_2 F rfl e_L_law_595 ?_
  refine m_aload_n F rfl e_L_law_596 ?_
  refine m_aload_n F rfl e_L_law_597 ?_
  refine m_iload F rfl e_L_law_598 ?_
  refine m_iconst F (v := 1) (by decide) e_L_law_600 ?_
  refine m_iadd F e_L_law_601 ?_
  refine Wm.topE (w := nI (i + 1)) (nI_add i 1) ?_
  refine m_sld F (j := i + 1) e_L_law_602 hX hb (nI_clamp (by omega)) (vp_in_nI (by omega) (by omega)) ?_
  refine l_callM F e_L_law_603 (q_X10_account (x_l X) V (b + 1457) T 1 u h P L0_ _ _ (xs (i + 1)) h10943 hok.b hP ) cb_X10_account ml_L_71 im_X10_account se_X10_account h10943 rfl rfl (rest := []) rfl (Nat.le_of_ble_eq_true rfl) ⟨Nat.le_of_ble_eq_true rfl, Nat.le_of_ble_eq_true rfl⟩ (by omega) (by omega) (fun r σ10947 hp => ?_)
  obtain ⟨h10948, x10949, rfl⟩ := hp
  have h10950 := h10948.1
  have h10951 := h10942.keepM (fun a ha => h10948.2 a (by rw [ha]; decide))
  have h10952 := (h10948.2 (b + 1480) (by rw [kC_0 (c := b + 1457) (by omega)]; decide)).trans h10944
  have by10953 := by10945.keep (h10948.2 (b + 1) (by rw [kC_0 (c := b + 1457) (by omega)]; decide))
  have br10954 := br10946.of (h10948.2 (b + 1457 + 1) (by rw [kC_at (k := 1) (by decide)]; decide))
  refine m_pop2_2 F rfl e_L_law_606 ?_
  refine m_goto F e_L_law_607 ?_
  exact hN _ M T _ _ _ (by omega) (by omega) (by omega) ⟨by omega, G, hG, h10951, ⟨_, h10952⟩, u, h, P, L0_, ⟨hu, hh, hP, hkk, hm0, hw0, hok⟩, h10950, hNg, _, by10953, br10954⟩
set_option maxRecDepth 20000 in
theorem lc_11 {V : VX} {X : MX} {nm : String} {b sb N k z i L M T : Nat} {xs : Nat → Int32} {σ : Mem} (F : Fx V X (yLw nm) cL_law 7 ret room_1) (hX : va_X sb L xs (x_s X) V.2.2) (hb : sb < V.2.2.size) (hl : (x_l X).stackTraces = false) (hi : i + 6 ≤ L) (hL : L ≤ 3072) (hk : k ≤ 2100) (hz : z ≤ 80000) (hM : M ≤ 10000000) (hI : IV V b M T σ) (hN : ∀ (N' M' T' : Nat) (σ' : Mem) (k' z' : Nat), k' ≤ k + 1 → z' ≤ z + 6 → M' ≤ M + 10000 → IV V b M' T' σ' → Wm V X 7 N' σ' k' z' 1745 [(4, .int (nI i)), (3, .ref (b + 1480)), (2, .ref (b + 1457)), (1, .ref b), (0, .ref sb)] []) : Wm V X 7 N σ k z 610 [(4, .int (nI i)), (3, .ref (b + 1480)), (2, .ref (b + 1457)), (1, .ref b), (0, .ref sb)] [] := by
  obtain ⟨hT, G, hG, hHT, ⟨z0, hout⟩, u, h, P, L0_, ⟨hu, hh, hP, hkk, hm0, hw0, hok⟩, hHR, hNg, t, hBy, hBr⟩ := hI
  refine m_aload_n F rfl e_L_law_610 ?_
  refine m_aload_n F rfl e_L_law_611 ?_
  refine m_iload F rfl e_L_law_612 ?_
  refine m_iconst F (v := 1) (by decide) e_L_law_614 ?_
  refine m_iadd F e_L_law_615 ?_
  refine Wm.topE (w := nI (i + 1)) (nI_add i 1) ?_
  refine m_sld F (j := i + 1) e_L_law_616 hX hb (nI_clamp (by omega)) (vp_in_nI (by omega) (by omega)) ?_
  refine m_aload_n F rfl e_L_law_617 ?_
  refine m_iload F rfl e_L_law_618 ?_
  refine m_iconst F (v := 2) (by decide) e_L_law_620 ?_
  refine m_iadd F e_L_law_621 ?_
  refine Wm.topE (w := nI (i + 2)) (nI_add i 2) ?_
  refine m_sld F (j := i + 2) e_L_law_622 hX hb (nI_clamp (by omega)) (vp_in_nI (by omega) (by omega)) ?_
  refine l_callC F e_L_law_623 (s_X9_entry (x_l X) V G b M 1 T _ _ b (xs (i + 1)) (xs (i + 2)) hHT kA_b hG (by omega)) cb_X9_entry ml_L_72 im_X9_entry se_X9_entry hHT rfl rfl (rest := []) rfl (Nat.le_of_ble_eq_true rfl) ⟨Nat.le_of_ble_eq_true rfl, Nat.le_of_ble_eq_true rfl⟩ (by omega) (by omega) (fun r σ10955 hp => ?_)
  obtain ⟨h10956, x10957, rfl⟩ := hp
  have h10958 := h10956.1
  have h10959 := hHR.keepL (fun a ha _ => h10956.2 a (by rw [show kA _ a = 0 from ha]; decide))
  have h10960 := (h10956.2 (b + 1480) (by rw [show kA _ (b + 1480) = 0 from kA_o]; decide)).trans hout
  have br10962 := hBr.of (h10956.2 (b + 1457 + 1) (by rw [show kA _ (b + 1457 + 1) = 0 from kA_big (by omega)]; decide))
  have by10961 := hBy.keep (h10956.2 (b + 1) (by rw [show kA _ (b + 1) = 2 from kA_t]; decide))
  refine m_pop2_2 F rfl e_L_law_626 ?_
  refine m_aload_n F rfl e_L_law_627 ?_
  refine m_aload_n F rfl e_L_law_628 ?_
  refine m_iload F rfl e_L_law_629 ?_
  refine m_iconst F (v := 1) (by decide) e_L_law_631 ?_
  refine m_iadd F e_L_law_632 ?_
  refine Wm.topE (w := nI (i + 1)) (nI_add i 1) ?_
  refine m_sld F (j := i + 1) e_L_law_633 hX hb (nI_clamp (by omega)) (vp_in_nI (by omega) (by omega)) ?_
  refine m_aload_n F rfl e_L_law_634 ?_
  refine m_iload F rfl e_L_law_635 ?_
  refine m_iconst F (v := 2) (by decide) e_L_law_637 ?_
  refine m_iadd F e_L_law_638 ?_
  refine Wm.topE (w := nI (i + 2)) (nI_add i 2) ?_
  refine m_sld F (j := i + 2) e_L_law_639 hX hb (nI_clamp (by omega)) (vp_in_nI (by omega) (by omega)) ?_
  refine l_callM F e_L_law_640 (q_X10_entry_ (x_l X) V (b + 1457) T 1 u h P L0_ _ _ (xs (i + 1)) (xs (i + 2)) h10959 hok.b hP ) cb_X10_entry_ ml_L_75 im_X10_entry_ se_X10_entry_ h10959 rfl rfl (rest := []) rfl (Nat.le_of_ble_eq_true rfl) ⟨Nat.le_of_ble_eq_true rfl, Nat.le_of_ble_eq_true rfl⟩ (by omega) (by omega) (fun r σ10963 hp => ?_)
  obtain ⟨h10964, x10965, rfl⟩ := hp
  have h10966 := h10964.1
  have h10967 := h10958.keepM (fun a ha => h10964.2 a (by rw [ha]; decide))
  have h10968 := (h10964.2 (b + 1480) (by rw [kC_0 (c := b + 1457) (by omega)]; decide)).trans h10960
  have by10969 := by10961.keep (h10964.2 (b + 1) (by rw [kC_0 (c := b + 1457) (by omega)]; decide))
  have br10970 := br10962.of (h10964.2 (b + 1457 + 1) (by rw [kC_at (k := 1) (by decide)]; decide))
  refine m_pop2_2 F rfl e_L_law_643 ?_
  refine m_goto F e_L_law_644 ?_
  exact hN _ M T _ _ _ (by omega) (by omega) (by omega) ⟨by omega, G, hG, h10967, ⟨_, h10968⟩, u, h, P, L0_, ⟨hu, hh, hP, hkk, hm0, hw0, hok⟩, h10966, hNg, _, by10969, br10970⟩
set_option maxRecDepth 20000 in
theorem lc_12 {V : VX} {X : MX} {nm : String} {b sb N k z i L M T : Nat} {xs : Nat → Int32} {σ : Mem} (F : Fx V X (yLw nm) cL_law 7 ret room_1) (hX : va_X sb L xs (x_s X) V.2.2) (hb : sb < V.2.2.size) (hl : (x_l X).stackTraces = false) (hi : i + 6 ≤ L) (hL : L ≤ 3072) (hk : k ≤ 2100) (hz : z ≤ 80000) (hM : M ≤ 10000000) (hI : IV V b M T σ) (hN : ∀ (N' M' T' : Nat) (σ' : Mem) (k' z' : Nat), k' ≤ k + 1 → z' ≤ z + 6 → M' ≤ M + 10000 → IV V b M' T' σ' → Wm V X 7 N' σ' k' z' 1745 [(4, .int (nI i)), (3, .ref (b + 1480)), (2, .ref (b + 1457)), (1, .ref b), (0, .ref sb)] []) : Wm V X 7 N σ k z 647 [(4, .int (nI i)), (3, .ref (b + 1480)), (2, .ref (b + 1457)), (1, .ref b), (0, .ref sb)] [] := by
  obtain ⟨hT, G, hG, hHT, ⟨z0, hout⟩, u, h, P, L0_, ⟨hu, hh, hP, hkk, hm0, hw0, hok⟩, hHR, hNg, t, hBy, hBr⟩ := hI
  refine m_aload_n F rfl e_L_law_647 ?_
  refine m_aload_n F rfl e_L_law_648 ?_
  refine m_iload F rfl e_L_law_649 ?_
  refine m_iconst F (v := 1) (by decide) e_L_law_651 ?_
  refine m_iadd F e_L_law_652 ?_
  refine Wm.topE (w := nI (i + 1)) (nI_add i 1) ?_
  refine m_sld F (j := i + 1) e_L_law_653 hX hb (nI_clamp (by omega)) (vp_in_nI (by omega) (by omega)) ?_
  refine m_aload_n F rfl e_L_law_654 ?_
  refine m_iload F rfl e_L_law_655 ?_
  refine m_iconst F (v := 2) (by decide) e_L_law_657 ?_
  refine m_iadd F e_L_law_658 ?_
  refine Wm.topE (w := nI (i + 2)) (nI_add i 2) ?_
  refine m_sld F (j := i + 2) e_L_law_659 hX hb (nI_clamp (by omega)) (vp_in_nI (by omega) (by omega)) ?_
  refine l_callC F e_L_law_660 (s_X9_rate (x_l X) V G b M 1 T _ _ b (xs (i + 1)) (xs (i + 2)) hHT kA_b hG (by omega)) cb_X9_rate ml_L_76 im_X9_rate se_X9_rate hHT rfl rfl (rest := []) rfl (Nat.le_of_ble_eq_true rfl) ⟨Nat.le_of_ble_eq_true rfl, Nat.le_of_ble_eq_true rfl⟩ (by omega) (by omega) (fun r σ10971 hp => ?_)
  obtain ⟨G10973, gr10974, h10972, x10975, rfl⟩ := hp
  have ng10976 := hNg.gr gr10974
  have h10977 := h10972.1
  have h10978 := hHR.keepL (fun a ha _ => h10972.2 a (by rw [show kA _ a = 0 from ha]; decide))
  have h10979 := (h10972.2 (b + 1480) (by rw [show kA _ (b + 1480) = 0 from kA_o]; decide)).trans hout
  have br10981 := hBr.of (h10972.2 (b + 1457 + 1) (by rw [show kA _ (b + 1457 + 1) = 0 from kA_big (by omega)]; decide))
  have by10980 := hBy.keep (h10972.2 (b + 1) (by rw [show kA _ (b + 1) = 2 from kA_t]; decide))
  refine m_pop2_2 F rfl e_L_law_663 ?_
  refine m_aload_n F rfl e_L_law_664 ?_
  refine m_aload_n F rfl e_L_law_665 ?_
  refine m_iload F rfl e_L_law_666 ?_
  refine m_iconst F (v := 1) (by decide) e_L_law_668 ?_
  refine m_iadd F e_L_law_669 ?_
  refine Wm.topE (w := nI (i + 1)) (nI_add i 1) ?_
  refine m_sld F (j := i + 1) e_L_law_670 hX hb (nI_clamp (by omega)) (vp_in_nI (by omega) (by omega)) ?_
  refine m_aload_n F rfl e_L_law_671 ?_
  refine m_iload F rfl e_L_law_672 ?_
  refine m_iconst F (v := 2) (by decide) e_L_law_674 ?_
  refine m_iadd F e_L_law_675 ?_
  refine Wm.topE (w := nI (i + 2)) (nI_add i 2) ?_
  refine m_sld F (j := i + 2) e_L_law_676 hX hb (nI_clamp (by omega)) (vp_in_nI (by omega) (by omega)) ?_
  refine l_callM F e_L_law_677 (q_X10_rate (x_l X) V (b + 1457) T 1 u h P L0_ _ _ (xs (i + 1)) (xs (i + 2)) h10978 hok hP (by first | omega | assumption) (by first | omega | assumption)) cb_X10_rate ml_L_79 im_X10_rate se_X10_rate h10978 rfl rfl (rest := []) rfl (Nat.le_of_ble_eq_true rfl) ⟨Nat.le_of_ble_eq_true rfl, Nat.le_of_ble_eq_true rfl⟩ (by omega) (by omega) (fun r σ10982 hp => ?_)
  obtain ⟨u10984, hu10984, L10985, okL10985, h10983, x10986, rfl⟩ := hp
  have h10987 := h10983.1
  have h10988 := h10977.keepM (fun a ha => h10983.2 a (by rw [ha]; decide))
  have h10989 := (h10983.2 (b + 1480) (by rw [kC_0 (c := b + 1457) (by omega)]; decide)).trans h10979
  have by10990 := by10980.keep (h10983.2 (b + 1) (by rw [kC_0 (c := b + 1457) (by omega)]; decide))
  have br10991 := br10981.of (h10983.2 (b + 1457 + 1) (by rw [kC_at (k := 1) (by decide)]; decide))
  refine m_pop2_2 F rfl e_L_law_680 ?_
  refine m_goto F e_L_law_681 ?_
  exact hN _ (M + 1) T _ _ _ (by omega) (by omega) (by omega) ⟨by omega, G10973, gr10974.1, h10988, ⟨_, h10989⟩, u10984, h, P, L10985, ⟨hu10984, hh, hP, hkk, hm0, hw0, okL10985⟩, h10987, ng10976, _, by10990, br10991⟩
set_option maxRecDepth 20000 in
theorem lc_13 {V : VX} {X : MX} {nm : String} {b sb N k z i L M T : Nat} {xs : Nat → Int32} {σ : Mem} (F : Fx V X (yLw nm) cL_law 7 ret room_1) (hX : va_X sb L xs (x_s X) V.2.2) (hb : sb < V.2.2.size) (hl : (x_l X).stackTraces = false) (hi : i + 6 ≤ L) (hL : L ≤ 3072) (hk : k ≤ 2100) (hz : z ≤ 80000) (hM : M ≤ 10000000) (hI : IV V b M T σ) (hN : ∀ (N' M' T' : Nat) (σ' : Mem) (k' z' : Nat), k' ≤ k + 1 → z' ≤ z + 6 → M' ≤ M + 10000 → IV V b M' T' σ' → Wm V X 7 N' σ' k' z' 1745 [(4, .int (nI i)), (3, .ref (b + 1480)), (2, .ref (b + 1457)), (1, .ref b), (0, .ref sb)] []) : Wm V X 7 N σ k z 684 [(4, .int (nI i)), (3, .ref (b + 1480)), (2, .ref (b + 1457)), (1, .ref b), (0, .ref sb)] [] := by
  obtain ⟨hT, G, hG, hHT, ⟨z0, hout⟩, u, h, P, L0_, ⟨hu, hh, hP, hkk, hm0, hw0, hok⟩, hHR, hNg, t, hBy, hBr⟩ := hI
  refine m_aload_n F rfl e_L_law_684 ?_
  refine m_aload_n F rfl e_L_law_685 ?_
  refine m_iload F rfl e_L_law_686 ?_
  refine m_iconst F (v := 1) (by decide) e_L_law_688 ?_
  refine m_iadd F e_L_law_689 ?_
  refine Wm.topE (w := nI (i + 1)) (nI_add i 1) ?_
  refine m_sld F (j := i + 1) e_L_law_690 hX hb (nI_clamp (by omega)) (vp_in_nI (by omega) (by omega)) ?_
  refine m_aload_n F rfl e_L_law_691 ?_
  refine m_iload F rfl e_L_law_692 ?_
  refine m_iconst F (v := 2) (by decide) e_L_law_694 ?_
  refine m_iadd F e_L_law_695 ?_
  refine Wm.topE (w := nI (i + 2)) (nI_add i 2) ?_
  refine m_sld F (j := i + 2) e_L_law_696 hX hb (nI_clamp (by omega)) (vp_in_nI (by omega) (by omega)) ?_
  refine l_callC F e_L_law_697 (s_X9_extend (x_l X) V G b M 1 T _ _ b (xs (i + 1)) (xs (i + 2)) hHT kA_b hG (by omega)) cb_X9_extend ml_L_80 im_X9_extend se_X9_extend hHT rfl rfl (rest := []) rfl (Nat.le_of_ble_eq_true rfl) ⟨Nat.le_of_ble_eq_true rfl, Nat.le_of_ble_eq_true rfl⟩ (by omega) (by omega) (fun r σ10992 hp => ?_)
  obtain ⟨G10994, gr10995, h10993, x10996, rfl⟩ := hp
  have ng10997 := hNg.gr gr10995
  have h10998 := h10993.1
  have h10999 := hHR.keepL (fun a ha _ => h10993.2 a (by rw [show kA _ a = 0 from ha]; decide))
  have h11000 := (h10993.2 (b + 1480) (by rw [show kA _ (b + 1480) = 0 from kA_o]; decide)).trans hout
  have br11002 := hBr.of (h10993.2 (b + 1457 + 1) (by rw [show kA _ (b + 1457 + 1) = 0 from kA_big (by omega)]; decide))
  have by11001 := hBy.keep (h10993.2 (b + 1) (by rw [show kA _ (b + 1) = 2 from kA_t]; decide))
  refine m_pop2_2 F rfl e_L_law_700 ?_
  refine m_aload_n F rfl e_L_law_701 ?_
  refine m_aload_n F rfl e_L_law_702 ?_
  refine m_iload F rfl e_L_law_703 ?_
  refine m_iconst F (v := 1) (by decide) e_L_law_705 ?_
  refine m_iadd F e_L_law_706 ?_
  refine Wm.topE (w := nI (i + 1)) (nI_add i 1) ?_
  refine m_sld F (j := i + 1) e_L_law_707 hX hb (nI_clamp (by omega)) (vp_in_nI (by omega) (by omega)) ?_
  refine m_aload_n F rfl e_L_law_708 ?_
  refine m_iload F rfl e_L_law_709 ?_
  refine m_iconst F (v := 2) (by decide) e_L_law_711 ?_
  refine m_iadd F e_L_law_712 ?_
  refine Wm.topE (w := nI (i + 2)) (nI_add i 2) ?_
  refine m_sld F (j := i + 2) e_L_law_713 hX hb (nI_clamp (by omega)) (vp_in_nI (by omega) (by omega)) ?_
  refine l_callM F e_L_law_714 (q_X10_extend (x_l X) V (b + 1457) T 1 u h P L0_ _ _ (xs (i + 1)) (xs (i + 2)) h10999 hok hP (by first | omega | assumption) (by first | omega | assumption)) cb_X10_extend ml_L_83 im_X10_extend se_X10_extend h10999 rfl rfl (rest := []) rfl (Nat.le_of_ble_eq_true rfl) ⟨Nat.le_of_ble_eq_true rfl, Nat.le_of_ble_eq_true rfl⟩ (by omega) (by omega) (fun r σ11003 hp => ?_)
  obtain ⟨u11005, hu11005, L11006, okL11006, h11004, x11007, rfl⟩ := hp
  have h11008 := h11004.1
  have h11009 := h10998.keepM (fun a ha => h11004.2 a (by rw [ha]; decide))
  have h11010 := (h11004.2 (b + 1480) (by rw [kC_0 (c := b + 1457) (by omega)]; decide)).trans h11000
  have by11011 := by11001.keep (h11004.2 (b + 1) (by rw [kC_0 (c := b + 1457) (by omega)]; decide))
  have br11012 := br11002.of (h11004.2 (b + 1457 + 1) (by rw [kC_at (k := 1) (by decide)]; decide))
  refine m_pop2_2 F rfl e_L_law_717 ?_
  refine m_goto F e_L_law_718 ?_
  exact hN _ (M + 1) T _ _ _ (by omega) (by omega) (by omega) ⟨by omega, G10994, gr10995.1, h11009, ⟨_, h11010⟩, u11005, h, P, L11006, ⟨hu11005, hh, hP, hkk, hm0, hw0, okL11006⟩, h11008, ng10997, _, by11011, br11012⟩
