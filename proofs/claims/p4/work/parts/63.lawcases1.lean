set_option maxRecDepth 20000 in
theorem lc_0 {V : VX} {X : MX} {nm : String} {b sb N k z i L M T : Nat} {xs : Nat → Int32} {σ : Mem} (F : Fx V X (yLw nm) cL_law 7 ret room_1) (hX : va_X sb L xs (x_s X) V.2.2) (hb : sb < V.2.2.size) (hl : (x_l X).stackTraces = false) (hi : i + 6 ≤ L) (hL : L ≤ 3072) (hk : k ≤ 2100) (hz : z ≤ 80000) (hM : M ≤ 10000000) (hI : IV V b M T σ) (hN : ∀ (N' M' T' : Nat) (σ' : Mem) (k' z' : Nat), k' ≤ k + 1 → z' ≤ z + 6 → M' ≤ M + 10000 → IV V b M' T' σ' → Wm V X 7 N' σ' k' z' 1745 [(4, .int (nI i)), (3, .ref (b + 1480)), (2, .ref (b + 1457)), (1, .ref b), (0, .ref sb)] []) : Wm V X 7 N σ k z 224 [(4, .int (nI i)), (3, .ref (b + 1480)), (2, .ref (b + 1457)), (1, .ref b), (0, .ref sb)] [] := by
  obtain ⟨hT, hHT, ⟨z0, hout⟩, u, h, P, L0_, ⟨hu, hh, hP, hkk, hm0, hw0, hok⟩, hHR, hFt, t, hBy, hBr⟩ := hI
  refine m_aload_n F rfl e_L_law_224 ?_
  refine m_aload_n F rfl e_L_law_225 ?_
  refine m_iload F rfl e_L_law_226 ?_
  refine m_iconst F (v := 1) (by decide) e_L_law_228 ?_
  refine m_iadd F e_L_law_229 ?_
  refine Wm.topE (w := nI (i + 1)) (nI_add i 1) ?_
  refine m_sld F (j := i + 1) e_L_law_230 hX hb (nI_clamp (by omega)) (vp_in_nI (by omega) (by omega)) ?_
  refine m_aload_n F rfl e_L_law_231 ?_
  refine m_iload F rfl e_L_law_232 ?_
  refine m_iconst F (v := 2) (by decide) e_L_law_234 ?_
  refine m_iadd F e_L_law_235 ?_
  refine Wm.topE (w := nI (i + 2)) (nI_add i 2) ?_
  refine m_sld F (j := i + 2) e_L_law_236 hX hb (nI_clamp (by omega)) (vp_in_nI (by omega) (by omega)) ?_
  refine m_aload_n F rfl e_L_law_237 ?_
  refine m_iload F rfl e_L_law_238 ?_
  refine m_iconst F (v := 3) (by decide) e_L_law_240 ?_
  refine m_iadd F e_L_law_241 ?_
  refine Wm.topE (w := nI (i + 3)) (nI_add i 3) ?_
  refine m_sld F (j := i + 3) e_L_law_242 hX hb (nI_clamp (by omega)) (vp_in_nI (by omega) (by omega)) ?_
  refine m_aload_n F rfl e_L_law_243 ?_
  refine m_iload F rfl e_L_law_244 ?_
  refine m_iconst F (v := 4) (by decide) e_L_law_246 ?_
  refine m_iadd F e_L_law_247 ?_
  refine Wm.topE (w := nI (i + 4)) (nI_add i 4) ?_
  refine m_sld F (j := i + 4) e_L_law_248 hX hb (nI_clamp (by omega)) (vp_in_nI (by omega) (by omega)) ?_
  refine m_aload_n F rfl e_L_law_249 ?_
  refine m_iload F rfl e_L_law_250 ?_
  refine m_iconst F (v := 5) (by decide) e_L_law_252 ?_
  refine m_iadd F e_L_law_253 ?_
  refine Wm.topE (w := nI (i + 5)) (nI_add i 5) ?_
  refine m_sld F (j := i + 5) e_L_law_254 hX hb (nI_clamp (by omega)) (vp_in_nI (by omega) (by omega)) ?_
  obtain ⟨t2, ht2, hbt⟩ : ∃ t2 : Nat → Nat, (∀ i, i < T → t2 i = t i) ∧ ∀ k, k < 20 → t2 (T + k) = fb (xs (i + 1)) (xs (i + 2)) (xs (i + 3)) (xs (i + 4)) (xs (i + 5)) k := ⟨fun j9 => if j9 < T then t j9 else fb (xs (i + 1)) (xs (i + 2)) (xs (i + 3)) (xs (i + 4)) (xs (i + 5)) (j9 - T), fun i hi => if_pos hi, fun k hk => by show (if T + k < T then _ else _) = _; rw [if_neg (by omega), Nat.add_sub_cancel_left]⟩
  have hBy2 := hBy.ext ht2
  have hBr2 := hBr.ext ht2
  refine l_callC F e_L_law_255 (s_X9_feedE (x_l X) V b M 1 T _ _ b (xs (i + 1)) (xs (i + 2)) (xs (i + 3)) (xs (i + 4)) (xs (i + 5)) t2 hHT kA_b (by omega) hBy2 hbt (by omega)) cb_X9_feed ml_L_21 im_X9_feed se_X9_feed hHT rfl rfl (rest := []) rfl (Nat.le_of_ble_eq_true rfl) ⟨Nat.le_of_ble_eq_true rfl, Nat.le_of_ble_eq_true rfl⟩ (by omega) (by omega) (fun r σ10845 hp => ?_)
  rcases hp with ⟨g10847, h10846, ef, rfl⟩ | ⟨g10847, h10846, by20, rfl⟩
  · have h10848 := h10846.1
    have h10849 := hHR.keepL (fun a ha _ => h10846.2 a (by rw [show kA _ a = 0 from ha]; decide))
    have h10850 := (h10846.2 (b + 1480) (by rw [show kA _ (b + 1480) = 0 from kA_o]; decide)).trans hout
    have br10852 := hBr2.of (h10846.2 (b + 1457 + 1) (by rw [show kA _ (b + 1457 + 1) = 0 from kA_big (by omega)]; decide))
    have ft10853 := hFt.of (h10846.2 (b + 128) (by rw [show kA _ (b + 128) = 3 from kA_r]; decide))
    refine m_pop F rfl e_L_law_258 ?_
    refine m_aload_n F rfl e_L_law_259 ?_
    refine m_aload_n F rfl e_L_law_260 ?_
    refine m_iload F rfl e_L_law_261 ?_
    refine m_iconst F (v := 1) (by decide) e_L_law_263 ?_
    refine m_iadd F e_L_law_264 ?_
    refine Wm.topE (w := nI (i + 1)) (nI_add i 1) ?_
    refine m_sld F (j := i + 1) e_L_law_265 hX hb (nI_clamp (by omega)) (vp_in_nI (by omega) (by omega)) ?_
    refine m_aload_n F rfl e_L_law_266 ?_
    refine m_iload F rfl e_L_law_267 ?_
    refine m_iconst F (v := 2) (by decide) e_L_law_269 ?_
    refine m_iadd F e_L_law_270 ?_
    refine Wm.topE (w := nI (i + 2)) (nI_add i 2) ?_
    refine m_sld F (j := i + 2) e_L_law_271 hX hb (nI_clamp (by omega)) (vp_in_nI (by omega) (by omega)) ?_
    refine m_aload_n F rfl e_L_law_272 ?_
    refine m_iload F rfl e_L_law_273 ?_
    refine m_iconst F (v := 3) (by decide) e_L_law_275 ?_
    refine m_iadd F e_L_law_276 ?_
    refine Wm.topE (w := nI (i + 3)) (nI_add i 3) ?_
    refine m_sld F (j := i + 3) e_L_law_277 hX hb (nI_clamp (by omega)) (vp_in_nI (by omega) (by omega)) ?_
    refine m_aload_n F rfl e_L_law_278 ?_
    refine m_iload F rfl e_L_law_279 ?_
    refine m_iconst F (v := 4) (by decide) e_L_law_281 ?_
    refine m_iadd F e_L_law_282 ?_
    refine Wm.topE (w := nI (i + 4)) (nI_add i 4) ?_
    refine m_sld F (j := i + 4) e_L_law_283 hX hb (nI_clamp (by omega)) (vp_in_nI (by omega) (by omega)) ?_
    refine m_aload_n F rfl e_L_law_284 ?_
    refine m_iload F rfl e_L_law_285 ?_
    refine m_iconst F (v := 5) (by decide) e_L_law_287 ?_
    refine m_iadd F e_L_law_288 ?_
    refine Wm.topE (w := nI (i + 5)) (nI_add i 5) ?_
    refine m_sld F (j := i + 5) e_L_law_289 hX hb (nI_clamp (by omega)) (vp_in_nI (by omega) (by omega)) ?_
    refine l_callM F e_L_law_290 (q_X10_feedE (x_l X) V (b + 1457) T 1 u h P L0_ _ _ (xs (i + 1)) (xs (i + 2)) (xs (i + 3)) (xs (i + 4)) (xs (i + 5)) t2 h10849 hok.b hP (by first | omega | assumption) br10852 hbt) cb_X10_feed ml_L_25 im_X10_feed se_X10_feed h10849 rfl rfl (rest := []) rfl (Nat.le_of_ble_eq_true rfl) ⟨Nat.le_of_ble_eq_true rfl, Nat.le_of_ble_eq_true rfl⟩ (by omega) (by omega) (fun r σ10854 hp => ?_)
    rcases hp with ⟨g10856, h10855, er, rfl⟩ | ⟨g10856, h10855, br20, rfl⟩
    · have ft10857 := ft10853.of (h10855.2 (b + 128) (by rw [kC_0 (c := b + 1457) (by omega)]; decide))
      have h10858 := h10855.1
      have h10859 := h10848.keepM (fun a ha => h10855.2 a (by rw [ha]; decide))
      have h10860 := (h10855.2 (b + 1480) (by rw [kC_0 (c := b + 1457) (by omega)]; decide)).trans h10850
      have by10861 := (hBy2.keep (by rw [ef])).keep (h10855.2 (b + 1) (by rw [kC_0 (c := b + 1457) (by omega)]; decide))
      refine m_pop F rfl e_L_law_293 ?_
      refine m_goto F e_L_law_294 ?_
      exact hN _ M T _ _ _ (by omega) (by omega) (by omega) ⟨by omega, h10859, ⟨_, h10860⟩, u, h, P, L0_, ⟨hu, hh, hP, hkk, hm0, hw0, hok⟩, h10858, ft10857, _, by10861, (br10852.of er)⟩
    · exfalso; omega
  · have h10863 := h10846.1
    have h10864 := hHR.keepL (fun a ha _ => h10846.2 a (by rw [show kA _ a = 0 from ha]; decide))
    have h10865 := (h10846.2 (b + 1480) (by rw [show kA _ (b + 1480) = 0 from kA_o]; decide)).trans hout
    have br10867 := hBr2.of (h10846.2 (b + 1457 + 1) (by rw [show kA _ (b + 1457 + 1) = 0 from kA_big (by omega)]; decide))
    have ft10868 := hFt.of (h10846.2 (b + 128) (by rw [show kA _ (b + 128) = 3 from kA_r]; decide))
    refine m_pop F rfl e_L_law_258 ?_
    refine m_aload_n F rfl e_L_law_259 ?_
    refine m_aload_n F rfl e_L_law_260 ?_
    refine m_iload F rfl e_L_law_261 ?_
    refine m_iconst F (v := 1) (by decide) e_L_law_263 ?_
    refine m_iadd F e_L_law_264 ?_
    refine Wm.topE (w := nI (i + 1)) (nI_add i 1) ?_
    refine m_sld F (j := i + 1) e_L_law_265 hX hb (nI_clamp (by omega)) (vp_in_nI (by omega) (by omega)) ?_
    refine m_aload_n F rfl e_L_law_266 ?_
    refine m_iload F rfl e_L_law_267 ?_
    refine m_iconst F (v := 2) (by decide) e_L_law_269 ?_
    refine m_iadd F e_L_law_270 ?_
    refine Wm.topE (w := nI (i + 2)) (nI_add i 2) ?_
    refine m_sld F (j := i + 2) e_L_law_271 hX hb (nI_clamp (by omega)) (vp_in_nI (by omega) (by omega)) ?_
    refine m_aload_n F rfl e_L_law_272 ?_
    refine m_iload F rfl e_L_law_273 ?_
    refine m_iconst F (v := 3) (by decide) e_L_law_275 ?_
    refine m_iadd F e_L_law_276 ?_
    refine Wm.topE (w := nI (i + 3)) (nI_add i 3) ?_
    refine m_sld F (j := i + 3) e_L_law_277 hX hb (nI_clamp (by omega)) (vp_in_nI (by omega) (by omega)) ?_
    refine m_aload_n F rfl e_L_law_278 ?_
    refine m_iload F rfl e_L_law_279 ?_
    refine m_iconst F (v := 4) (by decide) e_L_law_281 ?_
    refine m_iadd F e_L_law_282 ?_
    refine Wm.topE (w := nI (i + 4)) (nI_add i 4) ?_
    refine m_sld F (j := i + 4) e_L_law_283 hX hb (nI_clamp (by omega)) (vp_in_nI (by omega) (by omega)) ?_
    refine m_aload_n F rfl e_L_law_284 ?_
    refine m_iload F rfl e_L_law_285 ?_
    refine m_iconst F (v := 5) (by decide) e_L_law_287 ?_
    refine m_iadd F e_L_law_288 ?_
    refine Wm.topE (w := nI (i + 5)) (nI_add i 5) ?_
    refine m_sld F (j := i + 5) e_L_law_289 hX hb (nI_clamp (by omega)) (vp_in_nI (by omega) (by omega)) ?_
    refine l_callM F e_L_law_290 (q_X10_feedE (x_l X) V (b + 1457) T 1 u h P L0_ _ _ (xs (i + 1)) (xs (i + 2)) (xs (i + 3)) (xs (i + 4)) (xs (i + 5)) t2 h10864 hok.b hP (by first | omega | assumption) br10867 hbt) cb_X10_feed ml_L_25 im_X10_feed se_X10_feed h10864 rfl rfl (rest := []) rfl (Nat.le_of_ble_eq_true rfl) ⟨Nat.le_of_ble_eq_true rfl, Nat.le_of_ble_eq_true rfl⟩ (by omega) (by omega) (fun r σ10869 hp => ?_)
    rcases hp with ⟨g10871, h10870, er, rfl⟩ | ⟨g10871, h10870, br20, rfl⟩
    · exfalso; omega
    · have ft10872 := ft10868.of (h10870.2 (b + 128) (by rw [kC_0 (c := b + 1457) (by omega)]; decide))
      have h10873 := h10870.1
      have h10874 := h10863.keepM (fun a ha => h10870.2 a (by rw [ha]; decide))
      have h10875 := (h10870.2 (b + 1480) (by rw [kC_0 (c := b + 1457) (by omega)]; decide)).trans h10865
      have by10876 := by20.keep (h10870.2 (b + 1) (by rw [kC_0 (c := b + 1457) (by omega)]; decide))
      refine m_pop F rfl e_L_law_293 ?_
      refine m_goto F e_L_law_294 ?_
      exact hN _ M (T + 20) _ _ _ (by omega) (by omega) (by omega) ⟨by omega, h10874, ⟨_, h10875⟩, u, h, P, L0_, ⟨hu, hh, hP, hkk, hm0, hw0, hok⟩, h10873, ft10872, _, by10876, br20⟩
set_option maxRecDepth 20000 in
theorem lc_1 {V : VX} {X : MX} {nm : String} {b sb N k z i L M T : Nat} {xs : Nat → Int32} {σ : Mem} (F : Fx V X (yLw nm) cL_law 7 ret room_1) (hX : va_X sb L xs (x_s X) V.2.2) (hb : sb < V.2.2.size) (hl : (x_l X).stackTraces = false) (hi : i + 6 ≤ L) (hL : L ≤ 3072) (hk : k ≤ 2100) (hz : z ≤ 80000) (hM : M ≤ 10000000) (hI : IV V b M T σ) (hN : ∀ (N' M' T' : Nat) (σ' : Mem) (k' z' : Nat), k' ≤ k + 1 → z' ≤ z + 6 → M' ≤ M + 10000 → IV V b M' T' σ' → Wm V X 7 N' σ' k' z' 1745 [(4, .int (nI i)), (3, .ref (b + 1480)), (2, .ref (b + 1457)), (1, .ref b), (0, .ref sb)] []) : Wm V X 7 N σ k z 297 [(4, .int (nI i)), (3, .ref (b + 1480)), (2, .ref (b + 1457)), (1, .ref b), (0, .ref sb)] [] := by
  obtain ⟨hT, hHT, ⟨z0, hout⟩, u, h, P, L0_, ⟨hu, hh, hP, hkk, hm0, hw0, hok⟩, hHR, hFt, t, hBy, hBr⟩ := hI
  refine m_aload_n F rfl e_L_law_297 ?_
  refine m_aload_n F rfl e_L_law_298 ?_
  refine m_iload F rfl e_L_law_299 ?_
  refine m_iconst F (v := 1) (by decide) e_L_law_301 ?_
  refine m_iadd F e_L_law_302 ?_
  refine Wm.topE (w := nI (i + 1)) (nI_add i 1) ?_
  refine m_sld F (j := i + 1) e_L_law_303 hX hb (nI_clamp (by omega)) (vp_in_nI (by omega) (by omega)) ?_
  refine l_callC F e_L_law_304 (s_X9_textE (x_l X) V b M 1 T _ _ b (xs (i + 1)) t hHT kA_b (by omega) hBy (by omega)) cb_X9_text ml_L_26 im_X9_text se_X9_text hHT rfl rfl (rest := []) rfl (Nat.le_of_ble_eq_true rfl) ⟨Nat.le_of_ble_eq_true rfl, Nat.le_of_ble_eq_true rfl⟩ (by omega) (by omega) (fun r σ10878 hp => ?_)
  rcases hp with ⟨gt, h10879, et, rfl⟩ | ⟨n1, en, gt, h10879, ftn, rfl⟩
  · have h10880 := h10879.1
    have h10881 := hHR.keepL (fun a ha _ => h10879.2 a (by rw [show kA _ a = 0 from ha]; decide))
    have h10882 := (h10879.2 (b + 1480) (by rw [show kA _ (b + 1480) = 0 from kA_o]; decide)).trans hout
    have br10884 := hBr.of (h10879.2 (b + 1457 + 1) (by rw [show kA _ (b + 1457 + 1) = 0 from kA_big (by omega)]; decide))
    have by10883 := hBy.keep (h10879.2 (b + 1) (by rw [show kA _ (b + 1) = 2 from kA_t]; decide))
    refine m_pop F rfl e_L_law_307 ?_
    refine m_aload_n F rfl e_L_law_308 ?_
    refine m_aload_n F rfl e_L_law_309 ?_
    refine m_iload F rfl e_L_law_310 ?_
    refine m_iconst F (v := 1) (by decide) e_L_law_312 ?_
    refine m_iadd F e_L_law_313 ?_
    refine Wm.topE (w := nI (i + 1)) (nI_add i 1) ?_
    refine m_sld F (j := i + 1) e_L_law_314 hX hb (nI_clamp (by omega)) (vp_in_nI (by omega) (by omega)) ?_
    refine l_callM F e_L_law_315 (q_X10_textE (x_l X) V (b + 1457) T 1 u h P L0_ _ _ (xs (i + 1)) t h10881 hok hP (by first | omega | assumption) (by first | omega | assumption) (by first | omega | assumption) (by first | omega | assumption) (by first | omega | assumption) (by first | omega | assumption) br10884) cb_X10_text ml_L_30 im_X10_text se_X10_text h10881 rfl rfl (rest := []) rfl (Nat.le_of_ble_eq_true rfl) ⟨Nat.le_of_ble_eq_true rfl, Nat.le_of_ble_eq_true rfl⟩ (by omega) (by omega) (fun r σ10885 hp => ?_)
    rcases hp with ⟨gm, h10886, -, -, -, rfl⟩ | ⟨n2, em, gm, f25, f26, rfl, u2, h2, P2, L2, ⟨hu2, hh2, hP2, hkk2, hm2, hw2, hok2⟩, h10886⟩
    · have ft10887 := (hFt.of (by rw [et])).of (h10886.2 (b + 128) (by rw [kC_0 (c := b + 1457) (by omega)]; decide))
      have h10888 := h10886.1
      have h10889 := h10880.keepM (fun a ha => h10886.2 a (by rw [ha]; decide))
      have h10890 := (h10886.2 (b + 1480) (by rw [kC_0 (c := b + 1457) (by omega)]; decide)).trans h10882
      have by10891 := by10883.keep (h10886.2 (b + 1) (by rw [kC_0 (c := b + 1457) (by omega)]; decide))
      have br10892 := br10884.of (h10886.2 (b + 1457 + 1) (by rw [kC_at (k := 1) (by decide)]; decide))
      refine m_pop F rfl e_L_law_318 ?_
      refine m_goto F e_L_law_319 ?_
      exact hN _ M T _ _ _ (by omega) (by omega) (by omega) ⟨by omega, h10889, ⟨_, h10890⟩, u, h, P, L0_, ⟨hu, hh, hP, hkk, hm0, hw0, hok⟩, h10888, ft10887, _, by10891, br10892⟩
    · exact absurd gt (tx_no em gm (by omega))
  · have h10893 := h10879.1
    have h10894 := hHR.keepL (fun a ha _ => h10879.2 a (by rw [show kA _ a = 0 from ha]; decide))
    have h10895 := (h10879.2 (b + 1480) (by rw [show kA _ (b + 1480) = 0 from kA_o]; decide)).trans hout
    have br10897 := hBr.of (h10879.2 (b + 1457 + 1) (by rw [show kA _ (b + 1457 + 1) = 0 from kA_big (by omega)]; decide))
    have by10896 := hBy.keep (h10879.2 (b + 1) (by rw [show kA _ (b + 1) = 2 from kA_t]; decide))
    refine m_pop F rfl e_L_law_307 ?_
    refine m_aload_n F rfl e_L_law_308 ?_
    refine m_aload_n F rfl e_L_law_309 ?_
    refine m_iload F rfl e_L_law_310 ?_
    refine m_iconst F (v := 1) (by decide) e_L_law_312 ?_
    refine m_iadd F e_L_law_313 ?_
    refine Wm.topE (w := nI (i + 1)) (nI_add i 1) ?_
    refine m_sld F (j := i + 1) e_L_law_314 hX hb (nI_clamp (by omega)) (vp_in_nI (by omega) (by omega)) ?_
    refine l_callM F e_L_law_315 (q_X10_textE (x_l X) V (b + 1457) T 1 u h P L0_ _ _ (xs (i + 1)) t h10894 hok hP (by first | omega | assumption) (by first | omega | assumption) (by first | omega | assumption) (by first | omega | assumption) (by first | omega | assumption) (by first | omega | assumption) br10897) cb_X10_text ml_L_30 im_X10_text se_X10_text h10894 rfl rfl (rest := []) rfl (Nat.le_of_ble_eq_true rfl) ⟨Nat.le_of_ble_eq_true rfl, Nat.le_of_ble_eq_true rfl⟩ (by omega) (by omega) (fun r σ10898 hp => ?_)
    rcases hp with ⟨gm, h10899, -, -, -, rfl⟩ | ⟨n2, em, gm, f25, f26, rfl, u2, h2, P2, L2, ⟨hu2, hh2, hP2, hkk2, hm2, hw2, hok2⟩, h10899⟩
    · exact absurd gm (tx_no en gt (by omega))
    · obtain rfl : n1 = n2 := nI_inj (by omega) (by omega) (en.symm.trans em)
      have ft10900 := ftn.of (h10899.2 (b + 128) (by rw [kC_0 (c := b + 1457) (by omega)]; decide))
      have h10901 := h10899.1
      have h10902 := h10893.keepM (fun a ha => h10899.2 a (by rw [ha]; decide))
      have h10903 := (h10899.2 (b + 1480) (by rw [kC_0 (c := b + 1457) (by omega)]; decide)).trans h10895
      have by10904 := by10896.keep (h10899.2 (b + 1) (by rw [kC_0 (c := b + 1457) (by omega)]; decide))
      have br10905 := br10897.of (h10899.2 (b + 1457 + 1) (by rw [kC_at (k := 1) (by decide)]; decide))
      have ft10906 := ft10900.to h10901 f25 f26
      refine m_pop F rfl e_L_law_318 ?_
      refine m_goto F e_L_law_319 ?_
      exact hN _ M 0 _ _ _ (by omega) (by omega) (by omega) ⟨by omega, h10902, ⟨_, h10903⟩, u2, h2, P2, L2, ⟨hu2, hh2, hP2, hkk2, hm2, hw2, hok2⟩, h10901, ft10906, _, (by10904.to (m2 := 0) (Nat.zero_le _)), (br10905.to (m := 0) (Nat.zero_le _))⟩
set_option maxRecDepth 20000 in
theorem lc_2 {V : VX} {X : MX} {nm : String} {b sb N k z i L M T : Nat} {xs : Nat → Int32} {σ : Mem} (F : Fx V X (yLw nm) cL_law 7 ret room_1) (hX : va_X sb L xs (x_s X) V.2.2) (hb : sb < V.2.2.size) (hl : (x_l X).stackTraces = false) (hi : i + 6 ≤ L) (hL : L ≤ 3072) (hk : k ≤ 2100) (hz : z ≤ 80000) (hM : M ≤ 10000000) (hI : IV V b M T σ) (hN : ∀ (N' M' T' : Nat) (σ' : Mem) (k' z' : Nat), k' ≤ k + 1 → z' ≤ z + 6 → M' ≤ M + 10000 → IV V b M' T' σ' → Wm V X 7 N' σ' k' z' 1745 [(4, .int (nI i)), (3, .ref (b + 1480)), (2, .ref (b + 1457)), (1, .ref b), (0, .ref sb)] []) : Wm V X 7 N σ k z 322 [(4, .int (nI i)), (3, .ref (b + 1480)), (2, .ref (b + 1457)), (1, .ref b), (0, .ref sb)] [] := by
  obtain ⟨hT, hHT, ⟨z0, hout⟩, u, h, P, L0_, ⟨hu, hh, hP, hkk, hm0, hw0, hok⟩, hHR, hFt, t, hBy, hBr⟩ := hI
  refine m_aload_n F rfl e_L_law_322 ?_
  refine m_aload_n F rfl e_L_law_323 ?_
  refine m_iload F rfl e_L_law_324 ?_
  refine m_iconst F (v := 1) (by decide) e_L_law_326 ?_
  refine m_iadd F e_L_law_327 ?_
  refine Wm.topE (w := nI (i + 1)) (nI_add i 1) ?_
  refine m_sld F (j := i + 1) e_L_law_328 hX hb (nI_clamp (by omega)) (vp_in_nI (by omega) (by omega)) ?_
  refine l_callC F e_L_law_329 (s_X9_faultE (x_l X) V b M 1 T _ _ b (xs (i + 1)) P.f P.p hHT kA_b hFt (by omega)) cb_X9_fault ml_L_31 im_X9_fault se_X9_fault hHT rfl rfl (rest := []) rfl (Nat.le_of_ble_eq_true rfl) ⟨Nat.le_of_ble_eq_true rfl, Nat.le_of_ble_eq_true rfl⟩ (by omega) (by omega) (fun r σ10907 hp => ?_)
  obtain ⟨h10908, rfl⟩ := hp
  have h10909 := h10908.1
  have h10910 := hHR.keepL (fun a ha _ => h10908.2 a (by rw [show kA _ a = 0 from ha]; decide))
  have h10911 := (h10908.2 (b + 1480) (by rw [show kA _ (b + 1480) = 0 from kA_o]; decide)).trans hout
  have br10913 := hBr.of (h10908.2 (b + 1457 + 1) (by rw [show kA _ (b + 1457 + 1) = 0 from kA_big (by omega)]; decide))
  have ft10914 := hFt.of (h10908.2 (b + 128) (by rw [show kA _ (b + 128) = 3 from kA_r]; decide))
  have by10912 := hBy.keep (h10908.2 (b + 1) (by rw [show kA _ (b + 1) = 2 from kA_t]; decide))
  refine m_aload_n F rfl e_L_law_332 ?_
  refine m_aload_n F rfl e_L_law_333 ?_
  refine m_iload F rfl e_L_law_334 ?_
  refine m_iconst F (v := 1) (by decide) e_L_law_336 ?_
  refine m_iadd F e_L_law_337 ?_
  refine Wm.topE (w := nI (i + 1)) (nI_add i 1) ?_
  refine m_sld F (j := i + 1) e_L_law_338 hX hb (nI_clamp (by omega)) (vp_in_nI (by omega) (by omega)) ?_
  refine l_callM F e_L_law_339 (q_X10_faultE (x_l X) V (b + 1457) T 1 u h P L0_ _ _ (xs (i + 1)) h10910 hok.b hP ) cb_X10_fault ml_L_34 im_X10_fault se_X10_fault h10910 rfl rfl (rest := [.int (fau P.f P.p (xs (i + 1)))]) rfl (Nat.le_of_ble_eq_true rfl) ⟨Nat.le_of_ble_eq_true rfl, Nat.le_of_ble_eq_true rfl⟩ (by omega) (by omega) (fun r σ10915 hp => ?_)
  obtain ⟨h10916, rfl⟩ := hp
  have ft10917 := ft10914.of (h10916.2 (b + 128) (by rw [kC_0 (c := b + 1457) (by omega)]; decide))
  have h10918 := h10916.1
  have h10919 := h10909.keepM (fun a ha => h10916.2 a (by rw [ha]; decide))
  have h10920 := (h10916.2 (b + 1480) (by rw [kC_0 (c := b + 1457) (by omega)]; decide)).trans h10911
  have by10921 := by10912.keep (h10916.2 (b + 1) (by rw [kC_0 (c := b + 1457) (by omega)]; decide))
  have br10922 := br10913.of (h10916.2 (b + 1457 + 1) (by rw [kC_at (k := 1) (by decide)]; decide))
  refine m_icmp_eq F e_L_law_342 (fun _ => ?_) (fun q => absurd rfl q)
  exact hN _ M T _ _ _ (by omega) (by omega) (by omega) ⟨by omega, h10919, ⟨_, h10920⟩, u, h, P, L0_, ⟨hu, hh, hP, hkk, hm0, hw0, hok⟩, h10918, ft10917, _, by10921, br10922⟩
set_option maxRecDepth 20000 in
theorem lc_3 {V : VX} {X : MX} {nm : String} {b sb N k z i L M T : Nat} {xs : Nat → Int32} {σ : Mem} (F : Fx V X (yLw nm) cL_law 7 ret room_1) (hX : va_X sb L xs (x_s X) V.2.2) (hb : sb < V.2.2.size) (hl : (x_l X).stackTraces = false) (hi : i + 6 ≤ L) (hL : L ≤ 3072) (hk : k ≤ 2100) (hz : z ≤ 80000) (hM : M ≤ 10000000) (hI : IV V b M T σ) (hN : ∀ (N' M' T' : Nat) (σ' : Mem) (k' z' : Nat), k' ≤ k + 1 → z' ≤ z + 6 → M' ≤ M + 10000 → IV V b M' T' σ' → Wm V X 7 N' σ' k' z' 1745 [(4, .int (nI i)), (3, .ref (b + 1480)), (2, .ref (b + 1457)), (1, .ref b), (0, .ref sb)] []) : Wm V X 7 N σ k z 347 [(4, .int (nI i)), (3, .ref (b + 1480)), (2, .ref (b + 1457)), (1, .ref b), (0, .ref sb)] [] := by
  obtain ⟨hT, hHT, ⟨z0, hout⟩, u, h, P, L0_, ⟨hu, hh, hP, hkk, hm0, hw0, hok⟩, hHR, hFt, t, hBy, hBr⟩ := hI
  refine m_aload_n F rfl e_L_law_347 ?_
  refine m_aload_n F rfl e_L_law_348 ?_
  refine m_iload F rfl e_L_law_349 ?_
  refine m_iconst F (v := 1) (by decide) e_L_law_351 ?_
  refine m_iadd F e_L_law_352 ?_
  refine Wm.topE (w := nI (i + 1)) (nI_add i 1) ?_
  refine m_sld F (j := i + 1) e_L_law_353 hX hb (nI_clamp (by omega)) (vp_in_nI (by omega) (by omega)) ?_
  refine l_callC F e_L_law_354 (s_X9_named (x_l X) V b M 1 T _ _ b (xs (i + 1)) hHT kA_b  (by omega)) cb_X9_named ml_L_35 im_X9_named se_X9_named hHT rfl rfl (rest := []) rfl (Nat.le_of_ble_eq_true rfl) ⟨Nat.le_of_ble_eq_true rfl, Nat.le_of_ble_eq_true rfl⟩ (by omega) (by omega) (fun r σ10923 hp => ?_)
  obtain ⟨h10924, x10925, rfl⟩ := hp
  have h10926 := h10924.1
  have h10927 := hHR.keepL (fun a ha _ => h10924.2 a (by rw [show kA _ a = 0 from ha]; decide))
  have h10928 := (h10924.2 (b + 1480) (by rw [show kA _ (b + 1480) = 0 from kA_o]; decide)).trans hout
  have br10930 := hBr.of (h10924.2 (b + 1457 + 1) (by rw [show kA _ (b + 1457 + 1) = 0 from kA_big (by omega)]; decide))
  have ft10931 := hFt.of (h10924.2 (b + 128) (by rw [show kA _ (b + 128) = 3 from kA_r]; decide))
  have by10929 := hBy.keep (h10924.2 (b + 1) (by rw [show kA _ (b + 1) = 2 from kA_t]; decide))
  refine m_pop F rfl e_L_law_357 ?_
  refine m_aload_n F rfl e_L_law_358 ?_
  refine m_aload_n F rfl e_L_law_359 ?_
  refine m_iload F rfl e_L_law_360 ?_
  refine m_iconst F (v := 1) (by decide) e_L_law_362 ?_
  refine m_iadd F e_L_law_363 ?_
  refine Wm.topE (w := nI (i + 1)) (nI_add i 1) ?_
  refine m_sld F (j := i + 1) e_L_law_364 hX hb (nI_clamp (by omega)) (vp_in_nI (by omega) (by omega)) ?_
  refine l_callM F e_L_law_365 (q_X10_named (x_l X) V (b + 1457) T 1 u h P L0_ _ _ (xs (i + 1)) h10927 hok.b hP ) cb_X10_named ml_L_38 im_X10_named se_X10_named h10927 rfl rfl (rest := []) rfl (Nat.le_of_ble_eq_true rfl) ⟨Nat.le_of_ble_eq_true rfl, Nat.le_of_ble_eq_true rfl⟩ (by omega) (by omega) (fun r σ10932 hp => ?_)
  obtain ⟨h10933, x10934, rfl⟩ := hp
  have ft10935 := ft10931.of (h10933.2 (b + 128) (by rw [kC_0 (c := b + 1457) (by omega)]; decide))
  have h10936 := h10933.1
  have h10937 := h10926.keepM (fun a ha => h10933.2 a (by rw [ha]; decide))
  have h10938 := (h10933.2 (b + 1480) (by rw [kC_0 (c := b + 1457) (by omega)]; decide)).trans h10928
  have by10939 := by10929.keep (h10933.2 (b + 1) (by rw [kC_0 (c := b + 1457) (by omega)]; decide))
  have br10940 := br10930.of (h10933.2 (b + 1457 + 1) (by rw [kC_at (k := 1) (by decide)]; decide))
  refine m_pop F rfl e_L_law_368 ?_
  refine m_goto F e_L_law_369 ?_
  exact hN _ M T _ _ _ (by omega) (by omega) (by omega) ⟨by omega, h10937, ⟨_, h10938⟩, u, h, P, L0_, ⟨hu, hh, hP, hkk, hm0, hw0, hok⟩, h10936, ft10935, _, by10939, br10940⟩
set_option maxRecDepth 20000 in
theorem lc_4 {V : VX} {X : MX} {nm : String} {b sb N k z i L M T : Nat} {xs : Nat → Int32} {σ : Mem} (F : Fx V X (yLw nm) cL_law 7 ret room_1) (hX : va_X sb L xs (x_s X) V.2.2) (hb : sb < V.2.2.size) (hl : (x_l X).stackTraces = false) (hi : i + 6 ≤ L) (hL : L ≤ 3072) (hk : k ≤ 2100) (hz : z ≤ 80000) (hM : M ≤ 10000000) (hI : IV V b M T σ) (hN : ∀ (N' M' T' : Nat) (σ' : Mem) (k' z' : Nat), k' ≤ k + 1 → z' ≤ z + 6 → M' ≤ M + 10000 → IV V b M' T' σ' → Wm V X 7 N' σ' k' z' 1745 [(4, .int (nI i)), (3, .ref (b + 1480)), (2, .ref (b + 1457)), (1, .ref b), (0, .ref sb)] []) : Wm V X 7 N σ k z 372 [(4, .int (nI i)), (3, .ref (b + 1480)), (2, .ref (b + 1457)), (1, .ref b), (0, .ref sb)] [] := by
  obtain ⟨hT, hHT, ⟨z0, hout⟩, u, h, P, L0_, ⟨hu, hh, hP, hkk, hm0, hw0, hok⟩, hHR, hFt, t, hBy, hBr⟩ := hI
  refine m_aload_n F rfl e_L_law_372 ?_
  refine m_aload_n F rfl e_L_law_373 ?_
  refine m_iload F rfl e_L_law_374 ?_
  refine m_iconst F (v := 1) (by decide) e_L_law_376 ?_
  refine m_iadd F e_L_law_377 ?_
  refine Wm.topE (w := nI (i + 1)) (nI_add i 1) ?_
  refine m_sld F (j := i + 1) e_L_law_378 hX hb (nI_clamp (by omega)) (vp_in_nI (by omega) (by omega)) ?_
  refine l_callC F e_L_law_379 (s_X9_go (x_l X) V b M 1 T _ _ b (xs (i + 1)) hHT kA_b  (by omega)) cb_X9_go ml_L_39 im_X9_go se_X9_go hHT rfl rfl (rest := []) rfl (Nat.le_of_ble_eq_true rfl) ⟨Nat.le_of_ble_eq_true rfl, Nat.le_of_ble_eq_true rfl⟩ (by omega) (by omega) (fun r σ10941 hp => ?_)
  obtain ⟨h10942, x10943, rfl⟩ := hp
  have h10944 := h10942.1
  have h10945 := hHR.keepL (fun a ha _ => h10942.2 a (by rw [show kA _ a = 0 from ha]; decide))
  have h10946 := (h10942.2 (b + 1480) (by rw [show kA _ (b + 1480) = 0 from kA_o]; decide)).trans hout
  have br10948 := hBr.of (h10942.2 (b + 1457 + 1) (by rw [show kA _ (b + 1457 + 1) = 0 from kA_big (by omega)]; decide))
  have ft10949 := hFt.of (h10942.2 (b + 128) (by rw [show kA _ (b + 128) = 3 from kA_r]; decide))
  have by10947 := hBy.keep (h10942.2 (b + 1) (by rw [show kA _ (b + 1) = 2 from kA_t]; decide))
  refine m_pop F rfl e_L_law_382 ?_
  refine m_aload_n F rfl e_L_law_383 ?_
  refine m_aload_n F rfl e_L_law_384 ?_
  refine m_iload F rfl e_L_law_385 ?_
  refine m_iconst F (v := 1) (by decide) e_L_law_387 ?_
  refine m_iadd F e_L_law_388 ?_
  refine Wm.topE (w := nI (i + 1)) (nI_add i 1) ?_
  refine m_sld F (j := i + 1) e_L_law_389 hX hb (nI_clamp (by omega)) (vp_in_nI (by omega) (by omega)) ?_
  refine l_callM F e_L_law_390 (q_X10_go (x_l X) V (b + 1457) T 1 u h P L0_ _ _ (xs (i + 1)) h10945 hok hP (by first | omega | assumption) (by first | omega | assumption)) cb_X10_go ml_L_42 im_X10_go se_X10_go h10945 rfl rfl (rest := []) rfl (Nat.le_of_ble_eq_true rfl) ⟨Nat.le_of_ble_eq_true rfl, Nat.le_of_ble_eq_true rfl⟩ (by omega) (by omega) (fun r σ10950 hp => ?_)
  obtain ⟨u10952, hu10952, L10953, okL10953, h10951, x10954, rfl⟩ := hp
  have ft10955 := ft10949.of (h10951.2 (b + 128) (by rw [kC_0 (c := b + 1457) (by omega)]; decide))
  have h10956 := h10951.1
  have h10957 := h10944.keepM (fun a ha => h10951.2 a (by rw [ha]; decide))
  have h10958 := (h10951.2 (b + 1480) (by rw [kC_0 (c := b + 1457) (by omega)]; decide)).trans h10946
  have by10959 := by10947.keep (h10951.2 (b + 1) (by rw [kC_0 (c := b + 1457) (by omega)]; decide))
  have br10960 := br10948.of (h10951.2 (b + 1457 + 1) (by rw [kC_at (k := 1) (by decide)]; decide))
  refine m_pop F rfl e_L_law_393 ?_
  refine m_goto F e_L_law_394 ?_
  exact hN _ (M + 108) T _ _ _ (by omega) (by omega) (by omega) ⟨by omega, h10957, ⟨_, h10958⟩, u10952, h, P, L10953, ⟨hu10952, hh, hP, hkk, hm0, hw0, okL10953⟩, h10956, ft10955, _, by10959, br10960⟩
set_option maxRecDepth 20000 in
theorem lc_5 {V : VX} {X : MX} {nm : String} {b sb N k z i L M T : Nat} {xs : Nat → Int32} {σ : Mem} (F : Fx V X (yLw nm) cL_law 7 ret room_1) (hX : va_X sb L xs (x_s X) V.2.2) (hb : sb < V.2.2.size) (hl : (x_l X).stackTraces = false) (hi : i + 6 ≤ L) (hL : L ≤ 3072) (hk : k ≤ 2100) (hz : z ≤ 80000) (hM : M ≤ 10000000) (hI : IV V b M T σ) (hN : ∀ (N' M' T' : Nat) (σ' : Mem) (k' z' : Nat), k' ≤ k + 1 → z' ≤ z + 6 → M' ≤ M + 10000 → IV V b M' T' σ' → Wm V X 7 N' σ' k' z' 1745 [(4, .int (nI i)), (3, .ref (b + 1480)), (2, .ref (b + 1457)), (1, .ref b), (0, .ref sb)] []) : Wm V X 7 N σ k z 397 [(4, .int (nI i)), (3, .ref (b + 1480)), (2, .ref (b + 1457)), (1, .ref b), (0, .ref sb)] [] := by
  obtain ⟨hT, hHT, ⟨z0, hout⟩, u, h, P, L0_, ⟨hu, hh, hP, hkk, hm0, hw0, hok⟩, hHR, hFt, t, hBy, hBr⟩ := hI
  refine m_aload_n F rfl e_L_law_397 ?_
  refine m_aload_n F rfl e_L_law_398 ?_
  refine m_iload F rfl e_L_law_399 ?_
  refine m_iconst F (v := 1) (by decide) e_L_law_401 ?_
  refine m_iadd F e_L_law_402 ?_
  refine Wm.topE (w := nI (i + 1)) (nI_add i 1) ?_
  refine m_sld F (j := i + 1) e_L_law_403 hX hb (nI_clamp (by omega)) (vp_in_nI (by omega) (by omega)) ?_
  refine m_aload_n F rfl e_L_law_404 ?_
  refine m_iload F rfl e_L_law_405 ?_
  refine m_iconst F (v := 2) (by decide) e_L_law_407 ?_
  refine m_iadd F e_L_law_408 ?_
  refine Wm.topE (w := nI (i + 2)) (nI_add i 2) ?_
  refine m_sld F (j := i + 2) e_L_law_409 hX hb (nI_clamp (by omega)) (vp_in_nI (by omega) (by omega)) ?_
  refine m_aload_n F rfl e_L_law_410 ?_
  refine m_callSL F e_L_law_411 (s_L_lease (x_l X) hl V b M T _ _ b (b + 1480) (xs (i + 1)) (xs (i + 2)) z0 hHT kA_b kA_o hout (by omega)) ml_L_43 rfl (rest := []) rfl (Nat.le_of_ble_eq_true rfl) ⟨Nat.le_of_ble_eq_true rfl, Nat.le_of_ble_eq_true rfl⟩ (by omega) (by omega) (fun N1 σ10961 x1 hp1 hp2 hp3 => ?_)
  obtain ⟨z1, hz1⟩ := hp2
  have h10963 := hHR.keepL (fun a ha hb2 => hp3 a hb2 (by rw [ha]; decide))
  have by10965 := hBy.keep (hp3 (b + 1) (by omega) (by rw [kA_t]; decide))
  have br10966 := hBr.of (hp3 (b + 1457 + 1) (by omega) (by rw [kA_big (by omega)]; decide))
  have ft10967 := hFt.of (hp3 (b + 128) (by omega) (by rw [kA_r]; decide))
  refine m_istore F (lv' := [(5, .int x1), (4, .int (nI i)), (3, .ref (b + 1480)), (2, .ref (b + 1457)), (1, .ref b), (0, .ref sb)]) e_L_law_414 (by decide) rfl ?_
  refine m_aload_n F rfl e_L_law_416 ?_
  refine m_aload_n F rfl e_L_law_417 ?_
  refine m_iload F rfl e_L_law_418 ?_
  refine m_iconst F (v := 1) (by decide) e_L_law_420 ?_
  refine m_iadd F e_L_law_421 ?_
  refine Wm.topE (w := nI (i + 1)) (nI_add i 1) ?_
  refine m_sld F (j := i + 1) e_L_law_422 hX hb (nI_clamp (by omega)) (vp_in_nI (by omega) (by omega)) ?_
  refine m_aload_n F rfl e_L_law_423 ?_
  refine m_iload F rfl e_L_law_424 ?_
  refine m_iconst F (v := 2) (by decide) e_L_law_426 ?_
  refine m_iadd F e_L_law_427 ?_
  refine Wm.topE (w := nI (i + 2)) (nI_add i 2) ?_
  refine m_sld F (j := i + 2) e_L_law_428 hX hb (nI_clamp (by omega)) (vp_in_nI (by omega) (by omega)) ?_
  refine l_callM F e_L_law_429 (q_X10_lease (x_l X) V (b + 1457) T 1 u h P L0_ _ _ (xs (i + 1)) (xs (i + 2)) h10963 hok.b hP ) cb_X10_lease ml_L_48 im_X10_lease se_X10_lease h10963 rfl rfl (rest := []) rfl (Nat.le_of_ble_eq_true rfl) ⟨Nat.le_of_ble_eq_true rfl, Nat.le_of_ble_eq_true rfl⟩ (by omega) (by omega) (fun r σ10968 hp => ?_)
  obtain ⟨h10969, x10970, rfl⟩ := hp
  have ft10971 := ft10967.of (h10969.2 (b + 128) (by rw [kC_0 (c := b + 1457) (by omega)]; decide))
  have h10972 := h10969.1
  have h10973 := hp1.keepM (fun a ha => h10969.2 a (by rw [ha]; decide))
  have h10974 := (h10969.2 (b + 1480) (by rw [kC_0 (c := b + 1457) (by omega)]; decide)).trans hz1
  have by10975 := by10965.keep (h10969.2 (b + 1) (by rw [kC_0 (c := b + 1457) (by omega)]; decide))
  have br10976 := br10966.of (h10969.2 (b + 1457 + 1) (by rw [kC_at (k := 1) (by decide)]; decide))
  refine m_istore F (lv' := [(6, .int x10970), (5, .int x1), (4, .int (nI i)), (3, .ref (b + 1480)), (2, .ref (b + 1457)), (1, .ref b), (0, .ref sb)]) e_L_law_432 (by decide) rfl ?_
  refine m_goto F e_L_law_434 ?_
  refine Wm.lvsub (lv' := [(4, .int (nI i)), (3, .ref (b + 1480)), (2, .ref (b + 1457)), (1, .ref b), (0, .ref sb)]) ?_ [2, 3, 4, 5, 6] rfl
  exact hN _ M T _ _ _ (by omega) (by omega) (by omega) ⟨by omega, h10973, ⟨_, h10974⟩, u, h, P, L0_, ⟨hu, hh, hP, hkk, hm0, hw0, hok⟩, h10972, ft10971, _, by10975, br10976⟩
set_option maxRecDepth 20000 in
theorem lc_6 {V : VX} {X : MX} {nm : String} {b sb N k z i L M T : Nat} {xs : Nat → Int32} {σ : Mem} (F : Fx V X (yLw nm) cL_law 7 ret room_1) (hX : va_X sb L xs (x_s X) V.2.2) (hb : sb < V.2.2.size) (hl : (x_l X).stackTraces = false) (hi : i + 6 ≤ L) (hL : L ≤ 3072) (hk : k ≤ 2100) (hz : z ≤ 80000) (hM : M ≤ 10000000) (hI : IV V b M T σ) (hN : ∀ (N' M' T' : Nat) (σ' : Mem) (k' z' : Nat), k' ≤ k + 1 → z' ≤ z + 6 → M' ≤ M + 10000 → IV V b M' T' σ' → Wm V X 7 N' σ' k' z' 1745 [(4, .int (nI i)), (3, .ref (b + 1480)), (2, .ref (b + 1457)), (1, .ref b), (0, .ref sb)] []) : Wm V X 7 N σ k z 437 [(4, .int (nI i)), (3, .ref (b + 1480)), (2, .ref (b + 1457)), (1, .ref b), (0, .ref sb)] [] := by
  obtain ⟨hT, hHT, ⟨z0, hout⟩, u, h, P, L0_, ⟨hu, hh, hP, hkk, hm0, hw0, hok⟩, hHR, hFt, t, hBy, hBr⟩ := hI
  refine m_aload_n F rfl e_L_law_437 ?_
  refine m_aload_n F rfl e_L_law_438 ?_
  refine m_iload F rfl e_L_law_439 ?_
  refine m_iconst F (v := 1) (by decide) e_L_law_441 ?_
  refine m_iadd F e_L_law_442 ?_
  refine Wm.topE (w := nI (i + 1)) (nI_add i 1) ?_
  refine m_sld F (j := i + 1) e_L_law_443 hX hb (nI_clamp (by omega)) (vp_in_nI (by omega) (by omega)) ?_
  refine m_aload_n F rfl e_L_law_444 ?_
  refine m_iload F rfl e_L_law_445 ?_
  refine m_iconst F (v := 2) (by decide) e_L_law_447 ?_
  refine m_iadd F e_L_law_448 ?_
  refine Wm.topE (w := nI (i + 2)) (nI_add i 2) ?_
  refine m_sld F (j := i + 2) e_L_law_449 hX hb (nI_clamp (by omega)) (vp_in_nI (by omega) (by omega)) ?_
  refine l_callC F e_L_law_450 (s_X9_amount (x_l X) V b M 1 T _ _ b (xs (i + 1)) (xs (i + 2)) hHT kA_b  (by omega)) cb_X9_amount ml_L_49 im_X9_amount se_X9_amount hHT rfl rfl (rest := []) rfl (Nat.le_of_ble_eq_true rfl) ⟨Nat.le_of_ble_eq_true rfl, Nat.le_of_ble_eq_true rfl⟩ (by omega) (by omega) (fun r σ10977 hp => ?_)
  obtain ⟨h10978, x10979, rfl⟩ := hp
  have h10980 := h10978.1
  have h10981 := hHR.keepL (fun a ha _ => h10978.2 a (by rw [show kA _ a = 0 from ha]; decide))
  have h10982 := (h10978.2 (b + 1480) (by rw [show kA _ (b + 1480) = 0 from kA_o]; decide)).trans hout
  have br10984 := hBr.of (h10978.2 (b + 1457 + 1) (by rw [show kA _ (b + 1457 + 1) = 0 from kA_big (by omega)]; decide))
  have ft10985 := hFt.of (h10978.2 (b + 128) (by rw [show kA _ (b + 128) = 3 from kA_r]; decide))
  have by10983 := hBy.keep (h10978.2 (b + 1) (by rw [show kA _ (b + 1) = 2 from kA_t]; decide))
  refine m_pop2_2 F rfl e_L_law_453 ?_
  refine m_aload_n F rfl e_L_law_454 ?_
  refine m_aload_n F rfl e_L_law_455 ?_
  refine m_iload F rfl e_L_law_456 ?_
  refine m_iconst F (v := 1) (by decide) e_L_law_458 ?_
  refine m_iadd F e_L_law_459 ?_
  refine Wm.topE (w := nI (i + 1)) (nI_add i 1) ?_
  refine m_sld F (j := i + 1) e_L_law_460 hX hb (nI_clamp (by omega)) (vp_in_nI (by omega) (by omega)) ?_
  refine m_aload_n F rfl e_L_law_461 ?_
  refine m_iload F rfl e_L_law_462 ?_
  refine m_iconst F (v := 2) (by decide) e_L_law_464 ?_
  refine m_iadd F e_L_law_465 ?_
  refine Wm.topE (w := nI (i + 2)) (nI_add i 2) ?_
  refine m_sld F (j := i + 2) e_L_law_466 hX hb (nI_clamp (by omega)) (vp_in_nI (by omega) (by omega)) ?_
  refine l_callM F e_L_law_467 (q_X10_amount (x_l X) V (b + 1457) T 1 u h P L0_ _ _ (xs (i + 1)) (xs (i + 2)) h10981 hok.b hP ) cb_X10_amount ml_L_53 im_X10_amount se_X10_amount h10981 rfl rfl (rest := []) rfl (Nat.le_of_ble_eq_true rfl) ⟨Nat.le_of_ble_eq_true rfl, Nat.le_of_ble_eq_true rfl⟩ (by omega) (by omega) (fun r σ10986 hp => ?_)
  obtain ⟨h10987, x10988, rfl⟩ := hp
  have ft10989 := ft10985.of (h10987.2 (b + 128) (by rw [kC_0 (c := b + 1457) (by omega)]; decide))
  have h10990 := h10987.1
  have h10991 := h10980.keepM (fun a ha => h10987.2 a (by rw [ha]; decide))
  have h10992 := (h10987.2 (b + 1480) (by rw [kC_0 (c := b + 1457) (by omega)]; decide)).trans h10982
  have by10993 := by10983.keep (h10987.2 (b + 1) (by rw [kC_0 (c := b + 1457) (by omega)]; decide))
  have br10994 := br10984.of (h10987.2 (b + 1457 + 1) (by rw [kC_at (k := 1) (by decide)]; decide))
  refine m_pop2_2 F rfl e_L_law_470 ?_
  refine m_goto F e_L_law_471 ?_
  exact hN _ M T _ _ _ (by omega) (by omega) (by omega) ⟨by omega, h10991, ⟨_, h10992⟩, u, h, P, L0_, ⟨hu, hh, hP, hkk, hm0, hw0, hok⟩, h10990, ft10989, _, by10993, br10994⟩
set_option maxRecDepth 20000 in
theorem lc_7 {V : VX} {X : MX} {nm : String} {b sb N k z i L M T : Nat} {xs : Nat → Int32} {σ : Mem} (F : Fx V X (yLw nm) cL_law 7 ret room_1) (hX : va_X sb L xs (x_s X) V.2.2) (hb : sb < V.2.2.size) (hl : (x_l X).stackTraces = false) (hi : i + 6 ≤ L) (hL : L ≤ 3072) (hk : k ≤ 2100) (hz : z ≤ 80000) (hM : M ≤ 10000000) (hI : IV V b M T σ) (hN : ∀ (N' M' T' : Nat) (σ' : Mem) (k' z' : Nat), k' ≤ k + 1 → z' ≤ z + 6 → M' ≤ M + 10000 → IV V b M' T' σ' → Wm V X 7 N' σ' k' z' 1745 [(4, .int (nI i)), (3, .ref (b + 1480)), (2, .ref (b + 1457)), (1, .ref b), (0, .ref sb)] []) : Wm V X 7 N σ k z 474 [(4, .int (nI i)), (3, .ref (b + 1480)), (2, .ref (b + 1457)), (1, .ref b), (0, .ref sb)] [] := by
  obtain ⟨hT, hHT, ⟨z0, hout⟩, u, h, P, L0_, ⟨hu, hh, hP, hkk, hm0, hw0, hok⟩, hHR, hFt, t, hBy, hBr⟩ := hI
  refine m_aload_n F rfl e_L_law_474 ?_
  refine m_aload_n F rfl e_L_law_475 ?_
  refine m_iload F rfl e_L_law_476 ?_
  refine m_iconst F (v := 1) (by decide) e_L_law_478 ?_
  refine m_iadd F e_L_law_479 ?_
  refine Wm.topE (w := nI (i + 1)) (nI_add i 1) ?_
  refine m_sld F (j := i + 1) e_L_law_480 hX hb (nI_clamp (by omega)) (vp_in_nI (by omega) (by omega)) ?_
  refine m_aload_n F rfl e_L_law_481 ?_
  refine m_iload F rfl e_L_law_482 ?_
  refine m_iconst F (v := 2) (by decide) e_L_law_484 ?_
  refine m_iadd F e_L_law_485 ?_
  refine Wm.topE (w := nI (i + 2)) (nI_add i 2) ?_
  refine m_sld F (j := i + 2) e_L_law_486 hX hb (nI_clamp (by omega)) (vp_in_nI (by omega) (by omega)) ?_
  refine l_callC F e_L_law_487 (s_X9_due (x_l X) V b M 1 T _ _ b (xs (i + 1)) (xs (i + 2)) hHT kA_b  (by omega)) cb_X9_due ml_L_54 im_X9_due se_X9_due hHT rfl rfl (rest := []) rfl (Nat.le_of_ble_eq_true rfl) ⟨Nat.le_of_ble_eq_true rfl, Nat.le_of_ble_eq_true rfl⟩ (by omega) (by omega) (fun r σ10995 hp => ?_)
  obtain ⟨h10996, x10997, rfl⟩ := hp
  have h10998 := h10996.1
  have h10999 := hHR.keepL (fun a ha _ => h10996.2 a (by rw [show kA _ a = 0 from ha]; decide))
  have h11000 := (h10996.2 (b + 1480) (by rw [show kA _ (b + 1480) = 0 from kA_o]; decide)).trans hout
  have br11002 := hBr.of (h10996.2 (b + 1457 + 1) (by rw [show kA _ (b + 1457 + 1) = 0 from kA_big (by omega)]; decide))
  have ft11003 := hFt.of (h10996.2 (b + 128) (by rw [show kA _ (b + 128) = 3 from kA_r]; decide))
  have by11001 := hBy.keep (h10996.2 (b + 1) (by rw [show kA _ (b + 1) = 2 from kA_t]; decide))
  refine m_pop2_2 F rfl e_L_law_490 ?_
  refine m_aload_n F rfl e_L_law_491 ?_
  refine m_aload_n F rfl e_L_law_492 ?_
  refine m_iload F rfl e_L_law_493 ?_
  refine m_iconst F (v := 1) (by decide) e_L_law_495 ?_
  refine m_iadd F e_L_law_496 ?_
  refine Wm.topE (w := nI (i + 1)) (nI_add i 1) ?_
  refine m_sld F (j := i + 1) e_L_law_497 hX hb (nI_clamp (by omega)) (vp_in_nI (by omega) (by omega)) ?_
  refine m_aload_n F rfl e_L_law_498 ?_
  refine m_iload F rfl e_L_law_499 ?_
  refine m_iconst F (v := 2) (by decide) e_L_law_501 ?_
  refine m_iadd F e_L_law_502 ?_
  refine Wm.topE (w := nI (i + 2)) (nI_add i 2) ?_
  refine m_sld F (j := i + 2) e_L_law_503 hX hb (nI_clamp (by omega)) (vp_in_nI (by omega) (by omega)) ?_
  refine l_callM F e_L_law_504 (q_X10_due (x_l X) V (b + 1457) T 1 u h P L0_ _ _ (xs (i + 1)) (xs (i + 2)) h10999 hok.b hP ) cb_X10_due ml_L_57 im_X10_due se_X10_due h10999 rfl rfl (rest := []) rfl (Nat.le_of_ble_eq_true rfl) ⟨Nat.le_of_ble_eq_true rfl, Nat.le_of_ble_eq_true rfl⟩ (by omega) (by omega) (fun r σ11004 hp => ?_)
  obtain ⟨h11005, x11006, rfl⟩ := hp
  have ft11007 := ft11003.of (h11005.2 (b + 128) (by rw [kC_0 (c := b + 1457) (by omega)]; decide))
  have h11008 := h11005.1
  have h11009 := h10998.keepM (fun a ha => h11005.2 a (by rw [ha]; decide))
  have h11010 := (h11005.2 (b + 1480) (by rw [kC_0 (c := b + 1457) (by omega)]; decide)).trans h11000
  have by11011 := by11001.keep (h11005.2 (b + 1) (by rw [kC_0 (c := b + 1457) (by omega)]; decide))
  have br11012 := br11002.of (h11005.2 (b + 1457 + 1) (by rw [kC_at (k := 1) (by decide)]; decide))
  refine m_pop2_2 F rfl e_L_law_507 ?_
  refine m_goto F e_L_law_508 ?_
  exact hN _ M T _ _ _ (by omega) (by omega) (by omega) ⟨by omega, h11009, ⟨_, h11010⟩, u, h, P, L0_, ⟨hu, hh, hP, hkk, hm0, hw0, hok⟩, h11008, ft11007, _, by11011, br11012⟩
set_option maxRecDepth 20000 in
theorem lc_8 {V : VX} {X : MX} {nm : String} {b sb N k z i L M T : Nat} {xs : Nat → Int32} {σ : Mem} (F : Fx V X (yLw nm) cL_law 7 ret room_1) (hX : va_X sb L xs (x_s X) V.2.2) (hb : sb < V.2.2.size) (hl : (x_l X).stackTraces = false) (hi : i + 6 ≤ L) (hL : L ≤ 3072) (hk : k ≤ 2100) (hz : z ≤ 80000) (hM : M ≤ 10000000) (hI : IV V b M T σ) (hN : ∀ (N' M' T' : Nat) (σ' : Mem) (k' z' : Nat), k' ≤ k + 1 → z' ≤ z + 6 → M' ≤ M + 10000 → IV V b M' T' σ' → Wm V X 7 N' σ' k' z' 1745 [(4, .int (nI i)), (3, .ref (b + 1480)), (2, .ref (b + 1457)), (1, .ref b), (0, .ref sb)] []) : Wm V X 7 N σ k z 511 [(4, .int (nI i)), (3, .ref (b + 1480)), (2, .ref (b + 1457)), (1, .ref b), (0, .ref sb)] [] := by
  obtain ⟨hT, hHT, ⟨z0, hout⟩, u, h, P, L0_, ⟨hu, hh, hP, hkk, hm0, hw0, hok⟩, hHR, hFt, t, hBy, hBr⟩ := hI
  refine m_aload_n F rfl e_L_law_511 ?_
  refine m_aload_n F rfl e_L_law_512 ?_
  refine m_iload F rfl e_L_law_513 ?_
  refine m_iconst F (v := 1) (by decide) e_L_law_515 ?_
  refine m_iadd F e_L_law_516 ?_
  refine Wm.topE (w := nI (i + 1)) (nI_add i 1) ?_
  refine m_sld F (j := i + 1) e_L_law_517 hX hb (nI_clamp (by omega)) (vp_in_nI (by omega) (by omega)) ?_
  refine m_aload_n F rfl e_L_law_518 ?_
  refine m_iload F rfl e_L_law_519 ?_
  refine m_iconst F (v := 2) (by decide) e_L_law_521 ?_
  refine m_iadd F e_L_law_522 ?_
  refine Wm.topE (w := nI (i + 2)) (nI_add i 2) ?_
  refine m_sld F (j := i + 2) e_L_law_523 hX hb (nI_clamp (by omega)) (vp_in_nI (by omega) (by omega)) ?_
  refine m_aload_n F rfl e_L_law_524 ?_
  refine m_iload F rfl e_L_law_525 ?_
  refine m_iconst F (v := 3) (by decide) e_L_law_527 ?_
  refine m_iadd F e_L_law_528 ?_
  refine Wm.topE (w := nI (i + 3)) (nI_add i 3) ?_
  refine m_sld F (j := i + 3) e_L_law_529 hX hb (nI_clamp (by omega)) (vp_in_nI (by omega) (by omega)) ?_
  refine l_callC F e_L_law_530 (s_X9_worth (x_l X) V b M 1 T _ _ b (xs (i + 1)) (xs (i + 2)) (xs (i + 3)) hHT kA_b  (by omega)) cb_X9_worth ml_L_58 im_X9_worth se_X9_worth hHT rfl rfl (rest := []) rfl (Nat.le_of_ble_eq_true rfl) ⟨Nat.le_of_ble_eq_true rfl, Nat.le_of_ble_eq_true rfl⟩ (by omega) (by omega) (fun r σ11013 hp => ?_)
  obtain ⟨h11014, x11015, rfl⟩ := hp
  have h11016 := h11014.1
  have h11017 := hHR.keepL (fun a ha _ => h11014.2 a (by rw [show kA _ a = 0 from ha]; decide))
  have h11018 := (h11014.2 (b + 1480) (by rw [show kA _ (b + 1480) = 0 from kA_o]; decide)).trans hout
  have br11020 := hBr.of (h11014.2 (b + 1457 + 1) (by rw [show kA _ (b + 1457 + 1) = 0 from kA_big (by omega)]; decide))
  have ft11021 := hFt.of (h11014.2 (b + 128) (by rw [show kA _ (b + 128) = 3 from kA_r]; decide))
  have by11019 := hBy.keep (h11014.2 (b + 1) (by rw [show kA _ (b + 1) = 2 from kA_t]; decide))
  refine m_pop2_2 F rfl e_L_law_533 ?_
  refine m_aload_n F rfl e_L_law_534 ?_
  refine m_aload_n F rfl e_L_law_535 ?_
  refine m_iload F rfl e_L_law_536 ?_
  refine m_iconst F (v := 1) (by decide) e_L_law_538 ?_
  refine m_iadd F e_L_law_539 ?_
  refine Wm.topE (w := nI (i + 1)) (nI_add i 1) ?_
  refine m_sld F (j := i + 1) e_L_law_540 hX hb (nI_clamp (by omega)) (vp_in_nI (by omega) (by omega)) ?_
  refine m_aload_n F rfl e_L_law_541 ?_
  refine m_iload F rfl e_L_law_542 ?_
  refine m_iconst F (v := 2) (by decide) e_L_law_544 ?_
  refine m_iadd F e_L_law_545 ?_
  refine Wm.topE (w := nI (i + 2)) (nI_add i 2) ?_
  refine m_sld F (j := i + 2) e_L_law_546 hX hb (nI_clamp (by omega)) (vp_in_nI (by omega) (by omega)) ?_
  refine m_aload_n F rfl e_L_law_547 ?_
  refine m_iload F rfl e_L_law_548 ?_
  refine m_iconst F (v := 3) (by decide) e_L_law_550 ?_
  refine m_iadd F e_L_law_551 ?_
  refine Wm.topE (w := nI (i + 3)) (nI_add i 3) ?_
  refine m_sld F (j := i + 3) e_L_law_552 hX hb (nI_clamp (by omega)) (vp_in_nI (by omega) (by omega)) ?_
  refine l_callM F e_L_law_553 (q_X10_worth (x_l X) V (b + 1457) T 1 u h P L0_ _ _ (xs (i + 1)) (xs (i + 2)) (xs (i + 3)) h11017 hok.b hP ) cb_X10_worth ml_L_62 im_X10_worth se_X10_worth h11017 rfl rfl (rest := []) rfl (Nat.le_of_ble_eq_true rfl) ⟨Nat.le_of_ble_eq_true rfl, Nat.le_of_ble_eq_true rfl⟩ (by omega) (by omega) (fun r σ11022 hp => ?_)
  obtain ⟨h11023, x11024, rfl⟩ := hp
  have ft11025 := ft11021.of (h11023.2 (b + 128) (by rw [kC_0 (c := b + 1457) (by omega)]; decide))
  have h11026 := h11023.1
  have h11027 := h11016.keepM (fun a ha => h11023.2 a (by rw [ha]; decide))
  have h11028 := (h11023.2 (b + 1480) (by rw [kC_0 (c := b + 1457) (by omega)]; decide)).trans h11018
  have by11029 := by11019.keep (h11023.2 (b + 1) (by rw [kC_0 (c := b + 1457) (by omega)]; decide))
  have br11030 := br11020.of (h11023.2 (b + 1457 + 1) (by rw [kC_at (k := 1) (by decide)]; decide))
  refine m_pop2_2 F rfl e_L_law_556 ?_
  refine m_goto F e_L_law_557 ?_
  exact hN _ M T _ _ _ (by omega) (by omega) (by omega) ⟨by omega, h11027, ⟨_, h11028⟩, u, h, P, L0_, ⟨hu, hh, hP, hkk, hm0, hw0, hok⟩, h11026, ft11025, _, by11029, br11030⟩
set_option maxRecDepth 20000 in
theorem lc_9 {V : VX} {X : MX} {nm : String} {b sb N k z i L M T : Nat} {xs : Nat → Int32} {σ : Mem} (F : Fx V X (yLw nm) cL_law 7 ret room_1) (hX : va_X sb L xs (x_s X) V.2.2) (hb : sb < V.2.2.size) (hl : (x_l X).stackTraces = false) (hi : i + 6 ≤ L) (hL : L ≤ 3072) (hk : k ≤ 2100) (hz : z ≤ 80000) (hM : M ≤ 10000000) (hI : IV V b M T σ) (hN : ∀ (N' M' T' : Nat) (σ' : Mem) (k' z' : Nat), k' ≤ k + 1 → z' ≤ z + 6 → M' ≤ M + 10000 → IV V b M' T' σ' → Wm V X 7 N' σ' k' z' 1745 [(4, .int (nI i)), (3, .ref (b + 1480)), (2, .ref (b + 1457)), (1, .ref b), (0, .ref sb)] []) : Wm V X 7 N σ k z 560 [(4, .int (nI i)), (3, .ref (b + 1480)), (2, .ref (b + 1457)), (1, .ref b), (0, .ref sb)] [] := by
  obtain ⟨hT, hHT, ⟨z0, hout⟩, u, h, P, L0_, ⟨hu, hh, hP, hkk, hm0, hw0, hok⟩, hHR, hFt, t, hBy, hBr⟩ := hI
  refine m_aload_n F rfl e_L_law_560 ?_
  refine m_aload_n F rfl e_L_law_561 ?_
  refine m_iload F rfl e_L_law_562 ?_
  refine m_iconst F (v := 1) (by decide) e_L_law_564 ?_
  refine m_iadd F e_L_law_565 ?_
  refine Wm.topE (w := nI (i + 1)) (nI_add i 1) ?_
  refine m_sld F (j := i + 1) e_L_law_566 hX hb (nI_clamp (by omega)) (vp_in_nI (by omega) (by omega)) ?_
  refine l_callC F e_L_law_567 (s_X9_index (x_l X) V b M 1 T _ _ b (xs (i + 1)) hHT kA_b  (by omega)) cb_X9_index ml_L_63 im_X9_index se_X9_index hHT rfl rfl (rest := []) rfl (Nat.le_of_ble_eq_true rfl) ⟨Nat.le_of_ble_eq_true rfl, Nat.le_of_ble_eq_true rfl⟩ (by omega) (by omega) (fun r σ11031 hp => ?_)
  obtain ⟨h11032, x11033, rfl⟩ := hp
  have h11034 := h11032.1
  have h11035 := hHR.keepL (fun a ha _ => h11032.2 a (by rw [show kA _ a = 0 from ha]; decide))
  have h11036 := (h11032.2 (b + 1480) (by rw [show kA _ (b + 1480) = 0 from kA_o]; decide)).trans hout
  have br11038 := hBr.of (h11032.2 (b + 1457 + 1) (by rw [show kA _ (b + 1457 + 1) = 0 from kA_big (by omega)]; decide))
  have ft11039 := hFt.of (h11032.2 (b + 128) (by rw [show kA _ (b + 128) = 3 from kA_r]; decide))
  have by11037 := hBy.keep (h11032.2 (b + 1) (by rw [show kA _ (b + 1) = 2 from kA_t]; decide))
  refine m_pop F rfl e_L_law_570 ?_
  refine m_aload_n F rfl e_L_law_571 ?_
  refine m_aload_n F rfl e_L_law_572 ?_
  refine m_iload F rfl e_L_law_573 ?_
  refine m_iconst F (v := 1) (by decide) e_L_law_575 ?_
  refine m_iadd F e_L_law_576 ?_
  refine Wm.topE (w := nI (i + 1)) (nI_add i 1) ?_
  refine m_sld F (j := i + 1) e_L_law_577 hX hb (nI_clamp (by omega)) (vp_in_nI (by omega) (by omega)) ?_
  refine l_callM F e_L_law_578 (q_X10_index (x_l X) V (b + 1457) T 1 u h P L0_ _ _ (xs (i + 1)) h11035 hok.b hP ) cb_X10_index ml_L_66 im_X10_index se_X10_index h11035 rfl rfl (rest := []) rfl (Nat.le_of_ble_eq_true rfl) ⟨Nat.le_of_ble_eq_true rfl, Nat.le_of_ble_eq_true rfl⟩ (by omega) (by omega) (fun r σ11040 hp => ?_)
  obtain ⟨h11041, x11042, rfl⟩ := hp
  have ft11043 := ft11039.of (h11041.2 (b + 128) (by rw [kC_0 (c := b + 1457) (by omega)]; decide))
  have h11044 := h11041.1
  have h11045 := h11034.keepM (fun a ha => h11041.2 a (by rw [ha]; decide))
  have h11046 := (h11041.2 (b + 1480) (by rw [kC_0 (c := b + 1457) (by omega)]; decide)).trans h11036
  have by11047 := by11037.keep (h11041.2 (b + 1) (by rw [kC_0 (c := b + 1457) (by omega)]; decide))
  have br11048 := br11038.of (h11041.2 (b + 1457 + 1) (by rw [kC_at (k := 1) (by decide)]; decide))
  refine m_pop F rfl e_L_law_581 ?_
  refine m_goto F e_L_law_582 ?_
  exact hN _ M T _ _ _ (by omega) (by omega) (by omega) ⟨by omega, h11045, ⟨_, h11046⟩, u, h, P, L0_, ⟨hu, hh, hP, hkk, hm0, hw0, hok⟩, h11044, ft11043, _, by11047, br11048⟩
set_option maxRecDepth 20000 in
theorem lc_10 {V : VX} {X : MX} {nm : String} {b sb N k z i L M T : Nat} {xs : Nat → Int32} {σ : Mem} (F : Fx V X (yLw nm) cL_law 7 ret room_1) (hX : va_X sb L xs (x_s X) V.2.2) (hb : sb < V.2.2.size) (hl : (x_l X).stackTraces = false) (hi : i + 6 ≤ L) (hL : L ≤ 3072) (hk : k ≤ 2100) (hz : z ≤ 80000) (hM : M ≤ 10000000) (hI : IV V b M T σ) (hN : ∀ (N' M' T' : Nat) (σ' : Mem) (k' z' : Nat), k' ≤ k + 1 → z' ≤ z + 6 → M' ≤ M + 10000 → IV V b M' T' σ' → Wm V X 7 N' σ' k' z' 1745 [(4, .int (nI i)), (3, .ref (b + 1480)), (2, .ref (b + 1457)), (1, .ref b), (0, .ref sb)] []) : Wm V X 7 N σ k z 585 [(4, .int (nI i)), (3, .ref (b + 1480)), (2, .ref (b + 1457)), (1, .ref b), (0, .ref sb)] [] := by
  obtain ⟨hT, hHT, ⟨z0, hout⟩, u, h, P, L0_, ⟨hu, hh, hP, hkk, hm0, hw0, hok⟩, hHR, hFt, t, hBy, hBr⟩ := hI
  refine m_aload_n F rfl e_L_law_585 ?_
  refine m_aload_n F rfl e_L_law_586 ?_
  refine m_iload F rfl e_L_law_587 ?_
  refine m_iconst F (v := 1) (by decide) e_L_law_589 ?_
  refine m_iadd F e_L_law_590 ?_
  refine Wm.topE (w := nI (i + 1)) (nI_add i 1) ?_
  refine m_sld F (j := i + 1) e_L_law_591 hX hb (nI_clamp (by omega)) (vp_in_nI (by omega) (by omega)) ?_
  refine l_callC F e_L_law_592 (s_X9_account (x_l X) V b M 1 T _ _ b (xs (i + 1)) hHT kA_b  (by omega)) cb_X9_account ml_L_67 im_X9_account se_X9_account hHT rfl rfl (rest := []) rfl (Nat.le_of_ble_eq_true rfl) ⟨Nat.le_of_ble_eq_true rfl, Nat.le_of_ble_eq_true rfl⟩ (by omega) (by omega) (fun r σ11049 hp => ?_)
  obtain ⟨h11050, x11051, rfl⟩ := hp
  have h11052 := h11050.1
  have h11053 := hHR.keepL (fun a ha _ => h11050.2 a (by rw [show kA _ a = 0 from ha]; decide))
  have h11054 := (h11050.2 (b + 1480) (by rw [show kA _ (b + 1480) = 0 from kA_o]; decide)).trans hout
  have br11056 := hBr.of (h11050.2 (b + 1457 + 1) (by rw [show kA _ (b + 1457 + 1) = 0 from kA_big (by omega)]; decide))
  have ft11057 := hFt.of (h11050.2 (b + 128) (by rw [show kA _ (b + 128) = 3 from kA_r]; decide))
  have by11055 := hBy.keep (h11050.2 (b + 1) (by rw [show kA _ (b + 1) = 2 from kA_t]; decide))
  refine m_pop2_2 F rfl e_L_law_595 ?_
  refine m_aload_n F rfl e_L_law_596 ?_
  refine m_aload_n F rfl e_L_law_597 ?_
  refine m_iload F rfl e_L_law_598 ?_
  refine m_iconst F (v := 1) (by decide) e_L_law_600 ?_
  refine m_iadd F e_L_law_601 ?_
  refine Wm.topE (w := nI (i + 1)) (nI_add i 1) ?_
  refine m_sld F (j := i + 1) e_L_law_602 hX hb (nI_clamp (by omega)) (vp_in_nI (by omega) (by omega)) ?_
  refine l_callM F e_L_law_603 (q_X10_account (x_l X) V (b + 1457) T 1 u h P L0_ _ _ (xs (i + 1)) h11053 hok.b hP ) cb_X10_account ml_L_71 im_X10_account se_X10_account h11053 rfl rfl (rest := []) rfl (Nat.le_of_ble_eq_true rfl) ⟨Nat.le_of_ble_eq_true rfl, Nat.le_of_ble_eq_true rfl⟩ (by omega) (by omega) (fun r σ11058 hp => ?_)
  obtain ⟨h11059, x11060, rfl⟩ := hp
  have ft11061 := ft11057.of (h11059.2 (b + 128) (by rw [kC_0 (c := b + 1457) (by omega)]; decide))
  have h11062 := h11059.1
  have h11063 := h11052.keepM (fun a ha => h11059.2 a (by rw [ha]; decide))
  have h11064 := (h11059.2 (b + 1480) (by rw [kC_0 (c := b + 1457) (by omega)]; decide)).trans h11054
  have by11065 := by11055.keep (h11059.2 (b + 1) (by rw [kC_0 (c := b + 1457) (by omega)]; decide))
  have br11066 := br11056.of (h11059.2 (b + 1457 + 1) (by rw [kC_at (k := 1) (by decide)]; decide))
  refine m_pop2_2 F rfl e_L_law_606 ?_
  refine m_goto F e_L_law_607 ?_
  exact hN _ M T _ _ _ (by omega) (by omega) (by omega) ⟨by omega, h11063, ⟨_, h11064⟩, u, h, P, L0_, ⟨hu, hh, hP, hkk, hm0, hw0, hok⟩, h11062, ft11061, _, by11065, br11066⟩
set_option maxRecDepth 20000 in
theorem lc_11 {V : VX} {X : MX} {nm : String} {b sb N k z i L M T : Nat} {xs : Nat → Int32} {σ : Mem} (F : Fx V X (yLw nm) cL_law 7 ret room_1) (hX : va_X sb L xs (x_s X) V.2.2) (hb : sb < V.2.2.size) (hl : (x_l X).stackTraces = false) (hi : i + 6 ≤ L) (hL : L ≤ 3072) (hk : k ≤ 2100) (hz : z ≤ 80000) (hM : M ≤ 10000000) (hI : IV V b M T σ) (hN : ∀ (N' M' T' : Nat) (σ' : Mem) (k' z' : Nat), k' ≤ k + 1 → z' ≤ z + 6 → M' ≤ M + 10000 → IV V b M' T' σ' → Wm V X 7 N' σ' k' z' 1745 [(4, .int (nI i)), (3, .ref (b + 1480)), (2, .ref (b + 1457)), (1, .ref b), (0, .ref sb)] []) : Wm V X 7 N σ k z 610 [(4, .int (nI i)), (3, .ref (b + 1480)), (2, .ref (b + 1457)), (1, .ref b), (0, .ref sb)] [] := by
  obtain ⟨hT, hHT, ⟨z0, hout⟩, u, h, P, L0_, ⟨hu, hh, hP, hkk, hm0, hw0, hok⟩, hHR, hFt, t, hBy, hBr⟩ := hI
  refine m_aload_n F rfl e_L_law_610 ?_
  refine m_aload_n F rfl e_L_law_611 ?_
  refine m_iload F rfl e_L_law_612 ?_
  refine m_iconst F (v := 1) (by decide) e_L_law_614 ?_
  refine m_iadd F e_L_law_615 ?_
  refine Wm.topE (w := nI (i + 1)) (nI_add i 1) ?_
  refine m_sld F (j := i + 1) e_L_law_616 hX hb (nI_clamp (by omega)) (vp_in_nI (by omega) (by omega)) ?_
  refine m_aload_n F rfl e_L_law_617 ?_
  refine m_iload F rfl e_L_law_618 ?_
  refine m_iconst F (v := 2) (by decide) e_L_law_620 ?_
  refine m_iadd F e_L_law_621 ?_
  refine Wm.topE (w := nI (i + 2)) (nI_add i 2) ?_
  refine m_sld F (j := i + 2) e_L_law_622 hX hb (nI_clamp (by omega)) (vp_in_nI (by omega) (by omega)) ?_
  refine l_callC F e_L_law_623 (s_X9_entry (x_l X) V b M 1 T _ _ b (xs (i + 1)) (xs (i + 2)) hHT kA_b  (by omega)) cb_X9_entry ml_L_72 im_X9_entry se_X9_entry hHT rfl rfl (rest := []) rfl (Nat.le_of_ble_eq_true rfl) ⟨Nat.le_of_ble_eq_true rfl, Nat.le_of_ble_eq_true rfl⟩ (by omega) (by omega) (fun r σ11067 hp => ?_)
  obtain ⟨h11068, x11069, rfl⟩ := hp
  have h11070 := h11068.1
  have h11071 := hHR.keepL (fun a ha _ => h11068.2 a (by rw [show kA _ a = 0 from ha]; decide))
  have h11072 := (h11068.2 (b + 1480) (by rw [show kA _ (b + 1480) = 0 from kA_o]; decide)).trans hout
  have br11074 := hBr.of (h11068.2 (b + 1457 + 1) (by rw [show kA _ (b + 1457 + 1) = 0 from kA_big (by omega)]; decide))
  have ft11075 := hFt.of (h11068.2 (b + 128) (by rw [show kA _ (b + 128) = 3 from kA_r]; decide))
  have by11073 := hBy.keep (h11068.2 (b + 1) (by rw [show kA _ (b + 1) = 2 from kA_t]; decide))
  refine m_pop2_2 F rfl e_L_law_626 ?_
  refine m_aload_n F rfl e_L_law_627 ?_
  refine m_aload_n F rfl e_L_law_628 ?_
  refine m_iload F rfl e_L_law_629 ?_
  refine m_iconst F (v := 1) (by decide) e_L_law_631 ?_
  refine m_iadd F e_L_law_632 ?_
  refine Wm.topE (w := nI (i + 1)) (nI_add i 1) ?_
  refine m_sld F (j := i + 1) e_L_law_633 hX hb (nI_clamp (by omega)) (vp_in_nI (by omega) (by omega)) ?_
  refine m_aload_n F rfl e_L_law_634 ?_
  refine m_iload F rfl e_L_law_635 ?_
  refine m_iconst F (v := 2) (by decide) e_L_law_637 ?_
  refine m_iadd F e_L_law_638 ?_
  refine Wm.topE (w := nI (i + 2)) (nI_add i 2) ?_
  refine m_sld F (j := i + 2) e_L_law_639 hX hb (nI_clamp (by omega)) (vp_in_nI (by omega) (by omega)) ?_
  refine l_callM F e_L_law_640 (q_X10_entry_ (x_l X) V (b + 1457) T 1 u h P L0_ _ _ (xs (i + 1)) (xs (i + 2)) h11071 hok.b hP ) cb_X10_entry_ ml_L_75 im_X10_entry_ se_X10_entry_ h11071 rfl rfl (rest := []) rfl (Nat.le_of_ble_eq_true rfl) ⟨Nat.le_of_ble_eq_true rfl, Nat.le_of_ble_eq_true rfl⟩ (by omega) (by omega) (fun r σ11076 hp => ?_)
  obtain ⟨h11077, x11078, rfl⟩ := hp
  have ft11079 := ft11075.of (h11077.2 (b + 128) (by rw [kC_0 (c := b + 1457) (by omega)]; decide))
  have h11080 := h11077.1
  have h11081 := h11070.keepM (fun a ha => h11077.2 a (by rw [ha]; decide))
  have h11082 := (h11077.2 (b + 1480) (by rw [kC_0 (c := b + 1457) (by omega)]; decide)).trans h11072
  have by11083 := by11073.keep (h11077.2 (b + 1) (by rw [kC_0 (c := b + 1457) (by omega)]; decide))
  have br11084 := br11074.of (h11077.2 (b + 1457 + 1) (by rw [kC_at (k := 1) (by decide)]; decide))
  refine m_pop2_2 F rfl e_L_law_643 ?_
  refine m_goto F e_L_law_644 ?_
  exact hN _ M T _ _ _ (by omega) (by omega) (by omega) ⟨by omega, h11081, ⟨_, h11082⟩, u, h, P, L0_, ⟨hu, hh, hP, hkk, hm0, hw0, hok⟩, h11080, ft11079, _, by11083, br11084⟩
set_option maxRecDepth 20000 in
theorem lc_12 {V : VX} {X : MX} {nm : String} {b sb N k z i L M T : Nat} {xs : Nat → Int32} {σ : Mem} (F : Fx V X (yLw nm) cL_law 7 ret room_1) (hX : va_X sb L xs (x_s X) V.2.2) (hb : sb < V.2.2.size) (hl : (x_l X).stackTraces = false) (hi : i + 6 ≤ L) (hL : L ≤ 3072) (hk : k ≤ 2100) (hz : z ≤ 80000) (hM : M ≤ 10000000) (hI : IV V b M T σ) (hN : ∀ (N' M' T' : Nat) (σ' : Mem) (k' z' : Nat), k' ≤ k + 1 → z' ≤ z + 6 → M' ≤ M + 10000 → IV V b M' T' σ' → Wm V X 7 N' σ' k' z' 1745 [(4, .int (nI i)), (3, .ref (b + 1480)), (2, .ref (b + 1457)), (1, .ref b), (0, .ref sb)] []) : Wm V X 7 N σ k z 647 [(4, .int (nI i)), (3, .ref (b + 1480)), (2, .ref (b + 1457)), (1, .ref b), (0, .ref sb)] [] := by
  obtain ⟨hT, hHT, ⟨z0, hout⟩, u, h, P, L0_, ⟨hu, hh, hP, hkk, hm0, hw0, hok⟩, hHR, hFt, t, hBy, hBr⟩ := hI
  refine m_aload_n F rfl e_L_law_647 ?_
  refine m_aload_n F rfl e_L_law_648 ?_
  refine m_iload F rfl e_L_law_649 ?_
  refine m_iconst F (v := 1) (by decide) e_L_law_651 ?_
  refine m_iadd F e_L_law_652 ?_
  refine Wm.topE (w := nI (i + 1)) (nI_add i 1) ?_
  refine m_sld F (j := i + 1) e_L_law_653 hX hb (nI_clamp (by omega)) (vp_in_nI (by omega) (by omega)) ?_
  refine m_aload_n F rfl e_L_law_654 ?_
  refine m_iload F rfl e_L_law_655 ?_
  refine m_iconst F (v := 2) (by decide) e_L_law_657 ?_
  refine m_iadd F e_L_law_658 ?_
  refine Wm.topE (w := nI (i + 2)) (nI_add i 2) ?_
  refine m_sld F (j := i + 2) e_L_law_659 hX hb (nI_clamp (by omega)) (vp_in_nI (by omega) (by omega)) ?_
  refine l_callC F e_L_law_660 (s_X9_rate (x_l X) V b M 1 T _ _ b (xs (i + 1)) (xs (i + 2)) hHT kA_b  (by omega)) cb_X9_rate ml_L_76 im_X9_rate se_X9_rate hHT rfl rfl (rest := []) rfl (Nat.le_of_ble_eq_true rfl) ⟨Nat.le_of_ble_eq_true rfl, Nat.le_of_ble_eq_true rfl⟩ (by omega) (by omega) (fun r σ11085 hp => ?_)
  obtain ⟨h11086, x11087, rfl⟩ := hp
  have h11088 := h11086.1
  have h11089 := hHR.keepL (fun a ha _ => h11086.2 a (by rw [show kA _ a = 0 from ha]; decide))
  have h11090 := (h11086.2 (b + 1480) (by rw [show kA _ (b + 1480) = 0 from kA_o]; decide)).trans hout
  have br11092 := hBr.of (h11086.2 (b + 1457 + 1) (by rw [show kA _ (b + 1457 + 1) = 0 from kA_big (by omega)]; decide))
  have ft11093 := hFt.of (h11086.2 (b + 128) (by rw [show kA _ (b + 128) = 3 from kA_r]; decide))
  have by11091 := hBy.keep (h11086.2 (b + 1) (by rw [show kA _ (b + 1) = 2 from kA_t]; decide))
  refine m_pop2_2 F rfl e_L_law_663 ?_
  refine m_aload_n F rfl e_L_law_664 ?_
  refine m_aload_n F rfl e_L_law_665 ?_
  refine m_iload F rfl e_L_law_666 ?_
  refine m_iconst F (v := 1) (by decide) e_L_law_668 ?_
  refine m_iadd F e_L_law_669 ?_
  refine Wm.topE (w := nI (i + 1)) (nI_add i 1) ?_
  refine m_sld F (j := i + 1) e_L_law_670 hX hb (nI_clamp (by omega)) (vp_in_nI (by omega) (by omega)) ?_
  refine m_aload_n F rfl e_L_law_671 ?_
  refine m_iload F rfl e_L_law_672 ?_
  refine m_iconst F (v := 2) (by decide) e_L_law_674 ?_
  refine m_iadd F e_L_law_675 ?_
  refine Wm.topE (w := nI (i + 2)) (nI_add i 2) ?_
  refine m_sld F (j := i + 2) e_L_law_676 hX hb (nI_clamp (by omega)) (vp_in_nI (by omega) (by omega)) ?_
  refine l_callM F e_L_law_677 (q_X10_rate (x_l X) V (b + 1457) T 1 u h P L0_ _ _ (xs (i + 1)) (xs (i + 2)) h11089 hok hP (by first | omega | assumption) (by first | omega | assumption)) cb_X10_rate ml_L_79 im_X10_rate se_X10_rate h11089 rfl rfl (rest := []) rfl (Nat.le_of_ble_eq_true rfl) ⟨Nat.le_of_ble_eq_true rfl, Nat.le_of_ble_eq_true rfl⟩ (by omega) (by omega) (fun r σ11094 hp => ?_)
  obtain ⟨u11096, hu11096, L11097, okL11097, h11095, x11098, rfl⟩ := hp
  have ft11099 := ft11093.of (h11095.2 (b + 128) (by rw [kC_0 (c := b + 1457) (by omega)]; decide))
  have h11100 := h11095.1
  have h11101 := h11088.keepM (fun a ha => h11095.2 a (by rw [ha]; decide))
  have h11102 := (h11095.2 (b + 1480) (by rw [kC_0 (c := b + 1457) (by omega)]; decide)).trans h11090
  have by11103 := by11091.keep (h11095.2 (b + 1) (by rw [kC_0 (c := b + 1457) (by omega)]; decide))
  have br11104 := br11092.of (h11095.2 (b + 1457 + 1) (by rw [kC_at (k := 1) (by decide)]; decide))
  refine m_pop2_2 F rfl e_L_law_680 ?_
  refine m_goto F e_L_law_681 ?_
  exact hN _ (M + 1) T _ _ _ (by omega) (by omega) (by omega) ⟨by omega, h11101, ⟨_, h11102⟩, u11096, h, P, L11097, ⟨hu11096, hh, hP, hkk, hm0, hw0, okL11097⟩, h11100, ft11099, _, by11103, br11104⟩
set_option maxRecDepth 20000 in
theorem lc_13 {V : VX} {X : MX} {nm : String} {b sb N k z i L M T : Nat} {xs : Nat → Int32} {σ : Mem} (F : Fx V X (yLw nm) cL_law 7 ret room_1) (hX : va_X sb L xs (x_s X) V.2.2) (hb : sb < V.2.2.size) (hl : (x_l X).stackTraces = false) (hi : i + 6 ≤ L) (hL : L ≤ 3072) (hk : k ≤ 2100) (hz : z ≤ 80000) (hM : M ≤ 10000000) (hI : IV V b M T σ) (hN : ∀ (N' M' T' : Nat) (σ' : Mem) (k' z' : Nat), k' ≤ k + 1 → z' ≤ z + 6 → M' ≤ M + 10000 → IV V b M' T' σ' → Wm V X 7 N' σ' k' z' 1745 [(4, .int (nI i)), (3, .ref (b + 1480)), (2, .ref (b + 1457)), (1, .ref b), (0, .ref sb)] []) : Wm V X 7 N σ k z 684 [(4, .int (nI i)), (3, .ref (b + 1480)), (2, .ref (b + 1457)), (1, .ref b), (0, .ref sb)] [] := by
  obtain ⟨hT, hHT, ⟨z0, hout⟩, u, h, P, L0_, ⟨hu, hh, hP, hkk, hm0, hw0, hok⟩, hHR, hFt, t, hBy, hBr⟩ := hI
  refine m_aload_n F rfl e_L_law_684 ?_
  refine m_aload_n F rfl e_L_law_685 ?_
  refine m_iload F rfl e_L_law_686 ?_
  refine m_iconst F (v := 1) (by decide) e_L_law_688 ?_
  refine m_iadd F e_L_law_689 ?_
  refine Wm.topE (w := nI (i + 1)) (nI_add i 1) ?_
  refine m_sld F (j := i + 1) e_L_law_690 hX hb (nI_clamp (by omega)) (vp_in_nI (by omega) (by omega)) ?_
  refine m_aload_n F rfl e_L_law_691 ?_
  refine m_iload F rfl e_L_law_692 ?_
  refine m_iconst F (v := 2) (by decide) e_L_law_694 ?_
  refine m_iadd F e_L_law_695 ?_
  refine Wm.topE (w := nI (i + 2)) (nI_add i 2) ?_
  refine m_sld F (j := i + 2) e_L_law_696 hX hb (nI_clamp (by omega)) (vp_in_nI (by omega) (by omega)) ?_
  refine l_callC F e_L_law_697 (s_X9_extend (x_l X) V b M 1 T _ _ b (xs (i + 1)) (xs (i + 2)) hHT kA_b  (by omega)) cb_X9_extend ml_L_80 im_X9_extend se_X9_extend hHT rfl rfl (rest := []) rfl (Nat.le_of_ble_eq_true rfl) ⟨Nat.le_of_ble_eq_true rfl, Nat.le_of_ble_eq_true rfl⟩ (by omega) (by omega) (fun r σ11105 hp => ?_)
  obtain ⟨h11106, x11107, rfl⟩ := hp
  have h11108 := h11106.1
  have h11109 := hHR.keepL (fun a ha _ => h11106.2 a (by rw [show kA _ a = 0 from ha]; decide))
  have h11110 := (h11106.2 (b + 1480) (by rw [show kA _ (b + 1480) = 0 from kA_o]; decide)).trans hout
  have br11112 := hBr.of (h11106.2 (b + 1457 + 1) (by rw [show kA _ (b + 1457 + 1) = 0 from kA_big (by omega)]; decide))
  have ft11113 := hFt.of (h11106.2 (b + 128) (by rw [show kA _ (b + 128) = 3 from kA_r]; decide))
  have by11111 := hBy.keep (h11106.2 (b + 1) (by rw [show kA _ (b + 1) = 2 from kA_t]; decide))
  refine m_pop2_2 F rfl e_L_law_700 ?_
  refine m_aload_n F rfl e_L_law_701 ?_
  refine m_aload_n F rfl e_L_law_702 ?_
  refine m_iload F rfl e_L_law_703 ?_
  refine m_iconst F (v := 1) (by decide) e_L_law_705 ?_
  refine m_iadd F e_L_law_706 ?_
  refine Wm.topE (w := nI (i + 1)) (nI_add i 1) ?_
  refine m_sld F (j := i + 1) e_L_law_707 hX hb (nI_clamp (by omega)) (vp_in_nI (by omega) (by omega)) ?_
  refine m_aload_n F rfl e_L_law_708 ?_
  refine m_iload F rfl e_L_law_709 ?_
  refine m_iconst F (v := 2) (by decide) e_L_law_711 ?_
  refine m_iadd F e_L_law_712 ?_
  refine Wm.topE (w := nI (i + 2)) (nI_add i 2) ?_
  refine m_sld F (j := i + 2) e_L_law_713 hX hb (nI_clamp (by omega)) (vp_in_nI (by omega) (by omega)) ?_
  refine l_callM F e_L_law_714 (q_X10_extend (x_l X) V (b + 1457) T 1 u h P L0_ _ _ (xs (i + 1)) (xs (i + 2)) h11109 hok hP (by first | omega | assumption) (by first | omega | assumption)) cb_X10_extend ml_L_83 im_X10_extend se_X10_extend h11109 rfl rfl (rest := []) rfl (Nat.le_of_ble_eq_true rfl) ⟨Nat.le_of_ble_eq_true rfl, Nat.le_of_ble_eq_true rfl⟩ (by omega) (by omega) (fun r σ11114 hp => ?_)
  obtain ⟨u11116, hu11116, L11117, okL11117, h11115, x11118, rfl⟩ := hp
  have ft11119 := ft11113.of (h11115.2 (b + 128) (by rw [kC_0 (c := b + 1457) (by omega)]; decide))
  have h11120 := h11115.1
  have h11121 := h11108.keepM (fun a ha => h11115.2 a (by rw [ha]; decide))
  have h11122 := (h11115.2 (b + 1480) (by rw [kC_0 (c := b + 1457) (by omega)]; decide)).trans h11110
  have by11123 := by11111.keep (h11115.2 (b + 1) (by rw [kC_0 (c := b + 1457) (by omega)]; decide))
  have br11124 := br11112.of (h11115.2 (b + 1457 + 1) (by rw [kC_at (k := 1) (by decide)]; decide))
  refine m_pop2_2 F rfl e_L_law_717 ?_
  refine m_goto F e_L_law_718 ?_
  exact hN _ (M + 1) T _ _ _ (by omega) (by omega) (by omega) ⟨by omega, h11121, ⟨_, h11122⟩, u11116, h, P, L11117, ⟨hu11116, hh, hP, hkk, hm0, hw0, okL11117⟩, h11120, ft11119, _, by11123, br11124⟩
