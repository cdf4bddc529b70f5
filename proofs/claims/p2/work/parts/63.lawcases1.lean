set_option maxRecDepth 20000 in
theorem lc_0 {V : VX} {X : MX} {nm : String} {b sb N k z i L M T : Nat} {xs : Nat → Int32} {σ : Mem} (F : Fx V X (yLw nm) cL_law 7 ret room_1) (hX : va_X sb L xs (x_s X) V.2.2) (hb : sb < V.2.2.size) (hl : (x_l X).stackTraces = false) (hi : i + 6 ≤ L) (hL : L ≤ 3072) (hk : k ≤ 2100) (hz : z ≤ 80000) (hM : M ≤ 10000000) (hI : IV V b M T σ) (hN : ∀ (N' M' T' : Nat) (σ' : Mem) (k' z' : Nat), k' ≤ k + 1 → z' ≤ z + 6 → M' ≤ M + 10000 → IV V b M' T' σ' → Wm V X 7 N' σ' k' z' 1745 [(4, .int (nI i)), (3, .ref (b + 1480)), (2, .ref (b + 1457)), (1, .ref b), (0, .ref sb)] []) : Wm V X 7 N σ k z 224 [(4, .int (nI i)), (3, .ref (b + 1480)), (2, .ref (b + 1457)), (1, .ref b), (0, .ref sb)] [] := by
  obtain ⟨hT, hHT, ⟨z0, hout⟩, u, h, P, L0_, ⟨hu, hh, hP, hkk, hm0, hw0, hok⟩, hHR⟩ := hI
  refine m_aload_n F rfl e_L_law_224 ?_
  refine m_aload_n F rfl e_L_law_225 ?_
  refine m_iload F rfl e_L_law_226 ?_
  refine m_iconst F (v := 1) (by decide) e_L_law_228 ?_
  refine m_iadd F e_L_law_229 ?_
  refine Wm.topE (w := nI (i + 1)) (nI_add i 1) ?_
  refine m_sld F (j := i + 1) e_L_law_230 hX hb (nI_clamp (by omega)) (vp_in_nI (by omega) (by omega)) ?_
  refine m_aload_n F rfl e_L_law_231 ?_
  refine m_iload F rfl e_L_law_232 ?_
  refine m_iconst F (v := 2) (by decide) e_L_law_234 ?_
  refine m_iadd F e_L_law_235 ?_
  refine Wm.topE (w := nI (i + 2)) (nI_add i 2) ?_
  refine m_sld F (j := i + 2) e_L_law_236 hX hb (nI_clamp (by omega)) (vp_in_nI (by omega) (by omega)) ?_
  refine m_aload_n F rfl e_L_law_237 ?_
  refine m_iload F rfl e_L_law_238 ?_
  refine m_iconst F (v := 3) (by decide) e_L_law_240 ?_
  refine m_iadd F e_L_law_241 ?_
  refine Wm.topE (w := nI (i + 3)) (nI_add i 3) ?_
  refine m_sld F (j := i + 3) e_L_law_242 hX hb (nI_clamp (by omega)) (vp_in_nI (by omega) (by omega)) ?_
  refine m_aload_n F rfl e_L_law_243 ?_
  refine m_iload F rfl e_L_law_244 ?_
  refine m_iconst F (v := 4) (by decide) e_L_law_246 ?_
  refine m_iadd F e_L_law_247 ?_
  refine Wm.topE (w := nI (i + 4)) (nI_add i 4) ?_
  refine m_sld F (j := i + 4) e_L_law_248 hX hb (nI_clamp (by omega)) (vp_in_nI (by omega) (by omega)) ?_
  refine m_aload_n F rfl e_L_law_249 ?_
  refine m_iload F rfl e_L_law_250 ?_
  refine m_iconst F (v := 5) (by decide) e_L_law_252 ?_
  refine m_iadd F e_L_law_253 ?_
  refine Wm.topE (w := nI (i + 5)) (nI_add i 5) ?_
  refine m_sld F (j := i + 5) e_L_law_254 hX hb (nI_clamp (by omega)) (vp_in_nI (by omega) (by omega)) ?_
  refine l_callC F e_L_law_255 (s_X9_feed (x_l X) V b M 1 T _ _ b (xs (i + 1)) (xs (i + 2)) (xs (i + 3)) (xs (i + 4)) (xs (i + 5)) hHT kA_b (by omega) (by omega)) cb_X9_feed ml_L_21 im_X9_feed se_X9_feed hHT rfl rfl (rest := []) rfl (Nat.le_of_ble_eq_true rfl) ⟨Nat.le_of_ble_eq_true rfl, Nat.le_of_ble_eq_true rfl⟩ (by omega) (by omega) (fun r σ11100 hp => ?_)
  rcases hp with ⟨g11102, h11101, rfl⟩ | ⟨g11102, h11101, rfl⟩
  · have h11103 := h11101.1
    have h11104 := hHR.keepL (fun a ha _ => h11101.2 a (by rw [show kA _ a = 0 from ha]; decide))
    have h11105 := (h11101.2 (b + 1480) (by rw [show kA _ (b + 1480) = 0 from kA_o]; decide)).trans hout
    refine m_aload_n F rfl e_L_law_258 ?_
    refine m_aload_n F rfl e_L_law_259 ?_
    refine m_iload F rfl e_L_law_260 ?_
    refine m_iconst F (v := 1) (by decide) e_L_law_262 ?_
    refine m_iadd F e_L_law_263 ?_
    refine Wm.topE (w := nI (i + 1)) (nI_add i 1) ?_
    refine m_sld F (j := i + 1) e_L_law_264 hX hb (nI_clamp (by omega)) (vp_in_nI (by omega) (by omega)) ?_
    refine m_aload_n F rfl e_L_law_265 ?_
    refine m_iload F rfl e_L_law_266 ?_
    refine m_iconst F (v := 2) (by decide) e_L_law_268 ?_
    refine m_iadd F e_L_law_269 ?_
    refine Wm.topE (w := nI (i + 2)) (nI_add i 2) ?_
    refine m_sld F (j := i + 2) e_L_law_270 hX hb (nI_clamp (by omega)) (vp_in_nI (by omega) (by omega)) ?_
    refine m_aload_n F rfl e_L_law_271 ?_
    refine m_iload F rfl e_L_law_272 ?_
    refine m_iconst F (v := 3) (by decide) e_L_law_274 ?_
    refine m_iadd F e_L_law_275 ?_
    refine Wm.topE (w := nI (i + 3)) (nI_add i 3) ?_
    refine m_sld F (j := i + 3) e_L_law_276 hX hb (nI_clamp (by omega)) (vp_in_nI (by omega) (by omega)) ?_
    refine m_aload_n F rfl e_L_law_277 ?_
    refine m_iload F rfl e_L_law_278 ?_
    refine m_iconst F (v := 4) (by decide) e_L_law_280 ?_
    refine m_iadd F e_L_law_281 ?_
    refine Wm.topE (w := nI (i + 4)) (nI_add i 4) ?_
    refine m_sld F (j := i + 4) e_L_law_282 hX hb (nI_clamp (by omega)) (vp_in_nI (by omega) (by omega)) ?_
    refine m_aload_n F rfl e_L_law_283 ?_
    refine m_iload F rfl e_L_law_284 ?_
    refine m_iconst F (v := 5) (by decide) e_L_law_286 ?_
    refine m_iadd F e_L_law_287 ?_
    refine Wm.topE (w := nI (i + 5)) (nI_add i 5) ?_
    refine m_sld F (j := i + 5) e_L_law_288 hX hb (nI_clamp (by omega)) (vp_in_nI (by omega) (by omega)) ?_
    refine l_callM F e_L_law_289 (q_X10_feed (x_l X) V (b + 1457) T 1 u h P L0_ _ _ (xs (i + 1)) (xs (i + 2)) (xs (i + 3)) (xs (i + 4)) (xs (i + 5)) h11104 hok.b hP (by first | omega | assumption)) cb_X10_feed ml_L_25 im_X10_feed se_X10_feed h11104 rfl rfl (rest := [.int (-1)]) rfl (Nat.le_of_ble_eq_true rfl) ⟨Nat.le_of_ble_eq_true rfl, Nat.le_of_ble_eq_true rfl⟩ (by omega) (by omega) (fun r σ11106 hp => ?_)
    rcases hp with ⟨g11108, h11107, rfl⟩ | ⟨g11108, h11107, rfl⟩
    · have h11109 := h11107.1
      have h11110 := h11103.keepM (fun a ha => h11107.2 a (by rw [ha]; decide))
      have h11111 := (h11107.2 (b + 1480) (by rw [kC_0 (c := b + 1457) (by omega)]; decide)).trans h11105
      refine m_icmp_eq F e_L_law_292 (fun _ => ?_) (fun q => absurd (by decide) q)
      exact hN _ M T _ _ _ (by omega) (by omega) (by omega) ⟨by omega, h11110, ⟨_, h11111⟩, u, h, P, L0_, ⟨hu, hh, hP, hkk, hm0, hw0, hok⟩, h11109⟩
    · exfalso; omega
  · have h11112 := h11101.1
    have h11113 := hHR.keepL (fun a ha _ => h11101.2 a (by rw [show kA _ a = 0 from ha]; decide))
    have h11114 := (h11101.2 (b + 1480) (by rw [show kA _ (b + 1480) = 0 from kA_o]; decide)).trans hout
    refine m_aload_n F rfl e_L_law_258 ?_
    refine m_aload_n F rfl e_L_law_259 ?_
    refine m_iload F rfl e_L_law_260 ?_
    refine m_iconst F (v := 1) (by decide) e_L_law_262 ?_
    refine m_iadd F e_L_law_263 ?_
    refine Wm.topE (w := nI (i + 1)) (nI_add i 1) ?_
    refine m_sld F (j := i + 1) e_L_law_264 hX hb (nI_clamp (by omega)) (vp_in_nI (by omega) (by omega)) ?_
    refine m_aload_n F rfl e_L_law_265 ?_
    refine m_iload F rfl e_L_law_266 ?_
    refine m_iconst F (v := 2) (by decide) e_L_law_268 ?_
    refine m_iadd F e_L_law_269 ?_
    refine Wm.topE (w := nI (i + 2)) (nI_add i 2) ?_
    refine m_sld F (j := i + 2) e_L_law_270 hX hb (nI_clamp (by omega)) (vp_in_nI (by omega) (by omega)) ?_
    refine m_aload_n F rfl e_L_law_271 ?_
    refine m_iload F rfl e_L_law_272 ?_
    refine m_iconst F (v := 3) (by decide) e_L_law_274 ?_
    refine m_iadd F e_L_law_275 ?_
    refine Wm.topE (w := nI (i + 3)) (nI_add i 3) ?_
    refine m_sld F (j := i + 3) e_L_law_276 hX hb (nI_clamp (by omega)) (vp_in_nI (by omega) (by omega)) ?_
    refine m_aload_n F rfl e_L_law_277 ?_
    refine m_iload F rfl e_L_law_278 ?_
    refine m_iconst F (v := 4) (by decide) e_L_law_280 ?_
    refine m_iadd F e_L_law_281 ?_
    refine Wm.topE (w := nI (i + 4)) (nI_add i 4) ?_
    refine m_sld F (j := i + 4) e_L_law_282 hX hb (nI_clamp (by omega)) (vp_in_nI (by omega) (by omega)) ?_
    refine m_aload_n F rfl e_L_law_283 ?_
    refine m_iload F rfl e_L_law_284 ?_
    refine m_iconst F (v := 5) (by decide) e_L_law_286 ?_
    refine m_iadd F e_L_law_287 ?_
    refine Wm.topE (w := nI (i + 5)) (nI_add i 5) ?_
    refine m_sld F (j := i + 5) e_L_law_288 hX hb (nI_clamp (by omega)) (vp_in_nI (by omega) (by omega)) ?_
    refine l_callM F e_L_law_289 (q_X10_feed (x_l X) V (b + 1457) T 1 u h P L0_ _ _ (xs (i + 1)) (xs (i + 2)) (xs (i + 3)) (xs (i + 4)) (xs (i + 5)) h11113 hok.b hP (by first | omega | assumption)) cb_X10_feed ml_L_25 im_X10_feed se_X10_feed h11113 rfl rfl (rest := [.int (nI (T + 20))]) rfl (Nat.le_of_ble_eq_true rfl) ⟨Nat.le_of_ble_eq_true rfl, Nat.le_of_ble_eq_true rfl⟩ (by omega) (by omega) (fun r σ11115 hp => ?_)
    rcases hp with ⟨g11117, h11116, rfl⟩ | ⟨g11117, h11116, rfl⟩
    · exfalso; omega
    · have h11118 := h11116.1
      have h11119 := h11112.keepM (fun a ha => h11116.2 a (by rw [ha]; decide))
      have h11120 := (h11116.2 (b + 1480) (by rw [kC_0 (c := b + 1457) (by omega)]; decide)).trans h11114
      refine m_icmp_eq F e_L_law_292 (fun _ => ?_) (fun q => absurd rfl q)
      exact hN _ M (T + 20) _ _ _ (by omega) (by omega) (by omega) ⟨by omega, h11119, ⟨_, h11120⟩, u, h, P, L0_, ⟨hu, hh, hP, hkk, hm0, hw0, hok⟩, h11118⟩
set_option maxRecDepth 20000 in
theorem lc_1 {V : VX} {X : MX} {nm : String} {b sb N k z i L M T : Nat} {xs : Nat → Int32} {σ : Mem} (F : Fx V X (yLw nm) cL_law 7 ret room_1) (hX : va_X sb L xs (x_s X) V.2.2) (hb : sb < V.2.2.size) (hl : (x_l X).stackTraces = false) (hi : i + 6 ≤ L) (hL : L ≤ 3072) (hk : k ≤ 2100) (hz : z ≤ 80000) (hM : M ≤ 10000000) (hI : IV V b M T σ) (hN : ∀ (N' M' T' : Nat) (σ' : Mem) (k' z' : Nat), k' ≤ k + 1 → z' ≤ z + 6 → M' ≤ M + 10000 → IV V b M' T' σ' → Wm V X 7 N' σ' k' z' 1745 [(4, .int (nI i)), (3, .ref (b + 1480)), (2, .ref (b + 1457)), (1, .ref b), (0, .ref sb)] []) : Wm V X 7 N σ k z 297 [(4, .int (nI i)), (3, .ref (b + 1480)), (2, .ref (b + 1457)), (1, .ref b), (0, .ref sb)] [] := by
  obtain ⟨hT, hHT, ⟨z0, hout⟩, u, h, P, L0_, ⟨hu, hh, hP, hkk, hm0, hw0, hok⟩, hHR⟩ := hI
  refine m_aload_n F rfl e_L_law_297 ?_
  refine m_aload_n F rfl e_L_law_298 ?_
  refine m_iload F rfl e_L_law_299 ?_
  refine m_iconst F (v := 1) (by decide) e_L_law_301 ?_
  refine m_iadd F e_L_law_302 ?_
  refine Wm.topE (w := nI (i + 1)) (nI_add i 1) ?_
  refine m_sld F (j := i + 1) e_L_law_303 hX hb (nI_clamp (by omega)) (vp_in_nI (by omega) (by omega)) ?_
  refine l_callC F e_L_law_304 (s_X9_text (x_l X) V b M 1 T _ _ b (xs (i + 1)) hHT kA_b (by omega) (by omega)) cb_X9_text ml_L_26 im_X9_text se_X9_text hHT rfl rfl (rest := []) rfl (Nat.le_of_ble_eq_true rfl) ⟨Nat.le_of_ble_eq_true rfl, Nat.le_of_ble_eq_true rfl⟩ (by omega) (by omega) (fun r σ11121 hp => ?_)
  obtain ⟨⟨x0, rfl⟩, hp⟩ := hp
  rcases hp with ⟨gt, h11122⟩ | ⟨n1, gn, en, ⟨gt, h11122⟩ | ⟨gt, h11122⟩⟩
  · have h11123 := h11122.1
    have h11124 := hHR.keepL (fun a ha _ => h11122.2 a (by rw [show kA _ a = 0 from ha]; decide))
    have h11125 := (h11122.2 (b + 1480) (by rw [show kA _ (b + 1480) = 0 from kA_o]; decide)).trans hout
    refine m_pop F rfl e_L_law_307 ?_
    refine m_aload_n F rfl e_L_law_308 ?_
    refine m_aload_n F rfl e_L_law_309 ?_
    refine m_iload F rfl e_L_law_310 ?_
    refine m_iconst F (v := 1) (by decide) e_L_law_312 ?_
    refine m_iadd F e_L_law_313 ?_
    refine Wm.topE (w := nI (i + 1)) (nI_add i 1) ?_
    refine m_sld F (j := i + 1) e_L_law_314 hX hb (nI_clamp (by omega)) (vp_in_nI (by omega) (by omega)) ?_
    refine l_callM F e_L_law_315 (q_X10_text (x_l X) V (b + 1457) T 1 u h P L0_ _ _ (xs (i + 1)) h11124 hok hP (by first | omega | assumption) (by first | omega | assumption) (by first | omega | assumption) (by first | omega | assumption) (by first | omega | assumption) (by first | omega | assumption)) cb_X10_text ml_L_30 im_X10_text se_X10_text h11124 rfl rfl (rest := []) rfl (Nat.le_of_ble_eq_true rfl) ⟨Nat.le_of_ble_eq_true rfl, Nat.le_of_ble_eq_true rfl⟩ (by omega) (by omega) (fun r σ11126 hp => ?_)
    obtain ⟨⟨x2, rfl⟩, hp⟩ := hp
    rcases hp with ⟨gm, h11127⟩ | ⟨n2, em, gm, u2, h2, P2, L2, ⟨hu2, hh2, hP2, hkk2, hm2, hw2, hok2⟩, h11127⟩
    · have h11128 := h11127.1
      have h11129 := h11123.keepM (fun a ha => h11127.2 a (by rw [ha]; decide))
      have h11130 := (h11127.2 (b + 1480) (by rw [kC_0 (c := b + 1457) (by omega)]; decide)).trans h11125
      refine m_pop F rfl e_L_law_318 ?_
      refine m_goto F e_L_law_319 ?_
      exact hN _ M T _ _ _ (by omega) (by omega) (by omega) ⟨by omega, h11129, ⟨_, h11130⟩, u, h, P, L0_, ⟨hu, hh, hP, hkk, hm0, hw0, hok⟩, h11128⟩
    · rw [em] at gt
      exact absurd gt (nI_nlt0 (by omega))
  · have h11131 := h11122.1
    have h11132 := hHR.keepL (fun a ha _ => h11122.2 a (by rw [show kA _ a = 0 from ha]; decide))
    have h11133 := (h11122.2 (b + 1480) (by rw [show kA _ (b + 1480) = 0 from kA_o]; decide)).trans hout
    refine m_pop F rfl e_L_law_307 ?_
    refine m_aload_n F rfl e_L_law_308 ?_
    refine m_aload_n F rfl e_L_law_309 ?_
    refine m_iload F rfl e_L_law_310 ?_
    refine m_iconst F (v := 1) (by decide) e_L_law_312 ?_
    refine m_iadd F e_L_law_313 ?_
    refine Wm.topE (w := nI (i + 1)) (nI_add i 1) ?_
    refine m_sld F (j := i + 1) e_L_law_314 hX hb (nI_clamp (by omega)) (vp_in_nI (by omega) (by omega)) ?_
    refine l_callM F e_L_law_315 (q_X10_text (x_l X) V (b + 1457) T 1 u h P L0_ _ _ (xs (i + 1)) h11132 hok hP (by first | omega | assumption) (by first | omega | assumption) (by first | omega | assumption) (by first | omega | assumption) (by first | omega | assumption) (by first | omega | assumption)) cb_X10_text ml_L_30 im_X10_text se_X10_text h11132 rfl rfl (rest := []) rfl (Nat.le_of_ble_eq_true rfl) ⟨Nat.le_of_ble_eq_true rfl, Nat.le_of_ble_eq_true rfl⟩ (by omega) (by omega) (fun r σ11134 hp => ?_)
    obtain ⟨⟨x2, rfl⟩, hp⟩ := hp
    rcases hp with ⟨gm, h11135⟩ | ⟨n2, em, gm, u2, h2, P2, L2, ⟨hu2, hh2, hP2, hkk2, hm2, hw2, hok2⟩, h11135⟩
    · have h11136 := h11135.1
      have h11137 := h11131.keepM (fun a ha => h11135.2 a (by rw [ha]; decide))
      have h11138 := (h11135.2 (b + 1480) (by rw [kC_0 (c := b + 1457) (by omega)]; decide)).trans h11133
      refine m_pop F rfl e_L_law_318 ?_
      refine m_goto F e_L_law_319 ?_
      exact hN _ M T _ _ _ (by omega) (by omega) (by omega) ⟨by omega, h11137, ⟨_, h11138⟩, u, h, P, L0_, ⟨hu, hh, hP, hkk, hm0, hw0, hok⟩, h11136⟩
    · have e9 := nI_inj (by omega) (by omega) (en.symm.trans em)
      exfalso; omega
  · have h11139 := h11122.1
    have h11140 := hHR.keepL (fun a ha _ => h11122.2 a (by rw [show kA _ a = 0 from ha]; decide))
    have h11141 := (h11122.2 (b + 1480) (by rw [show kA _ (b + 1480) = 0 from kA_o]; decide)).trans hout
    refine m_pop F rfl e_L_law_307 ?_
    refine m_aload_n F rfl e_L_law_308 ?_
    refine m_aload_n F rfl e_L_law_309 ?_
    refine m_iload F rfl e_L_law_310 ?_
    refine m_iconst F (v := 1) (by decide) e_L_law_312 ?_
    refine m_iadd F e_L_law_313 ?_
    refine Wm.topE (w := nI (i + 1)) (nI_add i 1) ?_
    refine m_sld F (j := i + 1) e_L_law_314 hX hb (nI_clamp (by omega)) (vp_in_nI (by omega) (by omega)) ?_
    refine l_callM F e_L_law_315 (q_X10_text (x_l X) V (b + 1457) T 1 u h P L0_ _ _ (xs (i + 1)) h11140 hok hP (by first | omega | assumption) (by first | omega | assumption) (by first | omega | assumption) (by first | omega | assumption) (by first | omega | assumption) (by first | omega | assumption)) cb_X10_text ml_L_30 im_X10_text se_X10_text h11140 rfl rfl (rest := []) rfl (Nat.le_of_ble_eq_true rfl) ⟨Nat.le_of_ble_eq_true rfl, Nat.le_of_ble_eq_true rfl⟩ (by omega) (by omega) (fun r σ11142 hp => ?_)
    obtain ⟨⟨x2, rfl⟩, hp⟩ := hp
    rcases hp with ⟨gm, h11143⟩ | ⟨n2, em, gm, u2, h2, P2, L2, ⟨hu2, hh2, hP2, hkk2, hm2, hw2, hok2⟩, h11143⟩
    · exact absurd gm (tx_no en gt (by omega))
    · have h11144 := h11143.1
      have h11145 := h11139.keepM (fun a ha => h11143.2 a (by rw [ha]; decide))
      have h11146 := (h11143.2 (b + 1480) (by rw [kC_0 (c := b + 1457) (by omega)]; decide)).trans h11141
      refine m_pop F rfl e_L_law_318 ?_
      refine m_goto F e_L_law_319 ?_
      exact hN _ M 0 _ _ _ (by omega) (by omega) (by omega) ⟨by omega, h11145, ⟨_, h11146⟩, u2, h2, P2, L2, ⟨hu2, hh2, hP2, hkk2, hm2, hw2, hok2⟩, h11144⟩
set_option maxRecDepth 20000 in
theorem lc_2 {V : VX} {X : MX} {nm : String} {b sb N k z i L M T : Nat} {xs : Nat → Int32} {σ : Mem} (F : Fx V X (yLw nm) cL_law 7 ret room_1) (hX : va_X sb L xs (x_s X) V.2.2) (hb : sb < V.2.2.size) (hl : (x_l X).stackTraces = false) (hi : i + 6 ≤ L) (hL : L ≤ 3072) (hk : k ≤ 2100) (hz : z ≤ 80000) (hM : M ≤ 10000000) (hI : IV V b M T σ) (hN : ∀ (N' M' T' : Nat) (σ' : Mem) (k' z' : Nat), k' ≤ k + 1 → z' ≤ z + 6 → M' ≤ M + 10000 → IV V b M' T' σ' → Wm V X 7 N' σ' k' z' 1745 [(4, .int (nI i)), (3, .ref (b + 1480)), (2, .ref (b + 1457)), (1, .ref b), (0, .ref sb)] []) : Wm V X 7 N σ k z 322 [(4, .int (nI i)), (3, .ref (b + 1480)), (2, .ref (b + 1457)), (1, .ref b), (0, .ref sb)] [] := by
  obtain ⟨hT, hHT, ⟨z0, hout⟩, u, h, P, L0_, ⟨hu, hh, hP, hkk, hm0, hw0, hok⟩, hHR⟩ := hI
  refine m_aload_n F rfl e_L_law_322 ?_
  refine m_aload_n F rfl e_L_law_323 ?_
  refine m_iload F rfl e_L_law_324 ?_
  refine m_iconst F (v := 1) (by decide) e_L_law_326 ?_
  refine m_iadd F e_L_law_327 ?_
  refine Wm.topE (w := nI (i + 1)) (nI_add i 1) ?_
  refine m_sld F (j := i + 1) e_L_law_328 hX hb (nI_clamp (by omega)) (vp_in_nI (by omega) (by omega)) ?_
  refine l_callC F e_L_law_329 (s_X9_fault (x_l X) V b M 1 T _ _ b (xs (i + 1)) hHT kA_b  (by omega)) cb_X9_fault ml_L_31 im_X9_fault se_X9_fault hHT rfl rfl (rest := []) rfl (Nat.le_of_ble_eq_true rfl) ⟨Nat.le_of_ble_eq_true rfl, Nat.le_of_ble_eq_true rfl⟩ (by omega) (by omega) (fun r σ11147 hp => ?_)
  obtain ⟨h11148, x11149, rfl⟩ := hp
  have h11150 := h11148.1
  have h11151 := hHR.keepL (fun a ha _ => h11148.2 a (by rw [show kA _ a = 0 from ha]; decide))
  have h11152 := (h11148.2 (b + 1480) (by rw [show kA _ (b + 1480) = 0 from kA_o]; decide)).trans hout
  refine m_pop F rfl e_L_law_332 ?_
  refine m_aload_n F rfl e_L_law_333 ?_
  refine m_aload_n F rfl e_L_law_334 ?_
  refine m_iload F rfl e_L_law_335 ?_
  refine m_iconst F (v := 1) (by decide) e_L_law_337 ?_
  refine m_iadd F e_L_law_338 ?_
  refine Wm.topE (w := nI (i + 1)) (nI_add i 1) ?_
  refine m_sld F (j := i + 1) e_L_law_339 hX hb (nI_clamp (by omega)) (vp_in_nI (by omega) (by omega)) ?_
  refine l_callM F e_L_law_340 (q_X10_fault (x_l X) V (b + 1457) T 1 u h P L0_ _ _ (xs (i + 1)) h11151 hok.b hP ) cb_X10_fault ml_L_34 im_X10_fault se_X10_fault h11151 rfl rfl (rest := []) rfl (Nat.le_of_ble_eq_true rfl) ⟨Nat.le_of_ble_eq_true rfl, Nat.le_of_ble_eq_true rfl⟩ (by omega) (by omega) (fun r σ11153 hp => ?_)
  obtain ⟨h11154, x11155, rfl⟩ := hp
  have h11156 := h11154.1
  have h11157 := h11150.keepM (fun a ha => h11154.2 a (by rw [ha]; decide))
  have h11158 := (h11154.2 (b + 1480) (by rw [kC_0 (c := b + 1457) (by omega)]; decide)).trans h11152
  refine m_pop F rfl e_L_law_343 ?_
  refine m_goto F e_L_law_344 ?_
  exact hN _ M T _ _ _ (by omega) (by omega) (by omega) ⟨by omega, h11157, ⟨_, h11158⟩, u, h, P, L0_, ⟨hu, hh, hP, hkk, hm0, hw0, hok⟩, h11156⟩
set_option maxRecDepth 20000 in
theorem lc_3 {V : VX} {X : MX} {nm : String} {b sb N k z i L M T : Nat} {xs : Nat → Int32} {σ : Mem} (F : Fx V X (yLw nm) cL_law 7 ret room_1) (hX : va_X sb L xs (x_s X) V.2.2) (hb : sb < V.2.2.size) (hl : (x_l X).stackTraces = false) (hi : i + 6 ≤ L) (hL : L ≤ 3072) (hk : k ≤ 2100) (hz : z ≤ 80000) (hM : M ≤ 10000000) (hI : IV V b M T σ) (hN : ∀ (N' M' T' : Nat) (σ' : Mem) (k' z' : Nat), k' ≤ k + 1 → z' ≤ z + 6 → M' ≤ M + 10000 → IV V b M' T' σ' → Wm V X 7 N' σ' k' z' 1745 [(4, .int (nI i)), (3, .ref (b + 1480)), (2, .ref (b + 1457)), (1, .ref b), (0, .ref sb)] []) : Wm V X 7 N σ k z 347 [(4, .int (nI i)), (3, .ref (b + 1480)), (2, .ref (b + 1457)), (1, .ref b), (0, .ref sb)] [] := by
  obtain ⟨hT, hHT, ⟨z0, hout⟩, u, h, P, L0_, ⟨hu, hh, hP, hkk, hm0, hw0, hok⟩, hHR⟩ := hI
  refine m_aload_n F rfl e_L_law_347 ?_
  refine m_aload_n F rfl e_L_law_348 ?_
  refine m_iload F rfl e_L_law_349 ?_
  refine m_iconst F (v := 1) (by decide) e_L_law_351 ?_
  refine m_iadd F e_L_law_352 ?_
  refine Wm.topE (w := nI (i + 1)) (nI_add i 1) ?_
  refine m_sld F (j := i + 1) e_L_law_353 hX hb (nI_clamp (by omega)) (vp_in_nI (by omega) (by omega)) ?_
  refine l_callC F e_L_law_354 (s_X9_named (x_l X) V b M 1 T _ _ b (xs (i + 1)) hHT kA_b  (by omega)) cb_X9_named ml_L_35 im_X9_named se_X9_named hHT rfl rfl (rest := []) rfl (Nat.le_of_ble_eq_true rfl) ⟨Nat.le_of_ble_eq_true rfl, Nat.le_of_ble_eq_true rfl⟩ (by omega) (by omega) (fun r σ11159 hp => ?_)
  obtain ⟨h11160, x11161, rfl⟩ := hp
  have h11162 := h11160.1
  have h11163 := hHR.keepL (fun a ha _ => h11160.2 a (by rw [show kA _ a = 0 from ha]; decide))
  have h11164 := (h11160.2 (b + 1480) (by rw [show kA _ (b + 1480) = 0 from kA_o]; decide)).trans hout
  refine m_pop F rfl e_L_law_357 ?_
  refine m_aload_n F rfl e_L_law_358 ?_
  refine m_aload_n F rfl e_L_law_359 ?_
  refine m_iload F rfl e_L_law_360 ?_
  refine m_iconst F (v := 1) (by decide) e_L_law_362 ?_
  refine m_iadd F e_L_law_363 ?_
  refine Wm.topE (w := nI (i + 1)) (nI_add i 1) ?_
  refine m_sld F (j := i + 1) e_L_law_364 hX hb (nI_clamp (by omega)) (vp_in_nI (by omega) (by omega)) ?_
  refine l_callM F e_L_law_365 (q_X10_named (x_l X) V (b + 1457) T 1 u h P L0_ _ _ (xs (i + 1)) h11163 hok.b hP ) cb_X10_named ml_L_38 im_X10_named se_X10_named h11163 rfl rfl (rest := []) rfl (Nat.le_of_ble_eq_true rfl) ⟨Nat.le_of_ble_eq_true rfl, Nat.le_of_ble_eq_true rfl⟩ (by omega) (by omega) (fun r σ11165 hp => ?_)
  obtain ⟨h11166, x11167, rfl⟩ := hp
  have h11168 := h11166.1
  have h11169 := h11162.keepM (fun a ha => h11166.2 a (by rw [ha]; decide))
  have h11170 := (h11166.2 (b + 1480) (by rw [kC_0 (c := b + 1457) (by omega)]; decide)).trans h11164
  refine m_pop F rfl e_L_law_368 ?_
  refine m_goto F e_L_law_369 ?_
  exact hN _ M T _ _ _ (by omega) (by omega) (by omega) ⟨by omega, h11169, ⟨_, h11170⟩, u, h, P, L0_, ⟨hu, hh, hP, hkk, hm0, hw0, hok⟩, h11168⟩
set_option maxRecDepth 20000 in
theorem lc_4 {V : VX} {X : MX} {nm : String} {b sb N k z i L M T : Nat} {xs : Nat → Int32} {σ : Mem} (F : Fx V X (yLw nm) cL_law 7 ret room_1) (hX : va_X sb L xs (x_s X) V.2.2) (hb : sb < V.2.2.size) (hl : (x_l X).stackTraces = false) (hi : i + 6 ≤ L) (hL : L ≤ 3072) (hk : k ≤ 2100) (hz : z ≤ 80000) (hM : M ≤ 10000000) (hI : IV V b M T σ) (hN : ∀ (N' M' T' : Nat) (σ' : Mem) (k' z' : Nat), k' ≤ k + 1 → z' ≤ z + 6 → M' ≤ M + 10000 → IV V b M' T' σ' → Wm V X 7 N' σ' k' z' 1745 [(4, .int (nI i)), (3, .ref (b + 1480)), (2, .ref (b + 1457)), (1, .ref b), (0, .ref sb)] []) : Wm V X 7 N σ k z 372 [(4, .int (nI i)), (3, .ref (b + 1480)), (2, .ref (b + 1457)), (1, .ref b), (0, .ref sb)] [] := by
  obtain ⟨hT, hHT, ⟨z0, hout⟩, u, h, P, L0_, ⟨hu, hh, hP, hkk, hm0, hw0, hok⟩, hHR⟩ := hI
  refine m_aload_n F rfl e_L_law_372 ?_
  refine m_aload_n F rfl e_L_law_373 ?_
  refine m_iload F rfl e_L_law_374 ?_
  refine m_iconst F (v := 1) (by decide) e_L_law_376 ?_
  refine m_iadd F e_L_law_377 ?_
  refine Wm.topE (w := nI (i + 1)) (nI_add i 1) ?_
  refine m_sld F (j := i + 1) e_L_law_378 hX hb (nI_clamp (by omega)) (vp_in_nI (by omega) (by omega)) ?_
  refine l_callC F e_L_law_379 (s_X9_go (x_l X) V b M 1 T _ _ b (xs (i + 1)) hHT kA_b  (by omega)) cb_X9_go ml_L_39 im_X9_go se_X9_go hHT rfl rfl (rest := []) rfl (Nat.le_of_ble_eq_true rfl) ⟨Nat.le_of_ble_eq_true rfl, Nat.le_of_ble_eq_true rfl⟩ (by omega) (by omega) (fun r σ11171 hp => ?_)
  obtain ⟨h11172, x11173, rfl⟩ := hp
  have h11174 := h11172.1
  have h11175 := hHR.keepL (fun a ha _ => h11172.2 a (by rw [show kA _ a = 0 from ha]; decide))
  have h11176 := (h11172.2 (b + 1480) (by rw [show kA _ (b + 1480) = 0 from kA_o]; decide)).trans hout
  refine m_pop F rfl e_L_law_382 ?_
  refine m_aload_n F rfl e_L_law_383 ?_
  refine m_aload_n F rfl e_L_law_384 ?_
  refine m_iload F rfl e_L_law_385 ?_
  refine m_iconst F (v := 1) (by decide) e_L_law_387 ?_
  refine m_iadd F e_L_law_388 ?_
  refine Wm.topE (w := nI (i + 1)) (nI_add i 1) ?_
  refine m_sld F (j := i + 1) e_L_law_389 hX hb (nI_clamp (by omega)) (vp_in_nI (by omega) (by omega)) ?_
  refine l_callM F e_L_law_390 (q_X10_go (x_l X) V (b + 1457) T 1 u h P L0_ _ _ (xs (i + 1)) h11175 hok hP (by first | omega | assumption) (by first | omega | assumption)) cb_X10_go ml_L_42 im_X10_go se_X10_go h11175 rfl rfl (rest := []) rfl (Nat.le_of_ble_eq_true rfl) ⟨Nat.le_of_ble_eq_true rfl, Nat.le_of_ble_eq_true rfl⟩ (by omega) (by omega) (fun r σ11177 hp => ?_)
  obtain ⟨u11179, hu11179, L11180, okL11180, h11178, x11181, rfl⟩ := hp
  have h11182 := h11178.1
  have h11183 := h11174.keepM (fun a ha => h11178.2 a (by rw [ha]; decide))
  have h11184 := (h11178.2 (b + 1480) (by rw [kC_0 (c := b + 1457) (by omega)]; decide)).trans h11176
  refine m_pop F rfl e_L_law_393 ?_
  refine m_goto F e_L_law_394 ?_
  exact hN _ (M + 108) T _ _ _ (by omega) (by omega) (by omega) ⟨by omega, h11183, ⟨_, h11184⟩, u11179, h, P, L11180, ⟨hu11179, hh, hP, hkk, hm0, hw0, okL11180⟩, h11182⟩
set_option maxRecDepth 20000 in
theorem lc_5 {V : VX} {X : MX} {nm : String} {b sb N k z i L M T : Nat} {xs : Nat → Int32} {σ : Mem} (F : Fx V X (yLw nm) cL_law 7 ret room_1) (hX : va_X sb L xs (x_s X) V.2.2) (hb : sb < V.2.2.size) (hl : (x_l X).stackTraces = false) (hi : i + 6 ≤ L) (hL : L ≤ 3072) (hk : k ≤ 2100) (hz : z ≤ 80000) (hM : M ≤ 10000000) (hI : IV V b M T σ) (hN : ∀ (N' M' T' : Nat) (σ' : Mem) (k' z' : Nat), k' ≤ k + 1 → z' ≤ z + 6 → M' ≤ M + 10000 → IV V b M' T' σ' → Wm V X 7 N' σ' k' z' 1745 [(4, .int (nI i)), (3, .ref (b + 1480)), (2, .ref (b + 1457)), (1, .ref b), (0, .ref sb)] []) : Wm V X 7 N σ k z 397 [(4, .int (nI i)), (3, .ref (b + 1480)), (2, .ref (b + 1457)), (1, .ref b), (0, .ref sb)] [] := by
  obtain ⟨hT, hHT, ⟨z0, hout⟩, u, h, P, L0_, ⟨hu, hh, hP, hkk, hm0, hw0, hok⟩, hHR⟩ := hI
  refine m_aload_n F rfl e_L_law_397 ?_
  refine m_aload_n F rfl e_L_law_398 ?_
  refine m_iload F rfl e_L_law_399 ?_
  refine m_iconst F (v := 1) (by decide) e_L_law_401 ?_
  refine m_iadd F e_L_law_402 ?_
  refine Wm.topE (w := nI (i + 1)) (nI_add i 1) ?_
  refine m_sld F (j := i + 1) e_L_law_403 hX hb (nI_clamp (by omega)) (vp_in_nI (by omega) (by omega)) ?_
  refine m_aload_n F rfl e_L_law_404 ?_
  refine m_iload F rfl e_L_law_405 ?_
  refine m_iconst F (v := 2) (by decide) e_L_law_407 ?_
  refine m_iadd F e_L_law_408 ?_
  refine Wm.topE (w := nI (i + 2)) (nI_add i 2) ?_
  refine m_sld F (j := i + 2) e_L_law_409 hX hb (nI_clamp (by omega)) (vp_in_nI (by omega) (by omega)) ?_
  refine m_aload_n F rfl e_L_law_410 ?_
  refine m_callSL F e_L_law_411 (s_L_lease (x_l X) hl V b M T _ _ b (b + 1480) (xs (i + 1)) (xs (i + 2)) z0 hHT kA_b kA_o hout (by omega)) ml_L_43 rfl (rest := []) rfl (Nat.le_of_ble_eq_true rfl) ⟨Nat.le_of_ble_eq_true rfl, Nat.le_of_ble_eq_true rfl⟩ (by omega) (by omega) (fun N1 σ11185 x1 hp1 hp2 hp3 => ?_)
  obtain ⟨z1, hz1⟩ := hp2
  have h11187 := hHR.keepL (fun a ha hb2 => hp3 a hb2 ha)
  refine m_istore F (lv' := [(5, .int x1), (4, .int (nI i)), (3, .ref (b + 1480)), (2, .ref (b + 1457)), (1, .ref b), (0, .ref sb)]) e_L_law_414 (by decide) rfl ?_
  refine m_aload_n F rfl e_L_law_416 ?_
  refine m_aload_n F rfl e_L_law_417 ?_
  refine m_iload F rfl e_L_law_418 ?_
  refine m_iconst F (v := 1) (by decide) e_L_law_420 ?_
  refine m_iadd F e_L_law_421 ?_
  refine Wm.topE (w := nI (i + 1)) (nI_add i 1) ?_
  refine m_sld F (j := i + 1) e_L_law_422 hX hb (nI_clamp (by omega)) (vp_in_nI (by omega) (by omega)) ?_
  refine m_aload_n F rfl e_L_law_423 ?_
  refine m_iload F rfl e_L_law_424 ?_
  refine m_iconst F (v := 2) (by decide) e_L_law_426 ?_
  refine m_iadd F e_L_law_427 ?_
  refine Wm.topE (w := nI (i + 2)) (nI_add i 2) ?_
  refine m_sld F (j := i + 2) e_L_law_428 hX hb (nI_clamp (by omega)) (vp_in_nI (by omega) (by omega)) ?_
  refine l_callM F e_L_law_429 (q_X10_lease (x_l X) V (b + 1457) T 1 u h P L0_ _ _ (xs (i + 1)) (xs (i + 2)) h11187 hok.b hP ) cb_X10_lease ml_L_48 im_X10_lease se_X10_lease h11187 rfl rfl (rest := []) rfl (Nat.le_of_ble_eq_true rfl) ⟨Nat.le_of_ble_eq_true rfl, Nat.le_of_ble_eq_true rfl⟩ (by omega) (by omega) (fun r σ11189 hp => ?_)
  obtain ⟨h11190, x11191, rfl⟩ := hp
  have h11192 := h11190.1
  have h11193 := hp1.keepM (fun a ha => h11190.2 a (by rw [ha]; decide))
  have h11194 := (h11190.2 (b + 1480) (by rw [kC_0 (c := b + 1457) (by omega)]; decide)).trans hz1
  refine m_istore F (lv' := [(6, .int x11191), (5, .int x1), (4, .int (nI i)), (3, .ref (b + 1480)), (2, .ref (b + 1457)), (1, .ref b), (0, .ref sb)]) e_L_law_432 (by decide) rfl ?_
  refine m_goto F e_L_law_434 ?_
  refine Wm.lvsub (lv' := [(4, .int (nI i)), (3, .ref (b + 1480)), (2, .ref (b + 1457)), (1, .ref b), (0, .ref sb)]) ?_ [2, 3, 4, 5, 6] rfl
  exact hN _ M T _ _ _ (by omega) (by omega) (by omega) ⟨by omega, h11193, ⟨_, h11194⟩, u, h, P, L0_, ⟨hu, hh, hP, hkk, hm0, hw0, hok⟩, h11192⟩
set_option maxRecDepth 20000 in
theorem lc_6 {V : VX} {X : MX} {nm : String} {b sb N k z i L M T : Nat} {xs : Nat → Int32} {σ : Mem} (F : Fx V X (yLw nm) cL_law 7 ret room_1) (hX : va_X sb L xs (x_s X) V.2.2) (hb : sb < V.2.2.size) (hl : (x_l X).stackTraces = false) (hi : i + 6 ≤ L) (hL : L ≤ 3072) (hk : k ≤ 2100) (hz : z ≤ 80000) (hM : M ≤ 10000000) (hI : IV V b M T σ) (hN : ∀ (N' M' T' : Nat) (σ' : Mem) (k' z' : Nat), k' ≤ k + 1 → z' ≤ z + 6 → M' ≤ M + 10000 → IV V b M' T' σ' → Wm V X 7 N' σ' k' z' 1745 [(4, .int (nI i)), (3, .ref (b + 1480)), (2, .ref (b + 1457)), (1, .ref b), (0, .ref sb)] []) : Wm V X 7 N σ k z 437 [(4, .int (nI i)), (3, .ref (b + 1480)), (2, .ref (b + 1457)), (1, .ref b), (0, .ref sb)] [] := by
  obtain ⟨hT, hHT, ⟨z0, hout⟩, u, h, P, L0_, ⟨hu, hh, hP, hkk, hm0, hw0, hok⟩, hHR⟩ := hI
  refine m_aload_n F rfl e_L_law_437 ?_
  refine m_aload_n F rfl e_L_law_438 ?_
  refine m_iload F rfl e_L_law_439 ?_
  refine m_iconst F (v := 1) (by decide) e_L_law_441 ?_
  refine m_iadd F e_L_law_442 ?_
  refine Wm.topE (w := nI (i + 1)) (nI_add i 1) ?_
  refine m_sld F (j := i + 1) e_L_law_443 hX hb (nI_clamp (by omega)) (vp_in_nI (by omega) (by omega)) ?_
  refine m_aload_n F rfl e_L_law_444 ?_
  refine m_iload F rfl e_L_law_445 ?_
  refine m_iconst F (v := 2) (by decide) e_L_law_447 ?_
  refine m_iadd F e_L_law_448 ?_
  refine Wm.topE (w := nI (i + 2)) (nI_add i 2) ?_
  refine m_sld F (j := i + 2) e_L_law_449 hX hb (nI_clamp (by omega)) (vp_in_nI (by omega) (by omega)) ?_
  refine l_callC F e_L_law_450 (s_X9_amount (x_l X) V b M 1 T _ _ b (xs (i + 1)) (xs (i + 2)) hHT kA_b  (by omega)) cb_X9_amount ml_L_49 im_X9_amount se_X9_amount hHT rfl rfl (rest := []) rfl (Nat.le_of_ble_eq_true rfl) ⟨Nat.le_of_ble_eq_true rfl, Nat.le_of_ble_eq_true rfl⟩ (by omega) (by omega) (fun r σ11195 hp => ?_)
  obtain ⟨h11196, x11197, rfl⟩ := hp
  have h11198 := h11196.1
  have h11199 := hHR.keepL (fun a ha _ => h11196.2 a (by rw [show kA _ a = 0 from ha]; decide))
  have h11200 := (h11196.2 (b + 1480) (by rw [show kA _ (b + 1480) = 0 from kA_o]; decide)).trans hout
  refine m_pop2_2 F rfl e_L_law_453 ?_
  refine m_aload_n F rfl e_L_law_454 ?_
  refine m_aload_n F rfl e_L_law_455 ?_
  refine m_iload F rfl e_L_law_456 ?_
  refine m_iconst F (v := 1) (by decide) e_L_law_458 ?_
  refine m_iadd F e_L_law_459 ?_
  refine Wm.topE (w := nI (i + 1)) (nI_add i 1) ?_
  refine m_sld F (j := i + 1) e_L_law_460 hX hb (nI_clamp (by omega)) (vp_in_nI (by omega) (by omega)) ?_
  refine m_aload_n F rfl e_L_law_461 ?_
  refine m_iload F rfl e_L_law_462 ?_
  refine m_iconst F (v := 2) (by decide) e_L_law_464 ?_
  refine m_iadd F e_L_law_465 ?_
  refine Wm.topE (w := nI (i + 2)) (nI_add i 2) ?_
  refine m_sld F (j := i + 2) e_L_law_466 hX hb (nI_clamp (by omega)) (vp_in_nI (by omega) (by omega)) ?_
  refine l_callM F e_L_law_467 (q_X10_amount (x_l X) V (b + 1457) T 1 u h P L0_ _ _ (xs (i + 1)) (xs (i + 2)) h11199 hok.b hP ) cb_X10_amount ml_L_53 im_X10_amount se_X10_amount h11199 rfl rfl (rest := []) rfl (Nat.le_of_ble_eq_true rfl) ⟨Nat.le_of_ble_eq_true rfl, Nat.le_of_ble_eq_true rfl⟩ (by omega) (by omega) (fun r σ11201 hp => ?_)
  obtain ⟨h11202, x11203, rfl⟩ := hp
  have h11204 := h11202.1
  have h11205 := h11198.keepM (fun a ha => h11202.2 a (by rw [ha]; decide))
  have h11206 := (h11202.2 (b + 1480) (by rw [kC_0 (c := b + 1457) (by omega)]; decide)).trans h11200
  refine m_pop2_2 F rfl e_L_law_470 ?_
  refine m_goto F e_L_law_471 ?_
  exact hN _ M T _ _ _ (by omega) (by omega) (by omega) ⟨by omega, h11205, ⟨_, h11206⟩, u, h, P, L0_, ⟨hu, hh, hP, hkk, hm0, hw0, hok⟩, h11204⟩
set_option maxRecDepth 20000 in
theorem lc_7 {V : VX} {X : MX} {nm : String} {b sb N k z i L M T : Nat} {xs : Nat → Int32} {σ : Mem} (F : Fx V X (yLw nm) cL_law 7 ret room_1) (hX : va_X sb L xs (x_s X) V.2.2) (hb : sb < V.2.2.size) (hl : (x_l X).stackTraces = false) (hi : i + 6 ≤ L) (hL : L ≤ 3072) (hk : k ≤ 2100) (hz : z ≤ 80000) (hM : M ≤ 10000000) (hI : IV V b M T σ) (hN : ∀ (N' M' T' : Nat) (σ' : Mem) (k' z' : Nat), k' ≤ k + 1 → z' ≤ z + 6 → M' ≤ M + 10000 → IV V b M' T' σ' → Wm V X 7 N' σ' k' z' 1745 [(4, .int (nI i)), (3, .ref (b + 1480)), (2, .ref (b + 1457)), (1, .ref b), (0, .ref sb)] []) : Wm V X 7 N σ k z 474 [(4, .int (nI i)), (3, .ref (b + 1480)), (2, .ref (b + 1457)), (1, .ref b), (0, .ref sb)] [] := by
  obtain ⟨hT, hHT, ⟨z0, hout⟩, u, h, P, L0_, ⟨hu, hh, hP, hkk, hm0, hw0, hok⟩, hHR⟩ := hI
  refine m_aload_n F rfl e_L_law_474 ?_
  refine m_aload_n F rfl e_L_law_475 ?_
  refine m_iload F rfl e_L_law_476 ?_
  refine m_iconst F (v := 1) (by decide) e_L_law_478 ?_
  refine m_iadd F e_L_law_479 ?_
  refine Wm.topE (w := nI (i + 1)) (nI_add i 1) ?_
  refine m_sld F (j := i + 1) e_L_law_480 hX hb (nI_clamp (by omega)) (vp_in_nI (by omega) (by omega)) ?_
  refine m_aload_n F rfl e_L_law_481 ?_
  refine m_iload F rfl e_L_law_482 ?_
  refine m_iconst F (v := 2) (by decide) e_L_law_484 ?_
  refine m_iadd F e_L_law_485 ?_
  refine Wm.topE (w := nI (i + 2)) (nI_add i 2) ?_
  refine m_sld F (j := i + 2) e_L_law_486 hX hb (nI_clamp (by omega)) (vp_in_nI (by omega) (by omega)) ?_
  refine l_callC F e_L_law_487 (s_X9_due (x_l X) V b M 1 T _ _ b (xs (i + 1)) (xs (i + 2)) hHT kA_b  (by omega)) cb_X9_due ml_L_54 im_X9_due se_X9_due hHT rfl rfl (rest := []) rfl (Nat.le_of_ble_eq_true rfl) ⟨Nat.le_of_ble_eq_true rfl, Nat.le_of_ble_eq_true rfl⟩ (by omega) (by omega) (fun r σ11207 hp => ?_)
  obtain ⟨h11208, x11209, rfl⟩ := hp
  have h11210 := h11208.1
  have h11211 := hHR.keepL (fun a ha _ => h11208.2 a (by rw [show kA _ a = 0 from ha]; decide))
  have h11212 := (h11208.2 (b + 1480) (by rw [show kA _ (b + 1480) = 0 from kA_o]; decide)).trans hout
  refine m_pop2_2 F rfl e_L_law_490 ?_
  refine m_aload_n F rfl e_L_law_491 ?_
  refine m_aload_n F rfl e_L_law_492 ?_
  refine m_iload F rfl e_L_law_493 ?_
  refine m_iconst F (v := 1) (by decide) e_L_law_495 ?_
  refine m_iadd F e_L_law_496 ?_
  refine Wm.topE (w := nI (i + 1)) (nI_add i 1) ?_
  refine m_sld F (j := i + 1) e_L_law_497 hX hb (nI_clamp (by omega)) (vp_in_nI (by omega) (by omega)) ?_
  refine m_aload_n F rfl e_L_law_498 ?_
  refine m_iload F rfl e_L_law_499 ?_
  refine m_iconst F (v := 2) (by decide) e_L_law_501 ?_
  refine m_iadd F e_L_law_502 ?_
  refine Wm.topE (w := nI (i + 2)) (nI_add i 2) ?_
  refine m_sld F (j := i + 2) e_L_law_503 hX hb (nI_clamp (by omega)) (vp_in_nI (by omega) (by omega)) ?_
  refine l_callM F e_L_law_504 (q_X10_due (x_l X) V (b + 1457) T 1 u h P L0_ _ _ (xs (i + 1)) (xs (i + 2)) h11211 hok.b hP ) cb_X10_due ml_L_57 im_X10_due se_X10_due h11211 rfl rfl (rest := []) rfl (Nat.le_of_ble_eq_true rfl) ⟨Nat.le_of_ble_eq_true rfl, Nat.le_of_ble_eq_true rfl⟩ (by omega) (by omega) (fun r σ11213 hp => ?_)
  obtain ⟨h11214, x11215, rfl⟩ := hp
  have h11216 := h11214.1
  have h11217 := h11210.keepM (fun a ha => h11214.2 a (by rw [ha]; decide))
  have h11218 := (h11214.2 (b + 1480) (by rw [kC_0 (c := b + 1457) (by omega)]; decide)).trans h11212
  refine m_pop2_2 F rfl e_L_law_507 ?_
  refine m_goto F e_L_law_508 ?_
  exact hN _ M T _ _ _ (by omega) (by omega) (by omega) ⟨by omega, h11217, ⟨_, h11218⟩, u, h, P, L0_, ⟨hu, hh, hP, hkk, hm0, hw0, hok⟩, h11216⟩
set_option maxRecDepth 20000 in
theorem lc_8 {V : VX} {X : MX} {nm : String} {b sb N k z i L M T : Nat} {xs : Nat → Int32} {σ : Mem} (F : Fx V X (yLw nm) cL_law 7 ret room_1) (hX : va_X sb L xs (x_s X) V.2.2) (hb : sb < V.2.2.size) (hl : (x_l X).stackTraces = false) (hi : i + 6 ≤ L) (hL : L ≤ 3072) (hk : k ≤ 2100) (hz : z ≤ 80000) (hM : M ≤ 10000000) (hI : IV V b M T σ) (hN : ∀ (N' M' T' : Nat) (σ' : Mem) (k' z' : Nat), k' ≤ k + 1 → z' ≤ z + 6 → M' ≤ M + 10000 → IV V b M' T' σ' → Wm V X 7 N' σ' k' z' 1745 [(4, .int (nI i)), (3, .ref (b + 1480)), (2, .ref (b + 1457)), (1, .ref b), (0, .ref sb)] []) : Wm V X 7 N σ k z 511 [(4, .int (nI i)), (3, .ref (b + 1480)), (2, .ref (b + 1457)), (1, .ref b), (0, .ref sb)] [] := by
  obtain ⟨hT, hHT, ⟨z0, hout⟩, u, h, P, L0_, ⟨hu, hh, hP, hkk, hm0, hw0, hok⟩, hHR⟩ := hI
  refine m_aload_n F rfl e_L_law_511 ?_
  refine m_aload_n F rfl e_L_law_512 ?_
  refine m_iload F rfl e_L_law_513 ?_
  refine m_iconst F (v := 1) (by decide) e_L_law_515 ?_
  refine m_iadd F e_L_law_516 ?_
  refine Wm.topE (w := nI (i + 1)) (nI_add i 1) ?_
  refine m_sld F (j := i + 1) e_L_law_517 hX hb (nI_clamp (by omega)) (vp_in_nI (by omega) (by omega)) ?_
  refine m_aload_n F rfl e_L_law_518 ?_
  refine m_iload F rfl e_L_law_519 ?_
  refine m_iconst F (v := 2) (by decide) e_L_law_521 ?_
  refine m_iadd F e_L_law_522 ?_
  refine Wm.topE (w := nI (i + 2)) (nI_add i 2) ?_
  refine m_sld F (j := i + 2) e_L_law_523 hX hb (nI_clamp (by omega)) (vp_in_nI (by omega) (by omega)) ?_
  refine m_aload_n F rfl e_L_law_524 ?_
  refine m_iload F rfl e_L_law_525 ?_
  refine m_iconst F (v := 3) (by decide) e_L_law_527 ?_
  refine m_iadd F e_L_law_528 ?_
  refine Wm.topE (w := nI (i + 3)) (nI_add i 3) ?_
  refine m_sld F (j := i + 3) e_L_law_529 hX hb (nI_clamp (by omega)) (vp_in_nI (by omega) (by omega)) ?_
  refine l_callC F e_L_law_530 (s_X9_worth (x_l X) V b M 1 T _ _ b (xs (i + 1)) (xs (i + 2)) (xs (i + 3)) hHT kA_b  (by omega)) cb_X9_worth ml_L_58 im_X9_worth se_X9_worth hHT rfl rfl (rest := []) rfl (Nat.le_of_ble_eq_true rfl) ⟨Nat.le_of_ble_eq_true rfl, Nat.le_of_ble_eq_true rfl⟩ (by omega) (by omega) (fun r σ11219 hp => ?_)
  obtain ⟨h11220, x11221, rfl⟩ := hp
  have h11222 := h11220.1
  have h11223 := hHR.keepL (fun a ha _ => h11220.2 a (by rw [show kA _ a = 0 from ha]; decide))
  have h11224 := (h11220.2 (b + 1480) (by rw [show kA _ (b + 1480) = 0 from kA_o]; decide)).trans hout
  refine m_pop2_2 F rfl e_L_law_533 ?_
  refine m_aload_n F rfl e_L_law_534 ?_
  refine m_aload_n F rfl e_L_law_535 ?_
  refine m_iload F rfl e_L_law_536 ?_
  refine m_iconst F (v := 1) (by decide) e_L_law_538 ?_
  refine m_iadd F e_L_law_539 ?_
  refine Wm.topE (w := nI (i + 1)) (nI_add i 1) ?_
  refine m_sld F (j := i + 1) e_L_law_540 hX hb (nI_clamp (by omega)) (vp_in_nI (by omega) (by omega)) ?_
  refine m_aload_n F rfl e_L_law_541 ?_
  refine m_iload F rfl e_L_law_542 ?_
  refine m_iconst F (v := 2) (by decide) e_L_law_544 ?_
  refine m_iadd F e_L_law_545 ?_
  refine Wm.topE (w := nI (i + 2)) (nI_add i 2) ?_
  refine m_sld F (j := i + 2) e_L_law_546 hX hb (nI_clamp (by omega)) (vp_in_nI (by omega) (by omega)) ?_
  refine m_aload_n F rfl e_L_law_547 ?_
  refine m_iload F rfl e_L_law_548 ?_
  refine m_iconst F (v := 3) (by decide) e_L_law_550 ?_
  refine m_iadd F e_L_law_551 ?_
  refine Wm.topE (w := nI (i + 3)) (nI_add i 3) ?_
  refine m_sld F (j := i + 3) e_L_law_552 hX hb (nI_clamp (by omega)) (vp_in_nI (by omega) (by omega)) ?_
  refine l_callM F e_L_law_553 (q_X10_worth (x_l X) V (b + 1457) T 1 u h P L0_ _ _ (xs (i + 1)) (xs (i + 2)) (xs (i + 3)) h11223 hok.b hP ) cb_X10_worth ml_L_62 im_X10_worth se_X10_worth h11223 rfl rfl (rest := []) rfl (Nat.le_of_ble_eq_true rfl) ⟨Nat.le_of_ble_eq_true rfl, Nat.le_of_ble_eq_true rfl⟩ (by omega) (by omega) (fun r σ11225 hp => ?_)
  obtain ⟨h11226, x11227, rfl⟩ := hp
  have h11228 := h11226.1
  have h11229 := h11222.keepM (fun a ha => h11226.2 a (by rw [ha]; decide))
  have h11230 := (h11226.2 (b + 1480) (by rw [kC_0 (c := b + 1457) (by omega)]; decide)).trans h11224
  refine m_pop2_2 F rfl e_L_law_556 ?_
  refine m_goto F e_L_law_557 ?_
  exact hN _ M T _ _ _ (by omega) (by omega) (by omega) ⟨by omega, h11229, ⟨_, h11230⟩, u, h, P, L0_, ⟨hu, hh, hP, hkk, hm0, hw0, hok⟩, h11228⟩
set_option maxRecDepth 20000 in
theorem lc_9 {V : VX} {X : MX} {nm : String} {b sb N k z i L M T : Nat} {xs : Nat → Int32} {σ : Mem} (F : Fx V X (yLw nm) cL_law 7 ret room_1) (hX : va_X sb L xs (x_s X) V.2.2) (hb : sb < V.2.2.size) (hl : (x_l X).stackTraces = false) (hi : i + 6 ≤ L) (hL : L ≤ 3072) (hk : k ≤ 2100) (hz : z ≤ 80000) (hM : M ≤ 10000000) (hI : IV V b M T σ) (hN : ∀ (N' M' T' : Nat) (σ' : Mem) (k' z' : Nat), k' ≤ k + 1 → z' ≤ z + 6 → M' ≤ M + 10000 → IV V b M' T' σ' → Wm V X 7 N' σ' k' z' 1745 [(4, .int (nI i)), (3, .ref (b + 1480)), (2, .ref (b + 1457)), (1, .ref b), (0, .ref sb)] []) : Wm V X 7 N σ k z 560 [(4, .int (nI i)), (3, .ref (b + 1480)), (2, .ref (b + 1457)), (1, .ref b), (0, .ref sb)] [] := by
  obtain ⟨hT, hHT, ⟨z0, hout⟩, u, h, P, L0_, ⟨hu, hh, hP, hkk, hm0, hw0, hok⟩, hHR⟩ := hI
  refine m_aload_n F rfl e_L_law_560 ?_
  refine m_aload_n F rfl e_L_law_561 ?_
  refine m_iload F rfl e_L_law_562 ?_
  refine m_iconst F (v := 1) (by decide) e_L_law_564 ?_
  refine m_iadd F e_L_law_565 ?_
  refine Wm.topE (w := nI (i + 1)) (nI_add i 1) ?_
  refine m_sld F (j := i + 1) e_L_law_566 hX hb (nI_clamp (by omega)) (vp_in_nI (by omega) (by omega)) ?_
  refine l_callC F e_L_law_567 (s_X9_index (x_l X) V b M 1 T _ _ b (xs (i + 1)) hHT kA_b  (by omega)) cb_X9_index ml_L_63 im_X9_index se_X9_index hHT rfl rfl (rest := []) rfl (Nat.le_of_ble_eq_true rfl) ⟨Nat.le_of_ble_eq_true rfl, Nat.le_of_ble_eq_true rfl⟩ (by omega) (by omega) (fun r σ11231 hp => ?_)
  obtain ⟨h11232, x11233, rfl⟩ := hp
  have h11234 := h11232.1
  have h11235 := hHR.keepL (fun a ha _ => h11232.2 a (by rw [show kA _ a = 0 from ha]; decide))
  have h11236 := (h11232.2 (b + 1480) (by rw [show kA _ (b + 1480) = 0 from kA_o]; decide)).trans hout
  refine m_pop F rfl e_L_law_570 ?_
  refine m_aload_n F rfl e_L_law_571 ?_
  refine m_aload_n F rfl e_L_law_572 ?_
  refine m_iload F rfl e_L_law_573 ?_
  refine m_iconst F (v := 1) (by decide) e_L_law_575 ?_
  refine m_iadd F e_L_law_576 ?_
  refine Wm.topE (w := nI (i + 1)) (nI_add i 1) ?_
  refine m_sld F (j := i + 1) e_L_law_577 hX hb (nI_clamp (by omega)) (vp_in_nI (by omega) (by omega)) ?_
  refine l_callM F e_L_law_578 (q_X10_index (x_l X) V (b + 1457) T 1 u h P L0_ _ _ (xs (i + 1)) h11235 hok.b hP ) cb_X10_index ml_L_66 im_X10_index se_X10_index h11235 rfl rfl (rest := []) rfl (Nat.le_of_ble_eq_true rfl) ⟨Nat.le_of_ble_eq_true rfl, Nat.le_of_ble_eq_true rfl⟩ (by omega) (by omega) (fun r σ11237 hp => ?_)
  obtain ⟨h11238, x11239, rfl⟩ := hp
  have h11240 := h11238.1
  have h11241 := h11234.keepM (fun a ha => h11238.2 a (by rw [ha]; decide))
  have h11242 := (h11238.2 (b + 1480) (by rw [kC_0 (c := b + 1457) (by omega)]; decide)).trans h11236
  refine m_pop F rfl e_L_law_581 ?_
  refine m_goto F e_L_law_582 ?_
  exact hN _ M T _ _ _ (by omega) (by omega) (by omega) ⟨by omega, h11241, ⟨_, h11242⟩, u, h, P, L0_, ⟨hu, hh, hP, hkk, hm0, hw0, hok⟩, h11240⟩
set_option maxRecDepth 20000 in
theorem lc_10 {V : VX} {X : MX} {nm : String} {b sb N k z i L M T : Nat} {xs : Nat → Int32} {σ : Mem} (F : Fx V X (yLw nm) cL_law 7 ret room_1) (hX : va_X sb L xs (x_s X) V.2.2) (hb : sb < V.2.2.size) (hl : (x_l X).stackTraces = false) (hi : i + 6 ≤ L) (hL : L ≤ 3072) (hk : k ≤ 2100) (hz : z ≤ 80000) (hM : M ≤ 10000000) (hI : IV V b M T σ) (hN : ∀ (N' M' T' : Nat) (σ' : Mem) (k' z' : Nat), k' ≤ k + 1 → z' ≤ z + 6 → M' ≤ M + 10000 → IV V b M' T' σ' → Wm V X 7 N' σ' k' z' 1745 [(4, .int (nI i)), (3, .ref (b + 1480)), (2, .ref (b + 1457)), (1, .ref b), (0, .ref sb)] []) : Wm V X 7 N σ k z 585 [(4, .int (nI i)), (3, .ref (b + 1480)), (2, .ref (b + 1457)), (1, .ref b), (0, .ref sb)] [] := by
  obtain ⟨hT, hHT, ⟨z0, hout⟩, u, h, P, L0_, ⟨hu, hh, hP, hkk, hm0, hw0, hok⟩, hHR⟩ := hI
  refine m_aload_n F rfl e_L_law_585 ?_
  refine m_aload_n F rfl e_L_law_586 ?_
  refine m_iload F rfl e_L_law_587 ?_
  refine m_iconst F (v := 1) (by decide) e_L_law_589 ?_
  refine m_iadd F e_L_law_590 ?_
  refine Wm.topE (w := nI (i + 1)) (nI_add i 1) ?_
  refine m_sld F (j := i + 1) e_L_law_591 hX hb (nI_clamp (by omega)) (vp_in_nI (by omega) (by omega)) ?_
  refine l_callC F e_L_law_592 (s_X9_account (x_l X) V b M 1 T _ _ b (xs (i + 1)) hHT kA_b  (by omega)) cb_X9_account ml_L_67 im_X9_account se_X9_account hHT rfl rfl (rest := []) rfl (Nat.le_of_ble_eq_true rfl) ⟨Nat.le_of_ble_eq_true rfl, Nat.le_of_ble_eq_true rfl⟩ (by omega) (by omega) (fun r σ11243 hp => ?_)
  obtain ⟨h11244, x11245, rfl⟩ := hp
  have h11246 := h11244.1
  have h11247 := hHR.keepL (fun a ha _ => h11244.2 a (by rw [show kA _ a = 0 from ha]; decide))
  have h11248 := (h11244.2 (b + 1480) (by rw [show kA _ (b + 1480) = 0 from kA_o]; decide)).trans hout
  refine m_pop2_2 F rfl e_L_law_595 ?_
  refine m_aload_n F rfl e_L_law_596 ?_
  refine m_aload_n F rfl e_L_law_597 ?_
  refine m_iload F rfl e_L_law_598 ?_
  refine m_iconst F (v := 1) (by decide) e_L_law_600 ?_
  refine m_iadd F e_L_law_601 ?_
  refine Wm.topE (w := nI (i + 1)) (nI_add i 1) ?_
  refine m_sld F (j := i + 1) e_L_law_602 hX hb (nI_clamp (by omega)) (vp_in_nI (by omega) (by omega)) ?_
  refine l_callM F e_L_law_603 (q_X10_account (x_l X) V (b + 1457) T 1 u h P L0_ _ _ (xs (i + 1)) h11247 hok.b hP ) cb_X10_account ml_L_71 im_X10_account se_X10_account h11247 rfl rfl (rest := []) rfl (Nat.le_of_ble_eq_true rfl) ⟨Nat.le_of_ble_eq_true rfl, Nat.le_of_ble_eq_true rfl⟩ (by omega) (by omega) (fun r σ11249 hp => ?_)
  obtain ⟨h11250, x11251, rfl⟩ := hp
  have h11252 := h11250.1
  have h11253 := h11246.keepM (fun a ha => h11250.2 a (by rw [ha]; decide))
  have h11254 := (h11250.2 (b + 1480) (by rw [kC_0 (c := b + 1457) (by omega)]; decide)).trans h11248
  refine m_pop2_2 F rfl e_L_law_606 ?_
  refine m_goto F e_L_law_607 ?_
  exact hN _ M T _ _ _ (by omega) (by omega) (by omega) ⟨by omega, h11253, ⟨_, h11254⟩, u, h, P, L0_, ⟨hu, hh, hP, hkk, hm0, hw0, hok⟩, h11252⟩
set_option maxRecDepth 20000 in
theorem lc_11 {V : VX} {X : MX} {nm : String} {b sb N k z i L M T : Nat} {xs : Nat → Int32} {σ : Mem} (F : Fx V X (yLw nm) cL_law 7 ret room_1) (hX : va_X sb L xs (x_s X) V.2.2) (hb : sb < V.2.2.size) (hl : (x_l X).stackTraces = false) (hi : i + 6 ≤ L) (hL : L ≤ 3072) (hk : k ≤ 2100) (hz : z ≤ 80000) (hM : M ≤ 10000000) (hI : IV V b M T σ) (hN : ∀ (N' M' T' : Nat) (σ' : Mem) (k' z' : Nat), k' ≤ k + 1 → z' ≤ z + 6 → M' ≤ M + 10000 → IV V b M' T' σ' → Wm V X 7 N' σ' k' z' 1745 [(4, .int (nI i)), (3, .ref (b + 1480)), (2, .ref (b + 1457)), (1, .ref b), (0, .ref sb)] []) : Wm V X 7 N σ k z 610 [(4, .int (nI i)), (3, .ref (b + 1480)), (2, .ref (b + 1457)), (1, .ref b), (0, .ref sb)] [] := by
  obtain ⟨hT, hHT, ⟨z0, hout⟩, u, h, P, L0_, ⟨hu, hh, hP, hkk, hm0, hw0, hok⟩, hHR⟩ := hI
  refine m_aload_n F rfl e_L_law_610 ?_
  refine m_aload_n F rfl e_L_law_611 ?_
  refine m_iload F rfl e_L_law_612 ?_
  refine m_iconst F (v := 1) (by decide) e_L_law_614 ?_
  refine m_iadd F e_L_law_615 ?_
  refine Wm.topE (w := nI (i + 1)) (nI_add i 1) ?_
  refine m_sld F (j := i + 1) e_L_law_616 hX hb (nI_clamp (by omega)) (vp_in_nI (by omega) (by omega)) ?_
  refine m_aload_n F rfl e_L_law_617 ?_
  refine m_iload F rfl e_L_law_618 ?_
  refine m_iconst F (v := 2) (by decide) e_L_law_620 ?_
  refine m_iadd F e_L_law_621 ?_
  refine Wm.topE (w := nI (i + 2)) (nI_add i 2) ?_
  refine m_sld F (j := i + 2) e_L_law_622 hX hb (nI_clamp (by omega)) (vp_in_nI (by omega) (by omega)) ?_
  refine l_callC F e_L_law_623 (s_X9_entry (x_l X) V b M 1 T _ _ b (xs (i + 1)) (xs (i + 2)) hHT kA_b  (by omega)) cb_X9_entry ml_L_72 im_X9_entry se_X9_entry hHT rfl rfl (rest := []) rfl (Nat.le_of_ble_eq_true rfl) ⟨Nat.le_of_ble_eq_true rfl, Nat.le_of_ble_eq_true rfl⟩ (by omega) (by omega) (fun r σ11255 hp => ?_)
  obtain ⟨h11256, x11257, rfl⟩ := hp
  have h11258 := h11256.1
  have h11259 := hHR.keepL (fun a ha _ => h11256.2 a (by rw [show kA _ a = 0 from ha]; decide))
  have h11260 := (h11256.2 (b + 1480) (by rw [show kA _ (b + 1480) = 0 from kA_o]; decide)).trans hout
  refine m_pop2_2 F rfl e_L_law_626 ?_
  refine m_aload_n F rfl e_L_law_627 ?_
  refine m_aload_n F rfl e_L_law_628 ?_
  refine m_iload F rfl e_L_law_629 ?_
  refine m_iconst F (v := 1) (by decide) e_L_law_631 ?_
  refine m_iadd F e_L_law_632 ?_
  refine Wm.topE (w := nI (i + 1)) (nI_add i 1) ?_
  refine m_sld F (j := i + 1) e_L_law_633 hX hb (nI_clamp (by omega)) (vp_in_nI (by omega) (by omega)) ?_
  refine m_aload_n F rfl e_L_law_634 ?_
  refine m_iload F rfl e_L_law_635 ?_
  refine m_iconst F (v := 2) (by decide) e_L_law_637 ?_
  refine m_iadd F e_L_law_638 ?_
  refine Wm.topE (w := nI (i + 2)) (nI_add i 2) ?_
  refine m_sld F (j := i + 2) e_L_law_639 hX hb (nI_clamp (by omega)) (vp_in_nI (by omega) (by omega)) ?_
  refine l_callM F e_L_law_640 (q_X10_entry_ (x_l X) V (b + 1457) T 1 u h P L0_ _ _ (xs (i + 1)) (xs (i + 2)) h11259 hok.b hP ) cb_X10_entry_ ml_L_75 im_X10_entry_ se_X10_entry_ h11259 rfl rfl (rest := []) rfl (Nat.le_of_ble_eq_true rfl) ⟨Nat.le_of_ble_eq_true rfl, Nat.le_of_ble_eq_true rfl⟩ (by omega) (by omega) (fun r σ11261 hp => ?_)
  obtain ⟨h11262, x11263, rfl⟩ := hp
  have h11264 := h11262.1
  have h11265 := h11258.keepM (fun a ha => h11262.2 a (by rw [ha]; decide))
  have h11266 := (h11262.2 (b + 1480) (by rw [kC_0 (c := b + 1457) (by omega)]; decide)).trans h11260
  refine m_pop2_2 F rfl e_L_law_643 ?_
  refine m_goto F e_L_law_644 ?_
  exact hN _ M T _ _ _ (by omega) (by omega) (by omega) ⟨by omega, h11265, ⟨_, h11266⟩, u, h, P, L0_, ⟨hu, hh, hP, hkk, hm0, hw0, hok⟩, h11264⟩
set_option maxRecDepth 20000 in
theorem lc_12 {V : VX} {X : MX} {nm : String} {b sb N k z i L M T : Nat} {xs : Nat → Int32} {σ : Mem} (F : Fx V X (yLw nm) cL_law 7 ret room_1) (hX : va_X sb L xs (x_s X) V.2.2) (hb : sb < V.2.2.size) (hl : (x_l X).stackTraces = false) (hi : i + 6 ≤ L) (hL : L ≤ 3072) (hk : k ≤ 2100) (hz : z ≤ 80000) (hM : M ≤ 10000000) (hI : IV V b M T σ) (hN : ∀ (N' M' T' : Nat) (σ' : Mem) (k' z' : Nat), k' ≤ k + 1 → z' ≤ z + 6 → M' ≤ M + 10000 → IV V b M' T' σ' → Wm V X 7 N' σ' k' z' 1745 [(4, .int (nI i)), (3, .ref (b + 1480)), (2, .ref (b + 1457)), (1, .ref b), (0, .ref sb)] []) : Wm V X 7 N σ k z 647 [(4, .int (nI i)), (3, .ref (b + 1480)), (2, .ref (b + 1457)), (1, .ref b), (0, .ref sb)] [] := by
  obtain ⟨hT, hHT, ⟨z0, hout⟩, u, h, P, L0_, ⟨hu, hh, hP, hkk, hm0, hw0, hok⟩, hHR⟩ := hI
  refine m_aload_n F rfl e_L_law_647 ?_
  refine m_aload_n F rfl e_L_law_648 ?_
  refine m_iload F rfl e_L_law_649 ?_
  refine m_iconst F (v := 1) (by decide) e_L_law_651 ?_
  refine m_iadd F e_L_law_652 ?_
  refine Wm.topE (w := nI (i + 1)) (nI_add i 1) ?_
  refine m_sld F (j := i + 1) e_L_law_653 hX hb (nI_clamp (by omega)) (vp_in_nI (by omega) (by omega)) ?_
  refine m_aload_n F rfl e_L_law_654 ?_
  refine m_iload F rfl e_L_law_655 ?_
  refine m_iconst F (v := 2) (by decide) e_L_law_657 ?_
  refine m_iadd F e_L_law_658 ?_
  refine Wm.topE (w := nI (i + 2)) (nI_add i 2) ?_
  refine m_sld F (j := i + 2) e_L_law_659 hX hb (nI_clamp (by omega)) (vp_in_nI (by omega) (by omega)) ?_
  refine l_callC F e_L_law_660 (s_X9_rate (x_l X) V b M 1 T _ _ b (xs (i + 1)) (xs (i + 2)) hHT kA_b  (by omega)) cb_X9_rate ml_L_76 im_X9_rate se_X9_rate hHT rfl rfl (rest := []) rfl (Nat.le_of_ble_eq_true rfl) ⟨Nat.le_of_ble_eq_true rfl, Nat.le_of_ble_eq_true rfl⟩ (by omega) (by omega) (fun r σ11267 hp => ?_)
  obtain ⟨h11268, x11269, rfl⟩ := hp
  have h11270 := h11268.1
  have h11271 := hHR.keepL (fun a ha _ => h11268.2 a (by rw [show kA _ a = 0 from ha]; decide))
  have h11272 := (h11268.2 (b + 1480) (by rw [show kA _ (b + 1480) = 0 from kA_o]; decide)).trans hout
  refine m_pop2_2 F rfl e_L_law_663 ?_
  refine m_aload_n F rfl e_L_law_664 ?_
  refine m_aload_n F rfl e_L_law_665 ?_
  refine m_iload F rfl e_L_law_666 ?_
  refine m_iconst F (v := 1) (by decide) e_L_law_668 ?_
  refine m_iadd F e_L_law_669 ?_
  refine Wm.topE (w := nI (i + 1)) (nI_add i 1) ?_
  refine m_sld F (j := i + 1) e_L_law_670 hX hb (nI_clamp (by omega)) (vp_in_nI (by omega) (by omega)) ?_
  refine m_aload_n F rfl e_L_law_671 ?_
  refine m_iload F rfl e_L_law_672 ?_
  refine m_iconst F (v := 2) (by decide) e_L_law_674 ?_
  refine m_iadd F e_L_law_675 ?_
  refine Wm.topE (w := nI (i + 2)) (nI_add i 2) ?_
  refine m_sld F (j := i + 2) e_L_law_676 hX hb (nI_clamp (by omega)) (vp_in_nI (by omega) (by omega)) ?_
  refine l_callM F e_L_law_677 (q_X10_rate (x_l X) V (b + 1457) T 1 u h P L0_ _ _ (xs (i + 1)) (xs (i + 2)) h11271 hok hP (by first | omega | assumption) (by first | omega | assumption)) cb_X10_rate ml_L_79 im_X10_rate se_X10_rate h11271 rfl rfl (rest := []) rfl (Nat.le_of_ble_eq_true rfl) ⟨Nat.le_of_ble_eq_true rfl, Nat.le_of_ble_eq_true rfl⟩ (by omega) (by omega) (fun r σ11273 hp => ?_)
  obtain ⟨u11275, hu11275, L11276, okL11276, h11274, x11277, rfl⟩ := hp
  have h11278 := h11274.1
  have h11279 := h11270.keepM (fun a ha => h11274.2 a (by rw [ha]; decide))
  have h11280 := (h11274.2 (b + 1480) (by rw [kC_0 (c := b + 1457) (by omega)]; decide)).trans h11272
  refine m_pop2_2 F rfl e_L_law_680 ?_
  refine m_goto F e_L_law_681 ?_
  exact hN _ (M + 1) T _ _ _ (by omega) (by omega) (by omega) ⟨by omega, h11279, ⟨_, h11280⟩, u11275, h, P, L11276, ⟨hu11275, hh, hP, hkk, hm0, hw0, okL11276⟩, h11278⟩
set_option maxRecDepth 20000 in
theorem lc_13 {V : VX} {X : MX} {nm : String} {b sb N k z i L M T : Nat} {xs : Nat → Int32} {σ : Mem} (F : Fx V X (yLw nm) cL_law 7 ret room_1) (hX : va_X sb L xs (x_s X) V.2.2) (hb : sb < V.2.2.size) (hl : (x_l X).stackTraces = false) (hi : i + 6 ≤ L) (hL : L ≤ 3072) (hk : k ≤ 2100) (hz : z ≤ 80000) (hM : M ≤ 10000000) (hI : IV V b M T σ) (hN : ∀ (N' M' T' : Nat) (σ' : Mem) (k' z' : Nat), k' ≤ k + 1 → z' ≤ z + 6 → M' ≤ M + 10000 → IV V b M' T' σ' → Wm V X 7 N' σ' k' z' 1745 [(4, .int (nI i)), (3, .ref (b + 1480)), (2, .ref (b + 1457)), (1, .ref b), (0, .ref sb)] []) : Wm V X 7 N σ k z 684 [(4, .int (nI i)), (3, .ref (b + 1480)), (2, .ref (b + 1457)), (1, .ref b), (0, .ref sb)] [] := by
  obtain ⟨hT, hHT, ⟨z0, hout⟩, u, h, P, L0_, ⟨hu, hh, hP, hkk, hm0, hw0, hok⟩, hHR⟩ := hI
  refine m_aload_n F rfl e_L_law_684 ?_
  refine m_aload_n F rfl e_L_law_685 ?_
  refine m_iload F rfl e_L_law_686 ?_
  refine m_iconst F (v := 1) (by decide) e_L_law_688 ?_
  refine m_iadd F e_L_law_689 ?_
  refine Wm.topE (w := nI (i + 1)) (nI_add i 1) ?_
  refine m_sld F (j := i + 1) e_L_law_690 hX hb (nI_clamp (by omega)) (vp_in_nI (by omega) (by omega)) ?_
  refine m_aload_n F rfl e_L_law_691 ?_
  refine m_iload F rfl e_L_law_692 ?_
  refine m_iconst F (v := 2) (by decide) e_L_law_694 ?_
  refine m_iadd F e_L_law_695 ?_
  refine Wm.topE (w := nI (i + 2)) (nI_add i 2) ?_
  refine m_sld F (j := i + 2) e_L_law_696 hX hb (nI_clamp (by omega)) (vp_in_nI (by omega) (by omega)) ?_
  refine l_callC F e_L_law_697 (s_X9_extend (x_l X) V b M 1 T _ _ b (xs (i + 1)) (xs (i + 2)) hHT kA_b  (by omega)) cb_X9_extend ml_L_80 im_X9_extend se_X9_extend hHT rfl rfl (rest := []) rfl (Nat.le_of_ble_eq_true rfl) ⟨Nat.le_of_ble_eq_true rfl, Nat.le_of_ble_eq_true rfl⟩ (by omega) (by omega) (fun r σ11281 hp => ?_)
  obtain ⟨h11282, x11283, rfl⟩ := hp
  have h11284 := h11282.1
  have h11285 := hHR.keepL (fun a ha _ => h11282.2 a (by rw [show kA _ a = 0 from ha]; decide))
  have h11286 := (h11282.2 (b + 1480) (by rw [show kA _ (b + 1480) = 0 from kA_o]; decide)).trans hout
  refine m_pop2_2 F rfl e_L_law_700 ?_
  refine m_aload_n F rfl e_L_law_701 ?_
  refine m_aload_n F rfl e_L_law_702 ?_
  refine m_iload F rfl e_L_law_703 ?_
  refine m_iconst F (v := 1) (by decide) e_L_law_705 ?_
  refine m_iadd F e_L_law_706 ?_
  refine Wm.topE (w := nI (i + 1)) (nI_add i 1) ?_
  refine m_sld F (j := i + 1) e_L_law_707 hX hb (nI_clamp (by omega)) (vp_in_nI (by omega) (by omega)) ?_
  refine m_aload_n F rfl e_L_law_708 ?_
  refine m_iload F rfl e_L_law_709 ?_
  refine m_iconst F (v := 2) (by decide) e_L_law_711 ?_
  refine m_iadd F e_L_law_712 ?_
  refine Wm.topE (w := nI (i + 2)) (nI_add i 2) ?_
  refine m_sld F (j := i + 2) e_L_law_713 hX hb (nI_clamp (by omega)) (vp_in_nI (by omega) (by omega)) ?_
  refine l_callM F e_L_law_714 (q_X10_extend (x_l X) V (b + 1457) T 1 u h P L0_ _ _ (xs (i + 1)) (xs (i + 2)) h11285 hok hP (by first | omega | assumption) (by first | omega | assumption)) cb_X10_extend ml_L_83 im_X10_extend se_X10_extend h11285 rfl rfl (rest := []) rfl (Nat.le_of_ble_eq_true rfl) ⟨Nat.le_of_ble_eq_true rfl, Nat.le_of_ble_eq_true rfl⟩ (by omega) (by omega) (fun r σ11287 hp => ?_)
  obtain ⟨u11289, hu11289, L11290, okL11290, h11288, x11291, rfl⟩ := hp
  have h11292 := h11288.1
  have h11293 := h11284.keepM (fun a ha => h11288.2 a (by rw [ha]; decide))
  have h11294 := (h11288.2 (b + 1480) (by rw [kC_0 (c := b + 1457) (by omega)]; decide)).trans h11286
  refine m_pop2_2 F rfl e_L_law_717 ?_
  refine m_goto F e_L_law_718 ?_
  exact hN _ (M + 1) T _ _ _ (by omega) (by omega) (by omega) ⟨by omega, h11293, ⟨_, h11294⟩, u11289, h, P, L11290, ⟨hu11289, hh, hP, hkk, hm0, hw0, okL11290⟩, h11292⟩
