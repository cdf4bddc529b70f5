set_option maxRecDepth 20000 in
theorem lc_5 {V : VX} {X : MX} {nm : String} {b sb N sa : Nat} {xs : Nat → Int32} {σ : Mem} (F : Fx V X (yLw nm) cL_law 7 ret room_1) (hQ : QW X) (hH : V.2.2 = (x_s X).heap) (hX : va_X sb 6 xs (x_s X) V.2.2) (hb : sb < V.2.2.size) (hl : (x_l X).stackTraces = false) (hT : TW V sa (x_s X)) (hZ : LLz V σ b) (hM : MZ V σ (b + 1457)) : Wm V X 7 N σ 1481 70582 397 [(4, .int 0), (3, .ref (b + 1480)), (2, .ref (b + 1457)), (1, .ref b), (0, .ref sb)] [] := by
  refine m_aload_n F rfl e_L_law_397 ?_
  refine m_aload_n F rfl e_L_law_398 ?_
  refine m_iload F rfl e_L_law_399 ?_
  refine m_iconst F (v := 1) (by decide) e_L_law_401 ?_
  refine m_iadd F e_L_law_402 ?_
  refine Wm.topE (w := 1) (by decide) ?_
  refine m_sld F (j := 1) e_L_law_403 hX hb (by decide) (by unfold vp_in; decide) ?_
  refine m_aload_n F rfl e_L_law_404 ?_
  refine m_iload F rfl e_L_law_405 ?_
  refine m_iconst F (v := 2) (by decide) e_L_law_407 ?_
  refine m_iadd F e_L_law_408 ?_
  refine Wm.topE (w := 2) (by decide) ?_
  refine m_sld F (j := 2) e_L_law_409 hX hb (by decide) (by unfold vp_in; decide) ?_
  refine m_aload_n F rfl e_L_law_410 ?_
  refine m_callSX F e_L_law_411 (k_Llease (x_l X) hl V _ _ b sa (b + 1480) (xs 1) (xs 2) hZ) hT ml_L_43 rfl (rest := []) rfl (Nat.le_of_ble_eq_true rfl) ⟨Nat.le_of_ble_eq_true rfl, Nat.le_of_ble_eq_true rfl⟩ ⟨Nat.le_of_ble_eq_true rfl, Nat.le_of_ble_eq_true rfl⟩ (fun N' => ?_)
  refine m_istore F (lv' := [(5, .int 1), (4, .int 0), (3, .ref (b + 1480)), (2, .ref (b + 1457)), (1, .ref b), (0, .ref sb)]) e_L_law_414 (by decide) rfl ?_
  refine m_aload_n F rfl e_L_law_416 ?_
  refine m_aload_n F rfl e_L_law_417 ?_
  refine m_iload F rfl e_L_law_418 ?_
  refine m_iconst F (v := 1) (by decide) e_L_law_420 ?_
  refine m_iadd F e_L_law_421 ?_
  refine Wm.topE (w := 1) (by decide) ?_
  refine m_sld F (j := 1) e_L_law_422 hX hb (by decide) (by unfold vp_in; decide) ?_
  refine m_aload_n F rfl e_L_law_423 ?_
  refine m_iload F rfl e_L_law_424 ?_
  refine m_iconst F (v := 2) (by decide) e_L_law_426 ?_
  refine m_iadd F e_L_law_427 ?_
  refine Wm.topE (w := 2) (by decide) ?_
  refine m_sld F (j := 2) e_L_law_428 hX hb (by decide) (by unfold vp_in; decide) ?_
  refine m_callV F e_L_law_429 (n_lease (x_l X) V _ _ (b + 1457) (xs 1) (xs 2) hM) cb_X10_lease ml_L_48 im_X10_lease se_X10_lease hM.1 rfl rfl (rest := []) rfl (Nat.le_of_ble_eq_true rfl) ⟨Nat.le_of_ble_eq_true rfl, Nat.le_of_ble_eq_true rfl⟩ ⟨Nat.le_of_ble_eq_true rfl, Nat.le_of_ble_eq_true rfl⟩ (k' := 1482) (z' := 70588) (N' := N') rfl rfl rfl (fun r τ2 hp => ?_)
  obtain ⟨rfl, h9⟩ := hp
  refine m_istore F (lv' := [(6, .int 0), (5, .int 1), (4, .int 0), (3, .ref (b + 1480)), (2, .ref (b + 1457)), (1, .ref b), (0, .ref sb)]) e_L_law_432 (by decide) rfl ?_
  refine m_aload_n F rfl e_L_law_434 ?_
  refine m_callV F e_L_law_435 (n_thrown (x_l X) V _ _ (b + 1457) 1 h9) cb_X10_thrown ml_L_49 im_X10_thrown se_X10_thrown h9 rfl rfl (rest := []) rfl (Nat.le_of_ble_eq_true rfl) ⟨Nat.le_of_ble_eq_true rfl, Nat.le_of_ble_eq_true rfl⟩ ⟨Nat.le_of_ble_eq_true rfl, Nat.le_of_ble_eq_true rfl⟩ (k' := 1482) (z' := 70588) (N' := N') rfl rfl rfl (fun r τ3 hp => ?_)
  subst hp
  refine m_iload F rfl e_L_law_438 ?_
  refine m_icmp_eq F e_L_law_440 (fun _ => ?_) (fun q => absurd (by decide) q)
  refine m_iload F rfl e_L_law_445 ?_
  refine m_if_ne F e_L_law_447 (fun _ => ?_) (fun q => absurd q (by decide))
  refine m_goto F e_L_law_462 ?_
  refine Wm.lvsub (lv' := [(4, .int 0), (3, .ref (b + 1480)), (2, .ref (b + 1457)), (1, .ref b), (0, .ref sb)]) ?_ [2, 3, 4, 5, 6] rfl
  exact m_lbreak F hQ hH hX hb (Nat.le_of_ble_eq_true rfl) (Nat.le_of_ble_eq_true rfl)
set_option maxRecDepth 20000 in
theorem lc_0 {V : VX} {X : MX} {nm : String} {b sb N sa : Nat} {xs : Nat → Int32} {σ : Mem} (F : Fx V X (yLw nm) cL_law 7 ret room_1) (hQ : QW X) (hH : V.2.2 = (x_s X).heap) (hX : va_X sb 6 xs (x_s X) V.2.2) (hb : sb < V.2.2.size) (hl : (x_l X).stackTraces = false) (hT : TW V sa (x_s X)) (hZ : LLz V σ b) (hM : MZ V σ (b + 1457)) : Wm V X 7 N σ 1481 70582 224 [(4, .int 0), (3, .ref (b + 1480)), (2, .ref (b + 1457)), (1, .ref b), (0, .ref sb)] [] := by
  refine m_aload_n F rfl e_L_law_224 ?_
  refine m_aload_n F rfl e_L_law_225 ?_
  refine m_iload F rfl e_L_law_226 ?_
  refine m_iconst F (v := 1) (by decide) e_L_law_228 ?_
  refine m_iadd F e_L_law_229 ?_
  refine Wm.topE (w := 1) (by decide) ?_
  refine m_sld F (j := 1) e_L_law_230 hX hb (by decide) (by unfold vp_in; decide) ?_
  refine m_aload_n F rfl e_L_law_231 ?_
  refine m_iload F rfl e_L_law_232 ?_
  refine m_iconst F (v := 2) (by decide) e_L_law_234 ?_
  refine m_iadd F e_L_law_235 ?_
  refine Wm.topE (w := 2) (by decide) ?_
  refine m_sld F (j := 2) e_L_law_236 hX hb (by decide) (by unfold vp_in; decide) ?_
  refine m_aload_n F rfl e_L_law_237 ?_
  refine m_iload F rfl e_L_law_238 ?_
  refine m_iconst F (v := 3) (by decide) e_L_law_240 ?_
  refine m_iadd F e_L_law_241 ?_
  refine Wm.topE (w := 3) (by decide) ?_
  refine m_sld F (j := 3) e_L_law_242 hX hb (by decide) (by unfold vp_in; decide) ?_
  refine m_aload_n F rfl e_L_law_243 ?_
  refine m_iload F rfl e_L_law_244 ?_
  refine m_iconst F (v := 4) (by decide) e_L_law_246 ?_
  refine m_iadd F e_L_law_247 ?_
  refine Wm.topE (w := 4) (by decide) ?_
  refine m_sld F (j := 4) e_L_law_248 hX hb (by decide) (by unfold vp_in; decide) ?_
  refine m_aload_n F rfl e_L_law_249 ?_
  refine m_iload F rfl e_L_law_250 ?_
  refine m_iconst F (v := 5) (by decide) e_L_law_252 ?_
  refine m_iadd F e_L_law_253 ?_
  refine Wm.topE (w := 5) (by decide) ?_
  refine m_sld F (j := 5) e_L_law_254 hX hb (by decide) (by unfold vp_in; decide) ?_
  refine m_callV F e_L_law_255 (ldg_feed (x_l X) V _ _ b (xs 1) (xs 2) (xs 3) (xs 4) (xs 5) hZ) cb_X9_feed ml_L_21 im_X9_feed se_X9_feed hZ.1 rfl rfl (rest := []) rfl (Nat.le_of_ble_eq_true rfl) ⟨Nat.le_of_ble_eq_true rfl, Nat.le_of_ble_eq_true rfl⟩ ⟨Nat.le_of_ble_eq_true rfl, Nat.le_of_ble_eq_true rfl⟩ (k' := 1481) (z' := 70582) (N' := N) rfl rfl rfl (fun r τ1 hp => ?_)
  obtain ⟨rfl, hfr⟩ := hp
  replace hM : MZ V τ1 (b + 1457) := hM.keep (fun x g1 _ => hfr x g1)
  refine m_aload_n F rfl e_L_law_258 ?_
  refine m_aload_n F rfl e_L_law_259 ?_
  refine m_iload F rfl e_L_law_260 ?_
  refine m_iconst F (v := 1) (by decide) e_L_law_262 ?_
  refine m_iadd F e_L_law_263 ?_
  refine Wm.topE (w := 1) (by decide) ?_
  refine m_sld F (j := 1) e_L_law_264 hX hb (by decide) (by unfold vp_in; decide) ?_
  refine m_aload_n F rfl e_L_law_265 ?_
  refine m_iload F rfl e_L_law_266 ?_
  refine m_iconst F (v := 2) (by decide) e_L_law_268 ?_
  refine m_iadd F e_L_law_269 ?_
  refine Wm.topE (w := 2) (by decide) ?_
  refine m_sld F (j := 2) e_L_law_270 hX hb (by decide) (by unfold vp_in; decide) ?_
  refine m_aload_n F rfl e_L_law_271 ?_
  refine m_iload F rfl e_L_law_272 ?_
  refine m_iconst F (v := 3) (by decide) e_L_law_274 ?_
  refine m_iadd F e_L_law_275 ?_
  refine Wm.topE (w := 3) (by decide) ?_
  refine m_sld F (j := 3) e_L_law_276 hX hb (by decide) (by unfold vp_in; decide) ?_
  refine m_aload_n F rfl e_L_law_277 ?_
  refine m_iload F rfl e_L_law_278 ?_
  refine m_iconst F (v := 4) (by decide) e_L_law_280 ?_
  refine m_iadd F e_L_law_281 ?_
  refine Wm.topE (w := 4) (by decide) ?_
  refine m_sld F (j := 4) e_L_law_282 hX hb (by decide) (by unfold vp_in; decide) ?_
  refine m_aload_n F rfl e_L_law_283 ?_
  refine m_iload F rfl e_L_law_284 ?_
  refine m_iconst F (v := 5) (by decide) e_L_law_286 ?_
  refine m_iadd F e_L_law_287 ?_
  refine Wm.topE (w := 5) (by decide) ?_
  refine m_sld F (j := 5) e_L_law_288 hX hb (by decide) (by unfold vp_in; decide) ?_
  refine m_callV F e_L_law_289 (n_feed (x_l X) V _ _ (b + 1457) (xs 1) (xs 2) (xs 3) (xs 4) (xs 5) hM) cb_X10_feed ml_L_25 im_X10_feed se_X10_feed hM.1 rfl rfl (rest := [.int 20]) rfl (Nat.le_of_ble_eq_true rfl) ⟨Nat.le_of_ble_eq_true rfl, Nat.le_of_ble_eq_true rfl⟩ ⟨Nat.le_of_ble_eq_true rfl, Nat.le_of_ble_eq_true rfl⟩ (k' := 1481) (z' := 70582) (N' := N) rfl rfl rfl (fun r τ2 hp => ?_)
  subst hp
  refine m_icmp_eq F e_L_law_292 (fun _ => ?_) (fun q => absurd (by decide) q)
  exact m_lbreak F hQ hH hX hb (Nat.le_of_ble_eq_true rfl) (Nat.le_of_ble_eq_true rfl)
set_option maxRecDepth 20000 in
theorem lc_1 {V : VX} {X : MX} {nm : String} {b sb N sa : Nat} {xs : Nat → Int32} {σ : Mem} (F : Fx V X (yLw nm) cL_law 7 ret room_1) (hQ : QW X) (hH : V.2.2 = (x_s X).heap) (hX : va_X sb 6 xs (x_s X) V.2.2) (hb : sb < V.2.2.size) (hl : (x_l X).stackTraces = false) (hT : TW V sa (x_s X)) (hZ : LLz V σ b) (hM : MZ V σ (b + 1457)) : Wm V X 7 N σ 1481 70582 297 [(4, .int 0), (3, .ref (b + 1480)), (2, .ref (b + 1457)), (1, .ref b), (0, .ref sb)] [] := by
  refine m_aload_n F rfl e_L_law_297 ?_
  refine m_aload_n F rfl e_L_law_298 ?_
  refine m_iload F rfl e_L_law_299 ?_
  refine m_iconst F (v := 1) (by decide) e_L_law_301 ?_
  refine m_iadd F e_L_law_302 ?_
  refine Wm.topE (w := 1) (by decide) ?_
  refine m_sld F (j := 1) e_L_law_303 hX hb (by decide) (by unfold vp_in; decide) ?_
  refine m_callV F e_L_law_304 (ldg_text (x_l X) V _ _ b (xs 1) hZ) cb_X9_text ml_L_26 im_X9_text se_X9_text hZ.1 rfl rfl (rest := []) rfl (Nat.le_of_ble_eq_true rfl) ⟨Nat.le_of_ble_eq_true rfl, Nat.le_of_ble_eq_true rfl⟩ ⟨Nat.le_of_ble_eq_true rfl, Nat.le_of_ble_eq_true rfl⟩ (k' := 1481) (z' := 70582) (N' := N) rfl rfl rfl (fun r τ1 hp => ?_)
  obtain ⟨rfl, hfr⟩ := hp
  replace hM : MZ V τ1 (b + 1457) := hM.keep (fun x g1 _ => hfr x g1)
  refine m_aload_n F rfl e_L_law_307 ?_
  refine m_aload_n F rfl e_L_law_308 ?_
  refine m_iload F rfl e_L_law_309 ?_
  refine m_iconst F (v := 1) (by decide) e_L_law_311 ?_
  refine m_iadd F e_L_law_312 ?_
  refine Wm.topE (w := 1) (by decide) ?_
  refine m_sld F (j := 1) e_L_law_313 hX hb (by decide) (by unfold vp_in; decide) ?_
  refine m_callV F e_L_law_314 (n_text (x_l X) V _ _ (b + 1457) (xs 1) hM) cb_X10_text ml_L_30 im_X10_text se_X10_text hM.1 rfl rfl (rest := [.int (if (xs 1) < 0 ∨ 0 < (xs 1) then -2 else 0)]) rfl (Nat.le_of_ble_eq_true rfl) ⟨Nat.le_of_ble_eq_true rfl, Nat.le_of_ble_eq_true rfl⟩ ⟨Nat.le_of_ble_eq_true rfl, Nat.le_of_ble_eq_true rfl⟩ (k' := 1481) (z' := 70582) (N' := N) rfl rfl rfl (fun r τ2 hp => ?_)
  subst hp
  refine m_icmp_eq F e_L_law_317 (fun _ => ?_) (fun q => absurd rfl q)
  exact m_lbreak F hQ hH hX hb (Nat.le_of_ble_eq_true rfl) (Nat.le_of_ble_eq_true rfl)
set_option maxRecDepth 20000 in
theorem lc_2 {V : VX} {X : MX} {nm : String} {b sb N sa : Nat} {xs : Nat → Int32} {σ : Mem} (F : Fx V X (yLw nm) cL_law 7 ret room_1) (hQ : QW X) (hH : V.2.2 = (x_s X).heap) (hX : va_X sb 6 xs (x_s X) V.2.2) (hb : sb < V.2.2.size) (hl : (x_l X).stackTraces = false) (hT : TW V sa (x_s X)) (hZ : LLz V σ b) (hM : MZ V σ (b + 1457)) : Wm V X 7 N σ 1481 70582 322 [(4, .int 0), (3, .ref (b + 1480)), (2, .ref (b + 1457)), (1, .ref b), (0, .ref sb)] [] := by
  refine m_aload_n F rfl e_L_law_322 ?_
  refine m_aload_n F rfl e_L_law_323 ?_
  refine m_iload F rfl e_L_law_324 ?_
  refine m_iconst F (v := 1) (by decide) e_L_law_326 ?_
  refine m_iadd F e_L_law_327 ?_
  refine Wm.topE (w := 1) (by decide) ?_
  refine m_sld F (j := 1) e_L_law_328 hX hb (by decide) (by unfold vp_in; decide) ?_
  refine m_callV F e_L_law_329 (ldg_fault (x_l X) V _ _ b (xs 1) hZ) cb_X9_fault ml_L_31 im_X9_fault se_X9_fault hZ.1 rfl rfl (rest := []) rfl (Nat.le_of_ble_eq_true rfl) ⟨Nat.le_of_ble_eq_true rfl, Nat.le_of_ble_eq_true rfl⟩ ⟨Nat.le_of_ble_eq_true rfl, Nat.le_of_ble_eq_true rfl⟩ (k' := 1481) (z' := 70582) (N' := N) rfl rfl rfl (fun r τ1 hp => ?_)
  obtain ⟨rfl, hfr⟩ := hp
  replace hM : MZ V τ1 (b + 1457) := hM.keep (fun x g1 _ => hfr x g1)
  refine m_aload_n F rfl e_L_law_332 ?_
  refine m_aload_n F rfl e_L_law_333 ?_
  refine m_iload F rfl e_L_law_334 ?_
  refine m_iconst F (v := 1) (by decide) e_L_law_336 ?_
  refine m_iadd F e_L_law_337 ?_
  refine Wm.topE (w := 1) (by decide) ?_
  refine m_sld F (j := 1) e_L_law_338 hX hb (by decide) (by unfold vp_in; decide) ?_
  refine m_callV F e_L_law_339 (n_fault (x_l X) V _ _ (b + 1457) (xs 1) hM) cb_X10_fault ml_L_34 im_X10_fault se_X10_fault hM.1 rfl rfl (rest := [.int (if (xs 1) = 0 then 0 else -1)]) rfl (Nat.le_of_ble_eq_true rfl) ⟨Nat.le_of_ble_eq_true rfl, Nat.le_of_ble_eq_true rfl⟩ ⟨Nat.le_of_ble_eq_true rfl, Nat.le_of_ble_eq_true rfl⟩ (k' := 1481) (z' := 70582) (N' := N) rfl rfl rfl (fun r τ2 hp => ?_)
  subst hp
  refine m_icmp_eq F e_L_law_342 (fun _ => ?_) (fun q => absurd rfl q)
  exact m_lbreak F hQ hH hX hb (Nat.le_of_ble_eq_true rfl) (Nat.le_of_ble_eq_true rfl)
set_option maxRecDepth 20000 in
theorem lc_3 {V : VX} {X : MX} {nm : String} {b sb N sa : Nat} {xs : Nat → Int32} {σ : Mem} (F : Fx V X (yLw nm) cL_law 7 ret room_1) (hQ : QW X) (hH : V.2.2 = (x_s X).heap) (hX : va_X sb 6 xs (x_s X) V.2.2) (hb : sb < V.2.2.size) (hl : (x_l X).stackTraces = false) (hT : TW V sa (x_s X)) (hZ : LLz V σ b) (hM : MZ V σ (b + 1457)) : Wm V X 7 N σ 1481 70582 347 [(4, .int 0), (3, .ref (b + 1480)), (2, .ref (b + 1457)), (1, .ref b), (0, .ref sb)] [] := by
  refine m_aload_n F rfl e_L_law_347 ?_
  refine m_aload_n F rfl e_L_law_348 ?_
  refine m_iload F rfl e_L_law_349 ?_
  refine m_iconst F (v := 1) (by decide) e_L_law_351 ?_
  refine m_iadd F e_L_law_352 ?_
  refine Wm.topE (w := 1) (by decide) ?_
  refine m_sld F (j := 1) e_L_law_353 hX hb (by decide) (by unfold vp_in; decide) ?_
  refine m_callV F e_L_law_354 (ldg_named (x_l X) V _ _ b (xs 1) hZ) cb_X9_named ml_L_35 im_X9_named se_X9_named hZ.1 rfl rfl (rest := []) rfl (Nat.le_of_ble_eq_true rfl) ⟨Nat.le_of_ble_eq_true rfl, Nat.le_of_ble_eq_true rfl⟩ ⟨Nat.le_of_ble_eq_true rfl, Nat.le_of_ble_eq_true rfl⟩ (k' := 1481) (z' := 70582) (N' := N) rfl rfl rfl (fun r τ1 hp => ?_)
  obtain ⟨rfl, hfr⟩ := hp
  replace hM : MZ V τ1 (b + 1457) := hM.keep (fun x g1 _ => hfr x g1)
  refine m_aload_n F rfl e_L_law_357 ?_
  refine m_aload_n F rfl e_L_law_358 ?_
  refine m_iload F rfl e_L_law_359 ?_
  refine m_iconst F (v := 1) (by decide) e_L_law_361 ?_
  refine m_iadd F e_L_law_362 ?_
  refine Wm.topE (w := 1) (by decide) ?_
  refine m_sld F (j := 1) e_L_law_363 hX hb (by decide) (by unfold vp_in; decide) ?_
  refine m_callV F e_L_law_364 (n_named (x_l X) V _ _ (b + 1457) (xs 1) hM) cb_X10_named ml_L_38 im_X10_named se_X10_named hM.1 rfl rfl (rest := [.int (-1)]) rfl (Nat.le_of_ble_eq_true rfl) ⟨Nat.le_of_ble_eq_true rfl, Nat.le_of_ble_eq_true rfl⟩ ⟨Nat.le_of_ble_eq_true rfl, Nat.le_of_ble_eq_true rfl⟩ (k' := 1481) (z' := 70582) (N' := N) rfl rfl rfl (fun r τ2 hp => ?_)
  subst hp
  refine m_icmp_eq F e_L_law_367 (fun _ => ?_) (fun q => absurd (by decide) q)
  exact m_lbreak F hQ hH hX hb (Nat.le_of_ble_eq_true rfl) (Nat.le_of_ble_eq_true rfl)
set_option maxRecDepth 20000 in
theorem lc_4 {V : VX} {X : MX} {nm : String} {b sb N sa : Nat} {xs : Nat → Int32} {σ : Mem} (F : Fx V X (yLw nm) cL_law 7 ret room_1) (hQ : QW X) (hH : V.2.2 = (x_s X).heap) (hX : va_X sb 6 xs (x_s X) V.2.2) (hb : sb < V.2.2.size) (hl : (x_l X).stackTraces = false) (hT : TW V sa (x_s X)) (hZ : LLz V σ b) (hM : MZ V σ (b + 1457)) : Wm V X 7 N σ 1481 70582 372 [(4, .int 0), (3, .ref (b + 1480)), (2, .ref (b + 1457)), (1, .ref b), (0, .ref sb)] [] := by
  refine m_aload_n F rfl e_L_law_372 ?_
  refine m_aload_n F rfl e_L_law_373 ?_
  refine m_iload F rfl e_L_law_374 ?_
  refine m_iconst F (v := 1) (by decide) e_L_law_376 ?_
  refine m_iadd F e_L_law_377 ?_
  refine Wm.topE (w := 1) (by decide) ?_
  refine m_sld F (j := 1) e_L_law_378 hX hb (by decide) (by unfold vp_in; decide) ?_
  refine m_callV F e_L_law_379 (ldg_go (x_l X) V _ _ b (xs 1) hZ) cb_X9_go ml_L_39 im_X9_go se_X9_go hZ.1 rfl rfl (rest := []) rfl (Nat.le_of_ble_eq_true rfl) ⟨Nat.le_of_ble_eq_true rfl, Nat.le_of_ble_eq_true rfl⟩ ⟨Nat.le_of_ble_eq_true rfl, Nat.le_of_ble_eq_true rfl⟩ (k' := 1481) (z' := 70582) (N' := N) rfl rfl rfl (fun r τ1 hp => ?_)
  obtain ⟨rfl, hfr⟩ := hp
  replace hM : MZ V τ1 (b + 1457) := hM.keep (fun x g1 _ => hfr x g1)
  refine m_aload_n F rfl e_L_law_382 ?_
  refine m_aload_n F rfl e_L_law_383 ?_
  refine m_iload F rfl e_L_law_384 ?_
  refine m_iconst F (v := 1) (by decide) e_L_law_386 ?_
  refine m_iadd F e_L_law_387 ?_
  refine Wm.topE (w := 1) (by decide) ?_
  refine m_sld F (j := 1) e_L_law_388 hX hb (by decide) (by unfold vp_in; decide) ?_
  refine m_callV F e_L_law_389 (n_go (x_l X) V _ _ (b + 1457) (xs 1) hM) cb_X10_go ml_L_42 im_X10_go se_X10_go hM.1 rfl rfl (rest := [.int (if (xs 1) < 1 ∨ 12 < (xs 1) then -1 else (xs 1))]) rfl (Nat.le_of_ble_eq_true rfl) ⟨Nat.le_of_ble_eq_true rfl, Nat.le_of_ble_eq_true rfl⟩ ⟨Nat.le_of_ble_eq_true rfl, Nat.le_of_ble_eq_true rfl⟩ (k' := 1481) (z' := 70582) (N' := N) rfl rfl rfl (fun r τ2 hp => ?_)
  subst hp
  refine m_icmp_eq F e_L_law_392 (fun _ => ?_) (fun q => absurd rfl q)
  exact m_lbreak F hQ hH hX hb (Nat.le_of_ble_eq_true rfl) (Nat.le_of_ble_eq_true rfl)
set_option maxRecDepth 20000 in
theorem lc_6 {V : VX} {X : MX} {nm : String} {b sb N sa : Nat} {xs : Nat → Int32} {σ : Mem} (F : Fx V X (yLw nm) cL_law 7 ret room_1) (hQ : QW X) (hH : V.2.2 = (x_s X).heap) (hX : va_X sb 6 xs (x_s X) V.2.2) (hb : sb < V.2.2.size) (hl : (x_l X).stackTraces = false) (hT : TW V sa (x_s X)) (hZ : LLz V σ b) (hM : MZ V σ (b + 1457)) : Wm V X 7 N σ 1481 70582 465 [(4, .int 0), (3, .ref (b + 1480)), (2, .ref (b + 1457)), (1, .ref b), (0, .ref sb)] [] := by
  refine m_aload_n F rfl e_L_law_465 ?_
  refine m_aload_n F rfl e_L_law_466 ?_
  refine m_iload F rfl e_L_law_467 ?_
  refine m_iconst F (v := 1) (by decide) e_L_law_469 ?_
  refine m_iadd F e_L_law_470 ?_
  refine Wm.topE (w := 1) (by decide) ?_
  refine m_sld F (j := 1) e_L_law_471 hX hb (by decide) (by unfold vp_in; decide) ?_
  refine m_aload_n F rfl e_L_law_472 ?_
  refine m_iload F rfl e_L_law_473 ?_
  refine m_iconst F (v := 2) (by decide) e_L_law_475 ?_
  refine m_iadd F e_L_law_476 ?_
  refine Wm.topE (w := 2) (by decide) ?_
  refine m_sld F (j := 2) e_L_law_477 hX hb (by decide) (by unfold vp_in; decide) ?_
  refine m_callV F e_L_law_478 (ldg_amount (x_l X) V _ _ b (xs 1) (xs 2) hZ) cb_X9_amount ml_L_53 im_X9_amount se_X9_amount hZ.1 rfl rfl (rest := []) rfl (Nat.le_of_ble_eq_true rfl) ⟨Nat.le_of_ble_eq_true rfl, Nat.le_of_ble_eq_true rfl⟩ ⟨Nat.le_of_ble_eq_true rfl, Nat.le_of_ble_eq_true rfl⟩ (k' := 1481) (z' := 70582) (N' := N) rfl rfl rfl (fun r τ1 hp => ?_)
  obtain ⟨rfl, hfr⟩ := hp
  replace hM : MZ V τ1 (b + 1457) := hM.keep (fun x g1 _ => hfr x g1)
  refine m_aload_n F rfl e_L_law_481 ?_
  refine m_aload_n F rfl e_L_law_482 ?_
  refine m_iload F rfl e_L_law_483 ?_
  refine m_iconst F (v := 1) (by decide) e_L_law_485 ?_
  refine m_iadd F e_L_law_486 ?_
  refine Wm.topE (w := 1) (by decide) ?_
  refine m_sld F (j := 1) e_L_law_487 hX hb (by decide) (by unfold vp_in; decide) ?_
  refine m_aload_n F rfl e_L_law_488 ?_
  refine m_iload F rfl e_L_law_489 ?_
  refine m_iconst F (v := 2) (by decide) e_L_law_491 ?_
  refine m_iadd F e_L_law_492 ?_
  refine Wm.topE (w := 2) (by decide) ?_
  refine m_sld F (j := 2) e_L_law_493 hX hb (by decide) (by unfold vp_in; decide) ?_
  refine m_callV F e_L_law_494 (n_amount (x_l X) V _ _ (b + 1457) (xs 1) (xs 2) hM) cb_X10_amount ml_L_57 im_X10_amount se_X10_amount hM.1 rfl rfl (rest := [.long (-1)]) rfl (Nat.le_of_ble_eq_true rfl) ⟨Nat.le_of_ble_eq_true rfl, Nat.le_of_ble_eq_true rfl⟩ ⟨Nat.le_of_ble_eq_true rfl, Nat.le_of_ble_eq_true rfl⟩ (k' := 1481) (z' := 70582) (N' := N) rfl rfl rfl (fun r τ2 hp => ?_)
  subst hp
  refine m_lcmp F e_L_law_497 ?_
  refine Wm.topE (w := 0) (by decide) ?_
  refine m_if_eq F e_L_law_498 (fun _ => ?_) (fun q => absurd (by decide) q)
  exact m_lbreak F hQ hH hX hb (Nat.le_of_ble_eq_true rfl) (Nat.le_of_ble_eq_true rfl)
set_option maxRecDepth 20000 in
theorem lc_7 {V : VX} {X : MX} {nm : String} {b sb N sa : Nat} {xs : Nat → Int32} {σ : Mem} (F : Fx V X (yLw nm) cL_law 7 ret room_1) (hQ : QW X) (hH : V.2.2 = (x_s X).heap) (hX : va_X sb 6 xs (x_s X) V.2.2) (hb : sb < V.2.2.size) (hl : (x_l X).stackTraces = false) (hT : TW V sa (x_s X)) (hZ : LLz V σ b) (hM : MZ V σ (b + 1457)) : Wm V X 7 N σ 1481 70582 503 [(4, .int 0), (3, .ref (b + 1480)), (2, .ref (b + 1457)), (1, .ref b), (0, .ref sb)] [] := by
  refine m_aload_n F rfl e_L_law_503 ?_
  refine m_aload_n F rfl e_L_law_504 ?_
  refine m_iload F rfl e_L_law_505 ?_
  refine m_iconst F (v := 1) (by decide) e_L_law_507 ?_
  refine m_iadd F e_L_law_508 ?_
  refine Wm.topE (w := 1) (by decide) ?_
  refine m_sld F (j := 1) e_L_law_509 hX hb (by decide) (by unfold vp_in; decide) ?_
  refine m_aload_n F rfl e_L_law_510 ?_
  refine m_iload F rfl e_L_law_511 ?_
  refine m_iconst F (v := 2) (by decide) e_L_law_513 ?_
  refine m_iadd F e_L_law_514 ?_
  refine Wm.topE (w := 2) (by decide) ?_
  refine m_sld F (j := 2) e_L_law_515 hX hb (by decide) (by unfold vp_in; decide) ?_
  refine m_callV F e_L_law_516 (ldg_due (x_l X) V _ _ b (xs 1) (xs 2) hZ) cb_X9_due ml_L_58 im_X9_due se_X9_due hZ.1 rfl rfl (rest := []) rfl (Nat.le_of_ble_eq_true rfl) ⟨Nat.le_of_ble_eq_true rfl, Nat.le_of_ble_eq_true rfl⟩ ⟨Nat.le_of_ble_eq_true rfl, Nat.le_of_ble_eq_true rfl⟩ (k' := 1481) (z' := 70582) (N' := N) rfl rfl rfl (fun r τ1 hp => ?_)
  obtain ⟨rfl, hfr⟩ := hp
  replace hM : MZ V τ1 (b + 1457) := hM.keep (fun x g1 _ => hfr x g1)
  refine m_aload_n F rfl e_L_law_519 ?_
  refine m_aload_n F rfl e_L_law_520 ?_
  refine m_iload F rfl e_L_law_521 ?_
  refine m_iconst F (v := 1) (by decide) e_L_law_523 ?_
  refine m_iadd F e_L_law_524 ?_
  refine Wm.topE (w := 1) (by decide) ?_
  refine m_sld F (j := 1) e_L_law_525 hX hb (by decide) (by unfold vp_in; decide) ?_
  refine m_aload_n F rfl e_L_law_526 ?_
  refine m_iload F rfl e_L_law_527 ?_
  refine m_iconst F (v := 2) (by decide) e_L_law_529 ?_
  refine m_iadd F e_L_law_530 ?_
  refine Wm.topE (w := 2) (by decide) ?_
  refine m_sld F (j := 2) e_L_law_531 hX hb (by decide) (by unfold vp_in; decide) ?_
  refine m_callV F e_L_law_532 (n_due (x_l X) V _ _ (b + 1457) (xs 1) (xs 2) hM) cb_X10_due ml_L_61 im_X10_due se_X10_due hM.1 rfl rfl (rest := [.long (-1)]) rfl (Nat.le_of_ble_eq_true rfl) ⟨Nat.le_of_ble_eq_true rfl, Nat.le_of_ble_eq_true rfl⟩ ⟨Nat.le_of_ble_eq_true rfl, Nat.le_of_ble_eq_true rfl⟩ (k' := 1481) (z' := 70582) (N' := N) rfl rfl rfl (fun r τ2 hp => ?_)
  subst hp
  refine m_lcmp F e_L_law_535 ?_
  refine Wm.topE (w := 0) (by decide) ?_
  refine m_if_eq F e_L_law_536 (fun _ => ?_) (fun q => absurd (by decide) q)
  exact m_lbreak F hQ hH hX hb (Nat.le_of_ble_eq_true rfl) (Nat.le_of_ble_eq_true rfl)
set_option maxRecDepth 20000 in
theorem lc_8 {V : VX} {X : MX} {nm : String} {b sb N sa : Nat} {xs : Nat → Int32} {σ : Mem} (F : Fx V X (yLw nm) cL_law 7 ret room_1) (hQ : QW X) (hH : V.2.2 = (x_s X).heap) (hX : va_X sb 6 xs (x_s X) V.2.2) (hb : sb < V.2.2.size) (hl : (x_l X).stackTraces = false) (hT : TW V sa (x_s X)) (hZ : LLz V σ b) (hM : MZ V σ (b + 1457)) : Wm V X 7 N σ 1481 70582 541 [(4, .int 0), (3, .ref (b + 1480)), (2, .ref (b + 1457)), (1, .ref b), (0, .ref sb)] [] := by
  refine m_aload_n F rfl e_L_law_541 ?_
  refine m_aload_n F rfl e_L_law_542 ?_
  refine m_iload F rfl e_L_law_543 ?_
  refine m_iconst F (v := 1) (by decide) e_L_law_545 ?_
  refine m_iadd F e_L_law_546 ?_
  refine Wm.topE (w := 1) (by decide) ?_
  refine m_sld F (j := 1) e_L_law_547 hX hb (by decide) (by unfold vp_in; decide) ?_
  refine m_aload_n F rfl e_L_law_548 ?_
  refine m_iload F rfl e_L_law_549 ?_
  refine m_iconst F (v := 2) (by decide) e_L_law_551 ?_
  refine m_iadd F e_L_law_552 ?_
  refine Wm.topE (w := 2) (by decide) ?_
  refine m_sld F (j := 2) e_L_law_553 hX hb (by decide) (by unfold vp_in; decide) ?_
  refine m_aload_n F rfl e_L_law_554 ?_
  refine m_iload F rfl e_L_law_555 ?_
  refine m_iconst F (v := 3) (by decide) e_L_law_557 ?_
  refine m_iadd F e_L_law_558 ?_
  refine Wm.topE (w := 3) (by decide) ?_
  refine m_sld F (j := 3) e_L_law_559 hX hb (by decide) (by unfold vp_in; decide) ?_
  refine m_callV F e_L_law_560 (ldg_worth (x_l X) V _ _ b (xs 1) (xs 2) (xs 3) hZ) cb_X9_worth ml_L_62 im_X9_worth se_X9_worth hZ.1 rfl rfl (rest := []) rfl (Nat.le_of_ble_eq_true rfl) ⟨Nat.le_of_ble_eq_true rfl, Nat.le_of_ble_eq_true rfl⟩ ⟨Nat.le_of_ble_eq_true rfl, Nat.le_of_ble_eq_true rfl⟩ (k' := 1481) (z' := 70582) (N' := N) rfl rfl rfl (fun r τ1 hp => ?_)
  obtain ⟨rfl, hfr⟩ := hp
  replace hM : MZ V τ1 (b + 1457) := hM.keep (fun x g1 _ => hfr x g1)
  refine m_aload_n F rfl e_L_law_563 ?_
  refine m_aload_n F rfl e_L_law_564 ?_
  refine m_iload F rfl e_L_law_565 ?_
  refine m_iconst F (v := 1) (by decide) e_L_law_567 ?_
  refine m_iadd F e_L_law_568 ?_
  refine Wm.topE (w := 1) (by decide) ?_
  refine m_sld F (j := 1) e_L_law_569 hX hb (by decide) (by unfold vp_in; decide) ?_
  refine m_aload_n F rfl e_L_law_570 ?_
  refine m_iload F rfl e_L_law_571 ?_
  refine m_iconst F (v := 2) (by decide) e_L_law_573 ?_
  refine m_iadd F e_L_law_574 ?_
  refine Wm.topE (w := 2) (by decide) ?_
  refine m_sld F (j := 2) e_L_law_575 hX hb (by decide) (by unfold vp_in; decide) ?_
  refine m_aload_n F rfl e_L_law_576 ?_
  refine m_iload F rfl e_L_law_577 ?_
  refine m_iconst F (v := 3) (by decide) e_L_law_579 ?_
  refine m_iadd F e_L_law_580 ?_
  refine Wm.topE (w := 3) (by decide) ?_
  refine m_sld F (j := 3) e_L_law_581 hX hb (by decide) (by unfold vp_in; decide) ?_
  refine m_callV F e_L_law_582 (n_worth (x_l X) V _ _ (b + 1457) (xs 1) (xs 2) (xs 3) hM) cb_X10_worth ml_L_66 im_X10_worth se_X10_worth hM.1 rfl rfl (rest := [.long (-1)]) rfl (Nat.le_of_ble_eq_true rfl) ⟨Nat.le_of_ble_eq_true rfl, Nat.le_of_ble_eq_true rfl⟩ ⟨Nat.le_of_ble_eq_true rfl, Nat.le_of_ble_eq_true rfl⟩ (k' := 1481) (z' := 70582) (N' := N) rfl rfl rfl (fun r τ2 hp => ?_)
  subst hp
  refine m_lcmp F e_L_law_585 ?_
  refine Wm.topE (w := 0) (by decide) ?_
  refine m_if_eq F e_L_law_586 (fun _ => ?_) (fun q => absurd (by decide) q)
  exact m_lbreak F hQ hH hX hb (Nat.le_of_ble_eq_true rfl) (Nat.le_of_ble_eq_true rfl)
set_option maxRecDepth 20000 in
theorem lc_9 {V : VX} {X : MX} {nm : String} {b sb N sa : Nat} {xs : Nat → Int32} {σ : Mem} (F : Fx V X (yLw nm) cL_law 7 ret room_1) (hQ : QW X) (hH : V.2.2 = (x_s X).heap) (hX : va_X sb 6 xs (x_s X) V.2.2) (hb : sb < V.2.2.size) (hl : (x_l X).stackTraces = false) (hT : TW V sa (x_s X)) (hZ : LLz V σ b) (hM : MZ V σ (b + 1457)) : Wm V X 7 N σ 1481 70582 591 [(4, .int 0), (3, .ref (b + 1480)), (2, .ref (b + 1457)), (1, .ref b), (0, .ref sb)] [] := by
  refine m_aload_n F rfl e_L_law_591 ?_
  refine m_aload_n F rfl e_L_law_592 ?_
  refine m_iload F rfl e_L_law_593 ?_
  refine m_iconst F (v := 1) (by decide) e_L_law_595 ?_
  refine m_iadd F e_L_law_596 ?_
  refine Wm.topE (w := 1) (by decide) ?_
  refine m_sld F (j := 1) e_L_law_597 hX hb (by decide) (by unfold vp_in; decide) ?_
  refine m_callV F e_L_law_598 (ldg_index (x_l X) V _ _ b (xs 1) hZ) cb_X9_index ml_L_67 im_X9_index se_X9_index hZ.1 rfl rfl (rest := []) rfl (Nat.le_of_ble_eq_true rfl) ⟨Nat.le_of_ble_eq_true rfl, Nat.le_of_ble_eq_true rfl⟩ ⟨Nat.le_of_ble_eq_true rfl, Nat.le_of_ble_eq_true rfl⟩ (k' := 1481) (z' := 70582) (N' := N) rfl rfl rfl (fun r τ1 hp => ?_)
  obtain ⟨rfl, hfr⟩ := hp
  replace hM : MZ V τ1 (b + 1457) := hM.keep (fun x g1 _ => hfr x g1)
  refine m_aload_n F rfl e_L_law_601 ?_
  refine m_aload_n F rfl e_L_law_602 ?_
  refine m_iload F rfl e_L_law_603 ?_
  refine m_iconst F (v := 1) (by decide) e_L_law_605 ?_
  refine m_iadd F e_L_law_606 ?_
  refine Wm.topE (w := 1) (by decide) ?_
  refine m_sld F (j := 1) e_L_law_607 hX hb (by decide) (by unfold vp_in; decide) ?_
  refine m_callV F e_L_law_608 (n_index (x_l X) V _ _ (b + 1457) (xs 1) hM) cb_X10_index ml_L_70 im_X10_index se_X10_index hM.1 rfl rfl (rest := [.int (if (xs 1) < 0 ∨ 99 < (xs 1) then -1 else 1000)]) rfl (Nat.le_of_ble_eq_true rfl) ⟨Nat.le_of_ble_eq_true rfl, Nat.le_of_ble_eq_true rfl⟩ ⟨Nat.le_of_ble_eq_true rfl, Nat.le_of_ble_eq_true rfl⟩ (k' := 1481) (z' := 70582) (N' := N) rfl rfl rfl (fun r τ2 hp => ?_)
  subst hp
  refine m_icmp_eq F e_L_law_611 (fun _ => ?_) (fun q => absurd rfl q)
  exact m_lbreak F hQ hH hX hb (Nat.le_of_ble_eq_true rfl) (Nat.le_of_ble_eq_true rfl)
set_option maxRecDepth 20000 in
theorem lc_10 {V : VX} {X : MX} {nm : String} {b sb N sa : Nat} {xs : Nat → Int32} {σ : Mem} (F : Fx V X (yLw nm) cL_law 7 ret room_1) (hQ : QW X) (hH : V.2.2 = (x_s X).heap) (hX : va_X sb 6 xs (x_s X) V.2.2) (hb : sb < V.2.2.size) (hl : (x_l X).stackTraces = false) (hT : TW V sa (x_s X)) (hZ : LLz V σ b) (hM : MZ V σ (b + 1457)) : Wm V X 7 N σ 1481 70582 616 [(4, .int 0), (3, .ref (b + 1480)), (2, .ref (b + 1457)), (1, .ref b), (0, .ref sb)] [] := by
  refine m_aload_n F rfl e_L_law_616 ?_
  refine m_aload_n F rfl e_L_law_617 ?_
  refine m_iload F rfl e_L_law_618 ?_
  refine m_iconst F (v := 1) (by decide) e_L_law_620 ?_
  refine m_iadd F e_L_law_621 ?_
  refine Wm.topE (w := 1) (by decide) ?_
  refine m_sld F (j := 1) e_L_law_622 hX hb (by decide) (by unfold vp_in; decide) ?_
  refine m_callV F e_L_law_623 (ldg_account (x_l X) V _ _ b (xs 1) hZ) cb_X9_account ml_L_71 im_X9_account se_X9_account hZ.1 rfl rfl (rest := []) rfl (Nat.le_of_ble_eq_true rfl) ⟨Nat.le_of_ble_eq_true rfl, Nat.le_of_ble_eq_true rfl⟩ ⟨Nat.le_of_ble_eq_true rfl, Nat.le_of_ble_eq_true rfl⟩ (k' := 1481) (z' := 70582) (N' := N) rfl rfl rfl (fun r τ1 hp => ?_)
  obtain ⟨rfl, hfr⟩ := hp
  replace hM : MZ V τ1 (b + 1457) := hM.keep (fun x g1 _ => hfr x g1)
  refine m_aload_n F rfl e_L_law_626 ?_
  refine m_aload_n F rfl e_L_law_627 ?_
  refine m_iload F rfl e_L_law_628 ?_
  refine m_iconst F (v := 1) (by decide) e_L_law_630 ?_
  refine m_iadd F e_L_law_631 ?_
  refine Wm.topE (w := 1) (by decide) ?_
  refine m_sld F (j := 1) e_L_law_632 hX hb (by decide) (by unfold vp_in; decide) ?_
  refine m_callV F e_L_law_633 (n_account (x_l X) V _ _ (b + 1457) (xs 1) hM) cb_X10_account ml_L_75 im_X10_account se_X10_account hM.1 rfl rfl (rest := [.long (if (xs 1) < 0 ∨ 6 ≤ (xs 1) then NOA else 0)]) rfl (Nat.le_of_ble_eq_true rfl) ⟨Nat.le_of_ble_eq_true rfl, Nat.le_of_ble_eq_true rfl⟩ ⟨Nat.le_of_ble_eq_true rfl, Nat.le_of_ble_eq_true rfl⟩ (k' := 1481) (z' := 70582) (N' := N) rfl rfl rfl (fun r τ2 hp => ?_)
  subst hp
  refine m_lcmp F e_L_law_636 ?_
  refine m_if_eq F e_L_law_637 (fun _ => ?_) (fun q => absurd ((lg_cmp_eq _ _).mpr rfl) q)
  exact m_lbreak F hQ hH hX hb (Nat.le_of_ble_eq_true rfl) (Nat.le_of_ble_eq_true rfl)
set_option maxRecDepth 20000 in
theorem lc_11 {V : VX} {X : MX} {nm : String} {b sb N sa : Nat} {xs : Nat → Int32} {σ : Mem} (F : Fx V X (yLw nm) cL_law 7 ret room_1) (hQ : QW X) (hH : V.2.2 = (x_s X).heap) (hX : va_X sb 6 xs (x_s X) V.2.2) (hb : sb < V.2.2.size) (hl : (x_l X).stackTraces = false) (hT : TW V sa (x_s X)) (hZ : LLz V σ b) (hM : MZ V σ (b + 1457)) : Wm V X 7 N σ 1481 70582 642 [(4, .int 0), (3, .ref (b + 1480)), (2, .ref (b + 1457)), (1, .ref b), (0, .ref sb)] [] := by
  refine m_aload_n F rfl e_L_law_642 ?_
  refine m_aload_n F rfl e_L_law_643 ?_
  refine m_iload F rfl e_L_law_644 ?_
  refine m_iconst F (v := 1) (by decide) e_L_law_646 ?_
  refine m_iadd F e_L_law_647 ?_
  refine Wm.topE (w := 1) (by decide) ?_
  refine m_sld F (j := 1) e_L_law_648 hX hb (by decide) (by unfold vp_in; decide) ?_
  refine m_aload_n F rfl e_L_law_649 ?_
  refine m_iload F rfl e_L_law_650 ?_
  refine m_iconst F (v := 2) (by decide) e_L_law_652 ?_
  refine m_iadd F e_L_law_653 ?_
  refine Wm.topE (w := 2) (by decide) ?_
  refine m_sld F (j := 2) e_L_law_654 hX hb (by decide) (by unfold vp_in; decide) ?_
  refine m_callV F e_L_law_655 (ldg_entry (x_l X) V _ _ b (xs 1) (xs 2) hZ) cb_X9_entry ml_L_76 im_X9_entry se_X9_entry hZ.1 rfl rfl (rest := []) rfl (Nat.le_of_ble_eq_true rfl) ⟨Nat.le_of_ble_eq_true rfl, Nat.le_of_ble_eq_true rfl⟩ ⟨Nat.le_of_ble_eq_true rfl, Nat.le_of_ble_eq_true rfl⟩ (k' := 1481) (z' := 70582) (N' := N) rfl rfl rfl (fun r τ1 hp => ?_)
  obtain ⟨rfl, hfr⟩ := hp
  replace hM : MZ V τ1 (b + 1457) := hM.keep (fun x g1 _ => hfr x g1)
  refine m_aload_n F rfl e_L_law_658 ?_
  refine m_aload_n F rfl e_L_law_659 ?_
  refine m_iload F rfl e_L_law_660 ?_
  refine m_iconst F (v := 1) (by decide) e_L_law_662 ?_
  refine m_iadd F e_L_law_663 ?_
  refine Wm.topE (w := 1) (by decide) ?_
  refine m_sld F (j := 1) e_L_law_664 hX hb (by decide) (by unfold vp_in; decide) ?_
  refine m_aload_n F rfl e_L_law_665 ?_
  refine m_iload F rfl e_L_law_666 ?_
  refine m_iconst F (v := 2) (by decide) e_L_law_668 ?_
  refine m_iadd F e_L_law_669 ?_
  refine Wm.topE (w := 2) (by decide) ?_
  refine m_sld F (j := 2) e_L_law_670 hX hb (by decide) (by unfold vp_in; decide) ?_
  refine m_callV F e_L_law_671 (n_entry (x_l X) V _ _ (b + 1457) (xs 1) (xs 2) hM) cb_X10_entry_ ml_L_79 im_X10_entry_ se_X10_entry_ hM.1 rfl rfl (rest := [.long NOA]) rfl (Nat.le_of_ble_eq_true rfl) ⟨Nat.le_of_ble_eq_true rfl, Nat.le_of_ble_eq_true rfl⟩ ⟨Nat.le_of_ble_eq_true rfl, Nat.le_of_ble_eq_true rfl⟩ (k' := 1481) (z' := 70582) (N' := N) rfl rfl rfl (fun r τ2 hp => ?_)
  subst hp
  refine m_lcmp F e_L_law_674 ?_
  refine m_if_eq F e_L_law_675 (fun _ => ?_) (fun q => absurd ((lg_cmp_eq _ _).mpr rfl) q)
  exact m_lbreak F hQ hH hX hb (Nat.le_of_ble_eq_true rfl) (Nat.le_of_ble_eq_true rfl)
set_option maxRecDepth 20000 in
theorem lc_12 {V : VX} {X : MX} {nm : String} {b sb N sa : Nat} {xs : Nat → Int32} {σ : Mem} (F : Fx V X (yLw nm) cL_law 7 ret room_1) (hQ : QW X) (hH : V.2.2 = (x_s X).heap) (hX : va_X sb 6 xs (x_s X) V.2.2) (hb : sb < V.2.2.size) (hl : (x_l X).stackTraces = false) (hT : TW V sa (x_s X)) (hZ : LLz V σ b) (hM : MZ V σ (b + 1457)) : Wm V X 7 N σ 1481 70582 680 [(4, .int 0), (3, .ref (b + 1480)), (2, .ref (b + 1457)), (1, .ref b), (0, .ref sb)] [] := by
  refine m_aload_n F rfl e_L_law_680 ?_
  refine m_aload_n F rfl e_L_law_681 ?_
  refine m_iload F rfl e_L_law_682 ?_
  refine m_iconst F (v := 1) (by decide) e_L_law_684 ?_
  refine m_iadd F e_L_law_685 ?_
  refine Wm.topE (w := 1) (by decide) ?_
  refine m_sld F (j := 1) e_L_law_686 hX hb (by decide) (by unfold vp_in; decide) ?_
  refine m_aload_n F rfl e_L_law_687 ?_
  refine m_iload F rfl e_L_law_688 ?_
  refine m_iconst F (v := 2) (by decide) e_L_law_690 ?_
  refine m_iadd F e_L_law_691 ?_
  refine Wm.topE (w := 2) (by decide) ?_
  refine m_sld F (j := 2) e_L_law_692 hX hb (by decide) (by unfold vp_in; decide) ?_
  refine m_callV F e_L_law_693 (ldg_rate (x_l X) V _ _ b (xs 1) (xs 2) hZ) cb_X9_rate ml_L_80 im_X9_rate se_X9_rate hZ.1 rfl rfl (rest := []) rfl (Nat.le_of_ble_eq_true rfl) ⟨Nat.le_of_ble_eq_true rfl, Nat.le_of_ble_eq_true rfl⟩ ⟨Nat.le_of_ble_eq_true rfl, Nat.le_of_ble_eq_true rfl⟩ (k' := 1481) (z' := 70582) (N' := N) rfl rfl rfl (fun r τ1 hp => ?_)
  obtain ⟨rfl, hfr⟩ := hp
  replace hM : MZ V τ1 (b + 1457) := hM.keep (fun x g1 _ => hfr x g1)
  refine m_aload_n F rfl e_L_law_696 ?_
  refine m_aload_n F rfl e_L_law_697 ?_
  refine m_iload F rfl e_L_law_698 ?_
  refine m_iconst F (v := 1) (by decide) e_L_law_700 ?_
  refine m_iadd F e_L_law_701 ?_
  refine Wm.topE (w := 1) (by decide) ?_
  refine m_sld F (j := 1) e_L_law_702 hX hb (by decide) (by unfold vp_in; decide) ?_
  refine m_aload_n F rfl e_L_law_703 ?_
  refine m_iload F rfl e_L_law_704 ?_
  refine m_iconst F (v := 2) (by decide) e_L_law_706 ?_
  refine m_iadd F e_L_law_707 ?_
  refine Wm.topE (w := 2) (by decide) ?_
  refine m_sld F (j := 2) e_L_law_708 hX hb (by decide) (by unfold vp_in; decide) ?_
  refine m_callV F e_L_law_709 (n_rate (x_l X) V _ _ (b + 1457) (xs 1) (xs 2) hM) cb_X10_rate ml_L_83 im_X10_rate se_X10_rate hM.1 rfl rfl (rest := [.long NOA]) rfl (Nat.le_of_ble_eq_true rfl) ⟨Nat.le_of_ble_eq_true rfl, Nat.le_of_ble_eq_true rfl⟩ ⟨Nat.le_of_ble_eq_true rfl, Nat.le_of_ble_eq_true rfl⟩ (k' := 1481) (z' := 70582) (N' := N) rfl rfl rfl (fun r τ2 hp => ?_)
  subst hp
  refine m_lcmp F e_L_law_712 ?_
  refine m_if_eq F e_L_law_713 (fun _ => ?_) (fun q => absurd ((lg_cmp_eq _ _).mpr rfl) q)
  exact m_lbreak F hQ hH hX hb (Nat.le_of_ble_eq_true rfl) (Nat.le_of_ble_eq_true rfl)
set_option maxRecDepth 20000 in
theorem lc_13 {V : VX} {X : MX} {nm : String} {b sb N sa : Nat} {xs : Nat → Int32} {σ : Mem} (F : Fx V X (yLw nm) cL_law 7 ret room_1) (hQ : QW X) (hH : V.2.2 = (x_s X).heap) (hX : va_X sb 6 xs (x_s X) V.2.2) (hb : sb < V.2.2.size) (hl : (x_l X).stackTraces = false) (hT : TW V sa (x_s X)) (hZ : LLz V σ b) (hM : MZ V σ (b + 1457)) : Wm V X 7 N σ 1481 70582 718 [(4, .int 0), (3, .ref (b + 1480)), (2, .ref (b + 1457)), (1, .ref b), (0, .ref sb)] [] := by
  refine m_aload_n F rfl e_L_law_718 ?_
  refine m_aload_n F rfl e_L_law_719 ?_
  refine m_iload F rfl e_L_law_720 ?_
  refine m_iconst F (v := 1) (by decide) e_L_law_722 ?_
  refine m_iadd F e_L_law_723 ?_
  refine Wm.topE (w := 1) (by decide) ?_
  refine m_sld F (j := 1) e_L_law_724 hX hb (by decide) (by unfold vp_in; decide) ?_
  refine m_aload_n F rfl e_L_law_725 ?_
  refine m_iload F rfl e_L_law_726 ?_
  refine m_iconst F (v := 2) (by decide) e_L_law_728 ?_
  refine m_iadd F e_L_law_729 ?_
  refine Wm.topE (w := 2) (by decide) ?_
  refine m_sld F (j := 2) e_L_law_730 hX hb (by decide) (by unfold vp_in; decide) ?_
  refine m_callV F e_L_law_731 (ldg_extend (x_l X) V _ _ b (xs 1) (xs 2) hZ) cb_X9_extend ml_L_84 im_X9_extend se_X9_extend hZ.1 rfl rfl (rest := []) rfl (Nat.le_of_ble_eq_true rfl) ⟨Nat.le_of_ble_eq_true rfl, Nat.le_of_ble_eq_true rfl⟩ ⟨Nat.le_of_ble_eq_true rfl, Nat.le_of_ble_eq_true rfl⟩ (k' := 1481) (z' := 70582) (N' := N) rfl rfl rfl (fun r τ1 hp => ?_)
  obtain ⟨rfl, hfr⟩ := hp
  replace hM : MZ V τ1 (b + 1457) := hM.keep (fun x g1 _ => hfr x g1)
  refine m_aload_n F rfl e_L_law_734 ?_
  refine m_aload_n F rfl e_L_law_735 ?_
  refine m_iload F rfl e_L_law_736 ?_
  refine m_iconst F (v := 1) (by decide) e_L_law_738 ?_
  refine m_iadd F e_L_law_739 ?_
  refine Wm.topE (w := 1) (by decide) ?_
  refine m_sld F (j := 1) e_L_law_740 hX hb (by decide) (by unfold vp_in; decide) ?_
  refine m_aload_n F rfl e_L_law_741 ?_
  refine m_iload F rfl e_L_law_742 ?_
  refine m_iconst F (v := 2) (by decide) e_L_law_744 ?_
  refine m_iadd F e_L_law_745 ?_
  refine Wm.topE (w := 2) (by decide) ?_
  refine m_sld F (j := 2) e_L_law_746 hX hb (by decide) (by unfold vp_in; decide) ?_
  refine m_callV F e_L_law_747 (n_extend (x_l X) V _ _ (b + 1457) (xs 1) (xs 2) hM) cb_X10_extend ml_L_87 im_X10_extend se_X10_extend hM.1 rfl rfl (rest := [.long NOA]) rfl (Nat.le_of_ble_eq_true rfl) ⟨Nat.le_of_ble_eq_true rfl, Nat.le_of_ble_eq_true rfl⟩ ⟨Nat.le_of_ble_eq_true rfl, Nat.le_of_ble_eq_true rfl⟩ (k' := 1481) (z' := 70582) (N' := N) rfl rfl rfl (fun r τ2 hp => ?_)
  subst hp
  refine m_lcmp F e_L_law_750 ?_
  refine m_if_eq F e_L_law_751 (fun _ => ?_) (fun q => absurd ((lg_cmp_eq _ _).mpr rfl) q)
  exact m_lbreak F hQ hH hX hb (Nat.le_of_ble_eq_true rfl) (Nat.le_of_ble_eq_true rfl)
