theorem fn_L_8 : FN R_law 8 7 13 [.null, .int 0, .null, .null, .null, .null, .int 0, .null, .int 0, .int 0, .null, .null, .null] := ⟨RX9, TX9, tyX9, rfl, uw_7, tb_in 29 (by decide +kernel) (by decide +kernel), tb_in 30 (by decide +kernel) (by decide +kernel), tb_in 1 (by decide +kernel) (by decide +kernel), tyX9_ok, by decide +kernel⟩
theorem cb_X9_init : CB yX9_init cX9_init 2 none 0 := ⟨tb_in 33 (by decide +kernel) (by decide +kernel), tb_in 1 (by decide +kernel) (by decide +kernel), by decide +kernel⟩
theorem ml_L_17 : Cond.methodLink R_law 17 yX9_init ∈ tb := tb_in 31 (by decide +kernel) (by decide +kernel)
theorem im_X9_init : Cond.instanceMethod yX9_init ∈ tb := tb_in 32 (by decide +kernel) (by decide +kernel)
theorem fn_L_18 : FN R_law 18 8 37 [.int 0, .null, .int 0, .null, .null, .null, .null, .null, .null, .null, .null, .null, .null, .null, .null, .null, .null, .int 0, .int 0, .int 0, .int 0, .int 0, .int 0, .int 0, .int 0, .int 0, .int 0, .null, .null, .null, .null, .null, .int 0, .int 0, .null, .null, .int 0] := ⟨RX10, TX10, tyX10, rfl, uw_8, tb_in 1410 (by decide +kernel) (by decide +kernel), tb_in 1411 (by decide +kernel) (by decide +kernel), tb_in 10 (by decide +kernel) (by decide +kernel), tyX10_ok, by decide +kernel⟩
theorem cb_X10_init : CB yX10_init cX10_init 1 none 0 := ⟨tb_in 1414 (by decide +kernel) (by decide +kernel), tb_in 10 (by decide +kernel) (by decide +kernel), by decide +kernel⟩
theorem ml_L_20 : Cond.methodLink R_law 20 yX10_init ∈ tb := tb_in 1412 (by decide +kernel) (by decide +kernel)
theorem im_X10_init : Cond.instanceMethod yX10_init ∈ tb := tb_in 1413 (by decide +kernel) (by decide +kernel)
theorem ao_prim {args : Array Value} {s : State} {ty : FieldType} (h : (Cond.arrayClass ty).before args s = true) : ∃ c : ClassId, ArrOfT s c ty ∧ s.vm.findClass ("[" ++ ty.toString) = some c := by
  obtain ⟨c, k, comp, h1, h2, h3⟩ := Cond.arrayClass_spec h
  exact ⟨c, fun n z => ⟨fun k h => (by cases h), k, h2, comp, h3⟩, h1⟩
theorem ao_ref {args : Array Value} {s : State} {C : String} (h : (Cond.arrayOver (.object C)).before args s = true) : ∃ c : ClassId, ArrOfT s c (.object C) ∧ va_RA s c (.object C) := by
  obtain ⟨comp, c, k, h1, h2, h3, h4, h5⟩ := Cond.arrayOver_spec h
  exact ⟨c, fun n z => ⟨fun k h => (by cases h), k, h3, comp, h4⟩, ⟨k, comp, h3, h4, h1, h5⟩⟩
theorem ku_start {args : Array Value} {s : State} (hts : ∀ w ∈ lw_tbl, w.before args s = true) : ∃ V : VX, V.2.2 = s.heap ∧ KU V s := by
  have htb : ∀ w ∈ tb, w.before args s = true := fun w hw => hts w (List.mem_filter.mp hw).1
  obtain ⟨c0, i0, hk0⟩ := u_known (C := RX1) (T := TX1) (N := 2) (n := 2) htb uw_0 (hts (.instantiable RX1 2) (List.mem_append_right _ (List.mem_of_getElem? (i := 69) (by decide +kernel))))
  obtain ⟨c1, i1, hk1⟩ := u_known (C := RX2) (T := TX2) (N := 13) (n := 13) htb uw_1 (hts (.instantiable RX2 13) (List.mem_append_right _ (List.mem_of_getElem? (i := 38) (by decide +kernel))))
  obtain ⟨c2, i2, hk2⟩ := u_known (C := RX3) (T := TX3) (N := 3) (n := 3) htb uw_2 (hts (.instantiable RX3 3) (List.mem_append_right _ (List.mem_of_getElem? (i := 48) (by decide +kernel))))
  obtain ⟨c3, i3, hk3⟩ := u_known (C := RX5) (T := TX5) (N := 18) (n := 18) htb uw_3 (hts (.instantiable RX5 18) (List.mem_append_right _ (List.mem_of_getElem? (i := 83) (by decide +kernel))))
  obtain ⟨c4, i4, hk4⟩ := u_known (C := RX6) (T := TX6) (N := 4) (n := 4) htb uw_4 (hts (.instantiable RX6 4) (List.mem_append_right _ (List.mem_of_getElem? (i := 197) (by decide +kernel))))
  obtain ⟨c5, i5, hk5⟩ := u_known (C := RX7) (T := TX7) (N := 13) (n := 13) htb uw_5 (hts (.instantiable RX7 13) (List.mem_append_right _ (List.mem_of_getElem? (i := 279) (by decide +kernel))))
  obtain ⟨c6, i6, hk6⟩ := u_known (C := RX8) (T := TX8) (N := 3) (n := 3) htb uw_6 (hts (.instantiable RX8 3) (List.mem_append_right _ (List.mem_of_getElem? (i := 91) (by decide +kernel))))
  obtain ⟨c7, i7, hk7⟩ := u_known (C := RX9) (T := TX9) (N := 13) (n := 13) htb uw_7 (hts (.instantiable RX9 13) (List.mem_append_right _ (List.mem_of_getElem? (i := 30) (by decide +kernel))))
  obtain ⟨c8, i8, hk8⟩ := u_known (C := RX10) (T := TX10) (N := 37) (n := 37) htb uw_8 (hts (.instantiable RX10 37) (List.mem_append_right _ (List.mem_of_getElem? (i := 1411) (by decide +kernel))))
  obtain ⟨a0, ha0, hr0⟩ := ao_prim (ty := .int) (hts _ (List.mem_append_right _ (List.mem_of_getElem? (i := 66) (by decide +kernel))))
  obtain ⟨a1, ha1, hr1⟩ := ao_prim (ty := .long) (hts _ (List.mem_append_right _ (List.mem_of_getElem? (i := 67) (by decide +kernel))))
  obtain ⟨a2, ha2, hr2⟩ := ao_prim (ty := .byte) (hts _ (List.mem_append_right _ (List.mem_of_getElem? (i := 65) (by decide +kernel))))
  obtain ⟨a3, ha3, hr3⟩ := ao_prim (ty := .boolean) (hts _ (List.mem_append_right _ (List.mem_of_getElem? (i := 1572) (by decide +kernel))))
  have hw4 : (Cond.arrayOver (.object RX5)).before args s = true := hts _ (List.mem_append_right _ (List.mem_of_getElem? (i := 44) (by decide +kernel)))
  obtain ⟨a4, ha4, hr4⟩ := ao_ref hw4
  have hw5 : (Cond.arrayOver (.object RX6)).before args s = true := hts _ (List.mem_append_right _ (List.mem_of_getElem? (i := 46) (by decide +kernel)))
  obtain ⟨a5, ha5, hr5⟩ := ao_ref hw5
  have hw6 : (Cond.arrayOver (.object RX2)).before args s = true := hts _ (List.mem_append_right _ (List.mem_of_getElem? (i := 327) (by decide +kernel)))
  obtain ⟨a6, ha6, hr6⟩ := ao_ref hw6
  refine ⟨((fun k => if k = 0 then c0 else if k = 1 then c1 else if k = 2 then c2 else if k = 3 then c3 else if k = 4 then c4 else if k = 5 then c5 else if k = 6 then c6 else if k = 7 then c7 else c8, fun k => if k = 0 then i0 else if k = 1 then i1 else if k = 2 then i2 else if k = 3 then i3 else if k = 4 then i4 else if k = 5 then i5 else if k = 6 then i6 else if k = 7 then i7 else i8), fun k => if k = 0 then a0 else if k = 1 then a1 else if k = 2 then a2 else if k = 3 then a3 else if k = 4 then a4 else if k = 5 then a5 else a6, s.heap), rfl, ⟨?_, ?_⟩, ?_, va_AO.of hw4, va_AO.of hw5, va_AO.of hw6⟩
  · intro k q hq
    match k, hq with
    | 0, hq => cases hq; exact hk0
    | 1, hq => cases hq; exact hk1
    | 2, hq => cases hq; exact hk2
    | 3, hq => cases hq; exact hk3
    | 4, hq => cases hq; exact hk4
    | 5, hq => cases hq; exact hk5
    | 6, hq => cases hq; exact hk6
    | 7, hq => cases hq; exact hk7
    | 8, hq => cases hq; exact hk8
    | k + 9, hq => simp [classes] at hq
  · intro k q hq
    match k, hq with
    | 0, hq => cases hq; exact ⟨ha0, hr0⟩
    | 1, hq => cases hq; exact ⟨ha1, hr1⟩
    | 2, hq => cases hq; exact ⟨ha2, hr2⟩
    | 3, hq => cases hq; exact ⟨ha3, hr3⟩
    | 4, hq => cases hq; exact ⟨ha4, hr4⟩
    | 5, hq => cases hq; exact ⟨ha5, hr5⟩
    | 6, hq => cases hq; exact ⟨ha6, hr6⟩
    | k + 7, hq => simp at hq
  · intro w hw
    simp only [nestW, List.mem_cons, List.not_mem_nil, or_false] at hw
    rcases hw with rfl | rfl | rfl | rfl | rfl | rfl | rfl | rfl | rfl
    · exact va_Nw.of rfl (hts _ (List.mem_append_right _ (List.mem_of_getElem? (i := 49) (by decide +kernel))))
    · exact va_Nw.of rfl (hts _ (List.mem_append_right _ (List.mem_of_getElem? (i := 70) (by decide +kernel))))
    · exact va_Nw.of rfl (hts _ (List.mem_append_right _ (List.mem_of_getElem? (i := 84) (by decide +kernel))))
    · exact va_Nw.of rfl (hts _ (List.mem_append_right _ (List.mem_of_getElem? (i := 89) (by decide +kernel))))
    · exact va_Nw.of rfl (hts _ (List.mem_append_right _ (List.mem_of_getElem? (i := 92) (by decide +kernel))))
    · exact va_Nw.of rfl (hts _ (List.mem_append_right _ (List.mem_of_getElem? (i := 97) (by decide +kernel))))
    · exact va_Nw.of rfl (hts _ (List.mem_append_right _ (List.mem_of_getElem? (i := 198) (by decide +kernel))))
    · exact va_Nw.of rfl (hts _ (List.mem_append_right _ (List.mem_of_getElem? (i := 329) (by decide +kernel))))
    · exact va_Nw.of rfl (hts _ (List.mem_append_right _ (List.mem_of_getElem? (i := 430) (by decide +kernel))))
theorem tw_start {args : Array Value} {s : State} {V : VX} (hts : ∀ w ∈ lw_tbl, w.before args s = true) (hgv : (Jvm.Cond.and given_1 narrow_1).before args s = true) (hV : V.2.2 = s.heap) : ∃ sa : Nat, TW V sa s := by
  have hs := flat_of_before _ hgv
  have hx : (Cond.exactly (.string "LeaseLedger" 109) "java/lang/String").before args s = true := hs _ (by decide +kernel)
  have hu : (Cond.isRef (.static Bundle.tN "UNASSIGNED_STACK" Bundle.steD)).before args s = true := hs _ (by decide +kernel)
  have hn : (Cond.isRef (.static Bundle.tN "SUPPRESSED_SENTINEL" Bundle.listD)).before args s = true := hs _ (by decide +kernel)
  obtain ⟨a, c, cell, k, h1, -⟩ := Cond.exactly_spec hx
  refine ⟨a, vk_R.of (hts (.stringRef RX9 109 "no such lease") (List.mem_append_right _ (List.mem_of_getElem? (i := 1390) (by decide +kernel)))) h1, ?_, ?_, ?_⟩
  · rw [hV]
    exact vx_Zqof (hts _ (List.mem_append_right _ (List.mem_of_getElem? (i := 530) (by decide +kernel)))) (hts _ (List.mem_append_right _ (List.mem_of_getElem? (i := 13) (by decide +kernel)))) hu (fun a h1 h2 => absurd h1 (Nat.not_lt.mpr h2))
  · rw [hV]
    exact vx_Zqof (hts _ (List.mem_append_right _ (List.mem_of_getElem? (i := 532) (by decide +kernel)))) (hts _ (List.mem_append_right _ (List.mem_of_getElem? (i := 13) (by decide +kernel)))) hn (fun a h1 h2 => absurd h1 (Nat.not_lt.mpr h2))
  · intro w hw
    simp only [TWw, List.mem_cons, List.not_mem_nil, or_false] at hw
    rcases hw with rfl | rfl | rfl | rfl
    · exact va_Nw.of rfl (hts _ (List.mem_append_right _ (List.mem_of_getElem? (i := 1383) (by decide +kernel))))
    · exact va_Nw.of rfl (hts _ (List.mem_append_right _ (List.mem_of_getElem? (i := 507) (by decide +kernel))))
    · exact va_Nw.of rfl (hts _ (List.mem_append_right _ (List.mem_of_getElem? (i := 509) (by decide +kernel))))
    · exact va_Nw.of rfl (hts _ (List.mem_append_right _ (List.mem_of_getElem? (i := 511) (by decide +kernel))))
set_option maxRecDepth 20000 in
theorem law_switch {V : VX} {X : MX} {nm : String} {b sb N sa : Nat} {xs : Nat → Int32} {σ : Mem} (F : Fx V X (yLw nm) cL_law 7 ret room_1) (hQ : QW X) (hH : V.2.2 = (x_s X).heap) (hX : va_X sb 6 xs (x_s X) V.2.2) (hb : sb < V.2.2.size) (hl : (x_l X).stackTraces = false) (hT : TW V sa (x_s X)) (hZ : LLz V σ b) (hM : MZ V σ (b + 1457)) : Wm V X 7 N σ 1481 70582 40 [(4, .int 0), (3, .ref (b + 1480)), (2, .ref (b + 1457)), (1, .ref b), (0, .ref sb)] [.int (xs 0 &&& 63)] := by
  by_cases ho : (xs 0 &&& 63 : Int32).toInt < 0 ∨ 41 < (xs 0 &&& 63 : Int32).toInt
  · exact m_tableOut F e_L_law_40 ho (tgt := 1796) (by decide) (m_lbreak F hQ hH hX hb (Nat.le_of_ble_eq_true rfl) (Nat.le_of_ble_eq_true rfl))
  have hk : (xs 0 &&& 63 : Int32).toInt = 0 ∨ (xs 0 &&& 63 : Int32).toInt = 1 ∨ (xs 0 &&& 63 : Int32).toInt = 2 ∨ (xs 0 &&& 63 : Int32).toInt = 3 ∨ (xs 0 &&& 63 : Int32).toInt = 4 ∨ (xs 0 &&& 63 : Int32).toInt = 5 ∨ (xs 0 &&& 63 : Int32).toInt = 6 ∨ (xs 0 &&& 63 : Int32).toInt = 7 ∨ (xs 0 &&& 63 : Int32).toInt = 8 ∨ (xs 0 &&& 63 : Int32).toInt = 9 ∨ (xs 0 &&& 63 : Int32).toInt = 10 ∨ (xs 0 &&& 63 : Int32).toInt = 11 ∨ (xs 0 &&& 63 : Int32).toInt = 12 ∨ (xs 0 &&& 63 : Int32).toInt = 13 ∨ (xs 0 &&& 63 : Int32).toInt = 14 ∨ (xs 0 &&& 63 : Int32).toInt = 15 ∨ (xs 0 &&& 63 : Int32).toInt = 16 ∨ (xs 0 &&& 63 : Int32).toInt = 17 ∨ (xs 0 &&& 63 : Int32).toInt = 18 ∨ (xs 0 &&& 63 : Int32).toInt = 19 ∨ (xs 0 &&& 63 : Int32).toInt = 20 ∨ (xs 0 &&& 63 : Int32).toInt = 21 ∨ (xs 0 &&& 63 : Int32).toInt = 22 ∨ (xs 0 &&& 63 : Int32).toInt = 23 ∨ (xs 0 &&& 63 : Int32).toInt = 24 ∨ (xs 0 &&& 63 : Int32).toInt = 25 ∨ (xs 0 &&& 63 : Int32).toInt = 26 ∨ (xs 0 &&& 63 : Int32).toInt = 27 ∨ (xs 0 &&& 63 : Int32).toInt = 28 ∨ (xs 0 &&& 63 : Int32).toInt = 29 ∨ (xs 0 &&& 63 : Int32).toInt = 30 ∨ (xs 0 &&& 63 : Int32).toInt = 31 ∨ (xs 0 &&& 63 : Int32).toInt = 32 ∨ (xs 0 &&& 63 : Int32).toInt = 33 ∨ (xs 0 &&& 63 : Int32).toInt = 34 ∨ (xs 0 &&& 63 : Int32).toInt = 35 ∨ (xs 0 &&& 63 : Int32).toInt = 36 ∨ (xs 0 &&& 63 : Int32).toInt = 37 ∨ (xs 0 &&& 63 : Int32).toInt = 38 ∨ (xs 0 &&& 63 : Int32).toInt = 39 ∨ (xs 0 &&& 63 : Int32).toInt = 40 ∨ (xs 0 &&& 63 : Int32).toInt = 41 := by omega
  rcases hk with h | h | h | h | h | h | h | h | h | h | h | h | h | h | h | h | h | h | h | h | h | h | h | h | h | h | h | h | h | h | h | h | h | h | h | h | h | h | h | h | h | h
  · exact m_tableIn F e_L_law_40 (by omega) (by omega) (off := 184) (tgt := 224) (by rw [h]; rfl) (by decide) (lc_0 F hQ hH hX hb hl hT hZ hM)
  · exact m_tableIn F e_L_law_40 (by omega) (by omega) (off := 257) (tgt := 297) (by rw [h]; rfl) (by decide) (lc_1 F hQ hH hX hb hl hT hZ hM)
  · exact m_tableIn F e_L_law_40 (by omega) (by omega) (off := 282) (tgt := 322) (by rw [h]; rfl) (by decide) (lc_2 F hQ hH hX hb hl hT hZ hM)
  · exact m_tableIn F e_L_law_40 (by omega) (by omega) (off := 307) (tgt := 347) (by rw [h]; rfl) (by decide) (lc_3 F hQ hH hX hb hl hT hZ hM)
  · exact m_tableIn F e_L_law_40 (by omega) (by omega) (off := 332) (tgt := 372) (by rw [h]; rfl) (by decide) (lc_4 F hQ hH hX hb hl hT hZ hM)
  · exact m_tableIn F e_L_law_40 (by omega) (by omega) (off := 357) (tgt := 397) (by rw [h]; rfl) (by decide) (lc_5 F hQ hH hX hb hl hT hZ hM)
  · exact m_tableIn F e_L_law_40 (by omega) (by omega) (off := 425) (tgt := 465) (by rw [h]; rfl) (by decide) (lc_6 F hQ hH hX hb hl hT hZ hM)
  · exact m_tableIn F e_L_law_40 (by omega) (by omega) (off := 463) (tgt := 503) (by rw [h]; rfl) (by decide) (lc_7 F hQ hH hX hb hl hT hZ hM)
  · exact m_tableIn F e_L_law_40 (by omega) (by omega) (off := 501) (tgt := 541) (by rw [h]; rfl) (by decide) (lc_8 F hQ hH hX hb hl hT hZ hM)
  · exact m_tableIn F e_L_law_40 (by omega) (by omega) (off := 551) (tgt := 591) (by rw [h]; rfl) (by decide) (lc_9 F hQ hH hX hb hl hT hZ hM)
  · exact m_tableIn F e_L_law_40 (by omega) (by omega) (off := 576) (tgt := 616) (by rw [h]; rfl) (by decide) (lc_10 F hQ hH hX hb hl hT hZ hM)
  · exact m_tableIn F e_L_law_40 (by omega) (by omega) (off := 602) (tgt := 642) (by rw [h]; rfl) (by decide) (lc_11 F hQ hH hX hb hl hT hZ hM)
  · exact m_tableIn F e_L_law_40 (by omega) (by omega) (off := 640) (tgt := 680) (by rw [h]; rfl) (by decide) (lc_12 F hQ hH hX hb hl hT hZ hM)
  · exact m_tableIn F e_L_law_40 (by omega) (by omega) (off := 678) (tgt := 718) (by rw [h]; rfl) (by decide) (lc_13 F hQ hH hX hb hl hT hZ hM)
  · exact m_tableIn F e_L_law_40 (by omega) (by omega) (off := 716) (tgt := 756) (by rw [h]; rfl) (by decide) (lc_14 F hQ hH hX hb hl hT hZ hM)
  · exact m_tableIn F e_L_law_40 (by omega) (by omega) (off := 742) (tgt := 782) (by rw [h]; rfl) (by decide) (lc_15 F hQ hH hX hb hl hT hZ hM)
  · exact m_tableIn F e_L_law_40 (by omega) (by omega) (off := 780) (tgt := 820) (by rw [h]; rfl) (by decide) (lc_16 F hQ hH hX hb hl hT hZ hM)
  · exact m_tableIn F e_L_law_40 (by omega) (by omega) (off := 806) (tgt := 846) (by rw [h]; rfl) (by decide) (lc_17 F hQ hH hX hb hl hT hZ hM)
  · exact m_tableIn F e_L_law_40 (by omega) (by omega) (off := 876) (tgt := 916) (by rw [h]; rfl) (by decide) (lc_18 F hQ hH hX hb hl hT hZ hM)
  · exact m_tableIn F e_L_law_40 (by omega) (by omega) (off := 926) (tgt := 966) (by rw [h]; rfl) (by decide) (lc_19 F hQ hH hX hb hl hT hZ hM)
  · exact m_tableIn F e_L_law_40 (by omega) (by omega) (off := 951) (tgt := 991) (by rw [h]; rfl) (by decide) (lc_20 F hQ hH hX hb hl hT hZ hM)
  · exact m_tableIn F e_L_law_40 (by omega) (by omega) (off := 1001) (tgt := 1041) (by rw [h]; rfl) (by decide) (lc_21 F hQ hH hX hb hl hT hZ hM)
  · exact m_tableIn F e_L_law_40 (by omega) (by omega) (off := 1027) (tgt := 1067) (by rw [h]; rfl) (by decide) (lc_22 F hQ hH hX hb hl hT hZ hM)
  · exact m_tableIn F e_L_law_40 (by omega) (by omega) (off := 1065) (tgt := 1105) (by rw [h]; rfl) (by decide) (lc_23 F hQ hH hX hb hl hT hZ hM)
  · exact m_tableIn F e_L_law_40 (by omega) (by omega) (off := 1103) (tgt := 1143) (by rw [h]; rfl) (by decide) (lc_24 F hQ hH hX hb hl hT hZ hM)
  · exact m_tableIn F e_L_law_40 (by omega) (by omega) (off := 1141) (tgt := 1181) (by rw [h]; rfl) (by decide) (lc_25 F hQ hH hX hb hl hT hZ hM)
  · exact m_tableIn F e_L_law_40 (by omega) (by omega) (off := 1166) (tgt := 1206) (by rw [h]; rfl) (by decide) (lc_26 F hQ hH hX hb hl hT hZ hM)
  · exact m_tableIn F e_L_law_40 (by omega) (by omega) (off := 1220) (tgt := 1260) (by rw [h]; rfl) (by decide) (lc_27 F hQ hH hX hb hl hT hZ hM)
  · exact m_tableIn F e_L_law_40 (by omega) (by omega) (off := 1246) (tgt := 1286) (by rw [h]; rfl) (by decide) (lc_28 F hQ hH hX hb hl hT hZ hM)
  · exact m_tableIn F e_L_law_40 (by omega) (by omega) (off := 1315) (tgt := 1355) (by rw [h]; rfl) (by decide) (lc_29 F hQ hH hX hb hl hT hZ hM)
  · exact m_tableIn F e_L_law_40 (by omega) (by omega) (off := 1352) (tgt := 1392) (by rw [h]; rfl) (by decide) (lc_30 F hQ hH hX hb hl hT hZ hM)
  · exact m_tableIn F e_L_law_40 (by omega) (by omega) (off := 1377) (tgt := 1417) (by rw [h]; rfl) (by decide) (lc_31 F hQ hH hX hb hl hT hZ hM)
  · exact m_tableIn F e_L_law_40 (by omega) (by omega) (off := 1415) (tgt := 1455) (by rw [h]; rfl) (by decide) (lc_32 F hQ hH hX hb hl hT hZ hM)
  · exact m_tableIn F e_L_law_40 (by omega) (by omega) (off := 1453) (tgt := 1493) (by rw [h]; rfl) (by decide) (lc_33 F hQ hH hX hb hl hT hZ hM)
  · exact m_tableIn F e_L_law_40 (by omega) (by omega) (off := 1479) (tgt := 1519) (by rw [h]; rfl) (by decide) (lc_34 F hQ hH hX hb hl hT hZ hM)
  · exact m_tableIn F e_L_law_40 (by omega) (by omega) (off := 1560) (tgt := 1600) (by rw [h]; rfl) (by decide) (lc_35 F hQ hH hX hb hl hT hZ hM)
  · exact m_tableIn F e_L_law_40 (by omega) (by omega) (off := 1629) (tgt := 1669) (by rw [h]; rfl) (by decide) (lc_36 F hQ hH hX hb hl hT hZ hM)
  · exact m_tableIn F e_L_law_40 (by omega) (by omega) (off := 1642) (tgt := 1682) (by rw [h]; rfl) (by decide) (lc_37 F hQ hH hX hb hl hT hZ hM)
  · exact m_tableIn F e_L_law_40 (by omega) (by omega) (off := 1692) (tgt := 1732) (by rw [h]; rfl) (by decide) (lc_38 F hQ hH hX hb hl hT hZ hM)
  · exact m_tableIn F e_L_law_40 (by omega) (by omega) (off := 1705) (tgt := 1745) (by rw [h]; rfl) (by decide) (lc_39 F hQ hH hX hb hl hT hZ hM)
  · exact m_tableIn F e_L_law_40 (by omega) (by omega) (off := 1718) (tgt := 1758) (by rw [h]; rfl) (by decide) (lc_40 F hQ hH hX hb hl hT hZ hM)
  · exact m_tableIn F e_L_law_40 (by omega) (by omega) (off := 1731) (tgt := 1771) (by rw [h]; rfl) (by decide) (lc_41 F hQ hH hX hb hl hT hZ hM)
theorem lt6 {L : Nat} (h : L < 6) : (Int32.ofNat L - 6 : Int32) < 0 := by
  rcases (show L = 0 ∨ L = 1 ∨ L = 2 ∨ L = 3 ∨ L = 4 ∨ L = 5 by omega) with rfl | rfl | rfl | rfl | rfl | rfl <;> decide
theorem law_head {V : VX} {X : MX} {nm : String} {b sb N sa L : Nat} {xs : Nat → Int32} {σ : Mem} (F : Fx V X (yLw nm) cL_law 7 ret room_1) (hQ : QW X) (hH : V.2.2 = (x_s X).heap) (hX : va_X sb L xs (x_s X) V.2.2) (hb : sb < V.2.2.size) (hl : (x_l X).stackTraces = false) (hT : TW V sa (x_s X)) (hZ : LLz V σ b) (hM : MZ V σ (b + 1457)) (hL : L ≤ 6) : Wm V X 7 N σ 1481 70582 23 [(4, .int 0), (3, .ref (b + 1480)), (2, .ref (b + 1457)), (1, .ref b), (0, .ref sb)] [] := by
  refine m_iload F rfl e_L_law_23 ?_
  refine m_aload_n F rfl e_L_law_25 ?_
  refine m_slen F e_L_law_26 hX hb ?_
  refine m_bipush F (v := 6) (by decide) e_L_law_27 ?_
  refine m_isub F e_L_law_29 ?_
  by_cases h6 : L < 6
  · refine m_icmp_gt F e_L_law_30 (fun _ => m_lend F hQ hH (Nat.le_of_ble_eq_true rfl) (Nat.le_of_ble_eq_true rfl)) (fun q => absurd (lt6 h6) q)
  have e6 : L = 6 := by omega
  subst e6
  refine Wm.topE (w := 0) (by decide) ?_
  refine m_icmp_gt F e_L_law_30 (fun q => absurd q (by decide)) (fun _ => ?_)
  refine m_aload_n F rfl e_L_law_33 ?_
  refine m_iload F rfl e_L_law_34 ?_
  refine m_sld F (j := 0) e_L_law_36 hX hb (by decide) (by unfold vp_in; decide) ?_
  refine m_bipush F (v := 63) (by decide) e_L_law_37 ?_
  refine m_iand F e_L_law_39 ?_
  exact law_switch F hQ hH hX hb hl hT hZ hM
set_option maxRecDepth 20000 in
theorem law_begin {V : VX} {X : MX} {nm : String} {b sb sa L : Nat} {xs : Nat → Int32} {σ : Mem} (F : Fx V X (yLw nm) cL_law 7 ret room_1) (hQ : QW X) (hH : V.2.2 = (x_s X).heap) (hX : va_X sb L xs (x_s X) V.2.2) (hb : sb < V.2.2.size) (hl : (x_l X).stackTraces = false) (hT : TW V sa (x_s X)) (hL : L ≤ 6) : Wm V X 7 b σ 0 0 0 [(0, .ref sb)] [] := by
  refine m_new F e_L_law_0 fn_L_8 (k' := 1) (z' := 13) (N' := b + 1) rfl rfl rfl (Nat.le_of_ble_eq_true rfl) (Nat.le_of_ble_eq_true rfl) ?_
  refine m_dup F rfl e_L_law_3 ?_
  refine m_callI F e_L_law_4 (k_Ledger_init (x_l X) V _ b ru_eq) cb_X9_init ml_L_17 im_X9_init rfl rfl (rest := [.ref b]) rfl (Nat.le_of_ble_eq_true rfl) ⟨Nat.le_of_ble_eq_true rfl, Nat.le_of_ble_eq_true rfl⟩ ⟨Nat.le_of_ble_eq_true rfl, Nat.le_of_ble_eq_true rfl⟩ (k' := 1457) (z' := 42616) (N' := b + 1457) rfl rfl rfl (fun r τ1 hp => ?_)
  obtain ⟨rfl, hZ, hf⟩ := hp
  refine m_astore_n F (lv' := [(1, .ref b), (0, .ref sb)]) e_L_law_7 (by decide) rfl ?_
  refine m_new F e_L_law_8 fn_L_18 (k' := 1458) (z' := 42653) (N' := b + 1458) rfl rfl rfl (Nat.le_of_ble_eq_true rfl) (Nat.le_of_ble_eq_true rfl) ?_
  refine m_dup F rfl e_L_law_11 ?_
  refine m_callI F e_L_law_12 (k_Model_init (x_l X) V _ (b + 1457) ru_eq) cb_X10_init ml_L_20 im_X10_init rfl rfl (rest := [.ref (b + 1457)]) rfl (Nat.le_of_ble_eq_true rfl) ⟨Nat.le_of_ble_eq_true rfl, Nat.le_of_ble_eq_true rfl⟩ ⟨Nat.le_of_ble_eq_true rfl, Nat.le_of_ble_eq_true rfl⟩ (k' := 1480) (z' := 70581) (N' := b + 1480) rfl rfl rfl (fun r τ2 hp => ?_)
  obtain ⟨rfl, hM, hf2⟩ := hp
  replace hZ : LLz V τ2 b := hZ.keep (fun x g1 g2 => (hf2 x g2).trans (ru_ne (by omega) rfl))
  refine m_astore_n F (lv' := [(2, .ref (b + 1457)), (1, .ref b), (0, .ref sb)]) e_L_law_15 (by decide) rfl ?_
  refine m_iconst F (v := 1) (by decide) e_L_law_16 ?_
  refine m_newJ F (len := 1) e_L_law_17 arr_long (by decide) (by decide) (by decide) (k' := 1481) (z' := 70582) (N' := b + 1481) rfl rfl rfl (Nat.le_of_ble_eq_true rfl) (Nat.le_of_ble_eq_true rfl) ?_
  refine m_astore_n F (lv' := [(3, .ref (b + 1480)), (2, .ref (b + 1457)), (1, .ref b), (0, .ref sb)]) e_L_law_19 (by decide) rfl ?_
  refine m_iconst F (v := 0) (by decide) e_L_law_20 ?_
  refine m_istore F (lv' := [(4, .int 0), (3, .ref (b + 1480)), (2, .ref (b + 1457)), (1, .ref b), (0, .ref sb)]) e_L_law_21 (by decide) rfl ?_
  refine law_head F hQ hH hX hb hl hT ?_ ?_ hL
  · exact hZ.keep (fun x g1 g2 => ru_ne (by omega) rfl)
  · exact hM.keep (fun x g1 g2 => ru_ne (by omega) rfl)
