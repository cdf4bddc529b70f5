set_option maxRecDepth 20000 in
theorem law_switch {V : VX} {X : MX} {nm : String} {b sb N k z i L M T : Nat} {xs : Nat → Int32} {σ : Mem} (F : Fx V X (yLw nm) cL_law 7 ret room_1) (hX : va_X sb L xs (x_s X) V.2.2) (hb : sb < V.2.2.size) (hl : (x_l X).stackTraces = false) (hi : i + 6 ≤ L) (hL : L ≤ 3072) (hk : k ≤ 2100) (hz : z ≤ 80000) (hM : M ≤ 10000000) (hI : IV V b M T σ) (hN : ∀ (N' M' T' : Nat) (σ' : Mem) (k' z' : Nat), k' ≤ k + 1 → z' ≤ z + 6 → M' ≤ M + 10000 → IV V b M' T' σ' → Wm V X 7 N' σ' k' z' 1745 [(4, .int (nI i)), (3, .ref (b + 1480)), (2, .ref (b + 1457)), (1, .ref b), (0, .ref sb)] []) : Wm V X 7 N σ k z 40 [(4, .int (nI i)), (3, .ref (b + 1480)), (2, .ref (b + 1457)), (1, .ref b), (0, .ref sb)] [.int (xs i &&& 63)] := by
  by_cases ho : (xs i &&& 63 : Int32).toInt < 0 ∨ 41 < (xs i &&& 63 : Int32).toInt
  · exact m_tableOut F e_L_law_40 ho (tgt := 1745) (by decide) (hN _ _ _ _ _ _ (by omega) (by omega) (by omega) hI)
  have hq : (xs i &&& 63 : Int32).toInt = 0 ∨ (xs i &&& 63 : Int32).toInt = 1 ∨ (xs i &&& 63 : Int32).toInt = 2 ∨ (xs i &&& 63 : Int32).toInt = 3 ∨ (xs i &&& 63 : Int32).toInt = 4 ∨ (xs i &&& 63 : Int32).toInt = 5 ∨ (xs i &&& 63 : Int32).toInt = 6 ∨ (xs i &&& 63 : Int32).toInt = 7 ∨ (xs i &&& 63 : Int32).toInt = 8 ∨ (xs i &&& 63 : Int32).toInt = 9 ∨ (xs i &&& 63 : Int32).toInt = 10 ∨ (xs i &&& 63 : Int32).toInt = 11 ∨ (xs i &&& 63 : Int32).toInt = 12 ∨ (xs i &&& 63 : Int32).toInt = 13 ∨ (xs i &&& 63 : Int32).toInt = 14 ∨ (xs i &&& 63 : Int32).toInt = 15 ∨ (xs i &&& 63 : Int32).toInt = 16 ∨ (xs i &&& 63 : Int32).toInt = 17 ∨ (xs i &&& 63 : Int32).toInt = 18 ∨ (xs i &&& 63 : Int32).toInt = 19 ∨ (xs i &&& 63 : Int32).toInt = 20 ∨ (xs i &&& 63 : Int32).toInt = 21 ∨ (xs i &&& 63 : Int32).toInt = 22 ∨ (xs i &&& 63 : Int32).toInt = 23 ∨ (xs i &&& 63 : Int32).toInt = 24 ∨ (xs i &&& 63 : Int32).toInt = 25 ∨ (xs i &&& 63 : Int32).toInt = 26 ∨ (xs i &&& 63 : Int32).toInt = 27 ∨ (xs i &&& 63 : Int32).toInt = 28 ∨ (xs i &&& 63 : Int32).toInt = 29 ∨ (xs i &&& 63 : Int32).toInt = 30 ∨ (xs i &&& 63 : Int32).toInt = 31 ∨ (xs i &&& 63 : Int32).toInt = 32 ∨ (xs i &&& 63 : Int32).toInt = 33 ∨ (xs i &&& 63 : Int32).toInt = 34 ∨ (xs i &&& 63 : Int32).toInt = 35 ∨ (xs i &&& 63 : Int32).toInt = 36 ∨ (xs i &&& 63 : Int32).toInt = 37 ∨ (xs i &&& 63 : Int32).toInt = 38 ∨ (xs i &&& 63 : Int32).toInt = 39 ∨ (xs i &&& 63 : Int32).toInt = 40 ∨ (xs i &&& 63 : Int32).toInt = 41 := by omega
  rcases hq with h | h | h | h | h | h | h | h | h | h | h | h | h | h | h | h | h | h | h | h | h | h | h | h | h | h | h | h | h | h | h | h | h | h | h | h | h | h | h | h | h | h
  · exact m_tableIn F e_L_law_40 (by omega) (by omega) (off := 184) (tgt := 224) (by rw [h]; rfl) (by decide) (lc_0 F hX hb hl hi hL hk hz hM hI hN)
  · exact m_tableIn F e_L_law_40 (by omega) (by omega) (off := 257) (tgt := 297) (by rw [h]; rfl) (by decide) (lc_1 F hX hb hl hi hL hk hz hM hI hN)
  · exact m_tableIn F e_L_law_40 (by omega) (by omega) (off := 282) (tgt := 322) (by rw [h]; rfl) (by decide) (lc_2 F hX hb hl hi hL hk hz hM hI hN)
  · exact m_tableIn F e_L_law_40 (by omega) (by omega) (off := 307) (tgt := 347) (by rw [h]; rfl) (by decide) (lc_3 F hX hb hl hi hL hk hz hM hI hN)
  · exact m_tableIn F e_L_law_40 (by omega) (by omega) (off := 332) (tgt := 372) (by rw [h]; rfl) (by decide) (lc_4 F hX hb hl hi hL hk hz hM hI hN)
  · exact m_tableIn F e_L_law_40 (by omega) (by omega) (off := 357) (tgt := 397) (by rw [h]; rfl) (by decide) (lc_5 F hX hb hl hi hL hk hz hM hI hN)
  · exact m_tableIn F e_L_law_40 (by omega) (by omega) (off := 397) (tgt := 437) (by rw [h]; rfl) (by decide) (lc_6 F hX hb hl hi hL hk hz hM hI hN)
  · exact m_tableIn F e_L_law_40 (by omega) (by omega) (off := 434) (tgt := 474) (by rw [h]; rfl) (by decide) (lc_7 F hX hb hl hi hL hk hz hM hI hN)
  · exact m_tableIn F e_L_law_40 (by omega) (by omega) (off := 471) (tgt := 511) (by rw [h]; rfl) (by decide) (lc_8 F hX hb hl hi hL hk hz hM hI hN)
  · exact m_tableIn F e_L_law_40 (by omega) (by omega) (off := 520) (tgt := 560) (by rw [h]; rfl) (by decide) (lc_9 F hX hb hl hi hL hk hz hM hI hN)
  · exact m_tableIn F e_L_law_40 (by omega) (by omega) (off := 545) (tgt := 585) (by rw [h]; rfl) (by decide) (lc_10 F hX hb hl hi hL hk hz hM hI hN)
  · exact m_tableIn F e_L_law_40 (by omega) (by omega) (off := 570) (tgt := 610) (by rw [h]; rfl) (by decide) (lc_11 F hX hb hl hi hL hk hz hM hI hN)
  · exact m_tableIn F e_L_law_40 (by omega) (by omega) (off := 607) (tgt := 647) (by rw [h]; rfl) (by decide) (lc_12 F hX hb hl hi hL hk hz hM hI hN)
  · exact m_tableIn F e_L_law_40 (by omega) (by omega) (off := 644) (tgt := 684) (by rw [h]; rfl) (by decide) (lc_13 F hX hb hl hi hL hk hz hM hI hN)
  · exact m_tableIn F e_L_law_40 (by omega) (by omega) (off := 681) (tgt := 721) (by rw [h]; rfl) (by decide) (lc_14 F hX hb hl hi hL hk hz hM hI hN)
  · exact m_tableIn F e_L_law_40 (by omega) (by omega) (off := 706) (tgt := 746) (by rw [h]; rfl) (by decide) (lc_15 F hX hb hl hi hL hk hz hM hI hN)
  · exact m_tableIn F e_L_law_40 (by omega) (by omega) (off := 743) (tgt := 783) (by rw [h]; rfl) (by decide) (lc_16 F hX hb hl hi hL hk hz hM hI hN)
  · exact m_tableIn F e_L_law_40 (by omega) (by omega) (off := 768) (tgt := 808) (by rw [h]; rfl) (by decide) (lc_17 F hX hb hl hi hL hk hz hM hI hN)
  · exact m_tableIn F e_L_law_40 (by omega) (by omega) (off := 837) (tgt := 877) (by rw [h]; rfl) (by decide) (lc_18 F hX hb hl hi hL hk hz hM hI hN)
  · exact m_tableIn F e_L_law_40 (by omega) (by omega) (off := 886) (tgt := 926) (by rw [h]; rfl) (by decide) (lc_19 F hX hb hl hi hL hk hz hM hI hN)
  · exact m_tableIn F e_L_law_40 (by omega) (by omega) (off := 911) (tgt := 951) (by rw [h]; rfl) (by decide) (lc_20 F hX hb hl hi hL hk hz hM hI hN)
  · exact m_tableIn F e_L_law_40 (by omega) (by omega) (off := 960) (tgt := 1000) (by rw [h]; rfl) (by decide) (lc_21 F hX hb hl hi hL hk hz hM hI hN)
  · exact m_tableIn F e_L_law_40 (by omega) (by omega) (off := 985) (tgt := 1025) (by rw [h]; rfl) (by decide) (lc_22 F hX hb hl hi hL hk hz hM hI hN)
  · exact m_tableIn F e_L_law_40 (by omega) (by omega) (off := 1022) (tgt := 1062) (by rw [h]; rfl) (by decide) (lc_23 F hX hb hl hi hL hk hz hM hI hN)
  · exact m_tableIn F e_L_law_40 (by omega) (by omega) (off := 1059) (tgt := 1099) (by rw [h]; rfl) (by decide) (lc_24 F hX hb hl hi hL hk hz hM hI hN)
  · exact m_tableIn F e_L_law_40 (by omega) (by omega) (off := 1096) (tgt := 1136) (by rw [h]; rfl) (by decide) (lc_25 F hX hb hl hi hL hk hz hM hI hN)
  · exact m_tableIn F e_L_law_40 (by omega) (by omega) (off := 1121) (tgt := 1161) (by rw [h]; rfl) (by decide) (lc_26 F hX hb hl hi hL hk hz hM hI hN)
  · exact m_tableIn F e_L_law_40 (by omega) (by omega) (off := 1174) (tgt := 1214) (by rw [h]; rfl) (by decide) (lc_27 F hX hb hl hi hL hk hz hM hI hN)
  · exact m_tableIn F e_L_law_40 (by omega) (by omega) (off := 1199) (tgt := 1239) (by rw [h]; rfl) (by decide) (lc_28 F hX hb hl hi hL hk hz hM hI hN)
  · exact m_tableIn F e_L_law_40 (by omega) (by omega) (off := 1268) (tgt := 1308) (by rw [h]; rfl) (by decide) (lc_29 F hX hb hl hi hL hk hz hM hI hN)
  · exact m_tableIn F e_L_law_40 (by omega) (by omega) (off := 1305) (tgt := 1345) (by rw [h]; rfl) (by decide) (lc_30 F hX hb hl hi hL hk hz hM hI hN)
  · exact m_tableIn F e_L_law_40 (by omega) (by omega) (off := 1330) (tgt := 1370) (by rw [h]; rfl) (by decide) (lc_31 F hX hb hl hi hL hk hz hM hI hN)
  · exact m_tableIn F e_L_law_40 (by omega) (by omega) (off := 1367) (tgt := 1407) (by rw [h]; rfl) (by decide) (lc_32 F hX hb hl hi hL hk hz hM hI hN)
  · exact m_tableIn F e_L_law_40 (by omega) (by omega) (off := 1404) (tgt := 1444) (by rw [h]; rfl) (by decide) (lc_33 F hX hb hl hi hL hk hz hM hI hN)
  · exact m_tableIn F e_L_law_40 (by omega) (by omega) (off := 1429) (tgt := 1469) (by rw [h]; rfl) (by decide) (lc_34 F hX hb hl hi hL hk hz hM hI hN)
  · exact m_tableIn F e_L_law_40 (by omega) (by omega) (off := 1510) (tgt := 1550) (by rw [h]; rfl) (by decide) (lc_35 F hX hb hl hi hL hk hz hM hI hN)
  · exact m_tableIn F e_L_law_40 (by omega) (by omega) (off := 1579) (tgt := 1619) (by rw [h]; rfl) (by decide) (lc_36 F hX hb hl hi hL hk hz hM hI hN)
  · exact m_tableIn F e_L_law_40 (by omega) (by omega) (off := 1592) (tgt := 1632) (by rw [h]; rfl) (by decide) (lc_37 F hX hb hl hi hL hk hz hM hI hN)
  · exact m_tableIn F e_L_law_40 (by omega) (by omega) (off := 1641) (tgt := 1681) (by rw [h]; rfl) (by decide) (lc_38 F hX hb hl hi hL hk hz hM hI hN)
  · exact m_tableIn F e_L_law_40 (by omega) (by omega) (off := 1654) (tgt := 1694) (by rw [h]; rfl) (by decide) (lc_39 F hX hb hl hi hL hk hz hM hI hN)
  · exact m_tableIn F e_L_law_40 (by omega) (by omega) (off := 1667) (tgt := 1707) (by rw [h]; rfl) (by decide) (lc_40 F hX hb hl hi hL hk hz hM hI hN)
  · exact m_tableIn F e_L_law_40 (by omega) (by omega) (off := 1680) (tgt := 1720) (by rw [h]; rfl) (by decide) (lc_41 F hX hb hl hi hL hk hz hM hI hN)
theorem lt6 {L : Nat} (h : L < 6) : (Int32.ofNat L - 6 : Int32) < 0 := by
  rcases (show L = 0 ∨ L = 1 ∨ L = 2 ∨ L = 3 ∨ L = 4 ∨ L = 5 by omega) with rfl | rfl | rfl | rfl | rfl | rfl <;> decide
set_option maxRecDepth 20000 in
theorem law_loop {V : VX} {X : MX} {nm : String} {b sb L : Nat} {xs : Nat → Int32} (F : Fx V X (yLw nm) cL_law 7 ret room_1) (hQ : QW X) (hH : V.2.2 = (x_s X).heap) (hX : va_X sb L xs (x_s X) V.2.2) (hb : sb < V.2.2.size) (hl : (x_l X).stackTraces = false) (hL : L ≤ 3072) : ∀ (fuel i j N M T : Nat) (σ : Mem) (k z : Nat), IV V b M T σ → i = 6 * j → i ≤ 3072 → k ≤ 1481 + j → z ≤ 70582 + 6 * j → M ≤ 10000 * j → 3072 - i < fuel → Wm V X 7 N σ k z 23 [(4, .int (nI i)), (3, .ref (b + 1480)), (2, .ref (b + 1457)), (1, .ref b), (0, .ref sb)] [] := by
  intro fuel
  induction fuel with
  | zero => intros; rename_i hm; exact absurd hm (Nat.not_lt_zero _)
  | succ fuel ih =>
    intro i j N M T σ k z hI hj hi3 hk hz hM hm
    refine m_iload F rfl e_L_law_23 ?_
    refine m_aload_n F rfl e_L_law_25 ?_
    refine m_slen F e_L_law_26 hX hb ?_
    refine m_bipush F (v := 6) (by decide) e_L_law_27 ?_
    refine m_isub F e_L_law_29 ?_
    by_cases h6 : L < 6
    · exact m_icmp_gt F e_L_law_30 (fun _ => m_lend F hQ hH (by omega) (by omega)) (fun q => absurd (Int32.lt_of_lt_of_le (lt6 h6) (nI_0le (by omega))) q)
    refine Wm.topE (w := nI (L - 6)) (pk_sub (a := L) (b := 6) (by omega)) ?_
    refine m_icmp_gt F e_L_law_30 (fun q => ?_) (fun q => ?_)
    · exact m_lend F hQ hH (by omega) (by omega)
    · have c30 : i ≤ L - 6 := by have h9 := mt (nI_ltI (a := L - 6) (b := i) (by omega) (by omega)).mpr q; omega
      refine m_aload_n F rfl e_L_law_33 ?_
      refine m_iload F rfl e_L_law_34 ?_
      refine m_sld F (j := i) e_L_law_36 hX hb (nI_clamp (by omega)) (vp_in_nI (by omega) (by omega)) ?_
      refine m_bipush F (v := 63) (by decide) e_L_law_37 ?_
      refine m_iand F e_L_law_39 ?_
      refine law_switch F hX hb hl (by omega) hL (by omega) (by omega) (by omega) hI (fun N' M' T' σ' k' z' a1 a2 a3 a4 => ?_)
      refine m_iinc F (v := nI (i + 6)) (lv' := [(4, .int (nI (i + 6))), (3, .ref (b + 1480)), (2, .ref (b + 1457)), (1, .ref b), (0, .ref sb)]) e_L_law_1745 rfl (nI_add i 6) (by decide) rfl ?_
      refine m_goto F e_L_law_1748 ?_
      exact ih (i + 6) (j + 1) N' M' T' σ' k' z' a4 (by omega) (by omega) (by omega) (by omega) (by omega) (by omega)
theorem MZ.keep {V : VX} {σ τ : Mem} {m : Nat} (h : MZ V σ m) (hk : ∀ x, m ≤ x → x ≤ m + 22 → τ x = σ x) : MZ V τ m := by
  obtain ⟨a0, a1, a2, a3, a4, a5, a6, a7, a8, a9, a10, a11, a12, a13, a14, a15, a16, a17, a18, a19, a20, a21, a22⟩ := h
  exact ⟨(hk _ (by omega) (by omega)).trans a0, (hk _ (by omega) (by omega)).trans a1, (hk _ (by omega) (by omega)).trans a2, (hk _ (by omega) (by omega)).trans a3, (hk _ (by omega) (by omega)).trans a4, (hk _ (by omega) (by omega)).trans a5, (hk _ (by omega) (by omega)).trans a6, (hk _ (by omega) (by omega)).trans a7, (hk _ (by omega) (by omega)).trans a8, (hk _ (by omega) (by omega)).trans a9, (hk _ (by omega) (by omega)).trans a10, (hk _ (by omega) (by omega)).trans a11, (hk _ (by omega) (by omega)).trans a12, (hk _ (by omega) (by omega)).trans a13, (hk _ (by omega) (by omega)).trans a14, (hk _ (by omega) (by omega)).trans a15, (hk _ (by omega) (by omega)).trans a16, (hk _ (by omega) (by omega)).trans a17, (hk _ (by omega) (by omega)).trans a18, (hk _ (by omega) (by omega)).trans a19, (hk _ (by omega) (by omega)).trans a20, (hk _ (by omega) (by omega)).trans a21, (hk _ (by omega) (by omega)).trans a22⟩
theorem LLz.keep {V : VX} {σ τ : Mem} {b : Nat} (h : LLz V σ b) (hk : ∀ x, b ≤ x → x < b + 1457 → τ x = σ x) : LLz V τ b := by
  obtain ⟨a0, a1, a2, a3, a4, a5, a6, a7, b0, b1, b2, b3⟩ := h
  exact ⟨(hk _ (by omega) (by omega)).trans a0, (hk _ (by omega) (by omega)).trans a1, (hk _ (by omega) (by omega)).trans a2, (hk _ (by omega) (by omega)).trans a3, (hk _ (by omega) (by omega)).trans a4, (hk _ (by omega) (by omega)).trans a5, (hk _ (by omega) (by omega)).trans a6, (hk _ (by omega) (by omega)).trans a7, b0.keep (fun x g1 g2 => hk x (by omega) (by omega)), b1.keep (fun x g1 g2 => hk x (by omega) (by omega)), b2.keep (fun x g1 g2 => hk x (by omega) (by omega)), fun j hj => (b3 j hj).keep (fun x g1 g2 => hk x (by omega) (by omega))⟩
set_option maxRecDepth 20000 in
theorem law_begin {V : VX} {X : MX} {nm : String} {b sb L : Nat} {xs : Nat → Int32} {σ : Mem} (F : Fx V X (yLw nm) cL_law 7 ret room_1) (hQ : QW X) (hH : V.2.2 = (x_s X).heap) (hX : va_X sb L xs (x_s X) V.2.2) (hb : sb < V.2.2.size) (hl : (x_l X).stackTraces = false) (hL : L ≤ 3072) : Wm V X 7 b σ 0 0 0 [(0, .ref sb)] [] := by
  refine m_new F e_L_law_0 fn_L_8 (k' := 1) (z' := 13) (N' := b + 1) rfl rfl rfl (Nat.le_of_ble_eq_true rfl) (Nat.le_of_ble_eq_true rfl) ?_
  refine m_dup F rfl e_L_law_3 ?_
  refine m_callI F e_L_law_4 (k_Ledger_init (x_l X) V _ b ru_eq) cb_X9_init ml_L_17 im_X9_init rfl rfl (rest := [.ref b]) rfl (Nat.le_of_ble_eq_true rfl) ⟨Nat.le_of_ble_eq_true rfl, Nat.le_of_ble_eq_true rfl⟩ ⟨Nat.le_of_ble_eq_true rfl, Nat.le_of_ble_eq_true rfl⟩ (k' := 1457) (z' := 42616) (N' := b + 1457) rfl rfl rfl (fun r τ1 hp => ?_)
  obtain ⟨rfl, hZ, hf⟩ := hp
  refine m_astore_n F (lv' := [(1, .ref b), (0, .ref sb)]) e_L_law_7 (by decide) rfl ?_
  refine m_new F e_L_law_8 fn_L_18 (k' := 1458) (z' := 42653) (N' := b + 1458) rfl rfl rfl (Nat.le_of_ble_eq_true rfl) (Nat.le_of_ble_eq_true rfl) ?_
  refine m_dup F rfl e_L_law_11 ?_
  refine m_callI F e_L_law_12 (k_Model_init (x_l X) V _ (b + 1457) ru_eq) cb_X10_init ml_L_20 im_X10_init rfl rfl (rest := [.ref (b + 1457)]) rfl (Nat.le_of_ble_eq_true rfl) ⟨Nat.le_of_ble_eq_true rfl, Nat.le_of_ble_eq_true rfl⟩ ⟨Nat.le_of_ble_eq_true rfl, Nat.le_of_ble_eq_true rfl⟩ (k' := 1480) (z' := 70581) (N' := b + 1480) rfl rfl rfl (fun r τ2 hp => ?_)
  obtain ⟨rfl, hM, hf2⟩ := hp
  replace hZ : LLz V τ2 b := hZ.keep (fun x g1 g2 => (hf2 x g2).trans (ru_ne (by omega) rfl))
  refine m_astore_n F (lv' := [(2, .ref (b + 1457)), (1, .ref b), (0, .ref sb)]) e_L_law_15 (by decide) rfl ?_
  refine m_iconst F (v := 1) (by decide) e_L_law_16 ?_
  refine m_newJ F (len := 1) e_L_law_17 arr_long (by decide) (by decide) (by decide) (k' := 1481) (z' := 70582) (N' := b + 1481) rfl rfl rfl (Nat.le_of_ble_eq_true rfl) (Nat.le_of_ble_eq_true rfl) ?_
  refine m_astore_n F (lv' := [(3, .ref (b + 1480)), (2, .ref (b + 1457)), (1, .ref b), (0, .ref sb)]) e_L_law_19 (by decide) rfl ?_
  refine m_iconst F (v := 0) (by decide) e_L_law_20 ?_
  refine m_istore F (lv' := [(4, .int 0), (3, .ref (b + 1480)), (2, .ref (b + 1457)), (1, .ref b), (0, .ref sb)]) e_L_law_21 (by decide) rfl ?_
  refine law_loop F hQ hH hX hb hl hL 3073 0 0 _ 0 0 _ _ _ ⟨by omega, G0, okG0, LLz.ht (hZ.keep (fun x g1 g2 => ru_ne (by omega) rfl)), ⟨_, ru_eq⟩, 0, 0, P0, L0, Gd.zero, MZ.hr (hM.keep (fun x g1 g2 => ru_ne (by omega) rfl)), ⟨rfl, fun i hi => absurd hi (Nat.not_lt_zero _)⟩, fun _ => 0, ⟨_, (hZ.keep (τ := _) (fun x g1 g2 => ru_ne (by omega) rfl)).2.1, fun i hi => absurd hi (Nat.not_lt_zero _)⟩, fun i hi => absurd hi (Nat.not_lt_zero _)⟩ rfl (by omega) (Nat.le_of_ble_eq_true rfl) (Nat.le_of_ble_eq_true rfl) (by omega) (by omega)
