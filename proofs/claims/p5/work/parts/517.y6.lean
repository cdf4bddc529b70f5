theorem QR.put {τ : Mem} {c nc p : Nat} (hp : p ≤ 99) (e1 : elI τ (c + 11) (8 + nc) = some (nI p)) : QR τ c (nc + 1) (p + 1) := Or.inr ⟨by omega, by omega, by omega, by rw [show 7 + (nc + 1) = 8 + nc by omega]; exact e1⟩
set_option maxRecDepth 20000 in
theorem q_X10_readChangeE (l : Launch) (V : VX) (c T Z u h : Nat) (P : NP) (L : Nat → LQ) (N : Nat) (σ : Mem) (n st : Nat) (so va : Int32) (ln : Nat) (fp : Int32) (t : Nat → Nat) (s9 v9 : Nat) (nm : Nat → Nat) (np lc no sd : Nat) (md : Nat → Nat → Bool) (h0 : HR V c ⟨T, Z, u, h, P, L⟩ σ) (hob : OKB L) (hP : OKP P) (hp0 : YD σ c n st so va ln 0 fp) (hp1 : BR σ c n t) (hp2 : n ≤ 700) (hp3 : P.a ≤ n) (hp4 : MT so va s9 v9) (hp5 : st ≤ n) (hp6 : NR σ c np no sd) (hp7 : MR σ c P.n5 nm) (hp8 : KR σ c P.n5 md) (hp9 : FR σ c 8 1 P.n5 md) (hp10 : FR σ c 9 2 P.n5 md) (hp11 : QR σ c P.n7 lc) (hp12 : np ≤ 12) (hp13 : no ≤ 4) (hp14 : sd ≤ 1) : Ct l V yX10_readChange cX10_readChange 5 none 8 0 0 N σ [.ref c] (fun r τ => ∃ P9 : NP, OKP P9 ∧ RP P P9 ∧ RM τ c n P9 (indexS (tok t n) (st, s9, v9, P.a) P.n5 nm np P.n7 lc no sd md ln) ∧ HS V c (⟨T, Z, u, h, P9, L⟩ : RG) [0, 2, 4, 5, 6, 7, 8, 9, 10, 11, 14, 15, 16, 17, 18, 19, 20, 21, 22, 23] σ τ ∧ r = none) := by
  refine Ct.of (by decide) (Nat.le_of_ble_eq_true rfl) [(0, .ref c)] rfl (fun X hX F hQ => ?_)
  have hPP := hP
  unfold OKP at hPP
  have h1 : HS V c ⟨T, Z, u, h, P, L⟩ [0, 2, 4, 5, 6, 7, 8, 9, 10, 11, 14, 15, 16, 17, 18, 19, 20, 21, 22, 23] σ σ := HS.start h0
  have hyd12458 := hp0
  obtain ⟨yd12458, yd12459, yd12460, yd12461, yd12462, yd12463, yd12464⟩ := hyd12458
  have hn7 := hp2
  refine m_bipush F (v := 8) (by decide) e_X10_readChange_0 ?_
  refine m_aload_n F rfl e_X10_readChange_2 ?_
  refine m_iconst F (v := 2) (by decide) e_X10_readChange_3 ?_
  refine r_callV F e_X10_readChange_4 (q_X10_reading2 (x_l X) V c T Z u h P L _ _  h1.1 (hob) hP ) cb_X10_reading ml_X10_157 im_X10_reading se_X10_reading h1 rfl rfl (rest := [.int 8]) rfl (Nat.le_of_ble_eq_true rfl) ⟨Nat.le_of_ble_eq_true rfl, Nat.le_of_ble_eq_true rfl⟩ ⟨Nat.le_of_ble_eq_true rfl, Nat.le_of_ble_eq_true rfl⟩ (fun r σ12465 hp => ?_)
  obtain ⟨h12466, rfl⟩ := hp
  have h12467 := HS.trans h1 h12466 (by decide)
  have ga12468 := hp1.of (h12466.2 (c + 1) (by rw [kC_at (k := 1) (by decide)]; decide))
  have ga12469 := hp6.of (h12466.2 (c + 2) (by rw [kC_at (k := 2) (by decide)]; decide))
  have ga12470 := hp7.of (h12466.2 (c + 3) (by rw [kC_at (k := 3) (by decide)]; decide))
  have ga12471 := hp8.of (h12466.2 (c + 7) (by rw [kC_at (k := 7) (by decide)]; decide))
  have ga12472 := hp9.of (h12466.2 (c + 8) (by rw [kC_at (k := 8) (by decide)]; decide))
  have ga12473 := hp10.of (h12466.2 (c + 9) (by rw [kC_at (k := 9) (by decide)]; decide))
  have ga12474 := hp11.of (h12466.2 (c + 11) (by rw [kC_at (k := 11) (by decide)]; decide))
  refine Wm.topE (w := nI P.n7) (congrArg nI (by omega)) ?_
  refine m_iadd F e_X10_readChange_7 ?_
  refine Wm.topE (w := nI (8 + P.n7)) (nI_add 8 P.n7) ?_
  refine m_istore_n F (lv' := [(1, .int (nI (8 + P.n7))), (0, .ref c)]) e_X10_readChange_8 (by decide) rfl ?_
  refine m_iload_n F rfl e_X10_readChange_9 ?_
  refine m_bipush F (v := 16) (by decide) e_X10_readChange_10 ?_
  refine m_icmp_ne F e_X10_readChange_12 (fun q12 => ?_) (fun q12 => ?_)
  · have c12 : (8 + P.n7) ≠ 16 := by have hh := mt (nI_eq (a := (8 + P.n7)) (b := 16) (by omega) (by omega)).mpr q12; omega
    refine m_aload_n F rfl e_X10_readChange_20 ?_
    refine r_callV F e_X10_readChange_21 (q_X10_goOnE (x_l X) V c T Z u h P L _ _  n st so va ln fp t h12467.1 (hob) hP  ⟨((fld_eq (h12466.2 c (by rw [show kC c c = 1 from kC_at (k := 0) (by decide)]; decide))).trans yd12458), ((fld_eq (h12466.2 c (by rw [show kC c c = 1 from kC_at (k := 0) (by decide)]; decide))).trans yd12459), ((fld_eq (h12466.2 c (by rw [show kC c c = 1 from kC_at (k := 0) (by decide)]; decide))).trans yd12460), ((fld_eq (h12466.2 c (by rw [show kC c c = 1 from kC_at (k := 0) (by decide)]; decide))).trans yd12461), ((fld_eq (h12466.2 c (by rw [show kC c c = 1 from kC_at (k := 0) (by decide)]; decide))).trans yd12462), ((fld_eq (h12466.2 c (by rw [show kC c c = 1 from kC_at (k := 0) (by decide)]; decide))).trans yd12463), ((fld_eq (h12466.2 c (by rw [show kC c c = 1 from kC_at (k := 0) (by decide)]; decide))).trans yd12464)⟩ ga12468 hn7 (by omega)) cb_X10_goOn ml_X10_154 im_X10_goOn se_X10_goOn h12467 rfl rfl (rest := []) rfl (Nat.le_of_ble_eq_true rfl) ⟨Nat.le_of_ble_eq_true rfl, Nat.le_of_ble_eq_true rfl⟩ ⟨Nat.le_of_ble_eq_true rfl, Nat.le_of_ble_eq_true rfl⟩ (fun r σ12475 hp => ?_)
    obtain ⟨P12478, oP12478, rP12478, pr12479, pr12480, h12476, hp⟩ := hp
    have h12477 := HS.trans h12467 h12476 (by decide)
    have xP12478 := oP12478
    unfold OKP at xP12478
    unfold RA at rP12478
    have ga12481 := ga12468.of (h12476.2 (c + 1) (by rw [kC_at (k := 1) (by decide)]; decide))
    have ga12482 := ga12469.of (h12476.2 (c + 2) (by rw [kC_at (k := 2) (by decide)]; decide))
    have ga12483 := ga12470.of (h12476.2 (c + 3) (by rw [kC_at (k := 3) (by decide)]; decide))
    have ga12484 := ga12471.of (h12476.2 (c + 7) (by rw [kC_at (k := 7) (by decide)]; decide))
    have ga12485 := ga12472.of (h12476.2 (c + 8) (by rw [kC_at (k := 8) (by decide)]; decide))
    have ga12486 := ga12473.of (h12476.2 (c + 9) (by rw [kC_at (k := 9) (by decide)]; decide))
    have ga12487 := ga12474.of (h12476.2 (c + 11) (by rw [kC_at (k := 11) (by decide)]; decide))
    obtain rfl := hp
    obtain ⟨so12488, va12489, mt12490, yd12491⟩ := pr12480
    generalize ek12492 : tok t n P.a = k12492 at pr12479 mt12490 yd12491
    have bk12492 := tok_ok (t := t) (n := n) P.a (by omega)
    rw [ek12492] at bk12492
    have hyd12493 := yd12491
    obtain ⟨yd12493, yd12494, yd12495, yd12496, yd12497, yd12498, yd12499⟩ := hyd12493
    refine m_aload_n F rfl e_X10_readChange_24 ?_
    refine m_iconst F (v := 2) (by decide) e_X10_readChange_25 ?_
    refine r_callV F e_X10_readChange_26 (q_X10_reading2 (x_l X) V c T Z u h P12478 L _ _  h12477.1 (hob) oP12478 ) cb_X10_reading ml_X10_157 im_X10_reading se_X10_reading h12477 rfl rfl (rest := []) rfl (Nat.le_of_ble_eq_true rfl) ⟨Nat.le_of_ble_eq_true rfl, Nat.le_of_ble_eq_true rfl⟩ ⟨Nat.le_of_ble_eq_true rfl, Nat.le_of_ble_eq_true rfl⟩ (fun r σ12500 hp => ?_)
    obtain ⟨h12501, rfl⟩ := hp
    have h12502 := HS.trans h12477 h12501 (by decide)
    have ga12503 := ga12481.of (h12501.2 (c + 1) (by rw [kC_at (k := 1) (by decide)]; decide))
    have ga12504 := ga12482.of (h12501.2 (c + 2) (by rw [kC_at (k := 2) (by decide)]; decide))
    have ga12505 := ga12483.of (h12501.2 (c + 3) (by rw [kC_at (k := 3) (by decide)]; decide))
    have ga12506 := ga12484.of (h12501.2 (c + 7) (by rw [kC_at (k := 7) (by decide)]; decide))
    have ga12507 := ga12485.of (h12501.2 (c + 8) (by rw [kC_at (k := 8) (by decide)]; decide))
    have ga12508 := ga12486.of (h12501.2 (c + 9) (by rw [kC_at (k := 9) (by decide)]; decide))
    have ga12509 := ga12487.of (h12501.2 (c + 11) (by rw [kC_at (k := 11) (by decide)]; decide))
    refine Wm.topE (w := nI P.n7) (congrArg nI (by omega)) ?_
    refine m_if_eq F e_X10_readChange_29 (fun q29 => ?_) (fun q29 => ?_)
    · have c29 : P.n7 = 0 := (nI_eq (a := P.n7) (b := 0) (by omega) (by omega)).mp q29
      have hlc : lc = 0 := by rcases hp11 with h9 | h9 <;> omega
      refine m_iconst F (v := 0) (by decide) e_X10_readChange_39 ?_
      refine m_goto F e_X10_readChange_40 ?_
      refine Wm.topE (w := nI lc) (by rw [hlc]; rfl) ?_
      have hlb : lc ≤ 100 := by rcases hp11 with h9 | h9 <;> omega
      refine m_istore_n F (lv' := [(2, .int (nI lc)), (1, .int (nI (8 + P.n7))), (0, .ref c)]) e_X10_readChange_53 (by decide) rfl ?_
      refine m_aload_n F rfl e_X10_readChange_54 ?_
      refine m_iload_n F rfl e_X10_readChange_55 ?_
      refine m_bipush F (v := 99) (by decide) e_X10_readChange_56 ?_
      refine r_callV F e_X10_readChange_58 (q_X10_numeralE (x_l X) V c T Z u h P12478 L _ _ lc 99 n k12492.1 so12488 va12489 ln fp t k12492.2.1 k12492.2.2.1 h12502.1 (hob) oP12478 (by omega) (by omega) ⟨((fld_eq (h12501.2 c (by rw [show kC c c = 1 from kC_at (k := 0) (by decide)]; decide))).trans yd12493), ((fld_eq (h12501.2 c (by rw [show kC c c = 1 from kC_at (k := 0) (by decide)]; decide))).trans yd12494), ((fld_eq (h12501.2 c (by rw [show kC c c = 1 from kC_at (k := 0) (by decide)]; decide))).trans yd12495), ((fld_eq (h12501.2 c (by rw [show kC c c = 1 from kC_at (k := 0) (by decide)]; decide))).trans yd12496), ((fld_eq (h12501.2 c (by rw [show kC c c = 1 from kC_at (k := 0) (by decide)]; decide))).trans yd12497), ((fld_eq (h12501.2 c (by rw [show kC c c = 1 from kC_at (k := 0) (by decide)]; decide))).trans yd12498), ((fld_eq (h12501.2 c (by rw [show kC c c = 1 from kC_at (k := 0) (by decide)]; decide))).trans yd12499)⟩ ga12503 hn7 (by omega) mt12490) cb_X10_numeral ml_X10_165 im_X10_numeral se_X10_numeral h12502 rfl rfl (rest := []) rfl (Nat.le_of_ble_eq_true rfl) ⟨Nat.le_of_ble_eq_true rfl, Nat.le_of_ble_eq_true rfl⟩ ⟨Nat.le_of_ble_eq_true rfl, Nat.le_of_ble_eq_true rfl⟩ (fun r σ12510 hp => ?_)
      obtain ⟨P12513, oP12513, rP12513, pr12514, h12511, hp⟩ := hp
      have h12512 := HS.trans h12502 h12511 (by decide)
      have xP12513 := oP12513
      unfold OKP at xP12513
      unfold RA at rP12513
      have ga12515 := ga12503.of (h12511.2 (c + 1) (by rw [kC_at (k := 1) (by decide)]; decide))
      have ga12516 := ga12504.of (h12511.2 (c + 2) (by rw [kC_at (k := 2) (by decide)]; decide))
      have ga12517 := ga12505.of (h12511.2 (c + 3) (by rw [kC_at (k := 3) (by decide)]; decide))
      have ga12518 := ga12506.of (h12511.2 (c + 7) (by rw [kC_at (k := 7) (by decide)]; decide))
      have ga12519 := ga12507.of (h12511.2 (c + 8) (by rw [kC_at (k := 8) (by decide)]; decide))
      have ga12520 := ga12508.of (h12511.2 (c + 9) (by rw [kC_at (k := 9) (by decide)]; decide))
      have ga12521 := ga12509.of (h12511.2 (c + 11) (by rw [kC_at (k := 11) (by decide)]; decide))
      rcases pr12514 with ⟨e12522, l12524, l12525, ea12526, ⟨so12527, va12528, mt12529, yd12530⟩, rfl⟩ | ⟨e12522, ⟨fa12531, fb12532⟩, rfl⟩ | ⟨e12522, e12523, ⟨fa12531, fb12532⟩, rfl⟩
      · have bk12533 := tok_ok (t := t) (n := n) P12478.a (by omega)
        generalize ek12533 : tok t n P12478.a = k12533 at ea12526 mt12529 yd12530 bk12533
        rw [show P12478.a = k12492.2.2.2 by omega] at ek12533
        have hyd12534 := yd12530
        obtain ⟨yd12534, yd12535, yd12536, yd12537, yd12538, yd12539, yd12540⟩ := hyd12534
        refine m_istore_n F (lv' := [(3, .int (nI k12492.2.2.1)), (2, .int (nI lc)), (1, .int (nI (8 + P.n7))), (0, .ref c)]) e_X10_readChange_61 (by decide) rfl ?_
        refine m_aload_n F rfl e_X10_readChange_62 ?_
        refine m_sipush F (v := 500) (by decide) e_X10_readChange_63 ?_
        refine m_sipush F (v := 2000) (by decide) e_X10_readChange_66 ?_
        refine r_callV F e_X10_readChange_69 (q_X10_numeralE (x_l X) V c T Z u h P12513 L _ _ 500 2000 n k12533.1 so12527 va12528 ln fp t k12533.2.1 k12533.2.2.1 h12512.1 (hob) oP12513 (by omega) (by omega) ⟨(yd12534), (yd12535), (yd12536), (yd12537), (yd12538), (yd12539), (yd12540)⟩ ga12515 hn7 (by omega) mt12529) cb_X10_numeral ml_X10_165 im_X10_numeral se_X10_numeral h12512 rfl rfl (rest := []) rfl (Nat.le_of_ble_eq_true rfl) ⟨Nat.le_of_ble_eq_true rfl, Nat.le_of_ble_eq_true rfl⟩ ⟨Nat.le_of_ble_eq_true rfl, Nat.le_of_ble_eq_true rfl⟩ (fun r σ12541 hp => ?_)
        obtain ⟨P12544, oP12544, rP12544, pr12545, h12542, hp⟩ := hp
        have h12543 := HS.trans h12512 h12542 (by decide)
        have xP12544 := oP12544
        unfold OKP at xP12544
        unfold RA at rP12544
        have ga12546 := ga12515.of (h12542.2 (c + 1) (by rw [kC_at (k := 1) (by decide)]; decide))
        have ga12547 := ga12516.of (h12542.2 (c + 2) (by rw [kC_at (k := 2) (by decide)]; decide))
        have ga12548 := ga12517.of (h12542.2 (c + 3) (by rw [kC_at (k := 3) (by decide)]; decide))
        have ga12549 := ga12518.of (h12542.2 (c + 7) (by rw [kC_at (k := 7) (by decide)]; decide))
        have ga12550 := ga12519.of (h12542.2 (c + 8) (by rw [kC_at (k := 8) (by decide)]; decide))
        have ga12551 := ga12520.of (h12542.2 (c + 9) (by rw [kC_at (k := 9) (by decide)]; decide))
        have ga12552 := ga12521.of (h12542.2 (c + 11) (by rw [kC_at (k := 11) (by decide)]; decide))
        rcases pr12545 with ⟨e12553, l12555, l12556, ea12557, ⟨so12558, va12559, mt12560, yd12561⟩, rfl⟩ | ⟨e12553, ⟨fa12562, fb12563⟩, rfl⟩ | ⟨e12553, e12554, ⟨fa12562, fb12563⟩, rfl⟩
        · have bk12564 := tok_ok (t := t) (n := n) P12513.a (by omega)
          generalize ek12564 : tok t n P12513.a = k12564 at ea12557 mt12560 yd12561 bk12564
          rw [show P12513.a = k12533.2.2.2 by omega] at ek12564
          have hyd12565 := yd12561
          obtain ⟨yd12565, yd12566, yd12567, yd12568, yd12569, yd12570, yd12571⟩ := hyd12565
          refine m_istore F (lv' := [(4, .int (nI k12533.2.2.1)), (3, .int (nI k12492.2.2.1)), (2, .int (nI lc)), (1, .int (nI (8 + P.n7))), (0, .ref c)]) e_X10_readChange_72 (by decide) rfl ?_
          refine m_aload_n F rfl e_X10_readChange_74 ?_
          refine r_getC F e_X10_readChange_75 fl_X10_141 h12543 (yd12570) ?_
          refine m_if_eq F e_X10_readChange_78 (fun _ => ?_) (fun q => absurd (by decide) q)
          refine m_aload_n F rfl e_X10_readChange_82 ?_
          refine r_get F e_X10_readChange_83 fl_X10_40 h12543 rfl (fun v hv f12572 => ?_)
          obtain rfl : v = .ref (c + 11) := hv
          refine m_iload_n F rfl e_X10_readChange_86 ?_
          refine m_iload_n F rfl e_X10_readChange_87 ?_
          refine r_iast F (g' := (⟨T, Z, u, h, P12544, L⟩ : RG)) (len := 16) (j := 8 + P.n7) e_X10_readChange_88 h12543 (fun _ h => h) (fun f h => ⟨f, rfl, h⟩) (by decide) (by decide) (nI_clamp (by omega)) (vp_in_nI (by omega) (by decide)) ⟨k12492.2.2.1, by omega, rfl⟩ (fun _ _ _ h => h) (fun _ _ _ h => h) (fun σ12573 h12574 g12575 f12576 g12577 => ?_)
          have ga12578 := ga12546.of (g12575 _ (by omega))
          have ga12579 := ga12547.of (g12575 _ (by omega))
          have ga12580 := ga12548.of (g12575 _ (by omega))
          have ga12581 := ga12549.of (g12575 _ (by omega))
          have ga12582 := ga12550.of (g12575 _ (by omega))
          have ga12583 := ga12551.of (g12575 _ (by omega))
          have ga12584 := QR.put (by omega) f12576
          refine m_aload_n F rfl e_X10_readChange_89 ?_
          refine r_get F e_X10_readChange_90 fl_X10_43 h12574 rfl (fun v hv f12585 => ?_)
          obtain rfl : v = .ref (c + 12) := hv
          refine m_iload_n F rfl e_X10_readChange_93 ?_
          refine m_iload F rfl e_X10_readChange_94 ?_
          refine r_iast F (g' := (⟨T, Z, u, h, (mkP P12544.n0 P12544.n2 P12544.n5 P12544.n7 P12544.m0 P12544.m5 P12544.w2 (P12544.n7 + 1) P12544.kk P12544.a P12544.b0 P12544.b1 P12544.b2 P12544.b3), L⟩ : RG)) (len := 16) (j := 8 + P.n7) e_X10_readChange_96 h12574 (fun _ h => h) (fun f h => ⟨f, rfl, h⟩) (by decide) (by decide) (nI_clamp (by omega)) (vp_in_nI (by omega) (by decide)) ⟨k12533.2.2.1, by omega, rfl, fun h7 _ => absurd h7 (by omega), fun _ _ => by omega⟩ (fun i hi y hy => by obtain ⟨n9, a9, b9, c9, d9⟩ := hy; exact ⟨n9, a9, b9, c9, fun h7 h8 => d9 h7 (show i < 8 + P12544.w7 by have h6 : i < 8 + (P12544.n7 + 1) := h8; omega)⟩) (CR.chg (by intro k hk i x h; unfold EI at h ⊢; split at h <;> first | exact h | exact absurd rfl hk | trivial) rfl rfl) (fun σ12586 h12587 g12588 f12589 g12590 => ?_)
          have ga12591 := ga12578.of (g12588 _ (by omega))
          have ga12592 := ga12579.of (g12588 _ (by omega))
          have ga12593 := ga12580.of (g12588 _ (by omega))
          have ga12594 := ga12581.of (g12588 _ (by omega))
          have ga12595 := ga12582.of (g12588 _ (by omega))
          have ga12596 := ga12583.of (g12588 _ (by omega))
          have ga12597 := ga12584.of (g12588 _ (by omega))
          obtain ⟨P12598, eP12598⟩ : ∃ P9, P9 = (mkP P12544.n0 P12544.n2 P12544.n5 P12544.n7 P12544.m0 P12544.m5 P12544.w2 (P12544.n7 + 1) P12544.kk P12544.a P12544.b0 P12544.b1 P12544.b2 P12544.b3) := ⟨_, rfl⟩
          rw [← eP12598] at h12587
          have fP12598 : P12598.n0 = P12544.n0 ∧ P12598.n2 = P12544.n2 ∧ P12598.n5 = P12544.n5 ∧ P12598.n7 = P12544.n7 ∧ P12598.m0 = P12544.m0 ∧ P12598.m5 = P12544.m5 ∧ P12598.w2 = P12544.w2 ∧ P12598.w7 = P12544.n7 + 1 ∧ P12598.kk = P12544.kk ∧ P12598.a = P12544.a ∧ P12598.b0 = P12544.b0 ∧ P12598.b1 = P12544.b1 ∧ P12598.b2 = P12544.b2 ∧ P12598.b3 = P12544.b3 := by rw [eP12598]; exact ⟨rfl, rfl, rfl, rfl, rfl, rfl, rfl, rfl, rfl, rfl, rfl, rfl, rfl, rfl⟩
          refine m_aload_n F rfl e_X10_readChange_97 ?_
          refine m_iconst F (v := 2) (by decide) e_X10_readChange_98 ?_
          refine m_aload_n F rfl e_X10_readChange_99 ?_
          refine m_iconst F (v := 2) (by decide) e_X10_readChange_100 ?_
          have oP12602 : OKP P12598 := by unfold OKP; omega
          refine r_callV F e_X10_readChange_101 (q_X10_reading2 (x_l X) V c T Z u h P12598 L _ _  h12587.1 (hob) oP12602 ) cb_X10_reading ml_X10_157 im_X10_reading se_X10_reading h12587 rfl rfl (rest := [.int 2, .ref c]) rfl (Nat.le_of_ble_eq_true rfl) ⟨Nat.le_of_ble_eq_true rfl, Nat.le_of_ble_eq_true rfl⟩ ⟨Nat.le_of_ble_eq_true rfl, Nat.le_of_ble_eq_true rfl⟩ (fun r σ12599 hp => ?_)
          obtain ⟨h12600, rfl⟩ := hp
          have h12601 := HS.trans h12587 h12600 (by decide)
          have ga12603 := ga12591.of (h12600.2 (c + 1) (by rw [kC_at (k := 1) (by decide)]; decide))
          have ga12604 := ga12592.of (h12600.2 (c + 2) (by rw [kC_at (k := 2) (by decide)]; decide))
          have ga12605 := ga12593.of (h12600.2 (c + 3) (by rw [kC_at (k := 3) (by decide)]; decide))
          have ga12606 := ga12594.of (h12600.2 (c + 7) (by rw [kC_at (k := 7) (by decide)]; decide))
          have ga12607 := ga12595.of (h12600.2 (c + 8) (by rw [kC_at (k := 8) (by decide)]; decide))
          have ga12608 := ga12596.of (h12600.2 (c + 9) (by rw [kC_at (k := 9) (by decide)]; decide))
          have ga12609 := ga12597.of (h12600.2 (c + 11) (by rw [kC_at (k := 11) (by decide)]; decide))
          refine Wm.topE (w := nI P.n7) (congrArg nI (by omega)) ?_
          refine m_iconst F (v := 1) (by decide) e_X10_readChange_104 ?_
          refine m_iadd F e_X10_readChange_105 ?_
          refine Wm.topE (w := nI (P.n7 + 1)) (nI_add P.n7 1) ?_
          refine r_callV F e_X10_readChange_106 (q_X10_reads2E (x_l X) V c T Z u h P12598 L _ _ (P.n7 + 1)  h12601.1 (hob) oP12602 (by omega) (by omega)) cb_X10_reads ml_X10_170 im_X10_reads se_X10_reads h12601 rfl rfl (rest := []) rfl (Nat.le_of_ble_eq_true rfl) ⟨Nat.le_of_ble_eq_true rfl, Nat.le_of_ble_eq_true rfl⟩ ⟨Nat.le_of_ble_eq_true rfl, Nat.le_of_ble_eq_true rfl⟩ (fun r σ12610 hp => ?_)
          obtain ⟨h12611, hp⟩ := hp
          have h12612 := HS.trans h12601 h12611 (by decide)
          have ga12613 := ga12603.of (h12611.2 (c + 1) (by rw [kC_at (k := 1) (by decide)]; decide))
          have ga12614 := ga12605.of (h12611.2 (c + 3) (by rw [kC_at (k := 3) (by decide)]; decide))
          have ga12615 := ga12606.of (h12611.2 (c + 7) (by rw [kC_at (k := 7) (by decide)]; decide))
          have ga12616 := ga12607.of (h12611.2 (c + 8) (by rw [kC_at (k := 8) (by decide)]; decide))
          have ga12617 := ga12608.of (h12611.2 (c + 9) (by rw [kC_at (k := 9) (by decide)]; decide))
          have ga12618 := ga12609.of (h12611.2 (c + 11) (by rw [kC_at (k := 11) (by decide)]; decide))
          obtain ⟨ea12619, eb12620, rfl⟩ := hp
          have ga12621 := NR.k ga12604 eb12620 (by decide) (by decide) (by decide)
          obtain ⟨P12622, eP12622⟩ : ∃ P9, P9 = (mkP P12598.n0 P12598.n2 P12598.n5 (P.n7 + 1) P12598.m0 P12598.m5 P12598.w2 P12598.w7 P12598.kk P12598.a P12598.b0 P12598.b1 P12598.b2 P12598.b3) := ⟨_, rfl⟩
          rw [← eP12622] at h12612
          have fP12622 : P12622.n0 = P12598.n0 ∧ P12622.n2 = P12598.n2 ∧ P12622.n5 = P12598.n5 ∧ P12622.n7 = P.n7 + 1 ∧ P12622.m0 = P12598.m0 ∧ P12622.m5 = P12598.m5 ∧ P12622.w2 = P12598.w2 ∧ P12622.w7 = P12598.w7 ∧ P12622.kk = P12598.kk ∧ P12622.a = P12598.a ∧ P12622.b0 = P12598.b0 ∧ P12622.b1 = P12598.b1 ∧ P12622.b2 = P12598.b2 ∧ P12622.b3 = P12598.b3 := by rw [eP12622]; exact ⟨rfl, rfl, rfl, rfl, rfl, rfl, rfl, rfl, rfl, rfl, rfl, rfl, rfl, rfl⟩
          have oP12623 : OKP P12622 := by unfold OKP; omega
          exact m_vret F hQ e_X10_readChange_109 (⟨P12622, oP12623, (by unfold RP; omega), (by unfold indexS; dsimp only; rw [if_neg (by omega), ek12492, numK_ok e12522 l12524 l12525, ek12533, numK_ok e12553 l12555 l12556, ek12564]; exact RM.r mt12560 ⟨((fld_eq (h12611.2 c (by rw [show kC c c = 1 from kC_at (k := 0) (by decide)]; decide))).trans ((fld_eq (h12600.2 c (by rw [show kC c c = 1 from kC_at (k := 0) (by decide)]; decide))).trans ((fld_eq (g12588 _ (by omega))).trans ((fld_eq (g12575 _ (by omega))).trans yd12565)))), ((fld_eq (h12611.2 c (by rw [show kC c c = 1 from kC_at (k := 0) (by decide)]; decide))).trans ((fld_eq (h12600.2 c (by rw [show kC c c = 1 from kC_at (k := 0) (by decide)]; decide))).trans ((fld_eq (g12588 _ (by omega))).trans ((fld_eq (g12575 _ (by omega))).trans yd12566)))), ((fld_eq (h12611.2 c (by rw [show kC c c = 1 from kC_at (k := 0) (by decide)]; decide))).trans ((fld_eq (h12600.2 c (by rw [show kC c c = 1 from kC_at (k := 0) (by decide)]; decide))).trans ((fld_eq (g12588 _ (by omega))).trans ((fld_eq (g12575 _ (by omega))).trans yd12567)))), ((fld_eq (h12611.2 c (by rw [show kC c c = 1 from kC_at (k := 0) (by decide)]; decide))).trans ((fld_eq (h12600.2 c (by rw [show kC c c = 1 from kC_at (k := 0) (by decide)]; decide))).trans ((fld_eq (g12588 _ (by omega))).trans ((fld_eq (g12575 _ (by omega))).trans yd12568)))), ((fld_eq (h12611.2 c (by rw [show kC c c = 1 from kC_at (k := 0) (by decide)]; decide))).trans ((fld_eq (h12600.2 c (by rw [show kC c c = 1 from kC_at (k := 0) (by decide)]; decide))).trans ((fld_eq (g12588 _ (by omega))).trans ((fld_eq (g12575 _ (by omega))).trans yd12569)))), ((fld_eq (h12611.2 c (by rw [show kC c c = 1 from kC_at (k := 0) (by decide)]; decide))).trans ((fld_eq (h12600.2 c (by rw [show kC c c = 1 from kC_at (k := 0) (by decide)]; decide))).trans ((fld_eq (g12588 _ (by omega))).trans ((fld_eq (g12575 _ (by omega))).trans yd12570)))), ((fld_eq (h12611.2 c (by rw [show kC c c = 1 from kC_at (k := 0) (by decide)]; decide))).trans ((fld_eq (h12600.2 c (by rw [show kC c c = 1 from kC_at (k := 0) (by decide)]; decide))).trans ((fld_eq (g12588 _ (by omega))).trans ((fld_eq (g12575 _ (by omega))).trans yd12571))))⟩ (by omega) (by omega) (by omega) ga12621 ga12614 ga12615 ga12616 ga12617 ga12618 (by omega) (by omega) (by omega) (by omega) (by omega)), h12612, rfl⟩)
        · have hz9 : True := trivial
          refine m_istore F (lv' := [(4, .int (nI 500)), (3, .int (nI k12492.2.2.1)), (2, .int (nI lc)), (1, .int (nI (8 + P.n7))), (0, .ref c)]) e_X10_readChange_72 (by decide) rfl ?_
          refine m_aload_n F rfl e_X10_readChange_74 ?_
          refine r_getC F e_X10_readChange_75 fl_X10_141 h12543 (fa12562) ?_
          refine m_if_eq F e_X10_readChange_78 (fun q => absurd q (by decide)) (fun _ => ?_)
          exact m_vret F hQ e_X10_readChange_81 (⟨P12544, oP12544, (by unfold RP; omega), (by unfold indexS; dsimp only; rw [if_neg (by omega), ek12492, numK_ok e12522 l12524 l12525, ek12533, numK_1 e12553]; exact RM.l (fa12562) (fb12563) (by decide) (by decide) (by omega)), h12543, rfl⟩)
        · have hz9 : True := trivial
          refine m_istore F (lv' := [(4, .int (nI 500)), (3, .int (nI k12492.2.2.1)), (2, .int (nI lc)), (1, .int (nI (8 + P.n7))), (0, .ref c)]) e_X10_readChange_72 (by decide) rfl ?_
          refine m_aload_n F rfl e_X10_readChange_74 ?_
          refine r_getC F e_X10_readChange_75 fl_X10_141 h12543 (fa12562) ?_
          refine m_if_eq F e_X10_readChange_78 (fun q => absurd q (by decide)) (fun _ => ?_)
          exact m_vret F hQ e_X10_readChange_81 (⟨P12544, oP12544, (by unfold RP; omega), (by unfold indexS; dsimp only; rw [if_neg (by omega), ek12492, numK_ok e12522 l12524 l12525, ek12533, numK_2 e12553 e12554]; exact RM.l (fa12562) (fb12563) (by decide) (by decide) (by omega)), h12543, rfl⟩)
      · have hz9 : True := trivial
        refine m_istore_n F (lv' := [(3, .int (nI lc)), (2, .int (nI lc)), (1, .int (nI (8 + P.n7))), (0, .ref c)]) e_X10_readChange_61 (by decide) rfl ?_
        refine m_aload_n F rfl e_X10_readChange_62 ?_
        refine m_sipush F (v := 500) (by decide) e_X10_readChange_63 ?_
        refine m_sipush F (v := 2000) (by decide) e_X10_readChange_66 ?_
        refine r_callV F e_X10_readChange_69 (q_X10_numeralG (x_l X) V c T Z u h P12513 L _ _ 500 2000 1 h12512.1 (hob) oP12513 (by omega) (by omega) (fa12531) (by decide)) cb_X10_numeral ml_X10_165 im_X10_numeral se_X10_numeral h12512 rfl rfl (rest := []) rfl (Nat.le_of_ble_eq_true rfl) ⟨Nat.le_of_ble_eq_true rfl, Nat.le_of_ble_eq_true rfl⟩ ⟨Nat.le_of_ble_eq_true rfl, Nat.le_of_ble_eq_true rfl⟩ (fun r σ12624 hp => ?_)
        obtain ⟨h12625, hp⟩ := hp
        have h12626 := HS.trans h12512 h12625 (by decide)
        obtain ⟨rfl, rfl⟩ := hp
        refine m_istore F (lv' := [(4, .int (nI 500)), (3, .int (nI lc)), (2, .int (nI lc)), (1, .int (nI (8 + P.n7))), (0, .ref c)]) e_X10_readChange_72 (by decide) rfl ?_
        refine m_aload_n F rfl e_X10_readChange_74 ?_
        refine r_getC F e_X10_readChange_75 fl_X10_141 h12626 (fa12531) ?_
        refine m_if_eq F e_X10_readChange_78 (fun q => absurd q (by decide)) (fun _ => ?_)
        exact m_vret F hQ e_X10_readChange_81 (⟨P12513, oP12513, (by unfold RP; omega), (by unfold indexS; dsimp only; rw [if_neg (by omega), ek12492, numK_1 e12522]; exact RM.l (fa12531) (fb12532) (by decide) (by decide) (by omega)), h12626, rfl⟩)
      · have hz9 : True := trivial
        refine m_istore_n F (lv' := [(3, .int (nI lc)), (2, .int (nI lc)), (1, .int (nI (8 + P.n7))), (0, .ref c)]) e_X10_readChange_61 (by decide) rfl ?_
        refine m_aload_n F rfl e_X10_readChange_62 ?_
        refine m_sipush F (v := 500) (by decide) e_X10_readChange_63 ?_
        refine m_sipush F (v := 2000) (by decide) e_X10_readChange_66 ?_
        refine r_callV F e_X10_readChange_69 (q_X10_numeralG (x_l X) V c T Z u h P12513 L _ _ 500 2000 2 h12512.1 (hob) oP12513 (by omega) (by omega) (fa12531) (by decide)) cb_X10_numeral ml_X10_165 im_X10_numeral se_X10_numeral h12512 rfl rfl (rest := []) rfl (Nat.le_of_ble_eq_true rfl) ⟨Nat.le_of_ble_eq_true rfl, Nat.le_of_ble_eq_true rfl⟩ ⟨Nat.le_of_ble_eq_true rfl, Nat.le_of_ble_eq_true rfl⟩ (fun r σ12627 hp => ?_)
        obtain ⟨h12628, hp⟩ := hp
        have h12629 := HS.trans h12512 h12628 (by decide)
        obtain ⟨rfl, rfl⟩ := hp
        refine m_istore F (lv' := [(4, .int (nI 500)), (3, .int (nI lc)), (2, .int (nI lc)), (1, .int (nI (8 + P.n7))), (0, .ref c)]) e_X10_readChange_72 (by decide) rfl ?_
        refine m_aload_n F rfl e_X10_readChange_74 ?_
        refine r_getC F e_X10_readChange_75 fl_X10_141 h12629 (fa12531) ?_
        refine m_if_eq F e_X10_readChange_78 (fun q => absurd q (by decide)) (fun _ => ?_)
        exact m_vret F hQ e_X10_readChange_81 (⟨P12513, oP12513, (by unfold RP; omega), (by unfold indexS; dsimp only; rw [if_neg (by omega), ek12492, numK_2 e12522 e12523]; exact RM.l (fa12531) (fb12532) (by decide) (by decide) (by omega)), h12629, rfl⟩)
    · have c29 : P.n7 ≠ 0 := by have hh := mt (nI_eq (a := P.n7) (b := 0) (by omega) (by omega)).mpr q29; omega
      refine m_aload_n F rfl e_X10_readChange_32 ?_
      refine r_getC F e_X10_readChange_33 fl_X10_141 h12502 ((fld_eq (h12501.2 c (by rw [show kC c c = 1 from kC_at (k := 0) (by decide)]; decide))).trans yd12498) ?_
      refine m_if_eq F e_X10_readChange_36 (fun _ => ?_) (fun q => absurd (by decide) q)
      refine m_aload_n F rfl e_X10_readChange_43 ?_
      refine r_get F e_X10_readChange_44 fl_X10_40 h12502 rfl (fun v hv f12630 => ?_)
      obtain rfl : v = .ref (c + 11) := hv
      refine m_iload_n F rfl e_X10_readChange_47 ?_
      refine m_iconst F (v := 1) (by decide) e_X10_readChange_48 ?_
      refine m_isub F e_X10_readChange_49 ?_
      refine Wm.topE (w := nI ((8 + P.n7) - 1)) (pk_sub (a := 8 + P.n7) (b := 1) (by omega)) ?_
      have hq9 : 1 ≤ lc ∧ lc ≤ 100 ∧ elI σ12500 (c + 11) (7 + P.n7) = some (nI (lc - 1)) := by
        rcases ga12509 with h9 | h9
        · omega
        · exact ⟨h9.2.1, h9.2.2.1, h9.2.2.2⟩
      refine r_iald F (len := 16) (j := (8 + P.n7) - 1) e_X10_readChange_50 h12502 (fun _ h => h) (by decide) (nI_clamp (by omega)) (vp_in_nI (by omega) (by decide)) (fun x12631 h12632 f12633 => ?_)
      obtain rfl := Option.some.inj ((f12633).symm.trans ((by rw [show (8 + P.n7) - 1 = 7 + P.n7 by omega]; exact hq9.2.2)))
      refine m_iconst F (v := 1) (by decide) e_X10_readChange_51 ?_
      refine m_iadd F e_X10_readChange_52 ?_
      refine Wm.topE (w := nI (lc - 1 + 1)) (nI_add (lc - 1) 1) ?_
      refine Wm.topE (w := nI lc) (congrArg nI (by omega)) ?_
      have hlb : lc ≤ 100 := by rcases hp11 with h9 | h9 <;> omega
      refine m_istore_n F (lv' := [(2, .int (nI lc)), (1, .int (nI (8 + P.n7))), (0, .ref c)]) e_X10_readChange_53 (by decide) rfl ?_
      refine m_aload_n F rfl e_X10_readChange_54 ?_
      refine m_iload_n F rfl e_X10_readChange_55 ?_
      refine m_bipush F (v := 99) (by decide) e_X10_readChange_56 ?_
      refine r_callV F e_X10_readChange_58 (q_X10_numeralE (x_l X) V c T Z u h P12478 L _ _ lc 99 n k12492.1 so12488 va12489 ln fp t k12492.2.1 k12492.2.2.1 h12502.1 (hob) oP12478 (by omega) (by omega) ⟨((fld_eq (h12501.2 c (by rw [show kC c c = 1 from kC_at (k := 0) (by decide)]; decide))).trans yd12493), ((fld_eq (h12501.2 c (by rw [show kC c c = 1 from kC_at (k := 0) (by decide)]; decide))).trans yd12494), ((fld_eq (h12501.2 c (by rw [show kC c c = 1 from kC_at (k := 0) (by decide)]; decide))).trans yd12495), ((fld_eq (h12501.2 c (by rw [show kC c c = 1 from kC_at (k := 0) (by decide)]; decide))).trans yd12496), ((fld_eq (h12501.2 c (by rw [show kC c c = 1 from kC_at (k := 0) (by decide)]; decide))).trans yd12497), ((fld_eq (h12501.2 c (by rw [show kC c c = 1 from kC_at (k := 0) (by decide)]; decide))).trans yd12498), ((fld_eq (h12501.2 c (by rw [show kC c c = 1 from kC_at (k := 0) (by decide)]; decide))).trans yd12499)⟩ ga12503 hn7 (by omega) mt12490) cb_X10_numeral ml_X10_165 im_X10_numeral se_X10_numeral h12502 rfl rfl (rest := []) rfl (Nat.le_of_ble_eq_true rfl) ⟨Nat.le_of_ble_eq_true rfl, Nat.le_of_ble_eq_true rfl⟩ ⟨Nat.le_of_ble_eq_true rfl, Nat.le_of_ble_eq_true rfl⟩ (fun r σ12634 hp => ?_)
      obtain ⟨P12637, oP12637, rP12637, pr12638, h12635, hp⟩ := hp
      have h12636 := HS.trans h12502 h12635 (by decide)
      have xP12637 := oP12637
      unfold OKP at xP12637
      unfold RA at rP12637
      have ga12639 := ga12503.of (h12635.2 (c + 1) (by rw [kC_at (k := 1) (by decide)]; decide))
      have ga12640 := ga12504.of (h12635.2 (c + 2) (by rw [kC_at (k := 2) (by decide)]; decide))
      have ga12641 := ga12505.of (h12635.2 (c + 3) (by rw [kC_at (k := 3) (by decide)]; decide))
      have ga12642 := ga12506.of (h12635.2 (c + 7) (by rw [kC_at (k := 7) (by decide)]; decide))
      have ga12643 := ga12507.of (h12635.2 (c + 8) (by rw [kC_at (k := 8) (by decide)]; decide))
      have ga12644 := ga12508.of (h12635.2 (c + 9) (by rw [kC_at (k := 9) (by decide)]; decide))
      have ga12645 := ga12509.of (h12635.2 (c + 11) (by rw [kC_at (k := 11) (by decide)]; decide))
      rcases pr12638 with ⟨e12646, l12648, l12649, ea12650, ⟨so12651, va12652, mt12653, yd12654⟩, rfl⟩ | ⟨e12646, ⟨fa12655, fb12656⟩, rfl⟩ | ⟨e12646, e12647, ⟨fa12655, fb12656⟩, rfl⟩
      · have bk12657 := tok_ok (t := t) (n := n) P12478.a (by omega)
        generalize ek12657 : tok t n P12478.a = k12657 at ea12650 mt12653 yd12654 bk12657
        rw [show P12478.a = k12492.2.2.2 by omega] at ek12657
        have hyd12658 := yd12654
        obtain ⟨yd12658, yd12659, yd12660, yd12661, yd12662, yd12663, yd12664⟩ := hyd12658
        refine m_istore_n F (lv' := [(3, .int (nI k12492.2.2.1)), (2, .int (nI lc)), (1, .int (nI (8 + P.n7))), (0, .ref c)]) e_X10_readChange_61 (by decide) rfl ?_
        refine m_aload_n F rfl e_X10_readChange_62 ?_
        refine m_sipush F (v := 500) (by decide) e_X10_readChange_63 ?_
        refine m_sipush F (v := 2000) (by decide) e_X10_readChange_66 ?_
        refine r_callV F e_X10_readChange_69 (q_X10_numeralE (x_l X) V c T Z u h P12637 L _ _ 500 2000 n k12657.1 so12651 va12652 ln fp t k12657.2.1 k12657.2.2.1 h12636.1 (hob) oP12637 (by omega) (by omega) ⟨(yd12658), (yd12659), (yd12660), (yd12661), (yd12662), (yd12663), (yd12664)⟩ ga12639 hn7 (by omega) mt12653) cb_X10_numeral ml_X10_165 im_X10_numeral se_X10_numeral h12636 rfl rfl (rest := []) rfl (Nat.le_of_ble_eq_true rfl) ⟨Nat.le_of_ble_eq_true rfl, Nat.le_of_ble_eq_true rfl⟩ ⟨Nat.le_of_ble_eq_true rfl, Nat.le_of_ble_eq_true rfl⟩ (fun r σ12665 hp => ?_)
        obtain ⟨P12668, oP12668, rP12668, pr12669, h12666, hp⟩ := hp
        have h12667 := HS.trans h12636 h12666 (by decide)
        have xP12668 := oP12668
        unfold OKP at xP12668
        unfold RA at rP12668
        have ga12670 := ga12639.of (h12666.2 (c + 1) (by rw [kC_at (k := 1) (by decide)]; decide))
        have ga12671 := ga12640.of (h12666.2 (c + 2) (by rw [kC_at (k := 2) (by decide)]; decide))
        have ga12672 := ga12641.of (h12666.2 (c + 3) (by rw [kC_at (k := 3) (by decide)]; decide))
        have ga12673 := ga12642.of (h12666.2 (c + 7) (by rw [kC_at (k := 7) (by decide)]; decide))
        have ga12674 := ga12643.of (h12666.2 (c + 8) (by rw [kC_at (k := 8) (by decide)]; decide))
        have ga12675 := ga12644.of (h12666.2 (c + 9) (by rw [kC_at (k := 9) (by decide)]; decide))
        have ga12676 := ga12645.of (h12666.2 (c + 11) (by rw [kC_at (k := 11) (by decide)]; decide))
        rcases pr12669 with ⟨e12677, l12679, l12680, ea12681, ⟨so12682, va12683, mt12684, yd12685⟩, rfl⟩ | ⟨e12677, ⟨fa12686, fb12687⟩, rfl⟩ | ⟨e12677, e12678, ⟨fa12686, fb12687⟩, rfl⟩
        · have bk12688 := tok_ok (t := t) (n := n) P12637.a (by omega)
          generalize ek12688 : tok t n P12637.a = k12688 at ea12681 mt12684 yd12685 bk12688
          rw [show P12637.a = k12657.2.2.2 by omega] at ek12688
          have hyd12689 := yd12685
          obtain ⟨yd12689, yd12690, yd12691, yd12692, yd12693, yd12694, yd12695⟩ := hyd12689
          refine m_istore F (lv' := [(4, .int (nI k12657.2.2.1)), (3, .int (nI k12492.2.2.1)), (2, .int (nI lc)), (1, .int (nI (8 + P.n7))), (0, .ref c)]) e_X10_readChange_72 (by decide) rfl ?_
          refine m_aload_n F rfl e_X10_readChange_74 ?_
          refine r_getC F e_X10_readChange_75 fl_X10_141 h12667 (yd12694) ?_
          refine m_if_eq F e_X10_readChange_78 (fun _ => ?_) (fun q => absurd (by decide) q)
          refine m_aload_n F rfl e_X10_readChange_82 ?_
          refine r_get F e_X10_readChange_83 fl_X10_40 h12667 rfl (fun v hv f12696 => ?_)
          obtain rfl : v = .ref (c + 11) := hv
          refine m_iload_n F rfl e_X10_readChange_86 ?_
          refine m_iload_n F rfl e_X10_readChange_87 ?_
          refine r_iast F (g' := (⟨T, Z, u, h, P12668, L⟩ : RG)) (len := 16) (j := 8 + P.n7) e_X10_readChange_88 h12667 (fun _ h => h) (fun f h => ⟨f, rfl, h⟩) (by decide) (by decide) (nI_clamp (by omega)) (vp_in_nI (by omega) (by decide)) ⟨k12492.2.2.1, by omega, rfl⟩ (fun _ _ _ h => h) (fun _ _ _ h => h) (fun σ12697 h12698 g12699 f12700 g12701 => ?_)
          have ga12702 := ga12670.of (g12699 _ (by omega))
          have ga12703 := ga12671.of (g12699 _ (by omega))
          have ga12704 := ga12672.of (g12699 _ (by omega))
          have ga12705 := ga12673.of (g12699 _ (by omega))
          have ga12706 := ga12674.of (g12699 _ (by omega))
          have ga12707 := ga12675.of (g12699 _ (by omega))
          have ga12708 := QR.put (by omega) f12700
          refine m_aload_n F rfl e_X10_readChange_89 ?_
          refine r_get F e_X10_readChange_90 fl_X10_43 h12698 rfl (fun v hv f12709 => ?_)
          obtain rfl : v = .ref (c + 12) := hv
          refine m_iload_n F rfl e_X10_readChange_93 ?_
          refine m_iload F rfl e_X10_readChange_94 ?_
          refine r_iast F (g' := (⟨T, Z, u, h, (mkP P12668.n0 P12668.n2 P12668.n5 P12668.n7 P12668.m0 P12668.m5 P12668.w2 (P12668.n7 + 1) P12668.kk P12668.a P12668.b0 P12668.b1 P12668.b2 P12668.b3), L⟩ : RG)) (len := 16) (j := 8 + P.n7) e_X10_readChange_96 h12698 (fun _ h => h) (fun f h => ⟨f, rfl, h⟩) (by decide) (by decide) (nI_clamp (by omega)) (vp_in_nI (by omega) (by decide)) ⟨k12657.2.2.1, by omega, rfl, fun h7 _ => absurd h7 (by omega), fun _ _ => by omega⟩ (fun i hi y hy => by obtain ⟨n9, a9, b9, c9, d9⟩ := hy; exact ⟨n9, a9, b9, c9, fun h7 h8 => d9 h7 (show i < 8 + P12668.w7 by have h6 : i < 8 + (P12668.n7 + 1) := h8; omega)⟩) (CR.chg (by intro k hk i x h; unfold EI at h ⊢; split at h <;> first | exact h | exact absurd rfl hk | trivial) rfl rfl) (fun σ12710 h12711 g12712 f12713 g12714 => ?_)
          have ga12715 := ga12702.of (g12712 _ (by omega))
          have ga12716 := ga12703.of (g12712 _ (by omega))
          have ga12717 := ga12704.of (g12712 _ (by omega))
          have ga12718 := ga12705.of (g12712 _ (by omega))
          have ga12719 := ga12706.of (g12712 _ (by omega))
          have ga12720 := ga12707.of (g12712 _ (by omega))
          have ga12721 := ga12708.of (g12712 _ (by omega))
          obtain ⟨P12722, eP12722⟩ : ∃ P9, P9 = (mkP P12668.n0 P12668.n2 P12668.n5 P12668.n7 P12668.m0 P12668.m5 P12668.w2 (P12668.n7 + 1) P12668.kk P12668.a P12668.b0 P12668.b1 P12668.b2 P12668.b3) := ⟨_, rfl⟩
          rw [← eP12722] at h12711
          have fP12722 : P12722.n0 = P12668.n0 ∧ P12722.n2 = P12668.n2 ∧ P12722.n5 = P12668.n5 ∧ P12722.n7 = P12668.n7 ∧ P12722.m0 = P12668.m0 ∧ P12722.m5 = P12668.m5 ∧ P12722.w2 = P12668.w2 ∧ P12722.w7 = P12668.n7 + 1 ∧ P12722.kk = P12668.kk ∧ P12722.a = P12668.a ∧ P12722.b0 = P12668.b0 ∧ P12722.b1 = P12668.b1 ∧ P12722.b2 = P12668.b2 ∧ P12722.b3 = P12668.b3 := by rw [eP12722]; exact ⟨rfl, rfl, rfl, rfl, rfl, rfl, rfl, rfl, rfl, rfl, rfl, rfl, rfl, rfl⟩
          refine m_aload_n F rfl e_X10_readChange_97 ?_
          refine m_iconst F (v := 2) (by decide) e_X10_readChange_98 ?_
          refine m_aload_n F rfl e_X10_readChange_99 ?_
          refine m_iconst F (v := 2) (by decide) e_X10_readChange_100 ?_
          have oP12726 : OKP P12722 := by unfold OKP; omega
          refine r_callV F e_X10_readChange_101 (q_X10_reading2 (x_l X) V c T Z u h P12722 L _ _  h12711.1 (hob) oP12726 ) cb_X10_reading ml_X10_157 im_X10_reading se_X10_reading h12711 rfl rfl (rest := [.int 2, .ref c]) rfl (Nat.le_of_ble_eq_true rfl) ⟨Nat.le_of_ble_eq_true rfl, Nat.le_of_ble_eq_true rfl⟩ ⟨Nat.le_of_ble_eq_true rfl, Nat.le_of_ble_eq_true rfl⟩ (fun r σ12723 hp => ?_)
          obtain ⟨h12724, rfl⟩ := hp
          have h12725 := HS.trans h12711 h12724 (by decide)
          have ga12727 := ga12715.of (h12724.2 (c + 1) (by rw [kC_at (k := 1) (by decide)]; decide))
          have ga12728 := ga12716.of (h12724.2 (c + 2) (by rw [kC_at (k := 2) (by decide)]; decide))
          have ga12729 := ga12717.of (h12724.2 (c + 3) (by rw [kC_at (k := 3) (by decide)]; decide))
          have ga12730 := ga12718.of (h12724.2 (c + 7) (by rw [kC_at (k := 7) (by decide)]; decide))
          have ga12731 := ga12719.of (h12724.2 (c + 8) (by rw [kC_at (k := 8) (by decide)]; decide))
          have ga12732 := ga12720.of (h12724.2 (c + 9) (by rw [kC_at (k := 9) (by decide)]; decide))
          have ga12733 := ga12721.of (h12724.2 (c + 11) (by rw [kC_at (k := 11) (by decide)]; decide))
          refine Wm.topE (w := nI P.n7) (congrArg nI (by omega)) ?_
          refine m_iconst F (v := 1) (by decide) e_X10_readChange_104 ?_
          refine m_iadd F e_X10_readChange_105 ?_
          refine Wm.topE (w := nI (P.n7 + 1)) (nI_add P.n7 1) ?_
          refine r_callV F e_X10_readChange_106 (q_X10_reads2E (x_l X) V c T Z u h P12722 L _ _ (P.n7 + 1)  h12725.1 (hob) oP12726 (by omega) (by omega)) cb_X10_reads ml_X10_170 im_X10_reads se_X10_reads h12725 rfl rfl (rest := []) rfl (Nat.le_of_ble_eq_true rfl) ⟨Nat.le_of_ble_eq_true rfl, Nat.le_of_ble_eq_true rfl⟩ ⟨Nat.le_of_ble_eq_true rfl, Nat.le_of_ble_eq_true rfl⟩ (fun r σ12734 hp => ?_)
          obtain ⟨h12735, hp⟩ := hp
          have h12736 := HS.trans h12725 h12735 (by decide)
          have ga12737 := ga12727.of (h12735.2 (c + 1) (by rw [kC_at (k := 1) (by decide)]; decide))
          have ga12738 := ga12729.of (h12735.2 (c + 3) (by rw [kC_at (k := 3) (by decide)]; decide))
          have ga12739 := ga12730.of (h12735.2 (c + 7) (by rw [kC_at (k := 7) (by decide)]; decide))
          have ga12740 := ga12731.of (h12735.2 (c + 8) (by rw [kC_at (k := 8) (by decide)]; decide))
          have ga12741 := ga12732.of (h12735.2 (c + 9) (by rw [kC_at (k := 9) (by decide)]; decide))
          have ga12742 := ga12733.of (h12735.2 (c + 11) (by rw [kC_at (k := 11) (by decide)]; decide))
          obtain ⟨ea12743, eb12744, rfl⟩ := hp
          have ga12745 := NR.k ga12728 eb12744 (by decide) (by decide) (by decide)
          obtain ⟨P12746, eP12746⟩ : ∃ P9, P9 = (mkP P12722.n0 P12722.n2 P12722.n5 (P.n7 + 1) P12722.m0 P12722.m5 P12722.w2 P12722.w7 P12722.kk P12722.a P12722.b0 P12722.b1 P12722.b2 P12722.b3) := ⟨_, rfl⟩
          rw [← eP12746] at h12736
          have fP12746 : P12746.n0 = P12722.n0 ∧ P12746.n2 = P12722.n2 ∧ P12746.n5 = P12722.n5 ∧ P12746.n7 = P.n7 + 1 ∧ P12746.m0 = P12722.m0 ∧ P12746.m5 = P12722.m5 ∧ P12746.w2 = P12722.w2 ∧ P12746.w7 = P12722.w7 ∧ P12746.kk = P12722.kk ∧ P12746.a = P12722.a ∧ P12746.b0 = P12722.b0 ∧ P12746.b1 = P12722.b1 ∧ P12746.b2 = P12722.b2 ∧ P12746.b3 = P12722.b3 := by rw [eP12746]; exact ⟨rfl, rfl, rfl, rfl, rfl, rfl, rfl, rfl, rfl, rfl, rfl, rfl, rfl, rfl⟩
          have oP12747 : OKP P12746 := by unfold OKP; omega
          exact m_vret F hQ e_X10_readChange_109 (⟨P12746, oP12747, (by unfold RP; omega), (by unfold indexS; dsimp only; rw [if_neg (by omega), ek12492, numK_ok e12646 l12648 l12649, ek12657, numK_ok e12677 l12679 l12680, ek12688]; exact RM.r mt12684 ⟨((fld_eq (h12735.2 c (by rw [show kC c c = 1 from kC_at (k := 0) (by decide)]; decide))).trans ((fld_eq (h12724.2 c (by rw [show kC c c = 1 from kC_at (k := 0) (by decide)]; decide))).trans ((fld_eq (g12712 _ (by omega))).trans ((fld_eq (g12699 _ (by omega))).trans yd12689)))), ((fld_eq (h12735.2 c (by rw [show kC c c = 1 from kC_at (k := 0) (by decide)]; decide))).trans ((fld_eq (h12724.2 c (by rw [show kC c c = 1 from kC_at (k := 0) (by decide)]; decide))).trans ((fld_eq (g12712 _ (by omega))).trans ((fld_eq (g12699 _ (by omega))).trans yd12690)))), ((fld_eq (h12735.2 c (by rw [show kC c c = 1 from kC_at (k := 0) (by decide)]; decide))).trans ((fld_eq (h12724.2 c (by rw [show kC c c = 1 from kC_at (k := 0) (by decide)]; decide))).trans ((fld_eq (g12712 _ (by omega))).trans ((fld_eq (g12699 _ (by omega))).trans yd12691)))), ((fld_eq (h12735.2 c (by rw [show kC c c = 1 from kC_at (k := 0) (by decide)]; decide))).trans ((fld_eq (h12724.2 c (by rw [show kC c c = 1 from kC_at (k := 0) (by decide)]; decide))).trans ((fld_eq (g12712 _ (by omega))).trans ((fld_eq (g12699 _ (by omega))).trans yd12692)))), ((fld_eq (h12735.2 c (by rw [show kC c c = 1 from kC_at (k := 0) (by decide)]; decide))).trans ((fld_eq (h12724.2 c (by rw [show kC c c = 1 from kC_at (k := 0) (by decide)]; decide))).trans ((fld_eq (g12712 _ (by omega))).trans ((fld_eq (g12699 _ (by omega))).trans yd12693)))), ((fld_eq (h12735.2 c (by rw [show kC c c = 1 from kC_at (k := 0) (by decide)]; decide))).trans ((fld_eq (h12724.2 c (by rw [show kC c c = 1 from kC_at (k := 0) (by decide)]; decide))).trans ((fld_eq (g12712 _ (by omega))).trans ((fld_eq (g12699 _ (by omega))).trans yd12694)))), ((fld_eq (h12735.2 c (by rw [show kC c c = 1 from kC_at (k := 0) (by decide)]; decide))).trans ((fld_eq (h12724.2 c (by rw [show kC c c = 1 from kC_at (k := 0) (by decide)]; decide))).trans ((fld_eq (g12712 _ (by omega))).trans ((fld_eq (g12699 _ (by omega))).trans yd12695))))⟩ (by omega) (by omega) (by omega) ga12745 ga12738 ga12739 ga12740 ga12741 ga12742 (by omega) (by omega) (by omega) (by omega) (by omega)), h12736, rfl⟩)
        · have hz9 : True := trivial
          refine m_istore F (lv' := [(4, .int (nI 500)), (3, .int (nI k12492.2.2.1)), (2, .int (nI lc)), (1, .int (nI (8 + P.n7))), (0, .ref c)]) e_X10_readChange_72 (by decide) rfl ?_
          refine m_aload_n F rfl e_X10_readChange_74 ?_
          refine r_getC F e_X10_readChange_75 fl_X10_141 h12667 (fa12686) ?_
          refine m_if_eq F e_X10_readChange_78 (fun q => absurd q (by decide)) (fun _ => ?_)
          exact m_vret F hQ e_X10_readChange_81 (⟨P12668, oP12668, (by unfold RP; omega), (by unfold indexS; dsimp only; rw [if_neg (by omega), ek12492, numK_ok e12646 l12648 l12649, ek12657, numK_1 e12677]; exact RM.l (fa12686) (fb12687) (by decide) (by decide) (by omega)), h12667, rfl⟩)
        · have hz9 : True := trivial
          refine m_istore F (lv' := [(4, .int (nI 500)), (3, .int (nI k12492.2.2.1)), (2, .int (nI lc)), (1, .int (nI (8 + P.n7))), (0, .ref c)]) e_X10_readChange_72 (by decide) rfl ?_
          refine m_aload_n F rfl e_X10_readChange_74 ?_
          refine r_getC F e_X10_readChange_75 fl_X10_141 h12667 (fa12686) ?_
          refine m_if_eq F e_X10_readChange_78 (fun q => absurd q (by decide)) (fun _ => ?_)
          exact m_vret F hQ e_X10_readChange_81 (⟨P12668, oP12668, (by unfold RP; omega), (by unfold indexS; dsimp only; rw [if_neg (by omega), ek12492, numK_ok e12646 l12648 l12649, ek12657, numK_2 e12677 e12678]; exact RM.l (fa12686) (fb12687) (by decide) (by decide) (by omega)), h12667, rfl⟩)
      · have hz9 : True := trivial
        refine m_istore_n F (lv' := [(3, .int (nI lc)), (2, .int (nI lc)), (1, .int (nI (8 + P.n7))), (0, .ref c)]) e_X10_readChange_61 (by decide) rfl ?_
        refine m_aload_n F rfl e_X10_readChange_62 ?_
        refine m_sipush F (v := 500) (by decide) e_X10_readChange_63 ?_
        refine m_sipush F (v := 2000) (by decide) e_X10_readChange_66 ?_
        refine r_callV F e_X10_readChange_69 (q_X10_numeralG (x_l X) V c T Z u h P12637 L _ _ 500 2000 1 h12636.1 (hob) oP12637 (by omega) (by omega) (fa12655) (by decide)) cb_X10_numeral ml_X10_165 im_X10_numeral se_X10_numeral h12636 rfl rfl (rest := []) rfl (Nat.le_of_ble_eq_true rfl) ⟨Nat.le_of_ble_eq_true rfl, Nat.le_of_ble_eq_true rfl⟩ ⟨Nat.le_of_ble_eq_true rfl, Nat.le_of_ble_eq_true rfl⟩ (fun r σ12748 hp => ?_)
        obtain ⟨h12749, hp⟩ := hp
        have h12750 := HS.trans h12636 h12749 (by decide)
        obtain ⟨rfl, rfl⟩ := hp
        refine m_istore F (lv' := [(4, .int (nI 500)), (3, .int (nI lc)), (2, .int (nI lc)), (1, .int (nI (8 + P.n7))), (0, .ref c)]) e_X10_readChange_72 (by decide) rfl ?_
        refine m_aload_n F rfl e_X10_readChange_74 ?_
        refine r_getC F e_X10_readChange_75 fl_X10_141 h12750 (fa12655) ?_
        refine m_if_eq F e_X10_readChange_78 (fun q => absurd q (by decide)) (fun _ => ?_)
        exact m_vret F hQ e_X10_readChange_81 (⟨P12637, oP12637, (by unfold RP; omega), (by unfold indexS; dsimp only; rw [if_neg (by omega), ek12492, numK_1 e12646]; exact RM.l (fa12655) (fb12656) (by decide) (by decide) (by omega)), h12750, rfl⟩)
      · have hz9 : True := trivial
        refine m_istore_n F (lv' := [(3, .int (nI lc)), (2, .int (nI lc)), (1, .int (nI (8 + P.n7))), (0, .ref c)]) e_X10_readChange_61 (by decide) rfl ?_
        refine m_aload_n F rfl e_X10_readChange_62 ?_
        refine m_sipush F (v := 500) (by decide) e_X10_readChange_63 ?_
        refine m_sipush F (v := 2000) (by decide) e_X10_readChange_66 ?_
        refine r_callV F e_X10_readChange_69 (q_X10_numeralG (x_l X) V c T Z u h P12637 L _ _ 500 2000 2 h12636.1 (hob) oP12637 (by omega) (by omega) (fa12655) (by decide)) cb_X10_numeral ml_X10_165 im_X10_numeral se_X10_numeral h12636 rfl rfl (rest := []) rfl (Nat.le_of_ble_eq_true rfl) ⟨Nat.le_of_ble_eq_true rfl, Nat.le_of_ble_eq_true rfl⟩ ⟨Nat.le_of_ble_eq_true rfl, Nat.le_of_ble_eq_true rfl⟩ (fun r σ12751 hp => ?_)
        obtain ⟨h12752, hp⟩ := hp
        have h12753 := HS.trans h12636 h12752 (by decide)
        obtain ⟨rfl, rfl⟩ := hp
        refine m_istore F (lv' := [(4, .int (nI 500)), (3, .int (nI lc)), (2, .int (nI lc)), (1, .int (nI (8 + P.n7))), (0, .ref c)]) e_X10_readChange_72 (by decide) rfl ?_
        refine m_aload_n F rfl e_X10_readChange_74 ?_
        refine r_getC F e_X10_readChange_75 fl_X10_141 h12753 (fa12655) ?_
        refine m_if_eq F e_X10_readChange_78 (fun q => absurd q (by decide)) (fun _ => ?_)
        exact m_vret F hQ e_X10_readChange_81 (⟨P12637, oP12637, (by unfold RP; omega), (by unfold indexS; dsimp only; rw [if_neg (by omega), ek12492, numK_2 e12646 e12647]; exact RM.l (fa12655) (fb12656) (by decide) (by decide) (by omega)), h12753, rfl⟩)
  · have c12 : (8 + P.n7) = 16 := (nI_eq (a := (8 + P.n7)) (b := 16) (by omega) (by omega)).mp q12
    refine m_aload_n F rfl e_X10_readChange_15 ?_
    refine m_iconst F (v := 2) (by decide) e_X10_readChange_16 ?_
    refine r_callV F e_X10_readChange_17 (q_X10_wrongE (x_l X) V c T Z u h P L _ _ 2 n st so va ln fp h12467.1 (hob) hP (by omega) ⟨((fld_eq (h12466.2 c (by rw [show kC c c = 1 from kC_at (k := 0) (by decide)]; decide))).trans yd12458), ((fld_eq (h12466.2 c (by rw [show kC c c = 1 from kC_at (k := 0) (by decide)]; decide))).trans yd12459), ((fld_eq (h12466.2 c (by rw [show kC c c = 1 from kC_at (k := 0) (by decide)]; decide))).trans yd12460), ((fld_eq (h12466.2 c (by rw [show kC c c = 1 from kC_at (k := 0) (by decide)]; decide))).trans yd12461), ((fld_eq (h12466.2 c (by rw [show kC c c = 1 from kC_at (k := 0) (by decide)]; decide))).trans yd12462), ((fld_eq (h12466.2 c (by rw [show kC c c = 1 from kC_at (k := 0) (by decide)]; decide))).trans yd12463), ((fld_eq (h12466.2 c (by rw [show kC c c = 1 from kC_at (k := 0) (by decide)]; decide))).trans yd12464)⟩ (by decide)) cb_X10_wrong ml_X10_150 im_X10_wrong se_X10_wrong h12467 rfl rfl (rest := []) rfl (Nat.le_of_ble_eq_true rfl) ⟨Nat.le_of_ble_eq_true rfl, Nat.le_of_ble_eq_true rfl⟩ ⟨Nat.le_of_ble_eq_true rfl, Nat.le_of_ble_eq_true rfl⟩ (fun r σ12754 hp => ?_)
    obtain ⟨h12755, hp⟩ := hp
    have h12756 := HS.trans h12467 h12755 (by decide)
    have ga12757 := ga12468.of (h12755.2 (c + 1) (by rw [kC_at (k := 1) (by decide)]; decide))
    have ga12758 := ga12469.of (h12755.2 (c + 2) (by rw [kC_at (k := 2) (by decide)]; decide))
    have ga12759 := ga12470.of (h12755.2 (c + 3) (by rw [kC_at (k := 3) (by decide)]; decide))
    have ga12760 := ga12471.of (h12755.2 (c + 7) (by rw [kC_at (k := 7) (by decide)]; decide))
    have ga12761 := ga12472.of (h12755.2 (c + 8) (by rw [kC_at (k := 8) (by decide)]; decide))
    have ga12762 := ga12473.of (h12755.2 (c + 9) (by rw [kC_at (k := 9) (by decide)]; decide))
    have ga12763 := ga12474.of (h12755.2 (c + 11) (by rw [kC_at (k := 11) (by decide)]; decide))
    obtain ⟨hp, rfl⟩ := hp
    have hyd12764 := hp
    obtain ⟨yd12764, yd12765, yd12766, yd12767, yd12768, yd12769, yd12770⟩ := hyd12764
    refine m_aload_n F rfl e_X10_readChange_20 ?_
    refine r_callV F e_X10_readChange_21 (q_X10_goOnG (x_l X) V c T 0 u h P L _ _  2 h12756.1 (hob) hP  (yd12769) (by decide)) cb_X10_goOn ml_X10_154 im_X10_goOn se_X10_goOn h12756 rfl rfl (rest := []) rfl (Nat.le_of_ble_eq_true rfl) ⟨Nat.le_of_ble_eq_true rfl, Nat.le_of_ble_eq_true rfl⟩ ⟨Nat.le_of_ble_eq_true rfl, Nat.le_of_ble_eq_true rfl⟩ (fun r σ12771 hp => ?_)
    obtain ⟨h12772, hp⟩ := hp
    have h12773 := HS.trans h12756 h12772 (by decide)
    have ga12774 := ga12757.of (h12772.2 (c + 1) (by rw [kC_at (k := 1) (by decide)]; decide))
    have ga12775 := ga12758.of (h12772.2 (c + 2) (by rw [kC_at (k := 2) (by decide)]; decide))
    have ga12776 := ga12759.of (h12772.2 (c + 3) (by rw [kC_at (k := 3) (by decide)]; decide))
    have ga12777 := ga12760.of (h12772.2 (c + 7) (by rw [kC_at (k := 7) (by decide)]; decide))
    have ga12778 := ga12761.of (h12772.2 (c + 8) (by rw [kC_at (k := 8) (by decide)]; decide))
    have ga12779 := ga12762.of (h12772.2 (c + 9) (by rw [kC_at (k := 9) (by decide)]; decide))
    have ga12780 := ga12763.of (h12772.2 (c + 11) (by rw [kC_at (k := 11) (by decide)]; decide))
    obtain ⟨rfl, rfl⟩ := hp
    refine m_aload_n F rfl e_X10_readChange_24 ?_
    refine m_iconst F (v := 2) (by decide) e_X10_readChange_25 ?_
    refine r_callV F e_X10_readChange_26 (q_X10_reading2 (x_l X) V c T 0 u h P L _ _  h12773.1 (hob) hP ) cb_X10_reading ml_X10_157 im_X10_reading se_X10_reading h12773 rfl rfl (rest := []) rfl (Nat.le_of_ble_eq_true rfl) ⟨Nat.le_of_ble_eq_true rfl, Nat.le_of_ble_eq_true rfl⟩ ⟨Nat.le_of_ble_eq_true rfl, Nat.le_of_ble_eq_true rfl⟩ (fun r σ12781 hp => ?_)
    obtain ⟨h12782, rfl⟩ := hp
    have h12783 := HS.trans h12773 h12782 (by decide)
    have ga12784 := ga12757.of (h12782.2 (c + 1) (by rw [kC_at (k := 1) (by decide)]; decide))
    have ga12785 := ga12758.of (h12782.2 (c + 2) (by rw [kC_at (k := 2) (by decide)]; decide))
    have ga12786 := ga12759.of (h12782.2 (c + 3) (by rw [kC_at (k := 3) (by decide)]; decide))
    have ga12787 := ga12760.of (h12782.2 (c + 7) (by rw [kC_at (k := 7) (by decide)]; decide))
    have ga12788 := ga12761.of (h12782.2 (c + 8) (by rw [kC_at (k := 8) (by decide)]; decide))
    have ga12789 := ga12762.of (h12782.2 (c + 9) (by rw [kC_at (k := 9) (by decide)]; decide))
    have ga12790 := ga12763.of (h12782.2 (c + 11) (by rw [kC_at (k := 11) (by decide)]; decide))
    refine Wm.topE (w := nI P.n7) (congrArg nI (by omega)) ?_
    refine m_if_eq F e_X10_readChange_29 (fun q29 => ?_) (fun q29 => ?_)
    · have c29 : P.n7 = 0 := (nI_eq (a := P.n7) (b := 0) (by omega) (by omega)).mp q29
      refine m_iconst F (v := 0) (by decide) e_X10_readChange_39 ?_
      refine m_goto F e_X10_readChange_40 ?_
      refine m_istore_n F (lv' := [(2, .int 0), (1, .int (nI (8 + P.n7))), (0, .ref c)]) e_X10_readChange_53 (by decide) rfl ?_
      refine m_aload_n F rfl e_X10_readChange_54 ?_
      refine m_iload_n F rfl e_X10_readChange_55 ?_
      refine m_bipush F (v := 99) (by decide) e_X10_readChange_56 ?_
      refine r_callV F e_X10_readChange_58 (q_X10_numeralG (x_l X) V c T 0 u h P L _ _ 0 99 2 h12783.1 (hob) hP (by omega) (by omega) ((fld_eq (h12782.2 c (by rw [show kC c c = 1 from kC_at (k := 0) (by decide)]; decide))).trans yd12769) (by decide)) cb_X10_numeral ml_X10_165 im_X10_numeral se_X10_numeral h12783 rfl rfl (rest := []) rfl (Nat.le_of_ble_eq_true rfl) ⟨Nat.le_of_ble_eq_true rfl, Nat.le_of_ble_eq_true rfl⟩ ⟨Nat.le_of_ble_eq_true rfl, Nat.le_of_ble_eq_true rfl⟩ (fun r σ12791 hp => ?_)
      obtain ⟨h12792, hp⟩ := hp
      have h12793 := HS.trans h12783 h12792 (by decide)
      have ga12794 := ga12784.of (h12792.2 (c + 1) (by rw [kC_at (k := 1) (by decide)]; decide))
      have ga12795 := ga12785.of (h12792.2 (c + 2) (by rw [kC_at (k := 2) (by decide)]; decide))
      have ga12796 := ga12786.of (h12792.2 (c + 3) (by rw [kC_at (k := 3) (by decide)]; decide))
      have ga12797 := ga12787.of (h12792.2 (c + 7) (by rw [kC_at (k := 7) (by decide)]; decide))
      have ga12798 := ga12788.of (h12792.2 (c + 8) (by rw [kC_at (k := 8) (by decide)]; decide))
      have ga12799 := ga12789.of (h12792.2 (c + 9) (by rw [kC_at (k := 9) (by decide)]; decide))
      have ga12800 := ga12790.of (h12792.2 (c + 11) (by rw [kC_at (k := 11) (by decide)]; decide))
      obtain ⟨rfl, rfl⟩ := hp
      refine m_istore_n F (lv' := [(3, .int (nI 0)), (2, .int 0), (1, .int (nI (8 + P.n7))), (0, .ref c)]) e_X10_readChange_61 (by decide) rfl ?_
      refine m_aload_n F rfl e_X10_readChange_62 ?_
      refine m_sipush F (v := 500) (by decide) e_X10_readChange_63 ?_
      refine m_sipush F (v := 2000) (by decide) e_X10_readChange_66 ?_
      refine r_callV F e_X10_readChange_69 (q_X10_numeralG (x_l X) V c T 0 u h P L _ _ 500 2000 2 h12793.1 (hob) hP (by omega) (by omega) ((fld_eq (h12782.2 c (by rw [show kC c c = 1 from kC_at (k := 0) (by decide)]; decide))).trans yd12769) (by decide)) cb_X10_numeral ml_X10_165 im_X10_numeral se_X10_numeral h12793 rfl rfl (rest := []) rfl (Nat.le_of_ble_eq_true rfl) ⟨Nat.le_of_ble_eq_true rfl, Nat.le_of_ble_eq_true rfl⟩ ⟨Nat.le_of_ble_eq_true rfl, Nat.le_of_ble_eq_true rfl⟩ (fun r σ12801 hp => ?_)
      obtain ⟨h12802, hp⟩ := hp
      have h12803 := HS.trans h12793 h12802 (by decide)
      have ga12804 := ga12784.of (h12802.2 (c + 1) (by rw [kC_at (k := 1) (by decide)]; decide))
      have ga12805 := ga12785.of (h12802.2 (c + 2) (by rw [kC_at (k := 2) (by decide)]; decide))
      have ga12806 := ga12786.of (h12802.2 (c + 3) (by rw [kC_at (k := 3) (by decide)]; decide))
      have ga12807 := ga12787.of (h12802.2 (c + 7) (by rw [kC_at (k := 7) (by decide)]; decide))
      have ga12808 := ga12788.of (h12802.2 (c + 8) (by rw [kC_at (k := 8) (by decide)]; decide))
      have ga12809 := ga12789.of (h12802.2 (c + 9) (by rw [kC_at (k := 9) (by decide)]; decide))
      have ga12810 := ga12790.of (h12802.2 (c + 11) (by rw [kC_at (k := 11) (by decide)]; decide))
      obtain ⟨rfl, rfl⟩ := hp
      refine m_istore F (lv' := [(4, .int (nI 500)), (3, .int (nI 0)), (2, .int 0), (1, .int (nI (8 + P.n7))), (0, .ref c)]) e_X10_readChange_72 (by decide) rfl ?_
      refine m_aload_n F rfl e_X10_readChange_74 ?_
      refine r_getC F e_X10_readChange_75 fl_X10_141 h12803 ((fld_eq (h12782.2 c (by rw [show kC c c = 1 from kC_at (k := 0) (by decide)]; decide))).trans yd12769) ?_
      refine m_if_eq F e_X10_readChange_78 (fun q => absurd q (by decide)) (fun _ => ?_)
      have h12811 : HS V c _ [0, 2, 4, 5, 6, 7, 8, 9, 10, 11, 14, 15, 16, 17, 18, 19, 20, 21, 22, 23] _ _ := ⟨HR.mono (Z' := Z) (by intro e; first | rfl | assumption | omega) h12803.1, h12803.2⟩
      exact m_vret F hQ e_X10_readChange_81 (⟨P, hP, (by unfold RP; omega), (by unfold indexS; dsimp only; rw [if_pos (by omega)]; exact RM.l ((fld_eq (h12782.2 c (by rw [show kC c c = 1 from kC_at (k := 0) (by decide)]; decide))).trans yd12769) ((fld_eq (h12782.2 c (by rw [show kC c c = 1 from kC_at (k := 0) (by decide)]; decide))).trans yd12770) (by decide) (by decide) (by omega)), h12811, rfl⟩)
    · have c29 : P.n7 ≠ 0 := by have hh := mt (nI_eq (a := P.n7) (b := 0) (by omega) (by omega)).mpr q29; omega
      refine m_aload_n F rfl e_X10_readChange_32 ?_
      refine r_getC F e_X10_readChange_33 fl_X10_141 h12783 ((fld_eq (h12782.2 c (by rw [show kC c c = 1 from kC_at (k := 0) (by decide)]; decide))).trans yd12769) ?_
      refine m_if_eq F e_X10_readChange_36 (fun q => absurd q (by decide)) (fun _ => ?_)
      refine m_iconst F (v := 0) (by decide) e_X10_readChange_39 ?_
      refine m_goto F e_X10_readChange_40 ?_
      refine m_istore_n F (lv' := [(2, .int 0), (1, .int (nI (8 + P.n7))), (0, .ref c)]) e_X10_readChange_53 (by decide) rfl ?_
      refine m_aload_n F rfl e_X10_readChange_54 ?_
      refine m_iload_n F rfl e_X10_readChange_55 ?_
      refine m_bipush F (v := 99) (by decide) e_X10_readChange_56 ?_
      refine r_callV F e_X10_readChange_58 (q_X10_numeralG (x_l X) V c T 0 u h P L _ _ 0 99 2 h12783.1 (hob) hP (by omega) (by omega) ((fld_eq (h12782.2 c (by rw [show kC c c = 1 from kC_at (k := 0) (by decide)]; decide))).trans yd12769) (by decide)) cb_X10_numeral ml_X10_165 im_X10_numeral se_X10_numeral h12783 rfl rfl (rest := []) rfl (Nat.le_of_ble_eq_true rfl) ⟨Nat.le_of_ble_eq_true rfl, Nat.le_of_ble_eq_true rfl⟩ ⟨Nat.le_of_ble_eq_true rfl, Nat.le_of_ble_eq_true rfl⟩ (fun r σ12812 hp => ?_)
      obtain ⟨h12813, hp⟩ := hp
      have h12814 := HS.trans h12783 h12813 (by decide)
      have ga12815 := ga12784.of (h12813.2 (c + 1) (by rw [kC_at (k := 1) (by decide)]; decide))
      have ga12816 := ga12785.of (h12813.2 (c + 2) (by rw [kC_at (k := 2) (by decide)]; decide))
      have ga12817 := ga12786.of (h12813.2 (c + 3) (by rw [kC_at (k := 3) (by decide)]; decide))
      have ga12818 := ga12787.of (h12813.2 (c + 7) (by rw [kC_at (k := 7) (by decide)]; decide))
      have ga12819 := ga12788.of (h12813.2 (c + 8) (by rw [kC_at (k := 8) (by decide)]; decide))
      have ga12820 := ga12789.of (h12813.2 (c + 9) (by rw [kC_at (k := 9) (by decide)]; decide))
      have ga12821 := ga12790.of (h12813.2 (c + 11) (by rw [kC_at (k := 11) (by decide)]; decide))
      obtain ⟨rfl, rfl⟩ := hp
      refine m_istore_n F (lv' := [(3, .int (nI 0)), (2, .int 0), (1, .int (nI (8 + P.n7))), (0, .ref c)]) e_X10_readChange_61 (by decide) rfl ?_
      refine m_aload_n F rfl e_X10_readChange_62 ?_
      refine m_sipush F (v := 500) (by decide) e_X10_readChange_63 ?_
      refine m_sipush F (v := 2000) (by decide) e_X10_readChange_66 ?_
      refine r_callV F e_X10_readChange_69 (q_X10_numeralG (x_l X) V c T 0 u h P L _ _ 500 2000 2 h12814.1 (hob) hP (by omega) (by omega) ((fld_eq (h12782.2 c (by rw [show kC c c = 1 from kC_at (k := 0) (by decide)]; decide))).trans yd12769) (by decide)) cb_X10_numeral ml_X10_165 im_X10_numeral se_X10_numeral h12814 rfl rfl (rest := []) rfl (Nat.le_of_ble_eq_true rfl) ⟨Nat.le_of_ble_eq_true rfl, Nat.le_of_ble_eq_true rfl⟩ ⟨Nat.le_of_ble_eq_true rfl, Nat.le_of_ble_eq_true rfl⟩ (fun r σ12822 hp => ?_)
      obtain ⟨h12823, hp⟩ := hp
      have h12824 := HS.trans h12814 h12823 (by decide)
      have ga12825 := ga12784.of (h12823.2 (c + 1) (by rw [kC_at (k := 1) (by decide)]; decide))
      have ga12826 := ga12785.of (h12823.2 (c + 2) (by rw [kC_at (k := 2) (by decide)]; decide))
      have ga12827 := ga12786.of (h12823.2 (c + 3) (by rw [kC_at (k := 3) (by decide)]; decide))
      have ga12828 := ga12787.of (h12823.2 (c + 7) (by rw [kC_at (k := 7) (by decide)]; decide))
      have ga12829 := ga12788.of (h12823.2 (c + 8) (by rw [kC_at (k := 8) (by decide)]; decide))
      have ga12830 := ga12789.of (h12823.2 (c + 9) (by rw [kC_at (k := 9) (by decide)]; decide))
      have ga12831 := ga12790.of (h12823.2 (c + 11) (by rw [kC_at (k := 11) (by decide)]; decide))
      obtain ⟨rfl, rfl⟩ := hp
      refine m_istore F (lv' := [(4, .int (nI 500)), (3, .int (nI 0)), (2, .int 0), (1, .int (nI (8 + P.n7))), (0, .ref c)]) e_X10_readChange_72 (by decide) rfl ?_
      refine m_aload_n F rfl e_X10_readChange_74 ?_
      refine r_getC F e_X10_readChange_75 fl_X10_141 h12824 ((fld_eq (h12782.2 c (by rw [show kC c c = 1 from kC_at (k := 0) (by decide)]; decide))).trans yd12769) ?_
      refine m_if_eq F e_X10_readChange_78 (fun q => absurd q (by decide)) (fun _ => ?_)
      have h12832 : HS V c _ [0, 2, 4, 5, 6, 7, 8, 9, 10, 11, 14, 15, 16, 17, 18, 19, 20, 21, 22, 23] _ _ := ⟨HR.mono (Z' := Z) (by intro e; first | rfl | assumption | omega) h12824.1, h12824.2⟩
      exact m_vret F hQ e_X10_readChange_81 (⟨P, hP, (by unfold RP; omega), (by unfold indexS; dsimp only; rw [if_pos (by omega)]; exact RM.l ((fld_eq (h12782.2 c (by rw [show kC c c = 1 from kC_at (k := 0) (by decide)]; decide))).trans yd12769) ((fld_eq (h12782.2 c (by rw [show kC c c = 1 from kC_at (k := 0) (by decide)]; decide))).trans yd12770) (by decide) (by decide) (by omega)), h12832, rfl⟩)
set_option maxRecDepth 20000 in
theorem q_X10_readOptionE (l : Launch) (V : VX) (c T Z u h : Nat) (P : NP) (L : Nat → LQ) (N : Nat) (σ : Mem) (n st : Nat) (so va : Int32) (ln : Nat) (fp : Int32) (t : Nat → Nat) (s9 v9 : Nat) (nm : Nat → Nat) (np lc no sd : Nat) (md : Nat → Nat → Bool) (h0 : HR V c ⟨T, Z, u, h, P, L⟩ σ) (hob : OKB L) (hP : OKP P) (hp0 : YD σ c n st so va ln 0 fp) (hp1 : BR σ c n t) (hp2 : n ≤ 700) (hp3 : P.a ≤ n) (hp4 : MT so va s9 v9) (hp5 : st ≤ n) (hp6 : NR σ c np no sd) (hp7 : MR σ c P.n5 nm) (hp8 : KR σ c P.n5 md) (hp9 : FR σ c 8 1 P.n5 md) (hp10 : FR σ c 9 2 P.n5 md) (hp11 : QR σ c P.n7 lc) (hp12 : np ≤ 12) (hp13 : no ≤ 4) (hp14 : sd ≤ 1) : Ct l V yX10_readOption cX10_readOption 5 none 8 0 0 N σ [.ref c] (fun r τ => ∃ P9 : NP, OKP P9 ∧ RP P P9 ∧ RM τ c n P9 (optionS (tok t n) (st, s9, v9, P.a) P.n5 nm np P.n7 lc no sd md ln) ∧ HS V c (⟨T, Z, u, h, P9, L⟩ : RG) [0, 2, 4, 5, 6, 7, 8, 9, 10, 11, 12, 13, 17, 18, 19, 20, 21, 22, 23] σ τ ∧ r = none) := by
  refine Ct.of (by decide) (Nat.le_of_ble_eq_true rfl) [(0, .ref c)] rfl (fun X hX F hQ => ?_)
  have hPP := hP
  unfold OKP at hPP
  have h1 : HS V c ⟨T, Z, u, h, P, L⟩ [0, 2, 4, 5, 6, 7, 8, 9, 10, 11, 12, 13, 17, 18, 19, 20, 21, 22, 23] σ σ := HS.start h0
  have hyd12833 := hp0
  obtain ⟨yd12833, yd12834, yd12835, yd12836, yd12837, yd12838, yd12839⟩ := hyd12833
  have hn7 := hp2
  refine m_iconst F (v := 4) (by decide) e_X10_readOption_0 ?_
  refine m_aload_n F rfl e_X10_readOption_1 ?_
  refine m_iconst F (v := 3) (by decide) e_X10_readOption_2 ?_
  refine r_callV F e_X10_readOption_3 (q_X10_reading3E (x_l X) V c T Z u h P L _ _  np no sd h1.1 (hob) hP  hp6) cb_X10_reading ml_X10_157 im_X10_reading se_X10_reading h1 rfl rfl (rest := [.int 4]) rfl (Nat.le_of_ble_eq_true rfl) ⟨Nat.le_of_ble_eq_true rfl, Nat.le_of_ble_eq_true rfl⟩ ⟨Nat.le_of_ble_eq_true rfl, Nat.le_of_ble_eq_true rfl⟩ (fun r σ12840 hp => ?_)
  obtain ⟨h12841, hp⟩ := hp
  have h12842 := HS.trans h1 h12841 (by decide)
  have ga12843 := hp1.of (h12841.2 (c + 1) (by rw [kC_at (k := 1) (by decide)]; decide))
  have ga12844 := hp6.of (h12841.2 (c + 2) (by rw [kC_at (k := 2) (by decide)]; decide))
  have ga12845 := hp7.of (h12841.2 (c + 3) (by rw [kC_at (k := 3) (by decide)]; decide))
  have ga12846 := hp8.of (h12841.2 (c + 7) (by rw [kC_at (k := 7) (by decide)]; decide))
  have ga12847 := hp9.of (h12841.2 (c + 8) (by rw [kC_at (k := 8) (by decide)]; decide))
  have ga12848 := hp10.of (h12841.2 (c + 9) (by rw [kC_at (k := 9) (by decide)]; decide))
  have ga12849 := hp11.of (h12841.2 (c + 11) (by rw [kC_at (k := 11) (by decide)]; decide))
  obtain rfl := hp
  refine m_iadd F e_X10_readOption_6 ?_
  refine Wm.topE (w := nI (4 + no)) (nI_add 4 no) ?_
  refine m_istore_n F (lv' := [(1, .int (nI (4 + no))), (0, .ref c)]) e_X10_readOption_7 (by decide) rfl ?_
  refine m_iload_n F rfl e_X10_readOption_8 ?_
  refine m_bipush F (v := 8) (by decide) e_X10_readOption_9 ?_
  refine m_icmp_ne F e_X10_readOption_11 (fun q11 => ?_) (fun q11 => ?_)
  · have c11 : (4 + no) ≠ 8 := by have hh := mt (nI_eq (a := (4 + no)) (b := 8) (by omega) (by omega)).mpr q11; omega
    refine m_aload_n F rfl e_X10_readOption_19 ?_
    refine r_callV F e_X10_readOption_20 (q_X10_atHandE (x_l X) V c T Z u h P L _ _  n st so va ln fp t nm h12842.1 (hob) hP  ⟨((fld_eq (h12841.2 c (by rw [show kC c c = 1 from kC_at (k := 0) (by decide)]; decide))).trans yd12833), ((fld_eq (h12841.2 c (by rw [show kC c c = 1 from kC_at (k := 0) (by decide)]; decide))).trans yd12834), ((fld_eq (h12841.2 c (by rw [show kC c c = 1 from kC_at (k := 0) (by decide)]; decide))).trans yd12835), ((fld_eq (h12841.2 c (by rw [show kC c c = 1 from kC_at (k := 0) (by decide)]; decide))).trans yd12836), ((fld_eq (h12841.2 c (by rw [show kC c c = 1 from kC_at (k := 0) (by decide)]; decide))).trans yd12837), ((fld_eq (h12841.2 c (by rw [show kC c c = 1 from kC_at (k := 0) (by decide)]; decide))).trans yd12838), ((fld_eq (h12841.2 c (by rw [show kC c c = 1 from kC_at (k := 0) (by decide)]; decide))).trans yd12839)⟩ ga12843 hn7 (by omega) ga12845) cb_X10_atHand ml_X10_174 im_X10_atHand se_X10_atHand h12842 rfl rfl (rest := []) rfl (Nat.le_of_ble_eq_true rfl) ⟨Nat.le_of_ble_eq_true rfl, Nat.le_of_ble_eq_true rfl⟩ ⟨Nat.le_of_ble_eq_true rfl, Nat.le_of_ble_eq_true rfl⟩ (fun r σ12850 hp => ?_)
    obtain ⟨P12853, oP12853, rP12853, pr12854, h12851, hp⟩ := hp
    have h12852 := HS.trans h12842 h12851 (by decide)
    have xP12853 := oP12853
    unfold OKP at xP12853
    unfold RA at rP12853
    have ga12855 := ga12843.of (h12851.2 (c + 1) (by rw [kC_at (k := 1) (by decide)]; decide))
    have ga12856 := ga12844.of (h12851.2 (c + 2) (by rw [kC_at (k := 2) (by decide)]; decide))
    have ga12857 := ga12845.of (h12851.2 (c + 3) (by rw [kC_at (k := 3) (by decide)]; decide))
    have ga12858 := ga12846.of (h12851.2 (c + 7) (by rw [kC_at (k := 7) (by decide)]; decide))
    have ga12859 := ga12847.of (h12851.2 (c + 8) (by rw [kC_at (k := 8) (by decide)]; decide))
    have ga12860 := ga12848.of (h12851.2 (c + 9) (by rw [kC_at (k := 9) (by decide)]; decide))
    have ga12861 := ga12849.of (h12851.2 (c + 11) (by rw [kC_at (k := 11) (by decide)]; decide))
    have bk12871 := tok_ok (t := t) (n := n) P.a (by omega)
    generalize ek12871 : tok t n P.a = k12871 at pr12854 bk12871
    rcases pr12854 with ⟨e12862, e12863, ea12864, ⟨so12865, va12866, mt12867, yd12868⟩, rfl⟩ | ⟨e12862, ⟨fa12869, fb12870⟩, rfl⟩ | ⟨e12862, e12863, ⟨fa12869, fb12870⟩, rfl⟩
    · have hyd12872 := yd12868
      obtain ⟨yd12872, yd12873, yd12874, yd12875, yd12876, yd12877, yd12878⟩ := hyd12872
      refine m_istore_n F (lv' := [(2, .int (nI (4 + fx nm k12871.2.2.1 P.n5))), (1, .int (nI (4 + no))), (0, .ref c)]) e_X10_readOption_23 (by decide) rfl ?_
      refine m_aload_n F rfl e_X10_readOption_24 ?_
      refine r_callV F e_X10_readOption_25 (q_X10_goOnE (x_l X) V c T Z u h P12853 L _ _  n k12871.1 so12865 va12866 ln fp t h12852.1 (hob) oP12853  ⟨(yd12872), (yd12873), (yd12874), (yd12875), (yd12876), (yd12877), (yd12878)⟩ ga12855 hn7 (by omega)) cb_X10_goOn ml_X10_154 im_X10_goOn se_X10_goOn h12852 rfl rfl (rest := []) rfl (Nat.le_of_ble_eq_true rfl) ⟨Nat.le_of_ble_eq_true rfl, Nat.le_of_ble_eq_true rfl⟩ ⟨Nat.le_of_ble_eq_true rfl, Nat.le_of_ble_eq_true rfl⟩ (fun r σ12879 hp => ?_)
      obtain ⟨P12882, oP12882, rP12882, pr12883, pr12884, h12880, hp⟩ := hp
      have h12881 := HS.trans h12852 h12880 (by decide)
      have xP12882 := oP12882
      unfold OKP at xP12882
      unfold RA at rP12882
      have ga12885 := ga12855.of (h12880.2 (c + 1) (by rw [kC_at (k := 1) (by decide)]; decide))
      have ga12886 := ga12856.of (h12880.2 (c + 2) (by rw [kC_at (k := 2) (by decide)]; decide))
      have ga12887 := ga12857.of (h12880.2 (c + 3) (by rw [kC_at (k := 3) (by decide)]; decide))
      have ga12888 := ga12858.of (h12880.2 (c + 7) (by rw [kC_at (k := 7) (by decide)]; decide))
      have ga12889 := ga12859.of (h12880.2 (c + 8) (by rw [kC_at (k := 8) (by decide)]; decide))
      have ga12890 := ga12860.of (h12880.2 (c + 9) (by rw [kC_at (k := 9) (by decide)]; decide))
      have ga12891 := ga12861.of (h12880.2 (c + 11) (by rw [kC_at (k := 11) (by decide)]; decide))
      obtain rfl := hp
      obtain ⟨so12892, va12893, mt12894, yd12895⟩ := pr12884
      generalize ek12896 : tok t n P12853.a = k12896 at pr12883 mt12894 yd12895
      have bk12896 := tok_ok (t := t) (n := n) P12853.a (by omega)
      rw [ek12896] at bk12896
      rw [show P12853.a = k12871.2.2.2 by omega] at ek12896
      have hyd12897 := yd12895
      obtain ⟨yd12897, yd12898, yd12899, yd12900, yd12901, yd12902, yd12903⟩ := hyd12897
      refine m_aload_n F rfl e_X10_readOption_28 ?_
      refine m_iconst F (v := 1) (by decide) e_X10_readOption_29 ?_
      refine m_bipush F (v := 24) (by decide) e_X10_readOption_30 ?_
      refine r_callV F e_X10_readOption_32 (q_X10_numeralE (x_l X) V c T Z u h P12882 L _ _ 1 24 n k12896.1 so12892 va12893 ln fp t k12896.2.1 k12896.2.2.1 h12881.1 (hob) oP12882 (by omega) (by omega) ⟨(yd12897), (yd12898), (yd12899), (yd12900), (yd12901), (yd12902), (yd12903)⟩ ga12885 hn7 (by omega) mt12894) cb_X10_numeral ml_X10_165 im_X10_numeral se_X10_numeral h12881 rfl rfl (rest := []) rfl (Nat.le_of_ble_eq_true rfl) ⟨Nat.le_of_ble_eq_true rfl, Nat.le_of_ble_eq_true rfl⟩ ⟨Nat.le_of_ble_eq_true rfl, Nat.le_of_ble_eq_true rfl⟩ (fun r σ12904 hp => ?_)
      obtain ⟨P12907, oP12907, rP12907, pr12908, h12905, hp⟩ := hp
      have h12906 := HS.trans h12881 h12905 (by decide)
      have xP12907 := oP12907
      unfold OKP at xP12907
      unfold RA at rP12907
      have ga12909 := ga12885.of (h12905.2 (c + 1) (by rw [kC_at (k := 1) (by decide)]; decide))
      have ga12910 := ga12886.of (h12905.2 (c + 2) (by rw [kC_at (k := 2) (by decide)]; decide))
      have ga12911 := ga12887.of (h12905.2 (c + 3) (by rw [kC_at (k := 3) (by decide)]; decide))
      have ga12912 := ga12888.of (h12905.2 (c + 7) (by rw [kC_at (k := 7) (by decide)]; decide))
      have ga12913 := ga12889.of (h12905.2 (c + 8) (by rw [kC_at (k := 8) (by decide)]; decide))
      have ga12914 := ga12890.of (h12905.2 (c + 9) (by rw [kC_at (k := 9) (by decide)]; decide))
      have ga12915 := ga12891.of (h12905.2 (c + 11) (by rw [kC_at (k := 11) (by decide)]; decide))
      rcases pr12908 with ⟨e12916, l12918, l12919, ea12920, ⟨so12921, va12922, mt12923, yd12924⟩, rfl⟩ | ⟨e12916, ⟨fa12925, fb12926⟩, rfl⟩ | ⟨e12916, e12917, ⟨fa12925, fb12926⟩, rfl⟩
      · have bk12927 := tok_ok (t := t) (n := n) P12882.a (by omega)
        generalize ek12927 : tok t n P12882.a = k12927 at ea12920 mt12923 yd12924 bk12927
        rw [show P12882.a = k12896.2.2.2 by omega] at ek12927
        have hyd12928 := yd12924
        obtain ⟨yd12928, yd12929, yd12930, yd12931, yd12932, yd12933, yd12934⟩ := hyd12928
        refine m_istore_n F (lv' := [(3, .int (nI k12896.2.2.1)), (2, .int (nI (4 + fx nm k12871.2.2.1 P.n5))), (1, .int (nI (4 + no))), (0, .ref c)]) e_X10_readOption_35 (by decide) rfl ?_
        refine m_aload_n F rfl e_X10_readOption_36 ?_
        refine m_iconst F (v := 0) (by decide) e_X10_readOption_37 ?_
        refine m_ldc F kc_X10_177 e_X10_readOption_38 ?_
        refine r_callV F e_X10_readOption_40 (q_X10_numeralE (x_l X) V c T Z u h P12907 L _ _ 0 99999 n k12927.1 so12921 va12922 ln fp t k12927.2.1 k12927.2.2.1 h12906.1 (hob) oP12907 (by omega) (by omega) ⟨(yd12928), (yd12929), (yd12930), (yd12931), (yd12932), (yd12933), (yd12934)⟩ ga12909 hn7 (by omega) mt12923) cb_X10_numeral ml_X10_165 im_X10_numeral se_X10_numeral h12906 rfl rfl (rest := []) rfl (Nat.le_of_ble_eq_true rfl) ⟨Nat.le_of_ble_eq_true rfl, Nat.le_of_ble_eq_true rfl⟩ ⟨Nat.le_of_ble_eq_true rfl, Nat.le_of_ble_eq_true rfl⟩ (fun r σ12935 hp => ?_)
        obtain ⟨P12938, oP12938, rP12938, pr12939, h12936, hp⟩ := hp
        have h12937 := HS.trans h12906 h12936 (by decide)
        have xP12938 := oP12938
        unfold OKP at xP12938
        unfold RA at rP12938
        have ga12940 := ga12909.of (h12936.2 (c + 1) (by rw [kC_at (k := 1) (by decide)]; decide))
        have ga12941 := ga12910.of (h12936.2 (c + 2) (by rw [kC_at (k := 2) (by decide)]; decide))
        have ga12942 := ga12911.of (h12936.2 (c + 3) (by rw [kC_at (k := 3) (by decide)]; decide))
        have ga12943 := ga12912.of (h12936.2 (c + 7) (by rw [kC_at (k := 7) (by decide)]; decide))
        have ga12944 := ga12913.of (h12936.2 (c + 8) (by rw [kC_at (k := 8) (by decide)]; decide))
        have ga12945 := ga12914.of (h12936.2 (c + 9) (by rw [kC_at (k := 9) (by decide)]; decide))
        have ga12946 := ga12915.of (h12936.2 (c + 11) (by rw [kC_at (k := 11) (by decide)]; decide))
        rcases pr12939 with ⟨e12947, l12949, l12950, ea12951, ⟨so12952, va12953, mt12954, yd12955⟩, rfl⟩ | ⟨e12947, ⟨fa12956, fb12957⟩, rfl⟩ | ⟨e12947, e12948, ⟨fa12956, fb12957⟩, rfl⟩
        · have bk12958 := tok_ok (t := t) (n := n) P12907.a (by omega)
          generalize ek12958 : tok t n P12907.a = k12958 at ea12951 mt12954 yd12955 bk12958
          rw [show P12907.a = k12927.2.2.2 by omega] at ek12958
          have hyd12959 := yd12955
          obtain ⟨yd12959, yd12960, yd12961, yd12962, yd12963, yd12964, yd12965⟩ := hyd12959
          refine m_istore F (lv' := [(4, .int (nI k12927.2.2.1)), (3, .int (nI k12896.2.2.1)), (2, .int (nI (4 + fx nm k12871.2.2.1 P.n5))), (1, .int (nI (4 + no))), (0, .ref c)]) e_X10_readOption_43 (by decide) rfl ?_
          refine m_aload_n F rfl e_X10_readOption_45 ?_
          refine r_getC F e_X10_readOption_46 fl_X10_141 h12937 (yd12964) ?_
          refine m_if_eq F e_X10_readOption_49 (fun _ => ?_) (fun q => absurd (by decide) q)
          refine m_aload_n F rfl e_X10_readOption_53 ?_
          refine r_get F e_X10_readOption_54 fl_X10_46 h12937 rfl (fun v hv f12966 => ?_)
          obtain rfl : v = .ref (c + 13) := hv
          refine m_iload_n F rfl e_X10_readOption_57 ?_
          refine m_iload_n F rfl e_X10_readOption_58 ?_
          refine m_iconst F (v := 4) (by decide) e_X10_readOption_59 ?_
          refine m_isub F e_X10_readOption_60 ?_
          refine Wm.topE (w := nI ((4 + fx nm k12871.2.2.1 P.n5) - 4)) (pk_sub (a := 4 + fx nm k12871.2.2.1 P.n5) (b := 4) (by omega)) ?_
          refine r_iast F (g' := (⟨T, Z, u, h, P12938, L⟩ : RG)) (len := 8) (j := 4 + no) e_X10_readOption_61 h12937 (fun _ h => h) (fun f h => ⟨f, rfl, h⟩) (by decide) (by decide) (nI_clamp (by omega)) (vp_in_nI (by omega) (by decide)) ⟨(4 + fx nm k12871.2.2.1 P.n5) - 4, by omega, rfl⟩ (fun _ _ _ h => h) (fun _ _ _ h => h) (fun σ12967 h12968 g12969 f12970 g12971 => ?_)
          have ga12972 := ga12940.of (g12969 _ (by omega))
          have ga12973 := ga12941.of (g12969 _ (by omega))
          have ga12974 := ga12942.of (g12969 _ (by omega))
          have ga12975 := ga12943.of (g12969 _ (by omega))
          have ga12976 := ga12944.of (g12969 _ (by omega))
          have ga12977 := ga12945.of (g12969 _ (by omega))
          have ga12978 := ga12946.of (g12969 _ (by omega))
          refine m_aload_n F rfl e_X10_readOption_62 ?_
          refine r_get F e_X10_readOption_63 fl_X10_49 h12968 rfl (fun v hv f12979 => ?_)
          obtain rfl : v = .ref (c + 14) := hv
          refine m_iload_n F rfl e_X10_readOption_66 ?_
          refine m_iload_n F rfl e_X10_readOption_67 ?_
          refine r_iast F (g' := (⟨T, Z, u, h, P12938, L⟩ : RG)) (len := 8) (j := 4 + no) e_X10_readOption_68 h12968 (fun _ h => h) (fun f h => ⟨f, rfl, h⟩) (by decide) (by decide) (nI_clamp (by omega)) (vp_in_nI (by omega) (by decide)) ⟨k12896.2.2.1, by omega, rfl⟩ (fun _ _ _ h => h) (fun _ _ _ h => h) (fun σ12980 h12981 g12982 f12983 g12984 => ?_)
          have ga12985 := ga12972.of (g12982 _ (by omega))
          have ga12986 := ga12973.of (g12982 _ (by omega))
          have ga12987 := ga12974.of (g12982 _ (by omega))
          have ga12988 := ga12975.of (g12982 _ (by omega))
          have ga12989 := ga12976.of (g12982 _ (by omega))
          have ga12990 := ga12977.of (g12982 _ (by omega))
          have ga12991 := ga12978.of (g12982 _ (by omega))
          refine m_aload_n F rfl e_X10_readOption_69 ?_
          refine r_get F e_X10_readOption_70 fl_X10_52 h12981 rfl (fun v hv f12992 => ?_)
          obtain rfl : v = .ref (c + 15) := hv
          refine m_iload_n F rfl e_X10_readOption_73 ?_
          refine m_iload F rfl e_X10_readOption_74 ?_
          refine r_iast F (g' := (⟨T, Z, u, h, P12938, L⟩ : RG)) (len := 8) (j := 4 + no) e_X10_readOption_76 h12981 (fun _ h => h) (fun f h => ⟨f, rfl, h⟩) (by decide) (by decide) (nI_clamp (by omega)) (vp_in_nI (by omega) (by decide)) trivial (fun _ _ _ h => h) (fun _ _ _ h => h) (fun σ12993 h12994 g12995 f12996 g12997 => ?_)
          have ga12998 := ga12985.of (g12995 _ (by omega))
          have ga12999 := ga12986.of (g12995 _ (by omega))
          have ga13000 := ga12987.of (g12995 _ (by omega))
          have ga13001 := ga12988.of (g12995 _ (by omega))
          have ga13002 := ga12989.of (g12995 _ (by omega))
          have ga13003 := ga12990.of (g12995 _ (by omega))
          have ga13004 := ga12991.of (g12995 _ (by omega))
          refine m_aload_n F rfl e_X10_readOption_77 ?_
          refine m_iconst F (v := 3) (by decide) e_X10_readOption_78 ?_
          refine m_aload_n F rfl e_X10_readOption_79 ?_
          refine m_iconst F (v := 3) (by decide) e_X10_readOption_80 ?_
          refine r_callV F e_X10_readOption_81 (q_X10_reading3E (x_l X) V c T Z u h P12938 L _ _  np no sd h12994.1 (hob) oP12938  ga12999) cb_X10_reading ml_X10_157 im_X10_reading se_X10_reading h12994 rfl rfl (rest := [.int 3, .ref c]) rfl (Nat.le_of_ble_eq_true rfl) ⟨Nat.le_of_ble_eq_true rfl, Nat.le_of_ble_eq_true rfl⟩ ⟨Nat.le_of_ble_eq_true rfl, Nat.le_of_ble_eq_true rfl⟩ (fun r σ13005 hp => ?_)
          obtain ⟨h13006, hp⟩ := hp
          have h13007 := HS.trans h12994 h13006 (by decide)
          have ga13008 := ga12998.of (h13006.2 (c + 1) (by rw [kC_at (k := 1) (by decide)]; decide))
          have ga13009 := ga12999.of (h13006.2 (c + 2) (by rw [kC_at (k := 2) (by decide)]; decide))
          have ga13010 := ga13000.of (h13006.2 (c + 3) (by rw [kC_at (k := 3) (by decide)]; decide))
          have ga13011 := ga13001.of (h13006.2 (c + 7) (by rw [kC_at (k := 7) (by decide)]; decide))
          have ga13012 := ga13002.of (h13006.2 (c + 8) (by rw [kC_at (k := 8) (by decide)]; decide))
          have ga13013 := ga13003.of (h13006.2 (c + 9) (by rw [kC_at (k := 9) (by decide)]; decide))
          have ga13014 := ga13004.of (h13006.2 (c + 11) (by rw [kC_at (k := 11) (by decide)]; decide))
          obtain rfl := hp
          refine m_iconst F (v := 1) (by decide) e_X10_readOption_84 ?_
          refine m_iadd F e_X10_readOption_85 ?_
          refine Wm.topE (w := nI (no + 1)) (nI_add no 1) ?_
          refine r_callV F e_X10_readOption_86 (q_X10_reads3E (x_l X) V c T Z u h P12938 L _ _ (no + 1)  h13007.1 (hob) oP12938 (by omega) ) cb_X10_reads ml_X10_170 im_X10_reads se_X10_reads h13007 rfl rfl (rest := []) rfl (Nat.le_of_ble_eq_true rfl) ⟨Nat.le_of_ble_eq_true rfl, Nat.le_of_ble_eq_true rfl⟩ ⟨Nat.le_of_ble_eq_true rfl, Nat.le_of_ble_eq_true rfl⟩ (fun r σ13015 hp => ?_)
          obtain ⟨h13016, hp⟩ := hp
          have h13017 := HS.trans h13007 h13016 (by decide)
          have ga13018 := ga13008.of (h13016.2 (c + 1) (by rw [kC_at (k := 1) (by decide)]; decide))
          have ga13019 := ga13010.of (h13016.2 (c + 3) (by rw [kC_at (k := 3) (by decide)]; decide))
          have ga13020 := ga13011.of (h13016.2 (c + 7) (by rw [kC_at (k := 7) (by decide)]; decide))
          have ga13021 := ga13012.of (h13016.2 (c + 8) (by rw [kC_at (k := 8) (by decide)]; decide))
          have ga13022 := ga13013.of (h13016.2 (c + 9) (by rw [kC_at (k := 9) (by decide)]; decide))
          have ga13023 := ga13014.of (h13016.2 (c + 11) (by rw [kC_at (k := 11) (by decide)]; decide))
          obtain ⟨ea13024, eb13025, rfl⟩ := hp
          have ga13026 := NR.o ga13009 ea13024 eb13025
          exact m_vret F hQ e_X10_readOption_89 (⟨P12938, oP12938, (by unfold RP; omega), (by unfold optionS; dsimp only; rw [if_neg (by omega), ek12871, tolK_ok e12862 e12863, ek12896, numK_ok e12916 l12918 l12919, ek12927, numK_ok e12947 l12949 l12950, ek12958]; exact RM.r mt12954 ⟨((fld_eq (h13016.2 c (by rw [show kC c c = 1 from kC_at (k := 0) (by decide)]; decide))).trans ((fld_eq (h13006.2 c (by rw [show kC c c = 1 from kC_at (k := 0) (by decide)]; decide))).trans ((fld_eq (g12995 _ (by omega))).trans ((fld_eq (g12982 _ (by omega))).trans ((fld_eq (g12969 _ (by omega))).trans yd12959))))), ((fld_eq (h13016.2 c (by rw [show kC c c = 1 from kC_at (k := 0) (by decide)]; decide))).trans ((fld_eq (h13006.2 c (by rw [show kC c c = 1 from kC_at (k := 0) (by decide)]; decide))).trans ((fld_eq (g12995 _ (by omega))).trans ((fld_eq (g12982 _ (by omega))).trans ((fld_eq (g12969 _ (by omega))).trans yd12960))))), ((fld_eq (h13016.2 c (by rw [show kC c c = 1 from kC_at (k := 0) (by decide)]; decide))).trans ((fld_eq (h13006.2 c (by rw [show kC c c = 1 from kC_at (k := 0) (by decide)]; decide))).trans ((fld_eq (g12995 _ (by omega))).trans ((fld_eq (g12982 _ (by omega))).trans ((fld_eq (g12969 _ (by omega))).trans yd12961))))), ((fld_eq (h13016.2 c (by rw [show kC c c = 1 from kC_at (k := 0) (by decide)]; decide))).trans ((fld_eq (h13006.2 c (by rw [show kC c c = 1 from kC_at (k := 0) (by decide)]; decide))).trans ((fld_eq (g12995 _ (by omega))).trans ((fld_eq (g12982 _ (by omega))).trans ((fld_eq (g12969 _ (by omega))).trans yd12962))))), ((fld_eq (h13016.2 c (by rw [show kC c c = 1 from kC_at (k := 0) (by decide)]; decide))).trans ((fld_eq (h13006.2 c (by rw [show kC c c = 1 from kC_at (k := 0) (by decide)]; decide))).trans ((fld_eq (g12995 _ (by omega))).trans ((fld_eq (g12982 _ (by omega))).trans ((fld_eq (g12969 _ (by omega))).trans yd12963))))), ((fld_eq (h13016.2 c (by rw [show kC c c = 1 from kC_at (k := 0) (by decide)]; decide))).trans ((fld_eq (h13006.2 c (by rw [show kC c c = 1 from kC_at (k := 0) (by decide)]; decide))).trans ((fld_eq (g12995 _ (by omega))).trans ((fld_eq (g12982 _ (by omega))).trans ((fld_eq (g12969 _ (by omega))).trans yd12964))))), ((fld_eq (h13016.2 c (by rw [show kC c c = 1 from kC_at (k := 0) (by decide)]; decide))).trans ((fld_eq (h13006.2 c (by rw [show kC c c = 1 from kC_at (k := 0) (by decide)]; decide))).trans ((fld_eq (g12995 _ (by omega))).trans ((fld_eq (g12982 _ (by omega))).trans ((fld_eq (g12969 _ (by omega))).trans yd12965)))))⟩ (by omega) (by omega) (by omega) ga13026 ga13019 ga13020 ga13021 ga13022 ga13023 (by omega) (by omega) (by omega) (by omega) (by omega)), h13017, rfl⟩)
        · have hz9 : True := trivial
          refine m_istore F (lv' := [(4, .int (nI 0)), (3, .int (nI k12896.2.2.1)), (2, .int (nI (4 + fx nm k12871.2.2.1 P.n5))), (1, .int (nI (4 + no))), (0, .ref c)]) e_X10_readOption_43 (by decide) rfl ?_
          refine m_aload_n F rfl e_X10_readOption_45 ?_
          refine r_getC F e_X10_readOption_46 fl_X10_141 h12937 (fa12956) ?_
          refine m_if_eq F e_X10_readOption_49 (fun q => absurd q (by decide)) (fun _ => ?_)
          exact m_vret F hQ e_X10_readOption_52 (⟨P12938, oP12938, (by unfold RP; omega), (by unfold optionS; dsimp only; rw [if_neg (by omega), ek12871, tolK_ok e12862 e12863, ek12896, numK_ok e12916 l12918 l12919, ek12927, numK_1 e12947]; exact RM.l (fa12956) (fb12957) (by decide) (by decide) (by omega)), h12937, rfl⟩)
        · have hz9 : True := trivial
          refine m_istore F (lv' := [(4, .int (nI 0)), (3, .int (nI k12896.2.2.1)), (2, .int (nI (4 + fx nm k12871.2.2.1 P.n5))), (1, .int (nI (4 + no))), (0, .ref c)]) e_X10_readOption_43 (by decide) rfl ?_
          refine m_aload_n F rfl e_X10_readOption_45 ?_
          refine r_getC F e_X10_readOption_46 fl_X10_141 h12937 (fa12956) ?_
          refine m_if_eq F e_X10_readOption_49 (fun q => absurd q (by decide)) (fun _ => ?_)
          exact m_vret F hQ e_X10_readOption_52 (⟨P12938, oP12938, (by unfold RP; omega), (by unfold optionS; dsimp only; rw [if_neg (by omega), ek12871, tolK_ok e12862 e12863, ek12896, numK_ok e12916 l12918 l12919, ek12927, numK_2 e12947 e12948]; exact RM.l (fa12956) (fb12957) (by decide) (by decide) (by omega)), h12937, rfl⟩)
      · have hz9 : True := trivial
        refine m_istore_n F (lv' := [(3, .int (nI 1)), (2, .int (nI (4 + fx nm k12871.2.2.1 P.n5))), (1, .int (nI (4 + no))), (0, .ref c)]) e_X10_readOption_35 (by decide) rfl ?_
        refine m_aload_n F rfl e_X10_readOption_36 ?_
        refine m_iconst F (v := 0) (by decide) e_X10_readOption_37 ?_
        refine m_ldc F kc_X10_177 e_X10_readOption_38 ?_
        refine r_callV F e_X10_readOption_40 (q_X10_numeralG (x_l X) V c T Z u h P12907 L _ _ 0 99999 1 h12906.1 (hob) oP12907 (by omega) (by omega) (fa12925) (by decide)) cb_X10_numeral ml_X10_165 im_X10_numeral se_X10_numeral h12906 rfl rfl (rest := []) rfl (Nat.le_of_ble_eq_true rfl) ⟨Nat.le_of_ble_eq_true rfl, Nat.le_of_ble_eq_true rfl⟩ ⟨Nat.le_of_ble_eq_true rfl, Nat.le_of_ble_eq_true rfl⟩ (fun r σ13027 hp => ?_)
        obtain ⟨h13028, hp⟩ := hp
        have h13029 := HS.trans h12906 h13028 (by decide)
        obtain ⟨rfl, rfl⟩ := hp
        refine m_istore F (lv' := [(4, .int (nI 0)), (3, .int (nI 1)), (2, .int (nI (4 + fx nm k12871.2.2.1 P.n5))), (1, .int (nI (4 + no))), (0, .ref c)]) e_X10_readOption_43 (by decide) rfl ?_
        refine m_aload_n F rfl e_X10_readOption_45 ?_
        refine r_getC F e_X10_readOption_46 fl_X10_141 h13029 (fa12925) ?_
        refine m_if_eq F e_X10_readOption_49 (fun q => absurd q (by decide)) (fun _ => ?_)
        exact m_vret F hQ e_X10_readOption_52 (⟨P12907, oP12907, (by unfold RP; omega), (by unfold optionS; dsimp only; rw [if_neg (by omega), ek12871, tolK_ok e12862 e12863, ek12896, numK_1 e12916]; exact RM.l (fa12925) (fb12926) (by decide) (by decide) (by omega)), h13029, rfl⟩)
      · have hz9 : True := trivial
        refine m_istore_n F (lv' := [(3, .int (nI 1)), (2, .int (nI (4 + fx nm k12871.2.2.1 P.n5))), (1, .int (nI (4 + no))), (0, .ref c)]) e_X10_readOption_35 (by decide) rfl ?_
        refine m_aload_n F rfl e_X10_readOption_36 ?_
        refine m_iconst F (v := 0) (by decide) e_X10_readOption_37 ?_
        refine m_ldc F kc_X10_177 e_X10_readOption_38 ?_
        refine r_callV F e_X10_readOption_40 (q_X10_numeralG (x_l X) V c T Z u h P12907 L _ _ 0 99999 2 h12906.1 (hob) oP12907 (by omega) (by omega) (fa12925) (by decide)) cb_X10_numeral ml_X10_165 im_X10_numeral se_X10_numeral h12906 rfl rfl (rest := []) rfl (Nat.le_of_ble_eq_true rfl) ⟨Nat.le_of_ble_eq_true rfl, Nat.le_of_ble_eq_true rfl⟩ ⟨Nat.le_of_ble_eq_true rfl, Nat.le_of_ble_eq_true rfl⟩ (fun r σ13030 hp => ?_)
        obtain ⟨h13031, hp⟩ := hp
        have h13032 := HS.trans h12906 h13031 (by decide)
        obtain ⟨rfl, rfl⟩ := hp
        refine m_istore F (lv' := [(4, .int (nI 0)), (3, .int (nI 1)), (2, .int (nI (4 + fx nm k12871.2.2.1 P.n5))), (1, .int (nI (4 + no))), (0, .ref c)]) e_X10_readOption_43 (by decide) rfl ?_
        refine m_aload_n F rfl e_X10_readOption_45 ?_
        refine r_getC F e_X10_readOption_46 fl_X10_141 h13032 (fa12925) ?_
        refine m_if_eq F e_X10_readOption_49 (fun q => absurd q (by decide)) (fun _ => ?_)
        exact m_vret F hQ e_X10_readOption_52 (⟨P12907, oP12907, (by unfold RP; omega), (by unfold optionS; dsimp only; rw [if_neg (by omega), ek12871, tolK_ok e12862 e12863, ek12896, numK_2 e12916 e12917]; exact RM.l (fa12925) (fb12926) (by decide) (by decide) (by omega)), h13032, rfl⟩)
    · have hz9 : True := trivial
      refine m_istore_n F (lv' := [(2, .int (nI 4)), (1, .int (nI (4 + no))), (0, .ref c)]) e_X10_readOption_23 (by decide) rfl ?_
      refine m_aload_n F rfl e_X10_readOption_24 ?_
      refine r_callV F e_X10_readOption_25 (q_X10_goOnG (x_l X) V c T Z u h P12853 L _ _  1 h12852.1 (hob) oP12853  (fa12869) (by decide)) cb_X10_goOn ml_X10_154 im_X10_goOn se_X10_goOn h12852 rfl rfl (rest := []) rfl (Nat.le_of_ble_eq_true rfl) ⟨Nat.le_of_ble_eq_true rfl, Nat.le_of_ble_eq_true rfl⟩ ⟨Nat.le_of_ble_eq_true rfl, Nat.le_of_ble_eq_true rfl⟩ (fun r σ13033 hp => ?_)
      obtain ⟨h13034, hp⟩ := hp
      have h13035 := HS.trans h12852 h13034 (by decide)
      obtain ⟨rfl, rfl⟩ := hp
      refine m_aload_n F rfl e_X10_readOption_28 ?_
      refine m_iconst F (v := 1) (by decide) e_X10_readOption_29 ?_
      refine m_bipush F (v := 24) (by decide) e_X10_readOption_30 ?_
      refine r_callV F e_X10_readOption_32 (q_X10_numeralG (x_l X) V c T Z u h P12853 L _ _ 1 24 1 h13035.1 (hob) oP12853 (by omega) (by omega) (fa12869) (by decide)) cb_X10_numeral ml_X10_165 im_X10_numeral se_X10_numeral h13035 rfl rfl (rest := []) rfl (Nat.le_of_ble_eq_true rfl) ⟨Nat.le_of_ble_eq_true rfl, Nat.le_of_ble_eq_true rfl⟩ ⟨Nat.le_of_ble_eq_true rfl, Nat.le_of_ble_eq_true rfl⟩ (fun r σ13036 hp => ?_)
      obtain ⟨h13037, hp⟩ := hp
      have h13038 := HS.trans h13035 h13037 (by decide)
      obtain ⟨rfl, rfl⟩ := hp
      refine m_istore_n F (lv' := [(3, .int (nI 1)), (2, .int (nI 4)), (1, .int (nI (4 + no))), (0, .ref c)]) e_X10_readOption_35 (by decide) rfl ?_
      refine m_aload_n F rfl e_X10_readOption_36 ?_
      refine m_iconst F (v := 0) (by decide) e_X10_readOption_37 ?_
      refine m_ldc F kc_X10_177 e_X10_readOption_38 ?_
      refine r_callV F e_X10_readOption_40 (q_X10_numeralG (x_l X) V c T Z u h P12853 L _ _ 0 99999 1 h13038.1 (hob) oP12853 (by omega) (by omega) (fa12869) (by decide)) cb_X10_numeral ml_X10_165 im_X10_numeral se_X10_numeral h13038 rfl rfl (rest := []) rfl (Nat.le_of_ble_eq_true rfl) ⟨Nat.le_of_ble_eq_true rfl, Nat.le_of_ble_eq_true rfl⟩ ⟨Nat.le_of_ble_eq_true rfl, Nat.le_of_ble_eq_true rfl⟩ (fun r σ13039 hp => ?_)
      obtain ⟨h13040, hp⟩ := hp
      have h13041 := HS.trans h13038 h13040 (by decide)
      obtain ⟨rfl, rfl⟩ := hp
      refine m_istore F (lv' := [(4, .int (nI 0)), (3, .int (nI 1)), (2, .int (nI 4)), (1, .int (nI (4 + no))), (0, .ref c)]) e_X10_readOption_43 (by decide) rfl ?_
      refine m_aload_n F rfl e_X10_readOption_45 ?_
      refine r_getC F e_X10_readOption_46 fl_X10_141 h13041 (fa12869) ?_
      refine m_if_eq F e_X10_readOption_49 (fun q => absurd q (by decide)) (fun _ => ?_)
      exact m_vret F hQ e_X10_readOption_52 (⟨P12853, oP12853, (by unfold RP; omega), (by unfold optionS; dsimp only; rw [if_neg (by omega), ek12871, tolK_1 e12862]; exact RM.l (fa12869) (fb12870) (by decide) (by decide) (by omega)), h13041, rfl⟩)
    · have hz9 : True := trivial
      refine m_istore_n F (lv' := [(2, .int (nI 4)), (1, .int (nI (4 + no))), (0, .ref c)]) e_X10_readOption_23 (by decide) rfl ?_
      refine m_aload_n F rfl e_X10_readOption_24 ?_
      refine r_callV F e_X10_readOption_25 (q_X10_goOnG (x_l X) V c T Z u h P12853 L _ _  4 h12852.1 (hob) oP12853  (fa12869) (by decide)) cb_X10_goOn ml_X10_154 im_X10_goOn se_X10_goOn h12852 rfl rfl (rest := []) rfl (Nat.le_of_ble_eq_true rfl) ⟨Nat.le_of_ble_eq_true rfl, Nat.le_of_ble_eq_true rfl⟩ ⟨Nat.le_of_ble_eq_true rfl, Nat.le_of_ble_eq_true rfl⟩ (fun r σ13042 hp => ?_)
      obtain ⟨h13043, hp⟩ := hp
      have h13044 := HS.trans h12852 h13043 (by decide)
      obtain ⟨rfl, rfl⟩ := hp
      refine m_aload_n F rfl e_X10_readOption_28 ?_
      refine m_iconst F (v := 1) (by decide) e_X10_readOption_29 ?_
      refine m_bipush F (v := 24) (by decide) e_X10_readOption_30 ?_
      refine r_callV F e_X10_readOption_32 (q_X10_numeralG (x_l X) V c T Z u h P12853 L _ _ 1 24 4 h13044.1 (hob) oP12853 (by omega) (by omega) (fa12869) (by decide)) cb_X10_numeral ml_X10_165 im_X10_numeral se_X10_numeral h13044 rfl rfl (rest := []) rfl (Nat.le_of_ble_eq_true rfl) ⟨Nat.le_of_ble_eq_true rfl, Nat.le_of_ble_eq_true rfl⟩ ⟨Nat.le_of_ble_eq_true rfl, Nat.le_of_ble_eq_true rfl⟩ (fun r σ13045 hp => ?_)
      obtain ⟨h13046, hp⟩ := hp
      have h13047 := HS.trans h13044 h13046 (by decide)
      obtain ⟨rfl, rfl⟩ := hp
      refine m_istore_n F (lv' := [(3, .int (nI 1)), (2, .int (nI 4)), (1, .int (nI (4 + no))), (0, .ref c)]) e_X10_readOption_35 (by decide) rfl ?_
      refine m_aload_n F rfl e_X10_readOption_36 ?_
      refine m_iconst F (v := 0) (by decide) e_X10_readOption_37 ?_
      refine m_ldc F kc_X10_177 e_X10_readOption_38 ?_
      refine r_callV F e_X10_readOption_40 (q_X10_numeralG (x_l X) V c T Z u h P12853 L _ _ 0 99999 4 h13047.1 (hob) oP12853 (by omega) (by omega) (fa12869) (by decide)) cb_X10_numeral ml_X10_165 im_X10_numeral se_X10_numeral h13047 rfl rfl (rest := []) rfl (Nat.le_of_ble_eq_true rfl) ⟨Nat.le_of_ble_eq_true rfl, Nat.le_of_ble_eq_true rfl⟩ ⟨Nat.le_of_ble_eq_true rfl, Nat.le_of_ble_eq_true rfl⟩ (fun r σ13048 hp => ?_)
      obtain ⟨h13049, hp⟩ := hp
      have h13050 := HS.trans h13047 h13049 (by decide)
      obtain ⟨rfl, rfl⟩ := hp
      refine m_istore F (lv' := [(4, .int (nI 0)), (3, .int (nI 1)), (2, .int (nI 4)), (1, .int (nI (4 + no))), (0, .ref c)]) e_X10_readOption_43 (by decide) rfl ?_
      refine m_aload_n F rfl e_X10_readOption_45 ?_
      refine r_getC F e_X10_readOption_46 fl_X10_141 h13050 (fa12869) ?_
      refine m_if_eq F e_X10_readOption_49 (fun q => absurd q (by decide)) (fun _ => ?_)
      exact m_vret F hQ e_X10_readOption_52 (⟨P12853, oP12853, (by unfold RP; omega), (by unfold optionS; dsimp only; rw [if_neg (by omega), ek12871, tolK_4 e12862 e12863]; exact RM.l (fa12869) (fb12870) (by decide) (by decide) (by omega)), h13050, rfl⟩)
  · have c11 : (4 + no) = 8 := (nI_eq (a := (4 + no)) (b := 8) (by omega) (by omega)).mp q11
    refine m_aload_n F rfl e_X10_readOption_14 ?_
    refine m_iconst F (v := 2) (by decide) e_X10_readOption_15 ?_
    refine r_callV F e_X10_readOption_16 (q_X10_wrongE (x_l X) V c T Z u h P L _ _ 2 n st so va ln fp h12842.1 (hob) hP (by omega) ⟨((fld_eq (h12841.2 c (by rw [show kC c c = 1 from kC_at (k := 0) (by decide)]; decide))).trans yd12833), ((fld_eq (h12841.2 c (by rw [show kC c c = 1 from kC_at (k := 0) (by decide)]; decide))).trans yd12834), ((fld_eq (h12841.2 c (by rw [show kC c c = 1 from kC_at (k := 0) (by decide)]; decide))).trans yd12835), ((fld_eq (h12841.2 c (by rw [show kC c c = 1 from kC_at (k := 0) (by decide)]; decide))).trans yd12836), ((fld_eq (h12841.2 c (by rw [show kC c c = 1 from kC_at (k := 0) (by decide)]; decide))).trans yd12837), ((fld_eq (h12841.2 c (by rw [show kC c c = 1 from kC_at (k := 0) (by decide)]; decide))).trans yd12838), ((fld_eq (h12841.2 c (by rw [show kC c c = 1 from kC_at (k := 0) (by decide)]; decide))).trans yd12839)⟩ (by decide)) cb_X10_wrong ml_X10_150 im_X10_wrong se_X10_wrong h12842 rfl rfl (rest := []) rfl (Nat.le_of_ble_eq_true rfl) ⟨Nat.le_of_ble_eq_true rfl, Nat.le_of_ble_eq_true rfl⟩ ⟨Nat.le_of_ble_eq_true rfl, Nat.le_of_ble_eq_true rfl⟩ (fun r σ13051 hp => ?_)
    obtain ⟨h13052, hp⟩ := hp
    have h13053 := HS.trans h12842 h13052 (by decide)
    have ga13054 := ga12843.of (h13052.2 (c + 1) (by rw [kC_at (k := 1) (by decide)]; decide))
    have ga13055 := ga12844.of (h13052.2 (c + 2) (by rw [kC_at (k := 2) (by decide)]; decide))
    have ga13056 := ga12845.of (h13052.2 (c + 3) (by rw [kC_at (k := 3) (by decide)]; decide))
    have ga13057 := ga12846.of (h13052.2 (c + 7) (by rw [kC_at (k := 7) (by decide)]; decide))
    have ga13058 := ga12847.of (h13052.2 (c + 8) (by rw [kC_at (k := 8) (by decide)]; decide))
    have ga13059 := ga12848.of (h13052.2 (c + 9) (by rw [kC_at (k := 9) (by decide)]; decide))
    have ga13060 := ga12849.of (h13052.2 (c + 11) (by rw [kC_at (k := 11) (by decide)]; decide))
    obtain ⟨hp, rfl⟩ := hp
    have hyd13061 := hp
    obtain ⟨yd13061, yd13062, yd13063, yd13064, yd13065, yd13066, yd13067⟩ := hyd13061
    refine m_aload_n F rfl e_X10_readOption_19 ?_
    refine r_callV F e_X10_readOption_20 (q_X10_atHandG (x_l X) V c T 0 u h P L _ _  2 h13053.1 (hob) hP  (yd13066) (by decide)) cb_X10_atHand ml_X10_174 im_X10_atHand se_X10_atHand h13053 rfl rfl (rest := []) rfl (Nat.le_of_ble_eq_true rfl) ⟨Nat.le_of_ble_eq_true rfl, Nat.le_of_ble_eq_true rfl⟩ ⟨Nat.le_of_ble_eq_true rfl, Nat.le_of_ble_eq_true rfl⟩ (fun r σ13068 hp => ?_)
    obtain ⟨h13069, hp⟩ := hp
    have h13070 := HS.trans h13053 h13069 (by decide)
    have ga13071 := ga13054.of (h13069.2 (c + 1) (by rw [kC_at (k := 1) (by decide)]; decide))
    have ga13072 := ga13055.of (h13069.2 (c + 2) (by rw [kC_at (k := 2) (by decide)]; decide))
    have ga13073 := ga13056.of (h13069.2 (c + 3) (by rw [kC_at (k := 3) (by decide)]; decide))
    have ga13074 := ga13057.of (h13069.2 (c + 7) (by rw [kC_at (k := 7) (by decide)]; decide))
    have ga13075 := ga13058.of (h13069.2 (c + 8) (by rw [kC_at (k := 8) (by decide)]; decide))
    have ga13076 := ga13059.of (h13069.2 (c + 9) (by rw [kC_at (k := 9) (by decide)]; decide))
    have ga13077 := ga13060.of (h13069.2 (c + 11) (by rw [kC_at (k := 11) (by decide)]; decide))
    obtain ⟨rfl, rfl⟩ := hp
    refine m_istore_n F (lv' := [(2, .int (nI 4)), (1, .int (nI (4 + no))), (0, .ref c)]) e_X10_readOption_23 (by decide) rfl ?_
    refine m_aload_n F rfl e_X10_readOption_24 ?_
    refine r_callV F e_X10_readOption_25 (q_X10_goOnG (x_l X) V c T 0 u h P L _ _  2 h13070.1 (hob) hP  (yd13066) (by decide)) cb_X10_goOn ml_X10_154 im_X10_goOn se_X10_goOn h13070 rfl rfl (rest := []) rfl (Nat.le_of_ble_eq_true rfl) ⟨Nat.le_of_ble_eq_true rfl, Nat.le_of_ble_eq_true rfl⟩ ⟨Nat.le_of_ble_eq_true rfl, Nat.le_of_ble_eq_true rfl⟩ (fun r σ13078 hp => ?_)
    obtain ⟨h13079, hp⟩ := hp
    have h13080 := HS.trans h13070 h13079 (by decide)
    have ga13081 := ga13054.of (h13079.2 (c + 1) (by rw [kC_at (k := 1) (by decide)]; decide))
    have ga13082 := ga13055.of (h13079.2 (c + 2) (by rw [kC_at (k := 2) (by decide)]; decide))
    have ga13083 := ga13056.of (h13079.2 (c + 3) (by rw [kC_at (k := 3) (by decide)]; decide))
    have ga13084 := ga13057.of (h13079.2 (c + 7) (by rw [kC_at (k := 7) (by decide)]; decide))
    have ga13085 := ga13058.of (h13079.2 (c + 8) (by rw [kC_at (k := 8) (by decide)]; decide))
    have ga13086 := ga13059.of (h13079.2 (c + 9) (by rw [kC_at (k := 9) (by decide)]; decide))
    have ga13087 := ga13060.of (h13079.2 (c + 11) (by rw [kC_at (k := 11) (by decide)]; decide))
    obtain ⟨rfl, rfl⟩ := hp
    refine m_aload_n F rfl e_X10_readOption_28 ?_
    refine m_iconst F (v := 1) (by decide) e_X10_readOption_29 ?_
    refine m_bipush F (v := 24) (by decide) e_X10_readOption_30 ?_
    refine r_callV F e_X10_readOption_32 (q_X10_numeralG (x_l X) V c T 0 u h P L _ _ 1 24 2 h13080.1 (hob) hP (by omega) (by omega) (yd13066) (by decide)) cb_X10_numeral ml_X10_165 im_X10_numeral se_X10_numeral h13080 rfl rfl (rest := []) rfl (Nat.le_of_ble_eq_true rfl) ⟨Nat.le_of_ble_eq_true rfl, Nat.le_of_ble_eq_true rfl⟩ ⟨Nat.le_of_ble_eq_true rfl, Nat.le_of_ble_eq_true rfl⟩ (fun r σ13088 hp => ?_)
    obtain ⟨h13089, hp⟩ := hp
    have h13090 := HS.trans h13080 h13089 (by decide)
    have ga13091 := ga13054.of (h13089.2 (c + 1) (by rw [kC_at (k := 1) (by decide)]; decide))
    have ga13092 := ga13055.of (h13089.2 (c + 2) (by rw [kC_at (k := 2) (by decide)]; decide))
    have ga13093 := ga13056.of (h13089.2 (c + 3) (by rw [kC_at (k := 3) (by decide)]; decide))
    have ga13094 := ga13057.of (h13089.2 (c + 7) (by rw [kC_at (k := 7) (by decide)]; decide))
    have ga13095 := ga13058.of (h13089.2 (c + 8) (by rw [kC_at (k := 8) (by decide)]; decide))
    have ga13096 := ga13059.of (h13089.2 (c + 9) (by rw [kC_at (k := 9) (by decide)]; decide))
    have ga13097 := ga13060.of (h13089.2 (c + 11) (by rw [kC_at (k := 11) (by decide)]; decide))
    obtain ⟨rfl, rfl⟩ := hp
    refine m_istore_n F (lv' := [(3, .int (nI 1)), (2, .int (nI 4)), (1, .int (nI (4 + no))), (0, .ref c)]) e_X10_readOption_35 (by decide) rfl ?_
    refine m_aload_n F rfl e_X10_readOption_36 ?_
    refine m_iconst F (v := 0) (by decide) e_X10_readOption_37 ?_
    refine m_ldc F kc_X10_177 e_X10_readOption_38 ?_
    refine r_callV F e_X10_readOption_40 (q_X10_numeralG (x_l X) V c T 0 u h P L _ _ 0 99999 2 h13090.1 (hob) hP (by omega) (by omega) (yd13066) (by decide)) cb_X10_numeral ml_X10_165 im_X10_numeral se_X10_numeral h13090 rfl rfl (rest := []) rfl (Nat.le_of_ble_eq_true rfl) ⟨Nat.le_of_ble_eq_true rfl, Nat.le_of_ble_eq_true rfl⟩ ⟨Nat.le_of_ble_eq_true rfl, Nat.le_of_ble_eq_true rfl⟩ (fun r σ13098 hp => ?_)
    obtain ⟨h13099, hp⟩ := hp
    have h13100 := HS.trans h13090 h13099 (by decide)
    have ga13101 := ga13054.of (h13099.2 (c + 1) (by rw [kC_at (k := 1) (by decide)]; decide))
    have ga13102 := ga13055.of (h13099.2 (c + 2) (by rw [kC_at (k := 2) (by decide)]; decide))
    have ga13103 := ga13056.of (h13099.2 (c + 3) (by rw [kC_at (k := 3) (by decide)]; decide))
    have ga13104 := ga13057.of (h13099.2 (c + 7) (by rw [kC_at (k := 7) (by decide)]; decide))
    have ga13105 := ga13058.of (h13099.2 (c + 8) (by rw [kC_at (k := 8) (by decide)]; decide))
    have ga13106 := ga13059.of (h13099.2 (c + 9) (by rw [kC_at (k := 9) (by decide)]; decide))
    have ga13107 := ga13060.of (h13099.2 (c + 11) (by rw [kC_at (k := 11) (by decide)]; decide))
    obtain ⟨rfl, rfl⟩ := hp
    refine m_istore F (lv' := [(4, .int (nI 0)), (3, .int (nI 1)), (2, .int (nI 4)), (1, .int (nI (4 + no))), (0, .ref c)]) e_X10_readOption_43 (by decide) rfl ?_
    refine m_aload_n F rfl e_X10_readOption_45 ?_
    refine r_getC F e_X10_readOption_46 fl_X10_141 h13100 (yd13066) ?_
    refine m_if_eq F e_X10_readOption_49 (fun q => absurd q (by decide)) (fun _ => ?_)
    have h13108 : HS V c _ [0, 2, 4, 5, 6, 7, 8, 9, 10, 11, 12, 13, 17, 18, 19, 20, 21, 22, 23] _ _ := ⟨HR.mono (Z' := Z) (by intro e; first | rfl | assumption | omega) h13100.1, h13100.2⟩
    exact m_vret F hQ e_X10_readOption_52 (⟨P, hP, (by unfold RP; omega), (by unfold optionS; dsimp only; rw [if_pos (by omega)]; exact RM.l (yd13066) (yd13067) (by decide) (by decide) (by omega)), h13108, rfl⟩)
