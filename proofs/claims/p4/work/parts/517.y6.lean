theorem QR.put {τ : Mem} {c nc p : Nat} (hp : p ≤ 99) (e1 : elI τ (c + 11) (8 + nc) = some (nI p)) : QR τ c (nc + 1) (p + 1) := Or.inr ⟨by omega, by omega, by omega, by rw [show 7 + (nc + 1) = 8 + nc by omega]; exact e1⟩
set_option maxRecDepth 20000 in
theorem q_X10_readChangeE (l : Launch) (V : VX) (c T Z u h : Nat) (P : NP) (L : Nat → LQ) (N : Nat) (σ : Mem) (n st : Nat) (so va : Int32) (ln : Nat) (fp : Int32) (t : Nat → Nat) (s9 v9 : Nat) (nm : Nat → Nat) (np lc no sd : Nat) (md : Nat → Nat → Bool) (h0 : HR V c ⟨T, Z, u, h, P, L⟩ σ) (hob : OKB L) (hP : OKP P) (hp0 : YD σ c n st so va ln 0 fp) (hp1 : BR σ c n t) (hp2 : n ≤ 700) (hp3 : P.a ≤ n) (hp4 : MT so va s9 v9) (hp5 : st ≤ n) (hp6 : NR σ c np no sd) (hp7 : MR σ c P.n5 nm) (hp8 : KR σ c P.n5 md) (hp9 : FR σ c 8 1 P.n5 md) (hp10 : FR σ c 9 2 P.n5 md) (hp11 : QR σ c P.n7 lc) (hp12 : np ≤ 12) (hp13 : no ≤ 4) (hp14 : sd ≤ 1) : Ct l V yX10_readChange cX10_readChange 5 none 8 0 0 N σ [.ref c] (fun r τ => ∃ P9 : NP, OKP P9 ∧ RP P P9 ∧ RM τ c n P9 (indexS (tok t n) (st, s9, v9, P.a) P.n5 nm np P.n7 lc no sd md ln) ∧ HS V c (⟨T, Z, u, h, P9, L⟩ : RG) [0, 2, 4, 5, 6, 7, 8, 9, 10, 11, 14, 15, 16, 17, 18, 19, 20, 21, 22, 23] σ τ ∧ r = none) := by
  refine Ct.of (by decide) (Nat.le_of_ble_eq_true rfl) [(0, .ref c)] rfl (fun X hX F hQ => ?_)
  have hPP := hP
  unfold OKP at hPP
  have h1 : HS V c ⟨T, Z, u, h, P, L⟩ [0, 2, 4, 5, 6, 7, 8, 9, 10, 11, 14, 15, 16, 17, 18, 19, 20, 21, 22, 23] σ σ := HS.start h0
  have hyd12560 := hp0
  obtain ⟨yd12560, yd12561, yd12562, yd12563, yd12564, yd12565, yd12566⟩ := hyd12560
  have hn7 := hp2
  refine m_bipush F (v := 8) (by decide) e_X10_readChange_0 ?_
  refine m_aload_n F rfl e_X10_readChange_2 ?_
  refine m_iconst F (v := 2) (by decide) e_X10_readChange_3 ?_
  refine r_callV F e_X10_readChange_4 (q_X10_reading2 (x_l X) V c T Z u h P L _ _  h1.1 (hob) hP ) cb_X10_reading ml_X10_157 im_X10_reading se_X10_reading h1 rfl rfl (rest := [.int 8]) rfl (Nat.le_of_ble_eq_true rfl) ⟨Nat.le_of_ble_eq_true rfl, Nat.le_of_ble_eq_true rfl⟩ ⟨Nat.le_of_ble_eq_true rfl, Nat.le_of_ble_eq_true rfl⟩ (fun r σ12567 hp => ?_)
  obtain ⟨h12568, rfl⟩ := hp
  have h12569 := HS.trans h1 h12568 (by decide)
  have ga12570 := hp1.of (h12568.2 (c + 1) (by rw [kC_at (k := 1) (by decide)]; decide))
  have ga12571 := hp6.of (h12568.2 (c + 2) (by rw [kC_at (k := 2) (by decide)]; decide))
  have ga12572 := hp7.of (h12568.2 (c + 3) (by rw [kC_at (k := 3) (by decide)]; decide))
  have ga12573 := hp8.of (h12568.2 (c + 7) (by rw [kC_at (k := 7) (by decide)]; decide))
  have ga12574 := hp9.of (h12568.2 (c + 8) (by rw [kC_at (k := 8) (by decide)]; decide))
  have ga12575 := hp10.of (h12568.2 (c + 9) (by rw [kC_at (k := 9) (by decide)]; decide))
  have ga12576 := hp11.of (h12568.2 (c + 11) (by rw [kC_at (k := 11) (by decide)]; decide))
  refine Wm.topE (w := nI P.n7) (congrArg nI (by omega)) ?_
  refine m_iadd F e_X10_readChange_7 ?_
  refine Wm.topE (w := nI (8 + P.n7)) (nI_add 8 P.n7) ?_
  refine m_istore_n F (lv' := [(1, .int (nI (8 + P.n7))), (0, .ref c)]) e_X10_readChange_8 (by decide) rfl ?_
  refine m_iload_n F rfl e_X10_readChange_9 ?_
  refine m_bipush F (v := 16) (by decide) e_X10_readChange_10 ?_
  refine m_icmp_ne F e_X10_readChange_12 (fun q12 => ?_) (fun q12 => ?_)
  · have c12 : (8 + P.n7) ≠ 16 := by have hh := mt (nI_eq (a := (8 + P.n7)) (b := 16) (by omega) (by omega)).mpr q12; omega
    refine m_aload_n F rfl e_X10_readChange_20 ?_
    refine r_callV F e_X10_readChange_21 (q_X10_goOnE (x_l X) V c T Z u h P L _ _  n st so va ln fp t h12569.1 (hob) hP  ⟨((fld_eq (h12568.2 c (by rw [show kC c c = 1 from kC_at (k := 0) (by decide)]; decide))).trans yd12560), ((fld_eq (h12568.2 c (by rw [show kC c c = 1 from kC_at (k := 0) (by decide)]; decide))).trans yd12561), ((fld_eq (h12568.2 c (by rw [show kC c c = 1 from kC_at (k := 0) (by decide)]; decide))).trans yd12562), ((fld_eq (h12568.2 c (by rw [show kC c c = 1 from kC_at (k := 0) (by decide)]; decide))).trans yd12563), ((fld_eq (h12568.2 c (by rw [show kC c c = 1 from kC_at (k := 0) (by decide)]; decide))).trans yd12564), ((fld_eq (h12568.2 c (by rw [show kC c c = 1 from kC_at (k := 0) (by decide)]; decide))).trans yd12565), ((fld_eq (h12568.2 c (by rw [show kC c c = 1 from kC_at (k := 0) (by decide)]; decide))).trans yd12566)⟩ ga12570 hn7 (by omega)) cb_X10_goOn ml_X10_154 im_X10_goOn se_X10_goOn h12569 rfl rfl (rest := []) rfl (Nat.le_of_ble_eq_true rfl) ⟨Nat.le_of_ble_eq_true rfl, Nat.le_of_ble_eq_true rfl⟩ ⟨Nat.le_of_ble_eq_true rfl, Nat.le_of_ble_eq_true rfl⟩ (fun r σ12577 hp => ?_)
    obtain ⟨P12580, oP12580, rP12580, pr12581, pr12582, h12578, hp⟩ := hp
    have h12579 := HS.trans h12569 h12578 (by decide)
    have xP12580 := oP12580
    unfold OKP at xP12580
    unfold RA at rP12580
    have ga12583 := ga12570.of (h12578.2 (c + 1) (by rw [kC_at (k := 1) (by decide)]; decide))
    have ga12584 := ga12571.of (h12578.2 (c + 2) (by rw [kC_at (k := 2) (by decide)]; decide))
    have ga12585 := ga12572.of (h12578.2 (c + 3) (by rw [kC_at (k := 3) (by decide)]; decide))
    have ga12586 := ga12573.of (h12578.2 (c + 7) (by rw [kC_at (k := 7) (by decide)]; decide))
    have ga12587 := ga12574.of (h12578.2 (c + 8) (by rw [kC_at (k := 8) (by decide)]; decide))
    have ga12588 := ga12575.of (h12578.2 (c + 9) (by rw [kC_at (k := 9) (by decide)]; decide))
    have ga12589 := ga12576.of (h12578.2 (c + 11) (by rw [kC_at (k := 11) (by decide)]; decide))
    obtain rfl := hp
    obtain ⟨so12590, va12591, mt12592, yd12593⟩ := pr12582
    generalize ek12594 : tok t n P.a = k12594 at pr12581 mt12592 yd12593
    have bk12594 := tok_ok (t := t) (n := n) P.a (by omega)
    rw [ek12594] at bk12594
    have hyd12595 := yd12593
    obtain ⟨yd12595, yd12596, yd12597, yd12598, yd12599, yd12600, yd12601⟩ := hyd12595
    refine m_aload_n F rfl e_X10_readChange_24 ?_
    refine m_iconst F (v := 2) (by decide) e_X10_readChange_25 ?_
    refine r_callV F e_X10_readChange_26 (q_X10_reading2 (x_l X) V c T Z u h P12580 L _ _  h12579.1 (hob) oP12580 ) cb_X10_reading ml_X10_157 im_X10_reading se_X10_reading h12579 rfl rfl (rest := []) rfl (Nat.le_of_ble_eq_true rfl) ⟨Nat.le_of_ble_eq_true rfl, Nat.le_of_ble_eq_true rfl⟩ ⟨Nat.le_of_ble_eq_true rfl, Nat.le_of_ble_eq_true rfl⟩ (fun r σ12602 hp => ?_)
    obtain ⟨h12603, rfl⟩ := hp
    have h12604 := HS.trans h12579 h12603 (by decide)
    have ga12605 := ga12583.of (h12603.2 (c + 1) (by rw [kC_at (k := 1) (by decide)]; decide))
    have ga12606 := ga12584.of (h12603.2 (c + 2) (by rw [kC_at (k := 2) (by decide)]; decide))
    have ga12607 := ga12585.of (h12603.2 (c + 3) (by rw [kC_at (k := 3) (by decide)]; decide))
    have ga12608 := ga12586.of (h12603.2 (c + 7) (by rw [kC_at (k := 7) (by decide)]; decide))
    have ga12609 := ga12587.of (h12603.2 (c + 8) (by rw [kC_at (k := 8) (by decide)]; decide))
    have ga12610 := ga12588.of (h12603.2 (c + 9) (by rw [kC_at (k := 9) (by decide)]; decide))
    have ga12611 := ga12589.of (h12603.2 (c + 11) (by rw [kC_at (k := 11) (by decide)]; decide))
    refine Wm.topE (w := nI P.n7) (congrArg nI (by omega)) ?_
    refine m_if_eq F e_X10_readChange_29 (fun q29 => ?_) (fun q29 => ?_)
    · have c29 : P.n7 = 0 := (nI_eq (a := P.n7) (b := 0) (by omega) (by omega)).mp q29
      have hlc : lc = 0 := by rcases hp11 with h9 | h9 <;> omega
      refine m_iconst F (v := 0) (by decide) e_X10_readChange_39 ?_
      refine m_goto F e_X10_readChange_40 ?_
      refine Wm.topE (w := nI lc) (by rw [hlc]; rfl) ?_
      have hlb : lc ≤ 100 := by rcases hp11 with h9 | h9 <;> omega
      refine m_istore_n F (lv' := [(2, .int (nI lc)), (1, .int (nI (8 + P.n7))), (0, .ref c)]) e_X10_readChange_53 (by decide) rfl ?_
      refine m_aload_n F rfl e_X10_readChange_54 ?_
      refine m_iload_n F rfl e_X10_readChange_55 ?_
      refine m_bipush F (v := 99) (by decide) e_X10_readChange_56 ?_
      refine r_callV F e_X10_readChange_58 (q_X10_numeralE (x_l X) V c T Z u h P12580 L _ _ lc 99 n k12594.1 so12590 va12591 ln fp t k12594.2.1 k12594.2.2.1 h12604.1 (hob) oP12580 (by omega) (by omega) ⟨((fld_eq (h12603.2 c (by rw [show kC c c = 1 from kC_at (k := 0) (by decide)]; decide))).trans yd12595), ((fld_eq (h12603.2 c (by rw [show kC c c = 1 from kC_at (k := 0) (by decide)]; decide))).trans yd12596), ((fld_eq (h12603.2 c (by rw [show kC c c = 1 from kC_at (k := 0) (by decide)]; decide))).trans yd12597), ((fld_eq (h12603.2 c (by rw [show kC c c = 1 from kC_at (k := 0) (by decide)]; decide))).trans yd12598), ((fld_eq (h12603.2 c (by rw [show kC c c = 1 from kC_at (k := 0) (by decide)]; decide))).trans yd12599), ((fld_eq (h12603.2 c (by rw [show kC c c = 1 from kC_at (k := 0) (by decide)]; decide))).trans yd12600), ((fld_eq (h12603.2 c (by rw [show kC c c = 1 from kC_at (k := 0) (by decide)]; decide))).trans yd12601)⟩ ga12605 hn7 (by omega) mt12592) cb_X10_numeral ml_X10_165 im_X10_numeral se_X10_numeral h12604 rfl rfl (rest := []) rfl (Nat.le_of_ble_eq_true rfl) ⟨Nat.le_of_ble_eq_true rfl, Nat.le_of_ble_eq_true rfl⟩ ⟨Nat.le_of_ble_eq_true rfl, Nat.le_of_ble_eq_true rfl⟩ (fun r σ12612 hp => ?_)
      obtain ⟨P12615, oP12615, rP12615, pr12616, h12613, hp⟩ := hp
      have h12614 := HS.trans h12604 h12613 (by decide)
      have xP12615 := oP12615
      unfold OKP at xP12615
      unfold RA at rP12615
      have ga12617 := ga12605.of (h12613.2 (c + 1) (by rw [kC_at (k := 1) (by decide)]; decide))
      have ga12618 := ga12606.of (h12613.2 (c + 2) (by rw [kC_at (k := 2) (by decide)]; decide))
      have ga12619 := ga12607.of (h12613.2 (c + 3) (by rw [kC_at (k := 3) (by decide)]; decide))
      have ga12620 := ga12608.of (h12613.2 (c + 7) (by rw [kC_at (k := 7) (by decide)]; decide))
      have ga12621 := ga12609.of (h12613.2 (c + 8) (by rw [kC_at (k := 8) (by decide)]; decide))
      have ga12622 := ga12610.of (h12613.2 (c + 9) (by rw [kC_at (k := 9) (by decide)]; decide))
      have ga12623 := ga12611.of (h12613.2 (c + 11) (by rw [kC_at (k := 11) (by decide)]; decide))
      rcases pr12616 with ⟨e12624, l12626, l12627, ea12628, ⟨so12629, va12630, mt12631, yd12632⟩, rfl⟩ | ⟨e12624, ⟨fa12633, fb12634⟩, rfl⟩ | ⟨e12624, e12625, ⟨fa12633, fb12634⟩, rfl⟩
      · have bk12635 := tok_ok (t := t) (n := n) P12580.a (by omega)
        generalize ek12635 : tok t n P12580.a = k12635 at ea12628 mt12631 yd12632 bk12635
        rw [show P12580.a = k12594.2.2.2 by omega] at ek12635
        have hyd12636 := yd12632
        obtain ⟨yd12636, yd12637, yd12638, yd12639, yd12640, yd12641, yd12642⟩ := hyd12636
        refine m_istore_n F (lv' := [(3, .int (nI k12594.2.2.1)), (2, .int (nI lc)), (1, .int (nI (8 + P.n7))), (0, .ref c)]) e_X10_readChange_61 (by decide) rfl ?_
        refine m_aload_n F rfl e_X10_readChange_62 ?_
        refine m_sipush F (v := 500) (by decide) e_X10_readChange_63 ?_
        refine m_sipush F (v := 2000) (by decide) e_X10_readChange_66 ?_
        refine r_callV F e_X10_readChange_69 (q_X10_numeralE (x_l X) V c T Z u h P12615 L _ _ 500 2000 n k12635.1 so12629 va12630 ln fp t k12635.2.1 k12635.2.2.1 h12614.1 (hob) oP12615 (by omega) (by omega) ⟨(yd12636), (yd12637), (yd12638), (yd12639), (yd12640), (yd12641), (yd12642)⟩ ga12617 hn7 (by omega) mt12631) cb_X10_numeral ml_X10_165 im_X10_numeral se_X10_numeral h12614 rfl rfl (rest := []) rfl (Nat.le_of_ble_eq_true rfl) ⟨Nat.le_of_ble_eq_true rfl, Nat.le_of_ble_eq_true rfl⟩ ⟨Nat.le_of_ble_eq_true rfl, Nat.le_of_ble_eq_true rfl⟩ (fun r σ12643 hp => ?_)
        obtain ⟨P12646, oP12646, rP12646, pr12647, h12644, hp⟩ := hp
        have h12645 := HS.trans h12614 h12644 (by decide)
        have xP12646 := oP12646
        unfold OKP at xP12646
        unfold RA at rP12646
        have ga12648 := ga12617.of (h12644.2 (c + 1) (by rw [kC_at (k := 1) (by decide)]; decide))
        have ga12649 := ga12618.of (h12644.2 (c + 2) (by rw [kC_at (k := 2) (by decide)]; decide))
        have ga12650 := ga12619.of (h12644.2 (c + 3) (by rw [kC_at (k := 3) (by decide)]; decide))
        have ga12651 := ga12620.of (h12644.2 (c + 7) (by rw [kC_at (k := 7) (by decide)]; decide))
        have ga12652 := ga12621.of (h12644.2 (c + 8) (by rw [kC_at (k := 8) (by decide)]; decide))
        have ga12653 := ga12622.of (h12644.2 (c + 9) (by rw [kC_at (k := 9) (by decide)]; decide))
        have ga12654 := ga12623.of (h12644.2 (c + 11) (by rw [kC_at (k := 11) (by decide)]; decide))
        rcases pr12647 with ⟨e12655, l12657, l12658, ea12659, ⟨so12660, va12661, mt12662, yd12663⟩, rfl⟩ | ⟨e12655, ⟨fa12664, fb12665⟩, rfl⟩ | ⟨e12655, e12656, ⟨fa12664, fb12665⟩, rfl⟩
        · have bk12666 := tok_ok (t := t) (n := n) P12615.a (by omega)
          generalize ek12666 : tok t n P12615.a = k12666 at ea12659 mt12662 yd12663 bk12666
          rw [show P12615.a = k12635.2.2.2 by omega] at ek12666
          have hyd12667 := yd12663
          obtain ⟨yd12667, yd12668, yd12669, yd12670, yd12671, yd12672, yd12673⟩ := hyd12667
          refine m_istore F (lv' := [(4, .int (nI k12635.2.2.1)), (3, .int (nI k12594.2.2.1)), (2, .int (nI lc)), (1, .int (nI (8 + P.n7))), (0, .ref c)]) e_X10_readChange_72 (by decide) rfl ?_
          refine m_aload_n F rfl e_X10_readChange_74 ?_
          refine r_getC F e_X10_readChange_75 fl_X10_141 h12645 (yd12672) ?_
          refine m_if_eq F e_X10_readChange_78 (fun _ => ?_) (fun q => absurd (by decide) q)
          refine m_aload_n F rfl e_X10_readChange_82 ?_
          refine r_get F e_X10_readChange_83 fl_X10_40 h12645 rfl (fun v hv f12674 => ?_)
          obtain rfl : v = .ref (c + 11) := hv
          refine m_iload_n F rfl e_X10_readChange_86 ?_
          refine m_iload_n F rfl e_X10_readChange_87 ?_
          refine r_iast F (g' := (⟨T, Z, u, h, P12646, L⟩ : RG)) (len := 16) (j := 8 + P.n7) e_X10_readChange_88 h12645 (fun _ h => h) (fun f h => ⟨f, rfl, h⟩) (by decide) (by decide) (nI_clamp (by omega)) (vp_in_nI (by omega) (by decide)) ⟨k12594.2.2.1, by omega, rfl⟩ (fun _ _ _ h => h) (fun _ _ _ h => h) (fun σ12675 h12676 g12677 f12678 g12679 => ?_)
          have ga12680 := ga12648.of (g12677 _ (by omega))
          have ga12681 := ga12649.of (g12677 _ (by omega))
          have ga12682 := ga12650.of (g12677 _ (by omega))
          have ga12683 := ga12651.of (g12677 _ (by omega))
          have ga12684 := ga12652.of (g12677 _ (by omega))
          have ga12685 := ga12653.of (g12677 _ (by omega))
          have ga12686 := QR.put (by omega) f12678
          refine m_aload_n F rfl e_X10_readChange_89 ?_
          refine r_get F e_X10_readChange_90 fl_X10_43 h12676 rfl (fun v hv f12687 => ?_)
          obtain rfl : v = .ref (c + 12) := hv
          refine m_iload_n F rfl e_X10_readChange_93 ?_
          refine m_iload F rfl e_X10_readChange_94 ?_
          refine r_iast F (g' := (⟨T, Z, u, h, (mkP P12646.n0 P12646.n2 P12646.n5 P12646.n7 P12646.m0 P12646.m5 P12646.w2 (P12646.n7 + 1) P12646.kk P12646.a P12646.f P12646.p), L⟩ : RG)) (len := 16) (j := 8 + P.n7) e_X10_readChange_96 h12676 (fun _ h => h) (fun f h => ⟨f, rfl, h⟩) (by decide) (by decide) (nI_clamp (by omega)) (vp_in_nI (by omega) (by decide)) ⟨k12635.2.2.1, by omega, rfl, fun h7 _ => absurd h7 (by omega), fun _ _ => by omega⟩ (fun i hi y hy => by obtain ⟨n9, a9, b9, c9, d9⟩ := hy; exact ⟨n9, a9, b9, c9, fun h7 h8 => d9 h7 (show i < 8 + P12646.w7 by have h6 : i < 8 + (P12646.n7 + 1) := h8; omega)⟩) (CR.chg (by intro k hk i x h; unfold EI at h ⊢; split at h <;> first | exact h | exact absurd rfl hk | trivial) rfl rfl rfl rfl) (fun σ12688 h12689 g12690 f12691 g12692 => ?_)
          have ga12693 := ga12680.of (g12690 _ (by omega))
          have ga12694 := ga12681.of (g12690 _ (by omega))
          have ga12695 := ga12682.of (g12690 _ (by omega))
          have ga12696 := ga12683.of (g12690 _ (by omega))
          have ga12697 := ga12684.of (g12690 _ (by omega))
          have ga12698 := ga12685.of (g12690 _ (by omega))
          have ga12699 := ga12686.of (g12690 _ (by omega))
          obtain ⟨P12700, eP12700⟩ : ∃ P9, P9 = (mkP P12646.n0 P12646.n2 P12646.n5 P12646.n7 P12646.m0 P12646.m5 P12646.w2 (P12646.n7 + 1) P12646.kk P12646.a P12646.f P12646.p) := ⟨_, rfl⟩
          rw [← eP12700] at h12689
          have fP12700 : P12700.n0 = P12646.n0 ∧ P12700.n2 = P12646.n2 ∧ P12700.n5 = P12646.n5 ∧ P12700.n7 = P12646.n7 ∧ P12700.m0 = P12646.m0 ∧ P12700.m5 = P12646.m5 ∧ P12700.w2 = P12646.w2 ∧ P12700.w7 = P12646.n7 + 1 ∧ P12700.kk = P12646.kk ∧ P12700.a = P12646.a ∧ P12700.f = P12646.f ∧ P12700.p = P12646.p := by rw [eP12700]; exact ⟨rfl, rfl, rfl, rfl, rfl, rfl, rfl, rfl, rfl, rfl, rfl, rfl⟩
          refine m_aload_n F rfl e_X10_readChange_97 ?_
          refine m_iconst F (v := 2) (by decide) e_X10_readChange_98 ?_
          refine m_aload_n F rfl e_X10_readChange_99 ?_
          refine m_iconst F (v := 2) (by decide) e_X10_readChange_100 ?_
          have oP12704 : OKP P12700 := by unfold OKP; omega
          refine r_callV F e_X10_readChange_101 (q_X10_reading2 (x_l X) V c T Z u h P12700 L _ _  h12689.1 (hob) oP12704 ) cb_X10_reading ml_X10_157 im_X10_reading se_X10_reading h12689 rfl rfl (rest := [.int 2, .ref c]) rfl (Nat.le_of_ble_eq_true rfl) ⟨Nat.le_of_ble_eq_true rfl, Nat.le_of_ble_eq_true rfl⟩ ⟨Nat.le_of_ble_eq_true rfl, Nat.le_of_ble_eq_true rfl⟩ (fun r σ12701 hp => ?_)
          obtain ⟨h12702, rfl⟩ := hp
          have h12703 := HS.trans h12689 h12702 (by decide)
          have ga12705 := ga12693.of (h12702.2 (c + 1) (by rw [kC_at (k := 1) (by decide)]; decide))
          have ga12706 := ga12694.of (h12702.2 (c + 2) (by rw [kC_at (k := 2) (by decide)]; decide))
          have ga12707 := ga12695.of (h12702.2 (c + 3) (by rw [kC_at (k := 3) (by decide)]; decide))
          have ga12708 := ga12696.of (h12702.2 (c + 7) (by rw [kC_at (k := 7) (by decide)]; decide))
          have ga12709 := ga12697.of (h12702.2 (c + 8) (by rw [kC_at (k := 8) (by decide)]; decide))
          have ga12710 := ga12698.of (h12702.2 (c + 9) (by rw [kC_at (k := 9) (by decide)]; decide))
          have ga12711 := ga12699.of (h12702.2 (c + 11) (by rw [kC_at (k := 11) (by decide)]; decide))
          refine Wm.topE (w := nI P.n7) (congrArg nI (by omega)) ?_
          refine m_iconst F (v := 1) (by decide) e_X10_readChange_104 ?_
          refine m_iadd F e_X10_readChange_105 ?_
          refine Wm.topE (w := nI (P.n7 + 1)) (nI_add P.n7 1) ?_
          refine r_callV F e_X10_readChange_106 (q_X10_reads2E (x_l X) V c T Z u h P12700 L _ _ (P.n7 + 1)  h12703.1 (hob) oP12704 (by omega) (by omega)) cb_X10_reads ml_X10_170 im_X10_reads se_X10_reads h12703 rfl rfl (rest := []) rfl (Nat.le_of_ble_eq_true rfl) ⟨Nat.le_of_ble_eq_true rfl, Nat.le_of_ble_eq_true rfl⟩ ⟨Nat.le_of_ble_eq_true rfl, Nat.le_of_ble_eq_true rfl⟩ (fun r σ12712 hp => ?_)
          obtain ⟨h12713, hp⟩ := hp
          have h12714 := HS.trans h12703 h12713 (by decide)
          have ga12715 := ga12705.of (h12713.2 (c + 1) (by rw [kC_at (k := 1) (by decide)]; decide))
          have ga12716 := ga12707.of (h12713.2 (c + 3) (by rw [kC_at (k := 3) (by decide)]; decide))
          have ga12717 := ga12708.of (h12713.2 (c + 7) (by rw [kC_at (k := 7) (by decide)]; decide))
          have ga12718 := ga12709.of (h12713.2 (c + 8) (by rw [kC_at (k := 8) (by decide)]; decide))
          have ga12719 := ga12710.of (h12713.2 (c + 9) (by rw [kC_at (k := 9) (by decide)]; decide))
          have ga12720 := ga12711.of (h12713.2 (c + 11) (by rw [kC_at (k := 11) (by decide)]; decide))
          obtain ⟨ea12721, eb12722, rfl⟩ := hp
          have ga12723 := NR.k ga12706 eb12722 (by decide) (by decide) (by decide)
          obtain ⟨P12724, eP12724⟩ : ∃ P9, P9 = (mkP P12700.n0 P12700.n2 P12700.n5 (P.n7 + 1) P12700.m0 P12700.m5 P12700.w2 P12700.w7 P12700.kk P12700.a P12700.f P12700.p) := ⟨_, rfl⟩
          rw [← eP12724] at h12714
          have fP12724 : P12724.n0 = P12700.n0 ∧ P12724.n2 = P12700.n2 ∧ P12724.n5 = P12700.n5 ∧ P12724.n7 = P.n7 + 1 ∧ P12724.m0 = P12700.m0 ∧ P12724.m5 = P12700.m5 ∧ P12724.w2 = P12700.w2 ∧ P12724.w7 = P12700.w7 ∧ P12724.kk = P12700.kk ∧ P12724.a = P12700.a ∧ P12724.f = P12700.f ∧ P12724.p = P12700.p := by rw [eP12724]; exact ⟨rfl, rfl, rfl, rfl, rfl, rfl, rfl, rfl, rfl, rfl, rfl, rfl⟩
          have oP12725 : OKP P12724 := by unfold OKP; omega
          exact m_vret F hQ e_X10_readChange_109 (⟨P12724, oP12725, (by unfold RP; omega), (by unfold indexS; dsimp only; rw [if_neg (by omega), ek12594, numK_ok e12624 l12626 l12627, ek12635, numK_ok e12655 l12657 l12658, ek12666]; exact RM.r mt12662 ⟨((fld_eq (h12713.2 c (by rw [show kC c c = 1 from kC_at (k := 0) (by decide)]; decide))).trans ((fld_eq (h12702.2 c (by rw [show kC c c = 1 from kC_at (k := 0) (by decide)]; decide))).trans ((fld_eq (g12690 _ (by omega))).trans ((fld_eq (g12677 _ (by omega))).trans yd12667)))), ((fld_eq (h12713.2 c (by rw [show kC c c = 1 from kC_at (k := 0) (by decide)]; decide))).trans ((fld_eq (h12702.2 c (by rw [show kC c c = 1 from kC_at (k := 0) (by decide)]; decide))).trans ((fld_eq (g12690 _ (by omega))).trans ((fld_eq (g12677 _ (by omega))).trans yd12668)))), ((fld_eq (h12713.2 c (by rw [show kC c c = 1 from kC_at (k := 0) (by decide)]; decide))).trans ((fld_eq (h12702.2 c (by rw [show kC c c = 1 from kC_at (k := 0) (by decide)]; decide))).trans ((fld_eq (g12690 _ (by omega))).trans ((fld_eq (g12677 _ (by omega))).trans yd12669)))), ((fld_eq (h12713.2 c (by rw [show kC c c = 1 from kC_at (k := 0) (by decide)]; decide))).trans ((fld_eq (h12702.2 c (by rw [show kC c c = 1 from kC_at (k := 0) (by decide)]; decide))).trans ((fld_eq (g12690 _ (by omega))).trans ((fld_eq (g12677 _ (by omega))).trans yd12670)))), ((fld_eq (h12713.2 c (by rw [show kC c c = 1 from kC_at (k := 0) (by decide)]; decide))).trans ((fld_eq (h12702.2 c (by rw [show kC c c = 1 from kC_at (k := 0) (by decide)]; decide))).trans ((fld_eq (g12690 _ (by omega))).trans ((fld_eq (g12677 _ (by omega))).trans yd12671)))), ((fld_eq (h12713.2 c (by rw [show kC c c = 1 from kC_at (k := 0) (by decide)]; decide))).trans ((fld_eq (h12702.2 c (by rw [show kC c c = 1 from kC_at (k := 0) (by decide)]; decide))).trans ((fld_eq (g12690 _ (by omega))).trans ((fld_eq (g12677 _ (by omega))).trans yd12672)))), ((fld_eq (h12713.2 c (by rw [show kC c c = 1 from kC_at (k := 0) (by decide)]; decide))).trans ((fld_eq (h12702.2 c (by rw [show kC c c = 1 from kC_at (k := 0) (by decide)]; decide))).trans ((fld_eq (g12690 _ (by omega))).trans ((fld_eq (g12677 _ (by omega))).trans yd12673))))⟩ (by omega) (by omega) (by omega) ga12723 ga12716 ga12717 ga12718 ga12719 ga12720 (by omega) (by omega) (by omega) (by omega) (by omega)), h12714, rfl⟩)
        · have hz9 : True := trivial
          refine m_istore F (lv' := [(4, .int (nI 500)), (3, .int (nI k12594.2.2.1)), (2, .int (nI lc)), (1, .int (nI (8 + P.n7))), (0, .ref c)]) e_X10_readChange_72 (by decide) rfl ?_
          refine m_aload_n F rfl e_X10_readChange_74 ?_
          refine r_getC F e_X10_readChange_75 fl_X10_141 h12645 (fa12664) ?_
          refine m_if_eq F e_X10_readChange_78 (fun q => absurd q (by decide)) (fun _ => ?_)
          exact m_vret F hQ e_X10_readChange_81 (⟨P12646, oP12646, (by unfold RP; omega), (by unfold indexS; dsimp only; rw [if_neg (by omega), ek12594, numK_ok e12624 l12626 l12627, ek12635, numK_1 e12655]; exact RM.l (fa12664) (fb12665) (by decide) (by decide) (by omega)), h12645, rfl⟩)
        · have hz9 : True := trivial
          refine m_istore F (lv' := [(4, .int (nI 500)), (3, .int (nI k12594.2.2.1)), (2, .int (nI lc)), (1, .int (nI (8 + P.n7))), (0, .ref c)]) e_X10_readChange_72 (by decide) rfl ?_
          refine m_aload_n F rfl e_X10_readChange_74 ?_
          refine r_getC F e_X10_readChange_75 fl_X10_141 h12645 (fa12664) ?_
          refine m_if_eq F e_X10_readChange_78 (fun q => absurd q (by decide)) (fun _ => ?_)
          exact m_vret F hQ e_X10_readChange_81 (⟨P12646, oP12646, (by unfold RP; omega), (by unfold indexS; dsimp only; rw [if_neg (by omega), ek12594, numK_ok e12624 l12626 l12627, ek12635, numK_2 e12655 e12656]; exact RM.l (fa12664) (fb12665) (by decide) (by decide) (by omega)), h12645, rfl⟩)
      · have hz9 : True := trivial
        refine m_istore_n F (lv' := [(3, .int (nI lc)), (2, .int (nI lc)), (1, .int (nI (8 + P.n7))), (0, .ref c)]) e_X10_readChange_61 (by decide) rfl ?_
        refine m_aload_n F rfl e_X10_readChange_62 ?_
        refine m_sipush F (v := 500) (by decide) e_X10_readChange_63 ?_
        refine m_sipush F (v := 2000) (by decide) e_X10_readChange_66 ?_
        refine r_callV F e_X10_readChange_69 (q_X10_numeralG (x_l X) V c T Z u h P12615 L _ _ 500 2000 1 h12614.1 (hob) oP12615 (by omega) (by omega) (fa12633) (by decide)) cb_X10_numeral ml_X10_165 im_X10_numeral se_X10_numeral h12614 rfl rfl (rest := []) rfl (Nat.le_of_ble_eq_true rfl) ⟨Nat.le_of_ble_eq_true rfl, Nat.le_of_ble_eq_true rfl⟩ ⟨Nat.le_of_ble_eq_true rfl, Nat.le_of_ble_eq_true rfl⟩ (fun r σ12726 hp => ?_)
        obtain ⟨h12727, hp⟩ := hp
        have h12728 := HS.trans h12614 h12727 (by decide)
        obtain ⟨rfl, rfl⟩ := hp
        refine m_istore F (lv' := [(4, .int (nI 500)), (3, .int (nI lc)), (2, .int (nI lc)), (1, .int (nI (8 + P.n7))), (0, .ref c)]) e_X10_readChange_72 (by decide) rfl ?_
        refine m_aload_n F rfl e_X10_readChange_74 ?_
        refine r_getC F e_X10_readChange_75 fl_X10_141 h12728 (fa12633) ?_
        refine m_if_eq F e_X10_readChange_78 (fun q => absurd q (by decide)) (fun _ => ?_)
        exact m_vret F hQ e_X10_readChange_81 (⟨P12615, oP12615, (by unfold RP; omega), (by unfold indexS; dsimp only; rw [if_neg (by omega), ek12594, numK_1 e12624]; exact RM.l (fa12633) (fb12634) (by decide) (by decide) (by omega)), h12728, rfl⟩)
      · have hz9 : True := trivial
        refine m_istore_n F (lv' := [(3, .int (nI lc)), (2, .int (nI lc)), (1, .int (nI (8 + P.n7))), (0, .ref c)]) e_X10_readChange_61 (by decide) rfl ?_
        refine m_aload_n F rfl e_X10_readChange_62 ?_
        refine m_sipush F (v := 500) (by decide) e_X10_readChange_63 ?_
        refine m_sipush F (v := 2000) (by decide) e_X10_readChange_66 ?_
        refine r_callV F e_X10_readChange_69 (q_X10_numeralG (x_l X) V c T Z u h P12615 L _ _ 500 2000 2 h12614.1 (hob) oP12615 (by omega) (by omega) (fa12633) (by decide)) cb_X10_numeral ml_X10_165 im_X10_numeral se_X10_numeral h12614 rfl rfl (rest := []) rfl (Nat.le_of_ble_eq_true rfl) ⟨Nat.le_of_ble_eq_true rfl, Nat.le_of_ble_eq_true rfl⟩ ⟨Nat.le_of_ble_eq_true rfl, Nat.le_of_ble_eq_true rfl⟩ (fun r σ12729 hp => ?_)
        obtain ⟨h12730, hp⟩ := hp
        have h12731 := HS.trans h12614 h12730 (by decide)
        obtain ⟨rfl, rfl⟩ := hp
        refine m_istore F (lv' := [(4, .int (nI 500)), (3, .int (nI lc)), (2, .int (nI lc)), (1, .int (nI (8 + P.n7))), (0, .ref c)]) e_X10_readChange_72 (by decide) rfl ?_
        refine m_aload_n F rfl e_X10_readChange_74 ?_
        refine r_getC F e_X10_readChange_75 fl_X10_141 h12731 (fa12633) ?_
        refine m_if_eq F e_X10_readChange_78 (fun q => absurd q (by decide)) (fun _ => ?_)
        exact m_vret F hQ e_X10_readChange_81 (⟨P12615, oP12615, (by unfold RP; omega), (by unfold indexS; dsimp only; rw [if_neg (by omega), ek12594, numK_2 e12624 e12625]; exact RM.l (fa12633) (fb12634) (by decide) (by decide) (by omega)), h12731, rfl⟩)
    · have c29 : P.n7 ≠ 0 := by have hh := mt (nI_eq (a := P.n7) (b := 0) (by omega) (by omega)).mpr q29; omega
      refine m_aload_n F rfl e_X10_readChange_32 ?_
      refine r_getC F e_X10_readChange_33 fl_X10_141 h12604 ((fld_eq (h12603.2 c (by rw [show kC c c = 1 from kC_at (k := 0) (by decide)]; decide))).trans yd12600) ?_
      refine m_if_eq F e_X10_readChange_36 (fun _ => ?_) (fun q => absurd (by decide) q)
      refine m_aload_n F rfl e_X10_readChange_43 ?_
      refine r_get F e_X10_readChange_44 fl_X10_40 h12604 rfl (fun v hv f12732 => ?_)
      obtain rfl : v = .ref (c + 11) := hv
      refine m_iload_n F rfl e_X10_readChange_47 ?_
      refine m_iconst F (v := 1) (by decide) e_X10_readChange_48 ?_
      refine m_isub F e_X10_readChange_49 ?_
      refine Wm.topE (w := nI ((8 + P.n7) - 1)) (pk_sub (a := 8 + P.n7) (b := 1) (by omega)) ?_
      have hq9 : 1 ≤ lc ∧ lc ≤ 100 ∧ elI σ12602 (c + 11) (7 + P.n7) = some (nI (lc - 1)) := by
        rcases ga12611 with h9 | h9
        · omega
        · exact ⟨h9.2.1, h9.2.2.1, h9.2.2.2⟩
      refine r_iald F (len := 16) (j := (8 + P.n7) - 1) e_X10_readChange_50 h12604 (fun _ h => h) (by decide) (nI_clamp (by omega)) (vp_in_nI (by omega) (by decide)) (fun x12733 h12734 f12735 => ?_)
      obtain rfl := Option.some.inj ((f12735).symm.trans ((by rw [show (8 + P.n7) - 1 = 7 + P.n7 by omega]; exact hq9.2.2)))
      refine m_iconst F (v := 1) (by decide) e_X10_readChange_51 ?_
      refine m_iadd F e_X10_readChange_52 ?_
      refine Wm.topE (w := nI (lc - 1 + 1)) (nI_add (lc - 1) 1) ?_
      refine Wm.topE (w := nI lc) (congrArg nI (by omega)) ?_
      have hlb : lc ≤ 100 := by rcases hp11 with h9 | h9 <;> omega
      refine m_istore_n F (lv' := [(2, .int (nI lc)), (1, .int (nI (8 + P.n7))), (0, .ref c)]) e_X10_readChange_53 (by decide) rfl ?_
      refine m_aload_n F rfl e_X10_readChange_54 ?_
      refine m_iload_n F rfl e_X10_readChange_55 ?_
      refine m_bipush F (v := 99) (by decide) e_X10_readChange_56 ?_
      refine r_callV F e_X10_readChange_58 (q_X10_numeralE (x_l X) V c T Z u h P12580 L _ _ lc 99 n k12594.1 so12590 va12591 ln fp t k12594.2.1 k12594.2.2.1 h12604.1 (hob) oP12580 (by omega) (by omega) ⟨((fld_eq (h12603.2 c (by rw [show kC c c = 1 from kC_at (k := 0) (by decide)]; decide))).trans yd12595), ((fld_eq (h12603.2 c (by rw [show kC c c = 1 from kC_at (k := 0) (by decide)]; decide))).trans yd12596), ((fld_eq (h12603.2 c (by rw [show kC c c = 1 from kC_at (k := 0) (by decide)]; decide))).trans yd12597), ((fld_eq (h12603.2 c (by rw [show kC c c = 1 from kC_at (k := 0) (by decide)]; decide))).trans yd12598), ((fld_eq (h12603.2 c (by rw [show kC c c = 1 from kC_at (k := 0) (by decide)]; decide))).trans yd12599), ((fld_eq (h12603.2 c (by rw [show kC c c = 1 from kC_at (k := 0) (by decide)]; decide))).trans yd12600), ((fld_eq (h12603.2 c (by rw [show kC c c = 1 from kC_at (k := 0) (by decide)]; decide))).trans yd12601)⟩ ga12605 hn7 (by omega) mt12592) cb_X10_numeral ml_X10_165 im_X10_numeral se_X10_numeral h12604 rfl rfl (rest := []) rfl (Nat.le_of_ble_eq_true rfl) ⟨Nat.le_of_ble_eq_true rfl, Nat.le_of_ble_eq_true rfl⟩ ⟨Nat.le_of_ble_eq_true rfl, Nat.le_of_ble_eq_true rfl⟩ (fun r σ12736 hp => ?_)
      obtain ⟨P12739, oP12739, rP12739, pr12740, h12737, hp⟩ := hp
      have h12738 := HS.trans h12604 h12737 (by decide)
      have xP12739 := oP12739
      unfold OKP at xP12739
      unfold RA at rP12739
      have ga12741 := ga12605.of (h12737.2 (c + 1) (by rw [kC_at (k := 1) (by decide)]; decide))
      have ga12742 := ga12606.of (h12737.2 (c + 2) (by rw [kC_at (k := 2) (by decide)]; decide))
      have ga12743 := ga12607.of (h12737.2 (c + 3) (by rw [kC_at (k := 3) (by decide)]; decide))
      have ga12744 := ga12608.of (h12737.2 (c + 7) (by rw [kC_at (k := 7) (by decide)]; decide))
      have ga12745 := ga12609.of (h12737.2 (c + 8) (by rw [kC_at (k := 8) (by decide)]; decide))
      have ga12746 := ga12610.of (h12737.2 (c + 9) (by rw [kC_at (k := 9) (by decide)]; decide))
      have ga12747 := ga12611.of (h12737.2 (c + 11) (by rw [kC_at (k := 11) (by decide)]; decide))
      rcases pr12740 with ⟨e12748, l12750, l12751, ea12752, ⟨so12753, va12754, mt12755, yd12756⟩, rfl⟩ | ⟨e12748, ⟨fa12757, fb12758⟩, rfl⟩ | ⟨e12748, e12749, ⟨fa12757, fb12758⟩, rfl⟩
      · have bk12759 := tok_ok (t := t) (n := n) P12580.a (by omega)
        generalize ek12759 : tok t n P12580.a = k12759 at ea12752 mt12755 yd12756 bk12759
        rw [show P12580.a = k12594.2.2.2 by omega] at ek12759
        have hyd12760 := yd12756
        obtain ⟨yd12760, yd12761, yd12762, yd12763, yd12764, yd12765, yd12766⟩ := hyd12760
        refine m_istore_n F (lv' := [(3, .int (nI k12594.2.2.1)), (2, .int (nI lc)), (1, .int (nI (8 + P.n7))), (0, .ref c)]) e_X10_readChange_61 (by decide) rfl ?_
        refine m_aload_n F rfl e_X10_readChange_62 ?_
        refine m_sipush F (v := 500) (by decide) e_X10_readChange_63 ?_
        refine m_sipush F (v := 2000) (by decide) e_X10_readChange_66 ?_
        refine r_callV F e_X10_readChange_69 (q_X10_numeralE (x_l X) V c T Z u h P12739 L _ _ 500 2000 n k12759.1 so12753 va12754 ln fp t k12759.2.1 k12759.2.2.1 h12738.1 (hob) oP12739 (by omega) (by omega) ⟨(yd12760), (yd12761), (yd12762), (yd12763), (yd12764), (yd12765), (yd12766)⟩ ga12741 hn7 (by omega) mt12755) cb_X10_numeral ml_X10_165 im_X10_numeral se_X10_numeral h12738 rfl rfl (rest := []) rfl (Nat.le_of_ble_eq_true rfl) ⟨Nat.le_of_ble_eq_true rfl, Nat.le_of_ble_eq_true rfl⟩ ⟨Nat.le_of_ble_eq_true rfl, Nat.le_of_ble_eq_true rfl⟩ (fun r σ12767 hp => ?_)
        obtain ⟨P12770, oP12770, rP12770, pr12771, h12768, hp⟩ := hp
        have h12769 := HS.trans h12738 h12768 (by decide)
        have xP12770 := oP12770
        unfold OKP at xP12770
        unfold RA at rP12770
        have ga12772 := ga12741.of (h12768.2 (c + 1) (by rw [kC_at (k := 1) (by decide)]; decide))
        have ga12773 := ga12742.of (h12768.2 (c + 2) (by rw [kC_at (k := 2) (by decide)]; decide))
        have ga12774 := ga12743.of (h12768.2 (c + 3) (by rw [kC_at (k := 3) (by decide)]; decide))
        have ga12775 := ga12744.of (h12768.2 (c + 7) (by rw [kC_at (k := 7) (by decide)]; decide))
        have ga12776 := ga12745.of (h12768.2 (c + 8) (by rw [kC_at (k := 8) (by decide)]; decide))
        have ga12777 := ga12746.of (h12768.2 (c + 9) (by rw [kC_at (k := 9) (by decide)]; decide))
        have ga12778 := ga12747.of (h12768.2 (c + 11) (by rw [kC_at (k := 11) (by decide)]; decide))
        rcases pr12771 with ⟨e12779, l12781, l12782, ea12783, ⟨so12784, va12785, mt12786, yd12787⟩, rfl⟩ | ⟨e12779, ⟨fa12788, fb12789⟩, rfl⟩ | ⟨e12779, e12780, ⟨fa12788, fb12789⟩, rfl⟩
        · have bk12790 := tok_ok (t := t) (n := n) P12739.a (by omega)
          generalize ek12790 : tok t n P12739.a = k12790 at ea12783 mt12786 yd12787 bk12790
          rw [show P12739.a = k12759.2.2.2 by omega] at ek12790
          have hyd12791 := yd12787
          obtain ⟨yd12791, yd12792, yd12793, yd12794, yd12795, yd12796, yd12797⟩ := hyd12791
          refine m_istore F (lv' := [(4, .int (nI k12759.2.2.1)), (3, .int (nI k12594.2.2.1)), (2, .int (nI lc)), (1, .int (nI (8 + P.n7))), (0, .ref c)]) e_X10_readChange_72 (by decide) rfl ?_
          refine m_aload_n F rfl e_X10_readChange_74 ?_
          refine r_getC F e_X10_readChange_75 fl_X10_141 h12769 (yd12796) ?_
          refine m_if_eq F e_X10_readChange_78 (fun _ => ?_) (fun q => absurd (by decide) q)
          refine m_aload_n F rfl e_X10_readChange_82 ?_
          refine r_get F e_X10_readChange_83 fl_X10_40 h12769 rfl (fun v hv f12798 => ?_)
          obtain rfl : v = .ref (c + 11) := hv
          refine m_iload_n F rfl e_X10_readChange_86 ?_
          refine m_iload_n F rfl e_X10_readChange_87 ?_
          refine r_iast F (g' := (⟨T, Z, u, h, P12770, L⟩ : RG)) (len := 16) (j := 8 + P.n7) e_X10_readChange_88 h12769 (fun _ h => h) (fun f h => ⟨f, rfl, h⟩) (by decide) (by decide) (nI_clamp (by omega)) (vp_in_nI (by omega) (by decide)) ⟨k12594.2.2.1, by omega, rfl⟩ (fun _ _ _ h => h) (fun _ _ _ h => h) (fun σ12799 h12800 g12801 f12802 g12803 => ?_)
          have ga12804 := ga12772.of (g12801 _ (by omega))
          have ga12805 := ga12773.of (g12801 _ (by omega))
          have ga12806 := ga12774.of (g12801 _ (by omega))
          have ga12807 := ga12775.of (g12801 _ (by omega))
          have ga12808 := ga12776.of (g12801 _ (by omega))
          have ga12809 := ga12777.of (g12801 _ (by omega))
          have ga12810 := QR.put (by omega) f12802
          refine m_aload_n F rfl e_X10_readChange_89 ?_
          refine r_get F e_X10_readChange_90 fl_X10_43 h12800 rfl (fun v hv f12811 => ?_)
          obtain rfl : v = .ref (c + 12) := hv
          refine m_iload_n F rfl e_X10_readChange_93 ?_
          refine m_iload F rfl e_X10_readChange_94 ?_
          refine r_iast F (g' := (⟨T, Z, u, h, (mkP P12770.n0 P12770.n2 P12770.n5 P12770.n7 P12770.m0 P12770.m5 P12770.w2 (P12770.n7 + 1) P12770.kk P12770.a P12770.f P12770.p), L⟩ : RG)) (len := 16) (j := 8 + P.n7) e_X10_readChange_96 h12800 (fun _ h => h) (fun f h => ⟨f, rfl, h⟩) (by decide) (by decide) (nI_clamp (by omega)) (vp_in_nI (by omega) (by decide)) ⟨k12759.2.2.1, by omega, rfl, fun h7 _ => absurd h7 (by omega), fun _ _ => by omega⟩ (fun i hi y hy => by obtain ⟨n9, a9, b9, c9, d9⟩ := hy; exact ⟨n9, a9, b9, c9, fun h7 h8 => d9 h7 (show i < 8 + P12770.w7 by have h6 : i < 8 + (P12770.n7 + 1) := h8; omega)⟩) (CR.chg (by intro k hk i x h; unfold EI at h ⊢; split at h <;> first | exact h | exact absurd rfl hk | trivial) rfl rfl rfl rfl) (fun σ12812 h12813 g12814 f12815 g12816 => ?_)
          have ga12817 := ga12804.of (g12814 _ (by omega))
          have ga12818 := ga12805.of (g12814 _ (by omega))
          have ga12819 := ga12806.of (g12814 _ (by omega))
          have ga12820 := ga12807.of (g12814 _ (by omega))
          have ga12821 := ga12808.of (g12814 _ (by omega))
          have ga12822 := ga12809.of (g12814 _ (by omega))
          have ga12823 := ga12810.of (g12814 _ (by omega))
          obtain ⟨P12824, eP12824⟩ : ∃ P9, P9 = (mkP P12770.n0 P12770.n2 P12770.n5 P12770.n7 P12770.m0 P12770.m5 P12770.w2 (P12770.n7 + 1) P12770.kk P12770.a P12770.f P12770.p) := ⟨_, rfl⟩
          rw [← eP12824] at h12813
          have fP12824 : P12824.n0 = P12770.n0 ∧ P12824.n2 = P12770.n2 ∧ P12824.n5 = P12770.n5 ∧ P12824.n7 = P12770.n7 ∧ P12824.m0 = P12770.m0 ∧ P12824.m5 = P12770.m5 ∧ P12824.w2 = P12770.w2 ∧ P12824.w7 = P12770.n7 + 1 ∧ P12824.kk = P12770.kk ∧ P12824.a = P12770.a ∧ P12824.f = P12770.f ∧ P12824.p = P12770.p := by rw [eP12824]; exact ⟨rfl, rfl, rfl, rfl, rfl, rfl, rfl, rfl, rfl, rfl, rfl, rfl⟩
          refine m_aload_n F rfl e_X10_readChange_97 ?_
          refine m_iconst F (v := 2) (by decide) e_X10_readChange_98 ?_
          refine m_aload_n F rfl e_X10_readChange_99 ?_
          refine m_iconst F (v := 2) (by decide) e_X10_readChange_100 ?_
          have oP12828 : OKP P12824 := by unfold OKP; omega
          refine r_callV F e_X10_readChange_101 (q_X10_reading2 (x_l X) V c T Z u h P12824 L _ _  h12813.1 (hob) oP12828 ) cb_X10_reading ml_X10_157 im_X10_reading se_X10_reading h12813 rfl rfl (rest := [.int 2, .ref c]) rfl (Nat.le_of_ble_eq_true rfl) ⟨Nat.le_of_ble_eq_true rfl, Nat.le_of_ble_eq_true rfl⟩ ⟨Nat.le_of_ble_eq_true rfl, Nat.le_of_ble_eq_true rfl⟩ (fun r σ12825 hp => ?_)
          obtain ⟨h12826, rfl⟩ := hp
          have h12827 := HS.trans h12813 h12826 (by decide)
          have ga12829 := ga12817.of (h12826.2 (c + 1) (by rw [kC_at (k := 1) (by decide)]; decide))
          have ga12830 := ga12818.of (h12826.2 (c + 2) (by rw [kC_at (k := 2) (by decide)]; decide))
          have ga12831 := ga12819.of (h12826.2 (c + 3) (by rw [kC_at (k := 3) (by decide)]; decide))
          have ga12832 := ga12820.of (h12826.2 (c + 7) (by rw [kC_at (k := 7) (by decide)]; decide))
          have ga12833 := ga12821.of (h12826.2 (c + 8) (by rw [kC_at (k := 8) (by decide)]; decide))
          have ga12834 := ga12822.of (h12826.2 (c + 9) (by rw [kC_at (k := 9) (by decide)]; decide))
          have ga12835 := ga12823.of (h12826.2 (c + 11) (by rw [kC_at (k := 11) (by decide)]; decide))
          refine Wm.topE (w := nI P.n7) (congrArg nI (by omega)) ?_
          refine m_iconst F (v := 1) (by decide) e_X10_readChange_104 ?_
          refine m_iadd F e_X10_readChange_105 ?_
          refine Wm.topE (w := nI (P.n7 + 1)) (nI_add P.n7 1) ?_
          refine r_callV F e_X10_readChange_106 (q_X10_reads2E (x_l X) V c T Z u h P12824 L _ _ (P.n7 + 1)  h12827.1 (hob) oP12828 (by omega) (by omega)) cb_X10_reads ml_X10_170 im_X10_reads se_X10_reads h12827 rfl rfl (rest := []) rfl (Nat.le_of_ble_eq_true rfl) ⟨Nat.le_of_ble_eq_true rfl, Nat.le_of_ble_eq_true rfl⟩ ⟨Nat.le_of_ble_eq_true rfl, Nat.le_of_ble_eq_true rfl⟩ (fun r σ12836 hp => ?_)
          obtain ⟨h12837, hp⟩ := hp
          have h12838 := HS.trans h12827 h12837 (by decide)
          have ga12839 := ga12829.of (h12837.2 (c + 1) (by rw [kC_at (k := 1) (by decide)]; decide))
          have ga12840 := ga12831.of (h12837.2 (c + 3) (by rw [kC_at (k := 3) (by decide)]; decide))
          have ga12841 := ga12832.of (h12837.2 (c + 7) (by rw [kC_at (k := 7) (by decide)]; decide))
          have ga12842 := ga12833.of (h12837.2 (c + 8) (by rw [kC_at (k := 8) (by decide)]; decide))
          have ga12843 := ga12834.of (h12837.2 (c + 9) (by rw [kC_at (k := 9) (by decide)]; decide))
          have ga12844 := ga12835.of (h12837.2 (c + 11) (by rw [kC_at (k := 11) (by decide)]; decide))
          obtain ⟨ea12845, eb12846, rfl⟩ := hp
          have ga12847 := NR.k ga12830 eb12846 (by decide) (by decide) (by decide)
          obtain ⟨P12848, eP12848⟩ : ∃ P9, P9 = (mkP P12824.n0 P12824.n2 P12824.n5 (P.n7 + 1) P12824.m0 P12824.m5 P12824.w2 P12824.w7 P12824.kk P12824.a P12824.f P12824.p) := ⟨_, rfl⟩
          rw [← eP12848] at h12838
          have fP12848 : P12848.n0 = P12824.n0 ∧ P12848.n2 = P12824.n2 ∧ P12848.n5 = P12824.n5 ∧ P12848.n7 = P.n7 + 1 ∧ P12848.m0 = P12824.m0 ∧ P12848.m5 = P12824.m5 ∧ P12848.w2 = P12824.w2 ∧ P12848.w7 = P12824.w7 ∧ P12848.kk = P12824.kk ∧ P12848.a = P12824.a ∧ P12848.f = P12824.f ∧ P12848.p = P12824.p := by rw [eP12848]; exact ⟨rfl, rfl, rfl, rfl, rfl, rfl, rfl, rfl, rfl, rfl, rfl, rfl⟩
          have oP12849 : OKP P12848 := by unfold OKP; omega
          exact m_vret F hQ e_X10_readChange_109 (⟨P12848, oP12849, (by unfold RP; omega), (by unfold indexS; dsimp only; rw [if_neg (by omega), ek12594, numK_ok e12748 l12750 l12751, ek12759, numK_ok e12779 l12781 l12782, ek12790]; exact RM.r mt12786 ⟨((fld_eq (h12837.2 c (by rw [show kC c c = 1 from kC_at (k := 0) (by decide)]; decide))).trans ((fld_eq (h12826.2 c (by rw [show kC c c = 1 from kC_at (k := 0) (by decide)]; decide))).trans ((fld_eq (g12814 _ (by omega))).trans ((fld_eq (g12801 _ (by omega))).trans yd12791)))), ((fld_eq (h12837.2 c (by rw [show kC c c = 1 from kC_at (k := 0) (by decide)]; decide))).trans ((fld_eq (h12826.2 c (by rw [show kC c c = 1 from kC_at (k := 0) (by decide)]; decide))).trans ((fld_eq (g12814 _ (by omega))).trans ((fld_eq (g12801 _ (by omega))).trans yd12792)))), ((fld_eq (h12837.2 c (by rw [show kC c c = 1 from kC_at (k := 0) (by decide)]; decide))).trans ((fld_eq (h12826.2 c (by rw [show kC c c = 1 from kC_at (k := 0) (by decide)]; decide))).trans ((fld_eq (g12814 _ (by omega))).trans ((fld_eq (g12801 _ (by omega))).trans yd12793)))), ((fld_eq (h12837.2 c (by rw [show kC c c = 1 from kC_at (k := 0) (by decide)]; decide))).trans ((fld_eq (h12826.2 c (by rw [show kC c c = 1 from kC_at (k := 0) (by decide)]; decide))).trans ((fld_eq (g12814 _ (by omega))).trans ((fld_eq (g12801 _ (by omega))).trans yd12794)))), ((fld_eq (h12837.2 c (by rw [show kC c c = 1 from kC_at (k := 0) (by decide)]; decide))).trans ((fld_eq (h12826.2 c (by rw [show kC c c = 1 from kC_at (k := 0) (by decide)]; decide))).trans ((fld_eq (g12814 _ (by omega))).trans ((fld_eq (g12801 _ (by omega))).trans yd12795)))), ((fld_eq (h12837.2 c (by rw [show kC c c = 1 from kC_at (k := 0) (by decide)]; decide))).trans ((fld_eq (h12826.2 c (by rw [show kC c c = 1 from kC_at (k := 0) (by decide)]; decide))).trans ((fld_eq (g12814 _ (by omega))).trans ((fld_eq (g12801 _ (by omega))).trans yd12796)))), ((fld_eq (h12837.2 c (by rw [show kC c c = 1 from kC_at (k := 0) (by decide)]; decide))).trans ((fld_eq (h12826.2 c (by rw [show kC c c = 1 from kC_at (k := 0) (by decide)]; decide))).trans ((fld_eq (g12814 _ (by omega))).trans ((fld_eq (g12801 _ (by omega))).trans yd12797))))⟩ (by omega) (by omega) (by omega) ga12847 ga12840 ga12841 ga12842 ga12843 ga12844 (by omega) (by omega) (by omega) (by omega) (by omega)), h12838, rfl⟩)
        · have hz9 : True := trivial
          refine m_istore F (lv' := [(4, .int (nI 500)), (3, .int (nI k12594.2.2.1)), (2, .int (nI lc)), (1, .int (nI (8 + P.n7))), (0, .ref c)]) e_X10_readChange_72 (by decide) rfl ?_
          refine m_aload_n F rfl e_X10_readChange_74 ?_
          refine r_getC F e_X10_readChange_75 fl_X10_141 h12769 (fa12788) ?_
          refine m_if_eq F e_X10_readChange_78 (fun q => absurd q (by decide)) (fun _ => ?_)
          exact m_vret F hQ e_X10_readChange_81 (⟨P12770, oP12770, (by unfold RP; omega), (by unfold indexS; dsimp only; rw [if_neg (by omega), ek12594, numK_ok e12748 l12750 l12751, ek12759, numK_1 e12779]; exact RM.l (fa12788) (fb12789) (by decide) (by decide) (by omega)), h12769, rfl⟩)
        · have hz9 : True := trivial
          refine m_istore F (lv' := [(4, .int (nI 500)), (3, .int (nI k12594.2.2.1)), (2, .int (nI lc)), (1, .int (nI (8 + P.n7))), (0, .ref c)]) e_X10_readChange_72 (by decide) rfl ?_
          refine m_aload_n F rfl e_X10_readChange_74 ?_
          refine r_getC F e_X10_readChange_75 fl_X10_141 h12769 (fa12788) ?_
          refine m_if_eq F e_X10_readChange_78 (fun q => absurd q (by decide)) (fun _ => ?_)
          exact m_vret F hQ e_X10_readChange_81 (⟨P12770, oP12770, (by unfold RP; omega), (by unfold indexS; dsimp only; rw [if_neg (by omega), ek12594, numK_ok e12748 l12750 l12751, ek12759, numK_2 e12779 e12780]; exact RM.l (fa12788) (fb12789) (by decide) (by decide) (by omega)), h12769, rfl⟩)
      · have hz9 : True := trivial
        refine m_istore_n F (lv' := [(3, .int (nI lc)), (2, .int (nI lc)), (1, .int (nI (8 + P.n7))), (0, .ref c)]) e_X10_readChange_61 (by decide) rfl ?_
        refine m_aload_n F rfl e_X10_readChange_62 ?_
        refine m_sipush F (v := 500) (by decide) e_X10_readChange_63 ?_
        refine m_sipush F (v := 2000) (by decide) e_X10_readChange_66 ?_
        refine r_callV F e_X10_readChange_69 (q_X10_numeralG (x_l X) V c T Z u h P12739 L _ _ 500 2000 1 h12738.1 (hob) oP12739 (by omega) (by omega) (fa12757) (by decide)) cb_X10_numeral ml_X10_165 im_X10_numeral se_X10_numeral h12738 rfl rfl (rest := []) rfl (Nat.le_of_ble_eq_true rfl) ⟨Nat.le_of_ble_eq_true rfl, Nat.le_of_ble_eq_true rfl⟩ ⟨Nat.le_of_ble_eq_true rfl, Nat.le_of_ble_eq_true rfl⟩ (fun r σ12850 hp => ?_)
        obtain ⟨h12851, hp⟩ := hp
        have h12852 := HS.trans h12738 h12851 (by decide)
        obtain ⟨rfl, rfl⟩ := hp
        refine m_istore F (lv' := [(4, .int (nI 500)), (3, .int (nI lc)), (2, .int (nI lc)), (1, .int (nI (8 + P.n7))), (0, .ref c)]) e_X10_readChange_72 (by decide) rfl ?_
        refine m_aload_n F rfl e_X10_readChange_74 ?_
        refine r_getC F e_X10_readChange_75 fl_X10_141 h12852 (fa12757) ?_
        refine m_if_eq F e_X10_readChange_78 (fun q => absurd q (by decide)) (fun _ => ?_)
        exact m_vret F hQ e_X10_readChange_81 (⟨P12739, oP12739, (by unfold RP; omega), (by unfold indexS; dsimp only; rw [if_neg (by omega), ek12594, numK_1 e12748]; exact RM.l (fa12757) (fb12758) (by decide) (by decide) (by omega)), h12852, rfl⟩)
      · have hz9 : True := trivial
        refine m_istore_n F (lv' := [(3, .int (nI lc)), (2, .int (nI lc)), (1, .int (nI (8 + P.n7))), (0, .ref c)]) e_X10_readChange_61 (by decide) rfl ?_
        refine m_aload_n F rfl e_X10_readChange_62 ?_
        refine m_sipush F (v := 500) (by decide) e_X10_readChange_63 ?_
        refine m_sipush F (v := 2000) (by decide) e_X10_readChange_66 ?_
        refine r_callV F e_X10_readChange_69 (q_X10_numeralG (x_l X) V c T Z u h P12739 L _ _ 500 2000 2 h12738.1 (hob) oP12739 (by omega) (by omega) (fa12757) (by decide)) cb_X10_numeral ml_X10_165 im_X10_numeral se_X10_numeral h12738 rfl rfl (rest := []) rfl (Nat.le_of_ble_eq_true rfl) ⟨Nat.le_of_ble_eq_true rfl, Nat.le_of_ble_eq_true rfl⟩ ⟨Nat.le_of_ble_eq_true rfl, Nat.le_of_ble_eq_true rfl⟩ (fun r σ12853 hp => ?_)
        obtain ⟨h12854, hp⟩ := hp
        have h12855 := HS.trans h12738 h12854 (by decide)
        obtain ⟨rfl, rfl⟩ := hp
        refine m_istore F (lv' := [(4, .int (nI 500)), (3, .int (nI lc)), (2, .int (nI lc)), (1, .int (nI (8 + P.n7))), (0, .ref c)]) e_X10_readChange_72 (by decide) rfl ?_
        refine m_aload_n F rfl e_X10_readChange_74 ?_
        refine r_getC F e_X10_readChange_75 fl_X10_141 h12855 (fa12757) ?_
        refine m_if_eq F e_X10_readChange_78 (fun q => absurd q (by decide)) (fun _ => ?_)
        exact m_vret F hQ e_X10_readChange_81 (⟨P12739, oP12739, (by unfold RP; omega), (by unfold indexS; dsimp only; rw [if_neg (by omega), ek12594, numK_2 e12748 e12749]; exact RM.l (fa12757) (fb12758) (by decide) (by decide) (by omega)), h12855, rfl⟩)
  · have c12 : (8 + P.n7) = 16 := (nI_eq (a := (8 + P.n7)) (b := 16) (by omega) (by omega)).mp q12
    refine m_aload_n F rfl e_X10_readChange_15 ?_
    refine m_iconst F (v := 2) (by decide) e_X10_readChange_16 ?_
    refine r_callV F e_X10_readChange_17 (q_X10_wrongE (x_l X) V c T Z u h P L _ _ 2 n st so va ln fp h12569.1 (hob) hP (by omega) ⟨((fld_eq (h12568.2 c (by rw [show kC c c = 1 from kC_at (k := 0) (by decide)]; decide))).trans yd12560), ((fld_eq (h12568.2 c (by rw [show kC c c = 1 from kC_at (k := 0) (by decide)]; decide))).trans yd12561), ((fld_eq (h12568.2 c (by rw [show kC c c = 1 from kC_at (k := 0) (by decide)]; decide))).trans yd12562), ((fld_eq (h12568.2 c (by rw [show kC c c = 1 from kC_at (k := 0) (by decide)]; decide))).trans yd12563), ((fld_eq (h12568.2 c (by rw [show kC c c = 1 from kC_at (k := 0) (by decide)]; decide))).trans yd12564), ((fld_eq (h12568.2 c (by rw [show kC c c = 1 from kC_at (k := 0) (by decide)]; decide))).trans yd12565), ((fld_eq (h12568.2 c (by rw [show kC c c = 1 from kC_at (k := 0) (by decide)]; decide))).trans yd12566)⟩ (by decide)) cb_X10_wrong ml_X10_150 im_X10_wrong se_X10_wrong h12569 rfl rfl (rest := []) rfl (Nat.le_of_ble_eq_true rfl) ⟨Nat.le_of_ble_eq_true rfl, Nat.le_of_ble_eq_true rfl⟩ ⟨Nat.le_of_ble_eq_true rfl, Nat.le_of_ble_eq_true rfl⟩ (fun r σ12856 hp => ?_)
    obtain ⟨h12857, hp⟩ := hp
    have h12858 := HS.trans h12569 h12857 (by decide)
    have ga12859 := ga12570.of (h12857.2 (c + 1) (by rw [kC_at (k := 1) (by decide)]; decide))
    have ga12860 := ga12571.of (h12857.2 (c + 2) (by rw [kC_at (k := 2) (by decide)]; decide))
    have ga12861 := ga12572.of (h12857.2 (c + 3) (by rw [kC_at (k := 3) (by decide)]; decide))
    have ga12862 := ga12573.of (h12857.2 (c + 7) (by rw [kC_at (k := 7) (by decide)]; decide))
    have ga12863 := ga12574.of (h12857.2 (c + 8) (by rw [kC_at (k := 8) (by decide)]; decide))
    have ga12864 := ga12575.of (h12857.2 (c + 9) (by rw [kC_at (k := 9) (by decide)]; decide))
    have ga12865 := ga12576.of (h12857.2 (c + 11) (by rw [kC_at (k := 11) (by decide)]; decide))
    obtain ⟨hp, rfl⟩ := hp
    have hyd12866 := hp
    obtain ⟨yd12866, yd12867, yd12868, yd12869, yd12870, yd12871, yd12872⟩ := hyd12866
    refine m_aload_n F rfl e_X10_readChange_20 ?_
    refine r_callV F e_X10_readChange_21 (q_X10_goOnG (x_l X) V c T 0 u h P L _ _  2 h12858.1 (hob) hP  (yd12871) (by decide)) cb_X10_goOn ml_X10_154 im_X10_goOn se_X10_goOn h12858 rfl rfl (rest := []) rfl (Nat.le_of_ble_eq_true rfl) ⟨Nat.le_of_ble_eq_true rfl, Nat.le_of_ble_eq_true rfl⟩ ⟨Nat.le_of_ble_eq_true rfl, Nat.le_of_ble_eq_true rfl⟩ (fun r σ12873 hp => ?_)
    obtain ⟨h12874, hp⟩ := hp
    have h12875 := HS.trans h12858 h12874 (by decide)
    have ga12876 := ga12859.of (h12874.2 (c + 1) (by rw [kC_at (k := 1) (by decide)]; decide))
    have ga12877 := ga12860.of (h12874.2 (c + 2) (by rw [kC_at (k := 2) (by decide)]; decide))
    have ga12878 := ga12861.of (h12874.2 (c + 3) (by rw [kC_at (k := 3) (by decide)]; decide))
    have ga12879 := ga12862.of (h12874.2 (c + 7) (by rw [kC_at (k := 7) (by decide)]; decide))
    have ga12880 := ga12863.of (h12874.2 (c + 8) (by rw [kC_at (k := 8) (by decide)]; decide))
    have ga12881 := ga12864.of (h12874.2 (c + 9) (by rw [kC_at (k := 9) (by decide)]; decide))
    have ga12882 := ga12865.of (h12874.2 (c + 11) (by rw [kC_at (k := 11) (by decide)]; decide))
    obtain ⟨rfl, rfl⟩ := hp
    refine m_aload_n F rfl e_X10_readChange_24 ?_
    refine m_iconst F (v := 2) (by decide) e_X10_readChange_25 ?_
    refine r_callV F e_X10_readChange_26 (q_X10_reading2 (x_l X) V c T 0 u h P L _ _  h12875.1 (hob) hP ) cb_X10_reading ml_X10_157 im_X10_reading se_X10_reading h12875 rfl rfl (rest := []) rfl (Nat.le_of_ble_eq_true rfl) ⟨Nat.le_of_ble_eq_true rfl, Nat.le_of_ble_eq_true rfl⟩ ⟨Nat.le_of_ble_eq_true rfl, Nat.le_of_ble_eq_true rfl⟩ (fun r σ12883 hp => ?_)
    obtain ⟨h12884, rfl⟩ := hp
    have h12885 := HS.trans h12875 h12884 (by decide)
    have ga12886 := ga12859.of (h12884.2 (c + 1) (by rw [kC_at (k := 1) (by decide)]; decide))
    have ga12887 := ga12860.of (h12884.2 (c + 2) (by rw [kC_at (k := 2) (by decide)]; decide))
    have ga12888 := ga12861.of (h12884.2 (c + 3) (by rw [kC_at (k := 3) (by decide)]; decide))
    have ga12889 := ga12862.of (h12884.2 (c + 7) (by rw [kC_at (k := 7) (by decide)]; decide))
    have ga12890 := ga12863.of (h12884.2 (c + 8) (by rw [kC_at (k := 8) (by decide)]; decide))
    have ga12891 := ga12864.of (h12884.2 (c + 9) (by rw [kC_at (k := 9) (by decide)]; decide))
    have ga12892 := ga12865.of (h12884.2 (c + 11) (by rw [kC_at (k := 11) (by decide)]; decide))
    refine Wm.topE (w := nI P.n7) (congrArg nI (by omega)) ?_
    refine m_if_eq F e_X10_readChange_29 (fun q29 => ?_) (fun q29 => ?_)
    · have c29 : P.n7 = 0 := (nI_eq (a := P.n7) (b := 0) (by omega) (by omega)).mp q29
      refine m_iconst F (v := 0) (by decide) e_X10_readChange_39 ?_
      refine m_goto F e_X10_readChange_40 ?_
      refine m_istore_n F (lv' := [(2, .int 0), (1, .int (nI (8 + P.n7))), (0, .ref c)]) e_X10_readChange_53 (by decide) rfl ?_
      refine m_aload_n F rfl e_X10_readChange_54 ?_
      refine m_iload_n F rfl e_X10_readChange_55 ?_
      refine m_bipush F (v := 99) (by decide) e_X10_readChange_56 ?_
      refine r_callV F e_X10_readChange_58 (q_X10_numeralG (x_l X) V c T 0 u h P L _ _ 0 99 2 h12885.1 (hob) hP (by omega) (by omega) ((fld_eq (h12884.2 c (by rw [show kC c c = 1 from kC_at (k := 0) (by decide)]; decide))).trans yd12871) (by decide)) cb_X10_numeral ml_X10_165 im_X10_numeral se_X10_numeral h12885 rfl rfl (rest := []) rfl (Nat.le_of_ble_eq_true rfl) ⟨Nat.le_of_ble_eq_true rfl, Nat.le_of_ble_eq_true rfl⟩ ⟨Nat.le_of_ble_eq_true rfl, Nat.le_of_ble_eq_true rfl⟩ (fun r σ12893 hp => ?_)
      obtain ⟨h12894, hp⟩ := hp
      have h12895 := HS.trans h12885 h12894 (by decide)
      have ga12896 := ga12886.of (h12894.2 (c + 1) (by rw [kC_at (k := 1) (by decide)]; decide))
      have ga12897 := ga12887.of (h12894.2 (c + 2) (by rw [kC_at (k := 2) (by decide)]; decide))
      have ga12898 := ga12888.of (h12894.2 (c + 3) (by rw [kC_at (k := 3) (by decide)]; decide))
      have ga12899 := ga12889.of (h12894.2 (c + 7) (by rw [kC_at (k := 7) (by decide)]; decide))
      have ga12900 := ga12890.of (h12894.2 (c + 8) (by rw [kC_at (k := 8) (by decide)]; decide))
      have ga12901 := ga12891.of (h12894.2 (c + 9) (by rw [kC_at (k := 9) (by decide)]; decide))
      have ga12902 := ga12892.of (h12894.2 (c + 11) (by rw [kC_at (k := 11) (by decide)]; decide))
      obtain ⟨rfl, rfl⟩ := hp
      refine m_istore_n F (lv' := [(3, .int (nI 0)), (2, .int 0), (1, .int (nI (8 + P.n7))), (0, .ref c)]) e_X10_readChange_61 (by decide) rfl ?_
      refine m_aload_n F rfl e_X10_readChange_62 ?_
      refine m_sipush F (v := 500) (by decide) e_X10_readChange_63 ?_
      refine m_sipush F (v := 2000) (by decide) e_X10_readChange_66 ?_
      refine r_callV F e_X10_readChange_69 (q_X10_numeralG (x_l X) V c T 0 u h P L _ _ 500 2000 2 h12895.1 (hob) hP (by omega) (by omega) ((fld_eq (h12884.2 c (by rw [show kC c c = 1 from kC_at (k := 0) (by decide)]; decide))).trans yd12871) (by decide)) cb_X10_numeral ml_X10_165 im_X10_numeral se_X10_numeral h12895 rfl rfl (rest := []) rfl (Nat.le_of_ble_eq_true rfl) ⟨Nat.le_of_ble_eq_true rfl, Nat.le_of_ble_eq_true rfl⟩ ⟨Nat.le_of_ble_eq_true rfl, Nat.le_of_ble_eq_true rfl⟩ (fun r σ12903 hp => ?_)
      obtain ⟨h12904, hp⟩ := hp
      have h12905 := HS.trans h12895 h12904 (by decide)
      have ga12906 := ga12886.of (h12904.2 (c + 1) (by rw [kC_at (k := 1) (by decide)]; decide))
      have ga12907 := ga12887.of (h12904.2 (c + 2) (by rw [kC_at (k := 2) (by decide)]; decide))
      have ga12908 := ga12888.of (h12904.2 (c + 3) (by rw [kC_at (k := 3) (by decide)]; decide))
      have ga12909 := ga12889.of (h12904.2 (c + 7) (by rw [kC_at (k := 7) (by decide)]; decide))
      have ga12910 := ga12890.of (h12904.2 (c + 8) (by rw [kC_at (k := 8) (by decide)]; decide))
      have ga12911 := ga12891.of (h12904.2 (c + 9) (by rw [kC_at (k := 9) (by decide)]; decide))
      have ga12912 := ga12892.of (h12904.2 (c + 11) (by rw [kC_at (k := 11) (by decide)]; decide))
      obtain ⟨rfl, rfl⟩ := hp
      refine m_istore F (lv' := [(4, .int (nI 500)), (3, .int (nI 0)), (2, .int 0), (1, .int (nI (8 + P.n7))), (0, .ref c)]) e_X10_readChange_72 (by decide) rfl ?_
      refine m_aload_n F rfl e_X10_readChange_74 ?_
      refine r_getC F e_X10_readChange_75 fl_X10_141 h12905 ((fld_eq (h12884.2 c (by rw [show kC c c = 1 from kC_at (k := 0) (by decide)]; decide))).trans yd12871) ?_
      refine m_if_eq F e_X10_readChange_78 (fun q => absurd q (by decide)) (fun _ => ?_)
      have h12913 : HS V c _ [0, 2, 4, 5, 6, 7, 8, 9, 10, 11, 14, 15, 16, 17, 18, 19, 20, 21, 22, 23] _ _ := ⟨HR.mono (Z' := Z) (by intro e; first | rfl | assumption | omega) h12905.1, h12905.2⟩
      exact m_vret F hQ e_X10_readChange_81 (⟨P, hP, (by unfold RP; omega), (by unfold indexS; dsimp only; rw [if_pos (by omega)]; exact RM.l ((fld_eq (h12884.2 c (by rw [show kC c c = 1 from kC_at (k := 0) (by decide)]; decide))).trans yd12871) ((fld_eq (h12884.2 c (by rw [show kC c c = 1 from kC_at (k := 0) (by decide)]; decide))).trans yd12872) (by decide) (by decide) (by omega)), h12913, rfl⟩)
    · have c29 : P.n7 ≠ 0 := by have hh := mt (nI_eq (a := P.n7) (b := 0) (by omega) (by omega)).mpr q29; omega
      refine m_aload_n F rfl e_X10_readChange_32 ?_
      refine r_getC F e_X10_readChange_33 fl_X10_141 h12885 ((fld_eq (h12884.2 c (by rw [show kC c c = 1 from kC_at (k := 0) (by decide)]; decide))).trans yd12871) ?_
      refine m_if_eq F e_X10_readChange_36 (fun q => absurd q (by decide)) (fun _ => ?_)
      refine m_iconst F (v := 0) (by decide) e_X10_readChange_39 ?_
      refine m_goto F e_X10_readChange_40 ?_
      refine m_istore_n F (lv' := [(2, .int 0), (1, .int (nI (8 + P.n7))), (0, .ref c)]) e_X10_readChange_53 (by decide) rfl ?_
      refine m_aload_n F rfl e_X10_readChange_54 ?_
      refine m_iload_n F rfl e_X10_readChange_55 ?_
      refine m_bipush F (v := 99) (by decide) e_X10_readChange_56 ?_
      refine r_callV F e_X10_readChange_58 (q_X10_numeralG (x_l X) V c T 0 u h P L _ _ 0 99 2 h12885.1 (hob) hP (by omega) (by omega) ((fld_eq (h12884.2 c (by rw [show kC c c = 1 from kC_at (k := 0) (by decide)]; decide))).trans yd12871) (by decide)) cb_X10_numeral ml_X10_165 im_X10_numeral se_X10_numeral h12885 rfl rfl (rest := []) rfl (Nat.le_of_ble_eq_true rfl) ⟨Nat.le_of_ble_eq_true rfl, Nat.le_of_ble_eq_true rfl⟩ ⟨Nat.le_of_ble_eq_true rfl, Nat.le_of_ble_eq_true rfl⟩ (fun r σ12914 hp => ?_)
      obtain ⟨h12915, hp⟩ := hp
      have h12916 := HS.trans h12885 h12915 (by decide)
      have ga12917 := ga12886.of (h12915.2 (c + 1) (by rw [kC_at (k := 1) (by decide)]; decide))
      have ga12918 := ga12887.of (h12915.2 (c + 2) (by rw [kC_at (k := 2) (by decide)]; decide))
      have ga12919 := ga12888.of (h12915.2 (c + 3) (by rw [kC_at (k := 3) (by decide)]; decide))
      have ga12920 := ga12889.of (h12915.2 (c + 7) (by rw [kC_at (k := 7) (by decide)]; decide))
      have ga12921 := ga12890.of (h12915.2 (c + 8) (by rw [kC_at (k := 8) (by decide)]; decide))
      have ga12922 := ga12891.of (h12915.2 (c + 9) (by rw [kC_at (k := 9) (by decide)]; decide))
      have ga12923 := ga12892.of (h12915.2 (c + 11) (by rw [kC_at (k := 11) (by decide)]; decide))
      obtain ⟨rfl, rfl⟩ := hp
      refine m_istore_n F (lv' := [(3, .int (nI 0)), (2, .int 0), (1, .int (nI (8 + P.n7))), (0, .ref c)]) e_X10_readChange_61 (by decide) rfl ?_
      refine m_aload_n F rfl e_X10_readChange_62 ?_
      refine m_sipush F (v := 500) (by decide) e_X10_readChange_63 ?_
      refine m_sipush F (v := 2000) (by decide) e_X10_readChange_66 ?_
      refine r_callV F e_X10_readChange_69 (q_X10_numeralG (x_l X) V c T 0 u h P L _ _ 500 2000 2 h12916.1 (hob) hP (by omega) (by omega) ((fld_eq (h12884.2 c (by rw [show kC c c = 1 from kC_at (k := 0) (by decide)]; decide))).trans yd12871) (by decide)) cb_X10_numeral ml_X10_165 im_X10_numeral se_X10_numeral h12916 rfl rfl (rest := []) rfl (Nat.le_of_ble_eq_true rfl) ⟨Nat.le_of_ble_eq_true rfl, Nat.le_of_ble_eq_true rfl⟩ ⟨Nat.le_of_ble_eq_true rfl, Nat.le_of_ble_eq_true rfl⟩ (fun r σ12924 hp => ?_)
      obtain ⟨h12925, hp⟩ := hp
      have h12926 := HS.trans h12916 h12925 (by decide)
      have ga12927 := ga12886.of (h12925.2 (c + 1) (by rw [kC_at (k := 1) (by decide)]; decide))
      have ga12928 := ga12887.of (h12925.2 (c + 2) (by rw [kC_at (k := 2) (by decide)]; decide))
      have ga12929 := ga12888.of (h12925.2 (c + 3) (by rw [kC_at (k := 3) (by decide)]; decide))
      have ga12930 := ga12889.of (h12925.2 (c + 7) (by rw [kC_at (k := 7) (by decide)]; decide))
      have ga12931 := ga12890.of (h12925.2 (c + 8) (by rw [kC_at (k := 8) (by decide)]; decide))
      have ga12932 := ga12891.of (h12925.2 (c + 9) (by rw [kC_at (k := 9) (by decide)]; decide))
      have ga12933 := ga12892.of (h12925.2 (c + 11) (by rw [kC_at (k := 11) (by decide)]; decide))
      obtain ⟨rfl, rfl⟩ := hp
      refine m_istore F (lv' := [(4, .int (nI 500)), (3, .int (nI 0)), (2, .int 0), (1, .int (nI (8 + P.n7))), (0, .ref c)]) e_X10_readChange_72 (by decide) rfl ?_
      refine m_aload_n F rfl e_X10_readChange_74 ?_
      refine r_getC F e_X10_readChange_75 fl_X10_141 h12926 ((fld_eq (h12884.2 c (by rw [show kC c c = 1 from kC_at (k := 0) (by decide)]; decide))).trans yd12871) ?_
      refine m_if_eq F e_X10_readChange_78 (fun q => absurd q (by decide)) (fun _ => ?_)
      have h12934 : HS V c _ [0, 2, 4, 5, 6, 7, 8, 9, 10, 11, 14, 15, 16, 17, 18, 19, 20, 21, 22, 23] _ _ := ⟨HR.mono (Z' := Z) (by intro e; first | rfl | assumption | omega) h12926.1, h12926.2⟩
      exact m_vret F hQ e_X10_readChange_81 (⟨P, hP, (by unfold RP; omega), (by unfold indexS; dsimp only; rw [if_pos (by omega)]; exact RM.l ((fld_eq (h12884.2 c (by rw [show kC c c = 1 from kC_at (k := 0) (by decide)]; decide))).trans yd12871) ((fld_eq (h12884.2 c (by rw [show kC c c = 1 from kC_at (k := 0) (by decide)]; decide))).trans yd12872) (by decide) (by decide) (by omega)), h12934, rfl⟩)
set_option maxRecDepth 20000 in
theorem q_X10_readOptionE (l : Launch) (V : VX) (c T Z u h : Nat) (P : NP) (L : Nat → LQ) (N : Nat) (σ : Mem) (n st : Nat) (so va : Int32) (ln : Nat) (fp : Int32) (t : Nat → Nat) (s9 v9 : Nat) (nm : Nat → Nat) (np lc no sd : Nat) (md : Nat → Nat → Bool) (h0 : HR V c ⟨T, Z, u, h, P, L⟩ σ) (hob : OKB L) (hP : OKP P) (hp0 : YD σ c n st so va ln 0 fp) (hp1 : BR σ c n t) (hp2 : n ≤ 700) (hp3 : P.a ≤ n) (hp4 : MT so va s9 v9) (hp5 : st ≤ n) (hp6 : NR σ c np no sd) (hp7 : MR σ c P.n5 nm) (hp8 : KR σ c P.n5 md) (hp9 : FR σ c 8 1 P.n5 md) (hp10 : FR σ c 9 2 P.n5 md) (hp11 : QR σ c P.n7 lc) (hp12 : np ≤ 12) (hp13 : no ≤ 4) (hp14 : sd ≤ 1) : Ct l V yX10_readOption cX10_readOption 5 none 8 0 0 N σ [.ref c] (fun r τ => ∃ P9 : NP, OKP P9 ∧ RP P P9 ∧ RM τ c n P9 (optionS (tok t n) (st, s9, v9, P.a) P.n5 nm np P.n7 lc no sd md ln) ∧ HS V c (⟨T, Z, u, h, P9, L⟩ : RG) [0, 2, 4, 5, 6, 7, 8, 9, 10, 11, 12, 13, 17, 18, 19, 20, 21, 22, 23] σ τ ∧ r = none) := by
  refine Ct.of (by decide) (Nat.le_of_ble_eq_true rfl) [(0, .ref c)] rfl (fun X hX F hQ => ?_)
  have hPP := hP
  unfold OKP at hPP
  have h1 : HS V c ⟨T, Z, u, h, P, L⟩ [0, 2, 4, 5, 6, 7, 8, 9, 10, 11, 12, 13, 17, 18, 19, 20, 21, 22, 23] σ σ := HS.start h0
  have hyd12935 := hp0
  obtain ⟨yd12935, yd12936, yd12937, yd12938, yd12939, yd12940, yd12941⟩ := hyd12935
  have hn7 := hp2
  refine m_iconst F (v := 4) (by decide) e_X10_readOption_0 ?_
  refine m_aload_n F rfl e_X10_readOption_1 ?_
  refine m_iconst F (v := 3) (by decide) e_X10_readOption_2 ?_
  refine r_callV F e_X10_readOption_3 (q_X10_reading3E (x_l X) V c T Z u h P L _ _  np no sd h1.1 (hob) hP  hp6) cb_X10_reading ml_X10_157 im_X10_reading se_X10_reading h1 rfl rfl (rest := [.int 4]) rfl (Nat.le_of_ble_eq_true rfl) ⟨Nat.le_of_ble_eq_true rfl, Nat.le_of_ble_eq_true rfl⟩ ⟨Nat.le_of_ble_eq_true rfl, Nat.le_of_ble_eq_true rfl⟩ (fun r σ12942 hp => ?_)
  obtain ⟨h12943, hp⟩ := hp
  have h12944 := HS.trans h1 h12943 (by decide)
  have ga12945 := hp1.of (h12943.2 (c + 1) (by rw [kC_at (k := 1) (by decide)]; decide))
  have ga12946 := hp6.of (h12943.2 (c + 2) (by rw [kC_at (k := 2) (by decide)]; decide))
  have ga12947 := hp7.of (h12943.2 (c + 3) (by rw [kC_at (k := 3) (by decide)]; decide))
  have ga12948 := hp8.of (h12943.2 (c + 7) (by rw [kC_at (k := 7) (by decide)]; decide))
  have ga12949 := hp9.of (h12943.2 (c + 8) (by rw [kC_at (k := 8) (by decide)]; decide))
  have ga12950 := hp10.of (h12943.2 (c + 9) (by rw [kC_at (k := 9) (by decide)]; decide))
  have ga12951 := hp11.of (h12943.2 (c + 11) (by rw [kC_at (k := 11) (by decide)]; decide))
  obtain rfl := hp
  refine m_iadd F e_X10_readOption_6 ?_
  refine Wm.topE (w := nI (4 + no)) (nI_add 4 no) ?_
  refine m_istore_n F (lv' := [(1, .int (nI (4 + no))), (0, .ref c)]) e_X10_readOption_7 (by decide) rfl ?_
  refine m_iload_n F rfl e_X10_readOption_8 ?_
  refine m_bipush F (v := 8) (by decide) e_X10_readOption_9 ?_
  refine m_icmp_ne F e_X10_readOption_11 (fun q11 => ?_) (fun q11 => ?_)
  · have c11 : (4 + no) ≠ 8 := by have hh := mt (nI_eq (a := (4 + no)) (b := 8) (by omega) (by omega)).mpr q11; omega
    refine m_aload_n F rfl e_X10_readOption_19 ?_
    refine r_callV F e_X10_readOption_20 (q_X10_atHandE (x_l X) V c T Z u h P L _ _  n st so va ln fp t nm h12944.1 (hob) hP  ⟨((fld_eq (h12943.2 c (by rw [show kC c c = 1 from kC_at (k := 0) (by decide)]; decide))).trans yd12935), ((fld_eq (h12943.2 c (by rw [show kC c c = 1 from kC_at (k := 0) (by decide)]; decide))).trans yd12936), ((fld_eq (h12943.2 c (by rw [show kC c c = 1 from kC_at (k := 0) (by decide)]; decide))).trans yd12937), ((fld_eq (h12943.2 c (by rw [show kC c c = 1 from kC_at (k := 0) (by decide)]; decide))).trans yd12938), ((fld_eq (h12943.2 c (by rw [show kC c c = 1 from kC_at (k := 0) (by decide)]; decide))).trans yd12939), ((fld_eq (h12943.2 c (by rw [show kC c c = 1 from kC_at (k := 0) (by decide)]; decide))).trans yd12940), ((fld_eq (h12943.2 c (by rw [show kC c c = 1 from kC_at (k := 0) (by decide)]; decide))).trans yd12941)⟩ ga12945 hn7 (by omega) ga12947) cb_X10_atHand ml_X10_174 im_X10_atHand se_X10_atHand h12944 rfl rfl (rest := []) rfl (Nat.le_of_ble_eq_true rfl) ⟨Nat.le_of_ble_eq_true rfl, Nat.le_of_ble_eq_true rfl⟩ ⟨Nat.le_of_ble_eq_true rfl, Nat.le_of_ble_eq_true rfl⟩ (fun r σ12952 hp => ?_)
    obtain ⟨P12955, oP12955, rP12955, pr12956, h12953, hp⟩ := hp
    have h12954 := HS.trans h12944 h12953 (by decide)
    have xP12955 := oP12955
    unfold OKP at xP12955
    unfold RA at rP12955
    have ga12957 := ga12945.of (h12953.2 (c + 1) (by rw [kC_at (k := 1) (by decide)]; decide))
    have ga12958 := ga12946.of (h12953.2 (c + 2) (by rw [kC_at (k := 2) (by decide)]; decide))
    have ga12959 := ga12947.of (h12953.2 (c + 3) (by rw [kC_at (k := 3) (by decide)]; decide))
    have ga12960 := ga12948.of (h12953.2 (c + 7) (by rw [kC_at (k := 7) (by decide)]; decide))
    have ga12961 := ga12949.of (h12953.2 (c + 8) (by rw [kC_at (k := 8) (by decide)]; decide))
    have ga12962 := ga12950.of (h12953.2 (c + 9) (by rw [kC_at (k := 9) (by decide)]; decide))
    have ga12963 := ga12951.of (h12953.2 (c + 11) (by rw [kC_at (k := 11) (by decide)]; decide))
    have bk12973 := tok_ok (t := t) (n := n) P.a (by omega)
    generalize ek12973 : tok t n P.a = k12973 at pr12956 bk12973
    rcases pr12956 with ⟨e12964, e12965, ea12966, ⟨so12967, va12968, mt12969, yd12970⟩, rfl⟩ | ⟨e12964, ⟨fa12971, fb12972⟩, rfl⟩ | ⟨e12964, e12965, ⟨fa12971, fb12972⟩, rfl⟩
    · have hyd12974 := yd12970
      obtain ⟨yd12974, yd12975, yd12976, yd12977, yd12978, yd12979, yd12980⟩ := hyd12974
      refine m_istore_n F (lv' := [(2, .int (nI (4 + fx nm k12973.2.2.1 P.n5))), (1, .int (nI (4 + no))), (0, .ref c)]) e_X10_readOption_23 (by decide) rfl ?_
      refine m_aload_n F rfl e_X10_readOption_24 ?_
      refine r_callV F e_X10_readOption_25 (q_X10_goOnE (x_l X) V c T Z u h P12955 L _ _  n k12973.1 so12967 va12968 ln fp t h12954.1 (hob) oP12955  ⟨(yd12974), (yd12975), (yd12976), (yd12977), (yd12978), (yd12979), (yd12980)⟩ ga12957 hn7 (by omega)) cb_X10_goOn ml_X10_154 im_X10_goOn se_X10_goOn h12954 rfl rfl (rest := []) rfl (Nat.le_of_ble_eq_true rfl) ⟨Nat.le_of_ble_eq_true rfl, Nat.le_of_ble_eq_true rfl⟩ ⟨Nat.le_of_ble_eq_true rfl, Nat.le_of_ble_eq_true rfl⟩ (fun r σ12981 hp => ?_)
      obtain ⟨P12984, oP12984, rP12984, pr12985, pr12986, h12982, hp⟩ := hp
      have h12983 := HS.trans h12954 h12982 (by decide)
      have xP12984 := oP12984
      unfold OKP at xP12984
      unfold RA at rP12984
      have ga12987 := ga12957.of (h12982.2 (c + 1) (by rw [kC_at (k := 1) (by decide)]; decide))
      have ga12988 := ga12958.of (h12982.2 (c + 2) (by rw [kC_at (k := 2) (by decide)]; decide))
      have ga12989 := ga12959.of (h12982.2 (c + 3) (by rw [kC_at (k := 3) (by decide)]; decide))
      have ga12990 := ga12960.of (h12982.2 (c + 7) (by rw [kC_at (k := 7) (by decide)]; decide))
      have ga12991 := ga12961.of (h12982.2 (c + 8) (by rw [kC_at (k := 8) (by decide)]; decide))
      have ga12992 := ga12962.of (h12982.2 (c + 9) (by rw [kC_at (k := 9) (by decide)]; decide))
      have ga12993 := ga12963.of (h12982.2 (c + 11) (by rw [kC_at (k := 11) (by decide)]; decide))
      obtain rfl := hp
      obtain ⟨so12994, va12995, mt12996, yd12997⟩ := pr12986
      generalize ek12998 : tok t n P12955.a = k12998 at pr12985 mt12996 yd12997
      have bk12998 := tok_ok (t := t) (n := n) P12955.a (by omega)
      rw [ek12998] at bk12998
      rw [show P12955.a = k12973.2.2.2 by omega] at ek12998
      have hyd12999 := yd12997
      obtain ⟨yd12999, yd13000, yd13001, yd13002, yd13003, yd13004, yd13005⟩ := hyd12999
      refine m_aload_n F rfl e_X10_readOption_28 ?_
      refine m_iconst F (v := 1) (by decide) e_X10_readOption_29 ?_
      refine m_bipush F (v := 24) (by decide) e_X10_readOption_30 ?_
      refine r_callV F e_X10_readOption_32 (q_X10_numeralE (x_l X) V c T Z u h P12984 L _ _ 1 24 n k12998.1 so12994 va12995 ln fp t k12998.2.1 k12998.2.2.1 h12983.1 (hob) oP12984 (by omega) (by omega) ⟨(yd12999), (yd13000), (yd13001), (yd13002), (yd13003), (yd13004), (yd13005)⟩ ga12987 hn7 (by omega) mt12996) cb_X10_numeral ml_X10_165 im_X10_numeral se_X10_numeral h12983 rfl rfl (rest := []) rfl (Nat.le_of_ble_eq_true rfl) ⟨Nat.le_of_ble_eq_true rfl, Nat.le_of_ble_eq_true rfl⟩ ⟨Nat.le_of_ble_eq_true rfl, Nat.le_of_ble_eq_true rfl⟩ (fun r σ13006 hp => ?_)
      obtain ⟨P13009, oP13009, rP13009, pr13010, h13007, hp⟩ := hp
      have h13008 := HS.trans h12983 h13007 (by decide)
      have xP13009 := oP13009
      unfold OKP at xP13009
      unfold RA at rP13009
      have ga13011 := ga12987.of (h13007.2 (c + 1) (by rw [kC_at (k := 1) (by decide)]; decide))
      have ga13012 := ga12988.of (h13007.2 (c + 2) (by rw [kC_at (k := 2) (by decide)]; decide))
      have ga13013 := ga12989.of (h13007.2 (c + 3) (by rw [kC_at (k := 3) (by decide)]; decide))
      have ga13014 := ga12990.of (h13007.2 (c + 7) (by rw [kC_at (k := 7) (by decide)]; decide))
      have ga13015 := ga12991.of (h13007.2 (c + 8) (by rw [kC_at (k := 8) (by decide)]; decide))
      have ga13016 := ga12992.of (h13007.2 (c + 9) (by rw [kC_at (k := 9) (by decide)]; decide))
      have ga13017 := ga12993.of (h13007.2 (c + 11) (by rw [kC_at (k := 11) (by decide)]; decide))
      rcases pr13010 with ⟨e13018, l13020, l13021, ea13022, ⟨so13023, va13024, mt13025, yd13026⟩, rfl⟩ | ⟨e13018, ⟨fa13027, fb13028⟩, rfl⟩ | ⟨e13018, e13019, ⟨fa13027, fb13028⟩, rfl⟩
      · have bk13029 := tok_ok (t := t) (n := n) P12984.a (by omega)
        generalize ek13029 : tok t n P12984.a = k13029 at ea13022 mt13025 yd13026 bk13029
        rw [show P12984.a = k12998.2.2.2 by omega] at ek13029
        have hyd13030 := yd13026
        obtain ⟨yd13030, yd13031, yd13032, yd13033, yd13034, yd13035, yd13036⟩ := hyd13030
        refine m_istore_n F (lv' := [(3, .int (nI k12998.2.2.1)), (2, .int (nI (4 + fx nm k12973.2.2.1 P.n5))), (1, .int (nI (4 + no))), (0, .ref c)]) e_X10_readOption_35 (by decide) rfl ?_
        refine m_aload_n F rfl e_X10_readOption_36 ?_
        refine m_iconst F (v := 0) (by decide) e_X10_readOption_37 ?_
        refine m_ldc F kc_X10_177 e_X10_readOption_38 ?_
        refine r_callV F e_X10_readOption_40 (q_X10_numeralE (x_l X) V c T Z u h P13009 L _ _ 0 99999 n k13029.1 so13023 va13024 ln fp t k13029.2.1 k13029.2.2.1 h13008.1 (hob) oP13009 (by omega) (by omega) ⟨(yd13030), (yd13031), (yd13032), (yd13033), (yd13034), (yd13035), (yd13036)⟩ ga13011 hn7 (by omega) mt13025) cb_X10_numeral ml_X10_165 im_X10_numeral se_X10_numeral h13008 rfl rfl (rest := []) rfl (Nat.le_of_ble_eq_true rfl) ⟨Nat.le_of_ble_eq_true rfl, Nat.le_of_ble_eq_true rfl⟩ ⟨Nat.le_of_ble_eq_true rfl, Nat.le_of_ble_eq_true rfl⟩ (fun r σ13037 hp => ?_)
        obtain ⟨P13040, oP13040, rP13040, pr13041, h13038, hp⟩ := hp
        have h13039 := HS.trans h13008 h13038 (by decide)
        have xP13040 := oP13040
        unfold OKP at xP13040
        unfold RA at rP13040
        have ga13042 := ga13011.of (h13038.2 (c + 1) (by rw [kC_at (k := 1) (by decide)]; decide))
        have ga13043 := ga13012.of (h13038.2 (c + 2) (by rw [kC_at (k := 2) (by decide)]; decide))
        have ga13044 := ga13013.of (h13038.2 (c + 3) (by rw [kC_at (k := 3) (by decide)]; decide))
        have ga13045 := ga13014.of (h13038.2 (c + 7) (by rw [kC_at (k := 7) (by decide)]; decide))
        have ga13046 := ga13015.of (h13038.2 (c + 8) (by rw [kC_at (k := 8) (by decide)]; decide))
        have ga13047 := ga13016.of (h13038.2 (c + 9) (by rw [kC_at (k := 9) (by decide)]; decide))
        have ga13048 := ga13017.of (h13038.2 (c + 11) (by rw [kC_at (k := 11) (by decide)]; decide))
        rcases pr13041 with ⟨e13049, l13051, l13052, ea13053, ⟨so13054, va13055, mt13056, yd13057⟩, rfl⟩ | ⟨e13049, ⟨fa13058, fb13059⟩, rfl⟩ | ⟨e13049, e13050, ⟨fa13058, fb13059⟩, rfl⟩
        · have bk13060 := tok_ok (t := t) (n := n) P13009.a (by omega)
          generalize ek13060 : tok t n P13009.a = k13060 at ea13053 mt13056 yd13057 bk13060
          rw [show P13009.a = k13029.2.2.2 by omega] at ek13060
          have hyd13061 := yd13057
          obtain ⟨yd13061, yd13062, yd13063, yd13064, yd13065, yd13066, yd13067⟩ := hyd13061
          refine m_istore F (lv' := [(4, .int (nI k13029.2.2.1)), (3, .int (nI k12998.2.2.1)), (2, .int (nI (4 + fx nm k12973.2.2.1 P.n5))), (1, .int (nI (4 + no))), (0, .ref c)]) e_X10_readOption_43 (by decide) rfl ?_
          refine m_aload_n F rfl e_X10_readOption_45 ?_
          refine r_getC F e_X10_readOption_46 fl_X10_141 h13039 (yd13066) ?_
          refine m_if_eq F e_X10_readOption_49 (fun _ => ?_) (fun q => absurd (by decide) q)
          refine m_aload_n F rfl e_X10_readOption_53 ?_
          refine r_get F e_X10_readOption_54 fl_X10_46 h13039 rfl (fun v hv f13068 => ?_)
          obtain rfl : v = .ref (c + 13) := hv
          refine m_iload_n F rfl e_X10_readOption_57 ?_
          refine m_iload_n F rfl e_X10_readOption_58 ?_
          refine m_iconst F (v := 4) (by decide) e_X10_readOption_59 ?_
          refine m_isub F e_X10_readOption_60 ?_
          refine Wm.topE (w := nI ((4 + fx nm k12973.2.2.1 P.n5) - 4)) (pk_sub (a := 4 + fx nm k12973.2.2.1 P.n5) (b := 4) (by omega)) ?_
          refine r_iast F (g' := (⟨T, Z, u, h, P13040, L⟩ : RG)) (len := 8) (j := 4 + no) e_X10_readOption_61 h13039 (fun _ h => h) (fun f h => ⟨f, rfl, h⟩) (by decide) (by decide) (nI_clamp (by omega)) (vp_in_nI (by omega) (by decide)) ⟨(4 + fx nm k12973.2.2.1 P.n5) - 4, by omega, rfl⟩ (fun _ _ _ h => h) (fun _ _ _ h => h) (fun σ13069 h13070 g13071 f13072 g13073 => ?_)
          have ga13074 := ga13042.of (g13071 _ (by omega))
          have ga13075 := ga13043.of (g13071 _ (by omega))
          have ga13076 := ga13044.of (g13071 _ (by omega))
          have ga13077 := ga13045.of (g13071 _ (by omega))
          have ga13078 := ga13046.of (g13071 _ (by omega))
          have ga13079 := ga13047.of (g13071 _ (by omega))
          have ga13080 := ga13048.of (g13071 _ (by omega))
          refine m_aload_n F rfl e_X10_readOption_62 ?_
          refine r_get F e_X10_readOption_63 fl_X10_49 h13070 rfl (fun v hv f13081 => ?_)
          obtain rfl : v = .ref (c + 14) := hv
          refine m_iload_n F rfl e_X10_readOption_66 ?_
          refine m_iload_n F rfl e_X10_readOption_67 ?_
          refine r_iast F (g' := (⟨T, Z, u, h, P13040, L⟩ : RG)) (len := 8) (j := 4 + no) e_X10_readOption_68 h13070 (fun _ h => h) (fun f h => ⟨f, rfl, h⟩) (by decide) (by decide) (nI_clamp (by omega)) (vp_in_nI (by omega) (by decide)) ⟨k12998.2.2.1, by omega, rfl⟩ (fun _ _ _ h => h) (fun _ _ _ h => h) (fun σ13082 h13083 g13084 f13085 g13086 => ?_)
          have ga13087 := ga13074.of (g13084 _ (by omega))
          have ga13088 := ga13075.of (g13084 _ (by omega))
          have ga13089 := ga13076.of (g13084 _ (by omega))
          have ga13090 := ga13077.of (g13084 _ (by omega))
          have ga13091 := ga13078.of (g13084 _ (by omega))
          have ga13092 := ga13079.of (g13084 _ (by omega))
          have ga13093 := ga13080.of (g13084 _ (by omega))
          refine m_aload_n F rfl e_X10_readOption_69 ?_
          refine r_get F e_X10_readOption_70 fl_X10_52 h13083 rfl (fun v hv f13094 => ?_)
          obtain rfl : v = .ref (c + 15) := hv
          refine m_iload_n F rfl e_X10_readOption_73 ?_
          refine m_iload F rfl e_X10_readOption_74 ?_
          refine r_iast F (g' := (⟨T, Z, u, h, P13040, L⟩ : RG)) (len := 8) (j := 4 + no) e_X10_readOption_76 h13083 (fun _ h => h) (fun f h => ⟨f, rfl, h⟩) (by decide) (by decide) (nI_clamp (by omega)) (vp_in_nI (by omega) (by decide)) trivial (fun _ _ _ h => h) (fun _ _ _ h => h) (fun σ13095 h13096 g13097 f13098 g13099 => ?_)
          have ga13100 := ga13087.of (g13097 _ (by omega))
          have ga13101 := ga13088.of (g13097 _ (by omega))
          have ga13102 := ga13089.of (g13097 _ (by omega))
          have ga13103 := ga13090.of (g13097 _ (by omega))
          have ga13104 := ga13091.of (g13097 _ (by omega))
          have ga13105 := ga13092.of (g13097 _ (by omega))
          have ga13106 := ga13093.of (g13097 _ (by omega))
          refine m_aload_n F rfl e_X10_readOption_77 ?_
          refine m_iconst F (v := 3) (by decide) e_X10_readOption_78 ?_
          refine m_aload_n F rfl e_X10_readOption_79 ?_
          refine m_iconst F (v := 3) (by decide) e_X10_readOption_80 ?_
          refine r_callV F e_X10_readOption_81 (q_X10_reading3E (x_l X) V c T Z u h P13040 L _ _  np no sd h13096.1 (hob) oP13040  ga13101) cb_X10_reading ml_X10_157 im_X10_reading se_X10_reading h13096 rfl rfl (rest := [.int 3, .ref c]) rfl (Nat.le_of_ble_eq_true rfl) ⟨Nat.le_of_ble_eq_true rfl, Nat.le_of_ble_eq_true rfl⟩ ⟨Nat.le_of_ble_eq_true rfl, Nat.le_of_ble_eq_true rfl⟩ (fun r σ13107 hp => ?_)
          obtain ⟨h13108, hp⟩ := hp
          have h13109 := HS.trans h13096 h13108 (by decide)
          have ga13110 := ga13100.of (h13108.2 (c + 1) (by rw [kC_at (k := 1) (by decide)]; decide))
          have ga13111 := ga13101.of (h13108.2 (c + 2) (by rw [kC_at (k := 2) (by decide)]; decide))
          have ga13112 := ga13102.of (h13108.2 (c + 3) (by rw [kC_at (k := 3) (by decide)]; decide))
          have ga13113 := ga13103.of (h13108.2 (c + 7) (by rw [kC_at (k := 7) (by decide)]; decide))
          have ga13114 := ga13104.of (h13108.2 (c + 8) (by rw [kC_at (k := 8) (by decide)]; decide))
          have ga13115 := ga13105.of (h13108.2 (c + 9) (by rw [kC_at (k := 9) (by decide)]; decide))
          have ga13116 := ga13106.of (h13108.2 (c + 11) (by rw [kC_at (k := 11) (by decide)]; decide))
          obtain rfl := hp
          refine m_iconst F (v := 1) (by decide) e_X10_readOption_84 ?_
          refine m_iadd F e_X10_readOption_85 ?_
          refine Wm.topE (w := nI (no + 1)) (nI_add no 1) ?_
          refine r_callV F e_X10_readOption_86 (q_X10_reads3E (x_l X) V c T Z u h P13040 L _ _ (no + 1)  h13109.1 (hob) oP13040 (by omega) ) cb_X10_reads ml_X10_170 im_X10_reads se_X10_reads h13109 rfl rfl (rest := []) rfl (Nat.le_of_ble_eq_true rfl) ⟨Nat.le_of_ble_eq_true rfl, Nat.le_of_ble_eq_true rfl⟩ ⟨Nat.le_of_ble_eq_true rfl, Nat.le_of_ble_eq_true rfl⟩ (fun r σ13117 hp => ?_)
          obtain ⟨h13118, hp⟩ := hp
          have h13119 := HS.trans h13109 h13118 (by decide)
          have ga13120 := ga13110.of (h13118.2 (c + 1) (by rw [kC_at (k := 1) (by decide)]; decide))
          have ga13121 := ga13112.of (h13118.2 (c + 3) (by rw [kC_at (k := 3) (by decide)]; decide))
          have ga13122 := ga13113.of (h13118.2 (c + 7) (by rw [kC_at (k := 7) (by decide)]; decide))
          have ga13123 := ga13114.of (h13118.2 (c + 8) (by rw [kC_at (k := 8) (by decide)]; decide))
          have ga13124 := ga13115.of (h13118.2 (c + 9) (by rw [kC_at (k := 9) (by decide)]; decide))
          have ga13125 := ga13116.of (h13118.2 (c + 11) (by rw [kC_at (k := 11) (by decide)]; decide))
          obtain ⟨ea13126, eb13127, rfl⟩ := hp
          have ga13128 := NR.o ga13111 ea13126 eb13127
          exact m_vret F hQ e_X10_readOption_89 (⟨P13040, oP13040, (by unfold RP; omega), (by unfold optionS; dsimp only; rw [if_neg (by omega), ek12973, tolK_ok e12964 e12965, ek12998, numK_ok e13018 l13020 l13021, ek13029, numK_ok e13049 l13051 l13052, ek13060]; exact RM.r mt13056 ⟨((fld_eq (h13118.2 c (by rw [show kC c c = 1 from kC_at (k := 0) (by decide)]; decide))).trans ((fld_eq (h13108.2 c (by rw [show kC c c = 1 from kC_at (k := 0) (by decide)]; decide))).trans ((fld_eq (g13097 _ (by omega))).trans ((fld_eq (g13084 _ (by omega))).trans ((fld_eq (g13071 _ (by omega))).trans yd13061))))), ((fld_eq (h13118.2 c (by rw [show kC c c = 1 from kC_at (k := 0) (by decide)]; decide))).trans ((fld_eq (h13108.2 c (by rw [show kC c c = 1 from kC_at (k := 0) (by decide)]; decide))).trans ((fld_eq (g13097 _ (by omega))).trans ((fld_eq (g13084 _ (by omega))).trans ((fld_eq (g13071 _ (by omega))).trans yd13062))))), ((fld_eq (h13118.2 c (by rw [show kC c c = 1 from kC_at (k := 0) (by decide)]; decide))).trans ((fld_eq (h13108.2 c (by rw [show kC c c = 1 from kC_at (k := 0) (by decide)]; decide))).trans ((fld_eq (g13097 _ (by omega))).trans ((fld_eq (g13084 _ (by omega))).trans ((fld_eq (g13071 _ (by omega))).trans yd13063))))), ((fld_eq (h13118.2 c (by rw [show kC c c = 1 from kC_at (k := 0) (by decide)]; decide))).trans ((fld_eq (h13108.2 c (by rw [show kC c c = 1 from kC_at (k := 0) (by decide)]; decide))).trans ((fld_eq (g13097 _ (by omega))).trans ((fld_eq (g13084 _ (by omega))).trans ((fld_eq (g13071 _ (by omega))).trans yd13064))))), ((fld_eq (h13118.2 c (by rw [show kC c c = 1 from kC_at (k := 0) (by decide)]; decide))).trans ((fld_eq (h13108.2 c (by rw [show kC c c = 1 from kC_at (k := 0) (by decide)]; decide))).trans ((fld_eq (g13097 _ (by omega))).trans ((fld_eq (g13084 _ (by omega))).trans ((fld_eq (g13071 _ (by omega))).trans yd13065))))), ((fld_eq (h13118.2 c (by rw [show kC c c = 1 from kC_at (k := 0) (by decide)]; decide))).trans ((fld_eq (h13108.2 c (by rw [show kC c c = 1 from kC_at (k := 0) (by decide)]; decide))).trans ((fld_eq (g13097 _ (by omega))).trans ((fld_eq (g13084 _ (by omega))).trans ((fld_eq (g13071 _ (by omega))).trans yd13066))))), ((fld_eq (h13118.2 c (by rw [show kC c c = 1 from kC_at (k := 0) (by decide)]; decide))).trans ((fld_eq (h13108.2 c (by rw [show kC c c = 1 from kC_at (k := 0) (by decide)]; decide))).trans ((fld_eq (g13097 _ (by omega))).trans ((fld_eq (g13084 _ (by omega))).trans ((fld_eq (g13071 _ (by omega))).trans yd13067)))))⟩ (by omega) (by omega) (by omega) ga13128 ga13121 ga13122 ga13123 ga13124 ga13125 (by omega) (by omega) (by omega) (by omega) (by omega)), h13119, rfl⟩)
        · have hz9 : True := trivial
          refine m_istore F (lv' := [(4, .int (nI 0)), (3, .int (nI k12998.2.2.1)), (2, .int (nI (4 + fx nm k12973.2.2.1 P.n5))), (1, .int (nI (4 + no))), (0, .ref c)]) e_X10_readOption_43 (by decide) rfl ?_
          refine m_aload_n F rfl e_X10_readOption_45 ?_
          refine r_getC F e_X10_readOption_46 fl_X10_141 h13039 (fa13058) ?_
          refine m_if_eq F e_X10_readOption_49 (fun q => absurd q (by decide)) (fun _ => ?_)
          exact m_vret F hQ e_X10_readOption_52 (⟨P13040, oP13040, (by unfold RP; omega), (by unfold optionS; dsimp only; rw [if_neg (by omega), ek12973, tolK_ok e12964 e12965, ek12998, numK_ok e13018 l13020 l13021, ek13029, numK_1 e13049]; exact RM.l (fa13058) (fb13059) (by decide) (by decide) (by omega)), h13039, rfl⟩)
        · have hz9 : True := trivial
          refine m_istore F (lv' := [(4, .int (nI 0)), (3, .int (nI k12998.2.2.1)), (2, .int (nI (4 + fx nm k12973.2.2.1 P.n5))), (1, .int (nI (4 + no))), (0, .ref c)]) e_X10_readOption_43 (by decide) rfl ?_
          refine m_aload_n F rfl e_X10_readOption_45 ?_
          refine r_getC F e_X10_readOption_46 fl_X10_141 h13039 (fa13058) ?_
          refine m_if_eq F e_X10_readOption_49 (fun q => absurd q (by decide)) (fun _ => ?_)
          exact m_vret F hQ e_X10_readOption_52 (⟨P13040, oP13040, (by unfold RP; omega), (by unfold optionS; dsimp only; rw [if_neg (by omega), ek12973, tolK_ok e12964 e12965, ek12998, numK_ok e13018 l13020 l13021, ek13029, numK_2 e13049 e13050]; exact RM.l (fa13058) (fb13059) (by decide) (by decide) (by omega)), h13039, rfl⟩)
      · have hz9 : True := trivial
        refine m_istore_n F (lv' := [(3, .int (nI 1)), (2, .int (nI (4 + fx nm k12973.2.2.1 P.n5))), (1, .int (nI (4 + no))), (0, .ref c)]) e_X10_readOption_35 (by decide) rfl ?_
        refine m_aload_n F rfl e_X10_readOption_36 ?_
        refine m_iconst F (v := 0) (by decide) e_X10_readOption_37 ?_
        refine m_ldc F kc_X10_177 e_X10_readOption_38 ?_
        refine r_callV F e_X10_readOption_40 (q_X10_numeralG (x_l X) V c T Z u h P13009 L _ _ 0 99999 1 h13008.1 (hob) oP13009 (by omega) (by omega) (fa13027) (by decide)) cb_X10_numeral ml_X10_165 im_X10_numeral se_X10_numeral h13008 rfl rfl (rest := []) rfl (Nat.le_of_ble_eq_true rfl) ⟨Nat.le_of_ble_eq_true rfl, Nat.le_of_ble_eq_true rfl⟩ ⟨Nat.le_of_ble_eq_true rfl, Nat.le_of_ble_eq_true rfl⟩ (fun r σ13129 hp => ?_)
        obtain ⟨h13130, hp⟩ := hp
        have h13131 := HS.trans h13008 h13130 (by decide)
        obtain ⟨rfl, rfl⟩ := hp
        refine m_istore F (lv' := [(4, .int (nI 0)), (3, .int (nI 1)), (2, .int (nI (4 + fx nm k12973.2.2.1 P.n5))), (1, .int (nI (4 + no))), (0, .ref c)]) e_X10_readOption_43 (by decide) rfl ?_
        refine m_aload_n F rfl e_X10_readOption_45 ?_
        refine r_getC F e_X10_readOption_46 fl_X10_141 h13131 (fa13027) ?_
        refine m_if_eq F e_X10_readOption_49 (fun q => absurd q (by decide)) (fun _ => ?_)
        exact m_vret F hQ e_X10_readOption_52 (⟨P13009, oP13009, (by unfold RP; omega), (by unfold optionS; dsimp only; rw [if_neg (by omega), ek12973, tolK_ok e12964 e12965, ek12998, numK_1 e13018]; exact RM.l (fa13027) (fb13028) (by decide) (by decide) (by omega)), h13131, rfl⟩)
      · have hz9 : True := trivial
        refine m_istore_n F (lv' := [(3, .int (nI 1)), (2, .int (nI (4 + fx nm k12973.2.2.1 P.n5))), (1, .int (nI (4 + no))), (0, .ref c)]) e_X10_readOption_35 (by decide) rfl ?_
        refine m_aload_n F rfl e_X10_readOption_36 ?_
        refine m_iconst F (v := 0) (by decide) e_X10_readOption_37 ?_
        refine m_ldc F kc_X10_177 e_X10_readOption_38 ?_
        refine r_callV F e_X10_readOption_40 (q_X10_numeralG (x_l X) V c T Z u h P13009 L _ _ 0 99999 2 h13008.1 (hob) oP13009 (by omega) (by omega) (fa13027) (by decide)) cb_X10_numeral ml_X10_165 im_X10_numeral se_X10_numeral h13008 rfl rfl (rest := []) rfl (Nat.le_of_ble_eq_true rfl) ⟨Nat.le_of_ble_eq_true rfl, Nat.le_of_ble_eq_true rfl⟩ ⟨Nat.le_of_ble_eq_true rfl, Nat.le_of_ble_eq_true rfl⟩ (fun r σ13132 hp => ?_)
        obtain ⟨h13133, hp⟩ := hp
        have h13134 := HS.trans h13008 h13133 (by decide)
        obtain ⟨rfl, rfl⟩ := hp
        refine m_istore F (lv' := [(4, .int (nI 0)), (3, .int (nI 1)), (2, .int (nI (4 + fx nm k12973.2.2.1 P.n5))), (1, .int (nI (4 + no))), (0, .ref c)]) e_X10_readOption_43 (by decide) rfl ?_
        refine m_aload_n F rfl e_X10_readOption_45 ?_
        refine r_getC F e_X10_readOption_46 fl_X10_141 h13134 (fa13027) ?_
        refine m_if_eq F e_X10_readOption_49 (fun q => absurd q (by decide)) (fun _ => ?_)
        exact m_vret F hQ e_X10_readOption_52 (⟨P13009, oP13009, (by unfold RP; omega), (by unfold optionS; dsimp only; rw [if_neg (by omega), ek12973, tolK_ok e12964 e12965, ek12998, numK_2 e13018 e13019]; exact RM.l (fa13027) (fb13028) (by decide) (by decide) (by omega)), h13134, rfl⟩)
    · have hz9 : True := trivial
      refine m_istore_n F (lv' := [(2, .int (nI 4)), (1, .int (nI (4 + no))), (0, .ref c)]) e_X10_readOption_23 (by decide) rfl ?_
      refine m_aload_n F rfl e_X10_readOption_24 ?_
      refine r_callV F e_X10_readOption_25 (q_X10_goOnG (x_l X) V c T Z u h P12955 L _ _  1 h12954.1 (hob) oP12955  (fa12971) (by decide)) cb_X10_goOn ml_X10_154 im_X10_goOn se_X10_goOn h12954 rfl rfl (rest := []) rfl (Nat.le_of_ble_eq_true rfl) ⟨Nat.le_of_ble_eq_true rfl, Nat.le_of_ble_eq_true rfl⟩ ⟨Nat.le_of_ble_eq_true rfl, Nat.le_of_ble_eq_true rfl⟩ (fun r σ13135 hp => ?_)
      obtain ⟨h13136, hp⟩ := hp
      have h13137 := HS.trans h12954 h13136 (by decide)
      obtain ⟨rfl, rfl⟩ := hp
      refine m_aload_n F rfl e_X10_readOption_28 ?_
      refine m_iconst F (v := 1) (by decide) e_X10_readOption_29 ?_
      refine m_bipush F (v := 24) (by decide) e_X10_readOption_30 ?_
      refine r_callV F e_X10_readOption_32 (q_X10_numeralG (x_l X) V c T Z u h P12955 L _ _ 1 24 1 h13137.1 (hob) oP12955 (by omega) (by omega) (fa12971) (by decide)) cb_X10_numeral ml_X10_165 im_X10_numeral se_X10_numeral h13137 rfl rfl (rest := []) rfl (Nat.le_of_ble_eq_true rfl) ⟨Nat.le_of_ble_eq_true rfl, Nat.le_of_ble_eq_true rfl⟩ ⟨Nat.le_of_ble_eq_true rfl, Nat.le_of_ble_eq_true rfl⟩ (fun r σ13138 hp => ?_)
      obtain ⟨h13139, hp⟩ := hp
      have h13140 := HS.trans h13137 h13139 (by decide)
      obtain ⟨rfl, rfl⟩ := hp
      refine m_istore_n F (lv' := [(3, .int (nI 1)), (2, .int (nI 4)), (1, .int (nI (4 + no))), (0, .ref c)]) e_X10_readOption_35 (by decide) rfl ?_
      refine m_aload_n F rfl e_X10_readOption_36 ?_
      refine m_iconst F (v := 0) (by decide) e_X10_readOption_37 ?_
      refine m_ldc F kc_X10_177 e_X10_readOption_38 ?_
      refine r_callV F e_X10_readOption_40 (q_X10_numeralG (x_l X) V c T Z u h P12955 L _ _ 0 99999 1 h13140.1 (hob) oP12955 (by omega) (by omega) (fa12971) (by decide)) cb_X10_numeral ml_X10_165 im_X10_numeral se_X10_numeral h13140 rfl rfl (rest := []) rfl (Nat.le_of_ble_eq_true rfl) ⟨Nat.le_of_ble_eq_true rfl, Nat.le_of_ble_eq_true rfl⟩ ⟨Nat.le_of_ble_eq_true rfl, Nat.le_of_ble_eq_true rfl⟩ (fun r σ13141 hp => ?_)
      obtain ⟨h13142, hp⟩ := hp
      have h13143 := HS.trans h13140 h13142 (by decide)
      obtain ⟨rfl, rfl⟩ := hp
      refine m_istore F (lv' := [(4, .int (nI 0)), (3, .int (nI 1)), (2, .int (nI 4)), (1, .int (nI (4 + no))), (0, .ref c)]) e_X10_readOption_43 (by decide) rfl ?_
      refine m_aload_n F rfl e_X10_readOption_45 ?_
      refine r_getC F e_X10_readOption_46 fl_X10_141 h13143 (fa12971) ?_
      refine m_if_eq F e_X10_readOption_49 (fun q => absurd q (by decide)) (fun _ => ?_)
      exact m_vret F hQ e_X10_readOption_52 (⟨P12955, oP12955, (by unfold RP; omega), (by unfold optionS; dsimp only; rw [if_neg (by omega), ek12973, tolK_1 e12964]; exact RM.l (fa12971) (fb12972) (by decide) (by decide) (by omega)), h13143, rfl⟩)
    · have hz9 : True := trivial
      refine m_istore_n F (lv' := [(2, .int (nI 4)), (1, .int (nI (4 + no))), (0, .ref c)]) e_X10_readOption_23 (by decide) rfl ?_
      refine m_aload_n F rfl e_X10_readOption_24 ?_
      refine r_callV F e_X10_readOption_25 (q_X10_goOnG (x_l X) V c T Z u h P12955 L _ _  4 h12954.1 (hob) oP12955  (fa12971) (by decide)) cb_X10_goOn ml_X10_154 im_X10_goOn se_X10_goOn h12954 rfl rfl (rest := []) rfl (Nat.le_of_ble_eq_true rfl) ⟨Nat.le_of_ble_eq_true rfl, Nat.le_of_ble_eq_true rfl⟩ ⟨Nat.le_of_ble_eq_true rfl, Nat.le_of_ble_eq_true rfl⟩ (fun r σ13144 hp => ?_)
      obtain ⟨h13145, hp⟩ := hp
      have h13146 := HS.trans h12954 h13145 (by decide)
      obtain ⟨rfl, rfl⟩ := hp
      refine m_aload_n F rfl e_X10_readOption_28 ?_
      refine m_iconst F (v := 1) (by decide) e_X10_readOption_29 ?_
      refine m_bipush F (v := 24) (by decide) e_X10_readOption_30 ?_
      refine r_callV F e_X10_readOption_32 (q_X10_numeralG (x_l X) V c T Z u h P12955 L _ _ 1 24 4 h13146.1 (hob) oP12955 (by omega) (by omega) (fa12971) (by decide)) cb_X10_numeral ml_X10_165 im_X10_numeral se_X10_numeral h13146 rfl rfl (rest := []) rfl (Nat.le_of_ble_eq_true rfl) ⟨Nat.le_of_ble_eq_true rfl, Nat.le_of_ble_eq_true rfl⟩ ⟨Nat.le_of_ble_eq_true rfl, Nat.le_of_ble_eq_true rfl⟩ (fun r σ13147 hp => ?_)
      obtain ⟨h13148, hp⟩ := hp
      have h13149 := HS.trans h13146 h13148 (by decide)
      obtain ⟨rfl, rfl⟩ := hp
      refine m_istore_n F (lv' := [(3, .int (nI 1)), (2, .int (nI 4)), (1, .int (nI (4 + no))), (0, .ref c)]) e_X10_readOption_35 (by decide) rfl ?_
      refine m_aload_n F rfl e_X10_readOption_36 ?_
      refine m_iconst F (v := 0) (by decide) e_X10_readOption_37 ?_
      refine m_ldc F kc_X10_177 e_X10_readOption_38 ?_
      refine r_callV F e_X10_readOption_40 (q_X10_numeralG (x_l X) V c T Z u h P12955 L _ _ 0 99999 4 h13149.1 (hob) oP12955 (by omega) (by omega) (fa12971) (by decide)) cb_X10_numeral ml_X10_165 im_X10_numeral se_X10_numeral h13149 rfl rfl (rest := []) rfl (Nat.le_of_ble_eq_true rfl) ⟨Nat.le_of_ble_eq_true rfl, Nat.le_of_ble_eq_true rfl⟩ ⟨Nat.le_of_ble_eq_true rfl, Nat.le_of_ble_eq_true rfl⟩ (fun r σ13150 hp => ?_)
      obtain ⟨h13151, hp⟩ := hp
      have h13152 := HS.trans h13149 h13151 (by decide)
      obtain ⟨rfl, rfl⟩ := hp
      refine m_istore F (lv' := [(4, .int (nI 0)), (3, .int (nI 1)), (2, .int (nI 4)), (1, .int (nI (4 + no))), (0, .ref c)]) e_X10_readOption_43 (by decide) rfl ?_
      refine m_aload_n F rfl e_X10_readOption_45 ?_
      refine r_getC F e_X10_readOption_46 fl_X10_141 h13152 (fa12971) ?_
      refine m_if_eq F e_X10_readOption_49 (fun q => absurd q (by decide)) (fun _ => ?_)
      exact m_vret F hQ e_X10_readOption_52 (⟨P12955, oP12955, (by unfold RP; omega), (by unfold optionS; dsimp only; rw [if_neg (by omega), ek12973, tolK_4 e12964 e12965]; exact RM.l (fa12971) (fb12972) (by decide) (by decide) (by omega)), h13152, rfl⟩)
  · have c11 : (4 + no) = 8 := (nI_eq (a := (4 + no)) (b := 8) (by omega) (by omega)).mp q11
    refine m_aload_n F rfl e_X10_readOption_14 ?_
    refine m_iconst F (v := 2) (by decide) e_X10_readOption_15 ?_
    refine r_callV F e_X10_readOption_16 (q_X10_wrongE (x_l X) V c T Z u h P L _ _ 2 n st so va ln fp h12944.1 (hob) hP (by omega) ⟨((fld_eq (h12943.2 c (by rw [show kC c c = 1 from kC_at (k := 0) (by decide)]; decide))).trans yd12935), ((fld_eq (h12943.2 c (by rw [show kC c c = 1 from kC_at (k := 0) (by decide)]; decide))).trans yd12936), ((fld_eq (h12943.2 c (by rw [show kC c c = 1 from kC_at (k := 0) (by decide)]; decide))).trans yd12937), ((fld_eq (h12943.2 c (by rw [show kC c c = 1 from kC_at (k := 0) (by decide)]; decide))).trans yd12938), ((fld_eq (h12943.2 c (by rw [show kC c c = 1 from kC_at (k := 0) (by decide)]; decide))).trans yd12939), ((fld_eq (h12943.2 c (by rw [show kC c c = 1 from kC_at (k := 0) (by decide)]; decide))).trans yd12940), ((fld_eq (h12943.2 c (by rw [show kC c c = 1 from kC_at (k := 0) (by decide)]; decide))).trans yd12941)⟩ (by decide)) cb_X10_wrong ml_X10_150 im_X10_wrong se_X10_wrong h12944 rfl rfl (rest := []) rfl (Nat.le_of_ble_eq_true rfl) ⟨Nat.le_of_ble_eq_true rfl, Nat.le_of_ble_eq_true rfl⟩ ⟨Nat.le_of_ble_eq_true rfl, Nat.le_of_ble_eq_true rfl⟩ (fun r σ13153 hp => ?_)
    obtain ⟨h13154, hp⟩ := hp
    have h13155 := HS.trans h12944 h13154 (by decide)
    have ga13156 := ga12945.of (h13154.2 (c + 1) (by rw [kC_at (k := 1) (by decide)]; decide))
    have ga13157 := ga12946.of (h13154.2 (c + 2) (by rw [kC_at (k := 2) (by decide)]; decide))
    have ga13158 := ga12947.of (h13154.2 (c + 3) (by rw [kC_at (k := 3) (by decide)]; decide))
    have ga13159 := ga12948.of (h13154.2 (c + 7) (by rw [kC_at (k := 7) (by decide)]; decide))
    have ga13160 := ga12949.of (h13154.2 (c + 8) (by rw [kC_at (k := 8) (by decide)]; decide))
    have ga13161 := ga12950.of (h13154.2 (c + 9) (by rw [kC_at (k := 9) (by decide)]; decide))
    have ga13162 := ga12951.of (h13154.2 (c + 11) (by rw [kC_at (k := 11) (by decide)]; decide))
    obtain ⟨hp, rfl⟩ := hp
    have hyd13163 := hp
    obtain ⟨yd13163, yd13164, yd13165, yd13166, yd13167, yd13168, yd13169⟩ := hyd13163
    refine m_aload_n F rfl e_X10_readOption_19 ?_
    refine r_callV F e_X10_readOption_20 (q_X10_atHandG (x_l X) V c T 0 u h P L _ _  2 h13155.1 (hob) hP  (yd13168) (by decide)) cb_X10_atHand ml_X10_174 im_X10_atHand se_X10_atHand h13155 rfl rfl (rest := []) rfl (Nat.le_of_ble_eq_true rfl) ⟨Nat.le_of_ble_eq_true rfl, Nat.le_of_ble_eq_true rfl⟩ ⟨Nat.le_of_ble_eq_true rfl, Nat.le_of_ble_eq_true rfl⟩ (fun r σ13170 hp => ?_)
    obtain ⟨h13171, hp⟩ := hp
    have h13172 := HS.trans h13155 h13171 (by decide)
    have ga13173 := ga13156.of (h13171.2 (c + 1) (by rw [kC_at (k := 1) (by decide)]; decide))
    have ga13174 := ga13157.of (h13171.2 (c + 2) (by rw [kC_at (k := 2) (by decide)]; decide))
    have ga13175 := ga13158.of (h13171.2 (c + 3) (by rw [kC_at (k := 3) (by decide)]; decide))
    have ga13176 := ga13159.of (h13171.2 (c + 7) (by rw [kC_at (k := 7) (by decide)]; decide))
    have ga13177 := ga13160.of (h13171.2 (c + 8) (by rw [kC_at (k := 8) (by decide)]; decide))
    have ga13178 := ga13161.of (h13171.2 (c + 9) (by rw [kC_at (k := 9) (by decide)]; decide))
    have ga13179 := ga13162.of (h13171.2 (c + 11) (by rw [kC_at (k := 11) (by decide)]; decide))
    obtain ⟨rfl, rfl⟩ := hp
    refine m_istore_n F (lv' := [(2, .int (nI 4)), (1, .int (nI (4 + no))), (0, .ref c)]) e_X10_readOption_23 (by decide) rfl ?_
    refine m_aload_n F rfl e_X10_readOption_24 ?_
    refine r_callV F e_X10_readOption_25 (q_X10_goOnG (x_l X) V c T 0 u h P L _ _  2 h13172.1 (hob) hP  (yd13168) (by decide)) cb_X10_goOn ml_X10_154 im_X10_goOn se_X10_goOn h13172 rfl rfl (rest := []) rfl (Nat.le_of_ble_eq_true rfl) ⟨Nat.le_of_ble_eq_true rfl, Nat.le_of_ble_eq_true rfl⟩ ⟨Nat.le_of_ble_eq_true rfl, Nat.le_of_ble_eq_true rfl⟩ (fun r σ13180 hp => ?_)
    obtain ⟨h13181, hp⟩ := hp
    have h13182 := HS.trans h13172 h13181 (by decide)
    have ga13183 := ga13156.of (h13181.2 (c + 1) (by rw [kC_at (k := 1) (by decide)]; decide))
    have ga13184 := ga13157.of (h13181.2 (c + 2) (by rw [kC_at (k := 2) (by decide)]; decide))
    have ga13185 := ga13158.of (h13181.2 (c + 3) (by rw [kC_at (k := 3) (by decide)]; decide))
    have ga13186 := ga13159.of (h13181.2 (c + 7) (by rw [kC_at (k := 7) (by decide)]; decide))
    have ga13187 := ga13160.of (h13181.2 (c + 8) (by rw [kC_at (k := 8) (by decide)]; decide))
    have ga13188 := ga13161.of (h13181.2 (c + 9) (by rw [kC_at (k := 9) (by decide)]; decide))
    have ga13189 := ga13162.of (h13181.2 (c + 11) (by rw [kC_at (k := 11) (by decide)]; decide))
    obtain ⟨rfl, rfl⟩ := hp
    refine m_aload_n F rfl e_X10_readOption_28 ?_
    refine m_iconst F (v := 1) (by decide) e_X10_readOption_29 ?_
    refine m_bipush F (v := 24) (by decide) e_X10_readOption_30 ?_
    refine r_callV F e_X10_readOption_32 (q_X10_numeralG (x_l X) V c T 0 u h P L _ _ 1 24 2 h13182.1 (hob) hP (by omega) (by omega) (yd13168) (by decide)) cb_X10_numeral ml_X10_165 im_X10_numeral se_X10_numeral h13182 rfl rfl (rest := []) rfl (Nat.le_of_ble_eq_true rfl) ⟨Nat.le_of_ble_eq_true rfl, Nat.le_of_ble_eq_true rfl⟩ ⟨Nat.le_of_ble_eq_true rfl, Nat.le_of_ble_eq_true rfl⟩ (fun r σ13190 hp => ?_)
    obtain ⟨h13191, hp⟩ := hp
    have h13192 := HS.trans h13182 h13191 (by decide)
    have ga13193 := ga13156.of (h13191.2 (c + 1) (by rw [kC_at (k := 1) (by decide)]; decide))
    have ga13194 := ga13157.of (h13191.2 (c + 2) (by rw [kC_at (k := 2) (by decide)]; decide))
    have ga13195 := ga13158.of (h13191.2 (c + 3) (by rw [kC_at (k := 3) (by decide)]; decide))
    have ga13196 := ga13159.of (h13191.2 (c + 7) (by rw [kC_at (k := 7) (by decide)]; decide))
    have ga13197 := ga13160.of (h13191.2 (c + 8) (by rw [kC_at (k := 8) (by decide)]; decide))
    have ga13198 := ga13161.of (h13191.2 (c + 9) (by rw [kC_at (k := 9) (by decide)]; decide))
    have ga13199 := ga13162.of (h13191.2 (c + 11) (by rw [kC_at (k := 11) (by decide)]; decide))
    obtain ⟨rfl, rfl⟩ := hp
    refine m_istore_n F (lv' := [(3, .int (nI 1)), (2, .int (nI 4)), (1, .int (nI (4 + no))), (0, .ref c)]) e_X10_readOption_35 (by decide) rfl ?_
    refine m_aload_n F rfl e_X10_readOption_36 ?_
    refine m_iconst F (v := 0) (by decide) e_X10_readOption_37 ?_
    refine m_ldc F kc_X10_177 e_X10_readOption_38 ?_
    refine r_callV F e_X10_readOption_40 (q_X10_numeralG (x_l X) V c T 0 u h P L _ _ 0 99999 2 h13192.1 (hob) hP (by omega) (by omega) (yd13168) (by decide)) cb_X10_numeral ml_X10_165 im_X10_numeral se_X10_numeral h13192 rfl rfl (rest := []) rfl (Nat.le_of_ble_eq_true rfl) ⟨Nat.le_of_ble_eq_true rfl, Nat.le_of_ble_eq_true rfl⟩ ⟨Nat.le_of_ble_eq_true rfl, Nat.le_of_ble_eq_true rfl⟩ (fun r σ13200 hp => ?_)
    obtain ⟨h13201, hp⟩ := hp
    have h13202 := HS.trans h13192 h13201 (by decide)
    have ga13203 := ga13156.of (h13201.2 (c + 1) (by rw [kC_at (k := 1) (by decide)]; decide))
    have ga13204 := ga13157.of (h13201.2 (c + 2) (by rw [kC_at (k := 2) (by decide)]; decide))
    have ga13205 := ga13158.of (h13201.2 (c + 3) (by rw [kC_at (k := 3) (by decide)]; decide))
    have ga13206 := ga13159.of (h13201.2 (c + 7) (by rw [kC_at (k := 7) (by decide)]; decide))
    have ga13207 := ga13160.of (h13201.2 (c + 8) (by rw [kC_at (k := 8) (by decide)]; decide))
    have ga13208 := ga13161.of (h13201.2 (c + 9) (by rw [kC_at (k := 9) (by decide)]; decide))
    have ga13209 := ga13162.of (h13201.2 (c + 11) (by rw [kC_at (k := 11) (by decide)]; decide))
    obtain ⟨rfl, rfl⟩ := hp
    refine m_istore F (lv' := [(4, .int (nI 0)), (3, .int (nI 1)), (2, .int (nI 4)), (1, .int (nI (4 + no))), (0, .ref c)]) e_X10_readOption_43 (by decide) rfl ?_
    refine m_aload_n F rfl e_X10_readOption_45 ?_
    refine r_getC F e_X10_readOption_46 fl_X10_141 h13202 (yd13168) ?_
    refine m_if_eq F e_X10_readOption_49 (fun q => absurd q (by decide)) (fun _ => ?_)
    have h13210 : HS V c _ [0, 2, 4, 5, 6, 7, 8, 9, 10, 11, 12, 13, 17, 18, 19, 20, 21, 22, 23] _ _ := ⟨HR.mono (Z' := Z) (by intro e; first | rfl | assumption | omega) h13202.1, h13202.2⟩
    exact m_vret F hQ e_X10_readOption_52 (⟨P, hP, (by unfold RP; omega), (by unfold optionS; dsimp only; rw [if_pos (by omega)]; exact RM.l (yd13168) (yd13169) (by decide) (by decide) (by omega)), h13210, rfl⟩)
