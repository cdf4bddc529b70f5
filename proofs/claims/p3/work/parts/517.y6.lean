theorem QR.put {τ : Mem} {c nc p : Nat} (hp : p ≤ 99) (e1 : elI τ (c + 11) (8 + nc) = some (nI p)) : QR τ c (nc + 1) (p + 1) := Or.inr ⟨by omega, by omega, by omega, by rw [show 7 + (nc + 1) = 8 + nc by omega]; exact e1⟩
set_option maxRecDepth 20000 in
theorem q_X10_readChangeE (l : Launch) (V : VX) (c T Z u h : Nat) (P : NP) (L : Nat → LQ) (N : Nat) (σ : Mem) (n st : Nat) (so va : Int32) (ln : Nat) (fp : Int32) (t : Nat → Nat) (s9 v9 : Nat) (nm : Nat → Nat) (np lc no sd : Nat) (md : Nat → Nat → Bool) (h0 : HR V c ⟨T, Z, u, h, P, L⟩ σ) (hob : OKB L) (hP : OKP P) (hp0 : YD σ c n st so va ln 0 fp) (hp1 : BR σ c n t) (hp2 : n ≤ 700) (hp3 : P.a ≤ n) (hp4 : MT so va s9 v9) (hp5 : st ≤ n) (hp6 : NR σ c np no sd) (hp7 : MR σ c P.n5 nm) (hp8 : KR σ c P.n5 md) (hp9 : FR σ c 8 1 P.n5 md) (hp10 : FR σ c 9 2 P.n5 md) (hp11 : QR σ c P.n7 lc) (hp12 : np ≤ 12) (hp13 : no ≤ 4) (hp14 : sd ≤ 1) : Ct l V yX10_readChange cX10_readChange 5 none 8 0 0 N σ [.ref c] (fun r τ => ∃ P9 : NP, OKP P9 ∧ RP P P9 ∧ RM τ c n P9 (indexS (tok t n) (st, s9, v9, P.a) P.n5 nm np P.n7 lc no sd md ln) ∧ HS V c (⟨T, Z, u, h, P9, L⟩ : RG) [0, 2, 4, 5, 6, 7, 8, 9, 10, 11, 14, 15, 16, 17, 18, 19, 20, 21, 22, 23] σ τ ∧ r = none) := by
  refine Ct.of (by decide) (Nat.le_of_ble_eq_true rfl) [(0, .ref c)] rfl (fun X hX F hQ => ?_)
  have hPP := hP
  unfold OKP at hPP
  have h1 : HS V c ⟨T, Z, u, h, P, L⟩ [0, 2, 4, 5, 6, 7, 8, 9, 10, 11, 14, 15, 16, 17, 18, 19, 20, 21, 22, 23] σ σ := HS.start h0
  have hyd12555 := hp0
  obtain ⟨yd12555, yd12556, yd12557, yd12558, yd12559, yd12560, yd12561⟩ := hyd12555
  have hn7 := hp2
  refine m_bipush F (v := 8) (by decide) e_X10_readChange_0 ?_
  refine m_aload_n F rfl e_X10_readChange_2 ?_
  refine m_iconst F (v := 2) (by decide) e_X10_readChange_3 ?_
  refine r_callV F e_X10_readChange_4 (q_X10_reading2 (x_l X) V c T Z u h P L _ _  h1.1 (hob) hP ) cb_X10_reading ml_X10_157 im_X10_reading se_X10_reading h1 rfl rfl (rest := [.int 8]) rfl (Nat.le_of_ble_eq_true rfl) ⟨Nat.le_of_ble_eq_true rfl, Nat.le_of_ble_eq_true rfl⟩ ⟨Nat.le_of_ble_eq_true rfl, Nat.le_of_ble_eq_true rfl⟩ (fun r σ12562 hp => ?_)
  obtain ⟨h12563, rfl⟩ := hp
  have h12564 := HS.trans h1 h12563 (by decide)
  have ga12565 := hp1.of (h12563.2 (c + 1) (by rw [kC_at (k := 1) (by decide)]; decide))
  have ga12566 := hp6.of (h12563.2 (c + 2) (by rw [kC_at (k := 2) (by decide)]; decide))
  have ga12567 := hp7.of (h12563.2 (c + 3) (by rw [kC_at (k := 3) (by decide)]; decide))
  have ga12568 := hp8.of (h12563.2 (c + 7) (by rw [kC_at (k := 7) (by decide)]; decide))
  have ga12569 := hp9.of (h12563.2 (c + 8) (by rw [kC_at (k := 8) (by decide)]; decide))
  have ga12570 := hp10.of (h12563.2 (c + 9) (by rw [kC_at (k := 9) (by decide)]; decide))
  have ga12571 := hp11.of (h12563.2 (c + 11) (by rw [kC_at (k := 11) (by decide)]; decide))
  refine Wm.topE (w := nI P.n7) (congrArg nI (by omega)) ?_
  refine m_iadd F e_X10_readChange_7 ?_
  refine Wm.topE (w := nI (8 + P.n7)) (nI_add 8 P.n7) ?_
  refine m_istore_n F (lv' := [(1, .int (nI (8 + P.n7))), (0, .ref c)]) e_X10_readChange_8 (by decide) rfl ?_
  refine m_iload_n F rfl e_X10_readChange_9 ?_
  refine m_bipush F (v := 16) (by decide) e_X10_readChange_10 ?_
  refine m_icmp_ne F e_X10_readChange_12 (fun q12 => ?_) (fun q12 => ?_)
  · have c12 : (8 + P.n7) ≠ 16 := by have hh := mt (nI_eq (a := (8 + P.n7)) (b := 16) (by omega) (by omega)).mpr q12; omega
    refine m_aload_n F rfl e_X10_readChange_20 ?_
    refine r_callV F e_X10_readChange_21 (q_X10_goOnE (x_l X) V c T Z u h P L _ _  n st so va ln fp t h12564.1 (hob) hP  ⟨((fld_eq (h12563.2 c (by rw [show kC c c = 1 from kC_at (k := 0) (by decide)]; decide))).trans yd12555), ((fld_eq (h12563.2 c (by rw [show kC c c = 1 from kC_at (k := 0) (by decide)]; decide))).trans yd12556), ((fld_eq (h12563.2 c (by rw [show kC c c = 1 from kC_at (k := 0) (by decide)]; decide))).trans yd12557), ((fld_eq (h12563.2 c (by rw [show kC c c = 1 from kC_at (k := 0) (by decide)]; decide))).trans yd12558), ((fld_eq (h12563.2 c (by rw [show kC c c = 1 from kC_at (k := 0) (by decide)]; decide))).trans yd12559), ((fld_eq (h12563.2 c (by rw [show kC c c = 1 from kC_at (k := 0) (by decide)]; decide))).trans yd12560), ((fld_eq (h12563.2 c (by rw [show kC c c = 1 from kC_at (k := 0) (by decide)]; decide))).trans yd12561)⟩ ga12565 hn7 (by omega)) cb_X10_goOn ml_X10_154 im_X10_goOn se_X10_goOn h12564 rfl rfl (rest := []) rfl (Nat.le_of_ble_eq_true rfl) ⟨Nat.le_of_ble_eq_true rfl, Nat.le_of_ble_eq_true rfl⟩ ⟨Nat.le_of_ble_eq_true rfl, Nat.le_of_ble_eq_true rfl⟩ (fun r σ12572 hp => ?_)
    obtain ⟨P12575, oP12575, rP12575, pr12576, pr12577, h12573, hp⟩ := hp
    have h12574 := HS.trans h12564 h12573 (by decide)
    have xP12575 := oP12575
    unfold OKP at xP12575
    unfold RA at rP12575
    have ga12578 := ga12565.of (h12573.2 (c + 1) (by rw [kC_at (k := 1) (by decide)]; decide))
    have ga12579 := ga12566.of (h12573.2 (c + 2) (by rw [kC_at (k := 2) (by decide)]; decide))
    have ga12580 := ga12567.of (h12573.2 (c + 3) (by rw [kC_at (k := 3) (by decide)]; decide))
    have ga12581 := ga12568.of (h12573.2 (c + 7) (by rw [kC_at (k := 7) (by decide)]; decide))
    have ga12582 := ga12569.of (h12573.2 (c + 8) (by rw [kC_at (k := 8) (by decide)]; decide))
    have ga12583 := ga12570.of (h12573.2 (c + 9) (by rw [kC_at (k := 9) (by decide)]; decide))
    have ga12584 := ga12571.of (h12573.2 (c + 11) (by rw [kC_at (k := 11) (by decide)]; decide))
    obtain rfl := hp
    obtain ⟨so12585, va12586, mt12587, yd12588⟩ := pr12577
    generalize ek12589 : tok t n P.a = k12589 at pr12576 mt12587 yd12588
    have bk12589 := tok_ok (t := t) (n := n) P.a (by omega)
    rw [ek12589] at bk12589
    have hyd12590 := yd12588
    obtain ⟨yd12590, yd12591, yd12592, yd12593, yd12594, yd12595, yd12596⟩ := hyd12590
    refine m_aload_n F rfl e_X10_readChange_24 ?_
    refine m_iconst F (v := 2) (by decide) e_X10_readChange_25 ?_
    refine r_callV F e_X10_readChange_26 (q_X10_reading2 (x_l X) V c T Z u h P12575 L _ _  h12574.1 (hob) oP12575 ) cb_X10_reading ml_X10_157 im_X10_reading se_X10_reading h12574 rfl rfl (rest := []) rfl (Nat.le_of_ble_eq_true rfl) ⟨Nat.le_of_ble_eq_true rfl, Nat.le_of_ble_eq_true rfl⟩ ⟨Nat.le_of_ble_eq_true rfl, Nat.le_of_ble_eq_true rfl⟩ (fun r σ12597 hp => ?_)
    obtain ⟨h12598, rfl⟩ := hp
    have h12599 := HS.trans h12574 h12598 (by decide)
    have ga12600 := ga12578.of (h12598.2 (c + 1) (by rw [kC_at (k := 1) (by decide)]; decide))
    have ga12601 := ga12579.of (h12598.2 (c + 2) (by rw [kC_at (k := 2) (by decide)]; decide))
    have ga12602 := ga12580.of (h12598.2 (c + 3) (by rw [kC_at (k := 3) (by decide)]; decide))
    have ga12603 := ga12581.of (h12598.2 (c + 7) (by rw [kC_at (k := 7) (by decide)]; decide))
    have ga12604 := ga12582.of (h12598.2 (c + 8) (by rw [kC_at (k := 8) (by decide)]; decide))
    have ga12605 := ga12583.of (h12598.2 (c + 9) (by rw [kC_at (k := 9) (by decide)]; decide))
    have ga12606 := ga12584.of (h12598.2 (c + 11) (by rw [kC_at (k := 11) (by decide)]; decide))
    refine Wm.topE (w := nI P.n7) (congrArg nI (by omega)) ?_
    refine m_if_eq F e_X10_readChange_29 (fun q29 => ?_) (fun q29 => ?_)
    · have c29 : P.n7 = 0 := (nI_eq (a := P.n7) (b := 0) (by omega) (by omega)).mp q29
      have hlc : lc = 0 := by rcases hp11 with h9 | h9 <;> omega
      refine m_iconst F (v := 0) (by decide) e_X10_readChange_39 ?_
      refine m_goto F e_X10_readChange_40 ?_
      refine Wm.topE (w := nI lc) (by rw [hlc]; rfl) ?_
      have hlb : lc ≤ 100 := by rcases hp11 with h9 | h9 <;> omega
      refine m_istore_n F (lv' := [(2, .int (nI lc)), (1, .int (nI (8 + P.n7))), (0, .ref c)]) e_X10_readChange_53 (by decide) rfl ?_
      refine m_aload_n F rfl e_X10_readChange_54 ?_
      refine m_iload_n F rfl e_X10_readChange_55 ?_
      refine m_bipush F (v := 99) (by decide) e_X10_readChange_56 ?_
      refine r_callV F e_X10_readChange_58 (q_X10_numeralE (x_l X) V c T Z u h P12575 L _ _ lc 99 n k12589.1 so12585 va12586 ln fp t k12589.2.1 k12589.2.2.1 h12599.1 (hob) oP12575 (by omega) (by omega) ⟨((fld_eq (h12598.2 c (by rw [show kC c c = 1 from kC_at (k := 0) (by decide)]; decide))).trans yd12590), ((fld_eq (h12598.2 c (by rw [show kC c c = 1 from kC_at (k := 0) (by decide)]; decide))).trans yd12591), ((fld_eq (h12598.2 c (by rw [show kC c c = 1 from kC_at (k := 0) (by decide)]; decide))).trans yd12592), ((fld_eq (h12598.2 c (by rw [show kC c c = 1 from kC_at (k := 0) (by decide)]; decide))).trans yd12593), ((fld_eq (h12598.2 c (by rw [show kC c c = 1 from kC_at (k := 0) (by decide)]; decide))).trans yd12594), ((fld_eq (h12598.2 c (by rw [show kC c c = 1 from kC_at (k := 0) (by decide)]; decide))).trans yd12595), ((fld_eq (h12598.2 c (by rw [show kC c c = 1 from kC_at (k := 0) (by decide)]; decide))).trans yd12596)⟩ ga12600 hn7 (by omega) mt12587) cb_X10_numeral ml_X10_165 im_X10_numeral se_X10_numeral h12599 rfl rfl (rest := []) rfl (Nat.le_of_ble_eq_true rfl) ⟨Nat.le_of_ble_eq_true rfl, Nat.le_of_ble_eq_true rfl⟩ ⟨Nat.le_of_ble_eq_true rfl, Nat.le_of_ble_eq_true rfl⟩ (fun r σ12607 hp => ?_)
      obtain ⟨P12610, oP12610, rP12610, pr12611, h12608, hp⟩ := hp
      have h12609 := HS.trans h12599 h12608 (by decide)
      have xP12610 := oP12610
      unfold OKP at xP12610
      unfold RA at rP12610
      have ga12612 := ga12600.of (h12608.2 (c + 1) (by rw [kC_at (k := 1) (by decide)]; decide))
      have ga12613 := ga12601.of (h12608.2 (c + 2) (by rw [kC_at (k := 2) (by decide)]; decide))
      have ga12614 := ga12602.of (h12608.2 (c + 3) (by rw [kC_at (k := 3) (by decide)]; decide))
      have ga12615 := ga12603.of (h12608.2 (c + 7) (by rw [kC_at (k := 7) (by decide)]; decide))
      have ga12616 := ga12604.of (h12608.2 (c + 8) (by rw [kC_at (k := 8) (by decide)]; decide))
      have ga12617 := ga12605.of (h12608.2 (c + 9) (by rw [kC_at (k := 9) (by decide)]; decide))
      have ga12618 := ga12606.of (h12608.2 (c + 11) (by rw [kC_at (k := 11) (by decide)]; decide))
      rcases pr12611 with ⟨e12619, l12621, l12622, ea12623, ⟨so12624, va12625, mt12626, yd12627⟩, rfl⟩ | ⟨e12619, ⟨fa12628, fb12629⟩, rfl⟩ | ⟨e12619, e12620, ⟨fa12628, fb12629⟩, rfl⟩
      · have bk12630 := tok_ok (t := t) (n := n) P12575.a (by omega)
        generalize ek12630 : tok t n P12575.a = k12630 at ea12623 mt12626 yd12627 bk12630
        rw [show P12575.a = k12589.2.2.2 by omega] at ek12630
        have hyd12631 := yd12627
        obtain ⟨yd12631, yd12632, yd12633, yd12634, yd12635, yd12636, yd12637⟩ := hyd12631
        refine m_istore_n F (lv' := [(3, .int (nI k12589.2.2.1)), (2, .int (nI lc)), (1, .int (nI (8 + P.n7))), (0, .ref c)]) e_X10_readChange_61 (by decide) rfl ?_
        refine m_aload_n F rfl e_X10_readChange_62 ?_
        refine m_sipush F (v := 500) (by decide) e_X10_readChange_63 ?_
        refine m_sipush F (v := 2000) (by decide) e_X10_readChange_66 ?_
        refine r_callV F e_X10_readChange_69 (q_X10_numeralE (x_l X) V c T Z u h P12610 L _ _ 500 2000 n k12630.1 so12624 va12625 ln fp t k12630.2.1 k12630.2.2.1 h12609.1 (hob) oP12610 (by omega) (by omega) ⟨(yd12631), (yd12632), (yd12633), (yd12634), (yd12635), (yd12636), (yd12637)⟩ ga12612 hn7 (by omega) mt12626) cb_X10_numeral ml_X10_165 im_X10_numeral se_X10_numeral h12609 rfl rfl (rest := []) rfl (Nat.le_of_ble_eq_true rfl) ⟨Nat.le_of_ble_eq_true rfl, Nat.le_of_ble_eq_true rfl⟩ ⟨Nat.le_of_ble_eq_true rfl, Nat.le_of_ble_eq_true rfl⟩ (fun r σ12638 hp => ?_)
        obtain ⟨P12641, oP12641, rP12641, pr12642, h12639, hp⟩ := hp
        have h12640 := HS.trans h12609 h12639 (by decide)
        have xP12641 := oP12641
        unfold OKP at xP12641
        unfold RA at rP12641
        have ga12643 := ga12612.of (h12639.2 (c + 1) (by rw [kC_at (k := 1) (by decide)]; decide))
        have ga12644 := ga12613.of (h12639.2 (c + 2) (by rw [kC_at (k := 2) (by decide)]; decide))
        have ga12645 := ga12614.of (h12639.2 (c + 3) (by rw [kC_at (k := 3) (by decide)]; decide))
        have ga12646 := ga12615.of (h12639.2 (c + 7) (by rw [kC_at (k := 7) (by decide)]; decide))
        have ga12647 := ga12616.of (h12639.2 (c + 8) (by rw [kC_at (k := 8) (by decide)]; decide))
        have ga12648 := ga12617.of (h12639.2 (c + 9) (by rw [kC_at (k := 9) (by decide)]; decide))
        have ga12649 := ga12618.of (h12639.2 (c + 11) (by rw [kC_at (k := 11) (by decide)]; decide))
        rcases pr12642 with ⟨e12650, l12652, l12653, ea12654, ⟨so12655, va12656, mt12657, yd12658⟩, rfl⟩ | ⟨e12650, ⟨fa12659, fb12660⟩, rfl⟩ | ⟨e12650, e12651, ⟨fa12659, fb12660⟩, rfl⟩
        · have bk12661 := tok_ok (t := t) (n := n) P12610.a (by omega)
          generalize ek12661 : tok t n P12610.a = k12661 at ea12654 mt12657 yd12658 bk12661
          rw [show P12610.a = k12630.2.2.2 by omega] at ek12661
          have hyd12662 := yd12658
          obtain ⟨yd12662, yd12663, yd12664, yd12665, yd12666, yd12667, yd12668⟩ := hyd12662
          refine m_istore F (lv' := [(4, .int (nI k12630.2.2.1)), (3, .int (nI k12589.2.2.1)), (2, .int (nI lc)), (1, .int (nI (8 + P.n7))), (0, .ref c)]) e_X10_readChange_72 (by decide) rfl ?_
          refine m_aload_n F rfl e_X10_readChange_74 ?_
          refine r_getC F e_X10_readChange_75 fl_X10_141 h12640 (yd12667) ?_
          refine m_if_eq F e_X10_readChange_78 (fun _ => ?_) (fun q => absurd (by decide) q)
          refine m_aload_n F rfl e_X10_readChange_82 ?_
          refine r_get F e_X10_readChange_83 fl_X10_40 h12640 rfl (fun v hv f12669 => ?_)
          obtain rfl : v = .ref (c + 11) := hv
          refine m_iload_n F rfl e_X10_readChange_86 ?_
          refine m_iload_n F rfl e_X10_readChange_87 ?_
          refine r_iast F (g' := (⟨T, Z, u, h, P12641, L⟩ : RG)) (len := 16) (j := 8 + P.n7) e_X10_readChange_88 h12640 (fun _ h => h) (fun f h => ⟨f, rfl, h⟩) (by decide) (by decide) (nI_clamp (by omega)) (vp_in_nI (by omega) (by decide)) ⟨k12589.2.2.1, by omega, rfl⟩ (fun _ _ _ h => h) (fun _ _ _ h => h) (fun σ12670 h12671 g12672 f12673 g12674 => ?_)
          have ga12675 := ga12643.of (g12672 _ (by omega))
          have ga12676 := ga12644.of (g12672 _ (by omega))
          have ga12677 := ga12645.of (g12672 _ (by omega))
          have ga12678 := ga12646.of (g12672 _ (by omega))
          have ga12679 := ga12647.of (g12672 _ (by omega))
          have ga12680 := ga12648.of (g12672 _ (by omega))
          have ga12681 := QR.put (by omega) f12673
          refine m_aload_n F rfl e_X10_readChange_89 ?_
          refine r_get F e_X10_readChange_90 fl_X10_43 h12671 rfl (fun v hv f12682 => ?_)
          obtain rfl : v = .ref (c + 12) := hv
          refine m_iload_n F rfl e_X10_readChange_93 ?_
          refine m_iload F rfl e_X10_readChange_94 ?_
          refine r_iast F (g' := (⟨T, Z, u, h, (mkP P12641.n0 P12641.n2 P12641.n5 P12641.n7 P12641.m0 P12641.m5 P12641.w2 (P12641.n7 + 1) P12641.kk P12641.a), L⟩ : RG)) (len := 16) (j := 8 + P.n7) e_X10_readChange_96 h12671 (fun _ h => h) (fun f h => ⟨f, rfl, h⟩) (by decide) (by decide) (nI_clamp (by omega)) (vp_in_nI (by omega) (by decide)) ⟨k12630.2.2.1, by omega, rfl, fun h7 _ => absurd h7 (by omega), fun _ _ => by omega⟩ (fun i hi y hy => by obtain ⟨n9, a9, b9, c9, d9⟩ := hy; exact ⟨n9, a9, b9, c9, fun h7 h8 => d9 h7 (show i < 8 + P12641.w7 by have h6 : i < 8 + (P12641.n7 + 1) := h8; omega)⟩) (CR.chg (by intro k hk i x h; unfold EI at h ⊢; split at h <;> first | exact h | exact absurd rfl hk | trivial) rfl rfl) (fun σ12683 h12684 g12685 f12686 g12687 => ?_)
          have ga12688 := ga12675.of (g12685 _ (by omega))
          have ga12689 := ga12676.of (g12685 _ (by omega))
          have ga12690 := ga12677.of (g12685 _ (by omega))
          have ga12691 := ga12678.of (g12685 _ (by omega))
          have ga12692 := ga12679.of (g12685 _ (by omega))
          have ga12693 := ga12680.of (g12685 _ (by omega))
          have ga12694 := ga12681.of (g12685 _ (by omega))
          obtain ⟨P12695, eP12695⟩ : ∃ P9, P9 = (mkP P12641.n0 P12641.n2 P12641.n5 P12641.n7 P12641.m0 P12641.m5 P12641.w2 (P12641.n7 + 1) P12641.kk P12641.a) := ⟨_, rfl⟩
          rw [← eP12695] at h12684
          have fP12695 : P12695.n0 = P12641.n0 ∧ P12695.n2 = P12641.n2 ∧ P12695.n5 = P12641.n5 ∧ P12695.n7 = P12641.n7 ∧ P12695.m0 = P12641.m0 ∧ P12695.m5 = P12641.m5 ∧ P12695.w2 = P12641.w2 ∧ P12695.w7 = P12641.n7 + 1 ∧ P12695.kk = P12641.kk ∧ P12695.a = P12641.a := by rw [eP12695]; exact ⟨rfl, rfl, rfl, rfl, rfl, rfl, rfl, rfl, rfl, rfl⟩
          refine m_aload_n F rfl e_X10_readChange_97 ?_
          refine m_iconst F (v := 2) (by decide) e_X10_readChange_98 ?_
          refine m_aload_n F rfl e_X10_readChange_99 ?_
          refine m_iconst F (v := 2) (by decide) e_X10_readChange_100 ?_
          have oP12699 : OKP P12695 := by unfold OKP; omega
          refine r_callV F e_X10_readChange_101 (q_X10_reading2 (x_l X) V c T Z u h P12695 L _ _  h12684.1 (hob) oP12699 ) cb_X10_reading ml_X10_157 im_X10_reading se_X10_reading h12684 rfl rfl (rest := [.int 2, .ref c]) rfl (Nat.le_of_ble_eq_true rfl) ⟨Nat.le_of_ble_eq_true rfl, Nat.le_of_ble_eq_true rfl⟩ ⟨Nat.le_of_ble_eq_true rfl, Nat.le_of_ble_eq_true rfl⟩ (fun r σ12696 hp => ?_)
          obtain ⟨h12697, rfl⟩ := hp
          have h12698 := HS.trans h12684 h12697 (by decide)
          have ga12700 := ga12688.of (h12697.2 (c + 1) (by rw [kC_at (k := 1) (by decide)]; decide))
          have ga12701 := ga12689.of (h12697.2 (c + 2) (by rw [kC_at (k := 2) (by decide)]; decide))
          have ga12702 := ga12690.of (h12697.2 (c + 3) (by rw [kC_at (k := 3) (by decide)]; decide))
          have ga12703 := ga12691.of (h12697.2 (c + 7) (by rw [kC_at (k := 7) (by decide)]; decide))
          have ga12704 := ga12692.of (h12697.2 (c + 8) (by rw [kC_at (k := 8) (by decide)]; decide))
          have ga12705 := ga12693.of (h12697.2 (c + 9) (by rw [kC_at (k := 9) (by decide)]; decide))
          have ga12706 := ga12694.of (h12697.2 (c + 11) (by rw [kC_at (k := 11) (by decide)]; decide))
          refine Wm.topE (w := nI P.n7) (congrArg nI (by omega)) ?_
          refine m_iconst F (v := 1) (by decide) e_X10_readChange_104 ?_
          refine m_iadd F e_X10_readChange_105 ?_
          refine Wm.topE (w := nI (P.n7 + 1)) (nI_add P.n7 1) ?_
          refine r_callV F e_X10_readChange_106 (q_X10_reads2E (x_l X) V c T Z u h P12695 L _ _ (P.n7 + 1)  h12698.1 (hob) oP12699 (by omega) (by omega)) cb_X10_reads ml_X10_170 im_X10_reads se_X10_reads h12698 rfl rfl (rest := []) rfl (Nat.le_of_ble_eq_true rfl) ⟨Nat.le_of_ble_eq_true rfl, Nat.le_of_ble_eq_true rfl⟩ ⟨Nat.le_of_ble_eq_true rfl, Nat.le_of_ble_eq_true rfl⟩ (fun r σ12707 hp => ?_)
          obtain ⟨h12708, hp⟩ := hp
          have h12709 := HS.trans h12698 h12708 (by decide)
          have ga12710 := ga12700.of (h12708.2 (c + 1) (by rw [kC_at (k := 1) (by decide)]; decide))
          have ga12711 := ga12702.of (h12708.2 (c + 3) (by rw [kC_at (k := 3) (by decide)]; decide))
          have ga12712 := ga12703.of (h12708.2 (c + 7) (by rw [kC_at (k := 7) (by decide)]; decide))
          have ga12713 := ga12704.of (h12708.2 (c + 8) (by rw [kC_at (k := 8) (by decide)]; decide))
          have ga12714 := ga12705.of (h12708.2 (c + 9) (by rw [kC_at (k := 9) (by decide)]; decide))
          have ga12715 := ga12706.of (h12708.2 (c + 11) (by rw [kC_at (k := 11) (by decide)]; decide))
          obtain ⟨ea12716, eb12717, rfl⟩ := hp
          have ga12718 := NR.k ga12701 eb12717 (by decide) (by decide) (by decide)
          obtain ⟨P12719, eP12719⟩ : ∃ P9, P9 = (mkP P12695.n0 P12695.n2 P12695.n5 (P.n7 + 1) P12695.m0 P12695.m5 P12695.w2 P12695.w7 P12695.kk P12695.a) := ⟨_, rfl⟩
          rw [← eP12719] at h12709
          have fP12719 : P12719.n0 = P12695.n0 ∧ P12719.n2 = P12695.n2 ∧ P12719.n5 = P12695.n5 ∧ P12719.n7 = P.n7 + 1 ∧ P12719.m0 = P12695.m0 ∧ P12719.m5 = P12695.m5 ∧ P12719.w2 = P12695.w2 ∧ P12719.w7 = P12695.w7 ∧ P12719.kk = P12695.kk ∧ P12719.a = P12695.a := by rw [eP12719]; exact ⟨rfl, rfl, rfl, rfl, rfl, rfl, rfl, rfl, rfl, rfl⟩
          have oP12720 : OKP P12719 := by unfold OKP; omega
          exact m_vret F hQ e_X10_readChange_109 (⟨P12719, oP12720, (by unfold RP; omega), (by unfold indexS; dsimp only; rw [if_neg (by omega), ek12589, numK_ok e12619 l12621 l12622, ek12630, numK_ok e12650 l12652 l12653, ek12661]; exact RM.r mt12657 ⟨((fld_eq (h12708.2 c (by rw [show kC c c = 1 from kC_at (k := 0) (by decide)]; decide))).trans ((fld_eq (h12697.2 c (by rw [show kC c c = 1 from kC_at (k := 0) (by decide)]; decide))).trans ((fld_eq (g12685 _ (by omega))).trans ((fld_eq (g12672 _ (by omega))).trans yd12662)))), ((fld_eq (h12708.2 c (by rw [show kC c c = 1 from kC_at (k := 0) (by decide)]; decide))).trans ((fld_eq (h12697.2 c (by rw [show kC c c = 1 from kC_at (k := 0) (by decide)]; decide))).trans ((fld_eq (g12685 _ (by omega))).trans ((fld_eq (g12672 _ (by omega))).trans yd12663)))), ((fld_eq (h12708.2 c (by rw [show kC c c = 1 from kC_at (k := 0) (by decide)]; decide))).trans ((fld_eq (h12697.2 c (by rw [show kC c c = 1 from kC_at (k := 0) (by decide)]; decide))).trans ((fld_eq (g12685 _ (by omega))).trans ((fld_eq (g12672 _ (by omega))).trans yd12664)))), ((fld_eq (h12708.2 c (by rw [show kC c c = 1 from kC_at (k := 0) (by decide)]; decide))).trans ((fld_eq (h12697.2 c (by rw [show kC c c = 1 from kC_at (k := 0) (by decide)]; decide))).trans ((fld_eq (g12685 _ (by omega))).trans ((fld_eq (g12672 _ (by omega))).trans yd12665)))), ((fld_eq (h12708.2 c (by rw [show kC c c = 1 from kC_at (k := 0) (by decide)]; decide))).trans ((fld_eq (h12697.2 c (by rw [show kC c c = 1 from kC_at (k := 0) (by decide)]; decide))).trans ((fld_eq (g12685 _ (by omega))).trans ((fld_eq (g12672 _ (by omega))).trans yd12666)))), ((fld_eq (h12708.2 c (by rw [show kC c c = 1 from kC_at (k := 0) (by decide)]; decide))).trans ((fld_eq (h12697.2 c (by rw [show kC c c = 1 from kC_at (k := 0) (by decide)]; decide))).trans ((fld_eq (g12685 _ (by omega))).trans ((fld_eq (g12672 _ (by omega))).trans yd12667)))), ((fld_eq (h12708.2 c (by rw [show kC c c = 1 from kC_at (k := 0) (by decide)]; decide))).trans ((fld_eq (h12697.2 c (by rw [show kC c c = 1 from kC_at (k := 0) (by decide)]; decide))).trans ((fld_eq (g12685 _ (by omega))).trans ((fld_eq (g12672 _ (by omega))).trans yd12668))))⟩ (by omega) (by omega) (by omega) ga12718 ga12711 ga12712 ga12713 ga12714 ga12715 (by omega) (by omega) (by omega) (by omega) (by omega)), h12709, rfl⟩)
        · have hz9 : True := trivial
          refine m_istore F (lv' := [(4, .int (nI 500)), (3, .int (nI k12589.2.2.1)), (2, .int (nI lc)), (1, .int (nI (8 + P.n7))), (0, .ref c)]) e_X10_readChange_72 (by decide) rfl ?_
          refine m_aload_n F rfl e_X10_readChange_74 ?_
          refine r_getC F e_X10_readChange_75 fl_X10_141 h12640 (fa12659) ?_
          refine m_if_eq F e_X10_readChange_78 (fun q => absurd q (by decide)) (fun _ => ?_)
          exact m_vret F hQ e_X10_readChange_81 (⟨P12641, oP12641, (by unfold RP; omega), (by unfold indexS; dsimp only; rw [if_neg (by omega), ek12589, numK_ok e12619 l12621 l12622, ek12630, numK_1 e12650]; exact RM.l (fa12659) (fb12660) (by decide) (by decide) (by omega)), h12640, rfl⟩)
        · have hz9 : True := trivial
          refine m_istore F (lv' := [(4, .int (nI 500)), (3, .int (nI k12589.2.2.1)), (2, .int (nI lc)), (1, .int (nI (8 + P.n7))), (0, .ref c)]) e_X10_readChange_72 (by decide) rfl ?_
          refine m_aload_n F rfl e_X10_readChange_74 ?_
          refine r_getC F e_X10_readChange_75 fl_X10_141 h12640 (fa12659) ?_
          refine m_if_eq F e_X10_readChange_78 (fun q => absurd q (by decide)) (fun _ => ?_)
          exact m_vret F hQ e_X10_readChange_81 (⟨P12641, oP12641, (by unfold RP; omega), (by unfold indexS; dsimp only; rw [if_neg (by omega), ek12589, numK_ok e12619 l12621 l12622, ek12630, numK_2 e12650 e12651]; exact RM.l (fa12659) (fb12660) (by decide) (by decide) (by omega)), h12640, rfl⟩)
      · have hz9 : True := trivial
        refine m_istore_n F (lv' := [(3, .int (nI lc)), (2, .int (nI lc)), (1, .int (nI (8 + P.n7))), (0, .ref c)]) e_X10_readChange_61 (by decide) rfl ?_
        refine m_aload_n F rfl e_X10_readChange_62 ?_
        refine m_sipush F (v := 500) (by decide) e_X10_readChange_63 ?_
        refine m_sipush F (v := 2000) (by decide) e_X10_readChange_66 ?_
        refine r_callV F e_X10_readChange_69 (q_X10_numeralG (x_l X) V c T Z u h P12610 L _ _ 500 2000 1 h12609.1 (hob) oP12610 (by omega) (by omega) (fa12628) (by decide)) cb_X10_numeral ml_X10_165 im_X10_numeral se_X10_numeral h12609 rfl rfl (rest := []) rfl (Nat.le_of_ble_eq_true rfl) ⟨Nat.le_of_ble_eq_true rfl, Nat.le_of_ble_eq_true rfl⟩ ⟨Nat.le_of_ble_eq_true rfl, Nat.le_of_ble_eq_true rfl⟩ (fun r σ12721 hp => ?_)
        obtain ⟨h12722, hp⟩ := hp
        have h12723 := HS.trans h12609 h12722 (by decide)
        obtain ⟨rfl, rfl⟩ := hp
        refine m_istore F (lv' := [(4, .int (nI 500)), (3, .int (nI lc)), (2, .int (nI lc)), (1, .int (nI (8 + P.n7))), (0, .ref c)]) e_X10_readChange_72 (by decide) rfl ?_
        refine m_aload_n F rfl e_X10_readChange_74 ?_
        refine r_getC F e_X10_readChange_75 fl_X10_141 h12723 (fa12628) ?_
        refine m_if_eq F e_X10_readChange_78 (fun q => absurd q (by decide)) (fun _ => ?_)
        exact m_vret F hQ e_X10_readChange_81 (⟨P12610, oP12610, (by unfold RP; omega), (by unfold indexS; dsimp only; rw [if_neg (by omega), ek12589, numK_1 e12619]; exact RM.l (fa12628) (fb12629) (by decide) (by decide) (by omega)), h12723, rfl⟩)
      · have hz9 : True := trivial
        refine m_istore_n F (lv' := [(3, .int (nI lc)), (2, .int (nI lc)), (1, .int (nI (8 + P.n7))), (0, .ref c)]) e_X10_readChange_61 (by decide) rfl ?_
        refine m_aload_n F rfl e_X10_readChange_62 ?_
        refine m_sipush F (v := 500) (by decide) e_X10_readChange_63 ?_
        refine m_sipush F (v := 2000) (by decide) e_X10_readChange_66 ?_
        refine r_callV F e_X10_readChange_69 (q_X10_numeralG (x_l X) V c T Z u h P12610 L _ _ 500 2000 2 h12609.1 (hob) oP12610 (by omega) (by omega) (fa12628) (by decide)) cb_X10_numeral ml_X10_165 im_X10_numeral se_X10_numeral h12609 rfl rfl (rest := []) rfl (Nat.le_of_ble_eq_true rfl) ⟨Nat.le_of_ble_eq_true rfl, Nat.le_of_ble_eq_true rfl⟩ ⟨Nat.le_of_ble_eq_true rfl, Nat.le_of_ble_eq_true rfl⟩ (fun r σ12724 hp => ?_)
        obtain ⟨h12725, hp⟩ := hp
        have h12726 := HS.trans h12609 h12725 (by decide)
        obtain ⟨rfl, rfl⟩ := hp
        refine m_istore F (lv' := [(4, .int (nI 500)), (3, .int (nI lc)), (2, .int (nI lc)), (1, .int (nI (8 + P.n7))), (0, .ref c)]) e_X10_readChange_72 (by decide) rfl ?_
        refine m_aload_n F rfl e_X10_readChange_74 ?_
        refine r_getC F e_X10_readChange_75 fl_X10_141 h12726 (fa12628) ?_
        refine m_if_eq F e_X10_readChange_78 (fun q => absurd q (by decide)) (fun _ => ?_)
        exact m_vret F hQ e_X10_readChange_81 (⟨P12610, oP12610, (by unfold RP; omega), (by unfold indexS; dsimp only; rw [if_neg (by omega), ek12589, numK_2 e12619 e12620]; exact RM.l (fa12628) (fb12629) (by decide) (by decide) (by omega)), h12726, rfl⟩)
    · have c29 : P.n7 ≠ 0 := by have hh := mt (nI_eq (a := P.n7) (b := 0) (by omega) (by omega)).mpr q29; omega
      refine m_aload_n F rfl e_X10_readChange_32 ?_
      refine r_getC F e_X10_readChange_33 fl_X10_141 h12599 ((fld_eq (h12598.2 c (by rw [show kC c c = 1 from kC_at (k := 0) (by decide)]; decide))).trans yd12595) ?_
      refine m_if_eq F e_X10_readChange_36 (fun _ => ?_) (fun q => absurd (by decide) q)
      refine m_aload_n F rfl e_X10_readChange_43 ?_
      refine r_get F e_X10_readChange_44 fl_X10_40 h12599 rfl (fun v hv f12727 => ?_)
      obtain rfl : v = .ref (c + 11) := hv
      refine m_iload_n F rfl e_X10_readChange_47 ?_
      refine m_iconst F (v := 1) (by decide) e_X10_readChange_48 ?_
      refine m_isub F e_X10_readChange_49 ?_
      refine Wm.topE (w := nI ((8 + P.n7) - 1)) (pk_sub (a := 8 + P.n7) (b := 1) (by omega)) ?_
      have hq9 : 1 ≤ lc ∧ lc ≤ 100 ∧ elI σ12597 (c + 11) (7 + P.n7) = some (nI (lc - 1)) := by
        rcases ga12606 with h9 | h9
        · omega
        · exact ⟨h9.2.1, h9.2.2.1, h9.2.2.2⟩
      refine r_iald F (len := 16) (j := (8 + P.n7) - 1) e_X10_readChange_50 h12599 (fun _ h => h) (by decide) (nI_clamp (by omega)) (vp_in_nI (by omega) (by decide)) (fun x12728 h12729 f12730 => ?_)
      obtain rfl := Option.some.inj ((f12730).symm.trans ((by rw [show (8 + P.n7) - 1 = 7 + P.n7 by omega]; exact hq9.2.2)))
      refine m_iconst F (v := 1) (by decide) e_X10_readChange_51 ?_
      refine m_iadd F e_X10_readChange_52 ?_
      refine Wm.topE (w := nI (lc - 1 + 1)) (nI_add (lc - 1) 1) ?_
      refine Wm.topE (w := nI lc) (congrArg nI (by omega)) ?_
      have hlb : lc ≤ 100 := by rcases hp11 with h9 | h9 <;> omega
      refine m_istore_n F (lv' := [(2, .int (nI lc)), (1, .int (nI (8 + P.n7))), (0, .ref c)]) e_X10_readChange_53 (by decide) rfl ?_
      refine m_aload_n F rfl e_X10_readChange_54 ?_
      refine m_iload_n F rfl e_X10_readChange_55 ?_
      refine m_bipush F (v := 99) (by decide) e_X10_readChange_56 ?_
      refine r_callV F e_X10_readChange_58 (q_X10_numeralE (x_l X) V c T Z u h P12575 L _ _ lc 99 n k12589.1 so12585 va12586 ln fp t k12589.2.1 k12589.2.2.1 h12599.1 (hob) oP12575 (by omega) (by omega) ⟨((fld_eq (h12598.2 c (by rw [show kC c c = 1 from kC_at (k := 0) (by decide)]; decide))).trans yd12590), ((fld_eq (h12598.2 c (by rw [show kC c c = 1 from kC_at (k := 0) (by decide)]; decide))).trans yd12591), ((fld_eq (h12598.2 c (by rw [show kC c c = 1 from kC_at (k := 0) (by decide)]; decide))).trans yd12592), ((fld_eq (h12598.2 c (by rw [show kC c c = 1 from kC_at (k := 0) (by decide)]; decide))).trans yd12593), ((fld_eq (h12598.2 c (by rw [show kC c c = 1 from kC_at (k := 0) (by decide)]; decide))).trans yd12594), ((fld_eq (h12598.2 c (by rw [show kC c c = 1 from kC_at (k := 0) (by decide)]; decide))).trans yd12595), ((fld_eq (h12598.2 c (by rw [show kC c c = 1 from kC_at (k := 0) (by decide)]; decide))).trans yd12596)⟩ ga12600 hn7 (by omega) mt12587) cb_X10_numeral ml_X10_165 im_X10_numeral se_X10_numeral h12599 rfl rfl (rest := []) rfl (Nat.le_of_ble_eq_true rfl) ⟨Nat.le_of_ble_eq_true rfl, Nat.le_of_ble_eq_true rfl⟩ ⟨Nat.le_of_ble_eq_true rfl, Nat.le_of_ble_eq_true rfl⟩ (fun r σ12731 hp => ?_)
      obtain ⟨P12734, oP12734, rP12734, pr12735, h12732, hp⟩ := hp
      have h12733 := HS.trans h12599 h12732 (by decide)
      have xP12734 := oP12734
      unfold OKP at xP12734
      unfold RA at rP12734
      have ga12736 := ga12600.of (h12732.2 (c + 1) (by rw [kC_at (k := 1) (by decide)]; decide))
      have ga12737 := ga12601.of (h12732.2 (c + 2) (by rw [kC_at (k := 2) (by decide)]; decide))
      have ga12738 := ga12602.of (h12732.2 (c + 3) (by rw [kC_at (k := 3) (by decide)]; decide))
      have ga12739 := ga12603.of (h12732.2 (c + 7) (by rw [kC_at (k := 7) (by decide)]; decide))
      have ga12740 := ga12604.of (h12732.2 (c + 8) (by rw [kC_at (k := 8) (by decide)]; decide))
      have ga12741 := ga12605.of (h12732.2 (c + 9) (by rw [kC_at (k := 9) (by decide)]; decide))
      have ga12742 := ga12606.of (h12732.2 (c + 11) (by rw [kC_at (k := 11) (by decide)]; decide))
      rcases pr12735 with ⟨e12743, l12745, l12746, ea12747, ⟨so12748, va12749, mt12750, yd12751⟩, rfl⟩ | ⟨e12743, ⟨fa12752, fb12753⟩, rfl⟩ | ⟨e12743, e12744, ⟨fa12752, fb12753⟩, rfl⟩
      · have bk12754 := tok_ok (t := t) (n := n) P12575.a (by omega)
        generalize ek12754 : tok t n P12575.a = k12754 at ea12747 mt12750 yd12751 bk12754
        rw [show P12575.a = k12589.2.2.2 by omega] at ek12754
        have hyd12755 := yd12751
        obtain ⟨yd12755, yd12756, yd12757, yd12758, yd12759, yd12760, yd12761⟩ := hyd12755
        refine m_istore_n F (lv' := [(3, .int (nI k12589.2.2.1)), (2, .int (nI lc)), (1, .int (nI (8 + P.n7))), (0, .ref c)]) e_X10_readChange_61 (by decide) rfl ?_
        refine m_aload_n F rfl e_X10_readChange_62 ?_
        refine m_sipush F (v := 500) (by decide) e_X10_readChange_63 ?_
        refine m_sipush F (v := 2000) (by decide) e_X10_readChange_66 ?_
        refine r_callV F e_X10_readChange_69 (q_X10_numeralE (x_l X) V c T Z u h P12734 L _ _ 500 2000 n k12754.1 so12748 va12749 ln fp t k12754.2.1 k12754.2.2.1 h12733.1 (hob) oP12734 (by omega) (by omega) ⟨(yd12755), (yd12756), (yd12757), (yd12758), (yd12759), (yd12760), (yd12761)⟩ ga12736 hn7 (by omega) mt12750) cb_X10_numeral ml_X10_165 im_X10_numeral se_X10_numeral h12733 rfl rfl (rest := []) rfl (Nat.le_of_ble_eq_true rfl) ⟨Nat.le_of_ble_eq_true rfl, Nat.le_of_ble_eq_true rfl⟩ ⟨Nat.le_of_ble_eq_true rfl, Nat.le_of_ble_eq_true rfl⟩ (fun r σ12762 hp => ?_)
        obtain ⟨P12765, oP12765, rP12765, pr12766, h12763, hp⟩ := hp
        have h12764 := HS.trans h12733 h12763 (by decide)
        have xP12765 := oP12765
        unfold OKP at xP12765
        unfold RA at rP12765
        have ga12767 := ga12736.of (h12763.2 (c + 1) (by rw [kC_at (k := 1) (by decide)]; decide))
        have ga12768 := ga12737.of (h12763.2 (c + 2) (by rw [kC_at (k := 2) (by decide)]; decide))
        have ga12769 := ga12738.of (h12763.2 (c + 3) (by rw [kC_at (k := 3) (by decide)]; decide))
        have ga12770 := ga12739.of (h12763.2 (c + 7) (by rw [kC_at (k := 7) (by decide)]; decide))
        have ga12771 := ga12740.of (h12763.2 (c + 8) (by rw [kC_at (k := 8) (by decide)]; decide))
        have ga12772 := ga12741.of (h12763.2 (c + 9) (by rw [kC_at (k := 9) (by decide)]; decide))
        have ga12773 := ga12742.of (h12763.2 (c + 11) (by rw [kC_at (k := 11) (by decide)]; decide))
        rcases pr12766 with ⟨e12774, l12776, l12777, ea12778, ⟨so12779, va12780, mt12781, yd12782⟩, rfl⟩ | ⟨e12774, ⟨fa12783, fb12784⟩, rfl⟩ | ⟨e12774, e12775, ⟨fa12783, fb12784⟩, rfl⟩
        · have bk12785 := tok_ok (t := t) (n := n) P12734.a (by omega)
          generalize ek12785 : tok t n P12734.a = k12785 at ea12778 mt12781 yd12782 bk12785
          rw [show P12734.a = k12754.2.2.2 by omega] at ek12785
          have hyd12786 := yd12782
          obtain ⟨yd12786, yd12787, yd12788, yd12789, yd12790, yd12791, yd12792⟩ := hyd12786
          refine m_istore F (lv' := [(4, .int (nI k12754.2.2.1)), (3, .int (nI k12589.2.2.1)), (2, .int (nI lc)), (1, .int (nI (8 + P.n7))), (0, .ref c)]) e_X10_readChange_72 (by decide) rfl ?_
          refine m_aload_n F rfl e_X10_readChange_74 ?_
          refine r_getC F e_X10_readChange_75 fl_X10_141 h12764 (yd12791) ?_
          refine m_if_eq F e_X10_readChange_78 (fun _ => ?_) (fun q => absurd (by decide) q)
          refine m_aload_n F rfl e_X10_readChange_82 ?_
          refine r_get F e_X10_readChange_83 fl_X10_40 h12764 rfl (fun v hv f12793 => ?_)
          obtain rfl : v = .ref (c + 11) := hv
          refine m_iload_n F rfl e_X10_readChange_86 ?_
          refine m_iload_n F rfl e_X10_readChange_87 ?_
          refine r_iast F (g' := (⟨T, Z, u, h, P12765, L⟩ : RG)) (len := 16) (j := 8 + P.n7) e_X10_readChange_88 h12764 (fun _ h => h) (fun f h => ⟨f, rfl, h⟩) (by decide) (by decide) (nI_clamp (by omega)) (vp_in_nI (by omega) (by decide)) ⟨k12589.2.2.1, by omega, rfl⟩ (fun _ _ _ h => h) (fun _ _ _ h => h) (fun σ12794 h12795 g12796 f12797 g12798 => ?_)
          have ga12799 := ga12767.of (g12796 _ (by omega))
          have ga12800 := ga12768.of (g12796 _ (by omega))
          have ga12801 := ga12769.of (g12796 _ (by omega))
          have ga12802 := ga12770.of (g12796 _ (by omega))
          have ga12803 := ga12771.of (g12796 _ (by omega))
          have ga12804 := ga12772.of (g12796 _ (by omega))
          have ga12805 := QR.put (by omega) f12797
          refine m_aload_n F rfl e_X10_readChange_89 ?_
          refine r_get F e_X10_readChange_90 fl_X10_43 h12795 rfl (fun v hv f12806 => ?_)
          obtain rfl : v = .ref (c + 12) := hv
          refine m_iload_n F rfl e_X10_readChange_93 ?_
          refine m_iload F rfl e_X10_readChange_94 ?_
          refine r_iast F (g' := (⟨T, Z, u, h, (mkP P12765.n0 P12765.n2 P12765.n5 P12765.n7 P12765.m0 P12765.m5 P12765.w2 (P12765.n7 + 1) P12765.kk P12765.a), L⟩ : RG)) (len := 16) (j := 8 + P.n7) e_X10_readChange_96 h12795 (fun _ h => h) (fun f h => ⟨f, rfl, h⟩) (by decide) (by decide) (nI_clamp (by omega)) (vp_in_nI (by omega) (by decide)) ⟨k12754.2.2.1, by omega, rfl, fun h7 _ => absurd h7 (by omega), fun _ _ => by omega⟩ (fun i hi y hy => by obtain ⟨n9, a9, b9, c9, d9⟩ := hy; exact ⟨n9, a9, b9, c9, fun h7 h8 => d9 h7 (show i < 8 + P12765.w7 by have h6 : i < 8 + (P12765.n7 + 1) := h8; omega)⟩) (CR.chg (by intro k hk i x h; unfold EI at h ⊢; split at h <;> first | exact h | exact absurd rfl hk | trivial) rfl rfl) (fun σ12807 h12808 g12809 f12810 g12811 => ?_)
          have ga12812 := ga12799.of (g12809 _ (by omega))
          have ga12813 := ga12800.of (g12809 _ (by omega))
          have ga12814 := ga12801.of (g12809 _ (by omega))
          have ga12815 := ga12802.of (g12809 _ (by omega))
          have ga12816 := ga12803.of (g12809 _ (by omega))
          have ga12817 := ga12804.of (g12809 _ (by omega))
          have ga12818 := ga12805.of (g12809 _ (by omega))
          obtain ⟨P12819, eP12819⟩ : ∃ P9, P9 = (mkP P12765.n0 P12765.n2 P12765.n5 P12765.n7 P12765.m0 P12765.m5 P12765.w2 (P12765.n7 + 1) P12765.kk P12765.a) := ⟨_, rfl⟩
          rw [← eP12819] at h12808
          have fP12819 : P12819.n0 = P12765.n0 ∧ P12819.n2 = P12765.n2 ∧ P12819.n5 = P12765.n5 ∧ P12819.n7 = P12765.n7 ∧ P12819.m0 = P12765.m0 ∧ P12819.m5 = P12765.m5 ∧ P12819.w2 = P12765.w2 ∧ P12819.w7 = P12765.n7 + 1 ∧ P12819.kk = P12765.kk ∧ P12819.a = P12765.a := by rw [eP12819]; exact ⟨rfl, rfl, rfl, rfl, rfl, rfl, rfl, rfl, rfl, rfl⟩
          refine m_aload_n F rfl e_X10_readChange_97 ?_
          refine m_iconst F (v := 2) (by decide) e_X10_readChange_98 ?_
          refine m_aload_n F rfl e_X10_readChange_99 ?_
          refine m_iconst F (v := 2) (by decide) e_X10_readChange_100 ?_
          have oP12823 : OKP P12819 := by unfold OKP; omega
          refine r_callV F e_X10_readChange_101 (q_X10_reading2 (x_l X) V c T Z u h P12819 L _ _  h12808.1 (hob) oP12823 ) cb_X10_reading ml_X10_157 im_X10_reading se_X10_reading h12808 rfl rfl (rest := [.int 2, .ref c]) rfl (Nat.le_of_ble_eq_true rfl) ⟨Nat.le_of_ble_eq_true rfl, Nat.le_of_ble_eq_true rfl⟩ ⟨Nat.le_of_ble_eq_true rfl, Nat.le_of_ble_eq_true rfl⟩ (fun r σ12820 hp => ?_)
          obtain ⟨h12821, rfl⟩ := hp
          have h12822 := HS.trans h12808 h12821 (by decide)
          have ga12824 := ga12812.of (h12821.2 (c + 1) (by rw [kC_at (k := 1) (by decide)]; decide))
          have ga12825 := ga12813.of (h12821.2 (c + 2) (by rw [kC_at (k := 2) (by decide)]; decide))
          have ga12826 := ga12814.of (h12821.2 (c + 3) (by rw [kC_at (k := 3) (by decide)]; decide))
          have ga12827 := ga12815.of (h12821.2 (c + 7) (by rw [kC_at (k := 7) (by decide)]; decide))
          have ga12828 := ga12816.of (h12821.2 (c + 8) (by rw [kC_at (k := 8) (by decide)]; decide))
          have ga12829 := ga12817.of (h12821.2 (c + 9) (by rw [kC_at (k := 9) (by decide)]; decide))
          have ga12830 := ga12818.of (h12821.2 (c + 11) (by rw [kC_at (k := 11) (by decide)]; decide))
          refine Wm.topE (w := nI P.n7) (congrArg nI (by omega)) ?_
          refine m_iconst F (v := 1) (by decide) e_X10_readChange_104 ?_
          refine m_iadd F e_X10_readChange_105 ?_
          refine Wm.topE (w := nI (P.n7 + 1)) (nI_add P.n7 1) ?_
          refine r_callV F e_X10_readChange_106 (q_X10_reads2E (x_l X) V c T Z u h P12819 L _ _ (P.n7 + 1)  h12822.1 (hob) oP12823 (by omega) (by omega)) cb_X10_reads ml_X10_170 im_X10_reads se_X10_reads h12822 rfl rfl (rest := []) rfl (Nat.le_of_ble_eq_true rfl) ⟨Nat.le_of_ble_eq_true rfl, Nat.le_of_ble_eq_true rfl⟩ ⟨Nat.le_of_ble_eq_true rfl, Nat.le_of_ble_eq_true rfl⟩ (fun r σ12831 hp => ?_)
          obtain ⟨h12832, hp⟩ := hp
          have h12833 := HS.trans h12822 h12832 (by decide)
          have ga12834 := ga12824.of (h12832.2 (c + 1) (by rw [kC_at (k := 1) (by decide)]; decide))
          have ga12835 := ga12826.of (h12832.2 (c + 3) (by rw [kC_at (k := 3) (by decide)]; decide))
          have ga12836 := ga12827.of (h12832.2 (c + 7) (by rw [kC_at (k := 7) (by decide)]; decide))
          have ga12837 := ga12828.of (h12832.2 (c + 8) (by rw [kC_at (k := 8) (by decide)]; decide))
          have ga12838 := ga12829.of (h12832.2 (c + 9) (by rw [kC_at (k := 9) (by decide)]; decide))
          have ga12839 := ga12830.of (h12832.2 (c + 11) (by rw [kC_at (k := 11) (by decide)]; decide))
          obtain ⟨ea12840, eb12841, rfl⟩ := hp
          have ga12842 := NR.k ga12825 eb12841 (by decide) (by decide) (by decide)
          obtain ⟨P12843, eP12843⟩ : ∃ P9, P9 = (mkP P12819.n0 P12819.n2 P12819.n5 (P.n7 + 1) P12819.m0 P12819.m5 P12819.w2 P12819.w7 P12819.kk P12819.a) := ⟨_, rfl⟩
          rw [← eP12843] at h12833
          have fP12843 : P12843.n0 = P12819.n0 ∧ P12843.n2 = P12819.n2 ∧ P12843.n5 = P12819.n5 ∧ P12843.n7 = P.n7 + 1 ∧ P12843.m0 = P12819.m0 ∧ P12843.m5 = P12819.m5 ∧ P12843.w2 = P12819.w2 ∧ P12843.w7 = P12819.w7 ∧ P12843.kk = P12819.kk ∧ P12843.a = P12819.a := by rw [eP12843]; exact ⟨rfl, rfl, rfl, rfl, rfl, rfl, rfl, rfl, rfl, rfl⟩
          have oP12844 : OKP P12843 := by unfold OKP; omega
          exact m_vret F hQ e_X10_readChange_109 (⟨P12843, oP12844, (by unfold RP; omega), (by unfold indexS; dsimp only; rw [if_neg (by omega), ek12589, numK_ok e12743 l12745 l12746, ek12754, numK_ok e12774 l12776 l12777, ek12785]; exact RM.r mt12781 ⟨((fld_eq (h12832.2 c (by rw [show kC c c = 1 from kC_at (k := 0) (by decide)]; decide))).trans ((fld_eq (h12821.2 c (by rw [show kC c c = 1 from kC_at (k := 0) (by decide)]; decide))).trans ((fld_eq (g12809 _ (by omega))).trans ((fld_eq (g12796 _ (by omega))).trans yd12786)))), ((fld_eq (h12832.2 c (by rw [show kC c c = 1 from kC_at (k := 0) (by decide)]; decide))).trans ((fld_eq (h12821.2 c (by rw [show kC c c = 1 from kC_at (k := 0) (by decide)]; decide))).trans ((fld_eq (g12809 _ (by omega))).trans ((fld_eq (g12796 _ (by omega))).trans yd12787)))), ((fld_eq (h12832.2 c (by rw [show kC c c = 1 from kC_at (k := 0) (by decide)]; decide))).trans ((fld_eq (h12821.2 c (by rw [show kC c c = 1 from kC_at (k := 0) (by decide)]; decide))).trans ((fld_eq (g12809 _ (by omega))).trans ((fld_eq (g12796 _ (by omega))).trans yd12788)))), ((fld_eq (h12832.2 c (by rw [show kC c c = 1 from kC_at (k := 0) (by decide)]; decide))).trans ((fld_eq (h12821.2 c (by rw [show kC c c = 1 from kC_at (k := 0) (by decide)]; decide))).trans ((fld_eq (g12809 _ (by omega))).trans ((fld_eq (g12796 _ (by omega))).trans yd12789)))), ((fld_eq (h12832.2 c (by rw [show kC c c = 1 from kC_at (k := 0) (by decide)]; decide))).trans ((fld_eq (h12821.2 c (by rw [show kC c c = 1 from kC_at (k := 0) (by decide)]; decide))).trans ((fld_eq (g12809 _ (by omega))).trans ((fld_eq (g12796 _ (by omega))).trans yd12790)))), ((fld_eq (h12832.2 c (by rw [show kC c c = 1 from kC_at (k := 0) (by decide)]; decide))).trans ((fld_eq (h12821.2 c (by rw [show kC c c = 1 from kC_at (k := 0) (by decide)]; decide))).trans ((fld_eq (g12809 _ (by omega))).trans ((fld_eq (g12796 _ (by omega))).trans yd12791)))), ((fld_eq (h12832.2 c (by rw [show kC c c = 1 from kC_at (k := 0) (by decide)]; decide))).trans ((fld_eq (h12821.2 c (by rw [show kC c c = 1 from kC_at (k := 0) (by decide)]; decide))).trans ((fld_eq (g12809 _ (by omega))).trans ((fld_eq (g12796 _ (by omega))).trans yd12792))))⟩ (by omega) (by omega) (by omega) ga12842 ga12835 ga12836 ga12837 ga12838 ga12839 (by omega) (by omega) (by omega) (by omega) (by omega)), h12833, rfl⟩)
        · have hz9 : True := trivial
          refine m_istore F (lv' := [(4, .int (nI 500)), (3, .int (nI k12589.2.2.1)), (2, .int (nI lc)), (1, .int (nI (8 + P.n7))), (0, .ref c)]) e_X10_readChange_72 (by decide) rfl ?_
          refine m_aload_n F rfl e_X10_readChange_74 ?_
          refine r_getC F e_X10_readChange_75 fl_X10_141 h12764 (fa12783) ?_
          refine m_if_eq F e_X10_readChange_78 (fun q => absurd q (by decide)) (fun _ => ?_)
          exact m_vret F hQ e_X10_readChange_81 (⟨P12765, oP12765, (by unfold RP; omega), (by unfold indexS; dsimp only; rw [if_neg (by omega), ek12589, numK_ok e12743 l12745 l12746, ek12754, numK_1 e12774]; exact RM.l (fa12783) (fb12784) (by decide) (by decide) (by omega)), h12764, rfl⟩)
        · have hz9 : True := trivial
          refine m_istore F (lv' := [(4, .int (nI 500)), (3, .int (nI k12589.2.2.1)), (2, .int (nI lc)), (1, .int (nI (8 + P.n7))), (0, .ref c)]) e_X10_readChange_72 (by decide) rfl ?_
          refine m_aload_n F rfl e_X10_readChange_74 ?_
          refine r_getC F e_X10_readChange_75 fl_X10_141 h12764 (fa12783) ?_
          refine m_if_eq F e_X10_readChange_78 (fun q => absurd q (by decide)) (fun _ => ?_)
          exact m_vret F hQ e_X10_readChange_81 (⟨P12765, oP12765, (by unfold RP; omega), (by unfold indexS; dsimp only; rw [if_neg (by omega), ek12589, numK_ok e12743 l12745 l12746, ek12754, numK_2 e12774 e12775]; exact RM.l (fa12783) (fb12784) (by decide) (by decide) (by omega)), h12764, rfl⟩)
      · have hz9 : True := trivial
        refine m_istore_n F (lv' := [(3, .int (nI lc)), (2, .int (nI lc)), (1, .int (nI (8 + P.n7))), (0, .ref c)]) e_X10_readChange_61 (by decide) rfl ?_
        refine m_aload_n F rfl e_X10_readChange_62 ?_
        refine m_sipush F (v := 500) (by decide) e_X10_readChange_63 ?_
        refine m_sipush F (v := 2000) (by decide) e_X10_readChange_66 ?_
        refine r_callV F e_X10_readChange_69 (q_X10_numeralG (x_l X) V c T Z u h P12734 L _ _ 500 2000 1 h12733.1 (hob) oP12734 (by omega) (by omega) (fa12752) (by decide)) cb_X10_numeral ml_X10_165 im_X10_numeral se_X10_numeral h12733 rfl rfl (rest := []) rfl (Nat.le_of_ble_eq_true rfl) ⟨Nat.le_of_ble_eq_true rfl, Nat.le_of_ble_eq_true rfl⟩ ⟨Nat.le_of_ble_eq_true rfl, Nat.le_of_ble_eq_true rfl⟩ (fun r σ12845 hp => ?_)
        obtain ⟨h12846, hp⟩ := hp
        have h12847 := HS.trans h12733 h12846 (by decide)
        obtain ⟨rfl, rfl⟩ := hp
        refine m_istore F (lv' := [(4, .int (nI 500)), (3, .int (nI lc)), (2, .int (nI lc)), (1, .int (nI (8 + P.n7))), (0, .ref c)]) e_X10_readChange_72 (by decide) rfl ?_
        refine m_aload_n F rfl e_X10_readChange_74 ?_
        refine r_getC F e_X10_readChange_75 fl_X10_141 h12847 (fa12752) ?_
        refine m_if_eq F e_X10_readChange_78 (fun q => absurd q (by decide)) (fun _ => ?_)
        exact m_vret F hQ e_X10_readChange_81 (⟨P12734, oP12734, (by unfold RP; omega), (by unfold indexS; dsimp only; rw [if_neg (by omega), ek12589, numK_1 e12743]; exact RM.l (fa12752) (fb12753) (by decide) (by decide) (by omega)), h12847, rfl⟩)
      · have hz9 : True := trivial
        refine m_istore_n F (lv' := [(3, .int (nI lc)), (2, .int (nI lc)), (1, .int (nI (8 + P.n7))), (0, .ref c)]) e_X10_readChange_61 (by decide) rfl ?_
        refine m_aload_n F rfl e_X10_readChange_62 ?_
        refine m_sipush F (v := 500) (by decide) e_X10_readChange_63 ?_
        refine m_sipush F (v := 2000) (by decide) e_X10_readChange_66 ?_
        refine r_callV F e_X10_readChange_69 (q_X10_numeralG (x_l X) V c T Z u h P12734 L _ _ 500 2000 2 h12733.1 (hob) oP12734 (by omega) (by omega) (fa12752) (by decide)) cb_X10_numeral ml_X10_165 im_X10_numeral se_X10_numeral h12733 rfl rfl (rest := []) rfl (Nat.le_of_ble_eq_true rfl) ⟨Nat.le_of_ble_eq_true rfl, Nat.le_of_ble_eq_true rfl⟩ ⟨Nat.le_of_ble_eq_true rfl, Nat.le_of_ble_eq_true rfl⟩ (fun r σ12848 hp => ?_)
        obtain ⟨h12849, hp⟩ := hp
        have h12850 := HS.trans h12733 h12849 (by decide)
        obtain ⟨rfl, rfl⟩ := hp
        refine m_istore F (lv' := [(4, .int (nI 500)), (3, .int (nI lc)), (2, .int (nI lc)), (1, .int (nI (8 + P.n7))), (0, .ref c)]) e_X10_readChange_72 (by decide) rfl ?_
        refine m_aload_n F rfl e_X10_readChange_74 ?_
        refine r_getC F e_X10_readChange_75 fl_X10_141 h12850 (fa12752) ?_
        refine m_if_eq F e_X10_readChange_78 (fun q => absurd q (by decide)) (fun _ => ?_)
        exact m_vret F hQ e_X10_readChange_81 (⟨P12734, oP12734, (by unfold RP; omega), (by unfold indexS; dsimp only; rw [if_neg (by omega), ek12589, numK_2 e12743 e12744]; exact RM.l (fa12752) (fb12753) (by decide) (by decide) (by omega)), h12850, rfl⟩)
  · have c12 : (8 + P.n7) = 16 := (nI_eq (a := (8 + P.n7)) (b := 16) (by omega) (by omega)).mp q12
    refine m_aload_n F rfl e_X10_readChange_15 ?_
    refine m_iconst F (v := 2) (by decide) e_X10_readChange_16 ?_
    refine r_callV F e_X10_readChange_17 (q_X10_wrongE (x_l X) V c T Z u h P L _ _ 2 n st so va ln fp h12564.1 (hob) hP (by omega) ⟨((fld_eq (h12563.2 c (by rw [show kC c c = 1 from kC_at (k := 0) (by decide)]; decide))).trans yd12555), ((fld_eq (h12563.2 c (by rw [show kC c c = 1 from kC_at (k := 0) (by decide)]; decide))).trans yd12556), ((fld_eq (h12563.2 c (by rw [show kC c c = 1 from kC_at (k := 0) (by decide)]; decide))).trans yd12557), ((fld_eq (h12563.2 c (by rw [show kC c c = 1 from kC_at (k := 0) (by decide)]; decide))).trans yd12558), ((fld_eq (h12563.2 c (by rw [show kC c c = 1 from kC_at (k := 0) (by decide)]; decide))).trans yd12559), ((fld_eq (h12563.2 c (by rw [show kC c c = 1 from kC_at (k := 0) (by decide)]; decide))).trans yd12560), ((fld_eq (h12563.2 c (by rw [show kC c c = 1 from kC_at (k := 0) (by decide)]; decide))).trans yd12561)⟩ (by decide)) cb_X10_wrong ml_X10_150 im_X10_wrong se_X10_wrong h12564 rfl rfl (rest := []) rfl (Nat.le_of_ble_eq_true rfl) ⟨Nat.le_of_ble_eq_true rfl, Nat.le_of_ble_eq_true rfl⟩ ⟨Nat.le_of_ble_eq_true rfl, Nat.le_of_ble_eq_true rfl⟩ (fun r σ12851 hp => ?_)
    obtain ⟨h12852, hp⟩ := hp
    have h12853 := HS.trans h12564 h12852 (by decide)
    have ga12854 := ga12565.of (h12852.2 (c + 1) (by rw [kC_at (k := 1) (by decide)]; decide))
    have ga12855 := ga12566.of (h12852.2 (c + 2) (by rw [kC_at (k := 2) (by decide)]; decide))
    have ga12856 := ga12567.of (h12852.2 (c + 3) (by rw [kC_at (k := 3) (by decide)]; decide))
    have ga12857 := ga12568.of (h12852.2 (c + 7) (by rw [kC_at (k := 7) (by decide)]; decide))
    have ga12858 := ga12569.of (h12852.2 (c + 8) (by rw [kC_at (k := 8) (by decide)]; decide))
    have ga12859 := ga12570.of (h12852.2 (c + 9) (by rw [kC_at (k := 9) (by decide)]; decide))
    have ga12860 := ga12571.of (h12852.2 (c + 11) (by rw [kC_at (k := 11) (by decide)]; decide))
    obtain ⟨hp, rfl⟩ := hp
    have hyd12861 := hp
    obtain ⟨yd12861, yd12862, yd12863, yd12864, yd12865, yd12866, yd12867⟩ := hyd12861
    refine m_aload_n F rfl e_X10_readChange_20 ?_
    refine r_callV F e_X10_readChange_21 (q_X10_goOnG (x_l X) V c T 0 u h P L _ _  2 h12853.1 (hob) hP  (yd12866) (by decide)) cb_X10_goOn ml_X10_154 im_X10_goOn se_X10_goOn h12853 rfl rfl (rest := []) rfl (Nat.le_of_ble_eq_true rfl) ⟨Nat.le_of_ble_eq_true rfl, Nat.le_of_ble_eq_true rfl⟩ ⟨Nat.le_of_ble_eq_true rfl, Nat.le_of_ble_eq_true rfl⟩ (fun r σ12868 hp => ?_)
    obtain ⟨h12869, hp⟩ := hp
    have h12870 := HS.trans h12853 h12869 (by decide)
    have ga12871 := ga12854.of (h12869.2 (c + 1) (by rw [kC_at (k := 1) (by decide)]; decide))
    have ga12872 := ga12855.of (h12869.2 (c + 2) (by rw [kC_at (k := 2) (by decide)]; decide))
    have ga12873 := ga12856.of (h12869.2 (c + 3) (by rw [kC_at (k := 3) (by decide)]; decide))
    have ga12874 := ga12857.of (h12869.2 (c + 7) (by rw [kC_at (k := 7) (by decide)]; decide))
    have ga12875 := ga12858.of (h12869.2 (c + 8) (by rw [kC_at (k := 8) (by decide)]; decide))
    have ga12876 := ga12859.of (h12869.2 (c + 9) (by rw [kC_at (k := 9) (by decide)]; decide))
    have ga12877 := ga12860.of (h12869.2 (c + 11) (by rw [kC_at (k := 11) (by decide)]; decide))
    obtain ⟨rfl, rfl⟩ := hp
    refine m_aload_n F rfl e_X10_readChange_24 ?_
    refine m_iconst F (v := 2) (by decide) e_X10_readChange_25 ?_
    refine r_callV F e_X10_readChange_26 (q_X10_reading2 (x_l X) V c T 0 u h P L _ _  h12870.1 (hob) hP ) cb_X10_reading ml_X10_157 im_X10_reading se_X10_reading h12870 rfl rfl (rest := []) rfl (Nat.le_of_ble_eq_true rfl) ⟨Nat.le_of_ble_eq_true rfl, Nat.le_of_ble_eq_true rfl⟩ ⟨Nat.le_of_ble_eq_true rfl, Nat.le_of_ble_eq_true rfl⟩ (fun r σ12878 hp => ?_)
    obtain ⟨h12879, rfl⟩ := hp
    have h12880 := HS.trans h12870 h12879 (by decide)
    have ga12881 := ga12854.of (h12879.2 (c + 1) (by rw [kC_at (k := 1) (by decide)]; decide))
    have ga12882 := ga12855.of (h12879.2 (c + 2) (by rw [kC_at (k := 2) (by decide)]; decide))
    have ga12883 := ga12856.of (h12879.2 (c + 3) (by rw [kC_at (k := 3) (by decide)]; decide))
    have ga12884 := ga12857.of (h12879.2 (c + 7) (by rw [kC_at (k := 7) (by decide)]; decide))
    have ga12885 := ga12858.of (h12879.2 (c + 8) (by rw [kC_at (k := 8) (by decide)]; decide))
    have ga12886 := ga12859.of (h12879.2 (c + 9) (by rw [kC_at (k := 9) (by decide)]; decide))
    have ga12887 := ga12860.of (h12879.2 (c + 11) (by rw [kC_at (k := 11) (by decide)]; decide))
    refine Wm.topE (w := nI P.n7) (congrArg nI (by omega)) ?_
    refine m_if_eq F e_X10_readChange_29 (fun q29 => ?_) (fun q29 => ?_)
    · have c29 : P.n7 = 0 := (nI_eq (a := P.n7) (b := 0) (by omega) (by omega)).mp q29
      refine m_iconst F (v := 0) (by decide) e_X10_readChange_39 ?_
      refine m_goto F e_X10_readChange_40 ?_
      refine m_istore_n F (lv' := [(2, .int 0), (1, .int (nI (8 + P.n7))), (0, .ref c)]) e_X10_readChange_53 (by decide) rfl ?_
      refine m_aload_n F rfl e_X10_readChange_54 ?_
      refine m_iload_n F rfl e_X10_readChange_55 ?_
      refine m_bipush F (v := 99) (by decide) e_X10_readChange_56 ?_
      refine r_callV F e_X10_readChange_58 (q_X10_numeralG (x_l X) V c T 0 u h P L _ _ 0 99 2 h12880.1 (hob) hP (by omega) (by omega) ((fld_eq (h12879.2 c (by rw [show kC c c = 1 from kC_at (k := 0) (by decide)]; decide))).trans yd12866) (by decide)) cb_X10_numeral ml_X10_165 im_X10_numeral se_X10_numeral h12880 rfl rfl (rest := []) rfl (Nat.le_of_ble_eq_true rfl) ⟨Nat.le_of_ble_eq_true rfl, Nat.le_of_ble_eq_true rfl⟩ ⟨Nat.le_of_ble_eq_true rfl, Nat.le_of_ble_eq_true rfl⟩ (fun r σ12888 hp => ?_)
      obtain ⟨h12889, hp⟩ := hp
      have h12890 := HS.trans h12880 h12889 (by decide)
      have ga12891 := ga12881.of (h12889.2 (c + 1) (by rw [kC_at (k := 1) (by decide)]; decide))
      have ga12892 := ga12882.of (h12889.2 (c + 2) (by rw [kC_at (k := 2) (by decide)]; decide))
      have ga12893 := ga12883.of (h12889.2 (c + 3) (by rw [kC_at (k := 3) (by decide)]; decide))
      have ga12894 := ga12884.of (h12889.2 (c + 7) (by rw [kC_at (k := 7) (by decide)]; decide))
      have ga12895 := ga12885.of (h12889.2 (c + 8) (by rw [kC_at (k := 8) (by decide)]; decide))
      have ga12896 := ga12886.of (h12889.2 (c + 9) (by rw [kC_at (k := 9) (by decide)]; decide))
      have ga12897 := ga12887.of (h12889.2 (c + 11) (by rw [kC_at (k := 11) (by decide)]; decide))
      obtain ⟨rfl, rfl⟩ := hp
      refine m_istore_n F (lv' := [(3, .int (nI 0)), (2, .int 0), (1, .int (nI (8 + P.n7))), (0, .ref c)]) e_X10_readChange_61 (by decide) rfl ?_
      refine m_aload_n F rfl e_X10_readChange_62 ?_
      refine m_sipush F (v := 500) (by decide) e_X10_readChange_63 ?_
      refine m_sipush F (v := 2000) (by decide) e_X10_readChange_66 ?_
      refine r_callV F e_X10_readChange_69 (q_X10_numeralG (x_l X) V c T 0 u h P L _ _ 500 2000 2 h12890.1 (hob) hP (by omega) (by omega) ((fld_eq (h12879.2 c (by rw [show kC c c = 1 from kC_at (k := 0) (by decide)]; decide))).trans yd12866) (by decide)) cb_X10_numeral ml_X10_165 im_X10_numeral se_X10_numeral h12890 rfl rfl (rest := []) rfl (Nat.le_of_ble_eq_true rfl) ⟨Nat.le_of_ble_eq_true rfl, Nat.le_of_ble_eq_true rfl⟩ ⟨Nat.le_of_ble_eq_true rfl, Nat.le_of_ble_eq_true rfl⟩ (fun r σ12898 hp => ?_)
      obtain ⟨h12899, hp⟩ := hp
      have h12900 := HS.trans h12890 h12899 (by decide)
      have ga12901 := ga12881.of (h12899.2 (c + 1) (by rw [kC_at (k := 1) (by decide)]; decide))
      have ga12902 := ga12882.of (h12899.2 (c + 2) (by rw [kC_at (k := 2) (by decide)]; decide))
      have ga12903 := ga12883.of (h12899.2 (c + 3) (by rw [kC_at (k := 3) (by decide)]; decide))
      have ga12904 := ga12884.of (h12899.2 (c + 7) (by rw [kC_at (k := 7) (by decide)]; decide))
      have ga12905 := ga12885.of (h12899.2 (c + 8) (by rw [kC_at (k := 8) (by decide)]; decide))
      have ga12906 := ga12886.of (h12899.2 (c + 9) (by rw [kC_at (k := 9) (by decide)]; decide))
      have ga12907 := ga12887.of (h12899.2 (c + 11) (by rw [kC_at (k := 11) (by decide)]; decide))
      obtain ⟨rfl, rfl⟩ := hp
      refine m_istore F (lv' := [(4, .int (nI 500)), (3, .int (nI 0)), (2, .int 0), (1, .int (nI (8 + P.n7))), (0, .ref c)]) e_X10_readChange_72 (by decide) rfl ?_
      refine m_aload_n F rfl e_X10_readChange_74 ?_
      refine r_getC F e_X10_readChange_75 fl_X10_141 h12900 ((fld_eq (h12879.2 c (by rw [show kC c c = 1 from kC_at (k := 0) (by decide)]; decide))).trans yd12866) ?_
      refine m_if_eq F e_X10_readChange_78 (fun q => absurd q (by decide)) (fun _ => ?_)
      have h12908 : HS V c _ [0, 2, 4, 5, 6, 7, 8, 9, 10, 11, 14, 15, 16, 17, 18, 19, 20, 21, 22, 23] _ _ := ⟨HR.mono (Z' := Z) (by intro e; first | rfl | assumption | omega) h12900.1, h12900.2⟩
      exact m_vret F hQ e_X10_readChange_81 (⟨P, hP, (by unfold RP; omega), (by unfold indexS; dsimp only; rw [if_pos (by omega)]; exact RM.l ((fld_eq (h12879.2 c (by rw [show kC c c = 1 from kC_at (k := 0) (by decide)]; decide))).trans yd12866) ((fld_eq (h12879.2 c (by rw [show kC c c = 1 from kC_at (k := 0) (by decide)]; decide))).trans yd12867) (by decide) (by decide) (by omega)), h12908, rfl⟩)
    · have c29 : P.n7 ≠ 0 := by have hh := mt (nI_eq (a := P.n7) (b := 0) (by omega) (by omega)).mpr q29; omega
      refine m_aload_n F rfl e_X10_readChange_32 ?_
      refine r_getC F e_X10_readChange_33 fl_X10_141 h12880 ((fld_eq (h12879.2 c (by rw [show kC c c = 1 from kC_at (k := 0) (by decide)]; decide))).trans yd12866) ?_
      refine m_if_eq F e_X10_readChange_36 (fun q => absurd q (by decide)) (fun _ => ?_)
      refine m_iconst F (v := 0) (by decide) e_X10_readChange_39 ?_
      refine m_goto F e_X10_readChange_40 ?_
      refine m_istore_n F (lv' := [(2, .int 0), (1, .int (nI (8 + P.n7))), (0, .ref c)]) e_X10_readChange_53 (by decide) rfl ?_
      refine m_aload_n F rfl e_X10_readChange_54 ?_
      refine m_iload_n F rfl e_X10_readChange_55 ?_
      refine m_bipush F (v := 99) (by decide) e_X10_readChange_56 ?_
      refine r_callV F e_X10_readChange_58 (q_X10_numeralG (x_l X) V c T 0 u h P L _ _ 0 99 2 h12880.1 (hob) hP (by omega) (by omega) ((fld_eq (h12879.2 c (by rw [show kC c c = 1 from kC_at (k := 0) (by decide)]; decide))).trans yd12866) (by decide)) cb_X10_numeral ml_X10_165 im_X10_numeral se_X10_numeral h12880 rfl rfl (rest := []) rfl (Nat.le_of_ble_eq_true rfl) ⟨Nat.le_of_ble_eq_true rfl, Nat.le_of_ble_eq_true rfl⟩ ⟨Nat.le_of_ble_eq_true rfl, Nat.le_of_ble_eq_true rfl⟩ (fun r σ12909 hp => ?_)
      obtain ⟨h12910, hp⟩ := hp
      have h12911 := HS.trans h12880 h12910 (by decide)
      have ga12912 := ga12881.of (h12910.2 (c + 1) (by rw [kC_at (k := 1) (by decide)]; decide))
      have ga12913 := ga12882.of (h12910.2 (c + 2) (by rw [kC_at (k := 2) (by decide)]; decide))
      have ga12914 := ga12883.of (h12910.2 (c + 3) (by rw [kC_at (k := 3) (by decide)]; decide))
      have ga12915 := ga12884.of (h12910.2 (c + 7) (by rw [kC_at (k := 7) (by decide)]; decide))
      have ga12916 := ga12885.of (h12910.2 (c + 8) (by rw [kC_at (k := 8) (by decide)]; decide))
      have ga12917 := ga12886.of (h12910.2 (c + 9) (by rw [kC_at (k := 9) (by decide)]; decide))
      have ga12918 := ga12887.of (h12910.2 (c + 11) (by rw [kC_at (k := 11) (by decide)]; decide))
      obtain ⟨rfl, rfl⟩ := hp
      refine m_istore_n F (lv' := [(3, .int (nI 0)), (2, .int 0), (1, .int (nI (8 + P.n7))), (0, .ref c)]) e_X10_readChange_61 (by decide) rfl ?_
      refine m_aload_n F rfl e_X10_readChange_62 ?_
      refine m_sipush F (v := 500) (by decide) e_X10_readChange_63 ?_
      refine m_sipush F (v := 2000) (by decide) e_X10_readChange_66 ?_
      refine r_callV F e_X10_readChange_69 (q_X10_numeralG (x_l X) V c T 0 u h P L _ _ 500 2000 2 h12911.1 (hob) hP (by omega) (by omega) ((fld_eq (h12879.2 c (by rw [show kC c c = 1 from kC_at (k := 0) (by decide)]; decide))).trans yd12866) (by decide)) cb_X10_numeral ml_X10_165 im_X10_numeral se_X10_numeral h12911 rfl rfl (rest := []) rfl (Nat.le_of_ble_eq_true rfl) ⟨Nat.le_of_ble_eq_true rfl, Nat.le_of_ble_eq_true rfl⟩ ⟨Nat.le_of_ble_eq_true rfl, Nat.le_of_ble_eq_true rfl⟩ (fun r σ12919 hp => ?_)
      obtain ⟨h12920, hp⟩ := hp
      have h12921 := HS.trans h12911 h12920 (by decide)
      have ga12922 := ga12881.of (h12920.2 (c + 1) (by rw [kC_at (k := 1) (by decide)]; decide))
      have ga12923 := ga12882.of (h12920.2 (c + 2) (by rw [kC_at (k := 2) (by decide)]; decide))
      have ga12924 := ga12883.of (h12920.2 (c + 3) (by rw [kC_at (k := 3) (by decide)]; decide))
      have ga12925 := ga12884.of (h12920.2 (c + 7) (by rw [kC_at (k := 7) (by decide)]; decide))
      have ga12926 := ga12885.of (h12920.2 (c + 8) (by rw [kC_at (k := 8) (by decide)]; decide))
      have ga12927 := ga12886.of (h12920.2 (c + 9) (by rw [kC_at (k := 9) (by decide)]; decide))
      have ga12928 := ga12887.of (h12920.2 (c + 11) (by rw [kC_at (k := 11) (by decide)]; decide))
      obtain ⟨rfl, rfl⟩ := hp
      refine m_istore F (lv' := [(4, .int (nI 500)), (3, .int (nI 0)), (2, .int 0), (1, .int (nI (8 + P.n7))), (0, .ref c)]) e_X10_readChange_72 (by decide) rfl ?_
      refine m_aload_n F rfl e_X10_readChange_74 ?_
      refine r_getC F e_X10_readChange_75 fl_X10_141 h12921 ((fld_eq (h12879.2 c (by rw [show kC c c = 1 from kC_at (k := 0) (by decide)]; decide))).trans yd12866) ?_
      refine m_if_eq F e_X10_readChange_78 (fun q => absurd q (by decide)) (fun _ => ?_)
      have h12929 : HS V c _ [0, 2, 4, 5, 6, 7, 8, 9, 10, 11, 14, 15, 16, 17, 18, 19, 20, 21, 22, 23] _ _ := ⟨HR.mono (Z' := Z) (by intro e; first | rfl | assumption | omega) h12921.1, h12921.2⟩
      exact m_vret F hQ e_X10_readChange_81 (⟨P, hP, (by unfold RP; omega), (by unfold indexS; dsimp only; rw [if_pos (by omega)]; exact RM.l ((fld_eq (h12879.2 c (by rw [show kC c c = 1 from kC_at (k := 0) (by decide)]; decide))).trans yd12866) ((fld_eq (h12879.2 c (by rw [show kC c c = 1 from kC_at (k := 0) (by decide)]; decide))).trans yd12867) (by decide) (by decide) (by omega)), h12929, rfl⟩)
set_option maxRecDepth 20000 in
theorem q_X10_readOptionE (l : Launch) (V : VX) (c T Z u h : Nat) (P : NP) (L : Nat → LQ) (N : Nat) (σ : Mem) (n st : Nat) (so va : Int32) (ln : Nat) (fp : Int32) (t : Nat → Nat) (s9 v9 : Nat) (nm : Nat → Nat) (np lc no sd : Nat) (md : Nat → Nat → Bool) (h0 : HR V c ⟨T, Z, u, h, P, L⟩ σ) (hob : OKB L) (hP : OKP P) (hp0 : YD σ c n st so va ln 0 fp) (hp1 : BR σ c n t) (hp2 : n ≤ 700) (hp3 : P.a ≤ n) (hp4 : MT so va s9 v9) (hp5 : st ≤ n) (hp6 : NR σ c np no sd) (hp7 : MR σ c P.n5 nm) (hp8 : KR σ c P.n5 md) (hp9 : FR σ c 8 1 P.n5 md) (hp10 : FR σ c 9 2 P.n5 md) (hp11 : QR σ c P.n7 lc) (hp12 : np ≤ 12) (hp13 : no ≤ 4) (hp14 : sd ≤ 1) : Ct l V yX10_readOption cX10_readOption 5 none 8 0 0 N σ [.ref c] (fun r τ => ∃ P9 : NP, OKP P9 ∧ RP P P9 ∧ RM τ c n P9 (optionS (tok t n) (st, s9, v9, P.a) P.n5 nm np P.n7 lc no sd md ln) ∧ HS V c (⟨T, Z, u, h, P9, L⟩ : RG) [0, 2, 4, 5, 6, 7, 8, 9, 10, 11, 12, 13, 17, 18, 19, 20, 21, 22, 23] σ τ ∧ r = none) := by
  refine Ct.of (by decide) (Nat.le_of_ble_eq_true rfl) [(0, .ref c)] rfl (fun X hX F hQ => ?_)
  have hPP := hP
  unfold OKP at hPP
  have h1 : HS V c ⟨T, Z, u, h, P, L⟩ [0, 2, 4, 5, 6, 7, 8, 9, 10, 11, 12, 13, 17, 18, 19, 20, 21, 22, 23] σ σ := HS.start h0
  have hyd12930 := hp0
  obtain ⟨yd12930, yd12931, yd12932, yd12933, yd12934, yd12935, yd12936⟩ := hyd12930
  have hn7 := hp2
  refine m_iconst F (v := 4) (by decide) e_X10_readOption_0 ?_
  refine m_aload_n F rfl e_X10_readOption_1 ?_
  refine m_iconst F (v := 3) (by decide) e_X10_readOption_2 ?_
  refine r_callV F e_X10_readOption_3 (q_X10_reading3E (x_l X) V c T Z u h P L _ _  np no sd h1.1 (hob) hP  hp6) cb_X10_reading ml_X10_157 im_X10_reading se_X10_reading h1 rfl rfl (rest := [.int 4]) rfl (Nat.le_of_ble_eq_true rfl) ⟨Nat.le_of_ble_eq_true rfl, Nat.le_of_ble_eq_true rfl⟩ ⟨Nat.le_of_ble_eq_true rfl, Nat.le_of_ble_eq_true rfl⟩ (fun r σ12937 hp => ?_)
  obtain ⟨h12938, hp⟩ := hp
  have h12939 := HS.trans h1 h12938 (by decide)
  have ga12940 := hp1.of (h12938.2 (c + 1) (by rw [kC_at (k := 1) (by decide)]; decide))
  have ga12941 := hp6.of (h12938.2 (c + 2) (by rw [kC_at (k := 2) (by decide)]; decide))
  have ga12942 := hp7.of (h12938.2 (c + 3) (by rw [kC_at (k := 3) (by decide)]; decide))
  have ga12943 := hp8.of (h12938.2 (c + 7) (by rw [kC_at (k := 7) (by decide)]; decide))
  have ga12944 := hp9.of (h12938.2 (c + 8) (by rw [kC_at (k := 8) (by decide)]; decide))
  have ga12945 := hp10.of (h12938.2 (c + 9) (by rw [kC_at (k := 9) (by decide)]; decide))
  have ga12946 := hp11.of (h12938.2 (c + 11) (by rw [kC_at (k := 11) (by decide)]; decide))
  obtain rfl := hp
  refine m_iadd F e_X10_readOption_6 ?_
  refine Wm.topE (w := nI (4 + no)) (nI_add 4 no) ?_
  refine m_istore_n F (lv' := [(1, .int (nI (4 + no))), (0, .ref c)]) e_X10_readOption_7 (by decide) rfl ?_
  refine m_iload_n F rfl e_X10_readOption_8 ?_
  refine m_bipush F (v := 8) (by decide) e_X10_readOption_9 ?_
  refine m_icmp_ne F e_X10_readOption_11 (fun q11 => ?_) (fun q11 => ?_)
  · have c11 : (4 + no) ≠ 8 := by have hh := mt (nI_eq (a := (4 + no)) (b := 8) (by omega) (by omega)).mpr q11; omega
    refine m_aload_n F rfl e_X10_readOption_19 ?_
    refine r_callV F e_X10_readOption_20 (q_X10_atHandE (x_l X) V c T Z u h P L _ _  n st so va ln fp t nm h12939.1 (hob) hP  ⟨((fld_eq (h12938.2 c (by rw [show kC c c = 1 from kC_at (k := 0) (by decide)]; decide))).trans yd12930), ((fld_eq (h12938.2 c (by rw [show kC c c = 1 from kC_at (k := 0) (by decide)]; decide))).trans yd12931), ((fld_eq (h12938.2 c (by rw [show kC c c = 1 from kC_at (k := 0) (by decide)]; decide))).trans yd12932), ((fld_eq (h12938.2 c (by rw [show kC c c = 1 from kC_at (k := 0) (by decide)]; decide))).trans yd12933), ((fld_eq (h12938.2 c (by rw [show kC c c = 1 from kC_at (k := 0) (by decide)]; decide))).trans yd12934), ((fld_eq (h12938.2 c (by rw [show kC c c = 1 from kC_at (k := 0) (by decide)]; decide))).trans yd12935), ((fld_eq (h12938.2 c (by rw [show kC c c = 1 from kC_at (k := 0) (by decide)]; decide))).trans yd12936)⟩ ga12940 hn7 (by omega) ga12942) cb_X10_atHand ml_X10_174 im_X10_atHand se_X10_atHand h12939 rfl rfl (rest := []) rfl (Nat.le_of_ble_eq_true rfl) ⟨Nat.le_of_ble_eq_true rfl, Nat.le_of_ble_eq_true rfl⟩ ⟨Nat.le_of_ble_eq_true rfl, Nat.le_of_ble_eq_true rfl⟩ (fun r σ12947 hp => ?_)
    obtain ⟨P12950, oP12950, rP12950, pr12951, h12948, hp⟩ := hp
    have h12949 := HS.trans h12939 h12948 (by decide)
    have xP12950 := oP12950
    unfold OKP at xP12950
    unfold RA at rP12950
    have ga12952 := ga12940.of (h12948.2 (c + 1) (by rw [kC_at (k := 1) (by decide)]; decide))
    have ga12953 := ga12941.of (h12948.2 (c + 2) (by rw [kC_at (k := 2) (by decide)]; decide))
    have ga12954 := ga12942.of (h12948.2 (c + 3) (by rw [kC_at (k := 3) (by decide)]; decide))
    have ga12955 := ga12943.of (h12948.2 (c + 7) (by rw [kC_at (k := 7) (by decide)]; decide))
    have ga12956 := ga12944.of (h12948.2 (c + 8) (by rw [kC_at (k := 8) (by decide)]; decide))
    have ga12957 := ga12945.of (h12948.2 (c + 9) (by rw [kC_at (k := 9) (by decide)]; decide))
    have ga12958 := ga12946.of (h12948.2 (c + 11) (by rw [kC_at (k := 11) (by decide)]; decide))
    have bk12968 := tok_ok (t := t) (n := n) P.a (by omega)
    generalize ek12968 : tok t n P.a = k12968 at pr12951 bk12968
    rcases pr12951 with ⟨e12959, e12960, ea12961, ⟨so12962, va12963, mt12964, yd12965⟩, rfl⟩ | ⟨e12959, ⟨fa12966, fb12967⟩, rfl⟩ | ⟨e12959, e12960, ⟨fa12966, fb12967⟩, rfl⟩
    · have hyd12969 := yd12965
      obtain ⟨yd12969, yd12970, yd12971, yd12972, yd12973, yd12974, yd12975⟩ := hyd12969
      refine m_istore_n F (lv' := [(2, .int (nI (4 + fx nm k12968.2.2.1 P.n5))), (1, .int (nI (4 + no))), (0, .ref c)]) e_X10_readOption_23 (by decide) rfl ?_
      refine m_aload_n F rfl e_X10_readOption_24 ?_
      refine r_callV F e_X10_readOption_25 (q_X10_goOnE (x_l X) V c T Z u h P12950 L _ _  n k12968.1 so12962 va12963 ln fp t h12949.1 (hob) oP12950  ⟨(yd12969), (yd12970), (yd12971), (yd12972), (yd12973), (yd12974), (yd12975)⟩ ga12952 hn7 (by omega)) cb_X10_goOn ml_X10_154 im_X10_goOn se_X10_goOn h12949 rfl rfl (rest := []) rfl (Nat.le_of_ble_eq_true rfl) ⟨Nat.le_of_ble_eq_true rfl, Nat.le_of_ble_eq_true rfl⟩ ⟨Nat.le_of_ble_eq_true rfl, Nat.le_of_ble_eq_true rfl⟩ (fun r σ12976 hp => ?_)
      obtain ⟨P12979, oP12979, rP12979, pr12980, pr12981, h12977, hp⟩ := hp
      have h12978 := HS.trans h12949 h12977 (by decide)
      have xP12979 := oP12979
      unfold OKP at xP12979
      unfold RA at rP12979
      have ga12982 := ga12952.of (h12977.2 (c + 1) (by rw [kC_at (k := 1) (by decide)]; decide))
      have ga12983 := ga12953.of (h12977.2 (c + 2) (by rw [kC_at (k := 2) (by decide)]; decide))
      have ga12984 := ga12954.of (h12977.2 (c + 3) (by rw [kC_at (k := 3) (by decide)]; decide))
      have ga12985 := ga12955.of (h12977.2 (c + 7) (by rw [kC_at (k := 7) (by decide)]; decide))
      have ga12986 := ga12956.of (h12977.2 (c + 8) (by rw [kC_at (k := 8) (by decide)]; decide))
      have ga12987 := ga12957.of (h12977.2 (c + 9) (by rw [kC_at (k := 9) (by decide)]; decide))
      have ga12988 := ga12958.of (h12977.2 (c + 11) (by rw [kC_at (k := 11) (by decide)]; decide))
      obtain rfl := hp
      obtain ⟨so12989, va12990, mt12991, yd12992⟩ := pr12981
      generalize ek12993 : tok t n P12950.a = k12993 at pr12980 mt12991 yd12992
      have bk12993 := tok_ok (t := t) (n := n) P12950.a (by omega)
      rw [ek12993] at bk12993
      rw [show P12950.a = k12968.2.2.2 by omega] at ek12993
      have hyd12994 := yd12992
      obtain ⟨yd12994, yd12995, yd12996, yd12997, yd12998, yd12999, yd13000⟩ := hyd12994
      refine m_aload_n F rfl e_X10_readOption_28 ?_
      refine m_iconst F (v := 1) (by decide) e_X10_readOption_29 ?_
      refine m_bipush F (v := 24) (by decide) e_X10_readOption_30 ?_
      refine r_callV F e_X10_readOption_32 (q_X10_numeralE (x_l X) V c T Z u h P12979 L _ _ 1 24 n k12993.1 so12989 va12990 ln fp t k12993.2.1 k12993.2.2.1 h12978.1 (hob) oP12979 (by omega) (by omega) ⟨(yd12994), (yd12995), (yd12996), (yd12997), (yd12998), (yd12999), (yd13000)⟩ ga12982 hn7 (by omega) mt12991) cb_X10_numeral ml_X10_165 im_X10_numeral se_X10_numeral h12978 rfl rfl (rest := []) rfl (Nat.le_of_ble_eq_true rfl) ⟨Nat.le_of_ble_eq_true rfl, Nat.le_of_ble_eq_true rfl⟩ ⟨Nat.le_of_ble_eq_true rfl, Nat.le_of_ble_eq_true rfl⟩ (fun r σ13001 hp => ?_)
      obtain ⟨P13004, oP13004, rP13004, pr13005, h13002, hp⟩ := hp
      have h13003 := HS.trans h12978 h13002 (by decide)
      have xP13004 := oP13004
      unfold OKP at xP13004
      unfold RA at rP13004
      have ga13006 := ga12982.of (h13002.2 (c + 1) (by rw [kC_at (k := 1) (by decide)]; decide))
      have ga13007 := ga12983.of (h13002.2 (c + 2) (by rw [kC_at (k := 2) (by decide)]; decide))
      have ga13008 := ga12984.of (h13002.2 (c + 3) (by rw [kC_at (k := 3) (by decide)]; decide))
      have ga13009 := ga12985.of (h13002.2 (c + 7) (by rw [kC_at (k := 7) (by decide)]; decide))
      have ga13010 := ga12986.of (h13002.2 (c + 8) (by rw [kC_at (k := 8) (by decide)]; decide))
      have ga13011 := ga12987.of (h13002.2 (c + 9) (by rw [kC_at (k := 9) (by decide)]; decide))
      have ga13012 := ga12988.of (h13002.2 (c + 11) (by rw [kC_at (k := 11) (by decide)]; decide))
      rcases pr13005 with ⟨e13013, l13015, l13016, ea13017, ⟨so13018, va13019, mt13020, yd13021⟩, rfl⟩ | ⟨e13013, ⟨fa13022, fb13023⟩, rfl⟩ | ⟨e13013, e13014, ⟨fa13022, fb13023⟩, rfl⟩
      · have bk13024 := tok_ok (t := t) (n := n) P12979.a (by omega)
        generalize ek13024 : tok t n P12979.a = k13024 at ea13017 mt13020 yd13021 bk13024
        rw [show P12979.a = k12993.2.2.2 by omega] at ek13024
        have hyd13025 := yd13021
        obtain ⟨yd13025, yd13026, yd13027, yd13028, yd13029, yd13030, yd13031⟩ := hyd13025
        refine m_istore_n F (lv' := [(3, .int (nI k12993.2.2.1)), (2, .int (nI (4 + fx nm k12968.2.2.1 P.n5))), (1, .int (nI (4 + no))), (0, .ref c)]) e_X10_readOption_35 (by decide) rfl ?_
        refine m_aload_n F rfl e_X10_readOption_36 ?_
        refine m_iconst F (v := 0) (by decide) e_X10_readOption_37 ?_
        refine m_ldc F kc_X10_177 e_X10_readOption_38 ?_
        refine r_callV F e_X10_readOption_40 (q_X10_numeralE (x_l X) V c T Z u h P13004 L _ _ 0 99999 n k13024.1 so13018 va13019 ln fp t k13024.2.1 k13024.2.2.1 h13003.1 (hob) oP13004 (by omega) (by omega) ⟨(yd13025), (yd13026), (yd13027), (yd13028), (yd13029), (yd13030), (yd13031)⟩ ga13006 hn7 (by omega) mt13020) cb_X10_numeral ml_X10_165 im_X10_numeral se_X10_numeral h13003 rfl rfl (rest := []) rfl (Nat.le_of_ble_eq_true rfl) ⟨Nat.le_of_ble_eq_true rfl, Nat.le_of_ble_eq_true rfl⟩ ⟨Nat.le_of_ble_eq_true rfl, Nat.le_of_ble_eq_true rfl⟩ (fun r σ13032 hp => ?_)
        obtain ⟨P13035, oP13035, rP13035, pr13036, h13033, hp⟩ := hp
        have h13034 := HS.trans h13003 h13033 (by decide)
        have xP13035 := oP13035
        unfold OKP at xP13035
        unfold RA at rP13035
        have ga13037 := ga13006.of (h13033.2 (c + 1) (by rw [kC_at (k := 1) (by decide)]; decide))
        have ga13038 := ga13007.of (h13033.2 (c + 2) (by rw [kC_at (k := 2) (by decide)]; decide))
        have ga13039 := ga13008.of (h13033.2 (c + 3) (by rw [kC_at (k := 3) (by decide)]; decide))
        have ga13040 := ga13009.of (h13033.2 (c + 7) (by rw [kC_at (k := 7) (by decide)]; decide))
        have ga13041 := ga13010.of (h13033.2 (c + 8) (by rw [kC_at (k := 8) (by decide)]; decide))
        have ga13042 := ga13011.of (h13033.2 (c + 9) (by rw [kC_at (k := 9) (by decide)]; decide))
        have ga13043 := ga13012.of (h13033.2 (c + 11) (by rw [kC_at (k := 11) (by decide)]; decide))
        rcases pr13036 with ⟨e13044, l13046, l13047, ea13048, ⟨so13049, va13050, mt13051, yd13052⟩, rfl⟩ | ⟨e13044, ⟨fa13053, fb13054⟩, rfl⟩ | ⟨e13044, e13045, ⟨fa13053, fb13054⟩, rfl⟩
        · have bk13055 := tok_ok (t := t) (n := n) P13004.a (by omega)
          generalize ek13055 : tok t n P13004.a = k13055 at ea13048 mt13051 yd13052 bk13055
          rw [show P13004.a = k13024.2.2.2 by omega] at ek13055
          have hyd13056 := yd13052
          obtain ⟨yd13056, yd13057, yd13058, yd13059, yd13060, yd13061, yd13062⟩ := hyd13056
          refine m_istore F (lv' := [(4, .int (nI k13024.2.2.1)), (3, .int (nI k12993.2.2.1)), (2, .int (nI (4 + fx nm k12968.2.2.1 P.n5))), (1, .int (nI (4 + no))), (0, .ref c)]) e_X10_readOption_43 (by decide) rfl ?_
          refine m_aload_n F rfl e_X10_readOption_45 ?_
          refine r_getC F e_X10_readOption_46 fl_X10_141 h13034 (yd13061) ?_
          refine m_if_eq F e_X10_readOption_49 (fun _ => ?_) (fun q => absurd (by decide) q)
          refine m_aload_n F rfl e_X10_readOption_53 ?_
          refine r_get F e_X10_readOption_54 fl_X10_46 h13034 rfl (fun v hv f13063 => ?_)
          obtain rfl : v = .ref (c + 13) := hv
          refine m_iload_n F rfl e_X10_readOption_57 ?_
          refine m_iload_n F rfl e_X10_readOption_58 ?_
          refine m_iconst F (v := 4) (by decide) e_X10_readOption_59 ?_
          refine m_isub F e_X10_readOption_60 ?_
          refine Wm.topE (w := nI ((4 + fx nm k12968.2.2.1 P.n5) - 4)) (pk_sub (a := 4 + fx nm k12968.2.2.1 P.n5) (b := 4) (by omega)) ?_
          refine r_iast F (g' := (⟨T, Z, u, h, P13035, L⟩ : RG)) (len := 8) (j := 4 + no) e_X10_readOption_61 h13034 (fun _ h => h) (fun f h => ⟨f, rfl, h⟩) (by decide) (by decide) (nI_clamp (by omega)) (vp_in_nI (by omega) (by decide)) ⟨(4 + fx nm k12968.2.2.1 P.n5) - 4, by omega, rfl⟩ (fun _ _ _ h => h) (fun _ _ _ h => h) (fun σ13064 h13065 g13066 f13067 g13068 => ?_)
          have ga13069 := ga13037.of (g13066 _ (by omega))
          have ga13070 := ga13038.of (g13066 _ (by omega))
          have ga13071 := ga13039.of (g13066 _ (by omega))
          have ga13072 := ga13040.of (g13066 _ (by omega))
          have ga13073 := ga13041.of (g13066 _ (by omega))
          have ga13074 := ga13042.of (g13066 _ (by omega))
          have ga13075 := ga13043.of (g13066 _ (by omega))
          refine m_aload_n F rfl e_X10_readOption_62 ?_
          refine r_get F e_X10_readOption_63 fl_X10_49 h13065 rfl (fun v hv f13076 => ?_)
          obtain rfl : v = .ref (c + 14) := hv
          refine m_iload_n F rfl e_X10_readOption_66 ?_
          refine m_iload_n F rfl e_X10_readOption_67 ?_
          refine r_iast F (g' := (⟨T, Z, u, h, P13035, L⟩ : RG)) (len := 8) (j := 4 + no) e_X10_readOption_68 h13065 (fun _ h => h) (fun f h => ⟨f, rfl, h⟩) (by decide) (by decide) (nI_clamp (by omega)) (vp_in_nI (by omega) (by decide)) ⟨k12993.2.2.1, by omega, rfl⟩ (fun _ _ _ h => h) (fun _ _ _ h => h) (fun σ13077 h13078 g13079 f13080 g13081 => ?_)
          have ga13082 := ga13069.of (g13079 _ (by omega))
          have ga13083 := ga13070.of (g13079 _ (by omega))
          have ga13084 := ga13071.of (g13079 _ (by omega))
          have ga13085 := ga13072.of (g13079 _ (by omega))
          have ga13086 := ga13073.of (g13079 _ (by omega))
          have ga13087 := ga13074.of (g13079 _ (by omega))
          have ga13088 := ga13075.of (g13079 _ (by omega))
          refine m_aload_n F rfl e_X10_readOption_69 ?_
          refine r_get F e_X10_readOption_70 fl_X10_52 h13078 rfl (fun v hv f13089 => ?_)
          obtain rfl : v = .ref (c + 15) := hv
          refine m_iload_n F rfl e_X10_readOption_73 ?_
          refine m_iload F rfl e_X10_readOption_74 ?_
          refine r_iast F (g' := (⟨T, Z, u, h, P13035, L⟩ : RG)) (len := 8) (j := 4 + no) e_X10_readOption_76 h13078 (fun _ h => h) (fun f h => ⟨f, rfl, h⟩) (by decide) (by decide) (nI_clamp (by omega)) (vp_in_nI (by omega) (by decide)) trivial (fun _ _ _ h => h) (fun _ _ _ h => h) (fun σ13090 h13091 g13092 f13093 g13094 => ?_)
          have ga13095 := ga13082.of (g13092 _ (by omega))
          have ga13096 := ga13083.of (g13092 _ (by omega))
          have ga13097 := ga13084.of (g13092 _ (by omega))
          have ga13098 := ga13085.of (g13092 _ (by omega))
          have ga13099 := ga13086.of (g13092 _ (by omega))
          have ga13100 := ga13087.of (g13092 _ (by omega))
          have ga13101 := ga13088.of (g13092 _ (by omega))
          refine m_aload_n F rfl e_X10_readOption_77 ?_
          refine m_iconst F (v := 3) (by decide) e_X10_readOption_78 ?_
          refine m_aload_n F rfl e_X10_readOption_79 ?_
          refine m_iconst F (v := 3) (by decide) e_X10_readOption_80 ?_
          refine r_callV F e_X10_readOption_81 (q_X10_reading3E (x_l X) V c T Z u h P13035 L _ _  np no sd h13091.1 (hob) oP13035  ga13096) cb_X10_reading ml_X10_157 im_X10_reading se_X10_reading h13091 rfl rfl (rest := [.int 3, .ref c]) rfl (Nat.le_of_ble_eq_true rfl) ⟨Nat.le_of_ble_eq_true rfl, Nat.le_of_ble_eq_true rfl⟩ ⟨Nat.le_of_ble_eq_true rfl, Nat.le_of_ble_eq_true rfl⟩ (fun r σ13102 hp => ?_)
          obtain ⟨h13103, hp⟩ := hp
          have h13104 := HS.trans h13091 h13103 (by decide)
          have ga13105 := ga13095.of (h13103.2 (c + 1) (by rw [kC_at (k := 1) (by decide)]; decide))
          have ga13106 := ga13096.of (h13103.2 (c + 2) (by rw [kC_at (k := 2) (by decide)]; decide))
          have ga13107 := ga13097.of (h13103.2 (c + 3) (by rw [kC_at (k := 3) (by decide)]; decide))
          have ga13108 := ga13098.of (h13103.2 (c + 7) (by rw [kC_at (k := 7) (by decide)]; decide))
          have ga13109 := ga13099.of (h13103.2 (c + 8) (by rw [kC_at (k := 8) (by decide)]; decide))
          have ga13110 := ga13100.of (h13103.2 (c + 9) (by rw [kC_at (k := 9) (by decide)]; decide))
          have ga13111 := ga13101.of (h13103.2 (c + 11) (by rw [kC_at (k := 11) (by decide)]; decide))
          obtain rfl := hp
          refine m_iconst F (v := 1) (by decide) e_X10_readOption_84 ?_
          refine m_iadd F e_X10_readOption_85 ?_
          refine Wm.topE (w := nI (no + 1)) (nI_add no 1) ?_
          refine r_callV F e_X10_readOption_86 (q_X10_reads3E (x_l X) V c T Z u h P13035 L _ _ (no + 1)  h13104.1 (hob) oP13035 (by omega) ) cb_X10_reads ml_X10_170 im_X10_reads se_X10_reads h13104 rfl rfl (rest := []) rfl (Nat.le_of_ble_eq_true rfl) ⟨Nat.le_of_ble_eq_true rfl, Nat.le_of_ble_eq_true rfl⟩ ⟨Nat.le_of_ble_eq_true rfl, Nat.le_of_ble_eq_true rfl⟩ (fun r σ13112 hp => ?_)
          obtain ⟨h13113, hp⟩ := hp
          have h13114 := HS.trans h13104 h13113 (by decide)
          have ga13115 := ga13105.of (h13113.2 (c + 1) (by rw [kC_at (k := 1) (by decide)]; decide))
          have ga13116 := ga13107.of (h13113.2 (c + 3) (by rw [kC_at (k := 3) (by decide)]; decide))
          have ga13117 := ga13108.of (h13113.2 (c + 7) (by rw [kC_at (k := 7) (by decide)]; decide))
          have ga13118 := ga13109.of (h13113.2 (c + 8) (by rw [kC_at (k := 8) (by decide)]; decide))
          have ga13119 := ga13110.of (h13113.2 (c + 9) (by rw [kC_at (k := 9) (by decide)]; decide))
          have ga13120 := ga13111.of (h13113.2 (c + 11) (by rw [kC_at (k := 11) (by decide)]; decide))
          obtain ⟨ea13121, eb13122, rfl⟩ := hp
          have ga13123 := NR.o ga13106 ea13121 eb13122
          exact m_vret F hQ e_X10_readOption_89 (⟨P13035, oP13035, (by unfold RP; omega), (by unfold optionS; dsimp only; rw [if_neg (by omega), ek12968, tolK_ok e12959 e12960, ek12993, numK_ok e13013 l13015 l13016, ek13024, numK_ok e13044 l13046 l13047, ek13055]; exact RM.r mt13051 ⟨((fld_eq (h13113.2 c (by rw [show kC c c = 1 from kC_at (k := 0) (by decide)]; decide))).trans ((fld_eq (h13103.2 c (by rw [show kC c c = 1 from kC_at (k := 0) (by decide)]; decide))).trans ((fld_eq (g13092 _ (by omega))).trans ((fld_eq (g13079 _ (by omega))).trans ((fld_eq (g13066 _ (by omega))).trans yd13056))))), ((fld_eq (h13113.2 c (by rw [show kC c c = 1 from kC_at (k := 0) (by decide)]; decide))).trans ((fld_eq (h13103.2 c (by rw [show kC c c = 1 from kC_at (k := 0) (by decide)]; decide))).trans ((fld_eq (g13092 _ (by omega))).trans ((fld_eq (g13079 _ (by omega))).trans ((fld_eq (g13066 _ (by omega))).trans yd13057))))), ((fld_eq (h13113.2 c (by rw [show kC c c = 1 from kC_at (k := 0) (by decide)]; decide))).trans ((fld_eq (h13103.2 c (by rw [show kC c c = 1 from kC_at (k := 0) (by decide)]; decide))).trans ((fld_eq (g13092 _ (by omega))).trans ((fld_eq (g13079 _ (by omega))).trans ((fld_eq (g13066 _ (by omega))).trans yd13058))))), ((fld_eq (h13113.2 c (by rw [show kC c c = 1 from kC_at (k := 0) (by decide)]; decide))).trans ((fld_eq (h13103.2 c (by rw [show kC c c = 1 from kC_at (k := 0) (by decide)]; decide))).trans ((fld_eq (g13092 _ (by omega))).trans ((fld_eq (g13079 _ (by omega))).trans ((fld_eq (g13066 _ (by omega))).trans yd13059))))), ((fld_eq (h13113.2 c (by rw [show kC c c = 1 from kC_at (k := 0) (by decide)]; decide))).trans ((fld_eq (h13103.2 c (by rw [show kC c c = 1 from kC_at (k := 0) (by decide)]; decide))).trans ((fld_eq (g13092 _ (by omega))).trans ((fld_eq (g13079 _ (by omega))).trans ((fld_eq (g13066 _ (by omega))).trans yd13060))))), ((fld_eq (h13113.2 c (by rw [show kC c c = 1 from kC_at (k := 0) (by decide)]; decide))).trans ((fld_eq (h13103.2 c (by rw [show kC c c = 1 from kC_at (k := 0) (by decide)]; decide))).trans ((fld_eq (g13092 _ (by omega))).trans ((fld_eq (g13079 _ (by omega))).trans ((fld_eq (g13066 _ (by omega))).trans yd13061))))), ((fld_eq (h13113.2 c (by rw [show kC c c = 1 from kC_at (k := 0) (by decide)]; decide))).trans ((fld_eq (h13103.2 c (by rw [show kC c c = 1 from kC_at (k := 0) (by decide)]; decide))).trans ((fld_eq (g13092 _ (by omega))).trans ((fld_eq (g13079 _ (by omega))).trans ((fld_eq (g13066 _ (by omega))).trans yd13062)))))⟩ (by omega) (by omega) (by omega) ga13123 ga13116 ga13117 ga13118 ga13119 ga13120 (by omega) (by omega) (by omega) (by omega) (by omega)), h13114, rfl⟩)
        · have hz9 : True := trivial
          refine m_istore F (lv' := [(4, .int (nI 0)), (3, .int (nI k12993.2.2.1)), (2, .int (nI (4 + fx nm k12968.2.2.1 P.n5))), (1, .int (nI (4 + no))), (0, .ref c)]) e_X10_readOption_43 (by decide) rfl ?_
          refine m_aload_n F rfl e_X10_readOption_45 ?_
          refine r_getC F e_X10_readOption_46 fl_X10_141 h13034 (fa13053) ?_
          refine m_if_eq F e_X10_readOption_49 (fun q => absurd q (by decide)) (fun _ => ?_)
          exact m_vret F hQ e_X10_readOption_52 (⟨P13035, oP13035, (by unfold RP; omega), (by unfold optionS; dsimp only; rw [if_neg (by omega), ek12968, tolK_ok e12959 e12960, ek12993, numK_ok e13013 l13015 l13016, ek13024, numK_1 e13044]; exact RM.l (fa13053) (fb13054) (by decide) (by decide) (by omega)), h13034, rfl⟩)
        · have hz9 : True := trivial
          refine m_istore F (lv' := [(4, .int (nI 0)), (3, .int (nI k12993.2.2.1)), (2, .int (nI (4 + fx nm k12968.2.2.1 P.n5))), (1, .int (nI (4 + no))), (0, .ref c)]) e_X10_readOption_43 (by decide) rfl ?_
          refine m_aload_n F rfl e_X10_readOption_45 ?_
          refine r_getC F e_X10_readOption_46 fl_X10_141 h13034 (fa13053) ?_
          refine m_if_eq F e_X10_readOption_49 (fun q => absurd q (by decide)) (fun _ => ?_)
          exact m_vret F hQ e_X10_readOption_52 (⟨P13035, oP13035, (by unfold RP; omega), (by unfold optionS; dsimp only; rw [if_neg (by omega), ek12968, tolK_ok e12959 e12960, ek12993, numK_ok e13013 l13015 l13016, ek13024, numK_2 e13044 e13045]; exact RM.l (fa13053) (fb13054) (by decide) (by decide) (by omega)), h13034, rfl⟩)
      · have hz9 : True := trivial
        refine m_istore_n F (lv' := [(3, .int (nI 1)), (2, .int (nI (4 + fx nm k12968.2.2.1 P.n5))), (1, .int (nI (4 + no))), (0, .ref c)]) e_X10_readOption_35 (by decide) rfl ?_
        refine m_aload_n F rfl e_X10_readOption_36 ?_
        refine m_iconst F (v := 0) (by decide) e_X10_readOption_37 ?_
        refine m_ldc F kc_X10_177 e_X10_readOption_38 ?_
        refine r_callV F e_X10_readOption_40 (q_X10_numeralG (x_l X) V c T Z u h P13004 L _ _ 0 99999 1 h13003.1 (hob) oP13004 (by omega) (by omega) (fa13022) (by decide)) cb_X10_numeral ml_X10_165 im_X10_numeral se_X10_numeral h13003 rfl rfl (rest := []) rfl (Nat.le_of_ble_eq_true rfl) ⟨Nat.le_of_ble_eq_true rfl, Nat.le_of_ble_eq_true rfl⟩ ⟨Nat.le_of_ble_eq_true rfl, Nat.le_of_ble_eq_true rfl⟩ (fun r σ13124 hp => ?_)
        obtain ⟨h13125, hp⟩ := hp
        have h13126 := HS.trans h13003 h13125 (by decide)
        obtain ⟨rfl, rfl⟩ := hp
        refine m_istore F (lv' := [(4, .int (nI 0)), (3, .int (nI 1)), (2, .int (nI (4 + fx nm k12968.2.2.1 P.n5))), (1, .int (nI (4 + no))), (0, .ref c)]) e_X10_readOption_43 (by decide) rfl ?_
        refine m_aload_n F rfl e_X10_readOption_45 ?_
        refine r_getC F e_X10_readOption_46 fl_X10_141 h13126 (fa13022) ?_
        refine m_if_eq F e_X10_readOption_49 (fun q => absurd q (by decide)) (fun _ => ?_)
        exact m_vret F hQ e_X10_readOption_52 (⟨P13004, oP13004, (by unfold RP; omega), (by unfold optionS; dsimp only; rw [if_neg (by omega), ek12968, tolK_ok e12959 e12960, ek12993, numK_1 e13013]; exact RM.l (fa13022) (fb13023) (by decide) (by decide) (by omega)), h13126, rfl⟩)
      · have hz9 : True := trivial
        refine m_istore_n F (lv' := [(3, .int (nI 1)), (2, .int (nI (4 + fx nm k12968.2.2.1 P.n5))), (1, .int (nI (4 + no))), (0, .ref c)]) e_X10_readOption_35 (by decide) rfl ?_
        refine m_aload_n F rfl e_X10_readOption_36 ?_
        refine m_iconst F (v := 0) (by decide) e_X10_readOption_37 ?_
        refine m_ldc F kc_X10_177 e_X10_readOption_38 ?_
        refine r_callV F e_X10_readOption_40 (q_X10_numeralG (x_l X) V c T Z u h P13004 L _ _ 0 99999 2 h13003.1 (hob) oP13004 (by omega) (by omega) (fa13022) (by decide)) cb_X10_numeral ml_X10_165 im_X10_numeral se_X10_numeral h13003 rfl rfl (rest := []) rfl (Nat.le_of_ble_eq_true rfl) ⟨Nat.le_of_ble_eq_true rfl, Nat.le_of_ble_eq_true rfl⟩ ⟨Nat.le_of_ble_eq_true rfl, Nat.le_of_ble_eq_true rfl⟩ (fun r σ13127 hp => ?_)
        obtain ⟨h13128, hp⟩ := hp
        have h13129 := HS.trans h13003 h13128 (by decide)
        obtain ⟨rfl, rfl⟩ := hp
        refine m_istore F (lv' := [(4, .int (nI 0)), (3, .int (nI 1)), (2, .int (nI (4 + fx nm k12968.2.2.1 P.n5))), (1, .int (nI (4 + no))), (0, .ref c)]) e_X10_readOption_43 (by decide) rfl ?_
        refine m_aload_n F rfl e_X10_readOption_45 ?_
        refine r_getC F e_X10_readOption_46 fl_X10_141 h13129 (fa13022) ?_
        refine m_if_eq F e_X10_readOption_49 (fun q => absurd q (by decide)) (fun _ => ?_)
        exact m_vret F hQ e_X10_readOption_52 (⟨P13004, oP13004, (by unfold RP; omega), (by unfold optionS; dsimp only; rw [if_neg (by omega), ek12968, tolK_ok e12959 e12960, ek12993, numK_2 e13013 e13014]; exact RM.l (fa13022) (fb13023) (by decide) (by decide) (by omega)), h13129, rfl⟩)
    · have hz9 : True := trivial
      refine m_istore_n F (lv' := [(2, .int (nI 4)), (1, .int (nI (4 + no))), (0, .ref c)]) e_X10_readOption_23 (by decide) rfl ?_
      refine m_aload_n F rfl e_X10_readOption_24 ?_
      refine r_callV F e_X10_readOption_25 (q_X10_goOnG (x_l X) V c T Z u h P12950 L _ _  1 h12949.1 (hob) oP12950  (fa12966) (by decide)) cb_X10_goOn ml_X10_154 im_X10_goOn se_X10_goOn h12949 rfl rfl (rest := []) rfl (Nat.le_of_ble_eq_true rfl) ⟨Nat.le_of_ble_eq_true rfl, Nat.le_of_ble_eq_true rfl⟩ ⟨Nat.le_of_ble_eq_true rfl, Nat.le_of_ble_eq_true rfl⟩ (fun r σ13130 hp => ?_)
      obtain ⟨h13131, hp⟩ := hp
      have h13132 := HS.trans h12949 h13131 (by decide)
      obtain ⟨rfl, rfl⟩ := hp
      refine m_aload_n F rfl e_X10_readOption_28 ?_
      refine m_iconst F (v := 1) (by decide) e_X10_readOption_29 ?_
      refine m_bipush F (v := 24) (by decide) e_X10_readOption_30 ?_
      refine r_callV F e_X10_readOption_32 (q_X10_numeralG (x_l X) V c T Z u h P12950 L _ _ 1 24 1 h13132.1 (hob) oP12950 (by omega) (by omega) (fa12966) (by decide)) cb_X10_numeral ml_X10_165 im_X10_numeral se_X10_numeral h13132 rfl rfl (rest := []) rfl (Nat.le_of_ble_eq_true rfl) ⟨Nat.le_of_ble_eq_true rfl, Nat.le_of_ble_eq_true rfl⟩ ⟨Nat.le_of_ble_eq_true rfl, Nat.le_of_ble_eq_true rfl⟩ (fun r σ13133 hp => ?_)
      obtain ⟨h13134, hp⟩ := hp
      have h13135 := HS.trans h13132 h13134 (by decide)
      obtain ⟨rfl, rfl⟩ := hp
      refine m_istore_n F (lv' := [(3, .int (nI 1)), (2, .int (nI 4)), (1, .int (nI (4 + no))), (0, .ref c)]) e_X10_readOption_35 (by decide) rfl ?_
      refine m_aload_n F rfl e_X10_readOption_36 ?_
      refine m_iconst F (v := 0) (by decide) e_X10_readOption_37 ?_
      refine m_ldc F kc_X10_177 e_X10_readOption_38 ?_
      refine r_callV F e_X10_readOption_40 (q_X10_numeralG (x_l X) V c T Z u h P12950 L _ _ 0 99999 1 h13135.1 (hob) oP12950 (by omega) (by omega) (fa12966) (by decide)) cb_X10_numeral ml_X10_165 im_X10_numeral se_X10_numeral h13135 rfl rfl (rest := []) rfl (Nat.le_of_ble_eq_true rfl) ⟨Nat.le_of_ble_eq_true rfl, Nat.le_of_ble_eq_true rfl⟩ ⟨Nat.le_of_ble_eq_true rfl, Nat.le_of_ble_eq_true rfl⟩ (fun r σ13136 hp => ?_)
      obtain ⟨h13137, hp⟩ := hp
      have h13138 := HS.trans h13135 h13137 (by decide)
      obtain ⟨rfl, rfl⟩ := hp
      refine m_istore F (lv' := [(4, .int (nI 0)), (3, .int (nI 1)), (2, .int (nI 4)), (1, .int (nI (4 + no))), (0, .ref c)]) e_X10_readOption_43 (by decide) rfl ?_
      refine m_aload_n F rfl e_X10_readOption_45 ?_
      refine r_getC F e_X10_readOption_46 fl_X10_141 h13138 (fa12966) ?_
      refine m_if_eq F e_X10_readOption_49 (fun q => absurd q (by decide)) (fun _ => ?_)
      exact m_vret F hQ e_X10_readOption_52 (⟨P12950, oP12950, (by unfold RP; omega), (by unfold optionS; dsimp only; rw [if_neg (by omega), ek12968, tolK_1 e12959]; exact RM.l (fa12966) (fb12967) (by decide) (by decide) (by omega)), h13138, rfl⟩)
    · have hz9 : True := trivial
      refine m_istore_n F (lv' := [(2, .int (nI 4)), (1, .int (nI (4 + no))), (0, .ref c)]) e_X10_readOption_23 (by decide) rfl ?_
      refine m_aload_n F rfl e_X10_readOption_24 ?_
      refine r_callV F e_X10_readOption_25 (q_X10_goOnG (x_l X) V c T Z u h P12950 L _ _  4 h12949.1 (hob) oP12950  (fa12966) (by decide)) cb_X10_goOn ml_X10_154 im_X10_goOn se_X10_goOn h12949 rfl rfl (rest := []) rfl (Nat.le_of_ble_eq_true rfl) ⟨Nat.le_of_ble_eq_true rfl, Nat.le_of_ble_eq_true rfl⟩ ⟨Nat.le_of_ble_eq_true rfl, Nat.le_of_ble_eq_true rfl⟩ (fun r σ13139 hp => ?_)
      obtain ⟨h13140, hp⟩ := hp
      have h13141 := HS.trans h12949 h13140 (by decide)
      obtain ⟨rfl, rfl⟩ := hp
      refine m_aload_n F rfl e_X10_readOption_28 ?_
      refine m_iconst F (v := 1) (by decide) e_X10_readOption_29 ?_
      refine m_bipush F (v := 24) (by decide) e_X10_readOption_30 ?_
      refine r_callV F e_X10_readOption_32 (q_X10_numeralG (x_l X) V c T Z u h P12950 L _ _ 1 24 4 h13141.1 (hob) oP12950 (by omega) (by omega) (fa12966) (by decide)) cb_X10_numeral ml_X10_165 im_X10_numeral se_X10_numeral h13141 rfl rfl (rest := []) rfl (Nat.le_of_ble_eq_true rfl) ⟨Nat.le_of_ble_eq_true rfl, Nat.le_of_ble_eq_true rfl⟩ ⟨Nat.le_of_ble_eq_true rfl, Nat.le_of_ble_eq_true rfl⟩ (fun r σ13142 hp => ?_)
      obtain ⟨h13143, hp⟩ := hp
      have h13144 := HS.trans h13141 h13143 (by decide)
      obtain ⟨rfl, rfl⟩ := hp
      refine m_istore_n F (lv' := [(3, .int (nI 1)), (2, .int (nI 4)), (1, .int (nI (4 + no))), (0, .ref c)]) e_X10_readOption_35 (by decide) rfl ?_
      refine m_aload_n F rfl e_X10_readOption_36 ?_
      refine m_iconst F (v := 0) (by decide) e_X10_readOption_37 ?_
      refine m_ldc F kc_X10_177 e_X10_readOption_38 ?_
      refine r_callV F e_X10_readOption_40 (q_X10_numeralG (x_l X) V c T Z u h P12950 L _ _ 0 99999 4 h13144.1 (hob) oP12950 (by omega) (by omega) (fa12966) (by decide)) cb_X10_numeral ml_X10_165 im_X10_numeral se_X10_numeral h13144 rfl rfl (rest := []) rfl (Nat.le_of_ble_eq_true rfl) ⟨Nat.le_of_ble_eq_true rfl, Nat.le_of_ble_eq_true rfl⟩ ⟨Nat.le_of_ble_eq_true rfl, Nat.le_of_ble_eq_true rfl⟩ (fun r σ13145 hp => ?_)
      obtain ⟨h13146, hp⟩ := hp
      have h13147 := HS.trans h13144 h13146 (by decide)
      obtain ⟨rfl, rfl⟩ := hp
      refine m_istore F (lv' := [(4, .int (nI 0)), (3, .int (nI 1)), (2, .int (nI 4)), (1, .int (nI (4 + no))), (0, .ref c)]) e_X10_readOption_43 (by decide) rfl ?_
      refine m_aload_n F rfl e_X10_readOption_45 ?_
      refine r_getC F e_X10_readOption_46 fl_X10_141 h13147 (fa12966) ?_
      refine m_if_eq F e_X10_readOption_49 (fun q => absurd q (by decide)) (fun _ => ?_)
      exact m_vret F hQ e_X10_readOption_52 (⟨P12950, oP12950, (by unfold RP; omega), (by unfold optionS; dsimp only; rw [if_neg (by omega), ek12968, tolK_4 e12959 e12960]; exact RM.l (fa12966) (fb12967) (by decide) (by decide) (by omega)), h13147, rfl⟩)
  · have c11 : (4 + no) = 8 := (nI_eq (a := (4 + no)) (b := 8) (by omega) (by omega)).mp q11
    refine m_aload_n F rfl e_X10_readOption_14 ?_
    refine m_iconst F (v := 2) (by decide) e_X10_readOption_15 ?_
    refine r_callV F e_X10_readOption_16 (q_X10_wrongE (x_l X) V c T Z u h P L _ _ 2 n st so va ln fp h12939.1 (hob) hP (by omega) ⟨((fld_eq (h12938.2 c (by rw [show kC c c = 1 from kC_at (k := 0) (by decide)]; decide))).trans yd12930), ((fld_eq (h12938.2 c (by rw [show kC c c = 1 from kC_at (k := 0) (by decide)]; decide))).trans yd12931), ((fld_eq (h12938.2 c (by rw [show kC c c = 1 from kC_at (k := 0) (by decide)]; decide))).trans yd12932), ((fld_eq (h12938.2 c (by rw [show kC c c = 1 from kC_at (k := 0) (by decide)]; decide))).trans yd12933), ((fld_eq (h12938.2 c (by rw [show kC c c = 1 from kC_at (k := 0) (by decide)]; decide))).trans yd12934), ((fld_eq (h12938.2 c (by rw [show kC c c = 1 from kC_at (k := 0) (by decide)]; decide))).trans yd12935), ((fld_eq (h12938.2 c (by rw [show kC c c = 1 from kC_at (k := 0) (by decide)]; decide))).trans yd12936)⟩ (by decide)) cb_X10_wrong ml_X10_150 im_X10_wrong se_X10_wrong h12939 rfl rfl (rest := []) rfl (Nat.le_of_ble_eq_true rfl) ⟨Nat.le_of_ble_eq_true rfl, Nat.le_of_ble_eq_true rfl⟩ ⟨Nat.le_of_ble_eq_true rfl, Nat.le_of_ble_eq_true rfl⟩ (fun r σ13148 hp => ?_)
    obtain ⟨h13149, hp⟩ := hp
    have h13150 := HS.trans h12939 h13149 (by decide)
    have ga13151 := ga12940.of (h13149.2 (c + 1) (by rw [kC_at (k := 1) (by decide)]; decide))
    have ga13152 := ga12941.of (h13149.2 (c + 2) (by rw [kC_at (k := 2) (by decide)]; decide))
    have ga13153 := ga12942.of (h13149.2 (c + 3) (by rw [kC_at (k := 3) (by decide)]; decide))
    have ga13154 := ga12943.of (h13149.2 (c + 7) (by rw [kC_at (k := 7) (by decide)]; decide))
    have ga13155 := ga12944.of (h13149.2 (c + 8) (by rw [kC_at (k := 8) (by decide)]; decide))
    have ga13156 := ga12945.of (h13149.2 (c + 9) (by rw [kC_at (k := 9) (by decide)]; decide))
    have ga13157 := ga12946.of (h13149.2 (c + 11) (by rw [kC_at (k := 11) (by decide)]; decide))
    obtain ⟨hp, rfl⟩ := hp
    have hyd13158 := hp
    obtain ⟨yd13158, yd13159, yd13160, yd13161, yd13162, yd13163, yd13164⟩ := hyd13158
    refine m_aload_n F rfl e_X10_readOption_19 ?_
    refine r_callV F e_X10_readOption_20 (q_X10_atHandG (x_l X) V c T 0 u h P L _ _  2 h13150.1 (hob) hP  (yd13163) (by decide)) cb_X10_atHand ml_X10_174 im_X10_atHand se_X10_atHand h13150 rfl rfl (rest := []) rfl (Nat.le_of_ble_eq_true rfl) ⟨Nat.le_of_ble_eq_true rfl, Nat.le_of_ble_eq_true rfl⟩ ⟨Nat.le_of_ble_eq_true rfl, Nat.le_of_ble_eq_true rfl⟩ (fun r σ13165 hp => ?_)
    obtain ⟨h13166, hp⟩ := hp
    have h13167 := HS.trans h13150 h13166 (by decide)
    have ga13168 := ga13151.of (h13166.2 (c + 1) (by rw [kC_at (k := 1) (by decide)]; decide))
    have ga13169 := ga13152.of (h13166.2 (c + 2) (by rw [kC_at (k := 2) (by decide)]; decide))
    have ga13170 := ga13153.of (h13166.2 (c + 3) (by rw [kC_at (k := 3) (by decide)]; decide))
    have ga13171 := ga13154.of (h13166.2 (c + 7) (by rw [kC_at (k := 7) (by decide)]; decide))
    have ga13172 := ga13155.of (h13166.2 (c + 8) (by rw [kC_at (k := 8) (by decide)]; decide))
    have ga13173 := ga13156.of (h13166.2 (c + 9) (by rw [kC_at (k := 9) (by decide)]; decide))
    have ga13174 := ga13157.of (h13166.2 (c + 11) (by rw [kC_at (k := 11) (by decide)]; decide))
    obtain ⟨rfl, rfl⟩ := hp
    refine m_istore_n F (lv' := [(2, .int (nI 4)), (1, .int (nI (4 + no))), (0, .ref c)]) e_X10_readOption_23 (by decide) rfl ?_
    refine m_aload_n F rfl e_X10_readOption_24 ?_
    refine r_callV F e_X10_readOption_25 (q_X10_goOnG (x_l X) V c T 0 u h P L _ _  2 h13167.1 (hob) hP  (yd13163) (by decide)) cb_X10_goOn ml_X10_154 im_X10_goOn se_X10_goOn h13167 rfl rfl (rest := []) rfl (Nat.le_of_ble_eq_true rfl) ⟨Nat.le_of_ble_eq_true rfl, Nat.le_of_ble_eq_true rfl⟩ ⟨Nat.le_of_ble_eq_true rfl, Nat.le_of_ble_eq_true rfl⟩ (fun r σ13175 hp => ?_)
    obtain ⟨h13176, hp⟩ := hp
    have h13177 := HS.trans h13167 h13176 (by decide)
    have ga13178 := ga13151.of (h13176.2 (c + 1) (by rw [kC_at (k := 1) (by decide)]; decide))
    have ga13179 := ga13152.of (h13176.2 (c + 2) (by rw [kC_at (k := 2) (by decide)]; decide))
    have ga13180 := ga13153.of (h13176.2 (c + 3) (by rw [kC_at (k := 3) (by decide)]; decide))
    have ga13181 := ga13154.of (h13176.2 (c + 7) (by rw [kC_at (k := 7) (by decide)]; decide))
    have ga13182 := ga13155.of (h13176.2 (c + 8) (by rw [kC_at (k := 8) (by decide)]; decide))
    have ga13183 := ga13156.of (h13176.2 (c + 9) (by rw [kC_at (k := 9) (by decide)]; decide))
    have ga13184 := ga13157.of (h13176.2 (c + 11) (by rw [kC_at (k := 11) (by decide)]; decide))
    obtain ⟨rfl, rfl⟩ := hp
    refine m_aload_n F rfl e_X10_readOption_28 ?_
    refine m_iconst F (v := 1) (by decide) e_X10_readOption_29 ?_
    refine m_bipush F (v := 24) (by decide) e_X10_readOption_30 ?_
    refine r_callV F e_X10_readOption_32 (q_X10_numeralG (x_l X) V c T 0 u h P L _ _ 1 24 2 h13177.1 (hob) hP (by omega) (by omega) (yd13163) (by decide)) cb_X10_numeral ml_X10_165 im_X10_numeral se_X10_numeral h13177 rfl rfl (rest := []) rfl (Nat.le_of_ble_eq_true rfl) ⟨Nat.le_of_ble_eq_true rfl, Nat.le_of_ble_eq_true rfl⟩ ⟨Nat.le_of_ble_eq_true rfl, Nat.le_of_ble_eq_true rfl⟩ (fun r σ13185 hp => ?_)
    obtain ⟨h13186, hp⟩ := hp
    have h13187 := HS.trans h13177 h13186 (by decide)
    have ga13188 := ga13151.of (h13186.2 (c + 1) (by rw [kC_at (k := 1) (by decide)]; decide))
    have ga13189 := ga13152.of (h13186.2 (c + 2) (by rw [kC_at (k := 2) (by decide)]; decide))
    have ga13190 := ga13153.of (h13186.2 (c + 3) (by rw [kC_at (k := 3) (by decide)]; decide))
    have ga13191 := ga13154.of (h13186.2 (c + 7) (by rw [kC_at (k := 7) (by decide)]; decide))
    have ga13192 := ga13155.of (h13186.2 (c + 8) (by rw [kC_at (k := 8) (by decide)]; decide))
    have ga13193 := ga13156.of (h13186.2 (c + 9) (by rw [kC_at (k := 9) (by decide)]; decide))
    have ga13194 := ga13157.of (h13186.2 (c + 11) (by rw [kC_at (k := 11) (by decide)]; decide))
    obtain ⟨rfl, rfl⟩ := hp
    refine m_istore_n F (lv' := [(3, .int (nI 1)), (2, .int (nI 4)), (1, .int (nI (4 + no))), (0, .ref c)]) e_X10_readOption_35 (by decide) rfl ?_
    refine m_aload_n F rfl e_X10_readOption_36 ?_
    refine m_iconst F (v := 0) (by decide) e_X10_readOption_37 ?_
    refine m_ldc F kc_X10_177 e_X10_readOption_38 ?_
    refine r_callV F e_X10_readOption_40 (q_X10_numeralG (x_l X) V c T 0 u h P L _ _ 0 99999 2 h13187.1 (hob) hP (by omega) (by omega) (yd13163) (by decide)) cb_X10_numeral ml_X10_165 im_X10_numeral se_X10_numeral h13187 rfl rfl (rest := []) rfl (Nat.le_of_ble_eq_true rfl) ⟨Nat.le_of_ble_eq_true rfl, Nat.le_of_ble_eq_true rfl⟩ ⟨Nat.le_of_ble_eq_true rfl, Nat.le_of_ble_eq_true rfl⟩ (fun r σ13195 hp => ?_)
    obtain ⟨h13196, hp⟩ := hp
    have h13197 := HS.trans h13187 h13196 (by decide)
    have ga13198 := ga13151.of (h13196.2 (c + 1) (by rw [kC_at (k := 1) (by decide)]; decide))
    have ga13199 := ga13152.of (h13196.2 (c + 2) (by rw [kC_at (k := 2) (by decide)]; decide))
    have ga13200 := ga13153.of (h13196.2 (c + 3) (by rw [kC_at (k := 3) (by decide)]; decide))
    have ga13201 := ga13154.of (h13196.2 (c + 7) (by rw [kC_at (k := 7) (by decide)]; decide))
    have ga13202 := ga13155.of (h13196.2 (c + 8) (by rw [kC_at (k := 8) (by decide)]; decide))
    have ga13203 := ga13156.of (h13196.2 (c + 9) (by rw [kC_at (k := 9) (by decide)]; decide))
    have ga13204 := ga13157.of (h13196.2 (c + 11) (by rw [kC_at (k := 11) (by decide)]; decide))
    obtain ⟨rfl, rfl⟩ := hp
    refine m_istore F (lv' := [(4, .int (nI 0)), (3, .int (nI 1)), (2, .int (nI 4)), (1, .int (nI (4 + no))), (0, .ref c)]) e_X10_readOption_43 (by decide) rfl ?_
    refine m_aload_n F rfl e_X10_readOption_45 ?_
    refine r_getC F e_X10_readOption_46 fl_X10_141 h13197 (yd13163) ?_
    refine m_if_eq F e_X10_readOption_49 (fun q => absurd q (by decide)) (fun _ => ?_)
    have h13205 : HS V c _ [0, 2, 4, 5, 6, 7, 8, 9, 10, 11, 12, 13, 17, 18, 19, 20, 21, 22, 23] _ _ := ⟨HR.mono (Z' := Z) (by intro e; first | rfl | assumption | omega) h13197.1, h13197.2⟩
    exact m_vret F hQ e_X10_readOption_52 (⟨P, hP, (by unfold RP; omega), (by unfold optionS; dsimp only; rw [if_pos (by omega)]; exact RM.l (yd13163) (yd13164) (by decide) (by decide) (by omega)), h13205, rfl⟩)
