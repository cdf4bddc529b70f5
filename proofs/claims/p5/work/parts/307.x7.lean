set_option maxRecDepth 20000 in
theorem s_X7_readLeaseE (l : Launch) (V : VX) (G : GH) (b M Z T N : Nat) (σ : Mem) (a : Nat) (tp : Nat) (td : Nat) (n : Nat) (bk : Nat) (nx : Nat) (st : Nat) (tk : Int32) (vl : Int32) (py : Nat) (sd : Nat) (ln : Nat) (ft : Int32) (pl : Int32) (t : Nat → Nat) (s9 : Nat) (v9 : Nat) (nl : Nat) (nm : Nat → Nat) (nc : Nat) (lc : Nat) (no : Nat) (md : Nat → Nat → Bool) (h0 : HT V G (b, M, Z, T) σ) (hk : kA b a = 3) (hp0 : ft = 0) (hp1 : CT tk vl s9 v9) (hp2 : nx ≤ n) (hp3 : st ≤ n) (hp4 : pl = -1) (hp5 : BX σ bk nl nm nc lc no) (hp6 : TD V σ td nl md) (hp7 : py ≤ 12) (hR : RD σ a tp td n bk nx st tk vl py sd ln ft pl) (hB : BY V σ tp n t) (hn7 : n ≤ 700) (hsd : sd ≤ 1) (htp : kA b tp = 2) (htd : kA b td = 4) (hbk : kA b bk = 7) (hgb : ¬ G.gd (blk (bk - b)) = 1) (hM : M + 0 ≤ 1000000000) : Ct l V yX7_readLease cX7_readLease 5 none 6 0 0 N σ [.ref a] (fun r τ => HK V G (b, M, Z, T) [0, 1, 2, 4, 5, 8, 9, 10, 11, 12, 13, 14, 16, 19] σ τ ∧ RES V τ a tp td n bk (leaseS (tok t n) (st, s9, v9, nx) nl nm py nc lc no sd md ln) ∧ r = none) := by
  refine Ct.of (by decide) (Nat.le_of_ble_eq_true rfl) [(0, .ref a)] rfl (fun X hX F hQ => ?_)
  have h1 : HK V G (b, M, Z, T) [0, 1, 2, 4, 5, 8, 9, 10, 11, 12, 13, 14, 16, 19] σ σ := HK.start h0
  have hrd5734 := hR
  obtain ⟨rd5734, rd5735, rd5736, rd5737, rd5738, rd5739, rd5740, rd5741, rd5742, rd5743, rd5744, rd5745, rd5746⟩ := hrd5734
  subst hp0
  subst hp4
  have hbb5747 := hp5
  obtain ⟨bb5747, bb5748, bb5749, bb5750, bb5751, bb5752, bb5753, bb5754⟩ := hbb5747
  have hl4 := hp5.2.2.2.2.2.1
  refine m_aload_n F rfl e_X7_readLease_0 ?_
  refine m_aload_n F rfl e_X7_readLease_1 ?_
  refine t_getC F e_X7_readLease_2 fl_X7_23 (fun _ => o3) h1 hk (rd5736) ?_
  refine t_getC F e_X7_readLease_5 fl_X7_119 (fun _ => o7) h1 hbk (bb5747) ?_
  refine m_iconst F (v := 4) (by decide) e_X7_readLease_8 ?_
  refine m_icmp_lt F e_X7_readLease_9 (fun q9 => ?_) (fun q9 => ?_)
  · have c9 : nl < 4 := (nI_ltI (a := nl) (b := 4) (by omega) (by omega)).mp q9
    refine m_iconst F (v := 0) (by decide) e_X7_readLease_16 ?_
    refine t_callV F e_X7_readLease_17 (s_X7_startLineE (x_l X) V G b M Z T _ _ a 0 tp td n bk nx st tk vl py sd ln 0 (-1) t s9 v9 h1.1 hk rfl hp1 (by omega) (by omega) rfl ⟨rd5734, rd5735, rd5736, rd5737, rd5738, rd5739, rd5740, rd5741, rd5742, rd5743, rd5744, rd5745, rd5746⟩ (hB.keep (h1.2 tp (by rw [show kA _ tp = 2 from htp]; decide))) hn7 hsd htp htd hbk hgb (by omega)) cb_X7_startLine ml_X7_124 im_X7_startLine se_X7_startLine (fun _ => o3) h1 hk rfl rfl (rest := []) rfl (Nat.le_of_ble_eq_true rfl) ⟨Nat.le_of_ble_eq_true rfl, Nat.le_of_ble_eq_true rfl⟩ ⟨Nat.le_of_ble_eq_true rfl, Nat.le_of_ble_eq_true rfl⟩ (fun r σ5755 hp => ?_)
    obtain ⟨h5756, hp⟩ := hp
    have h5757 := HK.trans h1 h5756 (by decide)
    have bx5758 := hp5.hk hbk h5756 (by decide) (by decide) (by decide)
    have tq5759 := hp6.keep (h5756.2 td (by rw [show kA _ td = 4 from htd]; decide))
    obtain ⟨⟨tk5760, vl5761, ct5762, rd5763, rd5764, rd5765, rd5766, rd5767, rd5768, rd5769, rd5770, rd5771, rd5772, rd5773, rd5774, rd5775⟩, rfl⟩ := hp
    generalize ek5776 : tok t n nx = k5776 at ct5762 rd5767 rd5768
    have bk5776 := tok_ok (t := t) (n := n) nx (by omega)
    rw [ek5776] at bk5776
    refine m_aload_n F rfl e_X7_readLease_20 ?_
    refine t_callV F e_X7_readLease_21 (s_X7_readNewNameE (x_l X) V G b M Z T _ _ a  tp td n bk k5776.2.2.2 k5776.1 tk5760 vl5761 py sd ln 0 (-1) t k5776.2.1 k5776.2.2.1 nl nm nc lc no  h5757.1 hk rfl ct5762 (by omega) (by omega) bx5758 ⟨rd5763, rd5764, rd5765, rd5766, rd5767, rd5768, rd5769, rd5770, rd5771, rd5772, rd5773, rd5774, rd5775⟩ (hB.keep (h5757.2 tp (by rw [show kA _ tp = 2 from htp]; decide))) hn7 hsd htp htd hbk hgb (by omega)) cb_X7_readNewName ml_X7_127 im_X7_readNewName se_X7_readNewName (fun _ => o3) h5757 hk rfl rfl (rest := []) rfl (Nat.le_of_ble_eq_true rfl) ⟨Nat.le_of_ble_eq_true rfl, Nat.le_of_ble_eq_true rfl⟩ ⟨Nat.le_of_ble_eq_true rfl, Nat.le_of_ble_eq_true rfl⟩ (fun r σ5777 hp => ?_)
    obtain ⟨h5778, hp⟩ := hp
    have h5779 := HK.trans h5757 h5778 (by decide)
    have bx5780 := bx5758.hk hbk h5778 (by decide) (by decide) (by decide)
    have tq5781 := tq5759.keep (h5778.2 td (by rw [show kA _ td = 4 from htd]; decide))
    rcases hp with ⟨e5782, e5783, ⟨tk5785, vl5786, ct5787, rd5792, rd5793, rd5794, rd5795, rd5796, rd5797, rd5798, rd5799, rd5800, rd5801, rd5802, rd5803, rd5804⟩, rfl⟩ | ⟨e5782, ⟨rd5788, rd5789⟩, x5790, rfl⟩ | ⟨e5782, e5783, ⟨rd5788, rd5789⟩, x5790, rfl⟩
    · have hv9 := ct5762.w e5782
      generalize ek5805 : tok t n k5776.2.2.2 = k5805 at ct5787 rd5796 rd5797
      have bk5805 := tok_ok (t := t) (n := n) k5776.2.2.2 (by omega)
      rw [ek5805] at bk5805
      refine m_istore_n F (lv' := [(1, .int (nI k5776.2.2.1)), (0, .ref a)]) e_X7_readLease_24 (by decide) rfl ?_
      refine m_aload_n F rfl e_X7_readLease_25 ?_
      refine m_iconst F (v := 0) (by decide) e_X7_readLease_26 ?_
      refine m_bipush F (v := 20) (by decide) e_X7_readLease_27 ?_
      refine t_callV F e_X7_readLease_29 (s_X7_readNumberE (x_l X) V G b M Z T _ _ a 0 20 tp td n bk k5805.2.2.2 k5805.1 tk5785 vl5786 py sd ln 0 (-1) t k5805.2.1 k5805.2.2.1 h5779.1 hk (by omega) (by omega) rfl ct5787 (by omega) (by omega) ⟨rd5792, rd5793, rd5794, rd5795, rd5796, rd5797, rd5798, rd5799, rd5800, rd5801, rd5802, rd5803, rd5804⟩ (hB.keep (h5779.2 tp (by rw [show kA _ tp = 2 from htp]; decide))) hn7 hsd htp htd hbk hgb (by omega)) cb_X7_readNumber ml_X7_130 im_X7_readNumber se_X7_readNumber (fun _ => o3) h5779 hk rfl rfl (rest := []) rfl (Nat.le_of_ble_eq_true rfl) ⟨Nat.le_of_ble_eq_true rfl, Nat.le_of_ble_eq_true rfl⟩ ⟨Nat.le_of_ble_eq_true rfl, Nat.le_of_ble_eq_true rfl⟩ (fun r σ5806 hp => ?_)
      obtain ⟨h5807, hp⟩ := hp
      have h5808 := HK.trans h5779 h5807 (by decide)
      have bx5809 := bx5780.hk hbk h5807 (by decide) (by decide) (by decide)
      have tq5810 := tq5781.keep (h5807.2 td (by rw [show kA _ td = 4 from htd]; decide))
      rcases hp with ⟨e5811, l5813, l5814, ⟨tk5815, vl5816, ct5817, rd5818, rd5819, rd5820, rd5821, rd5822, rd5823, rd5824, rd5825, rd5826, rd5827, rd5828, rd5829, rd5830⟩, rfl⟩ | ⟨e5811, ⟨rd5818, rd5819, rd5820, rd5821, rd5822, rd5823, rd5824, rd5825, rd5826, rd5827, rd5828, rd5829, rd5830⟩, rfl⟩ | ⟨e5811, e5812, ⟨rd5818, rd5819, rd5820, rd5821, rd5822, rd5823, rd5824, rd5825, rd5826, rd5827, rd5828, rd5829, rd5830⟩, rfl⟩
      · generalize ek5831 : tok t n k5805.2.2.2 = k5831 at ct5817 rd5822 rd5823
        have bk5831 := tok_ok (t := t) (n := n) k5805.2.2.2 (by omega)
        rw [ek5831] at bk5831
        refine m_istore_n F (lv' := [(2, .int (nI k5805.2.2.1)), (1, .int (nI k5776.2.2.1)), (0, .ref a)]) e_X7_readLease_32 (by decide) rfl ?_
        refine m_aload_n F rfl e_X7_readLease_33 ?_
        refine m_iconst F (v := 1) (by decide) e_X7_readLease_34 ?_
        refine m_bipush F (v := 48) (by decide) e_X7_readLease_35 ?_
        refine t_callV F e_X7_readLease_37 (s_X7_readNumberE (x_l X) V G b M Z T _ _ a 1 48 tp td n bk k5831.2.2.2 k5831.1 tk5815 vl5816 py sd ln 0 (-1) t k5831.2.1 k5831.2.2.1 h5808.1 hk (by omega) (by omega) rfl ct5817 (by omega) (by omega) ⟨rd5818, rd5819, rd5820, rd5821, rd5822, rd5823, rd5824, rd5825, rd5826, rd5827, rd5828, rd5829, rd5830⟩ (hB.keep (h5808.2 tp (by rw [show kA _ tp = 2 from htp]; decide))) hn7 hsd htp htd hbk hgb (by omega)) cb_X7_readNumber ml_X7_130 im_X7_readNumber se_X7_readNumber (fun _ => o3) h5808 hk rfl rfl (rest := []) rfl (Nat.le_of_ble_eq_true rfl) ⟨Nat.le_of_ble_eq_true rfl, Nat.le_of_ble_eq_true rfl⟩ ⟨Nat.le_of_ble_eq_true rfl, Nat.le_of_ble_eq_true rfl⟩ (fun r σ5832 hp => ?_)
        obtain ⟨h5833, hp⟩ := hp
        have h5834 := HK.trans h5808 h5833 (by decide)
        have bx5835 := bx5809.hk hbk h5833 (by decide) (by decide) (by decide)
        have tq5836 := tq5810.keep (h5833.2 td (by rw [show kA _ td = 4 from htd]; decide))
        rcases hp with ⟨e5837, l5839, l5840, ⟨tk5841, vl5842, ct5843, rd5844, rd5845, rd5846, rd5847, rd5848, rd5849, rd5850, rd5851, rd5852, rd5853, rd5854, rd5855, rd5856⟩, rfl⟩ | ⟨e5837, ⟨rd5844, rd5845, rd5846, rd5847, rd5848, rd5849, rd5850, rd5851, rd5852, rd5853, rd5854, rd5855, rd5856⟩, rfl⟩ | ⟨e5837, e5838, ⟨rd5844, rd5845, rd5846, rd5847, rd5848, rd5849, rd5850, rd5851, rd5852, rd5853, rd5854, rd5855, rd5856⟩, rfl⟩
        · generalize ek5857 : tok t n k5831.2.2.2 = k5857 at ct5843 rd5848 rd5849
          have bk5857 := tok_ok (t := t) (n := n) k5831.2.2.2 (by omega)
          rw [ek5857] at bk5857
          refine m_istore_n F (lv' := [(3, .int (nI k5831.2.2.1)), (2, .int (nI k5805.2.2.1)), (1, .int (nI k5776.2.2.1)), (0, .ref a)]) e_X7_readLease_40 (by decide) rfl ?_
          refine m_aload_n F rfl e_X7_readLease_41 ?_
          refine m_iconst F (v := 0) (by decide) e_X7_readLease_42 ?_
          refine m_ldc F kc_X7_133 e_X7_readLease_43 ?_
          refine t_callV F e_X7_readLease_45 (s_X7_readNumberE (x_l X) V G b M Z T _ _ a 0 200000 tp td n bk k5857.2.2.2 k5857.1 tk5841 vl5842 py sd ln 0 (-1) t k5857.2.1 k5857.2.2.1 h5834.1 hk (by omega) (by omega) rfl ct5843 (by omega) (by omega) ⟨rd5844, rd5845, rd5846, rd5847, rd5848, rd5849, rd5850, rd5851, rd5852, rd5853, rd5854, rd5855, rd5856⟩ (hB.keep (h5834.2 tp (by rw [show kA _ tp = 2 from htp]; decide))) hn7 hsd htp htd hbk hgb (by omega)) cb_X7_readNumber ml_X7_130 im_X7_readNumber se_X7_readNumber (fun _ => o3) h5834 hk rfl rfl (rest := []) rfl (Nat.le_of_ble_eq_true rfl) ⟨Nat.le_of_ble_eq_true rfl, Nat.le_of_ble_eq_true rfl⟩ ⟨Nat.le_of_ble_eq_true rfl, Nat.le_of_ble_eq_true rfl⟩ (fun r σ5858 hp => ?_)
          obtain ⟨h5859, hp⟩ := hp
          have h5860 := HK.trans h5834 h5859 (by decide)
          have bx5861 := bx5835.hk hbk h5859 (by decide) (by decide) (by decide)
          have tq5862 := tq5836.keep (h5859.2 td (by rw [show kA _ td = 4 from htd]; decide))
          rcases hp with ⟨e5863, l5865, l5866, ⟨tk5867, vl5868, ct5869, rd5870, rd5871, rd5872, rd5873, rd5874, rd5875, rd5876, rd5877, rd5878, rd5879, rd5880, rd5881, rd5882⟩, rfl⟩ | ⟨e5863, ⟨rd5870, rd5871, rd5872, rd5873, rd5874, rd5875, rd5876, rd5877, rd5878, rd5879, rd5880, rd5881, rd5882⟩, rfl⟩ | ⟨e5863, e5864, ⟨rd5870, rd5871, rd5872, rd5873, rd5874, rd5875, rd5876, rd5877, rd5878, rd5879, rd5880, rd5881, rd5882⟩, rfl⟩
          · generalize ek5883 : tok t n k5857.2.2.2 = k5883 at ct5869 rd5874 rd5875
            have bk5883 := tok_ok (t := t) (n := n) k5857.2.2.2 (by omega)
            rw [ek5883] at bk5883
            refine m_istore F (lv' := [(4, .int (nI k5857.2.2.1)), (3, .int (nI k5831.2.2.1)), (2, .int (nI k5805.2.2.1)), (1, .int (nI k5776.2.2.1)), (0, .ref a)]) e_X7_readLease_48 (by decide) rfl ?_
            refine m_aload_n F rfl e_X7_readLease_50 ?_
            refine t_getC F e_X7_readLease_51 fl_X7_55 (fun _ => o3) h5860 hk (rd5881) ?_
            refine m_if_ne F e_X7_readLease_54 (fun q => absurd (by decide) q) (fun _ => ?_)
            refine m_aload_n F rfl e_X7_readLease_57 ?_
            refine t_getC F e_X7_readLease_58 fl_X7_23 (fun _ => o3) h5860 hk (rd5872) ?_
            refine m_iload_n F rfl e_X7_readLease_61 ?_
            refine m_iload_n F rfl e_X7_readLease_62 ?_
            refine m_iload_n F rfl e_X7_readLease_63 ?_
            refine m_iload F rfl e_X7_readLease_64 ?_
            refine t_callV F e_X7_readLease_66 (s_X2_addLeaseE (x_l X) V G b M Z T _ _ bk k5776.2.2.1 (nI k5805.2.2.1) (nI k5831.2.2.1) (nI k5857.2.2.1) nl nm nc lc no h5860.1 hbk (by omega) (by omega) hgb bx5861 (by omega)) cb_X2_addLease ml_X7_134 im_X2_addLease se_X2_addLease (fun _ => o7) h5860 hbk rfl rfl (rest := []) rfl (Nat.le_of_ble_eq_true rfl) ⟨Nat.le_of_ble_eq_true rfl, Nat.le_of_ble_eq_true rfl⟩ ⟨Nat.le_of_ble_eq_true rfl, Nat.le_of_ble_eq_true rfl⟩ (fun r σ5884 hp => ?_)
            obtain ⟨h5885, bx5887, rfl⟩ := hp
            have h5886 := HK.trans h5860 h5885 (by decide)
            have tq5888 := tq5862.keep (h5885.2 td (by rw [show kA _ td = 4 from htd]; decide))
            have tq5889 := tq5888.new
            exact m_vret F hQ e_X7_readLease_69 (⟨h5886, (by unfold leaseS; dsimp only; rw [if_neg (by omega), ek5776, newK_ok e5782 e5783, ek5805, numK_ok e5811 l5813 l5814, ek5831, numK_ok e5837 l5839 l5840, ek5857, numK_ok e5863 l5865 l5866, ek5883]; exact RES.r ct5869 ⟨(fld_eq (h5885.2 a (by rw [show kA _ a = 3 from hk]; decide))).trans rd5870, (fld_eq (h5885.2 a (by rw [show kA _ a = 3 from hk]; decide))).trans rd5871, (fld_eq (h5885.2 a (by rw [show kA _ a = 3 from hk]; decide))).trans rd5872, (fld_eq (h5885.2 a (by rw [show kA _ a = 3 from hk]; decide))).trans rd5873, (fld_eq (h5885.2 a (by rw [show kA _ a = 3 from hk]; decide))).trans rd5874, (fld_eq (h5885.2 a (by rw [show kA _ a = 3 from hk]; decide))).trans rd5875, (fld_eq (h5885.2 a (by rw [show kA _ a = 3 from hk]; decide))).trans rd5876, (fld_eq (h5885.2 a (by rw [show kA _ a = 3 from hk]; decide))).trans rd5877, (fld_eq (h5885.2 a (by rw [show kA _ a = 3 from hk]; decide))).trans rd5878, (fld_eq (h5885.2 a (by rw [show kA _ a = 3 from hk]; decide))).trans rd5879, (fld_eq (h5885.2 a (by rw [show kA _ a = 3 from hk]; decide))).trans rd5880, (fld_eq (h5885.2 a (by rw [show kA _ a = 3 from hk]; decide))).trans rd5881, (fld_eq (h5885.2 a (by rw [show kA _ a = 3 from hk]; decide))).trans rd5882⟩ bx5887 tq5889 (by omega) (by omega) (by omega) (by omega)), rfl⟩)
          · have hz9 : True := trivial
            refine m_istore F (lv' := [(4, .int 0), (3, .int (nI k5831.2.2.1)), (2, .int (nI k5805.2.2.1)), (1, .int (nI k5776.2.2.1)), (0, .ref a)]) e_X7_readLease_48 (by decide) rfl ?_
            refine m_aload_n F rfl e_X7_readLease_50 ?_
            refine t_getC F e_X7_readLease_51 fl_X7_55 (fun _ => o3) h5860 hk (rd5881) ?_
            refine m_if_ne F e_X7_readLease_54 (fun _ => ?_) (fun q => absurd q (by decide))
            exact m_vret F hQ e_X7_readLease_69 (⟨h5860, (by unfold leaseS; dsimp only; rw [if_neg (by omega), ek5776, newK_ok e5782 e5783, ek5805, numK_ok e5811 l5813 l5814, ek5831, numK_ok e5837 l5839 l5840, ek5857, numK_1 e5863]; exact RES.l (rd5881) (rd5882) (by decide) (by decide) (by omega)), rfl⟩)
          · have hz9 : True := trivial
            refine m_istore F (lv' := [(4, .int 0), (3, .int (nI k5831.2.2.1)), (2, .int (nI k5805.2.2.1)), (1, .int (nI k5776.2.2.1)), (0, .ref a)]) e_X7_readLease_48 (by decide) rfl ?_
            refine m_aload_n F rfl e_X7_readLease_50 ?_
            refine t_getC F e_X7_readLease_51 fl_X7_55 (fun _ => o3) h5860 hk (rd5881) ?_
            refine m_if_ne F e_X7_readLease_54 (fun _ => ?_) (fun q => absurd q (by decide))
            exact m_vret F hQ e_X7_readLease_69 (⟨h5860, (by unfold leaseS; dsimp only; rw [if_neg (by omega), ek5776, newK_ok e5782 e5783, ek5805, numK_ok e5811 l5813 l5814, ek5831, numK_ok e5837 l5839 l5840, ek5857, numK_2 e5863 e5864]; exact RES.l (rd5881) (rd5882) (by decide) (by decide) (by omega)), rfl⟩)
        · have hz9 : True := trivial
          refine m_istore_n F (lv' := [(3, .int 0), (2, .int (nI k5805.2.2.1)), (1, .int (nI k5776.2.2.1)), (0, .ref a)]) e_X7_readLease_40 (by decide) rfl ?_
          refine m_aload_n F rfl e_X7_readLease_41 ?_
          refine m_iconst F (v := 0) (by decide) e_X7_readLease_42 ?_
          refine m_ldc F kc_X7_133 e_X7_readLease_43 ?_
          refine t_callV F e_X7_readLease_45 (s_X7_readNumberG (x_l X) V G b M Z T _ _ a 0 200000 1 (nI k5831.1) h5834.1 hk  (rd5855) (rd5856) (by decide) (by omega)) cb_X7_readNumber ml_X7_130 im_X7_readNumber se_X7_readNumber (fun _ => o3) h5834 hk rfl rfl (rest := []) rfl (Nat.le_of_ble_eq_true rfl) ⟨Nat.le_of_ble_eq_true rfl, Nat.le_of_ble_eq_true rfl⟩ ⟨Nat.le_of_ble_eq_true rfl, Nat.le_of_ble_eq_true rfl⟩ (fun r σ5890 hp => ?_)
          obtain ⟨h5891, rd5893, rd5894, rfl⟩ := hp
          have h5892 := HK.trans h5834 h5891 (by decide)
          refine m_istore F (lv' := [(4, .int 0), (3, .int 0), (2, .int (nI k5805.2.2.1)), (1, .int (nI k5776.2.2.1)), (0, .ref a)]) e_X7_readLease_48 (by decide) rfl ?_
          refine m_aload_n F rfl e_X7_readLease_50 ?_
          refine t_getC F e_X7_readLease_51 fl_X7_55 (fun _ => o3) h5892 hk (rd5893) ?_
          refine m_if_ne F e_X7_readLease_54 (fun _ => ?_) (fun q => absurd q (by decide))
          exact m_vret F hQ e_X7_readLease_69 (⟨h5892, (by unfold leaseS; dsimp only; rw [if_neg (by omega), ek5776, newK_ok e5782 e5783, ek5805, numK_ok e5811 l5813 l5814, ek5831, numK_1 e5837]; exact RES.l (rd5893) (rd5894) (by decide) (by decide) (by omega)), rfl⟩)
        · have hz9 : True := trivial
          refine m_istore_n F (lv' := [(3, .int 0), (2, .int (nI k5805.2.2.1)), (1, .int (nI k5776.2.2.1)), (0, .ref a)]) e_X7_readLease_40 (by decide) rfl ?_
          refine m_aload_n F rfl e_X7_readLease_41 ?_
          refine m_iconst F (v := 0) (by decide) e_X7_readLease_42 ?_
          refine m_ldc F kc_X7_133 e_X7_readLease_43 ?_
          refine t_callV F e_X7_readLease_45 (s_X7_readNumberG (x_l X) V G b M Z T _ _ a 0 200000 2 (nI k5831.1) h5834.1 hk  (rd5855) (rd5856) (by decide) (by omega)) cb_X7_readNumber ml_X7_130 im_X7_readNumber se_X7_readNumber (fun _ => o3) h5834 hk rfl rfl (rest := []) rfl (Nat.le_of_ble_eq_true rfl) ⟨Nat.le_of_ble_eq_true rfl, Nat.le_of_ble_eq_true rfl⟩ ⟨Nat.le_of_ble_eq_true rfl, Nat.le_of_ble_eq_true rfl⟩ (fun r σ5896 hp => ?_)
          obtain ⟨h5897, rd5899, rd5900, rfl⟩ := hp
          have h5898 := HK.trans h5834 h5897 (by decide)
          refine m_istore F (lv' := [(4, .int 0), (3, .int 0), (2, .int (nI k5805.2.2.1)), (1, .int (nI k5776.2.2.1)), (0, .ref a)]) e_X7_readLease_48 (by decide) rfl ?_
          refine m_aload_n F rfl e_X7_readLease_50 ?_
          refine t_getC F e_X7_readLease_51 fl_X7_55 (fun _ => o3) h5898 hk (rd5899) ?_
          refine m_if_ne F e_X7_readLease_54 (fun _ => ?_) (fun q => absurd q (by decide))
          exact m_vret F hQ e_X7_readLease_69 (⟨h5898, (by unfold leaseS; dsimp only; rw [if_neg (by omega), ek5776, newK_ok e5782 e5783, ek5805, numK_ok e5811 l5813 l5814, ek5831, numK_2 e5837 e5838]; exact RES.l (rd5899) (rd5900) (by decide) (by decide) (by omega)), rfl⟩)
      · have hz9 : True := trivial
        refine m_istore_n F (lv' := [(2, .int 0), (1, .int (nI k5776.2.2.1)), (0, .ref a)]) e_X7_readLease_32 (by decide) rfl ?_
        refine m_aload_n F rfl e_X7_readLease_33 ?_
        refine m_iconst F (v := 1) (by decide) e_X7_readLease_34 ?_
        refine m_bipush F (v := 48) (by decide) e_X7_readLease_35 ?_
        refine t_callV F e_X7_readLease_37 (s_X7_readNumberG (x_l X) V G b M Z T _ _ a 1 48 1 (nI k5805.1) h5808.1 hk  (rd5829) (rd5830) (by decide) (by omega)) cb_X7_readNumber ml_X7_130 im_X7_readNumber se_X7_readNumber (fun _ => o3) h5808 hk rfl rfl (rest := []) rfl (Nat.le_of_ble_eq_true rfl) ⟨Nat.le_of_ble_eq_true rfl, Nat.le_of_ble_eq_true rfl⟩ ⟨Nat.le_of_ble_eq_true rfl, Nat.le_of_ble_eq_true rfl⟩ (fun r σ5902 hp => ?_)
        obtain ⟨h5903, rd5905, rd5906, rfl⟩ := hp
        have h5904 := HK.trans h5808 h5903 (by decide)
        refine m_istore_n F (lv' := [(3, .int 0), (2, .int 0), (1, .int (nI k5776.2.2.1)), (0, .ref a)]) e_X7_readLease_40 (by decide) rfl ?_
        refine m_aload_n F rfl e_X7_readLease_41 ?_
        refine m_iconst F (v := 0) (by decide) e_X7_readLease_42 ?_
        refine m_ldc F kc_X7_133 e_X7_readLease_43 ?_
        refine t_callV F e_X7_readLease_45 (s_X7_readNumberG (x_l X) V G b M Z T _ _ a 0 200000 1 (nI k5805.1) h5904.1 hk  (rd5905) (rd5906) (by decide) (by omega)) cb_X7_readNumber ml_X7_130 im_X7_readNumber se_X7_readNumber (fun _ => o3) h5904 hk rfl rfl (rest := []) rfl (Nat.le_of_ble_eq_true rfl) ⟨Nat.le_of_ble_eq_true rfl, Nat.le_of_ble_eq_true rfl⟩ ⟨Nat.le_of_ble_eq_true rfl, Nat.le_of_ble_eq_true rfl⟩ (fun r σ5908 hp => ?_)
        obtain ⟨h5909, rd5911, rd5912, rfl⟩ := hp
        have h5910 := HK.trans h5904 h5909 (by decide)
        refine m_istore F (lv' := [(4, .int 0), (3, .int 0), (2, .int 0), (1, .int (nI k5776.2.2.1)), (0, .ref a)]) e_X7_readLease_48 (by decide) rfl ?_
        refine m_aload_n F rfl e_X7_readLease_50 ?_
        refine t_getC F e_X7_readLease_51 fl_X7_55 (fun _ => o3) h5910 hk (rd5911) ?_
        refine m_if_ne F e_X7_readLease_54 (fun _ => ?_) (fun q => absurd q (by decide))
        exact m_vret F hQ e_X7_readLease_69 (⟨h5910, (by unfold leaseS; dsimp only; rw [if_neg (by omega), ek5776, newK_ok e5782 e5783, ek5805, numK_1 e5811]; exact RES.l (rd5911) (rd5912) (by decide) (by decide) (by omega)), rfl⟩)
      · have hz9 : True := trivial
        refine m_istore_n F (lv' := [(2, .int 0), (1, .int (nI k5776.2.2.1)), (0, .ref a)]) e_X7_readLease_32 (by decide) rfl ?_
        refine m_aload_n F rfl e_X7_readLease_33 ?_
        refine m_iconst F (v := 1) (by decide) e_X7_readLease_34 ?_
        refine m_bipush F (v := 48) (by decide) e_X7_readLease_35 ?_
        refine t_callV F e_X7_readLease_37 (s_X7_readNumberG (x_l X) V G b M Z T _ _ a 1 48 2 (nI k5805.1) h5808.1 hk  (rd5829) (rd5830) (by decide) (by omega)) cb_X7_readNumber ml_X7_130 im_X7_readNumber se_X7_readNumber (fun _ => o3) h5808 hk rfl rfl (rest := []) rfl (Nat.le_of_ble_eq_true rfl) ⟨Nat.le_of_ble_eq_true rfl, Nat.le_of_ble_eq_true rfl⟩ ⟨Nat.le_of_ble_eq_true rfl, Nat.le_of_ble_eq_true rfl⟩ (fun r σ5914 hp => ?_)
        obtain ⟨h5915, rd5917, rd5918, rfl⟩ := hp
        have h5916 := HK.trans h5808 h5915 (by decide)
        refine m_istore_n F (lv' := [(3, .int 0), (2, .int 0), (1, .int (nI k5776.2.2.1)), (0, .ref a)]) e_X7_readLease_40 (by decide) rfl ?_
        refine m_aload_n F rfl e_X7_readLease_41 ?_
        refine m_iconst F (v := 0) (by decide) e_X7_readLease_42 ?_
        refine m_ldc F kc_X7_133 e_X7_readLease_43 ?_
        refine t_callV F e_X7_readLease_45 (s_X7_readNumberG (x_l X) V G b M Z T _ _ a 0 200000 2 (nI k5805.1) h5916.1 hk  (rd5917) (rd5918) (by decide) (by omega)) cb_X7_readNumber ml_X7_130 im_X7_readNumber se_X7_readNumber (fun _ => o3) h5916 hk rfl rfl (rest := []) rfl (Nat.le_of_ble_eq_true rfl) ⟨Nat.le_of_ble_eq_true rfl, Nat.le_of_ble_eq_true rfl⟩ ⟨Nat.le_of_ble_eq_true rfl, Nat.le_of_ble_eq_true rfl⟩ (fun r σ5920 hp => ?_)
        obtain ⟨h5921, rd5923, rd5924, rfl⟩ := hp
        have h5922 := HK.trans h5916 h5921 (by decide)
        refine m_istore F (lv' := [(4, .int 0), (3, .int 0), (2, .int 0), (1, .int (nI k5776.2.2.1)), (0, .ref a)]) e_X7_readLease_48 (by decide) rfl ?_
        refine m_aload_n F rfl e_X7_readLease_50 ?_
        refine t_getC F e_X7_readLease_51 fl_X7_55 (fun _ => o3) h5922 hk (rd5923) ?_
        refine m_if_ne F e_X7_readLease_54 (fun _ => ?_) (fun q => absurd q (by decide))
        exact m_vret F hQ e_X7_readLease_69 (⟨h5922, (by unfold leaseS; dsimp only; rw [if_neg (by omega), ek5776, newK_ok e5782 e5783, ek5805, numK_2 e5811 e5812]; exact RES.l (rd5923) (rd5924) (by decide) (by decide) (by omega)), rfl⟩)
    · have hz9 : True := trivial
      refine m_istore_n F (lv' := [(1, .int x5790), (0, .ref a)]) e_X7_readLease_24 (by decide) rfl ?_
      refine m_aload_n F rfl e_X7_readLease_25 ?_
      refine m_iconst F (v := 0) (by decide) e_X7_readLease_26 ?_
      refine m_bipush F (v := 20) (by decide) e_X7_readLease_27 ?_
      refine t_callV F e_X7_readLease_29 (s_X7_readNumberG (x_l X) V G b M Z T _ _ a 0 20 1 (nI k5776.1) h5779.1 hk  (rd5788) (rd5789) (by decide) (by omega)) cb_X7_readNumber ml_X7_130 im_X7_readNumber se_X7_readNumber (fun _ => o3) h5779 hk rfl rfl (rest := []) rfl (Nat.le_of_ble_eq_true rfl) ⟨Nat.le_of_ble_eq_true rfl, Nat.le_of_ble_eq_true rfl⟩ ⟨Nat.le_of_ble_eq_true rfl, Nat.le_of_ble_eq_true rfl⟩ (fun r σ5926 hp => ?_)
      obtain ⟨h5927, rd5929, rd5930, rfl⟩ := hp
      have h5928 := HK.trans h5779 h5927 (by decide)
      refine m_istore_n F (lv' := [(2, .int 0), (1, .int x5790), (0, .ref a)]) e_X7_readLease_32 (by decide) rfl ?_
      refine m_aload_n F rfl e_X7_readLease_33 ?_
      refine m_iconst F (v := 1) (by decide) e_X7_readLease_34 ?_
      refine m_bipush F (v := 48) (by decide) e_X7_readLease_35 ?_
      refine t_callV F e_X7_readLease_37 (s_X7_readNumberG (x_l X) V G b M Z T _ _ a 1 48 1 (nI k5776.1) h5928.1 hk  (rd5929) (rd5930) (by decide) (by omega)) cb_X7_readNumber ml_X7_130 im_X7_readNumber se_X7_readNumber (fun _ => o3) h5928 hk rfl rfl (rest := []) rfl (Nat.le_of_ble_eq_true rfl) ⟨Nat.le_of_ble_eq_true rfl, Nat.le_of_ble_eq_true rfl⟩ ⟨Nat.le_of_ble_eq_true rfl, Nat.le_of_ble_eq_true rfl⟩ (fun r σ5932 hp => ?_)
      obtain ⟨h5933, rd5935, rd5936, rfl⟩ := hp
      have h5934 := HK.trans h5928 h5933 (by decide)
      refine m_istore_n F (lv' := [(3, .int 0), (2, .int 0), (1, .int x5790), (0, .ref a)]) e_X7_readLease_40 (by decide) rfl ?_
      refine m_aload_n F rfl e_X7_readLease_41 ?_
      refine m_iconst F (v := 0) (by decide) e_X7_readLease_42 ?_
      refine m_ldc F kc_X7_133 e_X7_readLease_43 ?_
      refine t_callV F e_X7_readLease_45 (s_X7_readNumberG (x_l X) V G b M Z T _ _ a 0 200000 1 (nI k5776.1) h5934.1 hk  (rd5935) (rd5936) (by decide) (by omega)) cb_X7_readNumber ml_X7_130 im_X7_readNumber se_X7_readNumber (fun _ => o3) h5934 hk rfl rfl (rest := []) rfl (Nat.le_of_ble_eq_true rfl) ⟨Nat.le_of_ble_eq_true rfl, Nat.le_of_ble_eq_true rfl⟩ ⟨Nat.le_of_ble_eq_true rfl, Nat.le_of_ble_eq_true rfl⟩ (fun r σ5938 hp => ?_)
      obtain ⟨h5939, rd5941, rd5942, rfl⟩ := hp
      have h5940 := HK.trans h5934 h5939 (by decide)
      refine m_istore F (lv' := [(4, .int 0), (3, .int 0), (2, .int 0), (1, .int x5790), (0, .ref a)]) e_X7_readLease_48 (by decide) rfl ?_
      refine m_aload_n F rfl e_X7_readLease_50 ?_
      refine t_getC F e_X7_readLease_51 fl_X7_55 (fun _ => o3) h5940 hk (rd5941) ?_
      refine m_if_ne F e_X7_readLease_54 (fun _ => ?_) (fun q => absurd q (by decide))
      exact m_vret F hQ e_X7_readLease_69 (⟨h5940, (by unfold leaseS; dsimp only; rw [if_neg (by omega), ek5776, newK_1 e5782]; exact RES.l (rd5941) (rd5942) (by decide) (by decide) (by omega)), rfl⟩)
    · have hz9 : True := trivial
      refine m_istore_n F (lv' := [(1, .int x5790), (0, .ref a)]) e_X7_readLease_24 (by decide) rfl ?_
      refine m_aload_n F rfl e_X7_readLease_25 ?_
      refine m_iconst F (v := 0) (by decide) e_X7_readLease_26 ?_
      refine m_bipush F (v := 20) (by decide) e_X7_readLease_27 ?_
      refine t_callV F e_X7_readLease_29 (s_X7_readNumberG (x_l X) V G b M Z T _ _ a 0 20 3 (nI k5776.1) h5779.1 hk  (rd5788) (rd5789) (by decide) (by omega)) cb_X7_readNumber ml_X7_130 im_X7_readNumber se_X7_readNumber (fun _ => o3) h5779 hk rfl rfl (rest := []) rfl (Nat.le_of_ble_eq_true rfl) ⟨Nat.le_of_ble_eq_true rfl, Nat.le_of_ble_eq_true rfl⟩ ⟨Nat.le_of_ble_eq_true rfl, Nat.le_of_ble_eq_true rfl⟩ (fun r σ5944 hp => ?_)
      obtain ⟨h5945, rd5947, rd5948, rfl⟩ := hp
      have h5946 := HK.trans h5779 h5945 (by decide)
      refine m_istore_n F (lv' := [(2, .int 0), (1, .int x5790), (0, .ref a)]) e_X7_readLease_32 (by decide) rfl ?_
      refine m_aload_n F rfl e_X7_readLease_33 ?_
      refine m_iconst F (v := 1) (by decide) e_X7_readLease_34 ?_
      refine m_bipush F (v := 48) (by decide) e_X7_readLease_35 ?_
      refine t_callV F e_X7_readLease_37 (s_X7_readNumberG (x_l X) V G b M Z T _ _ a 1 48 3 (nI k5776.1) h5946.1 hk  (rd5947) (rd5948) (by decide) (by omega)) cb_X7_readNumber ml_X7_130 im_X7_readNumber se_X7_readNumber (fun _ => o3) h5946 hk rfl rfl (rest := []) rfl (Nat.le_of_ble_eq_true rfl) ⟨Nat.le_of_ble_eq_true rfl, Nat.le_of_ble_eq_true rfl⟩ ⟨Nat.le_of_ble_eq_true rfl, Nat.le_of_ble_eq_true rfl⟩ (fun r σ5950 hp => ?_)
      obtain ⟨h5951, rd5953, rd5954, rfl⟩ := hp
      have h5952 := HK.trans h5946 h5951 (by decide)
      refine m_istore_n F (lv' := [(3, .int 0), (2, .int 0), (1, .int x5790), (0, .ref a)]) e_X7_readLease_40 (by decide) rfl ?_
      refine m_aload_n F rfl e_X7_readLease_41 ?_
      refine m_iconst F (v := 0) (by decide) e_X7_readLease_42 ?_
      refine m_ldc F kc_X7_133 e_X7_readLease_43 ?_
      refine t_callV F e_X7_readLease_45 (s_X7_readNumberG (x_l X) V G b M Z T _ _ a 0 200000 3 (nI k5776.1) h5952.1 hk  (rd5953) (rd5954) (by decide) (by omega)) cb_X7_readNumber ml_X7_130 im_X7_readNumber se_X7_readNumber (fun _ => o3) h5952 hk rfl rfl (rest := []) rfl (Nat.le_of_ble_eq_true rfl) ⟨Nat.le_of_ble_eq_true rfl, Nat.le_of_ble_eq_true rfl⟩ ⟨Nat.le_of_ble_eq_true rfl, Nat.le_of_ble_eq_true rfl⟩ (fun r σ5956 hp => ?_)
      obtain ⟨h5957, rd5959, rd5960, rfl⟩ := hp
      have h5958 := HK.trans h5952 h5957 (by decide)
      refine m_istore F (lv' := [(4, .int 0), (3, .int 0), (2, .int 0), (1, .int x5790), (0, .ref a)]) e_X7_readLease_48 (by decide) rfl ?_
      refine m_aload_n F rfl e_X7_readLease_50 ?_
      refine t_getC F e_X7_readLease_51 fl_X7_55 (fun _ => o3) h5958 hk (rd5959) ?_
      refine m_if_ne F e_X7_readLease_54 (fun _ => ?_) (fun q => absurd q (by decide))
      exact m_vret F hQ e_X7_readLease_69 (⟨h5958, (by unfold leaseS; dsimp only; rw [if_neg (by omega), ek5776, newK_3 e5782 e5783]; exact RES.l (rd5959) (rd5960) (by decide) (by decide) (by omega)), rfl⟩)
  · have c9 : nl ≥ 4 := by have hh := mt (nI_ltI (a := nl) (b := 4) (by omega) (by omega)).mpr q9; omega
    refine m_iconst F (v := 2) (by decide) e_X7_readLease_12 ?_
    refine m_goto F e_X7_readLease_13 ?_
    refine t_callV F e_X7_readLease_17 (s_X7_startLineR (x_l X) V G b M Z T _ _ a 2 tp td n bk nx st tk vl py sd ln 0 (-1) t  h1.1 hk (by omega) rfl (by decide) ⟨rd5734, rd5735, rd5736, rd5737, rd5738, rd5739, rd5740, rd5741, rd5742, rd5743, rd5744, rd5745, rd5746⟩ (hB.keep (h1.2 tp (by rw [show kA _ tp = 2 from htp]; decide))) hn7 hsd htp htd hbk hgb (by omega)) cb_X7_startLine ml_X7_124 im_X7_startLine se_X7_startLine (fun _ => o3) h1 hk rfl rfl (rest := []) rfl (Nat.le_of_ble_eq_true rfl) ⟨Nat.le_of_ble_eq_true rfl, Nat.le_of_ble_eq_true rfl⟩ ⟨Nat.le_of_ble_eq_true rfl, Nat.le_of_ble_eq_true rfl⟩ (fun r σ5962 hp => ?_)
    obtain ⟨h5963, hp⟩ := hp
    have h5964 := HK.trans h1 h5963 (by decide)
    have bx5965 := hp5.hk hbk h5963 (by decide) (by decide) (by decide)
    have tq5966 := hp6.keep (h5963.2 td (by rw [show kA _ td = 4 from htd]; decide))
    obtain ⟨⟨rd5967, rd5968⟩, rfl⟩ := hp
    refine m_aload_n F rfl e_X7_readLease_20 ?_
    refine t_callV F e_X7_readLease_21 (s_X7_readNewNameG (x_l X) V G b M Z T _ _ a  2 (nI st) h5964.1 hk  (rd5967) (rd5968) (by decide) (by omega)) cb_X7_readNewName ml_X7_127 im_X7_readNewName se_X7_readNewName (fun _ => o3) h5964 hk rfl rfl (rest := []) rfl (Nat.le_of_ble_eq_true rfl) ⟨Nat.le_of_ble_eq_true rfl, Nat.le_of_ble_eq_true rfl⟩ ⟨Nat.le_of_ble_eq_true rfl, Nat.le_of_ble_eq_true rfl⟩ (fun r σ5969 hp => ?_)
    obtain ⟨h5970, rd5972, rd5973, x5974, rfl⟩ := hp
    have h5971 := HK.trans h5964 h5970 (by decide)
    refine m_istore_n F (lv' := [(1, .int x5974), (0, .ref a)]) e_X7_readLease_24 (by decide) rfl ?_
    refine m_aload_n F rfl e_X7_readLease_25 ?_
    refine m_iconst F (v := 0) (by decide) e_X7_readLease_26 ?_
    refine m_bipush F (v := 20) (by decide) e_X7_readLease_27 ?_
    refine t_callV F e_X7_readLease_29 (s_X7_readNumberG (x_l X) V G b M Z T _ _ a 0 20 2 (nI st) h5971.1 hk  (rd5972) (rd5973) (by decide) (by omega)) cb_X7_readNumber ml_X7_130 im_X7_readNumber se_X7_readNumber (fun _ => o3) h5971 hk rfl rfl (rest := []) rfl (Nat.le_of_ble_eq_true rfl) ⟨Nat.le_of_ble_eq_true rfl, Nat.le_of_ble_eq_true rfl⟩ ⟨Nat.le_of_ble_eq_true rfl, Nat.le_of_ble_eq_true rfl⟩ (fun r σ5975 hp => ?_)
    obtain ⟨h5976, rd5978, rd5979, rfl⟩ := hp
    have h5977 := HK.trans h5971 h5976 (by decide)
    refine m_istore_n F (lv' := [(2, .int 0), (1, .int x5974), (0, .ref a)]) e_X7_readLease_32 (by decide) rfl ?_
    refine m_aload_n F rfl e_X7_readLease_33 ?_
    refine m_iconst F (v := 1) (by decide) e_X7_readLease_34 ?_
    refine m_bipush F (v := 48) (by decide) e_X7_readLease_35 ?_
    refine t_callV F e_X7_readLease_37 (s_X7_readNumberG (x_l X) V G b M Z T _ _ a 1 48 2 (nI st) h5977.1 hk  (rd5978) (rd5979) (by decide) (by omega)) cb_X7_readNumber ml_X7_130 im_X7_readNumber se_X7_readNumber (fun _ => o3) h5977 hk rfl rfl (rest := []) rfl (Nat.le_of_ble_eq_true rfl) ⟨Nat.le_of_ble_eq_true rfl, Nat.le_of_ble_eq_true rfl⟩ ⟨Nat.le_of_ble_eq_true rfl, Nat.le_of_ble_eq_true rfl⟩ (fun r σ5981 hp => ?_)
    obtain ⟨h5982, rd5984, rd5985, rfl⟩ := hp
    have h5983 := HK.trans h5977 h5982 (by decide)
    refine m_istore_n F (lv' := [(3, .int 0), (2, .int 0), (1, .int x5974), (0, .ref a)]) e_X7_readLease_40 (by decide) rfl ?_
    refine m_aload_n F rfl e_X7_readLease_41 ?_
    refine m_iconst F (v := 0) (by decide) e_X7_readLease_42 ?_
    refine m_ldc F kc_X7_133 e_X7_readLease_43 ?_
    refine t_callV F e_X7_readLease_45 (s_X7_readNumberG (x_l X) V G b M Z T _ _ a 0 200000 2 (nI st) h5983.1 hk  (rd5984) (rd5985) (by decide) (by omega)) cb_X7_readNumber ml_X7_130 im_X7_readNumber se_X7_readNumber (fun _ => o3) h5983 hk rfl rfl (rest := []) rfl (Nat.le_of_ble_eq_true rfl) ⟨Nat.le_of_ble_eq_true rfl, Nat.le_of_ble_eq_true rfl⟩ ⟨Nat.le_of_ble_eq_true rfl, Nat.le_of_ble_eq_true rfl⟩ (fun r σ5987 hp => ?_)
    obtain ⟨h5988, rd5990, rd5991, rfl⟩ := hp
    have h5989 := HK.trans h5983 h5988 (by decide)
    refine m_istore F (lv' := [(4, .int 0), (3, .int 0), (2, .int 0), (1, .int x5974), (0, .ref a)]) e_X7_readLease_48 (by decide) rfl ?_
    refine m_aload_n F rfl e_X7_readLease_50 ?_
    refine t_getC F e_X7_readLease_51 fl_X7_55 (fun _ => o3) h5989 hk (rd5990) ?_
    refine m_if_ne F e_X7_readLease_54 (fun _ => ?_) (fun q => absurd q (by decide))
    exact m_vret F hQ e_X7_readLease_69 (⟨h5989, (by unfold leaseS; dsimp only; rw [if_pos (by omega)]; exact RES.l (rd5990) (rd5991) (by decide) (by decide) (by omega)), rfl⟩)
set_option maxRecDepth 20000 in
theorem s_X7_readPayE (l : Launch) (V : VX) (G : GH) (b M Z T N : Nat) (σ : Mem) (a : Nat) (tp : Nat) (td : Nat) (n : Nat) (bk : Nat) (nx : Nat) (st : Nat) (tk : Int32) (vl : Int32) (py : Nat) (sd : Nat) (ln : Nat) (ft : Int32) (pl : Int32) (t : Nat → Nat) (s9 : Nat) (v9 : Nat) (nl : Nat) (nm : Nat → Nat) (nc : Nat) (lc : Nat) (no : Nat) (md : Nat → Nat → Bool) (h0 : HT V G (b, M, Z, T) σ) (hk : kA b a = 3) (hp0 : ft = 0) (hp1 : CT tk vl s9 v9) (hp2 : nx ≤ n) (hp3 : st ≤ n) (hp4 : pl = -1) (hp5 : BX σ bk nl nm nc lc no) (hp6 : TD V σ td nl md) (hp7 : py ≤ 12) (hR : RD σ a tp td n bk nx st tk vl py sd ln ft pl) (hB : BY V σ tp n t) (hn7 : n ≤ 700) (hsd : sd ≤ 1) (htp : kA b tp = 2) (htd : kA b td = 4) (hbk : kA b bk = 7) (hgb : ¬ G.gd (blk (bk - b)) = 1) (hM : M + 0 ≤ 1000000000) : Ct l V yX7_readPay cX7_readPay 5 none 4 0 0 N σ [.ref a] (fun r τ => HK V G (b, M, Z, T) [0, 1, 2, 4, 5, 7, 8, 9, 10, 11, 12, 13, 14, 15, 16, 18, 19] σ τ ∧ RES V τ a tp td n bk (payS (tok t n) (st, s9, v9, nx) nl nm py nc lc no sd md ln) ∧ r = none) := by
  refine Ct.of (by decide) (Nat.le_of_ble_eq_true rfl) [(0, .ref a)] rfl (fun X hX F hQ => ?_)
  have h1 : HK V G (b, M, Z, T) [0, 1, 2, 4, 5, 7, 8, 9, 10, 11, 12, 13, 14, 15, 16, 18, 19] σ σ := HK.start h0
  have hrd5993 := hR
  obtain ⟨rd5993, rd5994, rd5995, rd5996, rd5997, rd5998, rd5999, rd6000, rd6001, rd6002, rd6003, rd6004, rd6005⟩ := hrd5993
  subst hp0
  subst hp4
  have hbb6006 := hp5
  obtain ⟨bb6006, bb6007, bb6008, bb6009, bb6010, bb6011, bb6012, bb6013⟩ := hbb6006
  have hl4 := hp5.2.2.2.2.2.1
  refine m_aload_n F rfl e_X7_readPay_0 ?_
  refine m_aload_n F rfl e_X7_readPay_1 ?_
  refine t_getC F e_X7_readPay_2 fl_X7_45 (fun _ => o3) h1 hk (rd6001) ?_
  refine m_bipush F (v := 12) (by decide) e_X7_readPay_5 ?_
  refine m_icmp_lt F e_X7_readPay_7 (fun q7 => ?_) (fun q7 => ?_)
  · have c7 : py < 12 := (nI_ltI (a := py) (b := 12) (by omega) (by omega)).mp q7
    refine m_iconst F (v := 0) (by decide) e_X7_readPay_14 ?_
    refine t_callV F e_X7_readPay_15 (s_X7_startLineE (x_l X) V G b M Z T _ _ a 0 tp td n bk nx st tk vl py sd ln 0 (-1) t s9 v9 h1.1 hk rfl hp1 (by omega) (by omega) rfl ⟨rd5993, rd5994, rd5995, rd5996, rd5997, rd5998, rd5999, rd6000, rd6001, rd6002, rd6003, rd6004, rd6005⟩ (hB.keep (h1.2 tp (by rw [show kA _ tp = 2 from htp]; decide))) hn7 hsd htp htd hbk hgb (by omega)) cb_X7_startLine ml_X7_124 im_X7_startLine se_X7_startLine (fun _ => o3) h1 hk rfl rfl (rest := []) rfl (Nat.le_of_ble_eq_true rfl) ⟨Nat.le_of_ble_eq_true rfl, Nat.le_of_ble_eq_true rfl⟩ ⟨Nat.le_of_ble_eq_true rfl, Nat.le_of_ble_eq_true rfl⟩ (fun r σ6014 hp => ?_)
    obtain ⟨h6015, hp⟩ := hp
    have h6016 := HK.trans h1 h6015 (by decide)
    have bx6017 := hp5.hk hbk h6015 (by decide) (by decide) (by decide)
    have tq6018 := hp6.keep (h6015.2 td (by rw [show kA _ td = 4 from htd]; decide))
    obtain ⟨⟨tk6019, vl6020, ct6021, rd6022, rd6023, rd6024, rd6025, rd6026, rd6027, rd6028, rd6029, rd6030, rd6031, rd6032, rd6033, rd6034⟩, rfl⟩ := hp
    generalize ek6035 : tok t n nx = k6035 at ct6021 rd6026 rd6027
    have bk6035 := tok_ok (t := t) (n := n) nx (by omega)
    rw [ek6035] at bk6035
    refine m_aload_n F rfl e_X7_readPay_18 ?_
    refine t_callV F e_X7_readPay_19 (s_X7_readToldNameE (x_l X) V G b M Z T _ _ a  tp td n bk k6035.2.2.2 k6035.1 tk6019 vl6020 py sd ln 0 (-1) t k6035.2.1 k6035.2.2.1 nl nm nc lc no  h6016.1 hk rfl ct6021 (by omega) (by omega) bx6017 ⟨rd6022, rd6023, rd6024, rd6025, rd6026, rd6027, rd6028, rd6029, rd6030, rd6031, rd6032, rd6033, rd6034⟩ (hB.keep (h6016.2 tp (by rw [show kA _ tp = 2 from htp]; decide))) hn7 hsd htp htd hbk hgb (by omega)) cb_X7_readToldName ml_X7_138 im_X7_readToldName se_X7_readToldName (fun _ => o3) h6016 hk rfl rfl (rest := []) rfl (Nat.le_of_ble_eq_true rfl) ⟨Nat.le_of_ble_eq_true rfl, Nat.le_of_ble_eq_true rfl⟩ ⟨Nat.le_of_ble_eq_true rfl, Nat.le_of_ble_eq_true rfl⟩ (fun r σ6036 hp => ?_)
    obtain ⟨h6037, hp⟩ := hp
    have h6038 := HK.trans h6016 h6037 (by decide)
    have bx6039 := bx6017.hk hbk h6037 (by decide) (by decide) (by decide)
    have tq6040 := tq6018.keep (h6037.2 td (by rw [show kA _ td = 4 from htd]; decide))
    rcases hp with ⟨e6041, e6042, ⟨tk6044, vl6045, ct6046, rd6051, rd6052, rd6053, rd6054, rd6055, rd6056, rd6057, rd6058, rd6059, rd6060, rd6061, rd6062, rd6063⟩, rfl⟩ | ⟨e6041, ⟨rd6047, rd6048⟩, x6049, rfl⟩ | ⟨e6041, e6042, ⟨rd6047, rd6048⟩, x6049, rfl⟩
    · have hv9 := ct6021.w e6041
      generalize ek6064 : tok t n k6035.2.2.2 = k6064 at ct6046 rd6055 rd6056
      have bk6064 := tok_ok (t := t) (n := n) k6035.2.2.2 (by omega)
      rw [ek6064] at bk6064
      refine m_istore_n F (lv' := [(1, .int (nI (fx nm k6035.2.2.1 nl))), (0, .ref a)]) e_X7_readPay_22 (by decide) rfl ?_
      refine m_aload_n F rfl e_X7_readPay_23 ?_
      refine m_iconst F (v := 1) (by decide) e_X7_readPay_24 ?_
      refine m_bipush F (v := 48) (by decide) e_X7_readPay_25 ?_
      refine t_callV F e_X7_readPay_27 (s_X7_readNumberE (x_l X) V G b M Z T _ _ a 1 48 tp td n bk k6064.2.2.2 k6064.1 tk6044 vl6045 py sd ln 0 (-1) t k6064.2.1 k6064.2.2.1 h6038.1 hk (by omega) (by omega) rfl ct6046 (by omega) (by omega) ⟨rd6051, rd6052, rd6053, rd6054, rd6055, rd6056, rd6057, rd6058, rd6059, rd6060, rd6061, rd6062, rd6063⟩ (hB.keep (h6038.2 tp (by rw [show kA _ tp = 2 from htp]; decide))) hn7 hsd htp htd hbk hgb (by omega)) cb_X7_readNumber ml_X7_130 im_X7_readNumber se_X7_readNumber (fun _ => o3) h6038 hk rfl rfl (rest := []) rfl (Nat.le_of_ble_eq_true rfl) ⟨Nat.le_of_ble_eq_true rfl, Nat.le_of_ble_eq_true rfl⟩ ⟨Nat.le_of_ble_eq_true rfl, Nat.le_of_ble_eq_true rfl⟩ (fun r σ6065 hp => ?_)
      obtain ⟨h6066, hp⟩ := hp
      have h6067 := HK.trans h6038 h6066 (by decide)
      have bx6068 := bx6039.hk hbk h6066 (by decide) (by decide) (by decide)
      have tq6069 := tq6040.keep (h6066.2 td (by rw [show kA _ td = 4 from htd]; decide))
      rcases hp with ⟨e6070, l6072, l6073, ⟨tk6074, vl6075, ct6076, rd6077, rd6078, rd6079, rd6080, rd6081, rd6082, rd6083, rd6084, rd6085, rd6086, rd6087, rd6088, rd6089⟩, rfl⟩ | ⟨e6070, ⟨rd6077, rd6078, rd6079, rd6080, rd6081, rd6082, rd6083, rd6084, rd6085, rd6086, rd6087, rd6088, rd6089⟩, rfl⟩ | ⟨e6070, e6071, ⟨rd6077, rd6078, rd6079, rd6080, rd6081, rd6082, rd6083, rd6084, rd6085, rd6086, rd6087, rd6088, rd6089⟩, rfl⟩
      · generalize ek6090 : tok t n k6064.2.2.2 = k6090 at ct6076 rd6081 rd6082
        have bk6090 := tok_ok (t := t) (n := n) k6064.2.2.2 (by omega)
        rw [ek6090] at bk6090
        refine m_istore_n F (lv' := [(2, .int (nI k6064.2.2.1)), (1, .int (nI (fx nm k6035.2.2.1 nl))), (0, .ref a)]) e_X7_readPay_30 (by decide) rfl ?_
        refine m_aload_n F rfl e_X7_readPay_31 ?_
        refine m_iload_n F rfl e_X7_readPay_32 ?_
        refine m_bipush F (v := 48) (by decide) e_X7_readPay_33 ?_
        refine t_callV F e_X7_readPay_35 (s_X7_readNumberE (x_l X) V G b M Z T _ _ a k6064.2.2.1 48 tp td n bk k6090.2.2.2 k6090.1 tk6074 vl6075 py sd ln 0 (-1) t k6090.2.1 k6090.2.2.1 h6067.1 hk (by omega) (by omega) rfl ct6076 (by omega) (by omega) ⟨rd6077, rd6078, rd6079, rd6080, rd6081, rd6082, rd6083, rd6084, rd6085, rd6086, rd6087, rd6088, rd6089⟩ (hB.keep (h6067.2 tp (by rw [show kA _ tp = 2 from htp]; decide))) hn7 hsd htp htd hbk hgb (by omega)) cb_X7_readNumber ml_X7_130 im_X7_readNumber se_X7_readNumber (fun _ => o3) h6067 hk rfl rfl (rest := []) rfl (Nat.le_of_ble_eq_true rfl) ⟨Nat.le_of_ble_eq_true rfl, Nat.le_of_ble_eq_true rfl⟩ ⟨Nat.le_of_ble_eq_true rfl, Nat.le_of_ble_eq_true rfl⟩ (fun r σ6091 hp => ?_)
        obtain ⟨h6092, hp⟩ := hp
        have h6093 := HK.trans h6067 h6092 (by decide)
        have bx6094 := bx6068.hk hbk h6092 (by decide) (by decide) (by decide)
        have tq6095 := tq6069.keep (h6092.2 td (by rw [show kA _ td = 4 from htd]; decide))
        rcases hp with ⟨e6096, l6098, l6099, ⟨tk6100, vl6101, ct6102, rd6103, rd6104, rd6105, rd6106, rd6107, rd6108, rd6109, rd6110, rd6111, rd6112, rd6113, rd6114, rd6115⟩, rfl⟩ | ⟨e6096, ⟨rd6103, rd6104, rd6105, rd6106, rd6107, rd6108, rd6109, rd6110, rd6111, rd6112, rd6113, rd6114, rd6115⟩, rfl⟩ | ⟨e6096, e6097, ⟨rd6103, rd6104, rd6105, rd6106, rd6107, rd6108, rd6109, rd6110, rd6111, rd6112, rd6113, rd6114, rd6115⟩, rfl⟩
        · generalize ek6116 : tok t n k6090.2.2.2 = k6116 at ct6102 rd6107 rd6108
          have bk6116 := tok_ok (t := t) (n := n) k6090.2.2.2 (by omega)
          rw [ek6116] at bk6116
          refine m_istore_n F (lv' := [(3, .int (nI k6090.2.2.1)), (2, .int (nI k6064.2.2.1)), (1, .int (nI (fx nm k6035.2.2.1 nl))), (0, .ref a)]) e_X7_readPay_38 (by decide) rfl ?_
          refine m_aload_n F rfl e_X7_readPay_39 ?_
          refine m_iconst F (v := 0) (by decide) e_X7_readPay_40 ?_
          refine m_ldc F kc_X7_141 e_X7_readPay_41 ?_
          refine t_callV F e_X7_readPay_43 (s_X7_readNumberE (x_l X) V G b M Z T _ _ a 0 99999 tp td n bk k6116.2.2.2 k6116.1 tk6100 vl6101 py sd ln 0 (-1) t k6116.2.1 k6116.2.2.1 h6093.1 hk (by omega) (by omega) rfl ct6102 (by omega) (by omega) ⟨rd6103, rd6104, rd6105, rd6106, rd6107, rd6108, rd6109, rd6110, rd6111, rd6112, rd6113, rd6114, rd6115⟩ (hB.keep (h6093.2 tp (by rw [show kA _ tp = 2 from htp]; decide))) hn7 hsd htp htd hbk hgb (by omega)) cb_X7_readNumber ml_X7_130 im_X7_readNumber se_X7_readNumber (fun _ => o3) h6093 hk rfl rfl (rest := []) rfl (Nat.le_of_ble_eq_true rfl) ⟨Nat.le_of_ble_eq_true rfl, Nat.le_of_ble_eq_true rfl⟩ ⟨Nat.le_of_ble_eq_true rfl, Nat.le_of_ble_eq_true rfl⟩ (fun r σ6117 hp => ?_)
          obtain ⟨h6118, hp⟩ := hp
          have h6119 := HK.trans h6093 h6118 (by decide)
          have bx6120 := bx6094.hk hbk h6118 (by decide) (by decide) (by decide)
          have tq6121 := tq6095.keep (h6118.2 td (by rw [show kA _ td = 4 from htd]; decide))
          rcases hp with ⟨e6122, l6124, l6125, ⟨tk6126, vl6127, ct6128, rd6129, rd6130, rd6131, rd6132, rd6133, rd6134, rd6135, rd6136, rd6137, rd6138, rd6139, rd6140, rd6141⟩, rfl⟩ | ⟨e6122, ⟨rd6129, rd6130, rd6131, rd6132, rd6133, rd6134, rd6135, rd6136, rd6137, rd6138, rd6139, rd6140, rd6141⟩, rfl⟩ | ⟨e6122, e6123, ⟨rd6129, rd6130, rd6131, rd6132, rd6133, rd6134, rd6135, rd6136, rd6137, rd6138, rd6139, rd6140, rd6141⟩, rfl⟩
          · generalize ek6142 : tok t n k6116.2.2.2 = k6142 at ct6128 rd6133 rd6134
            have bk6142 := tok_ok (t := t) (n := n) k6116.2.2.2 (by omega)
            rw [ek6142] at bk6142
            refine m_istore F (lv' := [(4, .int (nI k6116.2.2.1)), (3, .int (nI k6090.2.2.1)), (2, .int (nI k6064.2.2.1)), (1, .int (nI (fx nm k6035.2.2.1 nl))), (0, .ref a)]) e_X7_readPay_46 (by decide) rfl ?_
            refine m_aload_n F rfl e_X7_readPay_48 ?_
            refine t_getC F e_X7_readPay_49 fl_X7_55 (fun _ => o3) h6119 hk (rd6140) ?_
            refine m_if_ne F e_X7_readPay_52 (fun q => absurd (by decide) q) (fun _ => ?_)
            refine m_aload_n F rfl e_X7_readPay_55 ?_
            refine m_dup F rfl e_X7_readPay_56 ?_
            refine t_getC F e_X7_readPay_57 fl_X7_45 (fun _ => o3) h6119 hk (rd6137) ?_
            refine m_iconst F (v := 1) (by decide) e_X7_readPay_60 ?_
            refine m_iadd F e_X7_readPay_61 ?_
            refine Wm.topE (w := nI (py + 1)) (nI_add py 1) ?_
            refine t_putC F e_X7_readPay_62 fp_X7_45 (fun _ => o3) h6119 hk rfl ⟨_, rfl⟩ rfl rfl (by decide) (fun σ6143 h6144 g6145 g6146 f6147 => ?_)
            have bx6148 := bx6120.keep hbk (fld_eq (g6145 bk (kdn hbk hk (by decide)))) (fld_eq (g6145 bk (kdn hbk hk (by decide)))) (fld_eq (g6145 bk (kdn hbk hk (by decide)))) (g6145 (bk + 4) (kdn (kA_7 hbk (r := 4) (by decide) : kA b (bk + 4) = 11) hk (by decide))) (fun x hx => fld_eq (g6145 x (kdn hx hk (by decide))))
            have tq6149 := tq6121.keep (g6145 td (kdn htd hk (by decide)))
            refine m_aload_n F rfl e_X7_readPay_65 ?_
            refine t_getC F e_X7_readPay_66 fl_X7_23 (fun _ => o3) h6144 hk ((g6146 2 (by decide)).trans rd6131) ?_
            refine t_get F e_X7_readPay_69 fl_X7_142 (fun _ => o7) h6144 hbk rfl (fun v hv f6150 => ?_)
            obtain rfl : v = .ref (bk + 1) := hv
            refine m_iload_n F rfl e_X7_readPay_72 ?_
            refine t_aald8 F (j := fx nm k6035.2.2.1 nl) e_X7_readPay_73 rfl h6144 (kA_7 hbk (r := 1) (by decide)) (nI_clamp (by omega)) (vp_in_nI (by omega) (by decide)) ?_
            refine m_iload_n F rfl e_X7_readPay_74 ?_
            refine m_iconst F (v := 1) (by decide) e_X7_readPay_75 ?_
            refine m_isub F e_X7_readPay_76 ?_
            refine Wm.topE (w := nI (k6064.2.2.1 - 1)) (pk_sub (a := k6064.2.2.1) (b := 1) (by omega)) ?_
            refine m_iload_n F rfl e_X7_readPay_77 ?_
            refine m_iconst F (v := 1) (by decide) e_X7_readPay_78 ?_
            refine m_isub F e_X7_readPay_79 ?_
            refine Wm.topE (w := nI (k6090.2.2.1 - 1)) (pk_sub (a := k6090.2.2.1) (b := 1) (by omega)) ?_
            refine m_iload F rfl e_X7_readPay_80 ?_
            refine t_callV F e_X7_readPay_82 (s_X5_payMore (x_l X) V G b M Z T _ _ ((bk + 1) + 10 + 12 * (fx nm k6035.2.2.1 nl)) (nI (k6064.2.2.1 - 1)) (nI (k6090.2.2.1 - 1)) (nI k6116.2.2.1) h6144.1 (kA_8 (kA_7 hbk (r := 1) (by decide)) (j := fx nm k6035.2.2.1 nl) (by omega)) (by first | omega | assumption | decide | (rw [nI_ti (by omega)]; omega)) (by omega)) cb_X5_payMore ml_X7_146 im_X5_payMore se_X5_payMore (fun _ => o15) h6144 (kA_8 (kA_7 hbk (r := 1) (by decide)) (j := fx nm k6035.2.2.1 nl) (by omega)) rfl rfl (rest := []) rfl (Nat.le_of_ble_eq_true rfl) ⟨Nat.le_of_ble_eq_true rfl, Nat.le_of_ble_eq_true rfl⟩ ⟨Nat.le_of_ble_eq_true rfl, Nat.le_of_ble_eq_true rfl⟩ (fun r σ6151 hp => ?_)
            obtain ⟨h6153, rfl⟩ := hp
            have h6152 := HK.trans h6144 h6153 (by decide)
            have bx6154 := bx6148.hk hbk h6153 (by decide) (by decide) (by decide)
            have tq6155 := tq6149.keep (h6153.2 td (by rw [show kA _ td = 4 from htd]; decide))
            exact m_vret F hQ e_X7_readPay_85 (⟨h6152, (by unfold payS; dsimp only; rw [if_neg (by omega), ek6035, tolK_ok e6041 e6042, ek6064, numK_ok e6070 l6072 l6073, ek6090, numK_ok e6096 l6098 l6099, ek6116, numK_ok e6122 l6124 l6125, ek6142]; exact RES.r ct6128 ⟨(fld_eq (h6153.2 a (by rw [show kA _ a = 3 from hk]; decide))).trans ((g6146 0 (by decide)).trans rd6129), (fld_eq (h6153.2 a (by rw [show kA _ a = 3 from hk]; decide))).trans ((g6146 1 (by decide)).trans rd6130), (fld_eq (h6153.2 a (by rw [show kA _ a = 3 from hk]; decide))).trans ((g6146 2 (by decide)).trans rd6131), (fld_eq (h6153.2 a (by rw [show kA _ a = 3 from hk]; decide))).trans ((g6146 3 (by decide)).trans rd6132), (fld_eq (h6153.2 a (by rw [show kA _ a = 3 from hk]; decide))).trans ((g6146 4 (by decide)).trans rd6133), (fld_eq (h6153.2 a (by rw [show kA _ a = 3 from hk]; decide))).trans ((g6146 5 (by decide)).trans rd6134), (fld_eq (h6153.2 a (by rw [show kA _ a = 3 from hk]; decide))).trans ((g6146 6 (by decide)).trans rd6135), (fld_eq (h6153.2 a (by rw [show kA _ a = 3 from hk]; decide))).trans ((g6146 7 (by decide)).trans rd6136), (fld_eq (h6153.2 a (by rw [show kA _ a = 3 from hk]; decide))).trans f6147, (fld_eq (h6153.2 a (by rw [show kA _ a = 3 from hk]; decide))).trans ((g6146 9 (by decide)).trans rd6138), (fld_eq (h6153.2 a (by rw [show kA _ a = 3 from hk]; decide))).trans ((g6146 10 (by decide)).trans rd6139), (fld_eq (h6153.2 a (by rw [show kA _ a = 3 from hk]; decide))).trans ((g6146 11 (by decide)).trans rd6140), (fld_eq (h6153.2 a (by rw [show kA _ a = 3 from hk]; decide))).trans ((g6146 12 (by decide)).trans rd6141)⟩ bx6154 tq6155 (by omega) (by omega) (by omega) (by omega)), rfl⟩)
          · have hz9 : True := trivial
            refine m_istore F (lv' := [(4, .int 0), (3, .int (nI k6090.2.2.1)), (2, .int (nI k6064.2.2.1)), (1, .int (nI (fx nm k6035.2.2.1 nl))), (0, .ref a)]) e_X7_readPay_46 (by decide) rfl ?_
            refine m_aload_n F rfl e_X7_readPay_48 ?_
            refine t_getC F e_X7_readPay_49 fl_X7_55 (fun _ => o3) h6119 hk (rd6140) ?_
            refine m_if_ne F e_X7_readPay_52 (fun _ => ?_) (fun q => absurd q (by decide))
            exact m_vret F hQ e_X7_readPay_85 (⟨h6119, (by unfold payS; dsimp only; rw [if_neg (by omega), ek6035, tolK_ok e6041 e6042, ek6064, numK_ok e6070 l6072 l6073, ek6090, numK_ok e6096 l6098 l6099, ek6116, numK_1 e6122]; exact RES.l (rd6140) (rd6141) (by decide) (by decide) (by omega)), rfl⟩)
          · have hz9 : True := trivial
            refine m_istore F (lv' := [(4, .int 0), (3, .int (nI k6090.2.2.1)), (2, .int (nI k6064.2.2.1)), (1, .int (nI (fx nm k6035.2.2.1 nl))), (0, .ref a)]) e_X7_readPay_46 (by decide) rfl ?_
            refine m_aload_n F rfl e_X7_readPay_48 ?_
            refine t_getC F e_X7_readPay_49 fl_X7_55 (fun _ => o3) h6119 hk (rd6140) ?_
            refine m_if_ne F e_X7_readPay_52 (fun _ => ?_) (fun q => absurd q (by decide))
            exact m_vret F hQ e_X7_readPay_85 (⟨h6119, (by unfold payS; dsimp only; rw [if_neg (by omega), ek6035, tolK_ok e6041 e6042, ek6064, numK_ok e6070 l6072 l6073, ek6090, numK_ok e6096 l6098 l6099, ek6116, numK_2 e6122 e6123]; exact RES.l (rd6140) (rd6141) (by decide) (by decide) (by omega)), rfl⟩)
        · have hz9 : True := trivial
          refine m_istore_n F (lv' := [(3, .int 0), (2, .int (nI k6064.2.2.1)), (1, .int (nI (fx nm k6035.2.2.1 nl))), (0, .ref a)]) e_X7_readPay_38 (by decide) rfl ?_
          refine m_aload_n F rfl e_X7_readPay_39 ?_
          refine m_iconst F (v := 0) (by decide) e_X7_readPay_40 ?_
          refine m_ldc F kc_X7_141 e_X7_readPay_41 ?_
          refine t_callV F e_X7_readPay_43 (s_X7_readNumberG (x_l X) V G b M Z T _ _ a 0 99999 1 (nI k6090.1) h6093.1 hk  (rd6114) (rd6115) (by decide) (by omega)) cb_X7_readNumber ml_X7_130 im_X7_readNumber se_X7_readNumber (fun _ => o3) h6093 hk rfl rfl (rest := []) rfl (Nat.le_of_ble_eq_true rfl) ⟨Nat.le_of_ble_eq_true rfl, Nat.le_of_ble_eq_true rfl⟩ ⟨Nat.le_of_ble_eq_true rfl, Nat.le_of_ble_eq_true rfl⟩ (fun r σ6156 hp => ?_)
          obtain ⟨h6157, rd6159, rd6160, rfl⟩ := hp
          have h6158 := HK.trans h6093 h6157 (by decide)
          refine m_istore F (lv' := [(4, .int 0), (3, .int 0), (2, .int (nI k6064.2.2.1)), (1, .int (nI (fx nm k6035.2.2.1 nl))), (0, .ref a)]) e_X7_readPay_46 (by decide) rfl ?_
          refine m_aload_n F rfl e_X7_readPay_48 ?_
          refine t_getC F e_X7_readPay_49 fl_X7_55 (fun _ => o3) h6158 hk (rd6159) ?_
          refine m_if_ne F e_X7_readPay_52 (fun _ => ?_) (fun q => absurd q (by decide))
          exact m_vret F hQ e_X7_readPay_85 (⟨h6158, (by unfold payS; dsimp only; rw [if_neg (by omega), ek6035, tolK_ok e6041 e6042, ek6064, numK_ok e6070 l6072 l6073, ek6090, numK_1 e6096]; exact RES.l (rd6159) (rd6160) (by decide) (by decide) (by omega)), rfl⟩)
        · have hz9 : True := trivial
          refine m_istore_n F (lv' := [(3, .int 0), (2, .int (nI k6064.2.2.1)), (1, .int (nI (fx nm k6035.2.2.1 nl))), (0, .ref a)]) e_X7_readPay_38 (by decide) rfl ?_
          refine m_aload_n F rfl e_X7_readPay_39 ?_
          refine m_iconst F (v := 0) (by decide) e_X7_readPay_40 ?_
          refine m_ldc F kc_X7_141 e_X7_readPay_41 ?_
          refine t_callV F e_X7_readPay_43 (s_X7_readNumberG (x_l X) V G b M Z T _ _ a 0 99999 2 (nI k6090.1) h6093.1 hk  (rd6114) (rd6115) (by decide) (by omega)) cb_X7_readNumber ml_X7_130 im_X7_readNumber se_X7_readNumber (fun _ => o3) h6093 hk rfl rfl (rest := []) rfl (Nat.le_of_ble_eq_true rfl) ⟨Nat.le_of_ble_eq_true rfl, Nat.le_of_ble_eq_true rfl⟩ ⟨Nat.le_of_ble_eq_true rfl, Nat.le_of_ble_eq_true rfl⟩ (fun r σ6162 hp => ?_)
          obtain ⟨h6163, rd6165, rd6166, rfl⟩ := hp
          have h6164 := HK.trans h6093 h6163 (by decide)
          refine m_istore F (lv' := [(4, .int 0), (3, .int 0), (2, .int (nI k6064.2.2.1)), (1, .int (nI (fx nm k6035.2.2.1 nl))), (0, .ref a)]) e_X7_readPay_46 (by decide) rfl ?_
          refine m_aload_n F rfl e_X7_readPay_48 ?_
          refine t_getC F e_X7_readPay_49 fl_X7_55 (fun _ => o3) h6164 hk (rd6165) ?_
          refine m_if_ne F e_X7_readPay_52 (fun _ => ?_) (fun q => absurd q (by decide))
          exact m_vret F hQ e_X7_readPay_85 (⟨h6164, (by unfold payS; dsimp only; rw [if_neg (by omega), ek6035, tolK_ok e6041 e6042, ek6064, numK_ok e6070 l6072 l6073, ek6090, numK_2 e6096 e6097]; exact RES.l (rd6165) (rd6166) (by decide) (by decide) (by omega)), rfl⟩)
      · have hz9 : True := trivial
        refine m_istore_n F (lv' := [(2, .int 0), (1, .int (nI (fx nm k6035.2.2.1 nl))), (0, .ref a)]) e_X7_readPay_30 (by decide) rfl ?_
        refine m_aload_n F rfl e_X7_readPay_31 ?_
        refine m_iload_n F rfl e_X7_readPay_32 ?_
        refine m_bipush F (v := 48) (by decide) e_X7_readPay_33 ?_
        refine t_callV F e_X7_readPay_35 (s_X7_readNumberG (x_l X) V G b M Z T _ _ a 0 48 1 (nI k6064.1) h6067.1 hk  (rd6088) (rd6089) (by decide) (by omega)) cb_X7_readNumber ml_X7_130 im_X7_readNumber se_X7_readNumber (fun _ => o3) h6067 hk rfl rfl (rest := []) rfl (Nat.le_of_ble_eq_true rfl) ⟨Nat.le_of_ble_eq_true rfl, Nat.le_of_ble_eq_true rfl⟩ ⟨Nat.le_of_ble_eq_true rfl, Nat.le_of_ble_eq_true rfl⟩ (fun r σ6168 hp => ?_)
        obtain ⟨h6169, rd6171, rd6172, rfl⟩ := hp
        have h6170 := HK.trans h6067 h6169 (by decide)
        refine m_istore_n F (lv' := [(3, .int 0), (2, .int 0), (1, .int (nI (fx nm k6035.2.2.1 nl))), (0, .ref a)]) e_X7_readPay_38 (by decide) rfl ?_
        refine m_aload_n F rfl e_X7_readPay_39 ?_
        refine m_iconst F (v := 0) (by decide) e_X7_readPay_40 ?_
        refine m_ldc F kc_X7_141 e_X7_readPay_41 ?_
        refine t_callV F e_X7_readPay_43 (s_X7_readNumberG (x_l X) V G b M Z T _ _ a 0 99999 1 (nI k6064.1) h6170.1 hk  (rd6171) (rd6172) (by decide) (by omega)) cb_X7_readNumber ml_X7_130 im_X7_readNumber se_X7_readNumber (fun _ => o3) h6170 hk rfl rfl (rest := []) rfl (Nat.le_of_ble_eq_true rfl) ⟨Nat.le_of_ble_eq_true rfl, Nat.le_of_ble_eq_true rfl⟩ ⟨Nat.le_of_ble_eq_true rfl, Nat.le_of_ble_eq_true rfl⟩ (fun r σ6174 hp => ?_)
        obtain ⟨h6175, rd6177, rd6178, rfl⟩ := hp
        have h6176 := HK.trans h6170 h6175 (by decide)
        refine m_istore F (lv' := [(4, .int 0), (3, .int 0), (2, .int 0), (1, .int (nI (fx nm k6035.2.2.1 nl))), (0, .ref a)]) e_X7_readPay_46 (by decide) rfl ?_
        refine m_aload_n F rfl e_X7_readPay_48 ?_
        refine t_getC F e_X7_readPay_49 fl_X7_55 (fun _ => o3) h6176 hk (rd6177) ?_
        refine m_if_ne F e_X7_readPay_52 (fun _ => ?_) (fun q => absurd q (by decide))
        exact m_vret F hQ e_X7_readPay_85 (⟨h6176, (by unfold payS; dsimp only; rw [if_neg (by omega), ek6035, tolK_ok e6041 e6042, ek6064, numK_1 e6070]; exact RES.l (rd6177) (rd6178) (by decide) (by decide) (by omega)), rfl⟩)
      · have hz9 : True := trivial
        refine m_istore_n F (lv' := [(2, .int 0), (1, .int (nI (fx nm k6035.2.2.1 nl))), (0, .ref a)]) e_X7_readPay_30 (by decide) rfl ?_
        refine m_aload_n F rfl e_X7_readPay_31 ?_
        refine m_iload_n F rfl e_X7_readPay_32 ?_
        refine m_bipush F (v := 48) (by decide) e_X7_readPay_33 ?_
        refine t_callV F e_X7_readPay_35 (s_X7_readNumberG (x_l X) V G b M Z T _ _ a 0 48 2 (nI k6064.1) h6067.1 hk  (rd6088) (rd6089) (by decide) (by omega)) cb_X7_readNumber ml_X7_130 im_X7_readNumber se_X7_readNumber (fun _ => o3) h6067 hk rfl rfl (rest := []) rfl (Nat.le_of_ble_eq_true rfl) ⟨Nat.le_of_ble_eq_true rfl, Nat.le_of_ble_eq_true rfl⟩ ⟨Nat.le_of_ble_eq_true rfl, Nat.le_of_ble_eq_true rfl⟩ (fun r σ6180 hp => ?_)
        obtain ⟨h6181, rd6183, rd6184, rfl⟩ := hp
        have h6182 := HK.trans h6067 h6181 (by decide)
        refine m_istore_n F (lv' := [(3, .int 0), (2, .int 0), (1, .int (nI (fx nm k6035.2.2.1 nl))), (0, .ref a)]) e_X7_readPay_38 (by decide) rfl ?_
        refine m_aload_n F rfl e_X7_readPay_39 ?_
        refine m_iconst F (v := 0) (by decide) e_X7_readPay_40 ?_
        refine m_ldc F kc_X7_141 e_X7_readPay_41 ?_
        refine t_callV F e_X7_readPay_43 (s_X7_readNumberG (x_l X) V G b M Z T _ _ a 0 99999 2 (nI k6064.1) h6182.1 hk  (rd6183) (rd6184) (by decide) (by omega)) cb_X7_readNumber ml_X7_130 im_X7_readNumber se_X7_readNumber (fun _ => o3) h6182 hk rfl rfl (rest := []) rfl (Nat.le_of_ble_eq_true rfl) ⟨Nat.le_of_ble_eq_true rfl, Nat.le_of_ble_eq_true rfl⟩ ⟨Nat.le_of_ble_eq_true rfl, Nat.le_of_ble_eq_true rfl⟩ (fun r σ6186 hp => ?_)
        obtain ⟨h6187, rd6189, rd6190, rfl⟩ := hp
        have h6188 := HK.trans h6182 h6187 (by decide)
        refine m_istore F (lv' := [(4, .int 0), (3, .int 0), (2, .int 0), (1, .int (nI (fx nm k6035.2.2.1 nl))), (0, .ref a)]) e_X7_readPay_46 (by decide) rfl ?_
        refine m_aload_n F rfl e_X7_readPay_48 ?_
        refine t_getC F e_X7_readPay_49 fl_X7_55 (fun _ => o3) h6188 hk (rd6189) ?_
        refine m_if_ne F e_X7_readPay_52 (fun _ => ?_) (fun q => absurd q (by decide))
        exact m_vret F hQ e_X7_readPay_85 (⟨h6188, (by unfold payS; dsimp only; rw [if_neg (by omega), ek6035, tolK_ok e6041 e6042, ek6064, numK_2 e6070 e6071]; exact RES.l (rd6189) (rd6190) (by decide) (by decide) (by omega)), rfl⟩)
    · have hz9 : True := trivial
      refine m_istore_n F (lv' := [(1, .int x6049), (0, .ref a)]) e_X7_readPay_22 (by decide) rfl ?_
      refine m_aload_n F rfl e_X7_readPay_23 ?_
      refine m_iconst F (v := 1) (by decide) e_X7_readPay_24 ?_
      refine m_bipush F (v := 48) (by decide) e_X7_readPay_25 ?_
      refine t_callV F e_X7_readPay_27 (s_X7_readNumberG (x_l X) V G b M Z T _ _ a 1 48 1 (nI k6035.1) h6038.1 hk  (rd6047) (rd6048) (by decide) (by omega)) cb_X7_readNumber ml_X7_130 im_X7_readNumber se_X7_readNumber (fun _ => o3) h6038 hk rfl rfl (rest := []) rfl (Nat.le_of_ble_eq_true rfl) ⟨Nat.le_of_ble_eq_true rfl, Nat.le_of_ble_eq_true rfl⟩ ⟨Nat.le_of_ble_eq_true rfl, Nat.le_of_ble_eq_true rfl⟩ (fun r σ6192 hp => ?_)
      obtain ⟨h6193, rd6195, rd6196, rfl⟩ := hp
      have h6194 := HK.trans h6038 h6193 (by decide)
      refine m_istore_n F (lv' := [(2, .int 0), (1, .int x6049), (0, .ref a)]) e_X7_readPay_30 (by decide) rfl ?_
      refine m_aload_n F rfl e_X7_readPay_31 ?_
      refine m_iload_n F rfl e_X7_readPay_32 ?_
      refine m_bipush F (v := 48) (by decide) e_X7_readPay_33 ?_
      refine t_callV F e_X7_readPay_35 (s_X7_readNumberG (x_l X) V G b M Z T _ _ a 0 48 1 (nI k6035.1) h6194.1 hk  (rd6195) (rd6196) (by decide) (by omega)) cb_X7_readNumber ml_X7_130 im_X7_readNumber se_X7_readNumber (fun _ => o3) h6194 hk rfl rfl (rest := []) rfl (Nat.le_of_ble_eq_true rfl) ⟨Nat.le_of_ble_eq_true rfl, Nat.le_of_ble_eq_true rfl⟩ ⟨Nat.le_of_ble_eq_true rfl, Nat.le_of_ble_eq_true rfl⟩ (fun r σ6198 hp => ?_)
      obtain ⟨h6199, rd6201, rd6202, rfl⟩ := hp
      have h6200 := HK.trans h6194 h6199 (by decide)
      refine m_istore_n F (lv' := [(3, .int 0), (2, .int 0), (1, .int x6049), (0, .ref a)]) e_X7_readPay_38 (by decide) rfl ?_
      refine m_aload_n F rfl e_X7_readPay_39 ?_
      refine m_iconst F (v := 0) (by decide) e_X7_readPay_40 ?_
      refine m_ldc F kc_X7_141 e_X7_readPay_41 ?_
      refine t_callV F e_X7_readPay_43 (s_X7_readNumberG (x_l X) V G b M Z T _ _ a 0 99999 1 (nI k6035.1) h6200.1 hk  (rd6201) (rd6202) (by decide) (by omega)) cb_X7_readNumber ml_X7_130 im_X7_readNumber se_X7_readNumber (fun _ => o3) h6200 hk rfl rfl (rest := []) rfl (Nat.le_of_ble_eq_true rfl) ⟨Nat.le_of_ble_eq_true rfl, Nat.le_of_ble_eq_true rfl⟩ ⟨Nat.le_of_ble_eq_true rfl, Nat.le_of_ble_eq_true rfl⟩ (fun r σ6204 hp => ?_)
      obtain ⟨h6205, rd6207, rd6208, rfl⟩ := hp
      have h6206 := HK.trans h6200 h6205 (by decide)
      refine m_istore F (lv' := [(4, .int 0), (3, .int 0), (2, .int 0), (1, .int x6049), (0, .ref a)]) e_X7_readPay_46 (by decide) rfl ?_
      refine m_aload_n F rfl e_X7_readPay_48 ?_
      refine t_getC F e_X7_readPay_49 fl_X7_55 (fun _ => o3) h6206 hk (rd6207) ?_
      refine m_if_ne F e_X7_readPay_52 (fun _ => ?_) (fun q => absurd q (by decide))
      exact m_vret F hQ e_X7_readPay_85 (⟨h6206, (by unfold payS; dsimp only; rw [if_neg (by omega), ek6035, tolK_1 e6041]; exact RES.l (rd6207) (rd6208) (by decide) (by decide) (by omega)), rfl⟩)
    · have hz9 : True := trivial
      refine m_istore_n F (lv' := [(1, .int x6049), (0, .ref a)]) e_X7_readPay_22 (by decide) rfl ?_
      refine m_aload_n F rfl e_X7_readPay_23 ?_
      refine m_iconst F (v := 1) (by decide) e_X7_readPay_24 ?_
      refine m_bipush F (v := 48) (by decide) e_X7_readPay_25 ?_
      refine t_callV F e_X7_readPay_27 (s_X7_readNumberG (x_l X) V G b M Z T _ _ a 1 48 4 (nI k6035.1) h6038.1 hk  (rd6047) (rd6048) (by decide) (by omega)) cb_X7_readNumber ml_X7_130 im_X7_readNumber se_X7_readNumber (fun _ => o3) h6038 hk rfl rfl (rest := []) rfl (Nat.le_of_ble_eq_true rfl) ⟨Nat.le_of_ble_eq_true rfl, Nat.le_of_ble_eq_true rfl⟩ ⟨Nat.le_of_ble_eq_true rfl, Nat.le_of_ble_eq_true rfl⟩ (fun r σ6210 hp => ?_)
      obtain ⟨h6211, rd6213, rd6214, rfl⟩ := hp
      have h6212 := HK.trans h6038 h6211 (by decide)
      refine m_istore_n F (lv' := [(2, .int 0), (1, .int x6049), (0, .ref a)]) e_X7_readPay_30 (by decide) rfl ?_
      refine m_aload_n F rfl e_X7_readPay_31 ?_
      refine m_iload_n F rfl e_X7_readPay_32 ?_
      refine m_bipush F (v := 48) (by decide) e_X7_readPay_33 ?_
      refine t_callV F e_X7_readPay_35 (s_X7_readNumberG (x_l X) V G b M Z T _ _ a 0 48 4 (nI k6035.1) h6212.1 hk  (rd6213) (rd6214) (by decide) (by omega)) cb_X7_readNumber ml_X7_130 im_X7_readNumber se_X7_readNumber (fun _ => o3) h6212 hk rfl rfl (rest := []) rfl (Nat.le_of_ble_eq_true rfl) ⟨Nat.le_of_ble_eq_true rfl, Nat.le_of_ble_eq_true rfl⟩ ⟨Nat.le_of_ble_eq_true rfl, Nat.le_of_ble_eq_true rfl⟩ (fun r σ6216 hp => ?_)
      obtain ⟨h6217, rd6219, rd6220, rfl⟩ := hp
      have h6218 := HK.trans h6212 h6217 (by decide)
      refine m_istore_n F (lv' := [(3, .int 0), (2, .int 0), (1, .int x6049), (0, .ref a)]) e_X7_readPay_38 (by decide) rfl ?_
      refine m_aload_n F rfl e_X7_readPay_39 ?_
      refine m_iconst F (v := 0) (by decide) e_X7_readPay_40 ?_
      refine m_ldc F kc_X7_141 e_X7_readPay_41 ?_
      refine t_callV F e_X7_readPay_43 (s_X7_readNumberG (x_l X) V G b M Z T _ _ a 0 99999 4 (nI k6035.1) h6218.1 hk  (rd6219) (rd6220) (by decide) (by omega)) cb_X7_readNumber ml_X7_130 im_X7_readNumber se_X7_readNumber (fun _ => o3) h6218 hk rfl rfl (rest := []) rfl (Nat.le_of_ble_eq_true rfl) ⟨Nat.le_of_ble_eq_true rfl, Nat.le_of_ble_eq_true rfl⟩ ⟨Nat.le_of_ble_eq_true rfl, Nat.le_of_ble_eq_true rfl⟩ (fun r σ6222 hp => ?_)
      obtain ⟨h6223, rd6225, rd6226, rfl⟩ := hp
      have h6224 := HK.trans h6218 h6223 (by decide)
      refine m_istore F (lv' := [(4, .int 0), (3, .int 0), (2, .int 0), (1, .int x6049), (0, .ref a)]) e_X7_readPay_46 (by decide) rfl ?_
      refine m_aload_n F rfl e_X7_readPay_48 ?_
      refine t_getC F e_X7_readPay_49 fl_X7_55 (fun _ => o3) h6224 hk (rd6225) ?_
      refine m_if_ne F e_X7_readPay_52 (fun _ => ?_) (fun q => absurd q (by decide))
      exact m_vret F hQ e_X7_readPay_85 (⟨h6224, (by unfold payS; dsimp only; rw [if_neg (by omega), ek6035, tolK_4 e6041 e6042]; exact RES.l (rd6225) (rd6226) (by decide) (by decide) (by omega)), rfl⟩)
  · have c7 : py ≥ 12 := by have hh := mt (nI_ltI (a := py) (b := 12) (by omega) (by omega)).mpr q7; omega
    refine m_iconst F (v := 2) (by decide) e_X7_readPay_10 ?_
    refine m_goto F e_X7_readPay_11 ?_
    refine t_callV F e_X7_readPay_15 (s_X7_startLineR (x_l X) V G b M Z T _ _ a 2 tp td n bk nx st tk vl py sd ln 0 (-1) t  h1.1 hk (by omega) rfl (by decide) ⟨rd5993, rd5994, rd5995, rd5996, rd5997, rd5998, rd5999, rd6000, rd6001, rd6002, rd6003, rd6004, rd6005⟩ (hB.keep (h1.2 tp (by rw [show kA _ tp = 2 from htp]; decide))) hn7 hsd htp htd hbk hgb (by omega)) cb_X7_startLine ml_X7_124 im_X7_startLine se_X7_startLine (fun _ => o3) h1 hk rfl rfl (rest := []) rfl (Nat.le_of_ble_eq_true rfl) ⟨Nat.le_of_ble_eq_true rfl, Nat.le_of_ble_eq_true rfl⟩ ⟨Nat.le_of_ble_eq_true rfl, Nat.le_of_ble_eq_true rfl⟩ (fun r σ6228 hp => ?_)
    obtain ⟨h6229, hp⟩ := hp
    have h6230 := HK.trans h1 h6229 (by decide)
    have bx6231 := hp5.hk hbk h6229 (by decide) (by decide) (by decide)
    have tq6232 := hp6.keep (h6229.2 td (by rw [show kA _ td = 4 from htd]; decide))
    obtain ⟨⟨rd6233, rd6234⟩, rfl⟩ := hp
    refine m_aload_n F rfl e_X7_readPay_18 ?_
    refine t_callV F e_X7_readPay_19 (s_X7_readToldNameG (x_l X) V G b M Z T _ _ a  2 (nI st) h6230.1 hk  (rd6233) (rd6234) (by decide) (by omega)) cb_X7_readToldName ml_X7_138 im_X7_readToldName se_X7_readToldName (fun _ => o3) h6230 hk rfl rfl (rest := []) rfl (Nat.le_of_ble_eq_true rfl) ⟨Nat.le_of_ble_eq_true rfl, Nat.le_of_ble_eq_true rfl⟩ ⟨Nat.le_of_ble_eq_true rfl, Nat.le_of_ble_eq_true rfl⟩ (fun r σ6235 hp => ?_)
    obtain ⟨h6236, rd6238, rd6239, x6240, rfl⟩ := hp
    have h6237 := HK.trans h6230 h6236 (by decide)
    refine m_istore_n F (lv' := [(1, .int x6240), (0, .ref a)]) e_X7_readPay_22 (by decide) rfl ?_
    refine m_aload_n F rfl e_X7_readPay_23 ?_
    refine m_iconst F (v := 1) (by decide) e_X7_readPay_24 ?_
    refine m_bipush F (v := 48) (by decide) e_X7_readPay_25 ?_
    refine t_callV F e_X7_readPay_27 (s_X7_readNumberG (x_l X) V G b M Z T _ _ a 1 48 2 (nI st) h6237.1 hk  (rd6238) (rd6239) (by decide) (by omega)) cb_X7_readNumber ml_X7_130 im_X7_readNumber se_X7_readNumber (fun _ => o3) h6237 hk rfl rfl (rest := []) rfl (Nat.le_of_ble_eq_true rfl) ⟨Nat.le_of_ble_eq_true rfl, Nat.le_of_ble_eq_true rfl⟩ ⟨Nat.le_of_ble_eq_true rfl, Nat.le_of_ble_eq_true rfl⟩ (fun r σ6241 hp => ?_)
    obtain ⟨h6242, rd6244, rd6245, rfl⟩ := hp
    have h6243 := HK.trans h6237 h6242 (by decide)
    refine m_istore_n F (lv' := [(2, .int 0), (1, .int x6240), (0, .ref a)]) e_X7_readPay_30 (by decide) rfl ?_
    refine m_aload_n F rfl e_X7_readPay_31 ?_
    refine m_iload_n F rfl e_X7_readPay_32 ?_
    refine m_bipush F (v := 48) (by decide) e_X7_readPay_33 ?_
    refine t_callV F e_X7_readPay_35 (s_X7_readNumberG (x_l X) V G b M Z T _ _ a 0 48 2 (nI st) h6243.1 hk  (rd6244) (rd6245) (by decide) (by omega)) cb_X7_readNumber ml_X7_130 im_X7_readNumber se_X7_readNumber (fun _ => o3) h6243 hk rfl rfl (rest := []) rfl (Nat.le_of_ble_eq_true rfl) ⟨Nat.le_of_ble_eq_true rfl, Nat.le_of_ble_eq_true rfl⟩ ⟨Nat.le_of_ble_eq_true rfl, Nat.le_of_ble_eq_true rfl⟩ (fun r σ6247 hp => ?_)
    obtain ⟨h6248, rd6250, rd6251, rfl⟩ := hp
    have h6249 := HK.trans h6243 h6248 (by decide)
    refine m_istore_n F (lv' := [(3, .int 0), (2, .int 0), (1, .int x6240), (0, .ref a)]) e_X7_readPay_38 (by decide) rfl ?_
    refine m_aload_n F rfl e_X7_readPay_39 ?_
    refine m_iconst F (v := 0) (by decide) e_X7_readPay_40 ?_
    refine m_ldc F kc_X7_141 e_X7_readPay_41 ?_
    refine t_callV F e_X7_readPay_43 (s_X7_readNumberG (x_l X) V G b M Z T _ _ a 0 99999 2 (nI st) h6249.1 hk  (rd6250) (rd6251) (by decide) (by omega)) cb_X7_readNumber ml_X7_130 im_X7_readNumber se_X7_readNumber (fun _ => o3) h6249 hk rfl rfl (rest := []) rfl (Nat.le_of_ble_eq_true rfl) ⟨Nat.le_of_ble_eq_true rfl, Nat.le_of_ble_eq_true rfl⟩ ⟨Nat.le_of_ble_eq_true rfl, Nat.le_of_ble_eq_true rfl⟩ (fun r σ6253 hp => ?_)
    obtain ⟨h6254, rd6256, rd6257, rfl⟩ := hp
    have h6255 := HK.trans h6249 h6254 (by decide)
    refine m_istore F (lv' := [(4, .int 0), (3, .int 0), (2, .int 0), (1, .int x6240), (0, .ref a)]) e_X7_readPay_46 (by decide) rfl ?_
    refine m_aload_n F rfl e_X7_readPay_48 ?_
    refine t_getC F e_X7_readPay_49 fl_X7_55 (fun _ => o3) h6255 hk (rd6256) ?_
    refine m_if_ne F e_X7_readPay_52 (fun _ => ?_) (fun q => absurd q (by decide))
    exact m_vret F hQ e_X7_readPay_85 (⟨h6255, (by unfold payS; dsimp only; rw [if_pos (by omega)]; exact RES.l (rd6256) (rd6257) (by decide) (by decide) (by omega)), rfl⟩)
set_option maxRecDepth 20000 in
theorem s_X7_readEarlyE (l : Launch) (V : VX) (G : GH) (b M Z T N : Nat) (σ : Mem) (a : Nat) (tp : Nat) (td : Nat) (n : Nat) (bk : Nat) (nx : Nat) (st : Nat) (tk : Int32) (vl : Int32) (py : Nat) (sd : Nat) (ln : Nat) (ft : Int32) (pl : Int32) (t : Nat → Nat) (s9 : Nat) (v9 : Nat) (nl : Nat) (nm : Nat → Nat) (nc : Nat) (lc : Nat) (no : Nat) (md : Nat → Nat → Bool) (h0 : HT V G (b, M, Z, T) σ) (hk : kA b a = 3) (hp0 : ft = 0) (hp1 : CT tk vl s9 v9) (hp2 : nx ≤ n) (hp3 : st ≤ n) (hp4 : pl = -1) (hp5 : BX σ bk nl nm nc lc no) (hp6 : TD V σ td nl md) (hp7 : py ≤ 12) (hR : RD σ a tp td n bk nx st tk vl py sd ln ft pl) (hB : BY V σ tp n t) (hn7 : n ≤ 700) (hsd : sd ≤ 1) (htp : kA b tp = 2) (htd : kA b td = 4) (hbk : kA b bk = 7) (hgb : ¬ G.gd (blk (bk - b)) = 1) (hM : M + 0 ≤ 1000000000) : Ct l V yX7_readEarly cX7_readEarly 2 none 4 0 0 N σ [.ref a] (fun r τ => HK V G (b, M, Z, T) [0, 1, 2, 5, 6, 7, 8, 9, 10, 11, 12, 13, 14, 16, 17, 18, 19] σ τ ∧ RES V τ a tp td n bk (earlyS (tok t n) (st, s9, v9, nx) nl nm py nc lc no sd md ln) ∧ r = none) := by
  refine Ct.of (by decide) (Nat.le_of_ble_eq_true rfl) [(0, .ref a)] rfl (fun X hX F hQ => ?_)
  have h1 : HK V G (b, M, Z, T) [0, 1, 2, 5, 6, 7, 8, 9, 10, 11, 12, 13, 14, 16, 17, 18, 19] σ σ := HK.start h0
  have hrd6259 := hR
  obtain ⟨rd6259, rd6260, rd6261, rd6262, rd6263, rd6264, rd6265, rd6266, rd6267, rd6268, rd6269, rd6270, rd6271⟩ := hrd6259
  subst hp0
  subst hp4
  have hbb6272 := hp5
  obtain ⟨bb6272, bb6273, bb6274, bb6275, bb6276, bb6277, bb6278, bb6279⟩ := hbb6272
  have hl4 := hp5.2.2.2.2.2.1
  refine m_aload_n F rfl e_X7_readEarly_0 ?_
  refine m_iconst F (v := 0) (by decide) e_X7_readEarly_1 ?_
  refine t_callV F e_X7_readEarly_2 (s_X7_startLineE (x_l X) V G b M Z T _ _ a 0 tp td n bk nx st tk vl py sd ln 0 (-1) t s9 v9 h1.1 hk rfl hp1 (by omega) (by omega) rfl ⟨rd6259, rd6260, rd6261, rd6262, rd6263, rd6264, rd6265, rd6266, rd6267, rd6268, rd6269, rd6270, rd6271⟩ (hB.keep (h1.2 tp (by rw [show kA _ tp = 2 from htp]; decide))) hn7 hsd htp htd hbk hgb (by omega)) cb_X7_startLine ml_X7_124 im_X7_startLine se_X7_startLine (fun _ => o3) h1 hk rfl rfl (rest := []) rfl (Nat.le_of_ble_eq_true rfl) ⟨Nat.le_of_ble_eq_true rfl, Nat.le_of_ble_eq_true rfl⟩ ⟨Nat.le_of_ble_eq_true rfl, Nat.le_of_ble_eq_true rfl⟩ (fun r σ6280 hp => ?_)
  obtain ⟨h6281, hp⟩ := hp
  have h6282 := HK.trans h1 h6281 (by decide)
  have bx6283 := hp5.hk hbk h6281 (by decide) (by decide) (by decide)
  have tq6284 := hp6.keep (h6281.2 td (by rw [show kA _ td = 4 from htd]; decide))
  obtain ⟨⟨tk6285, vl6286, ct6287, rd6288, rd6289, rd6290, rd6291, rd6292, rd6293, rd6294, rd6295, rd6296, rd6297, rd6298, rd6299, rd6300⟩, rfl⟩ := hp
  generalize ek6301 : tok t n nx = k6301 at ct6287 rd6292 rd6293
  have bk6301 := tok_ok (t := t) (n := n) nx (by omega)
  rw [ek6301] at bk6301
  refine m_aload_n F rfl e_X7_readEarly_5 ?_
  refine m_iconst F (v := 1) (by decide) e_X7_readEarly_6 ?_
  refine t_callV F e_X7_readEarly_7 (s_X7_readNameOnceE (x_l X) V G b M Z T _ _ a 1 tp td n bk k6301.2.2.2 k6301.1 tk6285 vl6286 py sd ln 0 (-1) t k6301.2.1 k6301.2.2.1 nl nm nc lc no md 0 h6282.1 hk (by omega) rfl ct6287 (by omega) (by omega) bx6283 tq6284 (by decide) (by decide) ⟨rd6288, rd6289, rd6290, rd6291, rd6292, rd6293, rd6294, rd6295, rd6296, rd6297, rd6298, rd6299, rd6300⟩ (hB.keep (h6282.2 tp (by rw [show kA _ tp = 2 from htp]; decide))) hn7 hsd htp htd hbk hgb (by omega)) cb_X7_readNameOnce ml_X7_152 im_X7_readNameOnce se_X7_readNameOnce (fun _ => o3) h6282 hk rfl rfl (rest := []) rfl (Nat.le_of_ble_eq_true rfl) ⟨Nat.le_of_ble_eq_true rfl, Nat.le_of_ble_eq_true rfl⟩ ⟨Nat.le_of_ble_eq_true rfl, Nat.le_of_ble_eq_true rfl⟩ (fun r σ6302 hp => ?_)
  obtain ⟨h6303, hp⟩ := hp
  have h6304 := HK.trans h6282 h6303 (by decide)
  have bx6305 := bx6283.hk hbk h6303 (by decide) (by decide) (by decide)
  rcases hp with ⟨e6306, e6307, e6308, ⟨tk6309, vl6310, ct6311, rd6316, rd6317, rd6318, rd6319, rd6320, rd6321, rd6322, rd6323, rd6324, rd6325, rd6326, rd6327, rd6328⟩, tq6315, rfl⟩ | ⟨e6306, ⟨rd6312, rd6313⟩, x6314, rfl⟩ | ⟨e6306, e6307, ⟨rd6312, rd6313⟩, x6314, rfl⟩ | ⟨e6306, e6307, e6308, ⟨rd6312, rd6313⟩, x6314, rfl⟩
  · have hv9 := ct6287.w e6306
    generalize ek6329 : tok t n k6301.2.2.2 = k6329 at ct6311 rd6320 rd6321
    have bk6329 := tok_ok (t := t) (n := n) k6301.2.2.2 (by omega)
    rw [ek6329] at bk6329
    refine m_istore_n F (lv' := [(1, .int (nI (fx nm k6301.2.2.1 nl))), (0, .ref a)]) e_X7_readEarly_10 (by decide) rfl ?_
    refine m_aload_n F rfl e_X7_readEarly_11 ?_
    refine t_getC F e_X7_readEarly_12 fl_X7_55 (fun _ => o3) h6304 hk (rd6327) ?_
    refine m_if_ne F e_X7_readEarly_15 (fun q => absurd (by decide) q) (fun _ => ?_)
    refine m_aload_n F rfl e_X7_readEarly_18 ?_
    refine t_getC F e_X7_readEarly_19 fl_X7_23 (fun _ => o3) h6304 hk (rd6318) ?_
    refine t_get F e_X7_readEarly_22 fl_X7_142 (fun _ => o7) h6304 hbk rfl (fun v hv f6330 => ?_)
    obtain rfl : v = .ref (bk + 1) := hv
    refine m_iload_n F rfl e_X7_readEarly_25 ?_
    refine t_aald8 F (j := fx nm k6301.2.2.1 nl) e_X7_readEarly_26 rfl h6304 (kA_7 hbk (r := 1) (by decide)) (nI_clamp (by omega)) (vp_in_nI (by omega) (by decide)) ?_
    refine m_iconst F (v := 1) (by decide) e_X7_readEarly_27 ?_
    refine t_putC F e_X7_readEarly_28 fp_X7_156 (fun _ => o15) h6304 (kA_8 (kA_7 hbk (r := 1) (by decide)) (j := fx nm k6301.2.2.1 nl) (by omega)) rfl ⟨1, (show 1 ≤ 1 by omega), rfl⟩ (by decide) rfl (by decide) (fun σ6331 h6332 g6333 g6334 f6335 => ?_)
    have bx6336 := bx6305.keep hbk (fld_eq (g6333 bk (kdn hbk (kA_8 (kA_7 hbk (r := 1) (by decide)) (j := fx nm k6301.2.2.1 nl) (by omega)) (by decide)))) (fld_eq (g6333 bk (kdn hbk (kA_8 (kA_7 hbk (r := 1) (by decide)) (j := fx nm k6301.2.2.1 nl) (by omega)) (by decide)))) (fld_eq (g6333 bk (kdn hbk (kA_8 (kA_7 hbk (r := 1) (by decide)) (j := fx nm k6301.2.2.1 nl) (by omega)) (by decide)))) (g6333 (bk + 4) (kdn (kA_7 hbk (r := 4) (by decide) : kA b (bk + 4) = 11) (kA_8 (kA_7 hbk (r := 1) (by decide)) (j := fx nm k6301.2.2.1 nl) (by omega)) (by decide))) (fun x _ => put15 g6333 (g6334 0 (by decide)) x)
    have tq6337 := tq6315.keep (g6333 td (kdn htd (kA_8 (kA_7 hbk (r := 1) (by decide)) (j := fx nm k6301.2.2.1 nl) (by omega)) (by decide)))
    exact m_vret F hQ e_X7_readEarly_31 (⟨h6332, (by unfold earlyS; dsimp only; rw [ek6301, oncK_ok e6306 e6307 e6308, ek6329]; exact RES.r ct6311 ⟨(fld_eq (g6333 a (kdn hk (kA_8 (kA_7 hbk (r := 1) (by decide)) (j := fx nm k6301.2.2.1 nl) (by omega)) (by decide)))).trans rd6316, (fld_eq (g6333 a (kdn hk (kA_8 (kA_7 hbk (r := 1) (by decide)) (j := fx nm k6301.2.2.1 nl) (by omega)) (by decide)))).trans rd6317, (fld_eq (g6333 a (kdn hk (kA_8 (kA_7 hbk (r := 1) (by decide)) (j := fx nm k6301.2.2.1 nl) (by omega)) (by decide)))).trans rd6318, (fld_eq (g6333 a (kdn hk (kA_8 (kA_7 hbk (r := 1) (by decide)) (j := fx nm k6301.2.2.1 nl) (by omega)) (by decide)))).trans rd6319, (fld_eq (g6333 a (kdn hk (kA_8 (kA_7 hbk (r := 1) (by decide)) (j := fx nm k6301.2.2.1 nl) (by omega)) (by decide)))).trans rd6320, (fld_eq (g6333 a (kdn hk (kA_8 (kA_7 hbk (r := 1) (by decide)) (j := fx nm k6301.2.2.1 nl) (by omega)) (by decide)))).trans rd6321, (fld_eq (g6333 a (kdn hk (kA_8 (kA_7 hbk (r := 1) (by decide)) (j := fx nm k6301.2.2.1 nl) (by omega)) (by decide)))).trans rd6322, (fld_eq (g6333 a (kdn hk (kA_8 (kA_7 hbk (r := 1) (by decide)) (j := fx nm k6301.2.2.1 nl) (by omega)) (by decide)))).trans rd6323, (fld_eq (g6333 a (kdn hk (kA_8 (kA_7 hbk (r := 1) (by decide)) (j := fx nm k6301.2.2.1 nl) (by omega)) (by decide)))).trans rd6324, (fld_eq (g6333 a (kdn hk (kA_8 (kA_7 hbk (r := 1) (by decide)) (j := fx nm k6301.2.2.1 nl) (by omega)) (by decide)))).trans rd6325, (fld_eq (g6333 a (kdn hk (kA_8 (kA_7 hbk (r := 1) (by decide)) (j := fx nm k6301.2.2.1 nl) (by omega)) (by decide)))).trans rd6326, (fld_eq (g6333 a (kdn hk (kA_8 (kA_7 hbk (r := 1) (by decide)) (j := fx nm k6301.2.2.1 nl) (by omega)) (by decide)))).trans rd6327, (fld_eq (g6333 a (kdn hk (kA_8 (kA_7 hbk (r := 1) (by decide)) (j := fx nm k6301.2.2.1 nl) (by omega)) (by decide)))).trans rd6328⟩ bx6336 tq6337 (by omega) (by omega) (by omega) (by omega)), rfl⟩)
  · have hz9 : True := trivial
    refine m_istore_n F (lv' := [(1, .int x6314), (0, .ref a)]) e_X7_readEarly_10 (by decide) rfl ?_
    refine m_aload_n F rfl e_X7_readEarly_11 ?_
    refine t_getC F e_X7_readEarly_12 fl_X7_55 (fun _ => o3) h6304 hk (rd6312) ?_
    refine m_if_ne F e_X7_readEarly_15 (fun _ => ?_) (fun q => absurd q (by decide))
    exact m_vret F hQ e_X7_readEarly_31 (⟨h6304, (by unfold earlyS; dsimp only; rw [ek6301, oncK_1 e6306]; exact RES.l (rd6312) (rd6313) (by decide) (by decide) (by omega)), rfl⟩)
  · have hz9 : True := trivial
    refine m_istore_n F (lv' := [(1, .int x6314), (0, .ref a)]) e_X7_readEarly_10 (by decide) rfl ?_
    refine m_aload_n F rfl e_X7_readEarly_11 ?_
    refine t_getC F e_X7_readEarly_12 fl_X7_55 (fun _ => o3) h6304 hk (rd6312) ?_
    refine m_if_ne F e_X7_readEarly_15 (fun _ => ?_) (fun q => absurd q (by decide))
    exact m_vret F hQ e_X7_readEarly_31 (⟨h6304, (by unfold earlyS; dsimp only; rw [ek6301, oncK_4 e6306 e6307]; exact RES.l (rd6312) (rd6313) (by decide) (by decide) (by omega)), rfl⟩)
  · have hz9 : True := trivial
    refine m_istore_n F (lv' := [(1, .int x6314), (0, .ref a)]) e_X7_readEarly_10 (by decide) rfl ?_
    refine m_aload_n F rfl e_X7_readEarly_11 ?_
    refine t_getC F e_X7_readEarly_12 fl_X7_55 (fun _ => o3) h6304 hk (rd6312) ?_
    refine m_if_ne F e_X7_readEarly_15 (fun _ => ?_) (fun q => absurd q (by decide))
    exact m_vret F hQ e_X7_readEarly_31 (⟨h6304, (by unfold earlyS; dsimp only; rw [ek6301, oncK_3 e6306 e6307 e6308]; exact RES.l (rd6312) (rd6313) (by decide) (by decide) (by omega)), rfl⟩)
set_option maxRecDepth 20000 in
theorem s_X7_readTiedE (l : Launch) (V : VX) (G : GH) (b M Z T N : Nat) (σ : Mem) (a : Nat) (tp : Nat) (td : Nat) (n : Nat) (bk : Nat) (nx : Nat) (st : Nat) (tk : Int32) (vl : Int32) (py : Nat) (sd : Nat) (ln : Nat) (ft : Int32) (pl : Int32) (t : Nat → Nat) (s9 : Nat) (v9 : Nat) (nl : Nat) (nm : Nat → Nat) (nc : Nat) (lc : Nat) (no : Nat) (md : Nat → Nat → Bool) (h0 : HT V G (b, M, Z, T) σ) (hk : kA b a = 3) (hp0 : ft = 0) (hp1 : CT tk vl s9 v9) (hp2 : nx ≤ n) (hp3 : st ≤ n) (hp4 : pl = -1) (hp5 : BX σ bk nl nm nc lc no) (hp6 : TD V σ td nl md) (hp7 : py ≤ 12) (hR : RD σ a tp td n bk nx st tk vl py sd ln ft pl) (hB : BY V σ tp n t) (hn7 : n ≤ 700) (hsd : sd ≤ 1) (htp : kA b tp = 2) (htd : kA b td = 4) (hbk : kA b bk = 7) (hgb : ¬ G.gd (blk (bk - b)) = 1) (hM : M + 0 ≤ 1000000000) : Ct l V yX7_readTied cX7_readTied 2 none 4 0 0 N σ [.ref a] (fun r τ => HK V G (b, M, Z, T) [0, 1, 2, 5, 6, 7, 8, 9, 10, 11, 12, 13, 14, 16, 17, 18, 19] σ τ ∧ RES V τ a tp td n bk (tiedS (tok t n) (st, s9, v9, nx) nl nm py nc lc no sd md ln) ∧ r = none) := by
  refine Ct.of (by decide) (Nat.le_of_ble_eq_true rfl) [(0, .ref a)] rfl (fun X hX F hQ => ?_)
  have h1 : HK V G (b, M, Z, T) [0, 1, 2, 5, 6, 7, 8, 9, 10, 11, 12, 13, 14, 16, 17, 18, 19] σ σ := HK.start h0
  have hrd6338 := hR
  obtain ⟨rd6338, rd6339, rd6340, rd6341, rd6342, rd6343, rd6344, rd6345, rd6346, rd6347, rd6348, rd6349, rd6350⟩ := hrd6338
  subst hp0
  subst hp4
  have hbb6351 := hp5
  obtain ⟨bb6351, bb6352, bb6353, bb6354, bb6355, bb6356, bb6357, bb6358⟩ := hbb6351
  have hl4 := hp5.2.2.2.2.2.1
  refine m_aload_n F rfl e_X7_readTied_0 ?_
  refine m_iconst F (v := 0) (by decide) e_X7_readTied_1 ?_
  refine t_callV F e_X7_readTied_2 (s_X7_startLineE (x_l X) V G b M Z T _ _ a 0 tp td n bk nx st tk vl py sd ln 0 (-1) t s9 v9 h1.1 hk rfl hp1 (by omega) (by omega) rfl ⟨rd6338, rd6339, rd6340, rd6341, rd6342, rd6343, rd6344, rd6345, rd6346, rd6347, rd6348, rd6349, rd6350⟩ (hB.keep (h1.2 tp (by rw [show kA _ tp = 2 from htp]; decide))) hn7 hsd htp htd hbk hgb (by omega)) cb_X7_startLine ml_X7_124 im_X7_startLine se_X7_startLine (fun _ => o3) h1 hk rfl rfl (rest := []) rfl (Nat.le_of_ble_eq_true rfl) ⟨Nat.le_of_ble_eq_true rfl, Nat.le_of_ble_eq_true rfl⟩ ⟨Nat.le_of_ble_eq_true rfl, Nat.le_of_ble_eq_true rfl⟩ (fun r σ6359 hp => ?_)
  obtain ⟨h6360, hp⟩ := hp
  have h6361 := HK.trans h1 h6360 (by decide)
  have bx6362 := hp5.hk hbk h6360 (by decide) (by decide) (by decide)
  have tq6363 := hp6.keep (h6360.2 td (by rw [show kA _ td = 4 from htd]; decide))
  obtain ⟨⟨tk6364, vl6365, ct6366, rd6367, rd6368, rd6369, rd6370, rd6371, rd6372, rd6373, rd6374, rd6375, rd6376, rd6377, rd6378, rd6379⟩, rfl⟩ := hp
  generalize ek6380 : tok t n nx = k6380 at ct6366 rd6371 rd6372
  have bk6380 := tok_ok (t := t) (n := n) nx (by omega)
  rw [ek6380] at bk6380
  refine m_aload_n F rfl e_X7_readTied_5 ?_
  refine m_bipush F (v := 8) (by decide) e_X7_readTied_6 ?_
  refine t_callV F e_X7_readTied_8 (s_X7_readNameOnceE (x_l X) V G b M Z T _ _ a 8 tp td n bk k6380.2.2.2 k6380.1 tk6364 vl6365 py sd ln 0 (-1) t k6380.2.1 k6380.2.2.1 nl nm nc lc no md 3 h6361.1 hk (by omega) rfl ct6366 (by omega) (by omega) bx6362 tq6363 (by decide) (by decide) ⟨rd6367, rd6368, rd6369, rd6370, rd6371, rd6372, rd6373, rd6374, rd6375, rd6376, rd6377, rd6378, rd6379⟩ (hB.keep (h6361.2 tp (by rw [show kA _ tp = 2 from htp]; decide))) hn7 hsd htp htd hbk hgb (by omega)) cb_X7_readNameOnce ml_X7_152 im_X7_readNameOnce se_X7_readNameOnce (fun _ => o3) h6361 hk rfl rfl (rest := []) rfl (Nat.le_of_ble_eq_true rfl) ⟨Nat.le_of_ble_eq_true rfl, Nat.le_of_ble_eq_true rfl⟩ ⟨Nat.le_of_ble_eq_true rfl, Nat.le_of_ble_eq_true rfl⟩ (fun r σ6381 hp => ?_)
  obtain ⟨h6382, hp⟩ := hp
  have h6383 := HK.trans h6361 h6382 (by decide)
  have bx6384 := bx6362.hk hbk h6382 (by decide) (by decide) (by decide)
  rcases hp with ⟨e6385, e6386, e6387, ⟨tk6388, vl6389, ct6390, rd6395, rd6396, rd6397, rd6398, rd6399, rd6400, rd6401, rd6402, rd6403, rd6404, rd6405, rd6406, rd6407⟩, tq6394, rfl⟩ | ⟨e6385, ⟨rd6391, rd6392⟩, x6393, rfl⟩ | ⟨e6385, e6386, ⟨rd6391, rd6392⟩, x6393, rfl⟩ | ⟨e6385, e6386, e6387, ⟨rd6391, rd6392⟩, x6393, rfl⟩
  · have hv9 := ct6366.w e6385
    generalize ek6408 : tok t n k6380.2.2.2 = k6408 at ct6390 rd6399 rd6400
    have bk6408 := tok_ok (t := t) (n := n) k6380.2.2.2 (by omega)
    rw [ek6408] at bk6408
    refine m_istore_n F (lv' := [(1, .int (nI (fx nm k6380.2.2.1 nl))), (0, .ref a)]) e_X7_readTied_11 (by decide) rfl ?_
    refine m_aload_n F rfl e_X7_readTied_12 ?_
    refine t_getC F e_X7_readTied_13 fl_X7_55 (fun _ => o3) h6383 hk (rd6406) ?_
    refine m_if_ne F e_X7_readTied_16 (fun q => absurd (by decide) q) (fun _ => ?_)
    refine m_aload_n F rfl e_X7_readTied_19 ?_
    refine t_getC F e_X7_readTied_20 fl_X7_23 (fun _ => o3) h6383 hk (rd6397) ?_
    refine t_get F e_X7_readTied_23 fl_X7_142 (fun _ => o7) h6383 hbk rfl (fun v hv f6409 => ?_)
    obtain rfl : v = .ref (bk + 1) := hv
    refine m_iload_n F rfl e_X7_readTied_26 ?_
    refine t_aald8 F (j := fx nm k6380.2.2.1 nl) e_X7_readTied_27 rfl h6383 (kA_7 hbk (r := 1) (by decide)) (nI_clamp (by omega)) (vp_in_nI (by omega) (by decide)) ?_
    refine m_iconst F (v := 1) (by decide) e_X7_readTied_28 ?_
    refine t_putC F e_X7_readTied_29 fp_X7_166 (fun _ => o15) h6383 (kA_8 (kA_7 hbk (r := 1) (by decide)) (j := fx nm k6380.2.2.1 nl) (by omega)) rfl ⟨1, (show 1 ≤ 1 by omega), rfl⟩ (by decide) rfl (by decide) (fun σ6410 h6411 g6412 g6413 f6414 => ?_)
    have bx6415 := bx6384.keep hbk (fld_eq (g6412 bk (kdn hbk (kA_8 (kA_7 hbk (r := 1) (by decide)) (j := fx nm k6380.2.2.1 nl) (by omega)) (by decide)))) (fld_eq (g6412 bk (kdn hbk (kA_8 (kA_7 hbk (r := 1) (by decide)) (j := fx nm k6380.2.2.1 nl) (by omega)) (by decide)))) (fld_eq (g6412 bk (kdn hbk (kA_8 (kA_7 hbk (r := 1) (by decide)) (j := fx nm k6380.2.2.1 nl) (by omega)) (by decide)))) (g6412 (bk + 4) (kdn (kA_7 hbk (r := 4) (by decide) : kA b (bk + 4) = 11) (kA_8 (kA_7 hbk (r := 1) (by decide)) (j := fx nm k6380.2.2.1 nl) (by omega)) (by decide))) (fun x _ => put15 g6412 (g6413 0 (by decide)) x)
    have tq6416 := tq6394.keep (g6412 td (kdn htd (kA_8 (kA_7 hbk (r := 1) (by decide)) (j := fx nm k6380.2.2.1 nl) (by omega)) (by decide)))
    exact m_vret F hQ e_X7_readTied_32 (⟨h6411, (by unfold tiedS; dsimp only; rw [ek6380, oncK_ok e6385 e6386 e6387, ek6408]; exact RES.r ct6390 ⟨(fld_eq (g6412 a (kdn hk (kA_8 (kA_7 hbk (r := 1) (by decide)) (j := fx nm k6380.2.2.1 nl) (by omega)) (by decide)))).trans rd6395, (fld_eq (g6412 a (kdn hk (kA_8 (kA_7 hbk (r := 1) (by decide)) (j := fx nm k6380.2.2.1 nl) (by omega)) (by decide)))).trans rd6396, (fld_eq (g6412 a (kdn hk (kA_8 (kA_7 hbk (r := 1) (by decide)) (j := fx nm k6380.2.2.1 nl) (by omega)) (by decide)))).trans rd6397, (fld_eq (g6412 a (kdn hk (kA_8 (kA_7 hbk (r := 1) (by decide)) (j := fx nm k6380.2.2.1 nl) (by omega)) (by decide)))).trans rd6398, (fld_eq (g6412 a (kdn hk (kA_8 (kA_7 hbk (r := 1) (by decide)) (j := fx nm k6380.2.2.1 nl) (by omega)) (by decide)))).trans rd6399, (fld_eq (g6412 a (kdn hk (kA_8 (kA_7 hbk (r := 1) (by decide)) (j := fx nm k6380.2.2.1 nl) (by omega)) (by decide)))).trans rd6400, (fld_eq (g6412 a (kdn hk (kA_8 (kA_7 hbk (r := 1) (by decide)) (j := fx nm k6380.2.2.1 nl) (by omega)) (by decide)))).trans rd6401, (fld_eq (g6412 a (kdn hk (kA_8 (kA_7 hbk (r := 1) (by decide)) (j := fx nm k6380.2.2.1 nl) (by omega)) (by decide)))).trans rd6402, (fld_eq (g6412 a (kdn hk (kA_8 (kA_7 hbk (r := 1) (by decide)) (j := fx nm k6380.2.2.1 nl) (by omega)) (by decide)))).trans rd6403, (fld_eq (g6412 a (kdn hk (kA_8 (kA_7 hbk (r := 1) (by decide)) (j := fx nm k6380.2.2.1 nl) (by omega)) (by decide)))).trans rd6404, (fld_eq (g6412 a (kdn hk (kA_8 (kA_7 hbk (r := 1) (by decide)) (j := fx nm k6380.2.2.1 nl) (by omega)) (by decide)))).trans rd6405, (fld_eq (g6412 a (kdn hk (kA_8 (kA_7 hbk (r := 1) (by decide)) (j := fx nm k6380.2.2.1 nl) (by omega)) (by decide)))).trans rd6406, (fld_eq (g6412 a (kdn hk (kA_8 (kA_7 hbk (r := 1) (by decide)) (j := fx nm k6380.2.2.1 nl) (by omega)) (by decide)))).trans rd6407⟩ bx6415 tq6416 (by omega) (by omega) (by omega) (by omega)), rfl⟩)
  · have hz9 : True := trivial
    refine m_istore_n F (lv' := [(1, .int x6393), (0, .ref a)]) e_X7_readTied_11 (by decide) rfl ?_
    refine m_aload_n F rfl e_X7_readTied_12 ?_
    refine t_getC F e_X7_readTied_13 fl_X7_55 (fun _ => o3) h6383 hk (rd6391) ?_
    refine m_if_ne F e_X7_readTied_16 (fun _ => ?_) (fun q => absurd q (by decide))
    exact m_vret F hQ e_X7_readTied_32 (⟨h6383, (by unfold tiedS; dsimp only; rw [ek6380, oncK_1 e6385]; exact RES.l (rd6391) (rd6392) (by decide) (by decide) (by omega)), rfl⟩)
  · have hz9 : True := trivial
    refine m_istore_n F (lv' := [(1, .int x6393), (0, .ref a)]) e_X7_readTied_11 (by decide) rfl ?_
    refine m_aload_n F rfl e_X7_readTied_12 ?_
    refine t_getC F e_X7_readTied_13 fl_X7_55 (fun _ => o3) h6383 hk (rd6391) ?_
    refine m_if_ne F e_X7_readTied_16 (fun _ => ?_) (fun q => absurd q (by decide))
    exact m_vret F hQ e_X7_readTied_32 (⟨h6383, (by unfold tiedS; dsimp only; rw [ek6380, oncK_4 e6385 e6386]; exact RES.l (rd6391) (rd6392) (by decide) (by decide) (by omega)), rfl⟩)
  · have hz9 : True := trivial
    refine m_istore_n F (lv' := [(1, .int x6393), (0, .ref a)]) e_X7_readTied_11 (by decide) rfl ?_
    refine m_aload_n F rfl e_X7_readTied_12 ?_
    refine t_getC F e_X7_readTied_13 fl_X7_55 (fun _ => o3) h6383 hk (rd6391) ?_
    refine m_if_ne F e_X7_readTied_16 (fun _ => ?_) (fun q => absurd q (by decide))
    exact m_vret F hQ e_X7_readTied_32 (⟨h6383, (by unfold tiedS; dsimp only; rw [ek6380, oncK_3 e6385 e6386 e6387]; exact RES.l (rd6391) (rd6392) (by decide) (by decide) (by omega)), rfl⟩)
set_option maxRecDepth 20000 in
theorem s_X7_readFairE (l : Launch) (V : VX) (G : GH) (b M Z T N : Nat) (σ : Mem) (a : Nat) (tp : Nat) (td : Nat) (n : Nat) (bk : Nat) (nx : Nat) (st : Nat) (tk : Int32) (vl : Int32) (py : Nat) (sd : Nat) (ln : Nat) (ft : Int32) (pl : Int32) (t : Nat → Nat) (s9 : Nat) (v9 : Nat) (nl : Nat) (nm : Nat → Nat) (nc : Nat) (lc : Nat) (no : Nat) (md : Nat → Nat → Bool) (h0 : HT V G (b, M, Z, T) σ) (hk : kA b a = 3) (hp0 : ft = 0) (hp1 : CT tk vl s9 v9) (hp2 : nx ≤ n) (hp3 : st ≤ n) (hp4 : pl = -1) (hp5 : BX σ bk nl nm nc lc no) (hp6 : TD V σ td nl md) (hp7 : py ≤ 12) (hR : RD σ a tp td n bk nx st tk vl py sd ln ft pl) (hB : BY V σ tp n t) (hn7 : n ≤ 700) (hsd : sd ≤ 1) (htp : kA b tp = 2) (htd : kA b td = 4) (hbk : kA b bk = 7) (hgb : ¬ G.gd (blk (bk - b)) = 1) (hM : M + 0 ≤ 1000000000) : Ct l V yX7_readFair cX7_readFair 3 none 4 0 0 N σ [.ref a] (fun r τ => HK V G (b, M, Z, T) [0, 1, 2, 5, 6, 7, 8, 9, 10, 11, 12, 13, 14, 16, 17, 18, 19] σ τ ∧ RES V τ a tp td n bk (fairS (tok t n) (st, s9, v9, nx) nl nm py nc lc no sd md ln) ∧ r = none) := by
  refine Ct.of (by decide) (Nat.le_of_ble_eq_true rfl) [(0, .ref a)] rfl (fun X hX F hQ => ?_)
  have h1 : HK V G (b, M, Z, T) [0, 1, 2, 5, 6, 7, 8, 9, 10, 11, 12, 13, 14, 16, 17, 18, 19] σ σ := HK.start h0
  have hrd6417 := hR
  obtain ⟨rd6417, rd6418, rd6419, rd6420, rd6421, rd6422, rd6423, rd6424, rd6425, rd6426, rd6427, rd6428, rd6429⟩ := hrd6417
  subst hp0
  subst hp4
  have hbb6430 := hp5
  obtain ⟨bb6430, bb6431, bb6432, bb6433, bb6434, bb6435, bb6436, bb6437⟩ := hbb6430
  have hl4 := hp5.2.2.2.2.2.1
  refine m_aload_n F rfl e_X7_readFair_0 ?_
  refine m_iconst F (v := 0) (by decide) e_X7_readFair_1 ?_
  refine t_callV F e_X7_readFair_2 (s_X7_startLineE (x_l X) V G b M Z T _ _ a 0 tp td n bk nx st tk vl py sd ln 0 (-1) t s9 v9 h1.1 hk rfl hp1 (by omega) (by omega) rfl ⟨rd6417, rd6418, rd6419, rd6420, rd6421, rd6422, rd6423, rd6424, rd6425, rd6426, rd6427, rd6428, rd6429⟩ (hB.keep (h1.2 tp (by rw [show kA _ tp = 2 from htp]; decide))) hn7 hsd htp htd hbk hgb (by omega)) cb_X7_startLine ml_X7_124 im_X7_startLine se_X7_startLine (fun _ => o3) h1 hk rfl rfl (rest := []) rfl (Nat.le_of_ble_eq_true rfl) ⟨Nat.le_of_ble_eq_true rfl, Nat.le_of_ble_eq_true rfl⟩ ⟨Nat.le_of_ble_eq_true rfl, Nat.le_of_ble_eq_true rfl⟩ (fun r σ6438 hp => ?_)
  obtain ⟨h6439, hp⟩ := hp
  have h6440 := HK.trans h1 h6439 (by decide)
  have bx6441 := hp5.hk hbk h6439 (by decide) (by decide) (by decide)
  have tq6442 := hp6.keep (h6439.2 td (by rw [show kA _ td = 4 from htd]; decide))
  obtain ⟨⟨tk6443, vl6444, ct6445, rd6446, rd6447, rd6448, rd6449, rd6450, rd6451, rd6452, rd6453, rd6454, rd6455, rd6456, rd6457, rd6458⟩, rfl⟩ := hp
  generalize ek6459 : tok t n nx = k6459 at ct6445 rd6450 rd6451
  have bk6459 := tok_ok (t := t) (n := n) nx (by omega)
  rw [ek6459] at bk6459
  refine m_aload_n F rfl e_X7_readFair_5 ?_
  refine m_iconst F (v := 2) (by decide) e_X7_readFair_6 ?_
  refine t_callV F e_X7_readFair_7 (s_X7_readNameOnceE (x_l X) V G b M Z T _ _ a 2 tp td n bk k6459.2.2.2 k6459.1 tk6443 vl6444 py sd ln 0 (-1) t k6459.2.1 k6459.2.2.1 nl nm nc lc no md 1 h6440.1 hk (by omega) rfl ct6445 (by omega) (by omega) bx6441 tq6442 (by decide) (by decide) ⟨rd6446, rd6447, rd6448, rd6449, rd6450, rd6451, rd6452, rd6453, rd6454, rd6455, rd6456, rd6457, rd6458⟩ (hB.keep (h6440.2 tp (by rw [show kA _ tp = 2 from htp]; decide))) hn7 hsd htp htd hbk hgb (by omega)) cb_X7_readNameOnce ml_X7_152 im_X7_readNameOnce se_X7_readNameOnce (fun _ => o3) h6440 hk rfl rfl (rest := []) rfl (Nat.le_of_ble_eq_true rfl) ⟨Nat.le_of_ble_eq_true rfl, Nat.le_of_ble_eq_true rfl⟩ ⟨Nat.le_of_ble_eq_true rfl, Nat.le_of_ble_eq_true rfl⟩ (fun r σ6460 hp => ?_)
  obtain ⟨h6461, hp⟩ := hp
  have h6462 := HK.trans h6440 h6461 (by decide)
  have bx6463 := bx6441.hk hbk h6461 (by decide) (by decide) (by decide)
  rcases hp with ⟨e6464, e6465, e6466, ⟨tk6467, vl6468, ct6469, rd6474, rd6475, rd6476, rd6477, rd6478, rd6479, rd6480, rd6481, rd6482, rd6483, rd6484, rd6485, rd6486⟩, tq6473, rfl⟩ | ⟨e6464, ⟨rd6470, rd6471⟩, x6472, rfl⟩ | ⟨e6464, e6465, ⟨rd6470, rd6471⟩, x6472, rfl⟩ | ⟨e6464, e6465, e6466, ⟨rd6470, rd6471⟩, x6472, rfl⟩
  · have hv9 := ct6445.w e6464
    generalize ek6487 : tok t n k6459.2.2.2 = k6487 at ct6469 rd6478 rd6479
    have bk6487 := tok_ok (t := t) (n := n) k6459.2.2.2 (by omega)
    rw [ek6487] at bk6487
    refine m_istore_n F (lv' := [(1, .int (nI (fx nm k6459.2.2.1 nl))), (0, .ref a)]) e_X7_readFair_10 (by decide) rfl ?_
    refine m_aload_n F rfl e_X7_readFair_11 ?_
    refine m_iconst F (v := 1) (by decide) e_X7_readFair_12 ?_
    refine m_ldc F kc_X7_159 e_X7_readFair_13 ?_
    refine t_callV F e_X7_readFair_15 (s_X7_readNumberE (x_l X) V G b M Z T _ _ a 1 9999999 tp td n bk k6487.2.2.2 k6487.1 tk6467 vl6468 py sd ln 0 (-1) t k6487.2.1 k6487.2.2.1 h6462.1 hk (by omega) (by omega) rfl ct6469 (by omega) (by omega) ⟨rd6474, rd6475, rd6476, rd6477, rd6478, rd6479, rd6480, rd6481, rd6482, rd6483, rd6484, rd6485, rd6486⟩ (hB.keep (h6462.2 tp (by rw [show kA _ tp = 2 from htp]; decide))) hn7 hsd htp htd hbk hgb (by omega)) cb_X7_readNumber ml_X7_130 im_X7_readNumber se_X7_readNumber (fun _ => o3) h6462 hk rfl rfl (rest := []) rfl (Nat.le_of_ble_eq_true rfl) ⟨Nat.le_of_ble_eq_true rfl, Nat.le_of_ble_eq_true rfl⟩ ⟨Nat.le_of_ble_eq_true rfl, Nat.le_of_ble_eq_true rfl⟩ (fun r σ6488 hp => ?_)
    obtain ⟨h6489, hp⟩ := hp
    have h6490 := HK.trans h6462 h6489 (by decide)
    have bx6491 := bx6463.hk hbk h6489 (by decide) (by decide) (by decide)
    have tq6492 := tq6473.keep (h6489.2 td (by rw [show kA _ td = 4 from htd]; decide))
    rcases hp with ⟨e6493, l6495, l6496, ⟨tk6497, vl6498, ct6499, rd6500, rd6501, rd6502, rd6503, rd6504, rd6505, rd6506, rd6507, rd6508, rd6509, rd6510, rd6511, rd6512⟩, rfl⟩ | ⟨e6493, ⟨rd6500, rd6501, rd6502, rd6503, rd6504, rd6505, rd6506, rd6507, rd6508, rd6509, rd6510, rd6511, rd6512⟩, rfl⟩ | ⟨e6493, e6494, ⟨rd6500, rd6501, rd6502, rd6503, rd6504, rd6505, rd6506, rd6507, rd6508, rd6509, rd6510, rd6511, rd6512⟩, rfl⟩
    · generalize ek6513 : tok t n k6487.2.2.2 = k6513 at ct6499 rd6504 rd6505
      have bk6513 := tok_ok (t := t) (n := n) k6487.2.2.2 (by omega)
      rw [ek6513] at bk6513
      refine m_istore_n F (lv' := [(2, .int (nI k6487.2.2.1)), (1, .int (nI (fx nm k6459.2.2.1 nl))), (0, .ref a)]) e_X7_readFair_18 (by decide) rfl ?_
      refine m_aload_n F rfl e_X7_readFair_19 ?_
      refine t_getC F e_X7_readFair_20 fl_X7_55 (fun _ => o3) h6490 hk (rd6511) ?_
      refine m_if_ne F e_X7_readFair_23 (fun q => absurd (by decide) q) (fun _ => ?_)
      refine m_aload_n F rfl e_X7_readFair_26 ?_
      refine t_getC F e_X7_readFair_27 fl_X7_23 (fun _ => o3) h6490 hk (rd6502) ?_
      refine t_get F e_X7_readFair_30 fl_X7_142 (fun _ => o7) h6490 hbk rfl (fun v hv f6514 => ?_)
      obtain rfl : v = .ref (bk + 1) := hv
      refine m_iload_n F rfl e_X7_readFair_33 ?_
      refine t_aald8 F (j := fx nm k6459.2.2.1 nl) e_X7_readFair_34 rfl h6490 (kA_7 hbk (r := 1) (by decide)) (nI_clamp (by omega)) (vp_in_nI (by omega) (by decide)) ?_
      refine m_iload_n F rfl e_X7_readFair_35 ?_
      refine t_putC F e_X7_readFair_36 fp_X7_160 (fun _ => o15) h6490 (kA_8 (kA_7 hbk (r := 1) (by decide)) (j := fx nm k6459.2.2.1 nl) (by omega)) rfl ⟨_, rfl⟩ rfl rfl (by decide) (fun σ6515 h6516 g6517 g6518 f6519 => ?_)
      have bx6520 := bx6491.keep hbk (fld_eq (g6517 bk (kdn hbk (kA_8 (kA_7 hbk (r := 1) (by decide)) (j := fx nm k6459.2.2.1 nl) (by omega)) (by decide)))) (fld_eq (g6517 bk (kdn hbk (kA_8 (kA_7 hbk (r := 1) (by decide)) (j := fx nm k6459.2.2.1 nl) (by omega)) (by decide)))) (fld_eq (g6517 bk (kdn hbk (kA_8 (kA_7 hbk (r := 1) (by decide)) (j := fx nm k6459.2.2.1 nl) (by omega)) (by decide)))) (g6517 (bk + 4) (kdn (kA_7 hbk (r := 4) (by decide) : kA b (bk + 4) = 11) (kA_8 (kA_7 hbk (r := 1) (by decide)) (j := fx nm k6459.2.2.1 nl) (by omega)) (by decide))) (fun x _ => put15 g6517 (g6518 0 (by decide)) x)
      have tq6521 := tq6492.keep (g6517 td (kdn htd (kA_8 (kA_7 hbk (r := 1) (by decide)) (j := fx nm k6459.2.2.1 nl) (by omega)) (by decide)))
      exact m_vret F hQ e_X7_readFair_39 (⟨h6516, (by unfold fairS; dsimp only; rw [ek6459, oncK_ok e6464 e6465 e6466, ek6487, numK_ok e6493 l6495 l6496, ek6513]; exact RES.r ct6499 ⟨(fld_eq (g6517 a (kdn hk (kA_8 (kA_7 hbk (r := 1) (by decide)) (j := fx nm k6459.2.2.1 nl) (by omega)) (by decide)))).trans rd6500, (fld_eq (g6517 a (kdn hk (kA_8 (kA_7 hbk (r := 1) (by decide)) (j := fx nm k6459.2.2.1 nl) (by omega)) (by decide)))).trans rd6501, (fld_eq (g6517 a (kdn hk (kA_8 (kA_7 hbk (r := 1) (by decide)) (j := fx nm k6459.2.2.1 nl) (by omega)) (by decide)))).trans rd6502, (fld_eq (g6517 a (kdn hk (kA_8 (kA_7 hbk (r := 1) (by decide)) (j := fx nm k6459.2.2.1 nl) (by omega)) (by decide)))).trans rd6503, (fld_eq (g6517 a (kdn hk (kA_8 (kA_7 hbk (r := 1) (by decide)) (j := fx nm k6459.2.2.1 nl) (by omega)) (by decide)))).trans rd6504, (fld_eq (g6517 a (kdn hk (kA_8 (kA_7 hbk (r := 1) (by decide)) (j := fx nm k6459.2.2.1 nl) (by omega)) (by decide)))).trans rd6505, (fld_eq (g6517 a (kdn hk (kA_8 (kA_7 hbk (r := 1) (by decide)) (j := fx nm k6459.2.2.1 nl) (by omega)) (by decide)))).trans rd6506, (fld_eq (g6517 a (kdn hk (kA_8 (kA_7 hbk (r := 1) (by decide)) (j := fx nm k6459.2.2.1 nl) (by omega)) (by decide)))).trans rd6507, (fld_eq (g6517 a (kdn hk (kA_8 (kA_7 hbk (r := 1) (by decide)) (j := fx nm k6459.2.2.1 nl) (by omega)) (by decide)))).trans rd6508, (fld_eq (g6517 a (kdn hk (kA_8 (kA_7 hbk (r := 1) (by decide)) (j := fx nm k6459.2.2.1 nl) (by omega)) (by decide)))).trans rd6509, (fld_eq (g6517 a (kdn hk (kA_8 (kA_7 hbk (r := 1) (by decide)) (j := fx nm k6459.2.2.1 nl) (by omega)) (by decide)))).trans rd6510, (fld_eq (g6517 a (kdn hk (kA_8 (kA_7 hbk (r := 1) (by decide)) (j := fx nm k6459.2.2.1 nl) (by omega)) (by decide)))).trans rd6511, (fld_eq (g6517 a (kdn hk (kA_8 (kA_7 hbk (r := 1) (by decide)) (j := fx nm k6459.2.2.1 nl) (by omega)) (by decide)))).trans rd6512⟩ bx6520 tq6521 (by omega) (by omega) (by omega) (by omega)), rfl⟩)
    · have hz9 : True := trivial
      refine m_istore_n F (lv' := [(2, .int 0), (1, .int (nI (fx nm k6459.2.2.1 nl))), (0, .ref a)]) e_X7_readFair_18 (by decide) rfl ?_
      refine m_aload_n F rfl e_X7_readFair_19 ?_
      refine t_getC F e_X7_readFair_20 fl_X7_55 (fun _ => o3) h6490 hk (rd6511) ?_
      refine m_if_ne F e_X7_readFair_23 (fun _ => ?_) (fun q => absurd q (by decide))
      exact m_vret F hQ e_X7_readFair_39 (⟨h6490, (by unfold fairS; dsimp only; rw [ek6459, oncK_ok e6464 e6465 e6466, ek6487, numK_1 e6493]; exact RES.l (rd6511) (rd6512) (by decide) (by decide) (by omega)), rfl⟩)
    · have hz9 : True := trivial
      refine m_istore_n F (lv' := [(2, .int 0), (1, .int (nI (fx nm k6459.2.2.1 nl))), (0, .ref a)]) e_X7_readFair_18 (by decide) rfl ?_
      refine m_aload_n F rfl e_X7_readFair_19 ?_
      refine t_getC F e_X7_readFair_20 fl_X7_55 (fun _ => o3) h6490 hk (rd6511) ?_
      refine m_if_ne F e_X7_readFair_23 (fun _ => ?_) (fun q => absurd q (by decide))
      exact m_vret F hQ e_X7_readFair_39 (⟨h6490, (by unfold fairS; dsimp only; rw [ek6459, oncK_ok e6464 e6465 e6466, ek6487, numK_2 e6493 e6494]; exact RES.l (rd6511) (rd6512) (by decide) (by decide) (by omega)), rfl⟩)
  · have hz9 : True := trivial
    refine m_istore_n F (lv' := [(1, .int x6472), (0, .ref a)]) e_X7_readFair_10 (by decide) rfl ?_
    refine m_aload_n F rfl e_X7_readFair_11 ?_
    refine m_iconst F (v := 1) (by decide) e_X7_readFair_12 ?_
    refine m_ldc F kc_X7_159 e_X7_readFair_13 ?_
    refine t_callV F e_X7_readFair_15 (s_X7_readNumberG (x_l X) V G b M Z T _ _ a 1 9999999 1 (nI k6459.1) h6462.1 hk  (rd6470) (rd6471) (by decide) (by omega)) cb_X7_readNumber ml_X7_130 im_X7_readNumber se_X7_readNumber (fun _ => o3) h6462 hk rfl rfl (rest := []) rfl (Nat.le_of_ble_eq_true rfl) ⟨Nat.le_of_ble_eq_true rfl, Nat.le_of_ble_eq_true rfl⟩ ⟨Nat.le_of_ble_eq_true rfl, Nat.le_of_ble_eq_true rfl⟩ (fun r σ6522 hp => ?_)
    obtain ⟨h6523, rd6525, rd6526, rfl⟩ := hp
    have h6524 := HK.trans h6462 h6523 (by decide)
    refine m_istore_n F (lv' := [(2, .int 0), (1, .int x6472), (0, .ref a)]) e_X7_readFair_18 (by decide) rfl ?_
    refine m_aload_n F rfl e_X7_readFair_19 ?_
    refine t_getC F e_X7_readFair_20 fl_X7_55 (fun _ => o3) h6524 hk (rd6525) ?_
    refine m_if_ne F e_X7_readFair_23 (fun _ => ?_) (fun q => absurd q (by decide))
    exact m_vret F hQ e_X7_readFair_39 (⟨h6524, (by unfold fairS; dsimp only; rw [ek6459, oncK_1 e6464]; exact RES.l (rd6525) (rd6526) (by decide) (by decide) (by omega)), rfl⟩)
  · have hz9 : True := trivial
    refine m_istore_n F (lv' := [(1, .int x6472), (0, .ref a)]) e_X7_readFair_10 (by decide) rfl ?_
    refine m_aload_n F rfl e_X7_readFair_11 ?_
    refine m_iconst F (v := 1) (by decide) e_X7_readFair_12 ?_
    refine m_ldc F kc_X7_159 e_X7_readFair_13 ?_
    refine t_callV F e_X7_readFair_15 (s_X7_readNumberG (x_l X) V G b M Z T _ _ a 1 9999999 4 (nI k6459.1) h6462.1 hk  (rd6470) (rd6471) (by decide) (by omega)) cb_X7_readNumber ml_X7_130 im_X7_readNumber se_X7_readNumber (fun _ => o3) h6462 hk rfl rfl (rest := []) rfl (Nat.le_of_ble_eq_true rfl) ⟨Nat.le_of_ble_eq_true rfl, Nat.le_of_ble_eq_true rfl⟩ ⟨Nat.le_of_ble_eq_true rfl, Nat.le_of_ble_eq_true rfl⟩ (fun r σ6528 hp => ?_)
    obtain ⟨h6529, rd6531, rd6532, rfl⟩ := hp
    have h6530 := HK.trans h6462 h6529 (by decide)
    refine m_istore_n F (lv' := [(2, .int 0), (1, .int x6472), (0, .ref a)]) e_X7_readFair_18 (by decide) rfl ?_
    refine m_aload_n F rfl e_X7_readFair_19 ?_
    refine t_getC F e_X7_readFair_20 fl_X7_55 (fun _ => o3) h6530 hk (rd6531) ?_
    refine m_if_ne F e_X7_readFair_23 (fun _ => ?_) (fun q => absurd q (by decide))
    exact m_vret F hQ e_X7_readFair_39 (⟨h6530, (by unfold fairS; dsimp only; rw [ek6459, oncK_4 e6464 e6465]; exact RES.l (rd6531) (rd6532) (by decide) (by decide) (by omega)), rfl⟩)
  · have hz9 : True := trivial
    refine m_istore_n F (lv' := [(1, .int x6472), (0, .ref a)]) e_X7_readFair_10 (by decide) rfl ?_
    refine m_aload_n F rfl e_X7_readFair_11 ?_
    refine m_iconst F (v := 1) (by decide) e_X7_readFair_12 ?_
    refine m_ldc F kc_X7_159 e_X7_readFair_13 ?_
    refine t_callV F e_X7_readFair_15 (s_X7_readNumberG (x_l X) V G b M Z T _ _ a 1 9999999 3 (nI k6459.1) h6462.1 hk  (rd6470) (rd6471) (by decide) (by omega)) cb_X7_readNumber ml_X7_130 im_X7_readNumber se_X7_readNumber (fun _ => o3) h6462 hk rfl rfl (rest := []) rfl (Nat.le_of_ble_eq_true rfl) ⟨Nat.le_of_ble_eq_true rfl, Nat.le_of_ble_eq_true rfl⟩ ⟨Nat.le_of_ble_eq_true rfl, Nat.le_of_ble_eq_true rfl⟩ (fun r σ6534 hp => ?_)
    obtain ⟨h6535, rd6537, rd6538, rfl⟩ := hp
    have h6536 := HK.trans h6462 h6535 (by decide)
    refine m_istore_n F (lv' := [(2, .int 0), (1, .int x6472), (0, .ref a)]) e_X7_readFair_18 (by decide) rfl ?_
    refine m_aload_n F rfl e_X7_readFair_19 ?_
    refine t_getC F e_X7_readFair_20 fl_X7_55 (fun _ => o3) h6536 hk (rd6537) ?_
    refine m_if_ne F e_X7_readFair_23 (fun _ => ?_) (fun q => absurd q (by decide))
    exact m_vret F hQ e_X7_readFair_39 (⟨h6536, (by unfold fairS; dsimp only; rw [ek6459, oncK_3 e6464 e6465 e6466]; exact RES.l (rd6537) (rd6538) (by decide) (by decide) (by omega)), rfl⟩)
set_option maxRecDepth 20000 in
theorem s_X7_readFeeE (l : Launch) (V : VX) (G : GH) (b M Z T N : Nat) (σ : Mem) (a : Nat) (tp : Nat) (td : Nat) (n : Nat) (bk : Nat) (nx : Nat) (st : Nat) (tk : Int32) (vl : Int32) (py : Nat) (sd : Nat) (ln : Nat) (ft : Int32) (pl : Int32) (t : Nat → Nat) (s9 : Nat) (v9 : Nat) (nl : Nat) (nm : Nat → Nat) (nc : Nat) (lc : Nat) (no : Nat) (md : Nat → Nat → Bool) (h0 : HT V G (b, M, Z, T) σ) (hk : kA b a = 3) (hp0 : ft = 0) (hp1 : CT tk vl s9 v9) (hp2 : nx ≤ n) (hp3 : st ≤ n) (hp4 : pl = -1) (hp5 : BX σ bk nl nm nc lc no) (hp6 : TD V σ td nl md) (hp7 : py ≤ 12) (hR : RD σ a tp td n bk nx st tk vl py sd ln ft pl) (hB : BY V σ tp n t) (hn7 : n ≤ 700) (hsd : sd ≤ 1) (htp : kA b tp = 2) (htd : kA b td = 4) (hbk : kA b bk = 7) (hgb : ¬ G.gd (blk (bk - b)) = 1) (hM : M + 0 ≤ 1000000000) : Ct l V yX7_readFee cX7_readFee 3 none 4 0 0 N σ [.ref a] (fun r τ => HK V G (b, M, Z, T) [0, 1, 2, 5, 6, 7, 8, 9, 10, 11, 12, 13, 14, 16, 17, 18, 19] σ τ ∧ RES V τ a tp td n bk (feeS (tok t n) (st, s9, v9, nx) nl nm py nc lc no sd md ln) ∧ r = none) := by
  refine Ct.of (by decide) (Nat.le_of_ble_eq_true rfl) [(0, .ref a)] rfl (fun X hX F hQ => ?_)
  have h1 : HK V G (b, M, Z, T) [0, 1, 2, 5, 6, 7, 8, 9, 10, 11, 12, 13, 14, 16, 17, 18, 19] σ σ := HK.start h0
  have hrd6540 := hR
  obtain ⟨rd6540, rd6541, rd6542, rd6543, rd6544, rd6545, rd6546, rd6547, rd6548, rd6549, rd6550, rd6551, rd6552⟩ := hrd6540
  subst hp0
  subst hp4
  have hbb6553 := hp5
  obtain ⟨bb6553, bb6554, bb6555, bb6556, bb6557, bb6558, bb6559, bb6560⟩ := hbb6553
  have hl4 := hp5.2.2.2.2.2.1
  refine m_aload_n F rfl e_X7_readFee_0 ?_
  refine m_iconst F (v := 0) (by decide) e_X7_readFee_1 ?_
  refine t_callV F e_X7_readFee_2 (s_X7_startLineE (x_l X) V G b M Z T _ _ a 0 tp td n bk nx st tk vl py sd ln 0 (-1) t s9 v9 h1.1 hk rfl hp1 (by omega) (by omega) rfl ⟨rd6540, rd6541, rd6542, rd6543, rd6544, rd6545, rd6546, rd6547, rd6548, rd6549, rd6550, rd6551, rd6552⟩ (hB.keep (h1.2 tp (by rw [show kA _ tp = 2 from htp]; decide))) hn7 hsd htp htd hbk hgb (by omega)) cb_X7_startLine ml_X7_124 im_X7_startLine se_X7_startLine (fun _ => o3) h1 hk rfl rfl (rest := []) rfl (Nat.le_of_ble_eq_true rfl) ⟨Nat.le_of_ble_eq_true rfl, Nat.le_of_ble_eq_true rfl⟩ ⟨Nat.le_of_ble_eq_true rfl, Nat.le_of_ble_eq_true rfl⟩ (fun r σ6561 hp => ?_)
  obtain ⟨h6562, hp⟩ := hp
  have h6563 := HK.trans h1 h6562 (by decide)
  have bx6564 := hp5.hk hbk h6562 (by decide) (by decide) (by decide)
  have tq6565 := hp6.keep (h6562.2 td (by rw [show kA _ td = 4 from htd]; decide))
  obtain ⟨⟨tk6566, vl6567, ct6568, rd6569, rd6570, rd6571, rd6572, rd6573, rd6574, rd6575, rd6576, rd6577, rd6578, rd6579, rd6580, rd6581⟩, rfl⟩ := hp
  generalize ek6582 : tok t n nx = k6582 at ct6568 rd6573 rd6574
  have bk6582 := tok_ok (t := t) (n := n) nx (by omega)
  rw [ek6582] at bk6582
  refine m_aload_n F rfl e_X7_readFee_5 ?_
  refine m_iconst F (v := 4) (by decide) e_X7_readFee_6 ?_
  refine t_callV F e_X7_readFee_7 (s_X7_readNameOnceE (x_l X) V G b M Z T _ _ a 4 tp td n bk k6582.2.2.2 k6582.1 tk6566 vl6567 py sd ln 0 (-1) t k6582.2.1 k6582.2.2.1 nl nm nc lc no md 2 h6563.1 hk (by omega) rfl ct6568 (by omega) (by omega) bx6564 tq6565 (by decide) (by decide) ⟨rd6569, rd6570, rd6571, rd6572, rd6573, rd6574, rd6575, rd6576, rd6577, rd6578, rd6579, rd6580, rd6581⟩ (hB.keep (h6563.2 tp (by rw [show kA _ tp = 2 from htp]; decide))) hn7 hsd htp htd hbk hgb (by omega)) cb_X7_readNameOnce ml_X7_152 im_X7_readNameOnce se_X7_readNameOnce (fun _ => o3) h6563 hk rfl rfl (rest := []) rfl (Nat.le_of_ble_eq_true rfl) ⟨Nat.le_of_ble_eq_true rfl, Nat.le_of_ble_eq_true rfl⟩ ⟨Nat.le_of_ble_eq_true rfl, Nat.le_of_ble_eq_true rfl⟩ (fun r σ6583 hp => ?_)
  obtain ⟨h6584, hp⟩ := hp
  have h6585 := HK.trans h6563 h6584 (by decide)
  have bx6586 := bx6564.hk hbk h6584 (by decide) (by decide) (by decide)
  rcases hp with ⟨e6587, e6588, e6589, ⟨tk6590, vl6591, ct6592, rd6597, rd6598, rd6599, rd6600, rd6601, rd6602, rd6603, rd6604, rd6605, rd6606, rd6607, rd6608, rd6609⟩, tq6596, rfl⟩ | ⟨e6587, ⟨rd6593, rd6594⟩, x6595, rfl⟩ | ⟨e6587, e6588, ⟨rd6593, rd6594⟩, x6595, rfl⟩ | ⟨e6587, e6588, e6589, ⟨rd6593, rd6594⟩, x6595, rfl⟩
  · have hv9 := ct6568.w e6587
    generalize ek6610 : tok t n k6582.2.2.2 = k6610 at ct6592 rd6601 rd6602
    have bk6610 := tok_ok (t := t) (n := n) k6582.2.2.2 (by omega)
    rw [ek6610] at bk6610
    refine m_istore_n F (lv' := [(1, .int (nI (fx nm k6582.2.2.1 nl))), (0, .ref a)]) e_X7_readFee_10 (by decide) rfl ?_
    refine m_aload_n F rfl e_X7_readFee_11 ?_
    refine m_iconst F (v := 0) (by decide) e_X7_readFee_12 ?_
    refine m_ldc F kc_X7_141 e_X7_readFee_13 ?_
    refine t_callV F e_X7_readFee_15 (s_X7_readNumberE (x_l X) V G b M Z T _ _ a 0 99999 tp td n bk k6610.2.2.2 k6610.1 tk6590 vl6591 py sd ln 0 (-1) t k6610.2.1 k6610.2.2.1 h6585.1 hk (by omega) (by omega) rfl ct6592 (by omega) (by omega) ⟨rd6597, rd6598, rd6599, rd6600, rd6601, rd6602, rd6603, rd6604, rd6605, rd6606, rd6607, rd6608, rd6609⟩ (hB.keep (h6585.2 tp (by rw [show kA _ tp = 2 from htp]; decide))) hn7 hsd htp htd hbk hgb (by omega)) cb_X7_readNumber ml_X7_130 im_X7_readNumber se_X7_readNumber (fun _ => o3) h6585 hk rfl rfl (rest := []) rfl (Nat.le_of_ble_eq_true rfl) ⟨Nat.le_of_ble_eq_true rfl, Nat.le_of_ble_eq_true rfl⟩ ⟨Nat.le_of_ble_eq_true rfl, Nat.le_of_ble_eq_true rfl⟩ (fun r σ6611 hp => ?_)
    obtain ⟨h6612, hp⟩ := hp
    have h6613 := HK.trans h6585 h6612 (by decide)
    have bx6614 := bx6586.hk hbk h6612 (by decide) (by decide) (by decide)
    have tq6615 := tq6596.keep (h6612.2 td (by rw [show kA _ td = 4 from htd]; decide))
    rcases hp with ⟨e6616, l6618, l6619, ⟨tk6620, vl6621, ct6622, rd6623, rd6624, rd6625, rd6626, rd6627, rd6628, rd6629, rd6630, rd6631, rd6632, rd6633, rd6634, rd6635⟩, rfl⟩ | ⟨e6616, ⟨rd6623, rd6624, rd6625, rd6626, rd6627, rd6628, rd6629, rd6630, rd6631, rd6632, rd6633, rd6634, rd6635⟩, rfl⟩ | ⟨e6616, e6617, ⟨rd6623, rd6624, rd6625, rd6626, rd6627, rd6628, rd6629, rd6630, rd6631, rd6632, rd6633, rd6634, rd6635⟩, rfl⟩
    · generalize ek6636 : tok t n k6610.2.2.2 = k6636 at ct6622 rd6627 rd6628
      have bk6636 := tok_ok (t := t) (n := n) k6610.2.2.2 (by omega)
      rw [ek6636] at bk6636
      refine m_istore_n F (lv' := [(2, .int (nI k6610.2.2.1)), (1, .int (nI (fx nm k6582.2.2.1 nl))), (0, .ref a)]) e_X7_readFee_18 (by decide) rfl ?_
      refine m_aload_n F rfl e_X7_readFee_19 ?_
      refine t_getC F e_X7_readFee_20 fl_X7_55 (fun _ => o3) h6613 hk (rd6634) ?_
      refine m_if_ne F e_X7_readFee_23 (fun q => absurd (by decide) q) (fun _ => ?_)
      refine m_aload_n F rfl e_X7_readFee_26 ?_
      refine t_getC F e_X7_readFee_27 fl_X7_23 (fun _ => o3) h6613 hk (rd6625) ?_
      refine t_get F e_X7_readFee_30 fl_X7_142 (fun _ => o7) h6613 hbk rfl (fun v hv f6637 => ?_)
      obtain rfl : v = .ref (bk + 1) := hv
      refine m_iload_n F rfl e_X7_readFee_33 ?_
      refine t_aald8 F (j := fx nm k6582.2.2.1 nl) e_X7_readFee_34 rfl h6613 (kA_7 hbk (r := 1) (by decide)) (nI_clamp (by omega)) (vp_in_nI (by omega) (by decide)) ?_
      refine m_iload_n F rfl e_X7_readFee_35 ?_
      refine t_putC F e_X7_readFee_36 fp_X7_163 (fun _ => o15) h6613 (kA_8 (kA_7 hbk (r := 1) (by decide)) (j := fx nm k6582.2.2.1 nl) (by omega)) rfl ⟨_, rfl⟩ rfl rfl (by decide) (fun σ6638 h6639 g6640 g6641 f6642 => ?_)
      have bx6643 := bx6614.keep hbk (fld_eq (g6640 bk (kdn hbk (kA_8 (kA_7 hbk (r := 1) (by decide)) (j := fx nm k6582.2.2.1 nl) (by omega)) (by decide)))) (fld_eq (g6640 bk (kdn hbk (kA_8 (kA_7 hbk (r := 1) (by decide)) (j := fx nm k6582.2.2.1 nl) (by omega)) (by decide)))) (fld_eq (g6640 bk (kdn hbk (kA_8 (kA_7 hbk (r := 1) (by decide)) (j := fx nm k6582.2.2.1 nl) (by omega)) (by decide)))) (g6640 (bk + 4) (kdn (kA_7 hbk (r := 4) (by decide) : kA b (bk + 4) = 11) (kA_8 (kA_7 hbk (r := 1) (by decide)) (j := fx nm k6582.2.2.1 nl) (by omega)) (by decide))) (fun x _ => put15 g6640 (g6641 0 (by decide)) x)
      have tq6644 := tq6615.keep (g6640 td (kdn htd (kA_8 (kA_7 hbk (r := 1) (by decide)) (j := fx nm k6582.2.2.1 nl) (by omega)) (by decide)))
      exact m_vret F hQ e_X7_readFee_39 (⟨h6639, (by unfold feeS; dsimp only; rw [ek6582, oncK_ok e6587 e6588 e6589, ek6610, numK_ok e6616 l6618 l6619, ek6636]; exact RES.r ct6622 ⟨(fld_eq (g6640 a (kdn hk (kA_8 (kA_7 hbk (r := 1) (by decide)) (j := fx nm k6582.2.2.1 nl) (by omega)) (by decide)))).trans rd6623, (fld_eq (g6640 a (kdn hk (kA_8 (kA_7 hbk (r := 1) (by decide)) (j := fx nm k6582.2.2.1 nl) (by omega)) (by decide)))).trans rd6624, (fld_eq (g6640 a (kdn hk (kA_8 (kA_7 hbk (r := 1) (by decide)) (j := fx nm k6582.2.2.1 nl) (by omega)) (by decide)))).trans rd6625, (fld_eq (g6640 a (kdn hk (kA_8 (kA_7 hbk (r := 1) (by decide)) (j := fx nm k6582.2.2.1 nl) (by omega)) (by decide)))).trans rd6626, (fld_eq (g6640 a (kdn hk (kA_8 (kA_7 hbk (r := 1) (by decide)) (j := fx nm k6582.2.2.1 nl) (by omega)) (by decide)))).trans rd6627, (fld_eq (g6640 a (kdn hk (kA_8 (kA_7 hbk (r := 1) (by decide)) (j := fx nm k6582.2.2.1 nl) (by omega)) (by decide)))).trans rd6628, (fld_eq (g6640 a (kdn hk (kA_8 (kA_7 hbk (r := 1) (by decide)) (j := fx nm k6582.2.2.1 nl) (by omega)) (by decide)))).trans rd6629, (fld_eq (g6640 a (kdn hk (kA_8 (kA_7 hbk (r := 1) (by decide)) (j := fx nm k6582.2.2.1 nl) (by omega)) (by decide)))).trans rd6630, (fld_eq (g6640 a (kdn hk (kA_8 (kA_7 hbk (r := 1) (by decide)) (j := fx nm k6582.2.2.1 nl) (by omega)) (by decide)))).trans rd6631, (fld_eq (g6640 a (kdn hk (kA_8 (kA_7 hbk (r := 1) (by decide)) (j := fx nm k6582.2.2.1 nl) (by omega)) (by decide)))).trans rd6632, (fld_eq (g6640 a (kdn hk (kA_8 (kA_7 hbk (r := 1) (by decide)) (j := fx nm k6582.2.2.1 nl) (by omega)) (by decide)))).trans rd6633, (fld_eq (g6640 a (kdn hk (kA_8 (kA_7 hbk (r := 1) (by decide)) (j := fx nm k6582.2.2.1 nl) (by omega)) (by decide)))).trans rd6634, (fld_eq (g6640 a (kdn hk (kA_8 (kA_7 hbk (r := 1) (by decide)) (j := fx nm k6582.2.2.1 nl) (by omega)) (by decide)))).trans rd6635⟩ bx6643 tq6644 (by omega) (by omega) (by omega) (by omega)), rfl⟩)
    · have hz9 : True := trivial
      refine m_istore_n F (lv' := [(2, .int 0), (1, .int (nI (fx nm k6582.2.2.1 nl))), (0, .ref a)]) e_X7_readFee_18 (by decide) rfl ?_
      refine m_aload_n F rfl e_X7_readFee_19 ?_
      refine t_getC F e_X7_readFee_20 fl_X7_55 (fun _ => o3) h6613 hk (rd6634) ?_
      refine m_if_ne F e_X7_readFee_23 (fun _ => ?_) (fun q => absurd q (by decide))
      exact m_vret F hQ e_X7_readFee_39 (⟨h6613, (by unfold feeS; dsimp only; rw [ek6582, oncK_ok e6587 e6588 e6589, ek6610, numK_1 e6616]; exact RES.l (rd6634) (rd6635) (by decide) (by decide) (by omega)), rfl⟩)
    · have hz9 : True := trivial
      refine m_istore_n F (lv' := [(2, .int 0), (1, .int (nI (fx nm k6582.2.2.1 nl))), (0, .ref a)]) e_X7_readFee_18 (by decide) rfl ?_
      refine m_aload_n F rfl e_X7_readFee_19 ?_
      refine t_getC F e_X7_readFee_20 fl_X7_55 (fun _ => o3) h6613 hk (rd6634) ?_
      refine m_if_ne F e_X7_readFee_23 (fun _ => ?_) (fun q => absurd q (by decide))
      exact m_vret F hQ e_X7_readFee_39 (⟨h6613, (by unfold feeS; dsimp only; rw [ek6582, oncK_ok e6587 e6588 e6589, ek6610, numK_2 e6616 e6617]; exact RES.l (rd6634) (rd6635) (by decide) (by decide) (by omega)), rfl⟩)
  · have hz9 : True := trivial
    refine m_istore_n F (lv' := [(1, .int x6595), (0, .ref a)]) e_X7_readFee_10 (by decide) rfl ?_
    refine m_aload_n F rfl e_X7_readFee_11 ?_
    refine m_iconst F (v := 0) (by decide) e_X7_readFee_12 ?_
    refine m_ldc F kc_X7_141 e_X7_readFee_13 ?_
    refine t_callV F e_X7_readFee_15 (s_X7_readNumberG (x_l X) V G b M Z T _ _ a 0 99999 1 (nI k6582.1) h6585.1 hk  (rd6593) (rd6594) (by decide) (by omega)) cb_X7_readNumber ml_X7_130 im_X7_readNumber se_X7_readNumber (fun _ => o3) h6585 hk rfl rfl (rest := []) rfl (Nat.le_of_ble_eq_true rfl) ⟨Nat.le_of_ble_eq_true rfl, Nat.le_of_ble_eq_true rfl⟩ ⟨Nat.le_of_ble_eq_true rfl, Nat.le_of_ble_eq_true rfl⟩ (fun r σ6645 hp => ?_)
    obtain ⟨h6646, rd6648, rd6649, rfl⟩ := hp
    have h6647 := HK.trans h6585 h6646 (by decide)
    refine m_istore_n F (lv' := [(2, .int 0), (1, .int x6595), (0, .ref a)]) e_X7_readFee_18 (by decide) rfl ?_
    refine m_aload_n F rfl e_X7_readFee_19 ?_
    refine t_getC F e_X7_readFee_20 fl_X7_55 (fun _ => o3) h6647 hk (rd6648) ?_
    refine m_if_ne F e_X7_readFee_23 (fun _ => ?_) (fun q => absurd q (by decide))
    exact m_vret F hQ e_X7_readFee_39 (⟨h6647, (by unfold feeS; dsimp only; rw [ek6582, oncK_1 e6587]; exact RES.l (rd6648) (rd6649) (by decide) (by decide) (by omega)), rfl⟩)
  · have hz9 : True := trivial
    refine m_istore_n F (lv' := [(1, .int x6595), (0, .ref a)]) e_X7_readFee_10 (by decide) rfl ?_
    refine m_aload_n F rfl e_X7_readFee_11 ?_
    refine m_iconst F (v := 0) (by decide) e_X7_readFee_12 ?_
    refine m_ldc F kc_X7_141 e_X7_readFee_13 ?_
    refine t_callV F e_X7_readFee_15 (s_X7_readNumberG (x_l X) V G b M Z T _ _ a 0 99999 4 (nI k6582.1) h6585.1 hk  (rd6593) (rd6594) (by decide) (by omega)) cb_X7_readNumber ml_X7_130 im_X7_readNumber se_X7_readNumber (fun _ => o3) h6585 hk rfl rfl (rest := []) rfl (Nat.le_of_ble_eq_true rfl) ⟨Nat.le_of_ble_eq_true rfl, Nat.le_of_ble_eq_true rfl⟩ ⟨Nat.le_of_ble_eq_true rfl, Nat.le_of_ble_eq_true rfl⟩ (fun r σ6651 hp => ?_)
    obtain ⟨h6652, rd6654, rd6655, rfl⟩ := hp
    have h6653 := HK.trans h6585 h6652 (by decide)
    refine m_istore_n F (lv' := [(2, .int 0), (1, .int x6595), (0, .ref a)]) e_X7_readFee_18 (by decide) rfl ?_
    refine m_aload_n F rfl e_X7_readFee_19 ?_
    refine t_getC F e_X7_readFee_20 fl_X7_55 (fun _ => o3) h6653 hk (rd6654) ?_
    refine m_if_ne F e_X7_readFee_23 (fun _ => ?_) (fun q => absurd q (by decide))
    exact m_vret F hQ e_X7_readFee_39 (⟨h6653, (by unfold feeS; dsimp only; rw [ek6582, oncK_4 e6587 e6588]; exact RES.l (rd6654) (rd6655) (by decide) (by decide) (by omega)), rfl⟩)
  · have hz9 : True := trivial
    refine m_istore_n F (lv' := [(1, .int x6595), (0, .ref a)]) e_X7_readFee_10 (by decide) rfl ?_
    refine m_aload_n F rfl e_X7_readFee_11 ?_
    refine m_iconst F (v := 0) (by decide) e_X7_readFee_12 ?_
    refine m_ldc F kc_X7_141 e_X7_readFee_13 ?_
    refine t_callV F e_X7_readFee_15 (s_X7_readNumberG (x_l X) V G b M Z T _ _ a 0 99999 3 (nI k6582.1) h6585.1 hk  (rd6593) (rd6594) (by decide) (by omega)) cb_X7_readNumber ml_X7_130 im_X7_readNumber se_X7_readNumber (fun _ => o3) h6585 hk rfl rfl (rest := []) rfl (Nat.le_of_ble_eq_true rfl) ⟨Nat.le_of_ble_eq_true rfl, Nat.le_of_ble_eq_true rfl⟩ ⟨Nat.le_of_ble_eq_true rfl, Nat.le_of_ble_eq_true rfl⟩ (fun r σ6657 hp => ?_)
    obtain ⟨h6658, rd6660, rd6661, rfl⟩ := hp
    have h6659 := HK.trans h6585 h6658 (by decide)
    refine m_istore_n F (lv' := [(2, .int 0), (1, .int x6595), (0, .ref a)]) e_X7_readFee_18 (by decide) rfl ?_
    refine m_aload_n F rfl e_X7_readFee_19 ?_
    refine t_getC F e_X7_readFee_20 fl_X7_55 (fun _ => o3) h6659 hk (rd6660) ?_
    refine m_if_ne F e_X7_readFee_23 (fun _ => ?_) (fun q => absurd q (by decide))
    exact m_vret F hQ e_X7_readFee_39 (⟨h6659, (by unfold feeS; dsimp only; rw [ek6582, oncK_3 e6587 e6588 e6589]; exact RES.l (rd6660) (rd6661) (by decide) (by decide) (by omega)), rfl⟩)
set_option maxRecDepth 20000 in
theorem s_X7_readIndexE (l : Launch) (V : VX) (G : GH) (b M Z T N : Nat) (σ : Mem) (a : Nat) (tp : Nat) (td : Nat) (n : Nat) (bk : Nat) (nx : Nat) (st : Nat) (tk : Int32) (vl : Int32) (py : Nat) (sd : Nat) (ln : Nat) (ft : Int32) (pl : Int32) (t : Nat → Nat) (s9 : Nat) (v9 : Nat) (nl : Nat) (nm : Nat → Nat) (nc : Nat) (lc : Nat) (no : Nat) (md : Nat → Nat → Bool) (h0 : HT V G (b, M, Z, T) σ) (hk : kA b a = 3) (hp0 : ft = 0) (hp1 : CT tk vl s9 v9) (hp2 : nx ≤ n) (hp3 : st ≤ n) (hp4 : pl = -1) (hp5 : BX σ bk nl nm nc lc no) (hp6 : TD V σ td nl md) (hp7 : py ≤ 12) (hR : RD σ a tp td n bk nx st tk vl py sd ln ft pl) (hB : BY V σ tp n t) (hn7 : n ≤ 700) (hsd : sd ≤ 1) (htp : kA b tp = 2) (htd : kA b td = 4) (hbk : kA b bk = 7) (hgb : ¬ G.gd (blk (bk - b)) = 1) (hM : M + 0 ≤ 1000000000) : Ct l V yX7_readIndex cX7_readIndex 3 none 4 0 0 N σ [.ref a] (fun r τ => HK V G (b, M, Z, T) [0, 1, 2, 4, 5, 6, 8, 9, 12, 13, 14, 15, 16, 17, 18, 19] σ τ ∧ RES V τ a tp td n bk (indexS (tok t n) (st, s9, v9, nx) nl nm py nc lc no sd md ln) ∧ r = none) := by
  refine Ct.of (by decide) (Nat.le_of_ble_eq_true rfl) [(0, .ref a)] rfl (fun X hX F hQ => ?_)
  have h1 : HK V G (b, M, Z, T) [0, 1, 2, 4, 5, 6, 8, 9, 12, 13, 14, 15, 16, 17, 18, 19] σ σ := HK.start h0
  have hrd6663 := hR
  obtain ⟨rd6663, rd6664, rd6665, rd6666, rd6667, rd6668, rd6669, rd6670, rd6671, rd6672, rd6673, rd6674, rd6675⟩ := hrd6663
  subst hp0
  subst hp4
  have hbb6676 := hp5
  obtain ⟨bb6676, bb6677, bb6678, bb6679, bb6680, bb6681, bb6682, bb6683⟩ := hbb6676
  have hl4 := hp5.2.2.2.2.2.1
  have hlc : lc ≤ 100 := by rcases hp5.2.2.2.2.1 with q9 | q9 <;> omega
  refine m_aload_n F rfl e_X7_readIndex_0 ?_
  refine m_aload_n F rfl e_X7_readIndex_1 ?_
  refine t_getC F e_X7_readIndex_2 fl_X7_23 (fun _ => o3) h1 hk (rd6665) ?_
  refine t_getC F e_X7_readIndex_5 fl_X7_169 (fun _ => o7) h1 hbk (bb6678) ?_
  refine m_bipush F (v := 8) (by decide) e_X7_readIndex_8 ?_
  refine m_icmp_lt F e_X7_readIndex_10 (fun q10 => ?_) (fun q10 => ?_)
  · have c10 : nc < 8 := (nI_ltI (a := nc) (b := 8) (by omega) (by omega)).mp q10
    refine m_iconst F (v := 0) (by decide) e_X7_readIndex_17 ?_
    refine t_callV F e_X7_readIndex_18 (s_X7_startLineE (x_l X) V G b M Z T _ _ a 0 tp td n bk nx st tk vl py sd ln 0 (-1) t s9 v9 h1.1 hk rfl hp1 (by omega) (by omega) rfl ⟨rd6663, rd6664, rd6665, rd6666, rd6667, rd6668, rd6669, rd6670, rd6671, rd6672, rd6673, rd6674, rd6675⟩ (hB.keep (h1.2 tp (by rw [show kA _ tp = 2 from htp]; decide))) hn7 hsd htp htd hbk hgb (by omega)) cb_X7_startLine ml_X7_124 im_X7_startLine se_X7_startLine (fun _ => o3) h1 hk rfl rfl (rest := []) rfl (Nat.le_of_ble_eq_true rfl) ⟨Nat.le_of_ble_eq_true rfl, Nat.le_of_ble_eq_true rfl⟩ ⟨Nat.le_of_ble_eq_true rfl, Nat.le_of_ble_eq_true rfl⟩ (fun r σ6684 hp => ?_)
    obtain ⟨h6685, hp⟩ := hp
    have h6686 := HK.trans h1 h6685 (by decide)
    have bx6687 := hp5.hk hbk h6685 (by decide) (by decide) (by decide)
    have tq6688 := hp6.keep (h6685.2 td (by rw [show kA _ td = 4 from htd]; decide))
    obtain ⟨⟨tk6689, vl6690, ct6691, rd6692, rd6693, rd6694, rd6695, rd6696, rd6697, rd6698, rd6699, rd6700, rd6701, rd6702, rd6703, rd6704⟩, rfl⟩ := hp
    generalize ek6705 : tok t n nx = k6705 at ct6691 rd6696 rd6697
    have bk6705 := tok_ok (t := t) (n := n) nx (by omega)
    rw [ek6705] at bk6705
    refine m_aload_n F rfl e_X7_readIndex_21 ?_
    refine m_aload_n F rfl e_X7_readIndex_22 ?_
    refine t_getC F e_X7_readIndex_23 fl_X7_23 (fun _ => o3) h6686 hk (rd6694) ?_
    refine t_callV F e_X7_readIndex_26 (s_X2_lastToldE (x_l X) V G b M Z T _ _ bk nl nm nc lc no h6686.1 hbk bx6687 (by omega)) cb_X2_lastTold ml_X7_172 im_X2_lastTold se_X2_lastTold (fun _ => o7) h6686 hbk rfl rfl (rest := [.ref a]) rfl (Nat.le_of_ble_eq_true rfl) ⟨Nat.le_of_ble_eq_true rfl, Nat.le_of_ble_eq_true rfl⟩ ⟨Nat.le_of_ble_eq_true rfl, Nat.le_of_ble_eq_true rfl⟩ (fun r σ6706 hp => ?_)
    obtain ⟨h6707, x6709, rfl, exx6709⟩ := hp
    have h6708 := HK.trans h6686 h6707 (by decide)
    have bx6710 := bx6687.hk hbk h6707 (by decide) (by decide) (by decide)
    have tq6711 := tq6688.keep (h6707.2 td (by rw [show kA _ td = 4 from htd]; decide))
    refine m_iconst F (v := 1) (by decide) e_X7_readIndex_29 ?_
    refine m_iadd F e_X7_readIndex_30 ?_
    refine Wm.topE (w := nI lc) exx6709 ?_
    refine m_bipush F (v := 99) (by decide) e_X7_readIndex_31 ?_
    refine t_callV F e_X7_readIndex_33 (s_X7_readNumberE (x_l X) V G b M Z T _ _ a lc 99 tp td n bk k6705.2.2.2 k6705.1 tk6689 vl6690 py sd ln 0 (-1) t k6705.2.1 k6705.2.2.1 h6708.1 hk (by omega) (by omega) rfl ct6691 (by omega) (by omega) ⟨(fld_eq (h6707.2 a (by rw [show kA _ a = 3 from hk]; decide))).trans rd6692, (fld_eq (h6707.2 a (by rw [show kA _ a = 3 from hk]; decide))).trans rd6693, (fld_eq (h6707.2 a (by rw [show kA _ a = 3 from hk]; decide))).trans rd6694, (fld_eq (h6707.2 a (by rw [show kA _ a = 3 from hk]; decide))).trans rd6695, (fld_eq (h6707.2 a (by rw [show kA _ a = 3 from hk]; decide))).trans rd6696, (fld_eq (h6707.2 a (by rw [show kA _ a = 3 from hk]; decide))).trans rd6697, (fld_eq (h6707.2 a (by rw [show kA _ a = 3 from hk]; decide))).trans rd6698, (fld_eq (h6707.2 a (by rw [show kA _ a = 3 from hk]; decide))).trans rd6699, (fld_eq (h6707.2 a (by rw [show kA _ a = 3 from hk]; decide))).trans rd6700, (fld_eq (h6707.2 a (by rw [show kA _ a = 3 from hk]; decide))).trans rd6701, (fld_eq (h6707.2 a (by rw [show kA _ a = 3 from hk]; decide))).trans rd6702, (fld_eq (h6707.2 a (by rw [show kA _ a = 3 from hk]; decide))).trans rd6703, (fld_eq (h6707.2 a (by rw [show kA _ a = 3 from hk]; decide))).trans rd6704⟩ (hB.keep (h6708.2 tp (by rw [show kA _ tp = 2 from htp]; decide))) hn7 hsd htp htd hbk hgb (by omega)) cb_X7_readNumber ml_X7_130 im_X7_readNumber se_X7_readNumber (fun _ => o3) h6708 hk rfl rfl (rest := []) rfl (Nat.le_of_ble_eq_true rfl) ⟨Nat.le_of_ble_eq_true rfl, Nat.le_of_ble_eq_true rfl⟩ ⟨Nat.le_of_ble_eq_true rfl, Nat.le_of_ble_eq_true rfl⟩ (fun r σ6712 hp => ?_)
    obtain ⟨h6713, hp⟩ := hp
    have h6714 := HK.trans h6708 h6713 (by decide)
    have bx6715 := bx6710.hk hbk h6713 (by decide) (by decide) (by decide)
    have tq6716 := tq6711.keep (h6713.2 td (by rw [show kA _ td = 4 from htd]; decide))
    rcases hp with ⟨e6717, l6719, l6720, ⟨tk6721, vl6722, ct6723, rd6724, rd6725, rd6726, rd6727, rd6728, rd6729, rd6730, rd6731, rd6732, rd6733, rd6734, rd6735, rd6736⟩, rfl⟩ | ⟨e6717, ⟨rd6724, rd6725, rd6726, rd6727, rd6728, rd6729, rd6730, rd6731, rd6732, rd6733, rd6734, rd6735, rd6736⟩, rfl⟩ | ⟨e6717, e6718, ⟨rd6724, rd6725, rd6726, rd6727, rd6728, rd6729, rd6730, rd6731, rd6732, rd6733, rd6734, rd6735, rd6736⟩, rfl⟩
    · generalize ek6737 : tok t n k6705.2.2.2 = k6737 at ct6723 rd6728 rd6729
      have bk6737 := tok_ok (t := t) (n := n) k6705.2.2.2 (by omega)
      rw [ek6737] at bk6737
      refine m_istore_n F (lv' := [(1, .int (nI k6705.2.2.1)), (0, .ref a)]) e_X7_readIndex_36 (by decide) rfl ?_
      refine m_aload_n F rfl e_X7_readIndex_37 ?_
      refine m_sipush F (v := 500) (by decide) e_X7_readIndex_38 ?_
      refine m_sipush F (v := 2000) (by decide) e_X7_readIndex_41 ?_
      refine t_callV F e_X7_readIndex_44 (s_X7_readNumberE (x_l X) V G b M Z T _ _ a 500 2000 tp td n bk k6737.2.2.2 k6737.1 tk6721 vl6722 py sd ln 0 (-1) t k6737.2.1 k6737.2.2.1 h6714.1 hk (by omega) (by omega) rfl ct6723 (by omega) (by omega) ⟨rd6724, rd6725, rd6726, rd6727, rd6728, rd6729, rd6730, rd6731, rd6732, rd6733, rd6734, rd6735, rd6736⟩ (hB.keep (h6714.2 tp (by rw [show kA _ tp = 2 from htp]; decide))) hn7 hsd htp htd hbk hgb (by omega)) cb_X7_readNumber ml_X7_130 im_X7_readNumber se_X7_readNumber (fun _ => o3) h6714 hk rfl rfl (rest := []) rfl (Nat.le_of_ble_eq_true rfl) ⟨Nat.le_of_ble_eq_true rfl, Nat.le_of_ble_eq_true rfl⟩ ⟨Nat.le_of_ble_eq_true rfl, Nat.le_of_ble_eq_true rfl⟩ (fun r σ6738 hp => ?_)
      obtain ⟨h6739, hp⟩ := hp
      have h6740 := HK.trans h6714 h6739 (by decide)
      have bx6741 := bx6715.hk hbk h6739 (by decide) (by decide) (by decide)
      have tq6742 := tq6716.keep (h6739.2 td (by rw [show kA _ td = 4 from htd]; decide))
      rcases hp with ⟨e6743, l6745, l6746, ⟨tk6747, vl6748, ct6749, rd6750, rd6751, rd6752, rd6753, rd6754, rd6755, rd6756, rd6757, rd6758, rd6759, rd6760, rd6761, rd6762⟩, rfl⟩ | ⟨e6743, ⟨rd6750, rd6751, rd6752, rd6753, rd6754, rd6755, rd6756, rd6757, rd6758, rd6759, rd6760, rd6761, rd6762⟩, rfl⟩ | ⟨e6743, e6744, ⟨rd6750, rd6751, rd6752, rd6753, rd6754, rd6755, rd6756, rd6757, rd6758, rd6759, rd6760, rd6761, rd6762⟩, rfl⟩
      · generalize ek6763 : tok t n k6737.2.2.2 = k6763 at ct6749 rd6754 rd6755
        have bk6763 := tok_ok (t := t) (n := n) k6737.2.2.2 (by omega)
        rw [ek6763] at bk6763
        refine m_istore_n F (lv' := [(2, .int (nI k6737.2.2.1)), (1, .int (nI k6705.2.2.1)), (0, .ref a)]) e_X7_readIndex_47 (by decide) rfl ?_
        refine m_aload_n F rfl e_X7_readIndex_48 ?_
        refine t_getC F e_X7_readIndex_49 fl_X7_55 (fun _ => o3) h6740 hk (rd6761) ?_
        refine m_if_ne F e_X7_readIndex_52 (fun q => absurd (by decide) q) (fun _ => ?_)
        refine m_aload_n F rfl e_X7_readIndex_55 ?_
        refine t_getC F e_X7_readIndex_56 fl_X7_23 (fun _ => o3) h6740 hk (rd6752) ?_
        refine m_iload_n F rfl e_X7_readIndex_59 ?_
        refine m_iload_n F rfl e_X7_readIndex_60 ?_
        refine t_callV F e_X7_readIndex_61 (s_X2_addIndexE (x_l X) V G b M Z T _ _ bk k6705.2.2.1 (nI k6737.2.2.1) nl nm nc lc no h6740.1 hbk (by omega) (by omega) bx6741 (by omega)) cb_X2_addIndex ml_X7_175 im_X2_addIndex se_X2_addIndex (fun _ => o7) h6740 hbk rfl rfl (rest := []) rfl (Nat.le_of_ble_eq_true rfl) ⟨Nat.le_of_ble_eq_true rfl, Nat.le_of_ble_eq_true rfl⟩ ⟨Nat.le_of_ble_eq_true rfl, Nat.le_of_ble_eq_true rfl⟩ (fun r σ6764 hp => ?_)
        obtain ⟨h6765, bx6767, rfl⟩ := hp
        have h6766 := HK.trans h6740 h6765 (by decide)
        have tq6768 := tq6742.keep (h6765.2 td (by rw [show kA _ td = 4 from htd]; decide))
        exact m_vret F hQ e_X7_readIndex_64 (⟨h6766, (by unfold indexS; dsimp only; rw [if_neg (by omega), ek6705, numK_ok e6717 l6719 l6720, ek6737, numK_ok e6743 l6745 l6746, ek6763]; exact RES.r ct6749 ⟨(fld_eq (h6765.2 a (by rw [show kA _ a = 3 from hk]; decide))).trans rd6750, (fld_eq (h6765.2 a (by rw [show kA _ a = 3 from hk]; decide))).trans rd6751, (fld_eq (h6765.2 a (by rw [show kA _ a = 3 from hk]; decide))).trans rd6752, (fld_eq (h6765.2 a (by rw [show kA _ a = 3 from hk]; decide))).trans rd6753, (fld_eq (h6765.2 a (by rw [show kA _ a = 3 from hk]; decide))).trans rd6754, (fld_eq (h6765.2 a (by rw [show kA _ a = 3 from hk]; decide))).trans rd6755, (fld_eq (h6765.2 a (by rw [show kA _ a = 3 from hk]; decide))).trans rd6756, (fld_eq (h6765.2 a (by rw [show kA _ a = 3 from hk]; decide))).trans rd6757, (fld_eq (h6765.2 a (by rw [show kA _ a = 3 from hk]; decide))).trans rd6758, (fld_eq (h6765.2 a (by rw [show kA _ a = 3 from hk]; decide))).trans rd6759, (fld_eq (h6765.2 a (by rw [show kA _ a = 3 from hk]; decide))).trans rd6760, (fld_eq (h6765.2 a (by rw [show kA _ a = 3 from hk]; decide))).trans rd6761, (fld_eq (h6765.2 a (by rw [show kA _ a = 3 from hk]; decide))).trans rd6762⟩ bx6767 tq6768 (by omega) (by omega) (by omega) (by omega)), rfl⟩)
      · have hz9 : True := trivial
        refine m_istore_n F (lv' := [(2, .int 0), (1, .int (nI k6705.2.2.1)), (0, .ref a)]) e_X7_readIndex_47 (by decide) rfl ?_
        refine m_aload_n F rfl e_X7_readIndex_48 ?_
        refine t_getC F e_X7_readIndex_49 fl_X7_55 (fun _ => o3) h6740 hk (rd6761) ?_
        refine m_if_ne F e_X7_readIndex_52 (fun _ => ?_) (fun q => absurd q (by decide))
        exact m_vret F hQ e_X7_readIndex_64 (⟨h6740, (by unfold indexS; dsimp only; rw [if_neg (by omega), ek6705, numK_ok e6717 l6719 l6720, ek6737, numK_1 e6743]; exact RES.l (rd6761) (rd6762) (by decide) (by decide) (by omega)), rfl⟩)
      · have hz9 : True := trivial
        refine m_istore_n F (lv' := [(2, .int 0), (1, .int (nI k6705.2.2.1)), (0, .ref a)]) e_X7_readIndex_47 (by decide) rfl ?_
        refine m_aload_n F rfl e_X7_readIndex_48 ?_
        refine t_getC F e_X7_readIndex_49 fl_X7_55 (fun _ => o3) h6740 hk (rd6761) ?_
        refine m_if_ne F e_X7_readIndex_52 (fun _ => ?_) (fun q => absurd q (by decide))
        exact m_vret F hQ e_X7_readIndex_64 (⟨h6740, (by unfold indexS; dsimp only; rw [if_neg (by omega), ek6705, numK_ok e6717 l6719 l6720, ek6737, numK_2 e6743 e6744]; exact RES.l (rd6761) (rd6762) (by decide) (by decide) (by omega)), rfl⟩)
    · have hz9 : True := trivial
      refine m_istore_n F (lv' := [(1, .int 0), (0, .ref a)]) e_X7_readIndex_36 (by decide) rfl ?_
      refine m_aload_n F rfl e_X7_readIndex_37 ?_
      refine m_sipush F (v := 500) (by decide) e_X7_readIndex_38 ?_
      refine m_sipush F (v := 2000) (by decide) e_X7_readIndex_41 ?_
      refine t_callV F e_X7_readIndex_44 (s_X7_readNumberG (x_l X) V G b M Z T _ _ a 500 2000 1 (nI k6705.1) h6714.1 hk  (rd6735) (rd6736) (by decide) (by omega)) cb_X7_readNumber ml_X7_130 im_X7_readNumber se_X7_readNumber (fun _ => o3) h6714 hk rfl rfl (rest := []) rfl (Nat.le_of_ble_eq_true rfl) ⟨Nat.le_of_ble_eq_true rfl, Nat.le_of_ble_eq_true rfl⟩ ⟨Nat.le_of_ble_eq_true rfl, Nat.le_of_ble_eq_true rfl⟩ (fun r σ6769 hp => ?_)
      obtain ⟨h6770, rd6772, rd6773, rfl⟩ := hp
      have h6771 := HK.trans h6714 h6770 (by decide)
      refine m_istore_n F (lv' := [(2, .int 0), (1, .int 0), (0, .ref a)]) e_X7_readIndex_47 (by decide) rfl ?_
      refine m_aload_n F rfl e_X7_readIndex_48 ?_
      refine t_getC F e_X7_readIndex_49 fl_X7_55 (fun _ => o3) h6771 hk (rd6772) ?_
      refine m_if_ne F e_X7_readIndex_52 (fun _ => ?_) (fun q => absurd q (by decide))
      exact m_vret F hQ e_X7_readIndex_64 (⟨h6771, (by unfold indexS; dsimp only; rw [if_neg (by omega), ek6705, numK_1 e6717]; exact RES.l (rd6772) (rd6773) (by decide) (by decide) (by omega)), rfl⟩)
    · have hz9 : True := trivial
      refine m_istore_n F (lv' := [(1, .int 0), (0, .ref a)]) e_X7_readIndex_36 (by decide) rfl ?_
      refine m_aload_n F rfl e_X7_readIndex_37 ?_
      refine m_sipush F (v := 500) (by decide) e_X7_readIndex_38 ?_
      refine m_sipush F (v := 2000) (by decide) e_X7_readIndex_41 ?_
      refine t_callV F e_X7_readIndex_44 (s_X7_readNumberG (x_l X) V G b M Z T _ _ a 500 2000 2 (nI k6705.1) h6714.1 hk  (rd6735) (rd6736) (by decide) (by omega)) cb_X7_readNumber ml_X7_130 im_X7_readNumber se_X7_readNumber (fun _ => o3) h6714 hk rfl rfl (rest := []) rfl (Nat.le_of_ble_eq_true rfl) ⟨Nat.le_of_ble_eq_true rfl, Nat.le_of_ble_eq_true rfl⟩ ⟨Nat.le_of_ble_eq_true rfl, Nat.le_of_ble_eq_true rfl⟩ (fun r σ6775 hp => ?_)
      obtain ⟨h6776, rd6778, rd6779, rfl⟩ := hp
      have h6777 := HK.trans h6714 h6776 (by decide)
      refine m_istore_n F (lv' := [(2, .int 0), (1, .int 0), (0, .ref a)]) e_X7_readIndex_47 (by decide) rfl ?_
      refine m_aload_n F rfl e_X7_readIndex_48 ?_
      refine t_getC F e_X7_readIndex_49 fl_X7_55 (fun _ => o3) h6777 hk (rd6778) ?_
      refine m_if_ne F e_X7_readIndex_52 (fun _ => ?_) (fun q => absurd q (by decide))
      exact m_vret F hQ e_X7_readIndex_64 (⟨h6777, (by unfold indexS; dsimp only; rw [if_neg (by omega), ek6705, numK_2 e6717 e6718]; exact RES.l (rd6778) (rd6779) (by decide) (by decide) (by omega)), rfl⟩)
  · have c10 : nc ≥ 8 := by have hh := mt (nI_ltI (a := nc) (b := 8) (by omega) (by omega)).mpr q10; omega
    refine m_iconst F (v := 2) (by decide) e_X7_readIndex_13 ?_
    refine m_goto F e_X7_readIndex_14 ?_
    refine t_callV F e_X7_readIndex_18 (s_X7_startLineR (x_l X) V G b M Z T _ _ a 2 tp td n bk nx st tk vl py sd ln 0 (-1) t  h1.1 hk (by omega) rfl (by decide) ⟨rd6663, rd6664, rd6665, rd6666, rd6667, rd6668, rd6669, rd6670, rd6671, rd6672, rd6673, rd6674, rd6675⟩ (hB.keep (h1.2 tp (by rw [show kA _ tp = 2 from htp]; decide))) hn7 hsd htp htd hbk hgb (by omega)) cb_X7_startLine ml_X7_124 im_X7_startLine se_X7_startLine (fun _ => o3) h1 hk rfl rfl (rest := []) rfl (Nat.le_of_ble_eq_true rfl) ⟨Nat.le_of_ble_eq_true rfl, Nat.le_of_ble_eq_true rfl⟩ ⟨Nat.le_of_ble_eq_true rfl, Nat.le_of_ble_eq_true rfl⟩ (fun r σ6781 hp => ?_)
    obtain ⟨h6782, hp⟩ := hp
    have h6783 := HK.trans h1 h6782 (by decide)
    have bx6784 := hp5.hk hbk h6782 (by decide) (by decide) (by decide)
    have tq6785 := hp6.keep (h6782.2 td (by rw [show kA _ td = 4 from htd]; decide))
    obtain ⟨⟨rd6786, rd6787⟩, rfl⟩ := hp
    refine m_aload_n F rfl e_X7_readIndex_21 ?_
    refine m_aload_n F rfl e_X7_readIndex_22 ?_
    refine t_get F e_X7_readIndex_23 fl_X7_23 (fun _ => o3) h6783 hk rfl (fun v hv f6788 => ?_)
    obtain ⟨r6789, k6790, rfl⟩ := hv
    refine t_callV F e_X7_readIndex_26 (s_X2_lastTold (x_l X) V G b M Z T _ _ r6789  h6783.1 k6790  (by omega)) cb_X2_lastTold ml_X7_172 im_X2_lastTold se_X2_lastTold (fun _ => o7) h6783 k6790 rfl rfl (rest := [.ref a]) rfl (Nat.le_of_ble_eq_true rfl) ⟨Nat.le_of_ble_eq_true rfl, Nat.le_of_ble_eq_true rfl⟩ ⟨Nat.le_of_ble_eq_true rfl, Nat.le_of_ble_eq_true rfl⟩ (fun r σ6791 hp => ?_)
    obtain ⟨h6793, x6794, rfl⟩ := hp
    have h6792 := HK.trans h6783 h6793 (by decide)
    refine m_iconst F (v := 1) (by decide) e_X7_readIndex_29 ?_
    refine m_iadd F e_X7_readIndex_30 ?_
    refine Wm.top (fun x6795 _ => ?_)
    refine m_bipush F (v := 99) (by decide) e_X7_readIndex_31 ?_
    refine t_callV F e_X7_readIndex_33 (s_X7_readNumberG (x_l X) V G b M Z T _ _ a x6795 99 2 (nI st) h6792.1 hk  ((fld_eq (h6793.2 a (by rw [show kA _ a = 3 from hk]; decide))).trans rd6786) ((fld_eq (h6793.2 a (by rw [show kA _ a = 3 from hk]; decide))).trans rd6787) (by decide) (by omega)) cb_X7_readNumber ml_X7_130 im_X7_readNumber se_X7_readNumber (fun _ => o3) h6792 hk rfl rfl (rest := []) rfl (Nat.le_of_ble_eq_true rfl) ⟨Nat.le_of_ble_eq_true rfl, Nat.le_of_ble_eq_true rfl⟩ ⟨Nat.le_of_ble_eq_true rfl, Nat.le_of_ble_eq_true rfl⟩ (fun r σ6796 hp => ?_)
    obtain ⟨h6797, rd6799, rd6800, rfl⟩ := hp
    have h6798 := HK.trans h6792 h6797 (by decide)
    refine m_istore_n F (lv' := [(1, .int 0), (0, .ref a)]) e_X7_readIndex_36 (by decide) rfl ?_
    refine m_aload_n F rfl e_X7_readIndex_37 ?_
    refine m_sipush F (v := 500) (by decide) e_X7_readIndex_38 ?_
    refine m_sipush F (v := 2000) (by decide) e_X7_readIndex_41 ?_
    refine t_callV F e_X7_readIndex_44 (s_X7_readNumberG (x_l X) V G b M Z T _ _ a 500 2000 2 (nI st) h6798.1 hk  (rd6799) (rd6800) (by decide) (by omega)) cb_X7_readNumber ml_X7_130 im_X7_readNumber se_X7_readNumber (fun _ => o3) h6798 hk rfl rfl (rest := []) rfl (Nat.le_of_ble_eq_true rfl) ⟨Nat.le_of_ble_eq_true rfl, Nat.le_of_ble_eq_true rfl⟩ ⟨Nat.le_of_ble_eq_true rfl, Nat.le_of_ble_eq_true rfl⟩ (fun r σ6802 hp => ?_)
    obtain ⟨h6803, rd6805, rd6806, rfl⟩ := hp
    have h6804 := HK.trans h6798 h6803 (by decide)
    refine m_istore_n F (lv' := [(2, .int 0), (1, .int 0), (0, .ref a)]) e_X7_readIndex_47 (by decide) rfl ?_
    refine m_aload_n F rfl e_X7_readIndex_48 ?_
    refine t_getC F e_X7_readIndex_49 fl_X7_55 (fun _ => o3) h6804 hk (rd6805) ?_
    refine m_if_ne F e_X7_readIndex_52 (fun _ => ?_) (fun q => absurd q (by decide))
    exact m_vret F hQ e_X7_readIndex_64 (⟨h6804, (by unfold indexS; dsimp only; rw [if_pos (by omega)]; exact RES.l (rd6805) (rd6806) (by decide) (by decide) (by omega)), rfl⟩)
set_option maxRecDepth 20000 in
theorem s_X7_readOptionE (l : Launch) (V : VX) (G : GH) (b M Z T N : Nat) (σ : Mem) (a : Nat) (tp : Nat) (td : Nat) (n : Nat) (bk : Nat) (nx : Nat) (st : Nat) (tk : Int32) (vl : Int32) (py : Nat) (sd : Nat) (ln : Nat) (ft : Int32) (pl : Int32) (t : Nat → Nat) (s9 : Nat) (v9 : Nat) (nl : Nat) (nm : Nat → Nat) (nc : Nat) (lc : Nat) (no : Nat) (md : Nat → Nat → Bool) (h0 : HT V G (b, M, Z, T) σ) (hk : kA b a = 3) (hp0 : ft = 0) (hp1 : CT tk vl s9 v9) (hp2 : nx ≤ n) (hp3 : st ≤ n) (hp4 : pl = -1) (hp5 : BX σ bk nl nm nc lc no) (hp6 : TD V σ td nl md) (hp7 : py ≤ 12) (hR : RD σ a tp td n bk nx st tk vl py sd ln ft pl) (hB : BY V σ tp n t) (hn7 : n ≤ 700) (hsd : sd ≤ 1) (htp : kA b tp = 2) (htd : kA b td = 4) (hbk : kA b bk = 7) (hgb : ¬ G.gd (blk (bk - b)) = 1) (hM : M + 0 ≤ 1000000000) : Ct l V yX7_readOption cX7_readOption 4 none 4 0 0 N σ [.ref a] (fun r τ => HK V G (b, M, Z, T) [0, 1, 2, 4, 5, 6, 8, 9, 10, 11, 12, 13, 14, 15, 16, 17, 18] σ τ ∧ RES V τ a tp td n bk (optionS (tok t n) (st, s9, v9, nx) nl nm py nc lc no sd md ln) ∧ r = none) := by
  refine Ct.of (by decide) (Nat.le_of_ble_eq_true rfl) [(0, .ref a)] rfl (fun X hX F hQ => ?_)
  have h1 : HK V G (b, M, Z, T) [0, 1, 2, 4, 5, 6, 8, 9, 10, 11, 12, 13, 14, 15, 16, 17, 18] σ σ := HK.start h0
  have hrd6808 := hR
  obtain ⟨rd6808, rd6809, rd6810, rd6811, rd6812, rd6813, rd6814, rd6815, rd6816, rd6817, rd6818, rd6819, rd6820⟩ := hrd6808
  subst hp0
  subst hp4
  have hbb6821 := hp5
  obtain ⟨bb6821, bb6822, bb6823, bb6824, bb6825, bb6826, bb6827, bb6828⟩ := hbb6821
  have hl4 := hp5.2.2.2.2.2.1
  refine m_aload_n F rfl e_X7_readOption_0 ?_
  refine m_aload_n F rfl e_X7_readOption_1 ?_
  refine t_getC F e_X7_readOption_2 fl_X7_23 (fun _ => o3) h1 hk (rd6810) ?_
  refine t_getC F e_X7_readOption_5 fl_X7_179 (fun _ => o7) h1 hbk (bb6822) ?_
  refine m_iconst F (v := 4) (by decide) e_X7_readOption_8 ?_
  refine m_icmp_lt F e_X7_readOption_9 (fun q9 => ?_) (fun q9 => ?_)
  · have c9 : no < 4 := (nI_ltI (a := no) (b := 4) (by omega) (by omega)).mp q9
    refine m_iconst F (v := 0) (by decide) e_X7_readOption_16 ?_
    refine t_callV F e_X7_readOption_17 (s_X7_startLineE (x_l X) V G b M Z T _ _ a 0 tp td n bk nx st tk vl py sd ln 0 (-1) t s9 v9 h1.1 hk rfl hp1 (by omega) (by omega) rfl ⟨rd6808, rd6809, rd6810, rd6811, rd6812, rd6813, rd6814, rd6815, rd6816, rd6817, rd6818, rd6819, rd6820⟩ (hB.keep (h1.2 tp (by rw [show kA _ tp = 2 from htp]; decide))) hn7 hsd htp htd hbk hgb (by omega)) cb_X7_startLine ml_X7_124 im_X7_startLine se_X7_startLine (fun _ => o3) h1 hk rfl rfl (rest := []) rfl (Nat.le_of_ble_eq_true rfl) ⟨Nat.le_of_ble_eq_true rfl, Nat.le_of_ble_eq_true rfl⟩ ⟨Nat.le_of_ble_eq_true rfl, Nat.le_of_ble_eq_true rfl⟩ (fun r σ6829 hp => ?_)
    obtain ⟨h6830, hp⟩ := hp
    have h6831 := HK.trans h1 h6830 (by decide)
    have bx6832 := hp5.hk hbk h6830 (by decide) (by decide) (by decide)
    have tq6833 := hp6.keep (h6830.2 td (by rw [show kA _ td = 4 from htd]; decide))
    obtain ⟨⟨tk6834, vl6835, ct6836, rd6837, rd6838, rd6839, rd6840, rd6841, rd6842, rd6843, rd6844, rd6845, rd6846, rd6847, rd6848, rd6849⟩, rfl⟩ := hp
    generalize ek6850 : tok t n nx = k6850 at ct6836 rd6841 rd6842
    have bk6850 := tok_ok (t := t) (n := n) nx (by omega)
    rw [ek6850] at bk6850
    refine m_aload_n F rfl e_X7_readOption_20 ?_
    refine t_callV F e_X7_readOption_21 (s_X7_readToldNameE (x_l X) V G b M Z T _ _ a  tp td n bk k6850.2.2.2 k6850.1 tk6834 vl6835 py sd ln 0 (-1) t k6850.2.1 k6850.2.2.1 nl nm nc lc no  h6831.1 hk rfl ct6836 (by omega) (by omega) bx6832 ⟨rd6837, rd6838, rd6839, rd6840, rd6841, rd6842, rd6843, rd6844, rd6845, rd6846, rd6847, rd6848, rd6849⟩ (hB.keep (h6831.2 tp (by rw [show kA _ tp = 2 from htp]; decide))) hn7 hsd htp htd hbk hgb (by omega)) cb_X7_readToldName ml_X7_138 im_X7_readToldName se_X7_readToldName (fun _ => o3) h6831 hk rfl rfl (rest := []) rfl (Nat.le_of_ble_eq_true rfl) ⟨Nat.le_of_ble_eq_true rfl, Nat.le_of_ble_eq_true rfl⟩ ⟨Nat.le_of_ble_eq_true rfl, Nat.le_of_ble_eq_true rfl⟩ (fun r σ6851 hp => ?_)
    obtain ⟨h6852, hp⟩ := hp
    have h6853 := HK.trans h6831 h6852 (by decide)
    have bx6854 := bx6832.hk hbk h6852 (by decide) (by decide) (by decide)
    have tq6855 := tq6833.keep (h6852.2 td (by rw [show kA _ td = 4 from htd]; decide))
    rcases hp with ⟨e6856, e6857, ⟨tk6859, vl6860, ct6861, rd6866, rd6867, rd6868, rd6869, rd6870, rd6871, rd6872, rd6873, rd6874, rd6875, rd6876, rd6877, rd6878⟩, rfl⟩ | ⟨e6856, ⟨rd6862, rd6863⟩, x6864, rfl⟩ | ⟨e6856, e6857, ⟨rd6862, rd6863⟩, x6864, rfl⟩
    · have hv9 := ct6836.w e6856
      generalize ek6879 : tok t n k6850.2.2.2 = k6879 at ct6861 rd6870 rd6871
      have bk6879 := tok_ok (t := t) (n := n) k6850.2.2.2 (by omega)
      rw [ek6879] at bk6879
      refine m_istore_n F (lv' := [(1, .int (nI (fx nm k6850.2.2.1 nl))), (0, .ref a)]) e_X7_readOption_24 (by decide) rfl ?_
      refine m_aload_n F rfl e_X7_readOption_25 ?_
      refine m_iconst F (v := 1) (by decide) e_X7_readOption_26 ?_
      refine m_bipush F (v := 24) (by decide) e_X7_readOption_27 ?_
      refine t_callV F e_X7_readOption_29 (s_X7_readNumberE (x_l X) V G b M Z T _ _ a 1 24 tp td n bk k6879.2.2.2 k6879.1 tk6859 vl6860 py sd ln 0 (-1) t k6879.2.1 k6879.2.2.1 h6853.1 hk (by omega) (by omega) rfl ct6861 (by omega) (by omega) ⟨rd6866, rd6867, rd6868, rd6869, rd6870, rd6871, rd6872, rd6873, rd6874, rd6875, rd6876, rd6877, rd6878⟩ (hB.keep (h6853.2 tp (by rw [show kA _ tp = 2 from htp]; decide))) hn7 hsd htp htd hbk hgb (by omega)) cb_X7_readNumber ml_X7_130 im_X7_readNumber se_X7_readNumber (fun _ => o3) h6853 hk rfl rfl (rest := []) rfl (Nat.le_of_ble_eq_true rfl) ⟨Nat.le_of_ble_eq_true rfl, Nat.le_of_ble_eq_true rfl⟩ ⟨Nat.le_of_ble_eq_true rfl, Nat.le_of_ble_eq_true rfl⟩ (fun r σ6880 hp => ?_)
      obtain ⟨h6881, hp⟩ := hp
      have h6882 := HK.trans h6853 h6881 (by decide)
      have bx6883 := bx6854.hk hbk h6881 (by decide) (by decide) (by decide)
      have tq6884 := tq6855.keep (h6881.2 td (by rw [show kA _ td = 4 from htd]; decide))
      rcases hp with ⟨e6885, l6887, l6888, ⟨tk6889, vl6890, ct6891, rd6892, rd6893, rd6894, rd6895, rd6896, rd6897, rd6898, rd6899, rd6900, rd6901, rd6902, rd6903, rd6904⟩, rfl⟩ | ⟨e6885, ⟨rd6892, rd6893, rd6894, rd6895, rd6896, rd6897, rd6898, rd6899, rd6900, rd6901, rd6902, rd6903, rd6904⟩, rfl⟩ | ⟨e6885, e6886, ⟨rd6892, rd6893, rd6894, rd6895, rd6896, rd6897, rd6898, rd6899, rd6900, rd6901, rd6902, rd6903, rd6904⟩, rfl⟩
      · generalize ek6905 : tok t n k6879.2.2.2 = k6905 at ct6891 rd6896 rd6897
        have bk6905 := tok_ok (t := t) (n := n) k6879.2.2.2 (by omega)
        rw [ek6905] at bk6905
        refine m_istore_n F (lv' := [(2, .int (nI k6879.2.2.1)), (1, .int (nI (fx nm k6850.2.2.1 nl))), (0, .ref a)]) e_X7_readOption_32 (by decide) rfl ?_
        refine m_aload_n F rfl e_X7_readOption_33 ?_
        refine m_iconst F (v := 0) (by decide) e_X7_readOption_34 ?_
        refine m_ldc F kc_X7_141 e_X7_readOption_35 ?_
        refine t_callV F e_X7_readOption_37 (s_X7_readNumberE (x_l X) V G b M Z T _ _ a 0 99999 tp td n bk k6905.2.2.2 k6905.1 tk6889 vl6890 py sd ln 0 (-1) t k6905.2.1 k6905.2.2.1 h6882.1 hk (by omega) (by omega) rfl ct6891 (by omega) (by omega) ⟨rd6892, rd6893, rd6894, rd6895, rd6896, rd6897, rd6898, rd6899, rd6900, rd6901, rd6902, rd6903, rd6904⟩ (hB.keep (h6882.2 tp (by rw [show kA _ tp = 2 from htp]; decide))) hn7 hsd htp htd hbk hgb (by omega)) cb_X7_readNumber ml_X7_130 im_X7_readNumber se_X7_readNumber (fun _ => o3) h6882 hk rfl rfl (rest := []) rfl (Nat.le_of_ble_eq_true rfl) ⟨Nat.le_of_ble_eq_true rfl, Nat.le_of_ble_eq_true rfl⟩ ⟨Nat.le_of_ble_eq_true rfl, Nat.le_of_ble_eq_true rfl⟩ (fun r σ6906 hp => ?_)
        obtain ⟨h6907, hp⟩ := hp
        have h6908 := HK.trans h6882 h6907 (by decide)
        have bx6909 := bx6883.hk hbk h6907 (by decide) (by decide) (by decide)
        have tq6910 := tq6884.keep (h6907.2 td (by rw [show kA _ td = 4 from htd]; decide))
        rcases hp with ⟨e6911, l6913, l6914, ⟨tk6915, vl6916, ct6917, rd6918, rd6919, rd6920, rd6921, rd6922, rd6923, rd6924, rd6925, rd6926, rd6927, rd6928, rd6929, rd6930⟩, rfl⟩ | ⟨e6911, ⟨rd6918, rd6919, rd6920, rd6921, rd6922, rd6923, rd6924, rd6925, rd6926, rd6927, rd6928, rd6929, rd6930⟩, rfl⟩ | ⟨e6911, e6912, ⟨rd6918, rd6919, rd6920, rd6921, rd6922, rd6923, rd6924, rd6925, rd6926, rd6927, rd6928, rd6929, rd6930⟩, rfl⟩
        · generalize ek6931 : tok t n k6905.2.2.2 = k6931 at ct6917 rd6922 rd6923
          have bk6931 := tok_ok (t := t) (n := n) k6905.2.2.2 (by omega)
          rw [ek6931] at bk6931
          refine m_istore_n F (lv' := [(3, .int (nI k6905.2.2.1)), (2, .int (nI k6879.2.2.1)), (1, .int (nI (fx nm k6850.2.2.1 nl))), (0, .ref a)]) e_X7_readOption_40 (by decide) rfl ?_
          refine m_aload_n F rfl e_X7_readOption_41 ?_
          refine t_getC F e_X7_readOption_42 fl_X7_55 (fun _ => o3) h6908 hk (rd6929) ?_
          refine m_if_ne F e_X7_readOption_45 (fun q => absurd (by decide) q) (fun _ => ?_)
          refine m_aload_n F rfl e_X7_readOption_48 ?_
          refine t_getC F e_X7_readOption_49 fl_X7_23 (fun _ => o3) h6908 hk (rd6920) ?_
          refine m_iload_n F rfl e_X7_readOption_52 ?_
          refine m_iload_n F rfl e_X7_readOption_53 ?_
          refine m_iload_n F rfl e_X7_readOption_54 ?_
          refine t_callV F e_X7_readOption_55 (s_X2_addOptionE (x_l X) V G b M Z T _ _ bk (fx nm k6850.2.2.1 nl) k6879.2.2.1 (nI k6905.2.2.1) nl nm nc lc no h6908.1 hbk (by omega) (by omega) (by omega) bx6909 (by omega)) cb_X2_addOption ml_X7_182 im_X2_addOption se_X2_addOption (fun _ => o7) h6908 hbk rfl rfl (rest := []) rfl (Nat.le_of_ble_eq_true rfl) ⟨Nat.le_of_ble_eq_true rfl, Nat.le_of_ble_eq_true rfl⟩ ⟨Nat.le_of_ble_eq_true rfl, Nat.le_of_ble_eq_true rfl⟩ (fun r σ6932 hp => ?_)
          obtain ⟨h6933, bx6935, rfl⟩ := hp
          have h6934 := HK.trans h6908 h6933 (by decide)
          have tq6936 := tq6910.keep (h6933.2 td (by rw [show kA _ td = 4 from htd]; decide))
          exact m_vret F hQ e_X7_readOption_58 (⟨h6934, (by unfold optionS; dsimp only; rw [if_neg (by omega), ek6850, tolK_ok e6856 e6857, ek6879, numK_ok e6885 l6887 l6888, ek6905, numK_ok e6911 l6913 l6914, ek6931]; exact RES.r ct6917 ⟨(fld_eq (h6933.2 a (by rw [show kA _ a = 3 from hk]; decide))).trans rd6918, (fld_eq (h6933.2 a (by rw [show kA _ a = 3 from hk]; decide))).trans rd6919, (fld_eq (h6933.2 a (by rw [show kA _ a = 3 from hk]; decide))).trans rd6920, (fld_eq (h6933.2 a (by rw [show kA _ a = 3 from hk]; decide))).trans rd6921, (fld_eq (h6933.2 a (by rw [show kA _ a = 3 from hk]; decide))).trans rd6922, (fld_eq (h6933.2 a (by rw [show kA _ a = 3 from hk]; decide))).trans rd6923, (fld_eq (h6933.2 a (by rw [show kA _ a = 3 from hk]; decide))).trans rd6924, (fld_eq (h6933.2 a (by rw [show kA _ a = 3 from hk]; decide))).trans rd6925, (fld_eq (h6933.2 a (by rw [show kA _ a = 3 from hk]; decide))).trans rd6926, (fld_eq (h6933.2 a (by rw [show kA _ a = 3 from hk]; decide))).trans rd6927, (fld_eq (h6933.2 a (by rw [show kA _ a = 3 from hk]; decide))).trans rd6928, (fld_eq (h6933.2 a (by rw [show kA _ a = 3 from hk]; decide))).trans rd6929, (fld_eq (h6933.2 a (by rw [show kA _ a = 3 from hk]; decide))).trans rd6930⟩ bx6935 tq6936 (by omega) (by omega) (by omega) (by omega)), rfl⟩)
        · have hz9 : True := trivial
          refine m_istore_n F (lv' := [(3, .int 0), (2, .int (nI k6879.2.2.1)), (1, .int (nI (fx nm k6850.2.2.1 nl))), (0, .ref a)]) e_X7_readOption_40 (by decide) rfl ?_
          refine m_aload_n F rfl e_X7_readOption_41 ?_
          refine t_getC F e_X7_readOption_42 fl_X7_55 (fun _ => o3) h6908 hk (rd6929) ?_
          refine m_if_ne F e_X7_readOption_45 (fun _ => ?_) (fun q => absurd q (by decide))
          exact m_vret F hQ e_X7_readOption_58 (⟨h6908, (by unfold optionS; dsimp only; rw [if_neg (by omega), ek6850, tolK_ok e6856 e6857, ek6879, numK_ok e6885 l6887 l6888, ek6905, numK_1 e6911]; exact RES.l (rd6929) (rd6930) (by decide) (by decide) (by omega)), rfl⟩)
        · have hz9 : True := trivial
          refine m_istore_n F (lv' := [(3, .int 0), (2, .int (nI k6879.2.2.1)), (1, .int (nI (fx nm k6850.2.2.1 nl))), (0, .ref a)]) e_X7_readOption_40 (by decide) rfl ?_
          refine m_aload_n F rfl e_X7_readOption_41 ?_
          refine t_getC F e_X7_readOption_42 fl_X7_55 (fun _ => o3) h6908 hk (rd6929) ?_
          refine m_if_ne F e_X7_readOption_45 (fun _ => ?_) (fun q => absurd q (by decide))
          exact m_vret F hQ e_X7_readOption_58 (⟨h6908, (by unfold optionS; dsimp only; rw [if_neg (by omega), ek6850, tolK_ok e6856 e6857, ek6879, numK_ok e6885 l6887 l6888, ek6905, numK_2 e6911 e6912]; exact RES.l (rd6929) (rd6930) (by decide) (by decide) (by omega)), rfl⟩)
      · have hz9 : True := trivial
        refine m_istore_n F (lv' := [(2, .int 0), (1, .int (nI (fx nm k6850.2.2.1 nl))), (0, .ref a)]) e_X7_readOption_32 (by decide) rfl ?_
        refine m_aload_n F rfl e_X7_readOption_33 ?_
        refine m_iconst F (v := 0) (by decide) e_X7_readOption_34 ?_
        refine m_ldc F kc_X7_141 e_X7_readOption_35 ?_
        refine t_callV F e_X7_readOption_37 (s_X7_readNumberG (x_l X) V G b M Z T _ _ a 0 99999 1 (nI k6879.1) h6882.1 hk  (rd6903) (rd6904) (by decide) (by omega)) cb_X7_readNumber ml_X7_130 im_X7_readNumber se_X7_readNumber (fun _ => o3) h6882 hk rfl rfl (rest := []) rfl (Nat.le_of_ble_eq_true rfl) ⟨Nat.le_of_ble_eq_true rfl, Nat.le_of_ble_eq_true rfl⟩ ⟨Nat.le_of_ble_eq_true rfl, Nat.le_of_ble_eq_true rfl⟩ (fun r σ6937 hp => ?_)
        obtain ⟨h6938, rd6940, rd6941, rfl⟩ := hp
        have h6939 := HK.trans h6882 h6938 (by decide)
        refine m_istore_n F (lv' := [(3, .int 0), (2, .int 0), (1, .int (nI (fx nm k6850.2.2.1 nl))), (0, .ref a)]) e_X7_readOption_40 (by decide) rfl ?_
        refine m_aload_n F rfl e_X7_readOption_41 ?_
        refine t_getC F e_X7_readOption_42 fl_X7_55 (fun _ => o3) h6939 hk (rd6940) ?_
        refine m_if_ne F e_X7_readOption_45 (fun _ => ?_) (fun q => absurd q (by decide))
        exact m_vret F hQ e_X7_readOption_58 (⟨h6939, (by unfold optionS; dsimp only; rw [if_neg (by omega), ek6850, tolK_ok e6856 e6857, ek6879, numK_1 e6885]; exact RES.l (rd6940) (rd6941) (by decide) (by decide) (by omega)), rfl⟩)
      · have hz9 : True := trivial
        refine m_istore_n F (lv' := [(2, .int 0), (1, .int (nI (fx nm k6850.2.2.1 nl))), (0, .ref a)]) e_X7_readOption_32 (by decide) rfl ?_
        refine m_aload_n F rfl e_X7_readOption_33 ?_
        refine m_iconst F (v := 0) (by decide) e_X7_readOption_34 ?_
        refine m_ldc F kc_X7_141 e_X7_readOption_35 ?_
        refine t_callV F e_X7_readOption_37 (s_X7_readNumberG (x_l X) V G b M Z T _ _ a 0 99999 2 (nI k6879.1) h6882.1 hk  (rd6903) (rd6904) (by decide) (by omega)) cb_X7_readNumber ml_X7_130 im_X7_readNumber se_X7_readNumber (fun _ => o3) h6882 hk rfl rfl (rest := []) rfl (Nat.le_of_ble_eq_true rfl) ⟨Nat.le_of_ble_eq_true rfl, Nat.le_of_ble_eq_true rfl⟩ ⟨Nat.le_of_ble_eq_true rfl, Nat.le_of_ble_eq_true rfl⟩ (fun r σ6943 hp => ?_)
        obtain ⟨h6944, rd6946, rd6947, rfl⟩ := hp
        have h6945 := HK.trans h6882 h6944 (by decide)
        refine m_istore_n F (lv' := [(3, .int 0), (2, .int 0), (1, .int (nI (fx nm k6850.2.2.1 nl))), (0, .ref a)]) e_X7_readOption_40 (by decide) rfl ?_
        refine m_aload_n F rfl e_X7_readOption_41 ?_
        refine t_getC F e_X7_readOption_42 fl_X7_55 (fun _ => o3) h6945 hk (rd6946) ?_
        refine m_if_ne F e_X7_readOption_45 (fun _ => ?_) (fun q => absurd q (by decide))
        exact m_vret F hQ e_X7_readOption_58 (⟨h6945, (by unfold optionS; dsimp only; rw [if_neg (by omega), ek6850, tolK_ok e6856 e6857, ek6879, numK_2 e6885 e6886]; exact RES.l (rd6946) (rd6947) (by decide) (by decide) (by omega)), rfl⟩)
    · have hz9 : True := trivial
      refine m_istore_n F (lv' := [(1, .int x6864), (0, .ref a)]) e_X7_readOption_24 (by decide) rfl ?_
      refine m_aload_n F rfl e_X7_readOption_25 ?_
      refine m_iconst F (v := 1) (by decide) e_X7_readOption_26 ?_
      refine m_bipush F (v := 24) (by decide) e_X7_readOption_27 ?_
      refine t_callV F e_X7_readOption_29 (s_X7_readNumberG (x_l X) V G b M Z T _ _ a 1 24 1 (nI k6850.1) h6853.1 hk  (rd6862) (rd6863) (by decide) (by omega)) cb_X7_readNumber ml_X7_130 im_X7_readNumber se_X7_readNumber (fun _ => o3) h6853 hk rfl rfl (rest := []) rfl (Nat.le_of_ble_eq_true rfl) ⟨Nat.le_of_ble_eq_true rfl, Nat.le_of_ble_eq_true rfl⟩ ⟨Nat.le_of_ble_eq_true rfl, Nat.le_of_ble_eq_true rfl⟩ (fun r σ6949 hp => ?_)
      obtain ⟨h6950, rd6952, rd6953, rfl⟩ := hp
      have h6951 := HK.trans h6853 h6950 (by decide)
      refine m_istore_n F (lv' := [(2, .int 0), (1, .int x6864), (0, .ref a)]) e_X7_readOption_32 (by decide) rfl ?_
      refine m_aload_n F rfl e_X7_readOption_33 ?_
      refine m_iconst F (v := 0) (by decide) e_X7_readOption_34 ?_
      refine m_ldc F kc_X7_141 e_X7_readOption_35 ?_
      refine t_callV F e_X7_readOption_37 (s_X7_readNumberG (x_l X) V G b M Z T _ _ a 0 99999 1 (nI k6850.1) h6951.1 hk  (rd6952) (rd6953) (by decide) (by omega)) cb_X7_readNumber ml_X7_130 im_X7_readNumber se_X7_readNumber (fun _ => o3) h6951 hk rfl rfl (rest := []) rfl (Nat.le_of_ble_eq_true rfl) ⟨Nat.le_of_ble_eq_true rfl, Nat.le_of_ble_eq_true rfl⟩ ⟨Nat.le_of_ble_eq_true rfl, Nat.le_of_ble_eq_true rfl⟩ (fun r σ6955 hp => ?_)
      obtain ⟨h6956, rd6958, rd6959, rfl⟩ := hp
      have h6957 := HK.trans h6951 h6956 (by decide)
      refine m_istore_n F (lv' := [(3, .int 0), (2, .int 0), (1, .int x6864), (0, .ref a)]) e_X7_readOption_40 (by decide) rfl ?_
      refine m_aload_n F rfl e_X7_readOption_41 ?_
      refine t_getC F e_X7_readOption_42 fl_X7_55 (fun _ => o3) h6957 hk (rd6958) ?_
      refine m_if_ne F e_X7_readOption_45 (fun _ => ?_) (fun q => absurd q (by decide))
      exact m_vret F hQ e_X7_readOption_58 (⟨h6957, (by unfold optionS; dsimp only; rw [if_neg (by omega), ek6850, tolK_1 e6856]; exact RES.l (rd6958) (rd6959) (by decide) (by decide) (by omega)), rfl⟩)
    · have hz9 : True := trivial
      refine m_istore_n F (lv' := [(1, .int x6864), (0, .ref a)]) e_X7_readOption_24 (by decide) rfl ?_
      refine m_aload_n F rfl e_X7_readOption_25 ?_
      refine m_iconst F (v := 1) (by decide) e_X7_readOption_26 ?_
      refine m_bipush F (v := 24) (by decide) e_X7_readOption_27 ?_
      refine t_callV F e_X7_readOption_29 (s_X7_readNumberG (x_l X) V G b M Z T _ _ a 1 24 4 (nI k6850.1) h6853.1 hk  (rd6862) (rd6863) (by decide) (by omega)) cb_X7_readNumber ml_X7_130 im_X7_readNumber se_X7_readNumber (fun _ => o3) h6853 hk rfl rfl (rest := []) rfl (Nat.le_of_ble_eq_true rfl) ⟨Nat.le_of_ble_eq_true rfl, Nat.le_of_ble_eq_true rfl⟩ ⟨Nat.le_of_ble_eq_true rfl, Nat.le_of_ble_eq_true rfl⟩ (fun r σ6961 hp => ?_)
      obtain ⟨h6962, rd6964, rd6965, rfl⟩ := hp
      have h6963 := HK.trans h6853 h6962 (by decide)
      refine m_istore_n F (lv' := [(2, .int 0), (1, .int x6864), (0, .ref a)]) e_X7_readOption_32 (by decide) rfl ?_
      refine m_aload_n F rfl e_X7_readOption_33 ?_
      refine m_iconst F (v := 0) (by decide) e_X7_readOption_34 ?_
      refine m_ldc F kc_X7_141 e_X7_readOption_35 ?_
      refine t_callV F e_X7_readOption_37 (s_X7_readNumberG (x_l X) V G b M Z T _ _ a 0 99999 4 (nI k6850.1) h6963.1 hk  (rd6964) (rd6965) (by decide) (by omega)) cb_X7_readNumber ml_X7_130 im_X7_readNumber se_X7_readNumber (fun _ => o3) h6963 hk rfl rfl (rest := []) rfl (Nat.le_of_ble_eq_true rfl) ⟨Nat.le_of_ble_eq_true rfl, Nat.le_of_ble_eq_true rfl⟩ ⟨Nat.le_of_ble_eq_true rfl, Nat.le_of_ble_eq_true rfl⟩ (fun r σ6967 hp => ?_)
      obtain ⟨h6968, rd6970, rd6971, rfl⟩ := hp
      have h6969 := HK.trans h6963 h6968 (by decide)
      refine m_istore_n F (lv' := [(3, .int 0), (2, .int 0), (1, .int x6864), (0, .ref a)]) e_X7_readOption_40 (by decide) rfl ?_
      refine m_aload_n F rfl e_X7_readOption_41 ?_
      refine t_getC F e_X7_readOption_42 fl_X7_55 (fun _ => o3) h6969 hk (rd6970) ?_
      refine m_if_ne F e_X7_readOption_45 (fun _ => ?_) (fun q => absurd q (by decide))
      exact m_vret F hQ e_X7_readOption_58 (⟨h6969, (by unfold optionS; dsimp only; rw [if_neg (by omega), ek6850, tolK_4 e6856 e6857]; exact RES.l (rd6970) (rd6971) (by decide) (by decide) (by omega)), rfl⟩)
  · have c9 : no ≥ 4 := by have hh := mt (nI_ltI (a := no) (b := 4) (by omega) (by omega)).mpr q9; omega
    refine m_iconst F (v := 2) (by decide) e_X7_readOption_12 ?_
    refine m_goto F e_X7_readOption_13 ?_
    refine t_callV F e_X7_readOption_17 (s_X7_startLineR (x_l X) V G b M Z T _ _ a 2 tp td n bk nx st tk vl py sd ln 0 (-1) t  h1.1 hk (by omega) rfl (by decide) ⟨rd6808, rd6809, rd6810, rd6811, rd6812, rd6813, rd6814, rd6815, rd6816, rd6817, rd6818, rd6819, rd6820⟩ (hB.keep (h1.2 tp (by rw [show kA _ tp = 2 from htp]; decide))) hn7 hsd htp htd hbk hgb (by omega)) cb_X7_startLine ml_X7_124 im_X7_startLine se_X7_startLine (fun _ => o3) h1 hk rfl rfl (rest := []) rfl (Nat.le_of_ble_eq_true rfl) ⟨Nat.le_of_ble_eq_true rfl, Nat.le_of_ble_eq_true rfl⟩ ⟨Nat.le_of_ble_eq_true rfl, Nat.le_of_ble_eq_true rfl⟩ (fun r σ6973 hp => ?_)
    obtain ⟨h6974, hp⟩ := hp
    have h6975 := HK.trans h1 h6974 (by decide)
    have bx6976 := hp5.hk hbk h6974 (by decide) (by decide) (by decide)
    have tq6977 := hp6.keep (h6974.2 td (by rw [show kA _ td = 4 from htd]; decide))
    obtain ⟨⟨rd6978, rd6979⟩, rfl⟩ := hp
    refine m_aload_n F rfl e_X7_readOption_20 ?_
    refine t_callV F e_X7_readOption_21 (s_X7_readToldNameG (x_l X) V G b M Z T _ _ a  2 (nI st) h6975.1 hk  (rd6978) (rd6979) (by decide) (by omega)) cb_X7_readToldName ml_X7_138 im_X7_readToldName se_X7_readToldName (fun _ => o3) h6975 hk rfl rfl (rest := []) rfl (Nat.le_of_ble_eq_true rfl) ⟨Nat.le_of_ble_eq_true rfl, Nat.le_of_ble_eq_true rfl⟩ ⟨Nat.le_of_ble_eq_true rfl, Nat.le_of_ble_eq_true rfl⟩ (fun r σ6980 hp => ?_)
    obtain ⟨h6981, rd6983, rd6984, x6985, rfl⟩ := hp
    have h6982 := HK.trans h6975 h6981 (by decide)
    refine m_istore_n F (lv' := [(1, .int x6985), (0, .ref a)]) e_X7_readOption_24 (by decide) rfl ?_
    refine m_aload_n F rfl e_X7_readOption_25 ?_
    refine m_iconst F (v := 1) (by decide) e_X7_readOption_26 ?_
    refine m_bipush F (v := 24) (by decide) e_X7_readOption_27 ?_
    refine t_callV F e_X7_readOption_29 (s_X7_readNumberG (x_l X) V G b M Z T _ _ a 1 24 2 (nI st) h6982.1 hk  (rd6983) (rd6984) (by decide) (by omega)) cb_X7_readNumber ml_X7_130 im_X7_readNumber se_X7_readNumber (fun _ => o3) h6982 hk rfl rfl (rest := []) rfl (Nat.le_of_ble_eq_true rfl) ⟨Nat.le_of_ble_eq_true rfl, Nat.le_of_ble_eq_true rfl⟩ ⟨Nat.le_of_ble_eq_true rfl, Nat.le_of_ble_eq_true rfl⟩ (fun r σ6986 hp => ?_)
    obtain ⟨h6987, rd6989, rd6990, rfl⟩ := hp
    have h6988 := HK.trans h6982 h6987 (by decide)
    refine m_istore_n F (lv' := [(2, .int 0), (1, .int x6985), (0, .ref a)]) e_X7_readOption_32 (by decide) rfl ?_
    refine m_aload_n F rfl e_X7_readOption_33 ?_
    refine m_iconst F (v := 0) (by decide) e_X7_readOption_34 ?_
    refine m_ldc F kc_X7_141 e_X7_readOption_35 ?_
    refine t_callV F e_X7_readOption_37 (s_X7_readNumberG (x_l X) V G b M Z T _ _ a 0 99999 2 (nI st) h6988.1 hk  (rd6989) (rd6990) (by decide) (by omega)) cb_X7_readNumber ml_X7_130 im_X7_readNumber se_X7_readNumber (fun _ => o3) h6988 hk rfl rfl (rest := []) rfl (Nat.le_of_ble_eq_true rfl) ⟨Nat.le_of_ble_eq_true rfl, Nat.le_of_ble_eq_true rfl⟩ ⟨Nat.le_of_ble_eq_true rfl, Nat.le_of_ble_eq_true rfl⟩ (fun r σ6992 hp => ?_)
    obtain ⟨h6993, rd6995, rd6996, rfl⟩ := hp
    have h6994 := HK.trans h6988 h6993 (by decide)
    refine m_istore_n F (lv' := [(3, .int 0), (2, .int 0), (1, .int x6985), (0, .ref a)]) e_X7_readOption_40 (by decide) rfl ?_
    refine m_aload_n F rfl e_X7_readOption_41 ?_
    refine t_getC F e_X7_readOption_42 fl_X7_55 (fun _ => o3) h6994 hk (rd6995) ?_
    refine m_if_ne F e_X7_readOption_45 (fun _ => ?_) (fun q => absurd q (by decide))
    exact m_vret F hQ e_X7_readOption_58 (⟨h6994, (by unfold optionS; dsimp only; rw [if_pos (by omega)]; exact RES.l (rd6995) (rd6996) (by decide) (by decide) (by omega)), rfl⟩)
set_option maxRecDepth 20000 in
theorem s_X7_readSeedE (l : Launch) (V : VX) (G : GH) (b M Z T N : Nat) (σ : Mem) (a : Nat) (tp : Nat) (td : Nat) (n : Nat) (bk : Nat) (nx : Nat) (st : Nat) (tk : Int32) (vl : Int32) (py : Nat) (sd : Nat) (ln : Nat) (ft : Int32) (pl : Int32) (t : Nat → Nat) (s9 : Nat) (v9 : Nat) (nl : Nat) (nm : Nat → Nat) (nc : Nat) (lc : Nat) (no : Nat) (md : Nat → Nat → Bool) (h0 : HT V G (b, M, Z, T) σ) (hk : kA b a = 3) (hp0 : ft = 0) (hp1 : CT tk vl s9 v9) (hp2 : nx ≤ n) (hp3 : st ≤ n) (hp4 : pl = -1) (hp5 : BX σ bk nl nm nc lc no) (hp6 : TD V σ td nl md) (hp7 : py ≤ 12) (hR : RD σ a tp td n bk nx st tk vl py sd ln ft pl) (hB : BY V σ tp n t) (hn7 : n ≤ 700) (hsd : sd ≤ 1) (htp : kA b tp = 2) (htd : kA b td = 4) (hbk : kA b bk = 7) (hgb : ¬ G.gd (blk (bk - b)) = 1) (hM : M + 0 ≤ 1000000000) : Ct l V yX7_readSeed cX7_readSeed 2 none 3 0 0 N σ [.ref a] (fun r τ => HK V G (b, M, Z, T) [0, 1, 2, 4, 5, 6, 8, 9, 10, 11, 12, 13, 14, 15, 16, 17, 18, 19] σ τ ∧ RES V τ a tp td n bk (seedS (tok t n) (st, s9, v9, nx) nl nm py nc lc no sd md ln) ∧ r = none) := by
  refine Ct.of (by decide) (Nat.le_of_ble_eq_true rfl) [(0, .ref a)] rfl (fun X hX F hQ => ?_)
  have h1 : HK V G (b, M, Z, T) [0, 1, 2, 4, 5, 6, 8, 9, 10, 11, 12, 13, 14, 15, 16, 17, 18, 19] σ σ := HK.start h0
  have hrd6998 := hR
  obtain ⟨rd6998, rd6999, rd7000, rd7001, rd7002, rd7003, rd7004, rd7005, rd7006, rd7007, rd7008, rd7009, rd7010⟩ := hrd6998
  subst hp0
  subst hp4
  have hbb7011 := hp5
  obtain ⟨bb7011, bb7012, bb7013, bb7014, bb7015, bb7016, bb7017, bb7018⟩ := hbb7011
  have hl4 := hp5.2.2.2.2.2.1
  refine m_aload_n F rfl e_X7_readSeed_0 ?_
  refine m_aload_n F rfl e_X7_readSeed_1 ?_
  refine t_getC F e_X7_readSeed_2 fl_X7_48 (fun _ => o3) h1 hk (rd7007) ?_
  refine m_if_eq F e_X7_readSeed_5 (fun q5 => ?_) (fun q5 => ?_)
  · have c5 : sd = 0 := (nI_eq (a := sd) (b := 0) (by omega) (by omega)).mp q5
    refine m_iconst F (v := 0) (by decide) e_X7_readSeed_12 ?_
    refine t_callV F e_X7_readSeed_13 (s_X7_startLineE (x_l X) V G b M Z T _ _ a 0 tp td n bk nx st tk vl py sd ln 0 (-1) t s9 v9 h1.1 hk rfl hp1 (by omega) (by omega) rfl ⟨rd6998, rd6999, rd7000, rd7001, rd7002, rd7003, rd7004, rd7005, rd7006, rd7007, rd7008, rd7009, rd7010⟩ (hB.keep (h1.2 tp (by rw [show kA _ tp = 2 from htp]; decide))) hn7 hsd htp htd hbk hgb (by omega)) cb_X7_startLine ml_X7_124 im_X7_startLine se_X7_startLine (fun _ => o3) h1 hk rfl rfl (rest := []) rfl (Nat.le_of_ble_eq_true rfl) ⟨Nat.le_of_ble_eq_true rfl, Nat.le_of_ble_eq_true rfl⟩ ⟨Nat.le_of_ble_eq_true rfl, Nat.le_of_ble_eq_true rfl⟩ (fun r σ7019 hp => ?_)
    obtain ⟨h7020, hp⟩ := hp
    have h7021 := HK.trans h1 h7020 (by decide)
    have bx7022 := hp5.hk hbk h7020 (by decide) (by decide) (by decide)
    have tq7023 := hp6.keep (h7020.2 td (by rw [show kA _ td = 4 from htd]; decide))
    obtain ⟨⟨tk7024, vl7025, ct7026, rd7027, rd7028, rd7029, rd7030, rd7031, rd7032, rd7033, rd7034, rd7035, rd7036, rd7037, rd7038, rd7039⟩, rfl⟩ := hp
    generalize ek7040 : tok t n nx = k7040 at ct7026 rd7031 rd7032
    have bk7040 := tok_ok (t := t) (n := n) nx (by omega)
    rw [ek7040] at bk7040
    refine m_aload_n F rfl e_X7_readSeed_16 ?_
    refine m_iconst F (v := 0) (by decide) e_X7_readSeed_17 ?_
    refine m_ldc F kc_X7_141 e_X7_readSeed_18 ?_
    refine t_callV F e_X7_readSeed_20 (s_X7_readNumberE (x_l X) V G b M Z T _ _ a 0 99999 tp td n bk k7040.2.2.2 k7040.1 tk7024 vl7025 py sd ln 0 (-1) t k7040.2.1 k7040.2.2.1 h7021.1 hk (by omega) (by omega) rfl ct7026 (by omega) (by omega) ⟨rd7027, rd7028, rd7029, rd7030, rd7031, rd7032, rd7033, rd7034, rd7035, rd7036, rd7037, rd7038, rd7039⟩ (hB.keep (h7021.2 tp (by rw [show kA _ tp = 2 from htp]; decide))) hn7 hsd htp htd hbk hgb (by omega)) cb_X7_readNumber ml_X7_130 im_X7_readNumber se_X7_readNumber (fun _ => o3) h7021 hk rfl rfl (rest := []) rfl (Nat.le_of_ble_eq_true rfl) ⟨Nat.le_of_ble_eq_true rfl, Nat.le_of_ble_eq_true rfl⟩ ⟨Nat.le_of_ble_eq_true rfl, Nat.le_of_ble_eq_true rfl⟩ (fun r σ7041 hp => ?_)
    obtain ⟨h7042, hp⟩ := hp
    have h7043 := HK.trans h7021 h7042 (by decide)
    have bx7044 := bx7022.hk hbk h7042 (by decide) (by decide) (by decide)
    have tq7045 := tq7023.keep (h7042.2 td (by rw [show kA _ td = 4 from htd]; decide))
    rcases hp with ⟨e7046, l7048, l7049, ⟨tk7050, vl7051, ct7052, rd7053, rd7054, rd7055, rd7056, rd7057, rd7058, rd7059, rd7060, rd7061, rd7062, rd7063, rd7064, rd7065⟩, rfl⟩ | ⟨e7046, ⟨rd7053, rd7054, rd7055, rd7056, rd7057, rd7058, rd7059, rd7060, rd7061, rd7062, rd7063, rd7064, rd7065⟩, rfl⟩ | ⟨e7046, e7047, ⟨rd7053, rd7054, rd7055, rd7056, rd7057, rd7058, rd7059, rd7060, rd7061, rd7062, rd7063, rd7064, rd7065⟩, rfl⟩
    · generalize ek7066 : tok t n k7040.2.2.2 = k7066 at ct7052 rd7057 rd7058
      have bk7066 := tok_ok (t := t) (n := n) k7040.2.2.2 (by omega)
      rw [ek7066] at bk7066
      refine m_istore_n F (lv' := [(1, .int (nI k7040.2.2.1)), (0, .ref a)]) e_X7_readSeed_23 (by decide) rfl ?_
      refine m_aload_n F rfl e_X7_readSeed_24 ?_
      refine t_getC F e_X7_readSeed_25 fl_X7_55 (fun _ => o3) h7043 hk (rd7064) ?_
      refine m_if_ne F e_X7_readSeed_28 (fun q => absurd (by decide) q) (fun _ => ?_)
      refine m_aload_n F rfl e_X7_readSeed_31 ?_
      refine m_iconst F (v := 1) (by decide) e_X7_readSeed_32 ?_
      refine t_putC F e_X7_readSeed_33 fp_X7_48 (fun _ => o3) h7043 hk rfl ⟨1, (show 1 ≤ 1 by omega), rfl⟩ (by decide) rfl (by decide) (fun σ7067 h7068 g7069 g7070 f7071 => ?_)
      have bx7072 := bx7044.keep hbk (fld_eq (g7069 bk (kdn hbk hk (by decide)))) (fld_eq (g7069 bk (kdn hbk hk (by decide)))) (fld_eq (g7069 bk (kdn hbk hk (by decide)))) (g7069 (bk + 4) (kdn (kA_7 hbk (r := 4) (by decide) : kA b (bk + 4) = 11) hk (by decide))) (fun x hx => fld_eq (g7069 x (kdn hx hk (by decide))))
      have tq7073 := tq7045.keep (g7069 td (kdn htd hk (by decide)))
      refine m_aload_n F rfl e_X7_readSeed_36 ?_
      refine t_getC F e_X7_readSeed_37 fl_X7_23 (fun _ => o3) h7068 hk ((g7070 2 (by decide)).trans rd7055) ?_
      refine m_iload_n F rfl e_X7_readSeed_40 ?_
      refine t_putC F e_X7_readSeed_41 fp_X7_185 (fun _ => o7) h7068 hbk rfl ⟨_, rfl⟩ rfl rfl (by decide) (fun σ7074 h7075 g7076 g7077 f7078 => ?_)
      have bx7079 := bx7072.keep hbk (g7077 8 (by decide)) (g7077 9 (by decide)) (g7077 10 (by decide)) (g7076 (bk + 4) (kdn (kA_7 hbk (r := 4) (by decide) : kA b (bk + 4) = 11) hbk (by decide))) (fun x hx => fld_eq (g7076 x (kdn hx hbk (by decide))))
      have tq7080 := tq7073.keep (g7076 td (kdn htd hbk (by decide)))
      exact m_vret F hQ e_X7_readSeed_44 (⟨h7075, (by unfold seedS; dsimp only; rw [if_pos (by omega), ek7040, numK_ok e7046 l7048 l7049, ek7066]; exact RES.r ct7052 ⟨(fld_eq (g7076 a (kdn hk hbk (by decide)))).trans ((g7070 0 (by decide)).trans rd7053), (fld_eq (g7076 a (kdn hk hbk (by decide)))).trans ((g7070 1 (by decide)).trans rd7054), (fld_eq (g7076 a (kdn hk hbk (by decide)))).trans ((g7070 2 (by decide)).trans rd7055), (fld_eq (g7076 a (kdn hk hbk (by decide)))).trans ((g7070 3 (by decide)).trans rd7056), (fld_eq (g7076 a (kdn hk hbk (by decide)))).trans ((g7070 4 (by decide)).trans rd7057), (fld_eq (g7076 a (kdn hk hbk (by decide)))).trans ((g7070 5 (by decide)).trans rd7058), (fld_eq (g7076 a (kdn hk hbk (by decide)))).trans ((g7070 6 (by decide)).trans rd7059), (fld_eq (g7076 a (kdn hk hbk (by decide)))).trans ((g7070 7 (by decide)).trans rd7060), (fld_eq (g7076 a (kdn hk hbk (by decide)))).trans ((g7070 8 (by decide)).trans rd7061), (fld_eq (g7076 a (kdn hk hbk (by decide)))).trans f7071, (fld_eq (g7076 a (kdn hk hbk (by decide)))).trans ((g7070 10 (by decide)).trans rd7063), (fld_eq (g7076 a (kdn hk hbk (by decide)))).trans ((g7070 11 (by decide)).trans rd7064), (fld_eq (g7076 a (kdn hk hbk (by decide)))).trans ((g7070 12 (by decide)).trans rd7065)⟩ bx7079 tq7080 (by omega) (by omega) (by omega) (by omega)), rfl⟩)
    · have hz9 : True := trivial
      refine m_istore_n F (lv' := [(1, .int 0), (0, .ref a)]) e_X7_readSeed_23 (by decide) rfl ?_
      refine m_aload_n F rfl e_X7_readSeed_24 ?_
      refine t_getC F e_X7_readSeed_25 fl_X7_55 (fun _ => o3) h7043 hk (rd7064) ?_
      refine m_if_ne F e_X7_readSeed_28 (fun _ => ?_) (fun q => absurd q (by decide))
      exact m_vret F hQ e_X7_readSeed_44 (⟨h7043, (by unfold seedS; dsimp only; rw [if_pos (by omega), ek7040, numK_1 e7046]; exact RES.l (rd7064) (rd7065) (by decide) (by decide) (by omega)), rfl⟩)
    · have hz9 : True := trivial
      refine m_istore_n F (lv' := [(1, .int 0), (0, .ref a)]) e_X7_readSeed_23 (by decide) rfl ?_
      refine m_aload_n F rfl e_X7_readSeed_24 ?_
      refine t_getC F e_X7_readSeed_25 fl_X7_55 (fun _ => o3) h7043 hk (rd7064) ?_
      refine m_if_ne F e_X7_readSeed_28 (fun _ => ?_) (fun q => absurd q (by decide))
      exact m_vret F hQ e_X7_readSeed_44 (⟨h7043, (by unfold seedS; dsimp only; rw [if_pos (by omega), ek7040, numK_2 e7046 e7047]; exact RES.l (rd7064) (rd7065) (by decide) (by decide) (by omega)), rfl⟩)
  · have c5 : sd ≠ 0 := by have hh := mt (nI_eq (a := sd) (b := 0) (by omega) (by omega)).mpr q5; omega
    refine m_iconst F (v := 3) (by decide) e_X7_readSeed_8 ?_
    refine m_goto F e_X7_readSeed_9 ?_
    refine t_callV F e_X7_readSeed_13 (s_X7_startLineR (x_l X) V G b M Z T _ _ a 3 tp td n bk nx st tk vl py sd ln 0 (-1) t  h1.1 hk (by omega) rfl (by decide) ⟨rd6998, rd6999, rd7000, rd7001, rd7002, rd7003, rd7004, rd7005, rd7006, rd7007, rd7008, rd7009, rd7010⟩ (hB.keep (h1.2 tp (by rw [show kA _ tp = 2 from htp]; decide))) hn7 hsd htp htd hbk hgb (by omega)) cb_X7_startLine ml_X7_124 im_X7_startLine se_X7_startLine (fun _ => o3) h1 hk rfl rfl (rest := []) rfl (Nat.le_of_ble_eq_true rfl) ⟨Nat.le_of_ble_eq_true rfl, Nat.le_of_ble_eq_true rfl⟩ ⟨Nat.le_of_ble_eq_true rfl, Nat.le_of_ble_eq_true rfl⟩ (fun r σ7081 hp => ?_)
    obtain ⟨h7082, hp⟩ := hp
    have h7083 := HK.trans h1 h7082 (by decide)
    have bx7084 := hp5.hk hbk h7082 (by decide) (by decide) (by decide)
    have tq7085 := hp6.keep (h7082.2 td (by rw [show kA _ td = 4 from htd]; decide))
    obtain ⟨⟨rd7086, rd7087⟩, rfl⟩ := hp
    refine m_aload_n F rfl e_X7_readSeed_16 ?_
    refine m_iconst F (v := 0) (by decide) e_X7_readSeed_17 ?_
    refine m_ldc F kc_X7_141 e_X7_readSeed_18 ?_
    refine t_callV F e_X7_readSeed_20 (s_X7_readNumberG (x_l X) V G b M Z T _ _ a 0 99999 3 (nI st) h7083.1 hk  (rd7086) (rd7087) (by decide) (by omega)) cb_X7_readNumber ml_X7_130 im_X7_readNumber se_X7_readNumber (fun _ => o3) h7083 hk rfl rfl (rest := []) rfl (Nat.le_of_ble_eq_true rfl) ⟨Nat.le_of_ble_eq_true rfl, Nat.le_of_ble_eq_true rfl⟩ ⟨Nat.le_of_ble_eq_true rfl, Nat.le_of_ble_eq_true rfl⟩ (fun r σ7088 hp => ?_)
    obtain ⟨h7089, rd7091, rd7092, rfl⟩ := hp
    have h7090 := HK.trans h7083 h7089 (by decide)
    refine m_istore_n F (lv' := [(1, .int 0), (0, .ref a)]) e_X7_readSeed_23 (by decide) rfl ?_
    refine m_aload_n F rfl e_X7_readSeed_24 ?_
    refine t_getC F e_X7_readSeed_25 fl_X7_55 (fun _ => o3) h7090 hk (rd7091) ?_
    refine m_if_ne F e_X7_readSeed_28 (fun _ => ?_) (fun q => absurd q (by decide))
    exact m_vret F hQ e_X7_readSeed_44 (⟨h7090, (by unfold seedS; dsimp only; rw [if_neg (by omega)]; exact RES.l (rd7091) (rd7092) (by decide) (by decide) (by omega)), rfl⟩)
