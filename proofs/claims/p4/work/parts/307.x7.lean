set_option maxRecDepth 20000 in
theorem s_X7_readLeaseE (l : Launch) (V : VX) (b M Z T N : Nat) (σ : Mem) (a : Nat) (tp : Nat) (td : Nat) (n : Nat) (bk : Nat) (nx : Nat) (st : Nat) (tk : Int32) (vl : Int32) (py : Nat) (sd : Nat) (ln : Nat) (ft : Int32) (pl : Int32) (t : Nat → Nat) (s9 : Nat) (v9 : Nat) (nl : Nat) (nm : Nat → Nat) (nc : Nat) (lc : Nat) (no : Nat) (md : Nat → Nat → Bool) (h0 : HT V (b, M, Z, T) σ) (hk : kA b a = 3) (hp0 : ft = 0) (hp1 : CT tk vl s9 v9) (hp2 : nx ≤ n) (hp3 : st ≤ n) (hp4 : pl = -1) (hp5 : BX σ bk nl nm nc lc no) (hp6 : TD V σ td nl md) (hp7 : py ≤ 12) (hR : RD σ a tp td n bk nx st tk vl py sd ln ft pl) (hB : BY V σ tp n t) (hn7 : n ≤ 700) (hsd : sd ≤ 1) (htp : kA b tp = 2) (htd : kA b td = 4) (hbk : kA b bk = 7) (hM : M + 0 ≤ 1000000000) : Ct l V yX7_readLease cX7_readLease 5 none 6 0 0 N σ [.ref a] (fun r τ => HK V (b, M, Z, T) [0, 1, 2, 4, 5, 8, 9, 10, 11, 12, 13, 14, 16, 19] σ τ ∧ RES V τ a tp td n bk (leaseS (tok t n) (st, s9, v9, nx) nl nm py nc lc no sd md ln) ∧ r = none) := by
  refine Ct.of (by decide) (Nat.le_of_ble_eq_true rfl) [(0, .ref a)] rfl (fun X hX F hQ => ?_)
  have h1 : HK V (b, M, Z, T) [0, 1, 2, 4, 5, 8, 9, 10, 11, 12, 13, 14, 16, 19] σ σ := HK.start h0
  have hrd5839 := hR
  obtain ⟨rd5839, rd5840, rd5841, rd5842, rd5843, rd5844, rd5845, rd5846, rd5847, rd5848, rd5849, rd5850, rd5851⟩ := hrd5839
  subst hp0
  subst hp4
  have hbb5852 := hp5
  obtain ⟨bb5852, bb5853, bb5854, bb5855, bb5856, bb5857, bb5858, bb5859⟩ := hbb5852
  have hl4 := hp5.2.2.2.2.2.1
  refine m_aload_n F rfl e_X7_readLease_0 ?_
  refine m_aload_n F rfl e_X7_readLease_1 ?_
  refine t_getC F e_X7_readLease_2 fl_X7_23 (fun _ => o3) h1 hk (rd5841) ?_
  refine t_getC F e_X7_readLease_5 fl_X7_119 (fun _ => o7) h1 hbk (bb5852) ?_
  refine m_iconst F (v := 4) (by decide) e_X7_readLease_8 ?_
  refine m_icmp_lt F e_X7_readLease_9 (fun q9 => ?_) (fun q9 => ?_)
  · have c9 : nl < 4 := (nI_ltI (a := nl) (b := 4) (by omega) (by omega)).mp q9
    refine m_iconst F (v := 0) (by decide) e_X7_readLease_16 ?_
    refine t_callV F e_X7_readLease_17 (s_X7_startLineE (x_l X) V b M Z T _ _ a 0 tp td n bk nx st tk vl py sd ln 0 (-1) t s9 v9 h1.1 hk rfl hp1 (by omega) (by omega) rfl ⟨rd5839, rd5840, rd5841, rd5842, rd5843, rd5844, rd5845, rd5846, rd5847, rd5848, rd5849, rd5850, rd5851⟩ (hB.keep (h1.2 tp (by rw [show kA _ tp = 2 from htp]; decide))) hn7 hsd htp htd hbk (by omega)) cb_X7_startLine ml_X7_124 im_X7_startLine se_X7_startLine (fun _ => o3) h1 hk rfl rfl (rest := []) rfl (Nat.le_of_ble_eq_true rfl) ⟨Nat.le_of_ble_eq_true rfl, Nat.le_of_ble_eq_true rfl⟩ ⟨Nat.le_of_ble_eq_true rfl, Nat.le_of_ble_eq_true rfl⟩ (fun r σ5860 hp => ?_)
    obtain ⟨h5861, hp⟩ := hp
    have h5862 := HK.trans h1 h5861 (by decide)
    have bx5863 := hp5.hk hbk h5861 (by decide) (by decide) (by decide)
    have tq5864 := hp6.keep (h5861.2 td (by rw [show kA _ td = 4 from htd]; decide))
    obtain ⟨⟨tk5865, vl5866, ct5867, rd5868, rd5869, rd5870, rd5871, rd5872, rd5873, rd5874, rd5875, rd5876, rd5877, rd5878, rd5879, rd5880⟩, rfl⟩ := hp
    generalize ek5881 : tok t n nx = k5881 at ct5867 rd5872 rd5873
    have bk5881 := tok_ok (t := t) (n := n) nx (by omega)
    rw [ek5881] at bk5881
    refine m_aload_n F rfl e_X7_readLease_20 ?_
    refine t_callV F e_X7_readLease_21 (s_X7_readNewNameE (x_l X) V b M Z T _ _ a  tp td n bk k5881.2.2.2 k5881.1 tk5865 vl5866 py sd ln 0 (-1) t k5881.2.1 k5881.2.2.1 nl nm nc lc no  h5862.1 hk rfl ct5867 (by omega) (by omega) bx5863 ⟨rd5868, rd5869, rd5870, rd5871, rd5872, rd5873, rd5874, rd5875, rd5876, rd5877, rd5878, rd5879, rd5880⟩ (hB.keep (h5862.2 tp (by rw [show kA _ tp = 2 from htp]; decide))) hn7 hsd htp htd hbk (by omega)) cb_X7_readNewName ml_X7_127 im_X7_readNewName se_X7_readNewName (fun _ => o3) h5862 hk rfl rfl (rest := []) rfl (Nat.le_of_ble_eq_true rfl) ⟨Nat.le_of_ble_eq_true rfl, Nat.le_of_ble_eq_true rfl⟩ ⟨Nat.le_of_ble_eq_true rfl, Nat.le_of_ble_eq_true rfl⟩ (fun r σ5882 hp => ?_)
    obtain ⟨h5883, hp⟩ := hp
    have h5884 := HK.trans h5862 h5883 (by decide)
    have bx5885 := bx5863.hk hbk h5883 (by decide) (by decide) (by decide)
    have tq5886 := tq5864.keep (h5883.2 td (by rw [show kA _ td = 4 from htd]; decide))
    rcases hp with ⟨e5887, e5888, ⟨tk5890, vl5891, ct5892, rd5897, rd5898, rd5899, rd5900, rd5901, rd5902, rd5903, rd5904, rd5905, rd5906, rd5907, rd5908, rd5909⟩, rfl⟩ | ⟨e5887, ⟨rd5893, rd5894⟩, x5895, rfl⟩ | ⟨e5887, e5888, ⟨rd5893, rd5894⟩, x5895, rfl⟩
    · have hv9 := ct5867.w e5887
      generalize ek5910 : tok t n k5881.2.2.2 = k5910 at ct5892 rd5901 rd5902
      have bk5910 := tok_ok (t := t) (n := n) k5881.2.2.2 (by omega)
      rw [ek5910] at bk5910
      refine m_istore_n F (lv' := [(1, .int (nI k5881.2.2.1)), (0, .ref a)]) e_X7_readLease_24 (by decide) rfl ?_
      refine m_aload_n F rfl e_X7_readLease_25 ?_
      refine m_iconst F (v := 0) (by decide) e_X7_readLease_26 ?_
      refine m_bipush F (v := 20) (by decide) e_X7_readLease_27 ?_
      refine t_callV F e_X7_readLease_29 (s_X7_readNumberE (x_l X) V b M Z T _ _ a 0 20 tp td n bk k5910.2.2.2 k5910.1 tk5890 vl5891 py sd ln 0 (-1) t k5910.2.1 k5910.2.2.1 h5884.1 hk (by omega) (by omega) rfl ct5892 (by omega) (by omega) ⟨rd5897, rd5898, rd5899, rd5900, rd5901, rd5902, rd5903, rd5904, rd5905, rd5906, rd5907, rd5908, rd5909⟩ (hB.keep (h5884.2 tp (by rw [show kA _ tp = 2 from htp]; decide))) hn7 hsd htp htd hbk (by omega)) cb_X7_readNumber ml_X7_130 im_X7_readNumber se_X7_readNumber (fun _ => o3) h5884 hk rfl rfl (rest := []) rfl (Nat.le_of_ble_eq_true rfl) ⟨Nat.le_of_ble_eq_true rfl, Nat.le_of_ble_eq_true rfl⟩ ⟨Nat.le_of_ble_eq_true rfl, Nat.le_of_ble_eq_true rfl⟩ (fun r σ5911 hp => ?_)
      obtain ⟨h5912, hp⟩ := hp
      have h5913 := HK.trans h5884 h5912 (by decide)
      have bx5914 := bx5885.hk hbk h5912 (by decide) (by decide) (by decide)
      have tq5915 := tq5886.keep (h5912.2 td (by rw [show kA _ td = 4 from htd]; decide))
      rcases hp with ⟨e5916, l5918, l5919, ⟨tk5920, vl5921, ct5922, rd5923, rd5924, rd5925, rd5926, rd5927, rd5928, rd5929, rd5930, rd5931, rd5932, rd5933, rd5934, rd5935⟩, rfl⟩ | ⟨e5916, ⟨rd5923, rd5924, rd5925, rd5926, rd5927, rd5928, rd5929, rd5930, rd5931, rd5932, rd5933, rd5934, rd5935⟩, rfl⟩ | ⟨e5916, e5917, ⟨rd5923, rd5924, rd5925, rd5926, rd5927, rd5928, rd5929, rd5930, rd5931, rd5932, rd5933, rd5934, rd5935⟩, rfl⟩
      · generalize ek5936 : tok t n k5910.2.2.2 = k5936 at ct5922 rd5927 rd5928
        have bk5936 := tok_ok (t := t) (n := n) k5910.2.2.2 (by omega)
        rw [ek5936] at bk5936
        refine m_istore_n F (lv' := [(2, .int (nI k5910.2.2.1)), (1, .int (nI k5881.2.2.1)), (0, .ref a)]) e_X7_readLease_32 (by decide) rfl ?_
        refine m_aload_n F rfl e_X7_readLease_33 ?_
        refine m_iconst F (v := 1) (by decide) e_X7_readLease_34 ?_
        refine m_bipush F (v := 48) (by decide) e_X7_readLease_35 ?_
        refine t_callV F e_X7_readLease_37 (s_X7_readNumberE (x_l X) V b M Z T _ _ a 1 48 tp td n bk k5936.2.2.2 k5936.1 tk5920 vl5921 py sd ln 0 (-1) t k5936.2.1 k5936.2.2.1 h5913.1 hk (by omega) (by omega) rfl ct5922 (by omega) (by omega) ⟨rd5923, rd5924, rd5925, rd5926, rd5927, rd5928, rd5929, rd5930, rd5931, rd5932, rd5933, rd5934, rd5935⟩ (hB.keep (h5913.2 tp (by rw [show kA _ tp = 2 from htp]; decide))) hn7 hsd htp htd hbk (by omega)) cb_X7_readNumber ml_X7_130 im_X7_readNumber se_X7_readNumber (fun _ => o3) h5913 hk rfl rfl (rest := []) rfl (Nat.le_of_ble_eq_true rfl) ⟨Nat.le_of_ble_eq_true rfl, Nat.le_of_ble_eq_true rfl⟩ ⟨Nat.le_of_ble_eq_true rfl, Nat.le_of_ble_eq_true rfl⟩ (fun r σ5937 hp => ?_)
        obtain ⟨h5938, hp⟩ := hp
        have h5939 := HK.trans h5913 h5938 (by decide)
        have bx5940 := bx5914.hk hbk h5938 (by decide) (by decide) (by decide)
        have tq5941 := tq5915.keep (h5938.2 td (by rw [show kA _ td = 4 from htd]; decide))
        rcases hp with ⟨e5942, l5944, l5945, ⟨tk5946, vl5947, ct5948, rd5949, rd5950, rd5951, rd5952, rd5953, rd5954, rd5955, rd5956, rd5957, rd5958, rd5959, rd5960, rd5961⟩, rfl⟩ | ⟨e5942, ⟨rd5949, rd5950, rd5951, rd5952, rd5953, rd5954, rd5955, rd5956, rd5957, rd5958, rd5959, rd5960, rd5961⟩, rfl⟩ | ⟨e5942, e5943, ⟨rd5949, rd5950, rd5951, rd5952, rd5953, rd5954, rd5955, rd5956, rd5957, rd5958, rd5959, rd5960, rd5961⟩, rfl⟩
        · generalize ek5962 : tok t n k5936.2.2.2 = k5962 at ct5948 rd5953 rd5954
          have bk5962 := tok_ok (t := t) (n := n) k5936.2.2.2 (by omega)
          rw [ek5962] at bk5962
          refine m_istore_n F (lv' := [(3, .int (nI k5936.2.2.1)), (2, .int (nI k5910.2.2.1)), (1, .int (nI k5881.2.2.1)), (0, .ref a)]) e_X7_readLease_40 (by decide) rfl ?_
          refine m_aload_n F rfl e_X7_readLease_41 ?_
          refine m_iconst F (v := 0) (by decide) e_X7_readLease_42 ?_
          refine m_ldc F kc_X7_133 e_X7_readLease_43 ?_
          refine t_callV F e_X7_readLease_45 (s_X7_readNumberE (x_l X) V b M Z T _ _ a 0 200000 tp td n bk k5962.2.2.2 k5962.1 tk5946 vl5947 py sd ln 0 (-1) t k5962.2.1 k5962.2.2.1 h5939.1 hk (by omega) (by omega) rfl ct5948 (by omega) (by omega) ⟨rd5949, rd5950, rd5951, rd5952, rd5953, rd5954, rd5955, rd5956, rd5957, rd5958, rd5959, rd5960, rd5961⟩ (hB.keep (h5939.2 tp (by rw [show kA _ tp = 2 from htp]; decide))) hn7 hsd htp htd hbk (by omega)) cb_X7_readNumber ml_X7_130 im_X7_readNumber se_X7_readNumber (fun _ => o3) h5939 hk rfl rfl (rest := []) rfl (Nat.le_of_ble_eq_true rfl) ⟨Nat.le_of_ble_eq_true rfl, Nat.le_of_ble_eq_true rfl⟩ ⟨Nat.le_of_ble_eq_true rfl, Nat.le_of_ble_eq_true rfl⟩ (fun r σ5963 hp => ?_)
          obtain ⟨h5964, hp⟩ := hp
          have h5965 := HK.trans h5939 h5964 (by decide)
          have bx5966 := bx5940.hk hbk h5964 (by decide) (by decide) (by decide)
          have tq5967 := tq5941.keep (h5964.2 td (by rw [show kA _ td = 4 from htd]; decide))
          rcases hp with ⟨e5968, l5970, l5971, ⟨tk5972, vl5973, ct5974, rd5975, rd5976, rd5977, rd5978, rd5979, rd5980, rd5981, rd5982, rd5983, rd5984, rd5985, rd5986, rd5987⟩, rfl⟩ | ⟨e5968, ⟨rd5975, rd5976, rd5977, rd5978, rd5979, rd5980, rd5981, rd5982, rd5983, rd5984, rd5985, rd5986, rd5987⟩, rfl⟩ | ⟨e5968, e5969, ⟨rd5975, rd5976, rd5977, rd5978, rd5979, rd5980, rd5981, rd5982, rd5983, rd5984, rd5985, rd5986, rd5987⟩, rfl⟩
          · generalize ek5988 : tok t n k5962.2.2.2 = k5988 at ct5974 rd5979 rd5980
            have bk5988 := tok_ok (t := t) (n := n) k5962.2.2.2 (by omega)
            rw [ek5988] at bk5988
            refine m_istore F (lv' := [(4, .int (nI k5962.2.2.1)), (3, .int (nI k5936.2.2.1)), (2, .int (nI k5910.2.2.1)), (1, .int (nI k5881.2.2.1)), (0, .ref a)]) e_X7_readLease_48 (by decide) rfl ?_
            refine m_aload_n F rfl e_X7_readLease_50 ?_
            refine t_getC F e_X7_readLease_51 fl_X7_55 (fun _ => o3) h5965 hk (rd5986) ?_
            refine m_if_ne F e_X7_readLease_54 (fun q => absurd (by decide) q) (fun _ => ?_)
            refine m_aload_n F rfl e_X7_readLease_57 ?_
            refine t_getC F e_X7_readLease_58 fl_X7_23 (fun _ => o3) h5965 hk (rd5977) ?_
            refine m_iload_n F rfl e_X7_readLease_61 ?_
            refine m_iload_n F rfl e_X7_readLease_62 ?_
            refine m_iload_n F rfl e_X7_readLease_63 ?_
            refine m_iload F rfl e_X7_readLease_64 ?_
            refine t_callV F e_X7_readLease_66 (s_X2_addLeaseE (x_l X) V b M Z T _ _ bk k5881.2.2.1 (nI k5910.2.2.1) (nI k5936.2.2.1) (nI k5962.2.2.1) nl nm nc lc no h5965.1 hbk (by omega) (by omega) bx5966 (by omega)) cb_X2_addLease ml_X7_134 im_X2_addLease se_X2_addLease (fun _ => o7) h5965 hbk rfl rfl (rest := []) rfl (Nat.le_of_ble_eq_true rfl) ⟨Nat.le_of_ble_eq_true rfl, Nat.le_of_ble_eq_true rfl⟩ ⟨Nat.le_of_ble_eq_true rfl, Nat.le_of_ble_eq_true rfl⟩ (fun r σ5989 hp => ?_)
            obtain ⟨h5990, bx5992, rfl⟩ := hp
            have h5991 := HK.trans h5965 h5990 (by decide)
            have tq5993 := tq5967.keep (h5990.2 td (by rw [show kA _ td = 4 from htd]; decide))
            have tq5994 := tq5993.new
            exact m_vret F hQ e_X7_readLease_69 (⟨h5991, (by unfold leaseS; dsimp only; rw [if_neg (by omega), ek5881, newK_ok e5887 e5888, ek5910, numK_ok e5916 l5918 l5919, ek5936, numK_ok e5942 l5944 l5945, ek5962, numK_ok e5968 l5970 l5971, ek5988]; exact RES.r ct5974 ⟨(fld_eq (h5990.2 a (by rw [show kA _ a = 3 from hk]; decide))).trans rd5975, (fld_eq (h5990.2 a (by rw [show kA _ a = 3 from hk]; decide))).trans rd5976, (fld_eq (h5990.2 a (by rw [show kA _ a = 3 from hk]; decide))).trans rd5977, (fld_eq (h5990.2 a (by rw [show kA _ a = 3 from hk]; decide))).trans rd5978, (fld_eq (h5990.2 a (by rw [show kA _ a = 3 from hk]; decide))).trans rd5979, (fld_eq (h5990.2 a (by rw [show kA _ a = 3 from hk]; decide))).trans rd5980, (fld_eq (h5990.2 a (by rw [show kA _ a = 3 from hk]; decide))).trans rd5981, (fld_eq (h5990.2 a (by rw [show kA _ a = 3 from hk]; decide))).trans rd5982, (fld_eq (h5990.2 a (by rw [show kA _ a = 3 from hk]; decide))).trans rd5983, (fld_eq (h5990.2 a (by rw [show kA _ a = 3 from hk]; decide))).trans rd5984, (fld_eq (h5990.2 a (by rw [show kA _ a = 3 from hk]; decide))).trans rd5985, (fld_eq (h5990.2 a (by rw [show kA _ a = 3 from hk]; decide))).trans rd5986, (fld_eq (h5990.2 a (by rw [show kA _ a = 3 from hk]; decide))).trans rd5987⟩ bx5992 tq5994 (by omega) (by omega) (by omega) (by omega)), rfl⟩)
          · have hz9 : True := trivial
            refine m_istore F (lv' := [(4, .int 0), (3, .int (nI k5936.2.2.1)), (2, .int (nI k5910.2.2.1)), (1, .int (nI k5881.2.2.1)), (0, .ref a)]) e_X7_readLease_48 (by decide) rfl ?_
            refine m_aload_n F rfl e_X7_readLease_50 ?_
            refine t_getC F e_X7_readLease_51 fl_X7_55 (fun _ => o3) h5965 hk (rd5986) ?_
            refine m_if_ne F e_X7_readLease_54 (fun _ => ?_) (fun q => absurd q (by decide))
            exact m_vret F hQ e_X7_readLease_69 (⟨h5965, (by unfold leaseS; dsimp only; rw [if_neg (by omega), ek5881, newK_ok e5887 e5888, ek5910, numK_ok e5916 l5918 l5919, ek5936, numK_ok e5942 l5944 l5945, ek5962, numK_1 e5968]; exact RES.l (rd5986) (rd5987) (by decide) (by decide) (by omega)), rfl⟩)
          · have hz9 : True := trivial
            refine m_istore F (lv' := [(4, .int 0), (3, .int (nI k5936.2.2.1)), (2, .int (nI k5910.2.2.1)), (1, .int (nI k5881.2.2.1)), (0, .ref a)]) e_X7_readLease_48 (by decide) rfl ?_
            refine m_aload_n F rfl e_X7_readLease_50 ?_
            refine t_getC F e_X7_readLease_51 fl_X7_55 (fun _ => o3) h5965 hk (rd5986) ?_
            refine m_if_ne F e_X7_readLease_54 (fun _ => ?_) (fun q => absurd q (by decide))
            exact m_vret F hQ e_X7_readLease_69 (⟨h5965, (by unfold leaseS; dsimp only; rw [if_neg (by omega), ek5881, newK_ok e5887 e5888, ek5910, numK_ok e5916 l5918 l5919, ek5936, numK_ok e5942 l5944 l5945, ek5962, numK_2 e5968 e5969]; exact RES.l (rd5986) (rd5987) (by decide) (by decide) (by omega)), rfl⟩)
        · have hz9 : True := trivial
          refine m_istore_n F (lv' := [(3, .int 0), (2, .int (nI k5910.2.2.1)), (1, .int (nI k5881.2.2.1)), (0, .ref a)]) e_X7_readLease_40 (by decide) rfl ?_
          refine m_aload_n F rfl e_X7_readLease_41 ?_
          refine m_iconst F (v := 0) (by decide) e_X7_readLease_42 ?_
          refine m_ldc F kc_X7_133 e_X7_readLease_43 ?_
          refine t_callV F e_X7_readLease_45 (s_X7_readNumberG (x_l X) V b M Z T _ _ a 0 200000 1 (nI k5936.1) h5939.1 hk  (rd5960) (rd5961) (by decide) (by omega)) cb_X7_readNumber ml_X7_130 im_X7_readNumber se_X7_readNumber (fun _ => o3) h5939 hk rfl rfl (rest := []) rfl (Nat.le_of_ble_eq_true rfl) ⟨Nat.le_of_ble_eq_true rfl, Nat.le_of_ble_eq_true rfl⟩ ⟨Nat.le_of_ble_eq_true rfl, Nat.le_of_ble_eq_true rfl⟩ (fun r σ5995 hp => ?_)
          obtain ⟨h5996, rd5998, rd5999, rfl⟩ := hp
          have h5997 := HK.trans h5939 h5996 (by decide)
          refine m_istore F (lv' := [(4, .int 0), (3, .int 0), (2, .int (nI k5910.2.2.1)), (1, .int (nI k5881.2.2.1)), (0, .ref a)]) e_X7_readLease_48 (by decide) rfl ?_
          refine m_aload_n F rfl e_X7_readLease_50 ?_
          refine t_getC F e_X7_readLease_51 fl_X7_55 (fun _ => o3) h5997 hk (rd5998) ?_
          refine m_if_ne F e_X7_readLease_54 (fun _ => ?_) (fun q => absurd q (by decide))
          exact m_vret F hQ e_X7_readLease_69 (⟨h5997, (by unfold leaseS; dsimp only; rw [if_neg (by omega), ek5881, newK_ok e5887 e5888, ek5910, numK_ok e5916 l5918 l5919, ek5936, numK_1 e5942]; exact RES.l (rd5998) (rd5999) (by decide) (by decide) (by omega)), rfl⟩)
        · have hz9 : True := trivial
          refine m_istore_n F (lv' := [(3, .int 0), (2, .int (nI k5910.2.2.1)), (1, .int (nI k5881.2.2.1)), (0, .ref a)]) e_X7_readLease_40 (by decide) rfl ?_
          refine m_aload_n F rfl e_X7_readLease_41 ?_
          refine m_iconst F (v := 0) (by decide) e_X7_readLease_42 ?_
          refine m_ldc F kc_X7_133 e_X7_readLease_43 ?_
          refine t_callV F e_X7_readLease_45 (s_X7_readNumberG (x_l X) V b M Z T _ _ a 0 200000 2 (nI k5936.1) h5939.1 hk  (rd5960) (rd5961) (by decide) (by omega)) cb_X7_readNumber ml_X7_130 im_X7_readNumber se_X7_readNumber (fun _ => o3) h5939 hk rfl rfl (rest := []) rfl (Nat.le_of_ble_eq_true rfl) ⟨Nat.le_of_ble_eq_true rfl, Nat.le_of_ble_eq_true rfl⟩ ⟨Nat.le_of_ble_eq_true rfl, Nat.le_of_ble_eq_true rfl⟩ (fun r σ6001 hp => ?_)
          obtain ⟨h6002, rd6004, rd6005, rfl⟩ := hp
          have h6003 := HK.trans h5939 h6002 (by decide)
          refine m_istore F (lv' := [(4, .int 0), (3, .int 0), (2, .int (nI k5910.2.2.1)), (1, .int (nI k5881.2.2.1)), (0, .ref a)]) e_X7_readLease_48 (by decide) rfl ?_
          refine m_aload_n F rfl e_X7_readLease_50 ?_
          refine t_getC F e_X7_readLease_51 fl_X7_55 (fun _ => o3) h6003 hk (rd6004) ?_
          refine m_if_ne F e_X7_readLease_54 (fun _ => ?_) (fun q => absurd q (by decide))
          exact m_vret F hQ e_X7_readLease_69 (⟨h6003, (by unfold leaseS; dsimp only; rw [if_neg (by omega), ek5881, newK_ok e5887 e5888, ek5910, numK_ok e5916 l5918 l5919, ek5936, numK_2 e5942 e5943]; exact RES.l (rd6004) (rd6005) (by decide) (by decide) (by omega)), rfl⟩)
      · have hz9 : True := trivial
        refine m_istore_n F (lv' := [(2, .int 0), (1, .int (nI k5881.2.2.1)), (0, .ref a)]) e_X7_readLease_32 (by decide) rfl ?_
        refine m_aload_n F rfl e_X7_readLease_33 ?_
        refine m_iconst F (v := 1) (by decide) e_X7_readLease_34 ?_
        refine m_bipush F (v := 48) (by decide) e_X7_readLease_35 ?_
        refine t_callV F e_X7_readLease_37 (s_X7_readNumberG (x_l X) V b M Z T _ _ a 1 48 1 (nI k5910.1) h5913.1 hk  (rd5934) (rd5935) (by decide) (by omega)) cb_X7_readNumber ml_X7_130 im_X7_readNumber se_X7_readNumber (fun _ => o3) h5913 hk rfl rfl (rest := []) rfl (Nat.le_of_ble_eq_true rfl) ⟨Nat.le_of_ble_eq_true rfl, Nat.le_of_ble_eq_true rfl⟩ ⟨Nat.le_of_ble_eq_true rfl, Nat.le_of_ble_eq_true rfl⟩ (fun r σ6007 hp => ?_)
        obtain ⟨h6008, rd6010, rd6011, rfl⟩ := hp
        have h6009 := HK.trans h5913 h6008 (by decide)
        refine m_istore_n F (lv' := [(3, .int 0), (2, .int 0), (1, .int (nI k5881.2.2.1)), (0, .ref a)]) e_X7_readLease_40 (by decide) rfl ?_
        refine m_aload_n F rfl e_X7_readLease_41 ?_
        refine m_iconst F (v := 0) (by decide) e_X7_readLease_42 ?_
        refine m_ldc F kc_X7_133 e_X7_readLease_43 ?_
        refine t_callV F e_X7_readLease_45 (s_X7_readNumberG (x_l X) V b M Z T _ _ a 0 200000 1 (nI k5910.1) h6009.1 hk  (rd6010) (rd6011) (by decide) (by omega)) cb_X7_readNumber ml_X7_130 im_X7_readNumber se_X7_readNumber (fun _ => o3) h6009 hk rfl rfl (rest := []) rfl (Nat.le_of_ble_eq_true rfl) ⟨Nat.le_of_ble_eq_true rfl, Nat.le_of_ble_eq_true rfl⟩ ⟨Nat.le_of_ble_eq_true rfl, Nat.le_of_ble_eq_true rfl⟩ (fun r σ6013 hp => ?_)
        obtain ⟨h6014, rd6016, rd6017, rfl⟩ := hp
        have h6015 := HK.trans h6009 h6014 (by decide)
        refine m_istore F (lv' := [(4, .int 0), (3, .int 0), (2, .int 0), (1, .int (nI k5881.2.2.1)), (0, .ref a)]) e_X7_readLease_48 (by decide) rfl ?_
        refine m_aload_n F rfl e_X7_readLease_50 ?_
        refine t_getC F e_X7_readLease_51 fl_X7_55 (fun _ => o3) h6015 hk (rd6016) ?_
        refine m_if_ne F e_X7_readLease_54 (fun _ => ?_) (fun q => absurd q (by decide))
        exact m_vret F hQ e_X7_readLease_69 (⟨h6015, (by unfold leaseS; dsimp only; rw [if_neg (by omega), ek5881, newK_ok e5887 e5888, ek5910, numK_1 e5916]; exact RES.l (rd6016) (rd6017) (by decide) (by decide) (by omega)), rfl⟩)
      · have hz9 : True := trivial
        refine m_istore_n F (lv' := [(2, .int 0), (1, .int (nI k5881.2.2.1)), (0, .ref a)]) e_X7_readLease_32 (by decide) rfl ?_
        refine m_aload_n F rfl e_X7_readLease_33 ?_
        refine m_iconst F (v := 1) (by decide) e_X7_readLease_34 ?_
        refine m_bipush F (v := 48) (by decide) e_X7_readLease_35 ?_
        refine t_callV F e_X7_readLease_37 (s_X7_readNumberG (x_l X) V b M Z T _ _ a 1 48 2 (nI k5910.1) h5913.1 hk  (rd5934) (rd5935) (by decide) (by omega)) cb_X7_readNumber ml_X7_130 im_X7_readNumber se_X7_readNumber (fun _ => o3) h5913 hk rfl rfl (rest := []) rfl (Nat.le_of_ble_eq_true rfl) ⟨Nat.le_of_ble_eq_true rfl, Nat.le_of_ble_eq_true rfl⟩ ⟨Nat.le_of_ble_eq_true rfl, Nat.le_of_ble_eq_true rfl⟩ (fun r σ6019 hp => ?_)
        obtain ⟨h6020, rd6022, rd6023, rfl⟩ := hp
        have h6021 := HK.trans h5913 h6020 (by decide)
        refine m_istore_n F (lv' := [(3, .int 0), (2, .int 0), (1, .int (nI k5881.2.2.1)), (0, .ref a)]) e_X7_readLease_40 (by decide) rfl ?_
        refine m_aload_n F rfl e_X7_readLease_41 ?_
        refine m_iconst F (v := 0) (by decide) e_X7_readLease_42 ?_
        refine m_ldc F kc_X7_133 e_X7_readLease_43 ?_
        refine t_callV F e_X7_readLease_45 (s_X7_readNumberG (x_l X) V b M Z T _ _ a 0 200000 2 (nI k5910.1) h6021.1 hk  (rd6022) (rd6023) (by decide) (by omega)) cb_X7_readNumber ml_X7_130 im_X7_readNumber se_X7_readNumber (fun _ => o3) h6021 hk rfl rfl (rest := []) rfl (Nat.le_of_ble_eq_true rfl) ⟨Nat.le_of_ble_eq_true rfl, Nat.le_of_ble_eq_true rfl⟩ ⟨Nat.le_of_ble_eq_true rfl, Nat.le_of_ble_eq_true rfl⟩ (fun r σ6025 hp => ?_)
        obtain ⟨h6026, rd6028, rd6029, rfl⟩ := hp
        have h6027 := HK.trans h6021 h6026 (by decide)
        refine m_istore F (lv' := [(4, .int 0), (3, .int 0), (2, .int 0), (1, .int (nI k5881.2.2.1)), (0, .ref a)]) e_X7_readLease_48 (by decide) rfl ?_
        refine m_aload_n F rfl e_X7_readLease_50 ?_
        refine t_getC F e_X7_readLease_51 fl_X7_55 (fun _ => o3) h6027 hk (rd6028) ?_
        refine m_if_ne F e_X7_readLease_54 (fun _ => ?_) (fun q => absurd q (by decide))
        exact m_vret F hQ e_X7_readLease_69 (⟨h6027, (by unfold leaseS; dsimp only; rw [if_neg (by omega), ek5881, newK_ok e5887 e5888, ek5910, numK_2 e5916 e5917]; exact RES.l (rd6028) (rd6029) (by decide) (by decide) (by omega)), rfl⟩)
    · have hz9 : True := trivial
      refine m_istore_n F (lv' := [(1, .int x5895), (0, .ref a)]) e_X7_readLease_24 (by decide) rfl ?_
      refine m_aload_n F rfl e_X7_readLease_25 ?_
      refine m_iconst F (v := 0) (by decide) e_X7_readLease_26 ?_
      refine m_bipush F (v := 20) (by decide) e_X7_readLease_27 ?_
      refine t_callV F e_X7_readLease_29 (s_X7_readNumberG (x_l X) V b M Z T _ _ a 0 20 1 (nI k5881.1) h5884.1 hk  (rd5893) (rd5894) (by decide) (by omega)) cb_X7_readNumber ml_X7_130 im_X7_readNumber se_X7_readNumber (fun _ => o3) h5884 hk rfl rfl (rest := []) rfl (Nat.le_of_ble_eq_true rfl) ⟨Nat.le_of_ble_eq_true rfl, Nat.le_of_ble_eq_true rfl⟩ ⟨Nat.le_of_ble_eq_true rfl, Nat.le_of_ble_eq_true rfl⟩ (fun r σ6031 hp => ?_)
      obtain ⟨h6032, rd6034, rd6035, rfl⟩ := hp
      have h6033 := HK.trans h5884 h6032 (by decide)
      refine m_istore_n F (lv' := [(2, .int 0), (1, .int x5895), (0, .ref a)]) e_X7_readLease_32 (by decide) rfl ?_
      refine m_aload_n F rfl e_X7_readLease_33 ?_
      refine m_iconst F (v := 1) (by decide) e_X7_readLease_34 ?_
      refine m_bipush F (v := 48) (by decide) e_X7_readLease_35 ?_
      refine t_callV F e_X7_readLease_37 (s_X7_readNumberG (x_l X) V b M Z T _ _ a 1 48 1 (nI k5881.1) h6033.1 hk  (rd6034) (rd6035) (by decide) (by omega)) cb_X7_readNumber ml_X7_130 im_X7_readNumber se_X7_readNumber (fun _ => o3) h6033 hk rfl rfl (rest := []) rfl (Nat.le_of_ble_eq_true rfl) ⟨Nat.le_of_ble_eq_true rfl, Nat.le_of_ble_eq_true rfl⟩ ⟨Nat.le_of_ble_eq_true rfl, Nat.le_of_ble_eq_true rfl⟩ (fun r σ6037 hp => ?_)
      obtain ⟨h6038, rd6040, rd6041, rfl⟩ := hp
      have h6039 := HK.trans h6033 h6038 (by decide)
      refine m_istore_n F (lv' := [(3, .int 0), (2, .int 0), (1, .int x5895), (0, .ref a)]) e_X7_readLease_40 (by decide) rfl ?_
      refine m_aload_n F rfl e_X7_readLease_41 ?_
      refine m_iconst F (v := 0) (by decide) e_X7_readLease_42 ?_
      refine m_ldc F kc_X7_133 e_X7_readLease_43 ?_
      refine t_callV F e_X7_readLease_45 (s_X7_readNumberG (x_l X) V b M Z T _ _ a 0 200000 1 (nI k5881.1) h6039.1 hk  (rd6040) (rd6041) (by decide) (by omega)) cb_X7_readNumber ml_X7_130 im_X7_readNumber se_X7_readNumber (fun _ => o3) h6039 hk rfl rfl (rest := []) rfl (Nat.le_of_ble_eq_true rfl) ⟨Nat.le_of_ble_eq_true rfl, Nat.le_of_ble_eq_true rfl⟩ ⟨Nat.le_of_ble_eq_true rfl, Nat.le_of_ble_eq_true rfl⟩ (fun r σ6043 hp => ?_)
      obtain ⟨h6044, rd6046, rd6047, rfl⟩ := hp
      have h6045 := HK.trans h6039 h6044 (by decide)
      refine m_istore F (lv' := [(4, .int 0), (3, .int 0), (2, .int 0), (1, .int x5895), (0, .ref a)]) e_X7_readLease_48 (by decide) rfl ?_
      refine m_aload_n F rfl e_X7_readLease_50 ?_
      refine t_getC F e_X7_readLease_51 fl_X7_55 (fun _ => o3) h6045 hk (rd6046) ?_
      refine m_if_ne F e_X7_readLease_54 (fun _ => ?_) (fun q => absurd q (by decide))
      exact m_vret F hQ e_X7_readLease_69 (⟨h6045, (by unfold leaseS; dsimp only; rw [if_neg (by omega), ek5881, newK_1 e5887]; exact RES.l (rd6046) (rd6047) (by decide) (by decide) (by omega)), rfl⟩)
    · have hz9 : True := trivial
      refine m_istore_n F (lv' := [(1, .int x5895), (0, .ref a)]) e_X7_readLease_24 (by decide) rfl ?_
      refine m_aload_n F rfl e_X7_readLease_25 ?_
      refine m_iconst F (v := 0) (by decide) e_X7_readLease_26 ?_
      refine m_bipush F (v := 20) (by decide) e_X7_readLease_27 ?_
      refine t_callV F e_X7_readLease_29 (s_X7_readNumberG (x_l X) V b M Z T _ _ a 0 20 3 (nI k5881.1) h5884.1 hk  (rd5893) (rd5894) (by decide) (by omega)) cb_X7_readNumber ml_X7_130 im_X7_readNumber se_X7_readNumber (fun _ => o3) h5884 hk rfl rfl (rest := []) rfl (Nat.le_of_ble_eq_true rfl) ⟨Nat.le_of_ble_eq_true rfl, Nat.le_of_ble_eq_true rfl⟩ ⟨Nat.le_of_ble_eq_true rfl, Nat.le_of_ble_eq_true rfl⟩ (fun r σ6049 hp => ?_)
      obtain ⟨h6050, rd6052, rd6053, rfl⟩ := hp
      have h6051 := HK.trans h5884 h6050 (by decide)
      refine m_istore_n F (lv' := [(2, .int 0), (1, .int x5895), (0, .ref a)]) e_X7_readLease_32 (by decide) rfl ?_
      refine m_aload_n F rfl e_X7_readLease_33 ?_
      refine m_iconst F (v := 1) (by decide) e_X7_readLease_34 ?_
      refine m_bipush F (v := 48) (by decide) e_X7_readLease_35 ?_
      refine t_callV F e_X7_readLease_37 (s_X7_readNumberG (x_l X) V b M Z T _ _ a 1 48 3 (nI k5881.1) h6051.1 hk  (rd6052) (rd6053) (by decide) (by omega)) cb_X7_readNumber ml_X7_130 im_X7_readNumber se_X7_readNumber (fun _ => o3) h6051 hk rfl rfl (rest := []) rfl (Nat.le_of_ble_eq_true rfl) ⟨Nat.le_of_ble_eq_true rfl, Nat.le_of_ble_eq_true rfl⟩ ⟨Nat.le_of_ble_eq_true rfl, Nat.le_of_ble_eq_true rfl⟩ (fun r σ6055 hp => ?_)
      obtain ⟨h6056, rd6058, rd6059, rfl⟩ := hp
      have h6057 := HK.trans h6051 h6056 (by decide)
      refine m_istore_n F (lv' := [(3, .int 0), (2, .int 0), (1, .int x5895), (0, .ref a)]) e_X7_readLease_40 (by decide) rfl ?_
      refine m_aload_n F rfl e_X7_readLease_41 ?_
      refine m_iconst F (v := 0) (by decide) e_X7_readLease_42 ?_
      refine m_ldc F kc_X7_133 e_X7_readLease_43 ?_
      refine t_callV F e_X7_readLease_45 (s_X7_readNumberG (x_l X) V b M Z T _ _ a 0 200000 3 (nI k5881.1) h6057.1 hk  (rd6058) (rd6059) (by decide) (by omega)) cb_X7_readNumber ml_X7_130 im_X7_readNumber se_X7_readNumber (fun _ => o3) h6057 hk rfl rfl (rest := []) rfl (Nat.le_of_ble_eq_true rfl) ⟨Nat.le_of_ble_eq_true rfl, Nat.le_of_ble_eq_true rfl⟩ ⟨Nat.le_of_ble_eq_true rfl, Nat.le_of_ble_eq_true rfl⟩ (fun r σ6061 hp => ?_)
      obtain ⟨h6062, rd6064, rd6065, rfl⟩ := hp
      have h6063 := HK.trans h6057 h6062 (by decide)
      refine m_istore F (lv' := [(4, .int 0), (3, .int 0), (2, .int 0), (1, .int x5895), (0, .ref a)]) e_X7_readLease_48 (by decide) rfl ?_
      refine m_aload_n F rfl e_X7_readLease_50 ?_
      refine t_getC F e_X7_readLease_51 fl_X7_55 (fun _ => o3) h6063 hk (rd6064) ?_
      refine m_if_ne F e_X7_readLease_54 (fun _ => ?_) (fun q => absurd q (by decide))
      exact m_vret F hQ e_X7_readLease_69 (⟨h6063, (by unfold leaseS; dsimp only; rw [if_neg (by omega), ek5881, newK_3 e5887 e5888]; exact RES.l (rd6064) (rd6065) (by decide) (by decide) (by omega)), rfl⟩)
  · have c9 : nl ≥ 4 := by have hh := mt (nI_ltI (a := nl) (b := 4) (by omega) (by omega)).mpr q9; omega
    refine m_iconst F (v := 2) (by decide) e_X7_readLease_12 ?_
    refine m_goto F e_X7_readLease_13 ?_
    refine t_callV F e_X7_readLease_17 (s_X7_startLineR (x_l X) V b M Z T _ _ a 2 tp td n bk nx st tk vl py sd ln 0 (-1) t  h1.1 hk (by omega) rfl (by decide) ⟨rd5839, rd5840, rd5841, rd5842, rd5843, rd5844, rd5845, rd5846, rd5847, rd5848, rd5849, rd5850, rd5851⟩ (hB.keep (h1.2 tp (by rw [show kA _ tp = 2 from htp]; decide))) hn7 hsd htp htd hbk (by omega)) cb_X7_startLine ml_X7_124 im_X7_startLine se_X7_startLine (fun _ => o3) h1 hk rfl rfl (rest := []) rfl (Nat.le_of_ble_eq_true rfl) ⟨Nat.le_of_ble_eq_true rfl, Nat.le_of_ble_eq_true rfl⟩ ⟨Nat.le_of_ble_eq_true rfl, Nat.le_of_ble_eq_true rfl⟩ (fun r σ6067 hp => ?_)
    obtain ⟨h6068, hp⟩ := hp
    have h6069 := HK.trans h1 h6068 (by decide)
    have bx6070 := hp5.hk hbk h6068 (by decide) (by decide) (by decide)
    have tq6071 := hp6.keep (h6068.2 td (by rw [show kA _ td = 4 from htd]; decide))
    obtain ⟨⟨rd6072, rd6073⟩, rfl⟩ := hp
    refine m_aload_n F rfl e_X7_readLease_20 ?_
    refine t_callV F e_X7_readLease_21 (s_X7_readNewNameG (x_l X) V b M Z T _ _ a  2 (nI st) h6069.1 hk  (rd6072) (rd6073) (by decide) (by omega)) cb_X7_readNewName ml_X7_127 im_X7_readNewName se_X7_readNewName (fun _ => o3) h6069 hk rfl rfl (rest := []) rfl (Nat.le_of_ble_eq_true rfl) ⟨Nat.le_of_ble_eq_true rfl, Nat.le_of_ble_eq_true rfl⟩ ⟨Nat.le_of_ble_eq_true rfl, Nat.le_of_ble_eq_true rfl⟩ (fun r σ6074 hp => ?_)
    obtain ⟨h6075, rd6077, rd6078, x6079, rfl⟩ := hp
    have h6076 := HK.trans h6069 h6075 (by decide)
    refine m_istore_n F (lv' := [(1, .int x6079), (0, .ref a)]) e_X7_readLease_24 (by decide) rfl ?_
    refine m_aload_n F rfl e_X7_readLease_25 ?_
    refine m_iconst F (v := 0) (by decide) e_X7_readLease_26 ?_
    refine m_bipush F (v := 20) (by decide) e_X7_readLease_27 ?_
    refine t_callV F e_X7_readLease_29 (s_X7_readNumberG (x_l X) V b M Z T _ _ a 0 20 2 (nI st) h6076.1 hk  (rd6077) (rd6078) (by decide) (by omega)) cb_X7_readNumber ml_X7_130 im_X7_readNumber se_X7_readNumber (fun _ => o3) h6076 hk rfl rfl (rest := []) rfl (Nat.le_of_ble_eq_true rfl) ⟨Nat.le_of_ble_eq_true rfl, Nat.le_of_ble_eq_true rfl⟩ ⟨Nat.le_of_ble_eq_true rfl, Nat.le_of_ble_eq_true rfl⟩ (fun r σ6080 hp => ?_)
    obtain ⟨h6081, rd6083, rd6084, rfl⟩ := hp
    have h6082 := HK.trans h6076 h6081 (by decide)
    refine m_istore_n F (lv' := [(2, .int 0), (1, .int x6079), (0, .ref a)]) e_X7_readLease_32 (by decide) rfl ?_
    refine m_aload_n F rfl e_X7_readLease_33 ?_
    refine m_iconst F (v := 1) (by decide) e_X7_readLease_34 ?_
    refine m_bipush F (v := 48) (by decide) e_X7_readLease_35 ?_
    refine t_callV F e_X7_readLease_37 (s_X7_readNumberG (x_l X) V b M Z T _ _ a 1 48 2 (nI st) h6082.1 hk  (rd6083) (rd6084) (by decide) (by omega)) cb_X7_readNumber ml_X7_130 im_X7_readNumber se_X7_readNumber (fun _ => o3) h6082 hk rfl rfl (rest := []) rfl (Nat.le_of_ble_eq_true rfl) ⟨Nat.le_of_ble_eq_true rfl, Nat.le_of_ble_eq_true rfl⟩ ⟨Nat.le_of_ble_eq_true rfl, Nat.le_of_ble_eq_true rfl⟩ (fun r σ6086 hp => ?_)
    obtain ⟨h6087, rd6089, rd6090, rfl⟩ := hp
    have h6088 := HK.trans h6082 h6087 (by decide)
    refine m_istore_n F (lv' := [(3, .int 0), (2, .int 0), (1, .int x6079), (0, .ref a)]) e_X7_readLease_40 (by decide) rfl ?_
    refine m_aload_n F rfl e_X7_readLease_41 ?_
    refine m_iconst F (v := 0) (by decide) e_X7_readLease_42 ?_
    refine m_ldc F kc_X7_133 e_X7_readLease_43 ?_
    refine t_callV F e_X7_readLease_45 (s_X7_readNumberG (x_l X) V b M Z T _ _ a 0 200000 2 (nI st) h6088.1 hk  (rd6089) (rd6090) (by decide) (by omega)) cb_X7_readNumber ml_X7_130 im_X7_readNumber se_X7_readNumber (fun _ => o3) h6088 hk rfl rfl (rest := []) rfl (Nat.le_of_ble_eq_true rfl) ⟨Nat.le_of_ble_eq_true rfl, Nat.le_of_ble_eq_true rfl⟩ ⟨Nat.le_of_ble_eq_true rfl, Nat.le_of_ble_eq_true rfl⟩ (fun r σ6092 hp => ?_)
    obtain ⟨h6093, rd6095, rd6096, rfl⟩ := hp
    have h6094 := HK.trans h6088 h6093 (by decide)
    refine m_istore F (lv' := [(4, .int 0), (3, .int 0), (2, .int 0), (1, .int x6079), (0, .ref a)]) e_X7_readLease_48 (by decide) rfl ?_
    refine m_aload_n F rfl e_X7_readLease_50 ?_
    refine t_getC F e_X7_readLease_51 fl_X7_55 (fun _ => o3) h6094 hk (rd6095) ?_
    refine m_if_ne F e_X7_readLease_54 (fun _ => ?_) (fun q => absurd q (by decide))
    exact m_vret F hQ e_X7_readLease_69 (⟨h6094, (by unfold leaseS; dsimp only; rw [if_pos (by omega)]; exact RES.l (rd6095) (rd6096) (by decide) (by decide) (by omega)), rfl⟩)
set_option maxRecDepth 20000 in
theorem s_X7_readPayE (l : Launch) (V : VX) (b M Z T N : Nat) (σ : Mem) (a : Nat) (tp : Nat) (td : Nat) (n : Nat) (bk : Nat) (nx : Nat) (st : Nat) (tk : Int32) (vl : Int32) (py : Nat) (sd : Nat) (ln : Nat) (ft : Int32) (pl : Int32) (t : Nat → Nat) (s9 : Nat) (v9 : Nat) (nl : Nat) (nm : Nat → Nat) (nc : Nat) (lc : Nat) (no : Nat) (md : Nat → Nat → Bool) (h0 : HT V (b, M, Z, T) σ) (hk : kA b a = 3) (hp0 : ft = 0) (hp1 : CT tk vl s9 v9) (hp2 : nx ≤ n) (hp3 : st ≤ n) (hp4 : pl = -1) (hp5 : BX σ bk nl nm nc lc no) (hp6 : TD V σ td nl md) (hp7 : py ≤ 12) (hR : RD σ a tp td n bk nx st tk vl py sd ln ft pl) (hB : BY V σ tp n t) (hn7 : n ≤ 700) (hsd : sd ≤ 1) (htp : kA b tp = 2) (htd : kA b td = 4) (hbk : kA b bk = 7) (hM : M + 0 ≤ 1000000000) : Ct l V yX7_readPay cX7_readPay 5 none 4 0 0 N σ [.ref a] (fun r τ => HK V (b, M, Z, T) [0, 1, 2, 4, 5, 7, 8, 9, 10, 11, 12, 13, 14, 15, 16, 18, 19] σ τ ∧ RES V τ a tp td n bk (payS (tok t n) (st, s9, v9, nx) nl nm py nc lc no sd md ln) ∧ r = none) := by
  refine Ct.of (by decide) (Nat.le_of_ble_eq_true rfl) [(0, .ref a)] rfl (fun X hX F hQ => ?_)
  have h1 : HK V (b, M, Z, T) [0, 1, 2, 4, 5, 7, 8, 9, 10, 11, 12, 13, 14, 15, 16, 18, 19] σ σ := HK.start h0
  have hrd6098 := hR
  obtain ⟨rd6098, rd6099, rd6100, rd6101, rd6102, rd6103, rd6104, rd6105, rd6106, rd6107, rd6108, rd6109, rd6110⟩ := hrd6098
  subst hp0
  subst hp4
  have hbb6111 := hp5
  obtain ⟨bb6111, bb6112, bb6113, bb6114, bb6115, bb6116, bb6117, bb6118⟩ := hbb6111
  have hl4 := hp5.2.2.2.2.2.1
  refine m_aload_n F rfl e_X7_readPay_0 ?_
  refine m_aload_n F rfl e_X7_readPay_1 ?_
  refine t_getC F e_X7_readPay_2 fl_X7_45 (fun _ => o3) h1 hk (rd6106) ?_
  refine m_bipush F (v := 12) (by decide) e_X7_readPay_5 ?_
  refine m_icmp_lt F e_X7_readPay_7 (fun q7 => ?_) (fun q7 => ?_)
  · have c7 : py < 12 := (nI_ltI (a := py) (b := 12) (by omega) (by omega)).mp q7
    refine m_iconst F (v := 0) (by decide) e_X7_readPay_14 ?_
    refine t_callV F e_X7_readPay_15 (s_X7_startLineE (x_l X) V b M Z T _ _ a 0 tp td n bk nx st tk vl py sd ln 0 (-1) t s9 v9 h1.1 hk rfl hp1 (by omega) (by omega) rfl ⟨rd6098, rd6099, rd6100, rd6101, rd6102, rd6103, rd6104, rd6105, rd6106, rd6107, rd6108, rd6109, rd6110⟩ (hB.keep (h1.2 tp (by rw [show kA _ tp = 2 from htp]; decide))) hn7 hsd htp htd hbk (by omega)) cb_X7_startLine ml_X7_124 im_X7_startLine se_X7_startLine (fun _ => o3) h1 hk rfl rfl (rest := []) rfl (Nat.le_of_ble_eq_true rfl) ⟨Nat.le_of_ble_eq_true rfl, Nat.le_of_ble_eq_true rfl⟩ ⟨Nat.le_of_ble_eq_true rfl, Nat.le_of_ble_eq_true rfl⟩ (fun r σ6119 hp => ?_)
    obtain ⟨h6120, hp⟩ := hp
    have h6121 := HK.trans h1 h6120 (by decide)
    have bx6122 := hp5.hk hbk h6120 (by decide) (by decide) (by decide)
    have tq6123 := hp6.keep (h6120.2 td (by rw [show kA _ td = 4 from htd]; decide))
    obtain ⟨⟨tk6124, vl6125, ct6126, rd6127, rd6128, rd6129, rd6130, rd6131, rd6132, rd6133, rd6134, rd6135, rd6136, rd6137, rd6138, rd6139⟩, rfl⟩ := hp
    generalize ek6140 : tok t n nx = k6140 at ct6126 rd6131 rd6132
    have bk6140 := tok_ok (t := t) (n := n) nx (by omega)
    rw [ek6140] at bk6140
    refine m_aload_n F rfl e_X7_readPay_18 ?_
    refine t_callV F e_X7_readPay_19 (s_X7_readToldNameE (x_l X) V b M Z T _ _ a  tp td n bk k6140.2.2.2 k6140.1 tk6124 vl6125 py sd ln 0 (-1) t k6140.2.1 k6140.2.2.1 nl nm nc lc no  h6121.1 hk rfl ct6126 (by omega) (by omega) bx6122 ⟨rd6127, rd6128, rd6129, rd6130, rd6131, rd6132, rd6133, rd6134, rd6135, rd6136, rd6137, rd6138, rd6139⟩ (hB.keep (h6121.2 tp (by rw [show kA _ tp = 2 from htp]; decide))) hn7 hsd htp htd hbk (by omega)) cb_X7_readToldName ml_X7_138 im_X7_readToldName se_X7_readToldName (fun _ => o3) h6121 hk rfl rfl (rest := []) rfl (Nat.le_of_ble_eq_true rfl) ⟨Nat.le_of_ble_eq_true rfl, Nat.le_of_ble_eq_true rfl⟩ ⟨Nat.le_of_ble_eq_true rfl, Nat.le_of_ble_eq_true rfl⟩ (fun r σ6141 hp => ?_)
    obtain ⟨h6142, hp⟩ := hp
    have h6143 := HK.trans h6121 h6142 (by decide)
    have bx6144 := bx6122.hk hbk h6142 (by decide) (by decide) (by decide)
    have tq6145 := tq6123.keep (h6142.2 td (by rw [show kA _ td = 4 from htd]; decide))
    rcases hp with ⟨e6146, e6147, ⟨tk6149, vl6150, ct6151, rd6156, rd6157, rd6158, rd6159, rd6160, rd6161, rd6162, rd6163, rd6164, rd6165, rd6166, rd6167, rd6168⟩, rfl⟩ | ⟨e6146, ⟨rd6152, rd6153⟩, x6154, rfl⟩ | ⟨e6146, e6147, ⟨rd6152, rd6153⟩, x6154, rfl⟩
    · have hv9 := ct6126.w e6146
      generalize ek6169 : tok t n k6140.2.2.2 = k6169 at ct6151 rd6160 rd6161
      have bk6169 := tok_ok (t := t) (n := n) k6140.2.2.2 (by omega)
      rw [ek6169] at bk6169
      refine m_istore_n F (lv' := [(1, .int (nI (fx nm k6140.2.2.1 nl))), (0, .ref a)]) e_X7_readPay_22 (by decide) rfl ?_
      refine m_aload_n F rfl e_X7_readPay_23 ?_
      refine m_iconst F (v := 1) (by decide) e_X7_readPay_24 ?_
      refine m_bipush F (v := 48) (by decide) e_X7_readPay_25 ?_
      refine t_callV F e_X7_readPay_27 (s_X7_readNumberE (x_l X) V b M Z T _ _ a 1 48 tp td n bk k6169.2.2.2 k6169.1 tk6149 vl6150 py sd ln 0 (-1) t k6169.2.1 k6169.2.2.1 h6143.1 hk (by omega) (by omega) rfl ct6151 (by omega) (by omega) ⟨rd6156, rd6157, rd6158, rd6159, rd6160, rd6161, rd6162, rd6163, rd6164, rd6165, rd6166, rd6167, rd6168⟩ (hB.keep (h6143.2 tp (by rw [show kA _ tp = 2 from htp]; decide))) hn7 hsd htp htd hbk (by omega)) cb_X7_readNumber ml_X7_130 im_X7_readNumber se_X7_readNumber (fun _ => o3) h6143 hk rfl rfl (rest := []) rfl (Nat.le_of_ble_eq_true rfl) ⟨Nat.le_of_ble_eq_true rfl, Nat.le_of_ble_eq_true rfl⟩ ⟨Nat.le_of_ble_eq_true rfl, Nat.le_of_ble_eq_true rfl⟩ (fun r σ6170 hp => ?_)
      obtain ⟨h6171, hp⟩ := hp
      have h6172 := HK.trans h6143 h6171 (by decide)
      have bx6173 := bx6144.hk hbk h6171 (by decide) (by decide) (by decide)
      have tq6174 := tq6145.keep (h6171.2 td (by rw [show kA _ td = 4 from htd]; decide))
      rcases hp with ⟨e6175, l6177, l6178, ⟨tk6179, vl6180, ct6181, rd6182, rd6183, rd6184, rd6185, rd6186, rd6187, rd6188, rd6189, rd6190, rd6191, rd6192, rd6193, rd6194⟩, rfl⟩ | ⟨e6175, ⟨rd6182, rd6183, rd6184, rd6185, rd6186, rd6187, rd6188, rd6189, rd6190, rd6191, rd6192, rd6193, rd6194⟩, rfl⟩ | ⟨e6175, e6176, ⟨rd6182, rd6183, rd6184, rd6185, rd6186, rd6187, rd6188, rd6189, rd6190, rd6191, rd6192, rd6193, rd6194⟩, rfl⟩
      · generalize ek6195 : tok t n k6169.2.2.2 = k6195 at ct6181 rd6186 rd6187
        have bk6195 := tok_ok (t := t) (n := n) k6169.2.2.2 (by omega)
        rw [ek6195] at bk6195
        refine m_istore_n F (lv' := [(2, .int (nI k6169.2.2.1)), (1, .int (nI (fx nm k6140.2.2.1 nl))), (0, .ref a)]) e_X7_readPay_30 (by decide) rfl ?_
        refine m_aload_n F rfl e_X7_readPay_31 ?_
        refine m_iload_n F rfl e_X7_readPay_32 ?_
        refine m_bipush F (v := 48) (by decide) e_X7_readPay_33 ?_
        refine t_callV F e_X7_readPay_35 (s_X7_readNumberE (x_l X) V b M Z T _ _ a k6169.2.2.1 48 tp td n bk k6195.2.2.2 k6195.1 tk6179 vl6180 py sd ln 0 (-1) t k6195.2.1 k6195.2.2.1 h6172.1 hk (by omega) (by omega) rfl ct6181 (by omega) (by omega) ⟨rd6182, rd6183, rd6184, rd6185, rd6186, rd6187, rd6188, rd6189, rd6190, rd6191, rd6192, rd6193, rd6194⟩ (hB.keep (h6172.2 tp (by rw [show kA _ tp = 2 from htp]; decide))) hn7 hsd htp htd hbk (by omega)) cb_X7_readNumber ml_X7_130 im_X7_readNumber se_X7_readNumber (fun _ => o3) h6172 hk rfl rfl (rest := []) rfl (Nat.le_of_ble_eq_true rfl) ⟨Nat.le_of_ble_eq_true rfl, Nat.le_of_ble_eq_true rfl⟩ ⟨Nat.le_of_ble_eq_true rfl, Nat.le_of_ble_eq_true rfl⟩ (fun r σ6196 hp => ?_)
        obtain ⟨h6197, hp⟩ := hp
        have h6198 := HK.trans h6172 h6197 (by decide)
        have bx6199 := bx6173.hk hbk h6197 (by decide) (by decide) (by decide)
        have tq6200 := tq6174.keep (h6197.2 td (by rw [show kA _ td = 4 from htd]; decide))
        rcases hp with ⟨e6201, l6203, l6204, ⟨tk6205, vl6206, ct6207, rd6208, rd6209, rd6210, rd6211, rd6212, rd6213, rd6214, rd6215, rd6216, rd6217, rd6218, rd6219, rd6220⟩, rfl⟩ | ⟨e6201, ⟨rd6208, rd6209, rd6210, rd6211, rd6212, rd6213, rd6214, rd6215, rd6216, rd6217, rd6218, rd6219, rd6220⟩, rfl⟩ | ⟨e6201, e6202, ⟨rd6208, rd6209, rd6210, rd6211, rd6212, rd6213, rd6214, rd6215, rd6216, rd6217, rd6218, rd6219, rd6220⟩, rfl⟩
        · generalize ek6221 : tok t n k6195.2.2.2 = k6221 at ct6207 rd6212 rd6213
          have bk6221 := tok_ok (t := t) (n := n) k6195.2.2.2 (by omega)
          rw [ek6221] at bk6221
          refine m_istore_n F (lv' := [(3, .int (nI k6195.2.2.1)), (2, .int (nI k6169.2.2.1)), (1, .int (nI (fx nm k6140.2.2.1 nl))), (0, .ref a)]) e_X7_readPay_38 (by decide) rfl ?_
          refine m_aload_n F rfl e_X7_readPay_39 ?_
          refine m_iconst F (v := 0) (by decide) e_X7_readPay_40 ?_
          refine m_ldc F kc_X7_141 e_X7_readPay_41 ?_
          refine t_callV F e_X7_readPay_43 (s_X7_readNumberE (x_l X) V b M Z T _ _ a 0 99999 tp td n bk k6221.2.2.2 k6221.1 tk6205 vl6206 py sd ln 0 (-1) t k6221.2.1 k6221.2.2.1 h6198.1 hk (by omega) (by omega) rfl ct6207 (by omega) (by omega) ⟨rd6208, rd6209, rd6210, rd6211, rd6212, rd6213, rd6214, rd6215, rd6216, rd6217, rd6218, rd6219, rd6220⟩ (hB.keep (h6198.2 tp (by rw [show kA _ tp = 2 from htp]; decide))) hn7 hsd htp htd hbk (by omega)) cb_X7_readNumber ml_X7_130 im_X7_readNumber se_X7_readNumber (fun _ => o3) h6198 hk rfl rfl (rest := []) rfl (Nat.le_of_ble_eq_true rfl) ⟨Nat.le_of_ble_eq_true rfl, Nat.le_of_ble_eq_true rfl⟩ ⟨Nat.le_of_ble_eq_true rfl, Nat.le_of_ble_eq_true rfl⟩ (fun r σ6222 hp => ?_)
          obtain ⟨h6223, hp⟩ := hp
          have h6224 := HK.trans h6198 h6223 (by decide)
          have bx6225 := bx6199.hk hbk h6223 (by decide) (by decide) (by decide)
          have tq6226 := tq6200.keep (h6223.2 td (by rw [show kA _ td = 4 from htd]; decide))
          rcases hp with ⟨e6227, l6229, l6230, ⟨tk6231, vl6232, ct6233, rd6234, rd6235, rd6236, rd6237, rd6238, rd6239, rd6240, rd6241, rd6242, rd6243, rd6244, rd6245, rd6246⟩, rfl⟩ | ⟨e6227, ⟨rd6234, rd6235, rd6236, rd6237, rd6238, rd6239, rd6240, rd6241, rd6242, rd6243, rd6244, rd6245, rd6246⟩, rfl⟩ | ⟨e6227, e6228, ⟨rd6234, rd6235, rd6236, rd6237, rd6238, rd6239, rd6240, rd6241, rd6242, rd6243, rd6244, rd6245, rd6246⟩, rfl⟩
          · generalize ek6247 : tok t n k6221.2.2.2 = k6247 at ct6233 rd6238 rd6239
            have bk6247 := tok_ok (t := t) (n := n) k6221.2.2.2 (by omega)
            rw [ek6247] at bk6247
            refine m_istore F (lv' := [(4, .int (nI k6221.2.2.1)), (3, .int (nI k6195.2.2.1)), (2, .int (nI k6169.2.2.1)), (1, .int (nI (fx nm k6140.2.2.1 nl))), (0, .ref a)]) e_X7_readPay_46 (by decide) rfl ?_
            refine m_aload_n F rfl e_X7_readPay_48 ?_
            refine t_getC F e_X7_readPay_49 fl_X7_55 (fun _ => o3) h6224 hk (rd6245) ?_
            refine m_if_ne F e_X7_readPay_52 (fun q => absurd (by decide) q) (fun _ => ?_)
            refine m_aload_n F rfl e_X7_readPay_55 ?_
            refine m_dup F rfl e_X7_readPay_56 ?_
            refine t_getC F e_X7_readPay_57 fl_X7_45 (fun _ => o3) h6224 hk (rd6242) ?_
            refine m_iconst F (v := 1) (by decide) e_X7_readPay_60 ?_
            refine m_iadd F e_X7_readPay_61 ?_
            refine Wm.topE (w := nI (py + 1)) (nI_add py 1) ?_
            refine t_putC F e_X7_readPay_62 fp_X7_45 (fun _ => o3) h6224 hk rfl ⟨_, rfl⟩ rfl rfl (by decide) (fun σ6248 h6249 g6250 g6251 f6252 => ?_)
            have bx6253 := bx6225.keep hbk (fld_eq (g6250 bk (kdn hbk hk (by decide)))) (fld_eq (g6250 bk (kdn hbk hk (by decide)))) (fld_eq (g6250 bk (kdn hbk hk (by decide)))) (g6250 (bk + 4) (kdn (kA_7 hbk (r := 4) (by decide) : kA b (bk + 4) = 11) hk (by decide))) (fun x hx => fld_eq (g6250 x (kdn hx hk (by decide))))
            have tq6254 := tq6226.keep (g6250 td (kdn htd hk (by decide)))
            refine m_aload_n F rfl e_X7_readPay_65 ?_
            refine t_getC F e_X7_readPay_66 fl_X7_23 (fun _ => o3) h6249 hk ((g6251 2 (by decide)).trans rd6236) ?_
            refine t_get F e_X7_readPay_69 fl_X7_142 (fun _ => o7) h6249 hbk rfl (fun v hv f6255 => ?_)
            obtain rfl : v = .ref (bk + 1) := hv
            refine m_iload_n F rfl e_X7_readPay_72 ?_
            refine t_aald8 F (j := fx nm k6140.2.2.1 nl) e_X7_readPay_73 rfl h6249 (kA_7 hbk (r := 1) (by decide)) (nI_clamp (by omega)) (vp_in_nI (by omega) (by decide)) ?_
            refine m_iload_n F rfl e_X7_readPay_74 ?_
            refine m_iconst F (v := 1) (by decide) e_X7_readPay_75 ?_
            refine m_isub F e_X7_readPay_76 ?_
            refine Wm.topE (w := nI (k6169.2.2.1 - 1)) (pk_sub (a := k6169.2.2.1) (b := 1) (by omega)) ?_
            refine m_iload_n F rfl e_X7_readPay_77 ?_
            refine m_iconst F (v := 1) (by decide) e_X7_readPay_78 ?_
            refine m_isub F e_X7_readPay_79 ?_
            refine Wm.topE (w := nI (k6195.2.2.1 - 1)) (pk_sub (a := k6195.2.2.1) (b := 1) (by omega)) ?_
            refine m_iload F rfl e_X7_readPay_80 ?_
            refine t_callV F e_X7_readPay_82 (s_X5_payMore (x_l X) V b M Z T _ _ ((bk + 1) + 10 + 12 * (fx nm k6140.2.2.1 nl)) (nI (k6169.2.2.1 - 1)) (nI (k6195.2.2.1 - 1)) (nI k6221.2.2.1) h6249.1 (kA_8 (kA_7 hbk (r := 1) (by decide)) (j := fx nm k6140.2.2.1 nl) (by omega)) (by first | omega | assumption | decide | (rw [nI_ti (by omega)]; omega)) (by omega)) cb_X5_payMore ml_X7_146 im_X5_payMore se_X5_payMore (fun _ => o15) h6249 (kA_8 (kA_7 hbk (r := 1) (by decide)) (j := fx nm k6140.2.2.1 nl) (by omega)) rfl rfl (rest := []) rfl (Nat.le_of_ble_eq_true rfl) ⟨Nat.le_of_ble_eq_true rfl, Nat.le_of_ble_eq_true rfl⟩ ⟨Nat.le_of_ble_eq_true rfl, Nat.le_of_ble_eq_true rfl⟩ (fun r σ6256 hp => ?_)
            obtain ⟨h6258, rfl⟩ := hp
            have h6257 := HK.trans h6249 h6258 (by decide)
            have bx6259 := bx6253.hk hbk h6258 (by decide) (by decide) (by decide)
            have tq6260 := tq6254.keep (h6258.2 td (by rw [show kA _ td = 4 from htd]; decide))
            exact m_vret F hQ e_X7_readPay_85 (⟨h6257, (by unfold payS; dsimp only; rw [if_neg (by omega), ek6140, tolK_ok e6146 e6147, ek6169, numK_ok e6175 l6177 l6178, ek6195, numK_ok e6201 l6203 l6204, ek6221, numK_ok e6227 l6229 l6230, ek6247]; exact RES.r ct6233 ⟨(fld_eq (h6258.2 a (by rw [show kA _ a = 3 from hk]; decide))).trans ((g6251 0 (by decide)).trans rd6234), (fld_eq (h6258.2 a (by rw [show kA _ a = 3 from hk]; decide))).trans ((g6251 1 (by decide)).trans rd6235), (fld_eq (h6258.2 a (by rw [show kA _ a = 3 from hk]; decide))).trans ((g6251 2 (by decide)).trans rd6236), (fld_eq (h6258.2 a (by rw [show kA _ a = 3 from hk]; decide))).trans ((g6251 3 (by decide)).trans rd6237), (fld_eq (h6258.2 a (by rw [show kA _ a = 3 from hk]; decide))).trans ((g6251 4 (by decide)).trans rd6238), (fld_eq (h6258.2 a (by rw [show kA _ a = 3 from hk]; decide))).trans ((g6251 5 (by decide)).trans rd6239), (fld_eq (h6258.2 a (by rw [show kA _ a = 3 from hk]; decide))).trans ((g6251 6 (by decide)).trans rd6240), (fld_eq (h6258.2 a (by rw [show kA _ a = 3 from hk]; decide))).trans ((g6251 7 (by decide)).trans rd6241), (fld_eq (h6258.2 a (by rw [show kA _ a = 3 from hk]; decide))).trans f6252, (fld_eq (h6258.2 a (by rw [show kA _ a = 3 from hk]; decide))).trans ((g6251 9 (by decide)).trans rd6243), (fld_eq (h6258.2 a (by rw [show kA _ a = 3 from hk]; decide))).trans ((g6251 10 (by decide)).trans rd6244), (fld_eq (h6258.2 a (by rw [show kA _ a = 3 from hk]; decide))).trans ((g6251 11 (by decide)).trans rd6245), (fld_eq (h6258.2 a (by rw [show kA _ a = 3 from hk]; decide))).trans ((g6251 12 (by decide)).trans rd6246)⟩ bx6259 tq6260 (by omega) (by omega) (by omega) (by omega)), rfl⟩)
          · have hz9 : True := trivial
            refine m_istore F (lv' := [(4, .int 0), (3, .int (nI k6195.2.2.1)), (2, .int (nI k6169.2.2.1)), (1, .int (nI (fx nm k6140.2.2.1 nl))), (0, .ref a)]) e_X7_readPay_46 (by decide) rfl ?_
            refine m_aload_n F rfl e_X7_readPay_48 ?_
            refine t_getC F e_X7_readPay_49 fl_X7_55 (fun _ => o3) h6224 hk (rd6245) ?_
            refine m_if_ne F e_X7_readPay_52 (fun _ => ?_) (fun q => absurd q (by decide))
            exact m_vret F hQ e_X7_readPay_85 (⟨h6224, (by unfold payS; dsimp only; rw [if_neg (by omega), ek6140, tolK_ok e6146 e6147, ek6169, numK_ok e6175 l6177 l6178, ek6195, numK_ok e6201 l6203 l6204, ek6221, numK_1 e6227]; exact RES.l (rd6245) (rd6246) (by decide) (by decide) (by omega)), rfl⟩)
          · have hz9 : True := trivial
            refine m_istore F (lv' := [(4, .int 0), (3, .int (nI k6195.2.2.1)), (2, .int (nI k6169.2.2.1)), (1, .int (nI (fx nm k6140.2.2.1 nl))), (0, .ref a)]) e_X7_readPay_46 (by decide) rfl ?_
            refine m_aload_n F rfl e_X7_readPay_48 ?_
            refine t_getC F e_X7_readPay_49 fl_X7_55 (fun _ => o3) h6224 hk (rd6245) ?_
            refine m_if_ne F e_X7_readPay_52 (fun _ => ?_) (fun q => absurd q (by decide))
            exact m_vret F hQ e_X7_readPay_85 (⟨h6224, (by unfold payS; dsimp only; rw [if_neg (by omega), ek6140, tolK_ok e6146 e6147, ek6169, numK_ok e6175 l6177 l6178, ek6195, numK_ok e6201 l6203 l6204, ek6221, numK_2 e6227 e6228]; exact RES.l (rd6245) (rd6246) (by decide) (by decide) (by omega)), rfl⟩)
        · have hz9 : True := trivial
          refine m_istore_n F (lv' := [(3, .int 0), (2, .int (nI k6169.2.2.1)), (1, .int (nI (fx nm k6140.2.2.1 nl))), (0, .ref a)]) e_X7_readPay_38 (by decide) rfl ?_
          refine m_aload_n F rfl e_X7_readPay_39 ?_
          refine m_iconst F (v := 0) (by decide) e_X7_readPay_40 ?_
          refine m_ldc F kc_X7_141 e_X7_readPay_41 ?_
          refine t_callV F e_X7_readPay_43 (s_X7_readNumberG (x_l X) V b M Z T _ _ a 0 99999 1 (nI k6195.1) h6198.1 hk  (rd6219) (rd6220) (by decide) (by omega)) cb_X7_readNumber ml_X7_130 im_X7_readNumber se_X7_readNumber (fun _ => o3) h6198 hk rfl rfl (rest := []) rfl (Nat.le_of_ble_eq_true rfl) ⟨Nat.le_of_ble_eq_true rfl, Nat.le_of_ble_eq_true rfl⟩ ⟨Nat.le_of_ble_eq_true rfl, Nat.le_of_ble_eq_true rfl⟩ (fun r σ6261 hp => ?_)
          obtain ⟨h6262, rd6264, rd6265, rfl⟩ := hp
          have h6263 := HK.trans h6198 h6262 (by decide)
          refine m_istore F (lv' := [(4, .int 0), (3, .int 0), (2, .int (nI k6169.2.2.1)), (1, .int (nI (fx nm k6140.2.2.1 nl))), (0, .ref a)]) e_X7_readPay_46 (by decide) rfl ?_
          refine m_aload_n F rfl e_X7_readPay_48 ?_
          refine t_getC F e_X7_readPay_49 fl_X7_55 (fun _ => o3) h6263 hk (rd6264) ?_
          refine m_if_ne F e_X7_readPay_52 (fun _ => ?_) (fun q => absurd q (by decide))
          exact m_vret F hQ e_X7_readPay_85 (⟨h6263, (by unfold payS; dsimp only; rw [if_neg (by omega), ek6140, tolK_ok e6146 e6147, ek6169, numK_ok e6175 l6177 l6178, ek6195, numK_1 e6201]; exact RES.l (rd6264) (rd6265) (by decide) (by decide) (by omega)), rfl⟩)
        · have hz9 : True := trivial
          refine m_istore_n F (lv' := [(3, .int 0), (2, .int (nI k6169.2.2.1)), (1, .int (nI (fx nm k6140.2.2.1 nl))), (0, .ref a)]) e_X7_readPay_38 (by decide) rfl ?_
          refine m_aload_n F rfl e_X7_readPay_39 ?_
          refine m_iconst F (v := 0) (by decide) e_X7_readPay_40 ?_
          refine m_ldc F kc_X7_141 e_X7_readPay_41 ?_
          refine t_callV F e_X7_readPay_43 (s_X7_readNumberG (x_l X) V b M Z T _ _ a 0 99999 2 (nI k6195.1) h6198.1 hk  (rd6219) (rd6220) (by decide) (by omega)) cb_X7_readNumber ml_X7_130 im_X7_readNumber se_X7_readNumber (fun _ => o3) h6198 hk rfl rfl (rest := []) rfl (Nat.le_of_ble_eq_true rfl) ⟨Nat.le_of_ble_eq_true rfl, Nat.le_of_ble_eq_true rfl⟩ ⟨Nat.le_of_ble_eq_true rfl, Nat.le_of_ble_eq_true rfl⟩ (fun r σ6267 hp => ?_)
          obtain ⟨h6268, rd6270, rd6271, rfl⟩ := hp
          have h6269 := HK.trans h6198 h6268 (by decide)
          refine m_istore F (lv' := [(4, .int 0), (3, .int 0), (2, .int (nI k6169.2.2.1)), (1, .int (nI (fx nm k6140.2.2.1 nl))), (0, .ref a)]) e_X7_readPay_46 (by decide) rfl ?_
          refine m_aload_n F rfl e_X7_readPay_48 ?_
          refine t_getC F e_X7_readPay_49 fl_X7_55 (fun _ => o3) h6269 hk (rd6270) ?_
          refine m_if_ne F e_X7_readPay_52 (fun _ => ?_) (fun q => absurd q (by decide))
          exact m_vret F hQ e_X7_readPay_85 (⟨h6269, (by unfold payS; dsimp only; rw [if_neg (by omega), ek6140, tolK_ok e6146 e6147, ek6169, numK_ok e6175 l6177 l6178, ek6195, numK_2 e6201 e6202]; exact RES.l (rd6270) (rd6271) (by decide) (by decide) (by omega)), rfl⟩)
      · have hz9 : True := trivial
        refine m_istore_n F (lv' := [(2, .int 0), (1, .int (nI (fx nm k6140.2.2.1 nl))), (0, .ref a)]) e_X7_readPay_30 (by decide) rfl ?_
        refine m_aload_n F rfl e_X7_readPay_31 ?_
        refine m_iload_n F rfl e_X7_readPay_32 ?_
        refine m_bipush F (v := 48) (by decide) e_X7_readPay_33 ?_
        refine t_callV F e_X7_readPay_35 (s_X7_readNumberG (x_l X) V b M Z T _ _ a 0 48 1 (nI k6169.1) h6172.1 hk  (rd6193) (rd6194) (by decide) (by omega)) cb_X7_readNumber ml_X7_130 im_X7_readNumber se_X7_readNumber (fun _ => o3) h6172 hk rfl rfl (rest := []) rfl (Nat.le_of_ble_eq_true rfl) ⟨Nat.le_of_ble_eq_true rfl, Nat.le_of_ble_eq_true rfl⟩ ⟨Nat.le_of_ble_eq_true rfl, Nat.le_of_ble_eq_true rfl⟩ (fun r σ6273 hp => ?_)
        obtain ⟨h6274, rd6276, rd6277, rfl⟩ := hp
        have h6275 := HK.trans h6172 h6274 (by decide)
        refine m_istore_n F (lv' := [(3, .int 0), (2, .int 0), (1, .int (nI (fx nm k6140.2.2.1 nl))), (0, .ref a)]) e_X7_readPay_38 (by decide) rfl ?_
        refine m_aload_n F rfl e_X7_readPay_39 ?_
        refine m_iconst F (v := 0) (by decide) e_X7_readPay_40 ?_
        refine m_ldc F kc_X7_141 e_X7_readPay_41 ?_
        refine t_callV F e_X7_readPay_43 (s_X7_readNumberG (x_l X) V b M Z T _ _ a 0 99999 1 (nI k6169.1) h6275.1 hk  (rd6276) (rd6277) (by decide) (by omega)) cb_X7_readNumber ml_X7_130 im_X7_readNumber se_X7_readNumber (fun _ => o3) h6275 hk rfl rfl (rest := []) rfl (Nat.le_of_ble_eq_true rfl) ⟨Nat.le_of_ble_eq_true rfl, Nat.le_of_ble_eq_true rfl⟩ ⟨Nat.le_of_ble_eq_true rfl, Nat.le_of_ble_eq_true rfl⟩ (fun r σ6279 hp => ?_)
        obtain ⟨h6280, rd6282, rd6283, rfl⟩ := hp
        have h6281 := HK.trans h6275 h6280 (by decide)
        refine m_istore F (lv' := [(4, .int 0), (3, .int 0), (2, .int 0), (1, .int (nI (fx nm k6140.2.2.1 nl))), (0, .ref a)]) e_X7_readPay_46 (by decide) rfl ?_
        refine m_aload_n F rfl e_X7_readPay_48 ?_
        refine t_getC F e_X7_readPay_49 fl_X7_55 (fun _ => o3) h6281 hk (rd6282) ?_
        refine m_if_ne F e_X7_readPay_52 (fun _ => ?_) (fun q => absurd q (by decide))
        exact m_vret F hQ e_X7_readPay_85 (⟨h6281, (by unfold payS; dsimp only; rw [if_neg (by omega), ek6140, tolK_ok e6146 e6147, ek6169, numK_1 e6175]; exact RES.l (rd6282) (rd6283) (by decide) (by decide) (by omega)), rfl⟩)
      · have hz9 : True := trivial
        refine m_istore_n F (lv' := [(2, .int 0), (1, .int (nI (fx nm k6140.2.2.1 nl))), (0, .ref a)]) e_X7_readPay_30 (by decide) rfl ?_
        refine m_aload_n F rfl e_X7_readPay_31 ?_
        refine m_iload_n F rfl e_X7_readPay_32 ?_
        refine m_bipush F (v := 48) (by decide) e_X7_readPay_33 ?_
        refine t_callV F e_X7_readPay_35 (s_X7_readNumberG (x_l X) V b M Z T _ _ a 0 48 2 (nI k6169.1) h6172.1 hk  (rd6193) (rd6194) (by decide) (by omega)) cb_X7_readNumber ml_X7_130 im_X7_readNumber se_X7_readNumber (fun _ => o3) h6172 hk rfl rfl (rest := []) rfl (Nat.le_of_ble_eq_true rfl) ⟨Nat.le_of_ble_eq_true rfl, Nat.le_of_ble_eq_true rfl⟩ ⟨Nat.le_of_ble_eq_true rfl, Nat.le_of_ble_eq_true rfl⟩ (fun r σ6285 hp => ?_)
        obtain ⟨h6286, rd6288, rd6289, rfl⟩ := hp
        have h6287 := HK.trans h6172 h6286 (by decide)
        refine m_istore_n F (lv' := [(3, .int 0), (2, .int 0), (1, .int (nI (fx nm k6140.2.2.1 nl))), (0, .ref a)]) e_X7_readPay_38 (by decide) rfl ?_
        refine m_aload_n F rfl e_X7_readPay_39 ?_
        refine m_iconst F (v := 0) (by decide) e_X7_readPay_40 ?_
        refine m_ldc F kc_X7_141 e_X7_readPay_41 ?_
        refine t_callV F e_X7_readPay_43 (s_X7_readNumberG (x_l X) V b M Z T _ _ a 0 99999 2 (nI k6169.1) h6287.1 hk  (rd6288) (rd6289) (by decide) (by omega)) cb_X7_readNumber ml_X7_130 im_X7_readNumber se_X7_readNumber (fun _ => o3) h6287 hk rfl rfl (rest := []) rfl (Nat.le_of_ble_eq_true rfl) ⟨Nat.le_of_ble_eq_true rfl, Nat.le_of_ble_eq_true rfl⟩ ⟨Nat.le_of_ble_eq_true rfl, Nat.le_of_ble_eq_true rfl⟩ (fun r σ6291 hp => ?_)
        obtain ⟨h6292, rd6294, rd6295, rfl⟩ := hp
        have h6293 := HK.trans h6287 h6292 (by decide)
        refine m_istore F (lv' := [(4, .int 0), (3, .int 0), (2, .int 0), (1, .int (nI (fx nm k6140.2.2.1 nl))), (0, .ref a)]) e_X7_readPay_46 (by decide) rfl ?_
        refine m_aload_n F rfl e_X7_readPay_48 ?_
        refine t_getC F e_X7_readPay_49 fl_X7_55 (fun _ => o3) h6293 hk (rd6294) ?_
        refine m_if_ne F e_X7_readPay_52 (fun _ => ?_) (fun q => absurd q (by decide))
        exact m_vret F hQ e_X7_readPay_85 (⟨h6293, (by unfold payS; dsimp only; rw [if_neg (by omega), ek6140, tolK_ok e6146 e6147, ek6169, numK_2 e6175 e6176]; exact RES.l (rd6294) (rd6295) (by decide) (by decide) (by omega)), rfl⟩)
    · have hz9 : True := trivial
      refine m_istore_n F (lv' := [(1, .int x6154), (0, .ref a)]) e_X7_readPay_22 (by decide) rfl ?_
      refine m_aload_n F rfl e_X7_readPay_23 ?_
      refine m_iconst F (v := 1) (by decide) e_X7_readPay_24 ?_
      refine m_bipush F (v := 48) (by decide) e_X7_readPay_25 ?_
      refine t_callV F e_X7_readPay_27 (s_X7_readNumberG (x_l X) V b M Z T _ _ a 1 48 1 (nI k6140.1) h6143.1 hk  (rd6152) (rd6153) (by decide) (by omega)) cb_X7_readNumber ml_X7_130 im_X7_readNumber se_X7_readNumber (fun _ => o3) h6143 hk rfl rfl (rest := []) rfl (Nat.le_of_ble_eq_true rfl) ⟨Nat.le_of_ble_eq_true rfl, Nat.le_of_ble_eq_true rfl⟩ ⟨Nat.le_of_ble_eq_true rfl, Nat.le_of_ble_eq_true rfl⟩ (fun r σ6297 hp => ?_)
      obtain ⟨h6298, rd6300, rd6301, rfl⟩ := hp
      have h6299 := HK.trans h6143 h6298 (by decide)
      refine m_istore_n F (lv' := [(2, .int 0), (1, .int x6154), (0, .ref a)]) e_X7_readPay_30 (by decide) rfl ?_
      refine m_aload_n F rfl e_X7_readPay_31 ?_
      refine m_iload_n F rfl e_X7_readPay_32 ?_
      refine m_bipush F (v := 48) (by decide) e_X7_readPay_33 ?_
      refine t_callV F e_X7_readPay_35 (s_X7_readNumberG (x_l X) V b M Z T _ _ a 0 48 1 (nI k6140.1) h6299.1 hk  (rd6300) (rd6301) (by decide) (by omega)) cb_X7_readNumber ml_X7_130 im_X7_readNumber se_X7_readNumber (fun _ => o3) h6299 hk rfl rfl (rest := []) rfl (Nat.le_of_ble_eq_true rfl) ⟨Nat.le_of_ble_eq_true rfl, Nat.le_of_ble_eq_true rfl⟩ ⟨Nat.le_of_ble_eq_true rfl, Nat.le_of_ble_eq_true rfl⟩ (fun r σ6303 hp => ?_)
      obtain ⟨h6304, rd6306, rd6307, rfl⟩ := hp
      have h6305 := HK.trans h6299 h6304 (by decide)
      refine m_istore_n F (lv' := [(3, .int 0), (2, .int 0), (1, .int x6154), (0, .ref a)]) e_X7_readPay_38 (by decide) rfl ?_
      refine m_aload_n F rfl e_X7_readPay_39 ?_
      refine m_iconst F (v := 0) (by decide) e_X7_readPay_40 ?_
      refine m_ldc F kc_X7_141 e_X7_readPay_41 ?_
      refine t_callV F e_X7_readPay_43 (s_X7_readNumberG (x_l X) V b M Z T _ _ a 0 99999 1 (nI k6140.1) h6305.1 hk  (rd6306) (rd6307) (by decide) (by omega)) cb_X7_readNumber ml_X7_130 im_X7_readNumber se_X7_readNumber (fun _ => o3) h6305 hk rfl rfl (rest := []) rfl (Nat.le_of_ble_eq_true rfl) ⟨Nat.le_of_ble_eq_true rfl, Nat.le_of_ble_eq_true rfl⟩ ⟨Nat.le_of_ble_eq_true rfl, Nat.le_of_ble_eq_true rfl⟩ (fun r σ6309 hp => ?_)
      obtain ⟨h6310, rd6312, rd6313, rfl⟩ := hp
      have h6311 := HK.trans h6305 h6310 (by decide)
      refine m_istore F (lv' := [(4, .int 0), (3, .int 0), (2, .int 0), (1, .int x6154), (0, .ref a)]) e_X7_readPay_46 (by decide) rfl ?_
      refine m_aload_n F rfl e_X7_readPay_48 ?_
      refine t_getC F e_X7_readPay_49 fl_X7_55 (fun _ => o3) h6311 hk (rd6312) ?_
      refine m_if_ne F e_X7_readPay_52 (fun _ => ?_) (fun q => absurd q (by decide))
      exact m_vret F hQ e_X7_readPay_85 (⟨h6311, (by unfold payS; dsimp only; rw [if_neg (by omega), ek6140, tolK_1 e6146]; exact RES.l (rd6312) (rd6313) (by decide) (by decide) (by omega)), rfl⟩)
    · have hz9 : True := trivial
      refine m_istore_n F (lv' := [(1, .int x6154), (0, .ref a)]) e_X7_readPay_22 (by decide) rfl ?_
      refine m_aload_n F rfl e_X7_readPay_23 ?_
      refine m_iconst F (v := 1) (by decide) e_X7_readPay_24 ?_
      refine m_bipush F (v := 48) (by decide) e_X7_readPay_25 ?_
      refine t_callV F e_X7_readPay_27 (s_X7_readNumberG (x_l X) V b M Z T _ _ a 1 48 4 (nI k6140.1) h6143.1 hk  (rd6152) (rd6153) (by decide) (by omega)) cb_X7_readNumber ml_X7_130 im_X7_readNumber se_X7_readNumber (fun _ => o3) h6143 hk rfl rfl (rest := []) rfl (Nat.le_of_ble_eq_true rfl) ⟨Nat.le_of_ble_eq_true rfl, Nat.le_of_ble_eq_true rfl⟩ ⟨Nat.le_of_ble_eq_true rfl, Nat.le_of_ble_eq_true rfl⟩ (fun r σ6315 hp => ?_)
      obtain ⟨h6316, rd6318, rd6319, rfl⟩ := hp
      have h6317 := HK.trans h6143 h6316 (by decide)
      refine m_istore_n F (lv' := [(2, .int 0), (1, .int x6154), (0, .ref a)]) e_X7_readPay_30 (by decide) rfl ?_
      refine m_aload_n F rfl e_X7_readPay_31 ?_
      refine m_iload_n F rfl e_X7_readPay_32 ?_
      refine m_bipush F (v := 48) (by decide) e_X7_readPay_33 ?_
      refine t_callV F e_X7_readPay_35 (s_X7_readNumberG (x_l X) V b M Z T _ _ a 0 48 4 (nI k6140.1) h6317.1 hk  (rd6318) (rd6319) (by decide) (by omega)) cb_X7_readNumber ml_X7_130 im_X7_readNumber se_X7_readNumber (fun _ => o3) h6317 hk rfl rfl (rest := []) rfl (Nat.le_of_ble_eq_true rfl) ⟨Nat.le_of_ble_eq_true rfl, Nat.le_of_ble_eq_true rfl⟩ ⟨Nat.le_of_ble_eq_true rfl, Nat.le_of_ble_eq_true rfl⟩ (fun r σ6321 hp => ?_)
      obtain ⟨h6322, rd6324, rd6325, rfl⟩ := hp
      have h6323 := HK.trans h6317 h6322 (by decide)
      refine m_istore_n F (lv' := [(3, .int 0), (2, .int 0), (1, .int x6154), (0, .ref a)]) e_X7_readPay_38 (by decide) rfl ?_
      refine m_aload_n F rfl e_X7_readPay_39 ?_
      refine m_iconst F (v := 0) (by decide) e_X7_readPay_40 ?_
      refine m_ldc F kc_X7_141 e_X7_readPay_41 ?_
      refine t_callV F e_X7_readPay_43 (s_X7_readNumberG (x_l X) V b M Z T _ _ a 0 99999 4 (nI k6140.1) h6323.1 hk  (rd6324) (rd6325) (by decide) (by omega)) cb_X7_readNumber ml_X7_130 im_X7_readNumber se_X7_readNumber (fun _ => o3) h6323 hk rfl rfl (rest := []) rfl (Nat.le_of_ble_eq_true rfl) ⟨Nat.le_of_ble_eq_true rfl, Nat.le_of_ble_eq_true rfl⟩ ⟨Nat.le_of_ble_eq_true rfl, Nat.le_of_ble_eq_true rfl⟩ (fun r σ6327 hp => ?_)
      obtain ⟨h6328, rd6330, rd6331, rfl⟩ := hp
      have h6329 := HK.trans h6323 h6328 (by decide)
      refine m_istore F (lv' := [(4, .int 0), (3, .int 0), (2, .int 0), (1, .int x6154), (0, .ref a)]) e_X7_readPay_46 (by decide) rfl ?_
      refine m_aload_n F rfl e_X7_readPay_48 ?_
      refine t_getC F e_X7_readPay_49 fl_X7_55 (fun _ => o3) h6329 hk (rd6330) ?_
      refine m_if_ne F e_X7_readPay_52 (fun _ => ?_) (fun q => absurd q (by decide))
      exact m_vret F hQ e_X7_readPay_85 (⟨h6329, (by unfold payS; dsimp only; rw [if_neg (by omega), ek6140, tolK_4 e6146 e6147]; exact RES.l (rd6330) (rd6331) (by decide) (by decide) (by omega)), rfl⟩)
  · have c7 : py ≥ 12 := by have hh := mt (nI_ltI (a := py) (b := 12) (by omega) (by omega)).mpr q7; omega
    refine m_iconst F (v := 2) (by decide) e_X7_readPay_10 ?_
    refine m_goto F e_X7_readPay_11 ?_
    refine t_callV F e_X7_readPay_15 (s_X7_startLineR (x_l X) V b M Z T _ _ a 2 tp td n bk nx st tk vl py sd ln 0 (-1) t  h1.1 hk (by omega) rfl (by decide) ⟨rd6098, rd6099, rd6100, rd6101, rd6102, rd6103, rd6104, rd6105, rd6106, rd6107, rd6108, rd6109, rd6110⟩ (hB.keep (h1.2 tp (by rw [show kA _ tp = 2 from htp]; decide))) hn7 hsd htp htd hbk (by omega)) cb_X7_startLine ml_X7_124 im_X7_startLine se_X7_startLine (fun _ => o3) h1 hk rfl rfl (rest := []) rfl (Nat.le_of_ble_eq_true rfl) ⟨Nat.le_of_ble_eq_true rfl, Nat.le_of_ble_eq_true rfl⟩ ⟨Nat.le_of_ble_eq_true rfl, Nat.le_of_ble_eq_true rfl⟩ (fun r σ6333 hp => ?_)
    obtain ⟨h6334, hp⟩ := hp
    have h6335 := HK.trans h1 h6334 (by decide)
    have bx6336 := hp5.hk hbk h6334 (by decide) (by decide) (by decide)
    have tq6337 := hp6.keep (h6334.2 td (by rw [show kA _ td = 4 from htd]; decide))
    obtain ⟨⟨rd6338, rd6339⟩, rfl⟩ := hp
    refine m_aload_n F rfl e_X7_readPay_18 ?_
    refine t_callV F e_X7_readPay_19 (s_X7_readToldNameG (x_l X) V b M Z T _ _ a  2 (nI st) h6335.1 hk  (rd6338) (rd6339) (by decide) (by omega)) cb_X7_readToldName ml_X7_138 im_X7_readToldName se_X7_readToldName (fun _ => o3) h6335 hk rfl rfl (rest := []) rfl (Nat.le_of_ble_eq_true rfl) ⟨Nat.le_of_ble_eq_true rfl, Nat.le_of_ble_eq_true rfl⟩ ⟨Nat.le_of_ble_eq_true rfl, Nat.le_of_ble_eq_true rfl⟩ (fun r σ6340 hp => ?_)
    obtain ⟨h6341, rd6343, rd6344, x6345, rfl⟩ := hp
    have h6342 := HK.trans h6335 h6341 (by decide)
    refine m_istore_n F (lv' := [(1, .int x6345), (0, .ref a)]) e_X7_readPay_22 (by decide) rfl ?_
    refine m_aload_n F rfl e_X7_readPay_23 ?_
    refine m_iconst F (v := 1) (by decide) e_X7_readPay_24 ?_
    refine m_bipush F (v := 48) (by decide) e_X7_readPay_25 ?_
    refine t_callV F e_X7_readPay_27 (s_X7_readNumberG (x_l X) V b M Z T _ _ a 1 48 2 (nI st) h6342.1 hk  (rd6343) (rd6344) (by decide) (by omega)) cb_X7_readNumber ml_X7_130 im_X7_readNumber se_X7_readNumber (fun _ => o3) h6342 hk rfl rfl (rest := []) rfl (Nat.le_of_ble_eq_true rfl) ⟨Nat.le_of_ble_eq_true rfl, Nat.le_of_ble_eq_true rfl⟩ ⟨Nat.le_of_ble_eq_true rfl, Nat.le_of_ble_eq_true rfl⟩ (fun r σ6346 hp => ?_)
    obtain ⟨h6347, rd6349, rd6350, rfl⟩ := hp
    have h6348 := HK.trans h6342 h6347 (by decide)
    refine m_istore_n F (lv' := [(2, .int 0), (1, .int x6345), (0, .ref a)]) e_X7_readPay_30 (by decide) rfl ?_
    refine m_aload_n F rfl e_X7_readPay_31 ?_
    refine m_iload_n F rfl e_X7_readPay_32 ?_
    refine m_bipush F (v := 48) (by decide) e_X7_readPay_33 ?_
    refine t_callV F e_X7_readPay_35 (s_X7_readNumberG (x_l X) V b M Z T _ _ a 0 48 2 (nI st) h6348.1 hk  (rd6349) (rd6350) (by decide) (by omega)) cb_X7_readNumber ml_X7_130 im_X7_readNumber se_X7_readNumber (fun _ => o3) h6348 hk rfl rfl (rest := []) rfl (Nat.le_of_ble_eq_true rfl) ⟨Nat.le_of_ble_eq_true rfl, Nat.le_of_ble_eq_true rfl⟩ ⟨Nat.le_of_ble_eq_true rfl, Nat.le_of_ble_eq_true rfl⟩ (fun r σ6352 hp => ?_)
    obtain ⟨h6353, rd6355, rd6356, rfl⟩ := hp
    have h6354 := HK.trans h6348 h6353 (by decide)
    refine m_istore_n F (lv' := [(3, .int 0), (2, .int 0), (1, .int x6345), (0, .ref a)]) e_X7_readPay_38 (by decide) rfl ?_
    refine m_aload_n F rfl e_X7_readPay_39 ?_
    refine m_iconst F (v := 0) (by decide) e_X7_readPay_40 ?_
    refine m_ldc F kc_X7_141 e_X7_readPay_41 ?_
    refine t_callV F e_X7_readPay_43 (s_X7_readNumberG (x_l X) V b M Z T _ _ a 0 99999 2 (nI st) h6354.1 hk  (rd6355) (rd6356) (by decide) (by omega)) cb_X7_readNumber ml_X7_130 im_X7_readNumber se_X7_readNumber (fun _ => o3) h6354 hk rfl rfl (rest := []) rfl (Nat.le_of_ble_eq_true rfl) ⟨Nat.le_of_ble_eq_true rfl, Nat.le_of_ble_eq_true rfl⟩ ⟨Nat.le_of_ble_eq_true rfl, Nat.le_of_ble_eq_true rfl⟩ (fun r σ6358 hp => ?_)
    obtain ⟨h6359, rd6361, rd6362, rfl⟩ := hp
    have h6360 := HK.trans h6354 h6359 (by decide)
    refine m_istore F (lv' := [(4, .int 0), (3, .int 0), (2, .int 0), (1, .int x6345), (0, .ref a)]) e_X7_readPay_46 (by decide) rfl ?_
    refine m_aload_n F rfl e_X7_readPay_48 ?_
    refine t_getC F e_X7_readPay_49 fl_X7_55 (fun _ => o3) h6360 hk (rd6361) ?_
    refine m_if_ne F e_X7_readPay_52 (fun _ => ?_) (fun q => absurd q (by decide))
    exact m_vret F hQ e_X7_readPay_85 (⟨h6360, (by unfold payS; dsimp only; rw [if_pos (by omega)]; exact RES.l (rd6361) (rd6362) (by decide) (by decide) (by omega)), rfl⟩)
set_option maxRecDepth 20000 in
theorem s_X7_readEarlyE (l : Launch) (V : VX) (b M Z T N : Nat) (σ : Mem) (a : Nat) (tp : Nat) (td : Nat) (n : Nat) (bk : Nat) (nx : Nat) (st : Nat) (tk : Int32) (vl : Int32) (py : Nat) (sd : Nat) (ln : Nat) (ft : Int32) (pl : Int32) (t : Nat → Nat) (s9 : Nat) (v9 : Nat) (nl : Nat) (nm : Nat → Nat) (nc : Nat) (lc : Nat) (no : Nat) (md : Nat → Nat → Bool) (h0 : HT V (b, M, Z, T) σ) (hk : kA b a = 3) (hp0 : ft = 0) (hp1 : CT tk vl s9 v9) (hp2 : nx ≤ n) (hp3 : st ≤ n) (hp4 : pl = -1) (hp5 : BX σ bk nl nm nc lc no) (hp6 : TD V σ td nl md) (hp7 : py ≤ 12) (hR : RD σ a tp td n bk nx st tk vl py sd ln ft pl) (hB : BY V σ tp n t) (hn7 : n ≤ 700) (hsd : sd ≤ 1) (htp : kA b tp = 2) (htd : kA b td = 4) (hbk : kA b bk = 7) (hM : M + 0 ≤ 1000000000) : Ct l V yX7_readEarly cX7_readEarly 2 none 4 0 0 N σ [.ref a] (fun r τ => HK V (b, M, Z, T) [0, 1, 2, 5, 6, 7, 8, 9, 10, 11, 12, 13, 14, 16, 17, 18, 19] σ τ ∧ RES V τ a tp td n bk (earlyS (tok t n) (st, s9, v9, nx) nl nm py nc lc no sd md ln) ∧ r = none) := by
  refine Ct.of (by decide) (Nat.le_of_ble_eq_true rfl) [(0, .ref a)] rfl (fun X hX F hQ => ?_)
  have h1 : HK V (b, M, Z, T) [0, 1, 2, 5, 6, 7, 8, 9, 10, 11, 12, 13, 14, 16, 17, 18, 19] σ σ := HK.start h0
  have hrd6364 := hR
  obtain ⟨rd6364, rd6365, rd6366, rd6367, rd6368, rd6369, rd6370, rd6371, rd6372, rd6373, rd6374, rd6375, rd6376⟩ := hrd6364
  subst hp0
  subst hp4
  have hbb6377 := hp5
  obtain ⟨bb6377, bb6378, bb6379, bb6380, bb6381, bb6382, bb6383, bb6384⟩ := hbb6377
  have hl4 := hp5.2.2.2.2.2.1
  refine m_aload_n F rfl e_X7_readEarly_0 ?_
  refine m_iconst F (v := 0) (by decide) e_X7_readEarly_1 ?_
  refine t_callV F e_X7_readEarly_2 (s_X7_startLineE (x_l X) V b M Z T _ _ a 0 tp td n bk nx st tk vl py sd ln 0 (-1) t s9 v9 h1.1 hk rfl hp1 (by omega) (by omega) rfl ⟨rd6364, rd6365, rd6366, rd6367, rd6368, rd6369, rd6370, rd6371, rd6372, rd6373, rd6374, rd6375, rd6376⟩ (hB.keep (h1.2 tp (by rw [show kA _ tp = 2 from htp]; decide))) hn7 hsd htp htd hbk (by omega)) cb_X7_startLine ml_X7_124 im_X7_startLine se_X7_startLine (fun _ => o3) h1 hk rfl rfl (rest := []) rfl (Nat.le_of_ble_eq_true rfl) ⟨Nat.le_of_ble_eq_true rfl, Nat.le_of_ble_eq_true rfl⟩ ⟨Nat.le_of_ble_eq_true rfl, Nat.le_of_ble_eq_true rfl⟩ (fun r σ6385 hp => ?_)
  obtain ⟨h6386, hp⟩ := hp
  have h6387 := HK.trans h1 h6386 (by decide)
  have bx6388 := hp5.hk hbk h6386 (by decide) (by decide) (by decide)
  have tq6389 := hp6.keep (h6386.2 td (by rw [show kA _ td = 4 from htd]; decide))
  obtain ⟨⟨tk6390, vl6391, ct6392, rd6393, rd6394, rd6395, rd6396, rd6397, rd6398, rd6399, rd6400, rd6401, rd6402, rd6403, rd6404, rd6405⟩, rfl⟩ := hp
  generalize ek6406 : tok t n nx = k6406 at ct6392 rd6397 rd6398
  have bk6406 := tok_ok (t := t) (n := n) nx (by omega)
  rw [ek6406] at bk6406
  refine m_aload_n F rfl e_X7_readEarly_5 ?_
  refine m_iconst F (v := 1) (by decide) e_X7_readEarly_6 ?_
  refine t_callV F e_X7_readEarly_7 (s_X7_readNameOnceE (x_l X) V b M Z T _ _ a 1 tp td n bk k6406.2.2.2 k6406.1 tk6390 vl6391 py sd ln 0 (-1) t k6406.2.1 k6406.2.2.1 nl nm nc lc no md 0 h6387.1 hk (by omega) rfl ct6392 (by omega) (by omega) bx6388 tq6389 (by decide) (by decide) ⟨rd6393, rd6394, rd6395, rd6396, rd6397, rd6398, rd6399, rd6400, rd6401, rd6402, rd6403, rd6404, rd6405⟩ (hB.keep (h6387.2 tp (by rw [show kA _ tp = 2 from htp]; decide))) hn7 hsd htp htd hbk (by omega)) cb_X7_readNameOnce ml_X7_152 im_X7_readNameOnce se_X7_readNameOnce (fun _ => o3) h6387 hk rfl rfl (rest := []) rfl (Nat.le_of_ble_eq_true rfl) ⟨Nat.le_of_ble_eq_true rfl, Nat.le_of_ble_eq_true rfl⟩ ⟨Nat.le_of_ble_eq_true rfl, Nat.le_of_ble_eq_true rfl⟩ (fun r σ6407 hp => ?_)
  obtain ⟨h6408, hp⟩ := hp
  have h6409 := HK.trans h6387 h6408 (by decide)
  have bx6410 := bx6388.hk hbk h6408 (by decide) (by decide) (by decide)
  rcases hp with ⟨e6411, e6412, e6413, ⟨tk6414, vl6415, ct6416, rd6421, rd6422, rd6423, rd6424, rd6425, rd6426, rd6427, rd6428, rd6429, rd6430, rd6431, rd6432, rd6433⟩, tq6420, rfl⟩ | ⟨e6411, ⟨rd6417, rd6418⟩, x6419, rfl⟩ | ⟨e6411, e6412, ⟨rd6417, rd6418⟩, x6419, rfl⟩ | ⟨e6411, e6412, e6413, ⟨rd6417, rd6418⟩, x6419, rfl⟩
  · have hv9 := ct6392.w e6411
    generalize ek6434 : tok t n k6406.2.2.2 = k6434 at ct6416 rd6425 rd6426
    have bk6434 := tok_ok (t := t) (n := n) k6406.2.2.2 (by omega)
    rw [ek6434] at bk6434
    refine m_istore_n F (lv' := [(1, .int (nI (fx nm k6406.2.2.1 nl))), (0, .ref a)]) e_X7_readEarly_10 (by decide) rfl ?_
    refine m_aload_n F rfl e_X7_readEarly_11 ?_
    refine t_getC F e_X7_readEarly_12 fl_X7_55 (fun _ => o3) h6409 hk (rd6432) ?_
    refine m_if_ne F e_X7_readEarly_15 (fun q => absurd (by decide) q) (fun _ => ?_)
    refine m_aload_n F rfl e_X7_readEarly_18 ?_
    refine t_getC F e_X7_readEarly_19 fl_X7_23 (fun _ => o3) h6409 hk (rd6423) ?_
    refine t_get F e_X7_readEarly_22 fl_X7_142 (fun _ => o7) h6409 hbk rfl (fun v hv f6435 => ?_)
    obtain rfl : v = .ref (bk + 1) := hv
    refine m_iload_n F rfl e_X7_readEarly_25 ?_
    refine t_aald8 F (j := fx nm k6406.2.2.1 nl) e_X7_readEarly_26 rfl h6409 (kA_7 hbk (r := 1) (by decide)) (nI_clamp (by omega)) (vp_in_nI (by omega) (by decide)) ?_
    refine m_iconst F (v := 1) (by decide) e_X7_readEarly_27 ?_
    refine t_putC F e_X7_readEarly_28 fp_X7_156 (fun _ => o15) h6409 (kA_8 (kA_7 hbk (r := 1) (by decide)) (j := fx nm k6406.2.2.1 nl) (by omega)) rfl ⟨1, (show 1 ≤ 1 by omega), rfl⟩ (by decide) rfl (by decide) (fun σ6436 h6437 g6438 g6439 f6440 => ?_)
    have bx6441 := bx6410.keep hbk (fld_eq (g6438 bk (kdn hbk (kA_8 (kA_7 hbk (r := 1) (by decide)) (j := fx nm k6406.2.2.1 nl) (by omega)) (by decide)))) (fld_eq (g6438 bk (kdn hbk (kA_8 (kA_7 hbk (r := 1) (by decide)) (j := fx nm k6406.2.2.1 nl) (by omega)) (by decide)))) (fld_eq (g6438 bk (kdn hbk (kA_8 (kA_7 hbk (r := 1) (by decide)) (j := fx nm k6406.2.2.1 nl) (by omega)) (by decide)))) (g6438 (bk + 4) (kdn (kA_7 hbk (r := 4) (by decide) : kA b (bk + 4) = 11) (kA_8 (kA_7 hbk (r := 1) (by decide)) (j := fx nm k6406.2.2.1 nl) (by omega)) (by decide))) (fun x _ => put15 g6438 (g6439 0 (by decide)) x)
    have tq6442 := tq6420.keep (g6438 td (kdn htd (kA_8 (kA_7 hbk (r := 1) (by decide)) (j := fx nm k6406.2.2.1 nl) (by omega)) (by decide)))
    exact m_vret F hQ e_X7_readEarly_31 (⟨h6437, (by unfold earlyS; dsimp only; rw [ek6406, oncK_ok e6411 e6412 e6413, ek6434]; exact RES.r ct6416 ⟨(fld_eq (g6438 a (kdn hk (kA_8 (kA_7 hbk (r := 1) (by decide)) (j := fx nm k6406.2.2.1 nl) (by omega)) (by decide)))).trans rd6421, (fld_eq (g6438 a (kdn hk (kA_8 (kA_7 hbk (r := 1) (by decide)) (j := fx nm k6406.2.2.1 nl) (by omega)) (by decide)))).trans rd6422, (fld_eq (g6438 a (kdn hk (kA_8 (kA_7 hbk (r := 1) (by decide)) (j := fx nm k6406.2.2.1 nl) (by omega)) (by decide)))).trans rd6423, (fld_eq (g6438 a (kdn hk (kA_8 (kA_7 hbk (r := 1) (by decide)) (j := fx nm k6406.2.2.1 nl) (by omega)) (by decide)))).trans rd6424, (fld_eq (g6438 a (kdn hk (kA_8 (kA_7 hbk (r := 1) (by decide)) (j := fx nm k6406.2.2.1 nl) (by omega)) (by decide)))).trans rd6425, (fld_eq (g6438 a (kdn hk (kA_8 (kA_7 hbk (r := 1) (by decide)) (j := fx nm k6406.2.2.1 nl) (by omega)) (by decide)))).trans rd6426, (fld_eq (g6438 a (kdn hk (kA_8 (kA_7 hbk (r := 1) (by decide)) (j := fx nm k6406.2.2.1 nl) (by omega)) (by decide)))).trans rd6427, (fld_eq (g6438 a (kdn hk (kA_8 (kA_7 hbk (r := 1) (by decide)) (j := fx nm k6406.2.2.1 nl) (by omega)) (by decide)))).trans rd6428, (fld_eq (g6438 a (kdn hk (kA_8 (kA_7 hbk (r := 1) (by decide)) (j := fx nm k6406.2.2.1 nl) (by omega)) (by decide)))).trans rd6429, (fld_eq (g6438 a (kdn hk (kA_8 (kA_7 hbk (r := 1) (by decide)) (j := fx nm k6406.2.2.1 nl) (by omega)) (by decide)))).trans rd6430, (fld_eq (g6438 a (kdn hk (kA_8 (kA_7 hbk (r := 1) (by decide)) (j := fx nm k6406.2.2.1 nl) (by omega)) (by decide)))).trans rd6431, (fld_eq (g6438 a (kdn hk (kA_8 (kA_7 hbk (r := 1) (by decide)) (j := fx nm k6406.2.2.1 nl) (by omega)) (by decide)))).trans rd6432, (fld_eq (g6438 a (kdn hk (kA_8 (kA_7 hbk (r := 1) (by decide)) (j := fx nm k6406.2.2.1 nl) (by omega)) (by decide)))).trans rd6433⟩ bx6441 tq6442 (by omega) (by omega) (by omega) (by omega)), rfl⟩)
  · have hz9 : True := trivial
    refine m_istore_n F (lv' := [(1, .int x6419), (0, .ref a)]) e_X7_readEarly_10 (by decide) rfl ?_
    refine m_aload_n F rfl e_X7_readEarly_11 ?_
    refine t_getC F e_X7_readEarly_12 fl_X7_55 (fun _ => o3) h6409 hk (rd6417) ?_
    refine m_if_ne F e_X7_readEarly_15 (fun _ => ?_) (fun q => absurd q (by decide))
    exact m_vret F hQ e_X7_readEarly_31 (⟨h6409, (by unfold earlyS; dsimp only; rw [ek6406, oncK_1 e6411]; exact RES.l (rd6417) (rd6418) (by decide) (by decide) (by omega)), rfl⟩)
  · have hz9 : True := trivial
    refine m_istore_n F (lv' := [(1, .int x6419), (0, .ref a)]) e_X7_readEarly_10 (by decide) rfl ?_
    refine m_aload_n F rfl e_X7_readEarly_11 ?_
    refine t_getC F e_X7_readEarly_12 fl_X7_55 (fun _ => o3) h6409 hk (rd6417) ?_
    refine m_if_ne F e_X7_readEarly_15 (fun _ => ?_) (fun q => absurd q (by decide))
    exact m_vret F hQ e_X7_readEarly_31 (⟨h6409, (by unfold earlyS; dsimp only; rw [ek6406, oncK_4 e6411 e6412]; exact RES.l (rd6417) (rd6418) (by decide) (by decide) (by omega)), rfl⟩)
  · have hz9 : True := trivial
    refine m_istore_n F (lv' := [(1, .int x6419), (0, .ref a)]) e_X7_readEarly_10 (by decide) rfl ?_
    refine m_aload_n F rfl e_X7_readEarly_11 ?_
    refine t_getC F e_X7_readEarly_12 fl_X7_55 (fun _ => o3) h6409 hk (rd6417) ?_
    refine m_if_ne F e_X7_readEarly_15 (fun _ => ?_) (fun q => absurd q (by decide))
    exact m_vret F hQ e_X7_readEarly_31 (⟨h6409, (by unfold earlyS; dsimp only; rw [ek6406, oncK_3 e6411 e6412 e6413]; exact RES.l (rd6417) (rd6418) (by decide) (by decide) (by omega)), rfl⟩)
set_option maxRecDepth 20000 in
theorem s_X7_readTiedE (l : Launch) (V : VX) (b M Z T N : Nat) (σ : Mem) (a : Nat) (tp : Nat) (td : Nat) (n : Nat) (bk : Nat) (nx : Nat) (st : Nat) (tk : Int32) (vl : Int32) (py : Nat) (sd : Nat) (ln : Nat) (ft : Int32) (pl : Int32) (t : Nat → Nat) (s9 : Nat) (v9 : Nat) (nl : Nat) (nm : Nat → Nat) (nc : Nat) (lc : Nat) (no : Nat) (md : Nat → Nat → Bool) (h0 : HT V (b, M, Z, T) σ) (hk : kA b a = 3) (hp0 : ft = 0) (hp1 : CT tk vl s9 v9) (hp2 : nx ≤ n) (hp3 : st ≤ n) (hp4 : pl = -1) (hp5 : BX σ bk nl nm nc lc no) (hp6 : TD V σ td nl md) (hp7 : py ≤ 12) (hR : RD σ a tp td n bk nx st tk vl py sd ln ft pl) (hB : BY V σ tp n t) (hn7 : n ≤ 700) (hsd : sd ≤ 1) (htp : kA b tp = 2) (htd : kA b td = 4) (hbk : kA b bk = 7) (hM : M + 0 ≤ 1000000000) : Ct l V yX7_readTied cX7_readTied 2 none 4 0 0 N σ [.ref a] (fun r τ => HK V (b, M, Z, T) [0, 1, 2, 5, 6, 7, 8, 9, 10, 11, 12, 13, 14, 16, 17, 18, 19] σ τ ∧ RES V τ a tp td n bk (tiedS (tok t n) (st, s9, v9, nx) nl nm py nc lc no sd md ln) ∧ r = none) := by
  refine Ct.of (by decide) (Nat.le_of_ble_eq_true rfl) [(0, .ref a)] rfl (fun X hX F hQ => ?_)
  have h1 : HK V (b, M, Z, T) [0, 1, 2, 5, 6, 7, 8, 9, 10, 11, 12, 13, 14, 16, 17, 18, 19] σ σ := HK.start h0
  have hrd6443 := hR
  obtain ⟨rd6443, rd6444, rd6445, rd6446, rd6447, rd6448, rd6449, rd6450, rd6451, rd6452, rd6453, rd6454, rd6455⟩ := hrd6443
  subst hp0
  subst hp4
  have hbb6456 := hp5
  obtain ⟨bb6456, bb6457, bb6458, bb6459, bb6460, bb6461, bb6462, bb6463⟩ := hbb6456
  have hl4 := hp5.2.2.2.2.2.1
  refine m_aload_n F rfl e_X7_readTied_0 ?_
  refine m_iconst F (v := 0) (by decide) e_X7_readTied_1 ?_
  refine t_callV F e_X7_readTied_2 (s_X7_startLineE (x_l X) V b M Z T _ _ a 0 tp td n bk nx st tk vl py sd ln 0 (-1) t s9 v9 h1.1 hk rfl hp1 (by omega) (by omega) rfl ⟨rd6443, rd6444, rd6445, rd6446, rd6447, rd6448, rd6449, rd6450, rd6451, rd6452, rd6453, rd6454, rd6455⟩ (hB.keep (h1.2 tp (by rw [show kA _ tp = 2 from htp]; decide))) hn7 hsd htp htd hbk (by omega)) cb_X7_startLine ml_X7_124 im_X7_startLine se_X7_startLine (fun _ => o3) h1 hk rfl rfl (rest := []) rfl (Nat.le_of_ble_eq_true rfl) ⟨Nat.le_of_ble_eq_true rfl, Nat.le_of_ble_eq_true rfl⟩ ⟨Nat.le_of_ble_eq_true rfl, Nat.le_of_ble_eq_true rfl⟩ (fun r σ6464 hp => ?_)
  obtain ⟨h6465, hp⟩ := hp
  have h6466 := HK.trans h1 h6465 (by decide)
  have bx6467 := hp5.hk hbk h6465 (by decide) (by decide) (by decide)
  have tq6468 := hp6.keep (h6465.2 td (by rw [show kA _ td = 4 from htd]; decide))
  obtain ⟨⟨tk6469, vl6470, ct6471, rd6472, rd6473, rd6474, rd6475, rd6476, rd6477, rd6478, rd6479, rd6480, rd6481, rd6482, rd6483, rd6484⟩, rfl⟩ := hp
  generalize ek6485 : tok t n nx = k6485 at ct6471 rd6476 rd6477
  have bk6485 := tok_ok (t := t) (n := n) nx (by omega)
  rw [ek6485] at bk6485
  refine m_aload_n F rfl e_X7_readTied_5 ?_
  refine m_bipush F (v := 8) (by decide) e_X7_readTied_6 ?_
  refine t_callV F e_X7_readTied_8 (s_X7_readNameOnceE (x_l X) V b M Z T _ _ a 8 tp td n bk k6485.2.2.2 k6485.1 tk6469 vl6470 py sd ln 0 (-1) t k6485.2.1 k6485.2.2.1 nl nm nc lc no md 3 h6466.1 hk (by omega) rfl ct6471 (by omega) (by omega) bx6467 tq6468 (by decide) (by decide) ⟨rd6472, rd6473, rd6474, rd6475, rd6476, rd6477, rd6478, rd6479, rd6480, rd6481, rd6482, rd6483, rd6484⟩ (hB.keep (h6466.2 tp (by rw [show kA _ tp = 2 from htp]; decide))) hn7 hsd htp htd hbk (by omega)) cb_X7_readNameOnce ml_X7_152 im_X7_readNameOnce se_X7_readNameOnce (fun _ => o3) h6466 hk rfl rfl (rest := []) rfl (Nat.le_of_ble_eq_true rfl) ⟨Nat.le_of_ble_eq_true rfl, Nat.le_of_ble_eq_true rfl⟩ ⟨Nat.le_of_ble_eq_true rfl, Nat.le_of_ble_eq_true rfl⟩ (fun r σ6486 hp => ?_)
  obtain ⟨h6487, hp⟩ := hp
  have h6488 := HK.trans h6466 h6487 (by decide)
  have bx6489 := bx6467.hk hbk h6487 (by decide) (by decide) (by decide)
  rcases hp with ⟨e6490, e6491, e6492, ⟨tk6493, vl6494, ct6495, rd6500, rd6501, rd6502, rd6503, rd6504, rd6505, rd6506, rd6507, rd6508, rd6509, rd6510, rd6511, rd6512⟩, tq6499, rfl⟩ | ⟨e6490, ⟨rd6496, rd6497⟩, x6498, rfl⟩ | ⟨e6490, e6491, ⟨rd6496, rd6497⟩, x6498, rfl⟩ | ⟨e6490, e6491, e6492, ⟨rd6496, rd6497⟩, x6498, rfl⟩
  · have hv9 := ct6471.w e6490
    generalize ek6513 : tok t n k6485.2.2.2 = k6513 at ct6495 rd6504 rd6505
    have bk6513 := tok_ok (t := t) (n := n) k6485.2.2.2 (by omega)
    rw [ek6513] at bk6513
    refine m_istore_n F (lv' := [(1, .int (nI (fx nm k6485.2.2.1 nl))), (0, .ref a)]) e_X7_readTied_11 (by decide) rfl ?_
    refine m_aload_n F rfl e_X7_readTied_12 ?_
    refine t_getC F e_X7_readTied_13 fl_X7_55 (fun _ => o3) h6488 hk (rd6511) ?_
    refine m_if_ne F e_X7_readTied_16 (fun q => absurd (by decide) q) (fun _ => ?_)
    refine m_aload_n F rfl e_X7_readTied_19 ?_
    refine t_getC F e_X7_readTied_20 fl_X7_23 (fun _ => o3) h6488 hk (rd6502) ?_
    refine t_get F e_X7_readTied_23 fl_X7_142 (fun _ => o7) h6488 hbk rfl (fun v hv f6514 => ?_)
    obtain rfl : v = .ref (bk + 1) := hv
    refine m_iload_n F rfl e_X7_readTied_26 ?_
    refine t_aald8 F (j := fx nm k6485.2.2.1 nl) e_X7_readTied_27 rfl h6488 (kA_7 hbk (r := 1) (by decide)) (nI_clamp (by omega)) (vp_in_nI (by omega) (by decide)) ?_
    refine m_iconst F (v := 1) (by decide) e_X7_readTied_28 ?_
    refine t_putC F e_X7_readTied_29 fp_X7_166 (fun _ => o15) h6488 (kA_8 (kA_7 hbk (r := 1) (by decide)) (j := fx nm k6485.2.2.1 nl) (by omega)) rfl ⟨1, (show 1 ≤ 1 by omega), rfl⟩ (by decide) rfl (by decide) (fun σ6515 h6516 g6517 g6518 f6519 => ?_)
    have bx6520 := bx6489.keep hbk (fld_eq (g6517 bk (kdn hbk (kA_8 (kA_7 hbk (r := 1) (by decide)) (j := fx nm k6485.2.2.1 nl) (by omega)) (by decide)))) (fld_eq (g6517 bk (kdn hbk (kA_8 (kA_7 hbk (r := 1) (by decide)) (j := fx nm k6485.2.2.1 nl) (by omega)) (by decide)))) (fld_eq (g6517 bk (kdn hbk (kA_8 (kA_7 hbk (r := 1) (by decide)) (j := fx nm k6485.2.2.1 nl) (by omega)) (by decide)))) (g6517 (bk + 4) (kdn (kA_7 hbk (r := 4) (by decide) : kA b (bk + 4) = 11) (kA_8 (kA_7 hbk (r := 1) (by decide)) (j := fx nm k6485.2.2.1 nl) (by omega)) (by decide))) (fun x _ => put15 g6517 (g6518 0 (by decide)) x)
    have tq6521 := tq6499.keep (g6517 td (kdn htd (kA_8 (kA_7 hbk (r := 1) (by decide)) (j := fx nm k6485.2.2.1 nl) (by omega)) (by decide)))
    exact m_vret F hQ e_X7_readTied_32 (⟨h6516, (by unfold tiedS; dsimp only; rw [ek6485, oncK_ok e6490 e6491 e6492, ek6513]; exact RES.r ct6495 ⟨(fld_eq (g6517 a (kdn hk (kA_8 (kA_7 hbk (r := 1) (by decide)) (j := fx nm k6485.2.2.1 nl) (by omega)) (by decide)))).trans rd6500, (fld_eq (g6517 a (kdn hk (kA_8 (kA_7 hbk (r := 1) (by decide)) (j := fx nm k6485.2.2.1 nl) (by omega)) (by decide)))).trans rd6501, (fld_eq (g6517 a (kdn hk (kA_8 (kA_7 hbk (r := 1) (by decide)) (j := fx nm k6485.2.2.1 nl) (by omega)) (by decide)))).trans rd6502, (fld_eq (g6517 a (kdn hk (kA_8 (kA_7 hbk (r := 1) (by decide)) (j := fx nm k6485.2.2.1 nl) (by omega)) (by decide)))).trans rd6503, (fld_eq (g6517 a (kdn hk (kA_8 (kA_7 hbk (r := 1) (by decide)) (j := fx nm k6485.2.2.1 nl) (by omega)) (by decide)))).trans rd6504, (fld_eq (g6517 a (kdn hk (kA_8 (kA_7 hbk (r := 1) (by decide)) (j := fx nm k6485.2.2.1 nl) (by omega)) (by decide)))).trans rd6505, (fld_eq (g6517 a (kdn hk (kA_8 (kA_7 hbk (r := 1) (by decide)) (j := fx nm k6485.2.2.1 nl) (by omega)) (by decide)))).trans rd6506, (fld_eq (g6517 a (kdn hk (kA_8 (kA_7 hbk (r := 1) (by decide)) (j := fx nm k6485.2.2.1 nl) (by omega)) (by decide)))).trans rd6507, (fld_eq (g6517 a (kdn hk (kA_8 (kA_7 hbk (r := 1) (by decide)) (j := fx nm k6485.2.2.1 nl) (by omega)) (by decide)))).trans rd6508, (fld_eq (g6517 a (kdn hk (kA_8 (kA_7 hbk (r := 1) (by decide)) (j := fx nm k6485.2.2.1 nl) (by omega)) (by decide)))).trans rd6509, (fld_eq (g6517 a (kdn hk (kA_8 (kA_7 hbk (r := 1) (by decide)) (j := fx nm k6485.2.2.1 nl) (by omega)) (by decide)))).trans rd6510, (fld_eq (g6517 a (kdn hk (kA_8 (kA_7 hbk (r := 1) (by decide)) (j := fx nm k6485.2.2.1 nl) (by omega)) (by decide)))).trans rd6511, (fld_eq (g6517 a (kdn hk (kA_8 (kA_7 hbk (r := 1) (by decide)) (j := fx nm k6485.2.2.1 nl) (by omega)) (by decide)))).trans rd6512⟩ bx6520 tq6521 (by omega) (by omega) (by omega) (by omega)), rfl⟩)
  · have hz9 : True := trivial
    refine m_istore_n F (lv' := [(1, .int x6498), (0, .ref a)]) e_X7_readTied_11 (by decide) rfl ?_
    refine m_aload_n F rfl e_X7_readTied_12 ?_
    refine t_getC F e_X7_readTied_13 fl_X7_55 (fun _ => o3) h6488 hk (rd6496) ?_
    refine m_if_ne F e_X7_readTied_16 (fun _ => ?_) (fun q => absurd q (by decide))
    exact m_vret F hQ e_X7_readTied_32 (⟨h6488, (by unfold tiedS; dsimp only; rw [ek6485, oncK_1 e6490]; exact RES.l (rd6496) (rd6497) (by decide) (by decide) (by omega)), rfl⟩)
  · have hz9 : True := trivial
    refine m_istore_n F (lv' := [(1, .int x6498), (0, .ref a)]) e_X7_readTied_11 (by decide) rfl ?_
    refine m_aload_n F rfl e_X7_readTied_12 ?_
    refine t_getC F e_X7_readTied_13 fl_X7_55 (fun _ => o3) h6488 hk (rd6496) ?_
    refine m_if_ne F e_X7_readTied_16 (fun _ => ?_) (fun q => absurd q (by decide))
    exact m_vret F hQ e_X7_readTied_32 (⟨h6488, (by unfold tiedS; dsimp only; rw [ek6485, oncK_4 e6490 e6491]; exact RES.l (rd6496) (rd6497) (by decide) (by decide) (by omega)), rfl⟩)
  · have hz9 : True := trivial
    refine m_istore_n F (lv' := [(1, .int x6498), (0, .ref a)]) e_X7_readTied_11 (by decide) rfl ?_
    refine m_aload_n F rfl e_X7_readTied_12 ?_
    refine t_getC F e_X7_readTied_13 fl_X7_55 (fun _ => o3) h6488 hk (rd6496) ?_
    refine m_if_ne F e_X7_readTied_16 (fun _ => ?_) (fun q => absurd q (by decide))
    exact m_vret F hQ e_X7_readTied_32 (⟨h6488, (by unfold tiedS; dsimp only; rw [ek6485, oncK_3 e6490 e6491 e6492]; exact RES.l (rd6496) (rd6497) (by decide) (by decide) (by omega)), rfl⟩)
set_option maxRecDepth 20000 in
theorem s_X7_readFairE (l : Launch) (V : VX) (b M Z T N : Nat) (σ : Mem) (a : Nat) (tp : Nat) (td : Nat) (n : Nat) (bk : Nat) (nx : Nat) (st : Nat) (tk : Int32) (vl : Int32) (py : Nat) (sd : Nat) (ln : Nat) (ft : Int32) (pl : Int32) (t : Nat → Nat) (s9 : Nat) (v9 : Nat) (nl : Nat) (nm : Nat → Nat) (nc : Nat) (lc : Nat) (no : Nat) (md : Nat → Nat → Bool) (h0 : HT V (b, M, Z, T) σ) (hk : kA b a = 3) (hp0 : ft = 0) (hp1 : CT tk vl s9 v9) (hp2 : nx ≤ n) (hp3 : st ≤ n) (hp4 : pl = -1) (hp5 : BX σ bk nl nm nc lc no) (hp6 : TD V σ td nl md) (hp7 : py ≤ 12) (hR : RD σ a tp td n bk nx st tk vl py sd ln ft pl) (hB : BY V σ tp n t) (hn7 : n ≤ 700) (hsd : sd ≤ 1) (htp : kA b tp = 2) (htd : kA b td = 4) (hbk : kA b bk = 7) (hM : M + 0 ≤ 1000000000) : Ct l V yX7_readFair cX7_readFair 3 none 4 0 0 N σ [.ref a] (fun r τ => HK V (b, M, Z, T) [0, 1, 2, 5, 6, 7, 8, 9, 10, 11, 12, 13, 14, 16, 17, 18, 19] σ τ ∧ RES V τ a tp td n bk (fairS (tok t n) (st, s9, v9, nx) nl nm py nc lc no sd md ln) ∧ r = none) := by
  refine Ct.of (by decide) (Nat.le_of_ble_eq_true rfl) [(0, .ref a)] rfl (fun X hX F hQ => ?_)
  have h1 : HK V (b, M, Z, T) [0, 1, 2, 5, 6, 7, 8, 9, 10, 11, 12, 13, 14, 16, 17, 18, 19] σ σ := HK.start h0
  have hrd6522 := hR
  obtain ⟨rd6522, rd6523, rd6524, rd6525, rd6526, rd6527, rd6528, rd6529, rd6530, rd6531, rd6532, rd6533, rd6534⟩ := hrd6522
  subst hp0
  subst hp4
  have hbb6535 := hp5
  obtain ⟨bb6535, bb6536, bb6537, bb6538, bb6539, bb6540, bb6541, bb6542⟩ := hbb6535
  have hl4 := hp5.2.2.2.2.2.1
  refine m_aload_n F rfl e_X7_readFair_0 ?_
  refine m_iconst F (v := 0) (by decide) e_X7_readFair_1 ?_
  refine t_callV F e_X7_readFair_2 (s_X7_startLineE (x_l X) V b M Z T _ _ a 0 tp td n bk nx st tk vl py sd ln 0 (-1) t s9 v9 h1.1 hk rfl hp1 (by omega) (by omega) rfl ⟨rd6522, rd6523, rd6524, rd6525, rd6526, rd6527, rd6528, rd6529, rd6530, rd6531, rd6532, rd6533, rd6534⟩ (hB.keep (h1.2 tp (by rw [show kA _ tp = 2 from htp]; decide))) hn7 hsd htp htd hbk (by omega)) cb_X7_startLine ml_X7_124 im_X7_startLine se_X7_startLine (fun _ => o3) h1 hk rfl rfl (rest := []) rfl (Nat.le_of_ble_eq_true rfl) ⟨Nat.le_of_ble_eq_true rfl, Nat.le_of_ble_eq_true rfl⟩ ⟨Nat.le_of_ble_eq_true rfl, Nat.le_of_ble_eq_true rfl⟩ (fun r σ6543 hp => ?_)
  obtain ⟨h6544, hp⟩ := hp
  have h6545 := HK.trans h1 h6544 (by decide)
  have bx6546 := hp5.hk hbk h6544 (by decide) (by decide) (by decide)
  have tq6547 := hp6.keep (h6544.2 td (by rw [show kA _ td = 4 from htd]; decide))
  obtain ⟨⟨tk6548, vl6549, ct6550, rd6551, rd6552, rd6553, rd6554, rd6555, rd6556, rd6557, rd6558, rd6559, rd6560, rd6561, rd6562, rd6563⟩, rfl⟩ := hp
  generalize ek6564 : tok t n nx = k6564 at ct6550 rd6555 rd6556
  have bk6564 := tok_ok (t := t) (n := n) nx (by omega)
  rw [ek6564] at bk6564
  refine m_aload_n F rfl e_X7_readFair_5 ?_
  refine m_iconst F (v := 2) (by decide) e_X7_readFair_6 ?_
  refine t_callV F e_X7_readFair_7 (s_X7_readNameOnceE (x_l X) V b M Z T _ _ a 2 tp td n bk k6564.2.2.2 k6564.1 tk6548 vl6549 py sd ln 0 (-1) t k6564.2.1 k6564.2.2.1 nl nm nc lc no md 1 h6545.1 hk (by omega) rfl ct6550 (by omega) (by omega) bx6546 tq6547 (by decide) (by decide) ⟨rd6551, rd6552, rd6553, rd6554, rd6555, rd6556, rd6557, rd6558, rd6559, rd6560, rd6561, rd6562, rd6563⟩ (hB.keep (h6545.2 tp (by rw [show kA _ tp = 2 from htp]; decide))) hn7 hsd htp htd hbk (by omega)) cb_X7_readNameOnce ml_X7_152 im_X7_readNameOnce se_X7_readNameOnce (fun _ => o3) h6545 hk rfl rfl (rest := []) rfl (Nat.le_of_ble_eq_true rfl) ⟨Nat.le_of_ble_eq_true rfl, Nat.le_of_ble_eq_true rfl⟩ ⟨Nat.le_of_ble_eq_true rfl, Nat.le_of_ble_eq_true rfl⟩ (fun r σ6565 hp => ?_)
  obtain ⟨h6566, hp⟩ := hp
  have h6567 := HK.trans h6545 h6566 (by decide)
  have bx6568 := bx6546.hk hbk h6566 (by decide) (by decide) (by decide)
  rcases hp with ⟨e6569, e6570, e6571, ⟨tk6572, vl6573, ct6574, rd6579, rd6580, rd6581, rd6582, rd6583, rd6584, rd6585, rd6586, rd6587, rd6588, rd6589, rd6590, rd6591⟩, tq6578, rfl⟩ | ⟨e6569, ⟨rd6575, rd6576⟩, x6577, rfl⟩ | ⟨e6569, e6570, ⟨rd6575, rd6576⟩, x6577, rfl⟩ | ⟨e6569, e6570, e6571, ⟨rd6575, rd6576⟩, x6577, rfl⟩
  · have hv9 := ct6550.w e6569
    generalize ek6592 : tok t n k6564.2.2.2 = k6592 at ct6574 rd6583 rd6584
    have bk6592 := tok_ok (t := t) (n := n) k6564.2.2.2 (by omega)
    rw [ek6592] at bk6592
    refine m_istore_n F (lv' := [(1, .int (nI (fx nm k6564.2.2.1 nl))), (0, .ref a)]) e_X7_readFair_10 (by decide) rfl ?_
    refine m_aload_n F rfl e_X7_readFair_11 ?_
    refine m_iconst F (v := 1) (by decide) e_X7_readFair_12 ?_
    refine m_ldc F kc_X7_159 e_X7_readFair_13 ?_
    refine t_callV F e_X7_readFair_15 (s_X7_readNumberE (x_l X) V b M Z T _ _ a 1 9999999 tp td n bk k6592.2.2.2 k6592.1 tk6572 vl6573 py sd ln 0 (-1) t k6592.2.1 k6592.2.2.1 h6567.1 hk (by omega) (by omega) rfl ct6574 (by omega) (by omega) ⟨rd6579, rd6580, rd6581, rd6582, rd6583, rd6584, rd6585, rd6586, rd6587, rd6588, rd6589, rd6590, rd6591⟩ (hB.keep (h6567.2 tp (by rw [show kA _ tp = 2 from htp]; decide))) hn7 hsd htp htd hbk (by omega)) cb_X7_readNumber ml_X7_130 im_X7_readNumber se_X7_readNumber (fun _ => o3) h6567 hk rfl rfl (rest := []) rfl (Nat.le_of_ble_eq_true rfl) ⟨Nat.le_of_ble_eq_true rfl, Nat.le_of_ble_eq_true rfl⟩ ⟨Nat.le_of_ble_eq_true rfl, Nat.le_of_ble_eq_true rfl⟩ (fun r σ6593 hp => ?_)
    obtain ⟨h6594, hp⟩ := hp
    have h6595 := HK.trans h6567 h6594 (by decide)
    have bx6596 := bx6568.hk hbk h6594 (by decide) (by decide) (by decide)
    have tq6597 := tq6578.keep (h6594.2 td (by rw [show kA _ td = 4 from htd]; decide))
    rcases hp with ⟨e6598, l6600, l6601, ⟨tk6602, vl6603, ct6604, rd6605, rd6606, rd6607, rd6608, rd6609, rd6610, rd6611, rd6612, rd6613, rd6614, rd6615, rd6616, rd6617⟩, rfl⟩ | ⟨e6598, ⟨rd6605, rd6606, rd6607, rd6608, rd6609, rd6610, rd6611, rd6612, rd6613, rd6614, rd6615, rd6616, rd6617⟩, rfl⟩ | ⟨e6598, e6599, ⟨rd6605, rd6606, rd6607, rd6608, rd6609, rd6610, rd6611, rd6612, rd6613, rd6614, rd6615, rd6616, rd6617⟩, rfl⟩
    · generalize ek6618 : tok t n k6592.2.2.2 = k6618 at ct6604 rd6609 rd6610
      have bk6618 := tok_ok (t := t) (n := n) k6592.2.2.2 (by omega)
      rw [ek6618] at bk6618
      refine m_istore_n F (lv' := [(2, .int (nI k6592.2.2.1)), (1, .int (nI (fx nm k6564.2.2.1 nl))), (0, .ref a)]) e_X7_readFair_18 (by decide) rfl ?_
      refine m_aload_n F rfl e_X7_readFair_19 ?_
      refine t_getC F e_X7_readFair_20 fl_X7_55 (fun _ => o3) h6595 hk (rd6616) ?_
      refine m_if_ne F e_X7_readFair_23 (fun q => absurd (by decide) q) (fun _ => ?_)
      refine m_aload_n F rfl e_X7_readFair_26 ?_
      refine t_getC F e_X7_readFair_27 fl_X7_23 (fun _ => o3) h6595 hk (rd6607) ?_
      refine t_get F e_X7_readFair_30 fl_X7_142 (fun _ => o7) h6595 hbk rfl (fun v hv f6619 => ?_)
      obtain rfl : v = .ref (bk + 1) := hv
      refine m_iload_n F rfl e_X7_readFair_33 ?_
      refine t_aald8 F (j := fx nm k6564.2.2.1 nl) e_X7_readFair_34 rfl h6595 (kA_7 hbk (r := 1) (by decide)) (nI_clamp (by omega)) (vp_in_nI (by omega) (by decide)) ?_
      refine m_iload_n F rfl e_X7_readFair_35 ?_
      refine t_putC F e_X7_readFair_36 fp_X7_160 (fun _ => o15) h6595 (kA_8 (kA_7 hbk (r := 1) (by decide)) (j := fx nm k6564.2.2.1 nl) (by omega)) rfl ⟨_, rfl⟩ rfl rfl (by decide) (fun σ6620 h6621 g6622 g6623 f6624 => ?_)
      have bx6625 := bx6596.keep hbk (fld_eq (g6622 bk (kdn hbk (kA_8 (kA_7 hbk (r := 1) (by decide)) (j := fx nm k6564.2.2.1 nl) (by omega)) (by decide)))) (fld_eq (g6622 bk (kdn hbk (kA_8 (kA_7 hbk (r := 1) (by decide)) (j := fx nm k6564.2.2.1 nl) (by omega)) (by decide)))) (fld_eq (g6622 bk (kdn hbk (kA_8 (kA_7 hbk (r := 1) (by decide)) (j := fx nm k6564.2.2.1 nl) (by omega)) (by decide)))) (g6622 (bk + 4) (kdn (kA_7 hbk (r := 4) (by decide) : kA b (bk + 4) = 11) (kA_8 (kA_7 hbk (r := 1) (by decide)) (j := fx nm k6564.2.2.1 nl) (by omega)) (by decide))) (fun x _ => put15 g6622 (g6623 0 (by decide)) x)
      have tq6626 := tq6597.keep (g6622 td (kdn htd (kA_8 (kA_7 hbk (r := 1) (by decide)) (j := fx nm k6564.2.2.1 nl) (by omega)) (by decide)))
      exact m_vret F hQ e_X7_readFair_39 (⟨h6621, (by unfold fairS; dsimp only; rw [ek6564, oncK_ok e6569 e6570 e6571, ek6592, numK_ok e6598 l6600 l6601, ek6618]; exact RES.r ct6604 ⟨(fld_eq (g6622 a (kdn hk (kA_8 (kA_7 hbk (r := 1) (by decide)) (j := fx nm k6564.2.2.1 nl) (by omega)) (by decide)))).trans rd6605, (fld_eq (g6622 a (kdn hk (kA_8 (kA_7 hbk (r := 1) (by decide)) (j := fx nm k6564.2.2.1 nl) (by omega)) (by decide)))).trans rd6606, (fld_eq (g6622 a (kdn hk (kA_8 (kA_7 hbk (r := 1) (by decide)) (j := fx nm k6564.2.2.1 nl) (by omega)) (by decide)))).trans rd6607, (fld_eq (g6622 a (kdn hk (kA_8 (kA_7 hbk (r := 1) (by decide)) (j := fx nm k6564.2.2.1 nl) (by omega)) (by decide)))).trans rd6608, (fld_eq (g6622 a (kdn hk (kA_8 (kA_7 hbk (r := 1) (by decide)) (j := fx nm k6564.2.2.1 nl) (by omega)) (by decide)))).trans rd6609, (fld_eq (g6622 a (kdn hk (kA_8 (kA_7 hbk (r := 1) (by decide)) (j := fx nm k6564.2.2.1 nl) (by omega)) (by decide)))).trans rd6610, (fld_eq (g6622 a (kdn hk (kA_8 (kA_7 hbk (r := 1) (by decide)) (j := fx nm k6564.2.2.1 nl) (by omega)) (by decide)))).trans rd6611, (fld_eq (g6622 a (kdn hk (kA_8 (kA_7 hbk (r := 1) (by decide)) (j := fx nm k6564.2.2.1 nl) (by omega)) (by decide)))).trans rd6612, (fld_eq (g6622 a (kdn hk (kA_8 (kA_7 hbk (r := 1) (by decide)) (j := fx nm k6564.2.2.1 nl) (by omega)) (by decide)))).trans rd6613, (fld_eq (g6622 a (kdn hk (kA_8 (kA_7 hbk (r := 1) (by decide)) (j := fx nm k6564.2.2.1 nl) (by omega)) (by decide)))).trans rd6614, (fld_eq (g6622 a (kdn hk (kA_8 (kA_7 hbk (r := 1) (by decide)) (j := fx nm k6564.2.2.1 nl) (by omega)) (by decide)))).trans rd6615, (fld_eq (g6622 a (kdn hk (kA_8 (kA_7 hbk (r := 1) (by decide)) (j := fx nm k6564.2.2.1 nl) (by omega)) (by decide)))).trans rd6616, (fld_eq (g6622 a (kdn hk (kA_8 (kA_7 hbk (r := 1) (by decide)) (j := fx nm k6564.2.2.1 nl) (by omega)) (by decide)))).trans rd6617⟩ bx6625 tq6626 (by omega) (by omega) (by omega) (by omega)), rfl⟩)
    · have hz9 : True := trivial
      refine m_istore_n F (lv' := [(2, .int 0), (1, .int (nI (fx nm k6564.2.2.1 nl))), (0, .ref a)]) e_X7_readFair_18 (by decide) rfl ?_
      refine m_aload_n F rfl e_X7_readFair_19 ?_
      refine t_getC F e_X7_readFair_20 fl_X7_55 (fun _ => o3) h6595 hk (rd6616) ?_
      refine m_if_ne F e_X7_readFair_23 (fun _ => ?_) (fun q => absurd q (by decide))
      exact m_vret F hQ e_X7_readFair_39 (⟨h6595, (by unfold fairS; dsimp only; rw [ek6564, oncK_ok e6569 e6570 e6571, ek6592, numK_1 e6598]; exact RES.l (rd6616) (rd6617) (by decide) (by decide) (by omega)), rfl⟩)
    · have hz9 : True := trivial
      refine m_istore_n F (lv' := [(2, .int 0), (1, .int (nI (fx nm k6564.2.2.1 nl))), (0, .ref a)]) e_X7_readFair_18 (by decide) rfl ?_
      refine m_aload_n F rfl e_X7_readFair_19 ?_
      refine t_getC F e_X7_readFair_20 fl_X7_55 (fun _ => o3) h6595 hk (rd6616) ?_
      refine m_if_ne F e_X7_readFair_23 (fun _ => ?_) (fun q => absurd q (by decide))
      exact m_vret F hQ e_X7_readFair_39 (⟨h6595, (by unfold fairS; dsimp only; rw [ek6564, oncK_ok e6569 e6570 e6571, ek6592, numK_2 e6598 e6599]; exact RES.l (rd6616) (rd6617) (by decide) (by decide) (by omega)), rfl⟩)
  · have hz9 : True := trivial
    refine m_istore_n F (lv' := [(1, .int x6577), (0, .ref a)]) e_X7_readFair_10 (by decide) rfl ?_
    refine m_aload_n F rfl e_X7_readFair_11 ?_
    refine m_iconst F (v := 1) (by decide) e_X7_readFair_12 ?_
    refine m_ldc F kc_X7_159 e_X7_readFair_13 ?_
    refine t_callV F e_X7_readFair_15 (s_X7_readNumberG (x_l X) V b M Z T _ _ a 1 9999999 1 (nI k6564.1) h6567.1 hk  (rd6575) (rd6576) (by decide) (by omega)) cb_X7_readNumber ml_X7_130 im_X7_readNumber se_X7_readNumber (fun _ => o3) h6567 hk rfl rfl (rest := []) rfl (Nat.le_of_ble_eq_true rfl) ⟨Nat.le_of_ble_eq_true rfl, Nat.le_of_ble_eq_true rfl⟩ ⟨Nat.le_of_ble_eq_true rfl, Nat.le_of_ble_eq_true rfl⟩ (fun r σ6627 hp => ?_)
    obtain ⟨h6628, rd6630, rd6631, rfl⟩ := hp
    have h6629 := HK.trans h6567 h6628 (by decide)
    refine m_istore_n F (lv' := [(2, .int 0), (1, .int x6577), (0, .ref a)]) e_X7_readFair_18 (by decide) rfl ?_
    refine m_aload_n F rfl e_X7_readFair_19 ?_
    refine t_getC F e_X7_readFair_20 fl_X7_55 (fun _ => o3) h6629 hk (rd6630) ?_
    refine m_if_ne F e_X7_readFair_23 (fun _ => ?_) (fun q => absurd q (by decide))
    exact m_vret F hQ e_X7_readFair_39 (⟨h6629, (by unfold fairS; dsimp only; rw [ek6564, oncK_1 e6569]; exact RES.l (rd6630) (rd6631) (by decide) (by decide) (by omega)), rfl⟩)
  · have hz9 : True := trivial
    refine m_istore_n F (lv' := [(1, .int x6577), (0, .ref a)]) e_X7_readFair_10 (by decide) rfl ?_
    refine m_aload_n F rfl e_X7_readFair_11 ?_
    refine m_iconst F (v := 1) (by decide) e_X7_readFair_12 ?_
    refine m_ldc F kc_X7_159 e_X7_readFair_13 ?_
    refine t_callV F e_X7_readFair_15 (s_X7_readNumberG (x_l X) V b M Z T _ _ a 1 9999999 4 (nI k6564.1) h6567.1 hk  (rd6575) (rd6576) (by decide) (by omega)) cb_X7_readNumber ml_X7_130 im_X7_readNumber se_X7_readNumber (fun _ => o3) h6567 hk rfl rfl (rest := []) rfl (Nat.le_of_ble_eq_true rfl) ⟨Nat.le_of_ble_eq_true rfl, Nat.le_of_ble_eq_true rfl⟩ ⟨Nat.le_of_ble_eq_true rfl, Nat.le_of_ble_eq_true rfl⟩ (fun r σ6633 hp => ?_)
    obtain ⟨h6634, rd6636, rd6637, rfl⟩ := hp
    have h6635 := HK.trans h6567 h6634 (by decide)
    refine m_istore_n F (lv' := [(2, .int 0), (1, .int x6577), (0, .ref a)]) e_X7_readFair_18 (by decide) rfl ?_
    refine m_aload_n F rfl e_X7_readFair_19 ?_
    refine t_getC F e_X7_readFair_20 fl_X7_55 (fun _ => o3) h6635 hk (rd6636) ?_
    refine m_if_ne F e_X7_readFair_23 (fun _ => ?_) (fun q => absurd q (by decide))
    exact m_vret F hQ e_X7_readFair_39 (⟨h6635, (by unfold fairS; dsimp only; rw [ek6564, oncK_4 e6569 e6570]; exact RES.l (rd6636) (rd6637) (by decide) (by decide) (by omega)), rfl⟩)
  · have hz9 : True := trivial
    refine m_istore_n F (lv' := [(1, .int x6577), (0, .ref a)]) e_X7_readFair_10 (by decide) rfl ?_
    refine m_aload_n F rfl e_X7_readFair_11 ?_
    refine m_iconst F (v := 1) (by decide) e_X7_readFair_12 ?_
    refine m_ldc F kc_X7_159 e_X7_readFair_13 ?_
    refine t_callV F e_X7_readFair_15 (s_X7_readNumberG (x_l X) V b M Z T _ _ a 1 9999999 3 (nI k6564.1) h6567.1 hk  (rd6575) (rd6576) (by decide) (by omega)) cb_X7_readNumber ml_X7_130 im_X7_readNumber se_X7_readNumber (fun _ => o3) h6567 hk rfl rfl (rest := []) rfl (Nat.le_of_ble_eq_true rfl) ⟨Nat.le_of_ble_eq_true rfl, Nat.le_of_ble_eq_true rfl⟩ ⟨Nat.le_of_ble_eq_true rfl, Nat.le_of_ble_eq_true rfl⟩ (fun r σ6639 hp => ?_)
    obtain ⟨h6640, rd6642, rd6643, rfl⟩ := hp
    have h6641 := HK.trans h6567 h6640 (by decide)
    refine m_istore_n F (lv' := [(2, .int 0), (1, .int x6577), (0, .ref a)]) e_X7_readFair_18 (by decide) rfl ?_
    refine m_aload_n F rfl e_X7_readFair_19 ?_
    refine t_getC F e_X7_readFair_20 fl_X7_55 (fun _ => o3) h6641 hk (rd6642) ?_
    refine m_if_ne F e_X7_readFair_23 (fun _ => ?_) (fun q => absurd q (by decide))
    exact m_vret F hQ e_X7_readFair_39 (⟨h6641, (by unfold fairS; dsimp only; rw [ek6564, oncK_3 e6569 e6570 e6571]; exact RES.l (rd6642) (rd6643) (by decide) (by decide) (by omega)), rfl⟩)
set_option maxRecDepth 20000 in
theorem s_X7_readFeeE (l : Launch) (V : VX) (b M Z T N : Nat) (σ : Mem) (a : Nat) (tp : Nat) (td : Nat) (n : Nat) (bk : Nat) (nx : Nat) (st : Nat) (tk : Int32) (vl : Int32) (py : Nat) (sd : Nat) (ln : Nat) (ft : Int32) (pl : Int32) (t : Nat → Nat) (s9 : Nat) (v9 : Nat) (nl : Nat) (nm : Nat → Nat) (nc : Nat) (lc : Nat) (no : Nat) (md : Nat → Nat → Bool) (h0 : HT V (b, M, Z, T) σ) (hk : kA b a = 3) (hp0 : ft = 0) (hp1 : CT tk vl s9 v9) (hp2 : nx ≤ n) (hp3 : st ≤ n) (hp4 : pl = -1) (hp5 : BX σ bk nl nm nc lc no) (hp6 : TD V σ td nl md) (hp7 : py ≤ 12) (hR : RD σ a tp td n bk nx st tk vl py sd ln ft pl) (hB : BY V σ tp n t) (hn7 : n ≤ 700) (hsd : sd ≤ 1) (htp : kA b tp = 2) (htd : kA b td = 4) (hbk : kA b bk = 7) (hM : M + 0 ≤ 1000000000) : Ct l V yX7_readFee cX7_readFee 3 none 4 0 0 N σ [.ref a] (fun r τ => HK V (b, M, Z, T) [0, 1, 2, 5, 6, 7, 8, 9, 10, 11, 12, 13, 14, 16, 17, 18, 19] σ τ ∧ RES V τ a tp td n bk (feeS (tok t n) (st, s9, v9, nx) nl nm py nc lc no sd md ln) ∧ r = none) := by
  refine Ct.of (by decide) (Nat.le_of_ble_eq_true rfl) [(0, .ref a)] rfl (fun X hX F hQ => ?_)
  have h1 : HK V (b, M, Z, T) [0, 1, 2, 5, 6, 7, 8, 9, 10, 11, 12, 13, 14, 16, 17, 18, 19] σ σ := HK.start h0
  have hrd6645 := hR
  obtain ⟨rd6645, rd6646, rd6647, rd6648, rd6649, rd6650, rd6651, rd6652, rd6653, rd6654, rd6655, rd6656, rd6657⟩ := hrd6645
  subst hp0
  subst hp4
  have hbb6658 := hp5
  obtain ⟨bb6658, bb6659, bb6660, bb6661, bb6662, bb6663, bb6664, bb6665⟩ := hbb6658
  have hl4 := hp5.2.2.2.2.2.1
  refine m_aload_n F rfl e_X7_readFee_0 ?_
  refine m_iconst F (v := 0) (by decide) e_X7_readFee_1 ?_
  refine t_callV F e_X7_readFee_2 (s_X7_startLineE (x_l X) V b M Z T _ _ a 0 tp td n bk nx st tk vl py sd ln 0 (-1) t s9 v9 h1.1 hk rfl hp1 (by omega) (by omega) rfl ⟨rd6645, rd6646, rd6647, rd6648, rd6649, rd6650, rd6651, rd6652, rd6653, rd6654, rd6655, rd6656, rd6657⟩ (hB.keep (h1.2 tp (by rw [show kA _ tp = 2 from htp]; decide))) hn7 hsd htp htd hbk (by omega)) cb_X7_startLine ml_X7_124 im_X7_startLine se_X7_startLine (fun _ => o3) h1 hk rfl rfl (rest := []) rfl (Nat.le_of_ble_eq_true rfl) ⟨Nat.le_of_ble_eq_true rfl, Nat.le_of_ble_eq_true rfl⟩ ⟨Nat.le_of_ble_eq_true rfl, Nat.le_of_ble_eq_true rfl⟩ (fun r σ6666 hp => ?_)
  obtain ⟨h6667, hp⟩ := hp
  have h6668 := HK.trans h1 h6667 (by decide)
  have bx6669 := hp5.hk hbk h6667 (by decide) (by decide) (by decide)
  have tq6670 := hp6.keep (h6667.2 td (by rw [show kA _ td = 4 from htd]; decide))
  obtain ⟨⟨tk6671, vl6672, ct6673, rd6674, rd6675, rd6676, rd6677, rd6678, rd6679, rd6680, rd6681, rd6682, rd6683, rd6684, rd6685, rd6686⟩, rfl⟩ := hp
  generalize ek6687 : tok t n nx = k6687 at ct6673 rd6678 rd6679
  have bk6687 := tok_ok (t := t) (n := n) nx (by omega)
  rw [ek6687] at bk6687
  refine m_aload_n F rfl e_X7_readFee_5 ?_
  refine m_iconst F (v := 4) (by decide) e_X7_readFee_6 ?_
  refine t_callV F e_X7_readFee_7 (s_X7_readNameOnceE (x_l X) V b M Z T _ _ a 4 tp td n bk k6687.2.2.2 k6687.1 tk6671 vl6672 py sd ln 0 (-1) t k6687.2.1 k6687.2.2.1 nl nm nc lc no md 2 h6668.1 hk (by omega) rfl ct6673 (by omega) (by omega) bx6669 tq6670 (by decide) (by decide) ⟨rd6674, rd6675, rd6676, rd6677, rd6678, rd6679, rd6680, rd6681, rd6682, rd6683, rd6684, rd6685, rd6686⟩ (hB.keep (h6668.2 tp (by rw [show kA _ tp = 2 from htp]; decide))) hn7 hsd htp htd hbk (by omega)) cb_X7_readNameOnce ml_X7_152 im_X7_readNameOnce se_X7_readNameOnce (fun _ => o3) h6668 hk rfl rfl (rest := []) rfl (Nat.le_of_ble_eq_true rfl) ⟨Nat.le_of_ble_eq_true rfl, Nat.le_of_ble_eq_true rfl⟩ ⟨Nat.le_of_ble_eq_true rfl, Nat.le_of_ble_eq_true rfl⟩ (fun r σ6688 hp => ?_)
  obtain ⟨h6689, hp⟩ := hp
  have h6690 := HK.trans h6668 h6689 (by decide)
  have bx6691 := bx6669.hk hbk h6689 (by decide) (by decide) (by decide)
  rcases hp with ⟨e6692, e6693, e6694, ⟨tk6695, vl6696, ct6697, rd6702, rd6703, rd6704, rd6705, rd6706, rd6707, rd6708, rd6709, rd6710, rd6711, rd6712, rd6713, rd6714⟩, tq6701, rfl⟩ | ⟨e6692, ⟨rd6698, rd6699⟩, x6700, rfl⟩ | ⟨e6692, e6693, ⟨rd6698, rd6699⟩, x6700, rfl⟩ | ⟨e6692, e6693, e6694, ⟨rd6698, rd6699⟩, x6700, rfl⟩
  · have hv9 := ct6673.w e6692
    generalize ek6715 : tok t n k6687.2.2.2 = k6715 at ct6697 rd6706 rd6707
    have bk6715 := tok_ok (t := t) (n := n) k6687.2.2.2 (by omega)
    rw [ek6715] at bk6715
    refine m_istore_n F (lv' := [(1, .int (nI (fx nm k6687.2.2.1 nl))), (0, .ref a)]) e_X7_readFee_10 (by decide) rfl ?_
    refine m_aload_n F rfl e_X7_readFee_11 ?_
    refine m_iconst F (v := 0) (by decide) e_X7_readFee_12 ?_
    refine m_ldc F kc_X7_141 e_X7_readFee_13 ?_
    refine t_callV F e_X7_readFee_15 (s_X7_readNumberE (x_l X) V b M Z T _ _ a 0 99999 tp td n bk k6715.2.2.2 k6715.1 tk6695 vl6696 py sd ln 0 (-1) t k6715.2.1 k6715.2.2.1 h6690.1 hk (by omega) (by omega) rfl ct6697 (by omega) (by omega) ⟨rd6702, rd6703, rd6704, rd6705, rd6706, rd6707, rd6708, rd6709, rd6710, rd6711, rd6712, rd6713, rd6714⟩ (hB.keep (h6690.2 tp (by rw [show kA _ tp = 2 from htp]; decide))) hn7 hsd htp htd hbk (by omega)) cb_X7_readNumber ml_X7_130 im_X7_readNumber se_X7_readNumber (fun _ => o3) h6690 hk rfl rfl (rest := []) rfl (Nat.le_of_ble_eq_true rfl) ⟨Nat.le_of_ble_eq_true rfl, Nat.le_of_ble_eq_true rfl⟩ ⟨Nat.le_of_ble_eq_true rfl, Nat.le_of_ble_eq_true rfl⟩ (fun r σ6716 hp => ?_)
    obtain ⟨h6717, hp⟩ := hp
    have h6718 := HK.trans h6690 h6717 (by decide)
    have bx6719 := bx6691.hk hbk h6717 (by decide) (by decide) (by decide)
    have tq6720 := tq6701.keep (h6717.2 td (by rw [show kA _ td = 4 from htd]; decide))
    rcases hp with ⟨e6721, l6723, l6724, ⟨tk6725, vl6726, ct6727, rd6728, rd6729, rd6730, rd6731, rd6732, rd6733, rd6734, rd6735, rd6736, rd6737, rd6738, rd6739, rd6740⟩, rfl⟩ | ⟨e6721, ⟨rd6728, rd6729, rd6730, rd6731, rd6732, rd6733, rd6734, rd6735, rd6736, rd6737, rd6738, rd6739, rd6740⟩, rfl⟩ | ⟨e6721, e6722, ⟨rd6728, rd6729, rd6730, rd6731, rd6732, rd6733, rd6734, rd6735, rd6736, rd6737, rd6738, rd6739, rd6740⟩, rfl⟩
    · generalize ek6741 : tok t n k6715.2.2.2 = k6741 at ct6727 rd6732 rd6733
      have bk6741 := tok_ok (t := t) (n := n) k6715.2.2.2 (by omega)
      rw [ek6741] at bk6741
      refine m_istore_n F (lv' := [(2, .int (nI k6715.2.2.1)), (1, .int (nI (fx nm k6687.2.2.1 nl))), (0, .ref a)]) e_X7_readFee_18 (by decide) rfl ?_
      refine m_aload_n F rfl e_X7_readFee_19 ?_
      refine t_getC F e_X7_readFee_20 fl_X7_55 (fun _ => o3) h6718 hk (rd6739) ?_
      refine m_if_ne F e_X7_readFee_23 (fun q => absurd (by decide) q) (fun _ => ?_)
      refine m_aload_n F rfl e_X7_readFee_26 ?_
      refine t_getC F e_X7_readFee_27 fl_X7_23 (fun _ => o3) h6718 hk (rd6730) ?_
      refine t_get F e_X7_readFee_30 fl_X7_142 (fun _ => o7) h6718 hbk rfl (fun v hv f6742 => ?_)
      obtain rfl : v = .ref (bk + 1) := hv
      refine m_iload_n F rfl e_X7_readFee_33 ?_
      refine t_aald8 F (j := fx nm k6687.2.2.1 nl) e_X7_readFee_34 rfl h6718 (kA_7 hbk (r := 1) (by decide)) (nI_clamp (by omega)) (vp_in_nI (by omega) (by decide)) ?_
      refine m_iload_n F rfl e_X7_readFee_35 ?_
      refine t_putC F e_X7_readFee_36 fp_X7_163 (fun _ => o15) h6718 (kA_8 (kA_7 hbk (r := 1) (by decide)) (j := fx nm k6687.2.2.1 nl) (by omega)) rfl ⟨_, rfl⟩ rfl rfl (by decide) (fun σ6743 h6744 g6745 g6746 f6747 => ?_)
      have bx6748 := bx6719.keep hbk (fld_eq (g6745 bk (kdn hbk (kA_8 (kA_7 hbk (r := 1) (by decide)) (j := fx nm k6687.2.2.1 nl) (by omega)) (by decide)))) (fld_eq (g6745 bk (kdn hbk (kA_8 (kA_7 hbk (r := 1) (by decide)) (j := fx nm k6687.2.2.1 nl) (by omega)) (by decide)))) (fld_eq (g6745 bk (kdn hbk (kA_8 (kA_7 hbk (r := 1) (by decide)) (j := fx nm k6687.2.2.1 nl) (by omega)) (by decide)))) (g6745 (bk + 4) (kdn (kA_7 hbk (r := 4) (by decide) : kA b (bk + 4) = 11) (kA_8 (kA_7 hbk (r := 1) (by decide)) (j := fx nm k6687.2.2.1 nl) (by omega)) (by decide))) (fun x _ => put15 g6745 (g6746 0 (by decide)) x)
      have tq6749 := tq6720.keep (g6745 td (kdn htd (kA_8 (kA_7 hbk (r := 1) (by decide)) (j := fx nm k6687.2.2.1 nl) (by omega)) (by decide)))
      exact m_vret F hQ e_X7_readFee_39 (⟨h6744, (by unfold feeS; dsimp only; rw [ek6687, oncK_ok e6692 e6693 e6694, ek6715, numK_ok e6721 l6723 l6724, ek6741]; exact RES.r ct6727 ⟨(fld_eq (g6745 a (kdn hk (kA_8 (kA_7 hbk (r := 1) (by decide)) (j := fx nm k6687.2.2.1 nl) (by omega)) (by decide)))).trans rd6728, (fld_eq (g6745 a (kdn hk (kA_8 (kA_7 hbk (r := 1) (by decide)) (j := fx nm k6687.2.2.1 nl) (by omega)) (by decide)))).trans rd6729, (fld_eq (g6745 a (kdn hk (kA_8 (kA_7 hbk (r := 1) (by decide)) (j := fx nm k6687.2.2.1 nl) (by omega)) (by decide)))).trans rd6730, (fld_eq (g6745 a (kdn hk (kA_8 (kA_7 hbk (r := 1) (by decide)) (j := fx nm k6687.2.2.1 nl) (by omega)) (by decide)))).trans rd6731, (fld_eq (g6745 a (kdn hk (kA_8 (kA_7 hbk (r := 1) (by decide)) (j := fx nm k6687.2.2.1 nl) (by omega)) (by decide)))).trans rd6732, (fld_eq (g6745 a (kdn hk (kA_8 (kA_7 hbk (r := 1) (by decide)) (j := fx nm k6687.2.2.1 nl) (by omega)) (by decide)))).trans rd6733, (fld_eq (g6745 a (kdn hk (kA_8 (kA_7 hbk (r := 1) (by decide)) (j := fx nm k6687.2.2.1 nl) (by omega)) (by decide)))).trans rd6734, (fld_eq (g6745 a (kdn hk (kA_8 (kA_7 hbk (r := 1) (by decide)) (j := fx nm k6687.2.2.1 nl) (by omega)) (by decide)))).trans rd6735, (fld_eq (g6745 a (kdn hk (kA_8 (kA_7 hbk (r := 1) (by decide)) (j := fx nm k6687.2.2.1 nl) (by omega)) (by decide)))).trans rd6736, (fld_eq (g6745 a (kdn hk (kA_8 (kA_7 hbk (r := 1) (by decide)) (j := fx nm k6687.2.2.1 nl) (by omega)) (by decide)))).trans rd6737, (fld_eq (g6745 a (kdn hk (kA_8 (kA_7 hbk (r := 1) (by decide)) (j := fx nm k6687.2.2.1 nl) (by omega)) (by decide)))).trans rd6738, (fld_eq (g6745 a (kdn hk (kA_8 (kA_7 hbk (r := 1) (by decide)) (j := fx nm k6687.2.2.1 nl) (by omega)) (by decide)))).trans rd6739, (fld_eq (g6745 a (kdn hk (kA_8 (kA_7 hbk (r := 1) (by decide)) (j := fx nm k6687.2.2.1 nl) (by omega)) (by decide)))).trans rd6740⟩ bx6748 tq6749 (by omega) (by omega) (by omega) (by omega)), rfl⟩)
    · have hz9 : True := trivial
      refine m_istore_n F (lv' := [(2, .int 0), (1, .int (nI (fx nm k6687.2.2.1 nl))), (0, .ref a)]) e_X7_readFee_18 (by decide) rfl ?_
      refine m_aload_n F rfl e_X7_readFee_19 ?_
      refine t_getC F e_X7_readFee_20 fl_X7_55 (fun _ => o3) h6718 hk (rd6739) ?_
      refine m_if_ne F e_X7_readFee_23 (fun _ => ?_) (fun q => absurd q (by decide))
      exact m_vret F hQ e_X7_readFee_39 (⟨h6718, (by unfold feeS; dsimp only; rw [ek6687, oncK_ok e6692 e6693 e6694, ek6715, numK_1 e6721]; exact RES.l (rd6739) (rd6740) (by decide) (by decide) (by omega)), rfl⟩)
    · have hz9 : True := trivial
      refine m_istore_n F (lv' := [(2, .int 0), (1, .int (nI (fx nm k6687.2.2.1 nl))), (0, .ref a)]) e_X7_readFee_18 (by decide) rfl ?_
      refine m_aload_n F rfl e_X7_readFee_19 ?_
      refine t_getC F e_X7_readFee_20 fl_X7_55 (fun _ => o3) h6718 hk (rd6739) ?_
      refine m_if_ne F e_X7_readFee_23 (fun _ => ?_) (fun q => absurd q (by decide))
      exact m_vret F hQ e_X7_readFee_39 (⟨h6718, (by unfold feeS; dsimp only; rw [ek6687, oncK_ok e6692 e6693 e6694, ek6715, numK_2 e6721 e6722]; exact RES.l (rd6739) (rd6740) (by decide) (by decide) (by omega)), rfl⟩)
  · have hz9 : True := trivial
    refine m_istore_n F (lv' := [(1, .int x6700), (0, .ref a)]) e_X7_readFee_10 (by decide) rfl ?_
    refine m_aload_n F rfl e_X7_readFee_11 ?_
    refine m_iconst F (v := 0) (by decide) e_X7_readFee_12 ?_
    refine m_ldc F kc_X7_141 e_X7_readFee_13 ?_
    refine t_callV F e_X7_readFee_15 (s_X7_readNumberG (x_l X) V b M Z T _ _ a 0 99999 1 (nI k6687.1) h6690.1 hk  (rd6698) (rd6699) (by decide) (by omega)) cb_X7_readNumber ml_X7_130 im_X7_readNumber se_X7_readNumber (fun _ => o3) h6690 hk rfl rfl (rest := []) rfl (Nat.le_of_ble_eq_true rfl) ⟨Nat.le_of_ble_eq_true rfl, Nat.le_of_ble_eq_true rfl⟩ ⟨Nat.le_of_ble_eq_true rfl, Nat.le_of_ble_eq_true rfl⟩ (fun r σ6750 hp => ?_)
    obtain ⟨h6751, rd6753, rd6754, rfl⟩ := hp
    have h6752 := HK.trans h6690 h6751 (by decide)
    refine m_istore_n F (lv' := [(2, .int 0), (1, .int x6700), (0, .ref a)]) e_X7_readFee_18 (by decide) rfl ?_
    refine m_aload_n F rfl e_X7_readFee_19 ?_
    refine t_getC F e_X7_readFee_20 fl_X7_55 (fun _ => o3) h6752 hk (rd6753) ?_
    refine m_if_ne F e_X7_readFee_23 (fun _ => ?_) (fun q => absurd q (by decide))
    exact m_vret F hQ e_X7_readFee_39 (⟨h6752, (by unfold feeS; dsimp only; rw [ek6687, oncK_1 e6692]; exact RES.l (rd6753) (rd6754) (by decide) (by decide) (by omega)), rfl⟩)
  · have hz9 : True := trivial
    refine m_istore_n F (lv' := [(1, .int x6700), (0, .ref a)]) e_X7_readFee_10 (by decide) rfl ?_
    refine m_aload_n F rfl e_X7_readFee_11 ?_
    refine m_iconst F (v := 0) (by decide) e_X7_readFee_12 ?_
    refine m_ldc F kc_X7_141 e_X7_readFee_13 ?_
    refine t_callV F e_X7_readFee_15 (s_X7_readNumberG (x_l X) V b M Z T _ _ a 0 99999 4 (nI k6687.1) h6690.1 hk  (rd6698) (rd6699) (by decide) (by omega)) cb_X7_readNumber ml_X7_130 im_X7_readNumber se_X7_readNumber (fun _ => o3) h6690 hk rfl rfl (rest := []) rfl (Nat.le_of_ble_eq_true rfl) ⟨Nat.le_of_ble_eq_true rfl, Nat.le_of_ble_eq_true rfl⟩ ⟨Nat.le_of_ble_eq_true rfl, Nat.le_of_ble_eq_true rfl⟩ (fun r σ6756 hp => ?_)
    obtain ⟨h6757, rd6759, rd6760, rfl⟩ := hp
    have h6758 := HK.trans h6690 h6757 (by decide)
    refine m_istore_n F (lv' := [(2, .int 0), (1, .int x6700), (0, .ref a)]) e_X7_readFee_18 (by decide) rfl ?_
    refine m_aload_n F rfl e_X7_readFee_19 ?_
    refine t_getC F e_X7_readFee_20 fl_X7_55 (fun _ => o3) h6758 hk (rd6759) ?_
    refine m_if_ne F e_X7_readFee_23 (fun _ => ?_) (fun q => absurd q (by decide))
    exact m_vret F hQ e_X7_readFee_39 (⟨h6758, (by unfold feeS; dsimp only; rw [ek6687, oncK_4 e6692 e6693]; exact RES.l (rd6759) (rd6760) (by decide) (by decide) (by omega)), rfl⟩)
  · have hz9 : True := trivial
    refine m_istore_n F (lv' := [(1, .int x6700), (0, .ref a)]) e_X7_readFee_10 (by decide) rfl ?_
    refine m_aload_n F rfl e_X7_readFee_11 ?_
    refine m_iconst F (v := 0) (by decide) e_X7_readFee_12 ?_
    refine m_ldc F kc_X7_141 e_X7_readFee_13 ?_
    refine t_callV F e_X7_readFee_15 (s_X7_readNumberG (x_l X) V b M Z T _ _ a 0 99999 3 (nI k6687.1) h6690.1 hk  (rd6698) (rd6699) (by decide) (by omega)) cb_X7_readNumber ml_X7_130 im_X7_readNumber se_X7_readNumber (fun _ => o3) h6690 hk rfl rfl (rest := []) rfl (Nat.le_of_ble_eq_true rfl) ⟨Nat.le_of_ble_eq_true rfl, Nat.le_of_ble_eq_true rfl⟩ ⟨Nat.le_of_ble_eq_true rfl, Nat.le_of_ble_eq_true rfl⟩ (fun r σ6762 hp => ?_)
    obtain ⟨h6763, rd6765, rd6766, rfl⟩ := hp
    have h6764 := HK.trans h6690 h6763 (by decide)
    refine m_istore_n F (lv' := [(2, .int 0), (1, .int x6700), (0, .ref a)]) e_X7_readFee_18 (by decide) rfl ?_
    refine m_aload_n F rfl e_X7_readFee_19 ?_
    refine t_getC F e_X7_readFee_20 fl_X7_55 (fun _ => o3) h6764 hk (rd6765) ?_
    refine m_if_ne F e_X7_readFee_23 (fun _ => ?_) (fun q => absurd q (by decide))
    exact m_vret F hQ e_X7_readFee_39 (⟨h6764, (by unfold feeS; dsimp only; rw [ek6687, oncK_3 e6692 e6693 e6694]; exact RES.l (rd6765) (rd6766) (by decide) (by decide) (by omega)), rfl⟩)
set_option maxRecDepth 20000 in
theorem s_X7_readIndexE (l : Launch) (V : VX) (b M Z T N : Nat) (σ : Mem) (a : Nat) (tp : Nat) (td : Nat) (n : Nat) (bk : Nat) (nx : Nat) (st : Nat) (tk : Int32) (vl : Int32) (py : Nat) (sd : Nat) (ln : Nat) (ft : Int32) (pl : Int32) (t : Nat → Nat) (s9 : Nat) (v9 : Nat) (nl : Nat) (nm : Nat → Nat) (nc : Nat) (lc : Nat) (no : Nat) (md : Nat → Nat → Bool) (h0 : HT V (b, M, Z, T) σ) (hk : kA b a = 3) (hp0 : ft = 0) (hp1 : CT tk vl s9 v9) (hp2 : nx ≤ n) (hp3 : st ≤ n) (hp4 : pl = -1) (hp5 : BX σ bk nl nm nc lc no) (hp6 : TD V σ td nl md) (hp7 : py ≤ 12) (hR : RD σ a tp td n bk nx st tk vl py sd ln ft pl) (hB : BY V σ tp n t) (hn7 : n ≤ 700) (hsd : sd ≤ 1) (htp : kA b tp = 2) (htd : kA b td = 4) (hbk : kA b bk = 7) (hM : M + 0 ≤ 1000000000) : Ct l V yX7_readIndex cX7_readIndex 3 none 4 0 0 N σ [.ref a] (fun r τ => HK V (b, M, Z, T) [0, 1, 2, 4, 5, 6, 8, 9, 12, 13, 14, 15, 16, 17, 18, 19] σ τ ∧ RES V τ a tp td n bk (indexS (tok t n) (st, s9, v9, nx) nl nm py nc lc no sd md ln) ∧ r = none) := by
  refine Ct.of (by decide) (Nat.le_of_ble_eq_true rfl) [(0, .ref a)] rfl (fun X hX F hQ => ?_)
  have h1 : HK V (b, M, Z, T) [0, 1, 2, 4, 5, 6, 8, 9, 12, 13, 14, 15, 16, 17, 18, 19] σ σ := HK.start h0
  have hrd6768 := hR
  obtain ⟨rd6768, rd6769, rd6770, rd6771, rd6772, rd6773, rd6774, rd6775, rd6776, rd6777, rd6778, rd6779, rd6780⟩ := hrd6768
  subst hp0
  subst hp4
  have hbb6781 := hp5
  obtain ⟨bb6781, bb6782, bb6783, bb6784, bb6785, bb6786, bb6787, bb6788⟩ := hbb6781
  have hl4 := hp5.2.2.2.2.2.1
  have hlc : lc ≤ 100 := by rcases hp5.2.2.2.2.1 with q9 | q9 <;> omega
  refine m_aload_n F rfl e_X7_readIndex_0 ?_
  refine m_aload_n F rfl e_X7_readIndex_1 ?_
  refine t_getC F e_X7_readIndex_2 fl_X7_23 (fun _ => o3) h1 hk (rd6770) ?_
  refine t_getC F e_X7_readIndex_5 fl_X7_169 (fun _ => o7) h1 hbk (bb6783) ?_
  refine m_bipush F (v := 8) (by decide) e_X7_readIndex_8 ?_
  refine m_icmp_lt F e_X7_readIndex_10 (fun q10 => ?_) (fun q10 => ?_)
  · have c10 : nc < 8 := (nI_ltI (a := nc) (b := 8) (by omega) (by omega)).mp q10
    refine m_iconst F (v := 0) (by decide) e_X7_readIndex_17 ?_
    refine t_callV F e_X7_readIndex_18 (s_X7_startLineE (x_l X) V b M Z T _ _ a 0 tp td n bk nx st tk vl py sd ln 0 (-1) t s9 v9 h1.1 hk rfl hp1 (by omega) (by omega) rfl ⟨rd6768, rd6769, rd6770, rd6771, rd6772, rd6773, rd6774, rd6775, rd6776, rd6777, rd6778, rd6779, rd6780⟩ (hB.keep (h1.2 tp (by rw [show kA _ tp = 2 from htp]; decide))) hn7 hsd htp htd hbk (by omega)) cb_X7_startLine ml_X7_124 im_X7_startLine se_X7_startLine (fun _ => o3) h1 hk rfl rfl (rest := []) rfl (Nat.le_of_ble_eq_true rfl) ⟨Nat.le_of_ble_eq_true rfl, Nat.le_of_ble_eq_true rfl⟩ ⟨Nat.le_of_ble_eq_true rfl, Nat.le_of_ble_eq_true rfl⟩ (fun r σ6789 hp => ?_)
    obtain ⟨h6790, hp⟩ := hp
    have h6791 := HK.trans h1 h6790 (by decide)
    have bx6792 := hp5.hk hbk h6790 (by decide) (by decide) (by decide)
    have tq6793 := hp6.keep (h6790.2 td (by rw [show kA _ td = 4 from htd]; decide))
    obtain ⟨⟨tk6794, vl6795, ct6796, rd6797, rd6798, rd6799, rd6800, rd6801, rd6802, rd6803, rd6804, rd6805, rd6806, rd6807, rd6808, rd6809⟩, rfl⟩ := hp
    generalize ek6810 : tok t n nx = k6810 at ct6796 rd6801 rd6802
    have bk6810 := tok_ok (t := t) (n := n) nx (by omega)
    rw [ek6810] at bk6810
    refine m_aload_n F rfl e_X7_readIndex_21 ?_
    refine m_aload_n F rfl e_X7_readIndex_22 ?_
    refine t_getC F e_X7_readIndex_23 fl_X7_23 (fun _ => o3) h6791 hk (rd6799) ?_
    refine t_callV F e_X7_readIndex_26 (s_X2_lastToldE (x_l X) V b M Z T _ _ bk nl nm nc lc no h6791.1 hbk bx6792 (by omega)) cb_X2_lastTold ml_X7_172 im_X2_lastTold se_X2_lastTold (fun _ => o7) h6791 hbk rfl rfl (rest := [.ref a]) rfl (Nat.le_of_ble_eq_true rfl) ⟨Nat.le_of_ble_eq_true rfl, Nat.le_of_ble_eq_true rfl⟩ ⟨Nat.le_of_ble_eq_true rfl, Nat.le_of_ble_eq_true rfl⟩ (fun r σ6811 hp => ?_)
    obtain ⟨h6812, x6814, rfl, exx6814⟩ := hp
    have h6813 := HK.trans h6791 h6812 (by decide)
    have bx6815 := bx6792.hk hbk h6812 (by decide) (by decide) (by decide)
    have tq6816 := tq6793.keep (h6812.2 td (by rw [show kA _ td = 4 from htd]; decide))
    refine m_iconst F (v := 1) (by decide) e_X7_readIndex_29 ?_
    refine m_iadd F e_X7_readIndex_30 ?_
    refine Wm.topE (w := nI lc) exx6814 ?_
    refine m_bipush F (v := 99) (by decide) e_X7_readIndex_31 ?_
    refine t_callV F e_X7_readIndex_33 (s_X7_readNumberE (x_l X) V b M Z T _ _ a lc 99 tp td n bk k6810.2.2.2 k6810.1 tk6794 vl6795 py sd ln 0 (-1) t k6810.2.1 k6810.2.2.1 h6813.1 hk (by omega) (by omega) rfl ct6796 (by omega) (by omega) ⟨(fld_eq (h6812.2 a (by rw [show kA _ a = 3 from hk]; decide))).trans rd6797, (fld_eq (h6812.2 a (by rw [show kA _ a = 3 from hk]; decide))).trans rd6798, (fld_eq (h6812.2 a (by rw [show kA _ a = 3 from hk]; decide))).trans rd6799, (fld_eq (h6812.2 a (by rw [show kA _ a = 3 from hk]; decide))).trans rd6800, (fld_eq (h6812.2 a (by rw [show kA _ a = 3 from hk]; decide))).trans rd6801, (fld_eq (h6812.2 a (by rw [show kA _ a = 3 from hk]; decide))).trans rd6802, (fld_eq (h6812.2 a (by rw [show kA _ a = 3 from hk]; decide))).trans rd6803, (fld_eq (h6812.2 a (by rw [show kA _ a = 3 from hk]; decide))).trans rd6804, (fld_eq (h6812.2 a (by rw [show kA _ a = 3 from hk]; decide))).trans rd6805, (fld_eq (h6812.2 a (by rw [show kA _ a = 3 from hk]; decide))).trans rd6806, (fld_eq (h6812.2 a (by rw [show kA _ a = 3 from hk]; decide))).trans rd6807, (fld_eq (h6812.2 a (by rw [show kA _ a = 3 from hk]; decide))).trans rd6808, (fld_eq (h6812.2 a (by rw [show kA _ a = 3 from hk]; decide))).trans rd6809⟩ (hB.keep (h6813.2 tp (by rw [show kA _ tp = 2 from htp]; decide))) hn7 hsd htp htd hbk (by omega)) cb_X7_readNumber ml_X7_130 im_X7_readNumber se_X7_readNumber (fun _ => o3) h6813 hk rfl rfl (rest := []) rfl (Nat.le_of_ble_eq_true rfl) ⟨Nat.le_of_ble_eq_true rfl, Nat.le_of_ble_eq_true rfl⟩ ⟨Nat.le_of_ble_eq_true rfl, Nat.le_of_ble_eq_true rfl⟩ (fun r σ6817 hp => ?_)
    obtain ⟨h6818, hp⟩ := hp
    have h6819 := HK.trans h6813 h6818 (by decide)
    have bx6820 := bx6815.hk hbk h6818 (by decide) (by decide) (by decide)
    have tq6821 := tq6816.keep (h6818.2 td (by rw [show kA _ td = 4 from htd]; decide))
    rcases hp with ⟨e6822, l6824, l6825, ⟨tk6826, vl6827, ct6828, rd6829, rd6830, rd6831, rd6832, rd6833, rd6834, rd6835, rd6836, rd6837, rd6838, rd6839, rd6840, rd6841⟩, rfl⟩ | ⟨e6822, ⟨rd6829, rd6830, rd6831, rd6832, rd6833, rd6834, rd6835, rd6836, rd6837, rd6838, rd6839, rd6840, rd6841⟩, rfl⟩ | ⟨e6822, e6823, ⟨rd6829, rd6830, rd6831, rd6832, rd6833, rd6834, rd6835, rd6836, rd6837, rd6838, rd6839, rd6840, rd6841⟩, rfl⟩
    · generalize ek6842 : tok t n k6810.2.2.2 = k6842 at ct6828 rd6833 rd6834
      have bk6842 := tok_ok (t := t) (n := n) k6810.2.2.2 (by omega)
      rw [ek6842] at bk6842
      refine m_istore_n F (lv' := [(1, .int (nI k6810.2.2.1)), (0, .ref a)]) e_X7_readIndex_36 (by decide) rfl ?_
      refine m_aload_n F rfl e_X7_readIndex_37 ?_
      refine m_sipush F (v := 500) (by decide) e_X7_readIndex_38 ?_
      refine m_sipush F (v := 2000) (by decide) e_X7_readIndex_41 ?_
      refine t_callV F e_X7_readIndex_44 (s_X7_readNumberE (x_l X) V b M Z T _ _ a 500 2000 tp td n bk k6842.2.2.2 k6842.1 tk6826 vl6827 py sd ln 0 (-1) t k6842.2.1 k6842.2.2.1 h6819.1 hk (by omega) (by omega) rfl ct6828 (by omega) (by omega) ⟨rd6829, rd6830, rd6831, rd6832, rd6833, rd6834, rd6835, rd6836, rd6837, rd6838, rd6839, rd6840, rd6841⟩ (hB.keep (h6819.2 tp (by rw [show kA _ tp = 2 from htp]; decide))) hn7 hsd htp htd hbk (by omega)) cb_X7_readNumber ml_X7_130 im_X7_readNumber se_X7_readNumber (fun _ => o3) h6819 hk rfl rfl (rest := []) rfl (Nat.le_of_ble_eq_true rfl) ⟨Nat.le_of_ble_eq_true rfl, Nat.le_of_ble_eq_true rfl⟩ ⟨Nat.le_of_ble_eq_true rfl, Nat.le_of_ble_eq_true rfl⟩ (fun r σ6843 hp => ?_)
      obtain ⟨h6844, hp⟩ := hp
      have h6845 := HK.trans h6819 h6844 (by decide)
      have bx6846 := bx6820.hk hbk h6844 (by decide) (by decide) (by decide)
      have tq6847 := tq6821.keep (h6844.2 td (by rw [show kA _ td = 4 from htd]; decide))
      rcases hp with ⟨e6848, l6850, l6851, ⟨tk6852, vl6853, ct6854, rd6855, rd6856, rd6857, rd6858, rd6859, rd6860, rd6861, rd6862, rd6863, rd6864, rd6865, rd6866, rd6867⟩, rfl⟩ | ⟨e6848, ⟨rd6855, rd6856, rd6857, rd6858, rd6859, rd6860, rd6861, rd6862, rd6863, rd6864, rd6865, rd6866, rd6867⟩, rfl⟩ | ⟨e6848, e6849, ⟨rd6855, rd6856, rd6857, rd6858, rd6859, rd6860, rd6861, rd6862, rd6863, rd6864, rd6865, rd6866, rd6867⟩, rfl⟩
      · generalize ek6868 : tok t n k6842.2.2.2 = k6868 at ct6854 rd6859 rd6860
        have bk6868 := tok_ok (t := t) (n := n) k6842.2.2.2 (by omega)
        rw [ek6868] at bk6868
        refine m_istore_n F (lv' := [(2, .int (nI k6842.2.2.1)), (1, .int (nI k6810.2.2.1)), (0, .ref a)]) e_X7_readIndex_47 (by decide) rfl ?_
        refine m_aload_n F rfl e_X7_readIndex_48 ?_
        refine t_getC F e_X7_readIndex_49 fl_X7_55 (fun _ => o3) h6845 hk (rd6866) ?_
        refine m_if_ne F e_X7_readIndex_52 (fun q => absurd (by decide) q) (fun _ => ?_)
        refine m_aload_n F rfl e_X7_readIndex_55 ?_
        refine t_getC F e_X7_readIndex_56 fl_X7_23 (fun _ => o3) h6845 hk (rd6857) ?_
        refine m_iload_n F rfl e_X7_readIndex_59 ?_
        refine m_iload_n F rfl e_X7_readIndex_60 ?_
        refine t_callV F e_X7_readIndex_61 (s_X2_addIndexE (x_l X) V b M Z T _ _ bk k6810.2.2.1 (nI k6842.2.2.1) nl nm nc lc no h6845.1 hbk (by omega) (by omega) bx6846 (by omega)) cb_X2_addIndex ml_X7_175 im_X2_addIndex se_X2_addIndex (fun _ => o7) h6845 hbk rfl rfl (rest := []) rfl (Nat.le_of_ble_eq_true rfl) ⟨Nat.le_of_ble_eq_true rfl, Nat.le_of_ble_eq_true rfl⟩ ⟨Nat.le_of_ble_eq_true rfl, Nat.le_of_ble_eq_true rfl⟩ (fun r σ6869 hp => ?_)
        obtain ⟨h6870, bx6872, rfl⟩ := hp
        have h6871 := HK.trans h6845 h6870 (by decide)
        have tq6873 := tq6847.keep (h6870.2 td (by rw [show kA _ td = 4 from htd]; decide))
        exact m_vret F hQ e_X7_readIndex_64 (⟨h6871, (by unfold indexS; dsimp only; rw [if_neg (by omega), ek6810, numK_ok e6822 l6824 l6825, ek6842, numK_ok e6848 l6850 l6851, ek6868]; exact RES.r ct6854 ⟨(fld_eq (h6870.2 a (by rw [show kA _ a = 3 from hk]; decide))).trans rd6855, (fld_eq (h6870.2 a (by rw [show kA _ a = 3 from hk]; decide))).trans rd6856, (fld_eq (h6870.2 a (by rw [show kA _ a = 3 from hk]; decide))).trans rd6857, (fld_eq (h6870.2 a (by rw [show kA _ a = 3 from hk]; decide))).trans rd6858, (fld_eq (h6870.2 a (by rw [show kA _ a = 3 from hk]; decide))).trans rd6859, (fld_eq (h6870.2 a (by rw [show kA _ a = 3 from hk]; decide))).trans rd6860, (fld_eq (h6870.2 a (by rw [show kA _ a = 3 from hk]; decide))).trans rd6861, (fld_eq (h6870.2 a (by rw [show kA _ a = 3 from hk]; decide))).trans rd6862, (fld_eq (h6870.2 a (by rw [show kA _ a = 3 from hk]; decide))).trans rd6863, (fld_eq (h6870.2 a (by rw [show kA _ a = 3 from hk]; decide))).trans rd6864, (fld_eq (h6870.2 a (by rw [show kA _ a = 3 from hk]; decide))).trans rd6865, (fld_eq (h6870.2 a (by rw [show kA _ a = 3 from hk]; decide))).trans rd6866, (fld_eq (h6870.2 a (by rw [show kA _ a = 3 from hk]; decide))).trans rd6867⟩ bx6872 tq6873 (by omega) (by omega) (by omega) (by omega)), rfl⟩)
      · have hz9 : True := trivial
        refine m_istore_n F (lv' := [(2, .int 0), (1, .int (nI k6810.2.2.1)), (0, .ref a)]) e_X7_readIndex_47 (by decide) rfl ?_
        refine m_aload_n F rfl e_X7_readIndex_48 ?_
        refine t_getC F e_X7_readIndex_49 fl_X7_55 (fun _ => o3) h6845 hk (rd6866) ?_
        refine m_if_ne F e_X7_readIndex_52 (fun _ => ?_) (fun q => absurd q (by decide))
        exact m_vret F hQ e_X7_readIndex_64 (⟨h6845, (by unfold indexS; dsimp only; rw [if_neg (by omega), ek6810, numK_ok e6822 l6824 l6825, ek6842, numK_1 e6848]; exact RES.l (rd6866) (rd6867) (by decide) (by decide) (by omega)), rfl⟩)
      · have hz9 : True := trivial
        refine m_istore_n F (lv' := [(2, .int 0), (1, .int (nI k6810.2.2.1)), (0, .ref a)]) e_X7_readIndex_47 (by decide) rfl ?_
        refine m_aload_n F rfl e_X7_readIndex_48 ?_
        refine t_getC F e_X7_readIndex_49 fl_X7_55 (fun _ => o3) h6845 hk (rd6866) ?_
        refine m_if_ne F e_X7_readIndex_52 (fun _ => ?_) (fun q => absurd q (by decide))
        exact m_vret F hQ e_X7_readIndex_64 (⟨h6845, (by unfold indexS; dsimp only; rw [if_neg (by omega), ek6810, numK_ok e6822 l6824 l6825, ek6842, numK_2 e6848 e6849]; exact RES.l (rd6866) (rd6867) (by decide) (by decide) (by omega)), rfl⟩)
    · have hz9 : True := trivial
      refine m_istore_n F (lv' := [(1, .int 0), (0, .ref a)]) e_X7_readIndex_36 (by decide) rfl ?_
      refine m_aload_n F rfl e_X7_readIndex_37 ?_
      refine m_sipush F (v := 500) (by decide) e_X7_readIndex_38 ?_
      refine m_sipush F (v := 2000) (by decide) e_X7_readIndex_41 ?_
      refine t_callV F e_X7_readIndex_44 (s_X7_readNumberG (x_l X) V b M Z T _ _ a 500 2000 1 (nI k6810.1) h6819.1 hk  (rd6840) (rd6841) (by decide) (by omega)) cb_X7_readNumber ml_X7_130 im_X7_readNumber se_X7_readNumber (fun _ => o3) h6819 hk rfl rfl (rest := []) rfl (Nat.le_of_ble_eq_true rfl) ⟨Nat.le_of_ble_eq_true rfl, Nat.le_of_ble_eq_true rfl⟩ ⟨Nat.le_of_ble_eq_true rfl, Nat.le_of_ble_eq_true rfl⟩ (fun r σ6874 hp => ?_)
      obtain ⟨h6875, rd6877, rd6878, rfl⟩ := hp
      have h6876 := HK.trans h6819 h6875 (by decide)
      refine m_istore_n F (lv' := [(2, .int 0), (1, .int 0), (0, .ref a)]) e_X7_readIndex_47 (by decide) rfl ?_
      refine m_aload_n F rfl e_X7_readIndex_48 ?_
      refine t_getC F e_X7_readIndex_49 fl_X7_55 (fun _ => o3) h6876 hk (rd6877) ?_
      refine m_if_ne F e_X7_readIndex_52 (fun _ => ?_) (fun q => absurd q (by decide))
      exact m_vret F hQ e_X7_readIndex_64 (⟨h6876, (by unfold indexS; dsimp only; rw [if_neg (by omega), ek6810, numK_1 e6822]; exact RES.l (rd6877) (rd6878) (by decide) (by decide) (by omega)), rfl⟩)
    · have hz9 : True := trivial
      refine m_istore_n F (lv' := [(1, .int 0), (0, .ref a)]) e_X7_readIndex_36 (by decide) rfl ?_
      refine m_aload_n F rfl e_X7_readIndex_37 ?_
      refine m_sipush F (v := 500) (by decide) e_X7_readIndex_38 ?_
      refine m_sipush F (v := 2000) (by decide) e_X7_readIndex_41 ?_
      refine t_callV F e_X7_readIndex_44 (s_X7_readNumberG (x_l X) V b M Z T _ _ a 500 2000 2 (nI k6810.1) h6819.1 hk  (rd6840) (rd6841) (by decide) (by omega)) cb_X7_readNumber ml_X7_130 im_X7_readNumber se_X7_readNumber (fun _ => o3) h6819 hk rfl rfl (rest := []) rfl (Nat.le_of_ble_eq_true rfl) ⟨Nat.le_of_ble_eq_true rfl, Nat.le_of_ble_eq_true rfl⟩ ⟨Nat.le_of_ble_eq_true rfl, Nat.le_of_ble_eq_true rfl⟩ (fun r σ6880 hp => ?_)
      obtain ⟨h6881, rd6883, rd6884, rfl⟩ := hp
      have h6882 := HK.trans h6819 h6881 (by decide)
      refine m_istore_n F (lv' := [(2, .int 0), (1, .int 0), (0, .ref a)]) e_X7_readIndex_47 (by decide) rfl ?_
      refine m_aload_n F rfl e_X7_readIndex_48 ?_
      refine t_getC F e_X7_readIndex_49 fl_X7_55 (fun _ => o3) h6882 hk (rd6883) ?_
      refine m_if_ne F e_X7_readIndex_52 (fun _ => ?_) (fun q => absurd q (by decide))
      exact m_vret F hQ e_X7_readIndex_64 (⟨h6882, (by unfold indexS; dsimp only; rw [if_neg (by omega), ek6810, numK_2 e6822 e6823]; exact RES.l (rd6883) (rd6884) (by decide) (by decide) (by omega)), rfl⟩)
  · have c10 : nc ≥ 8 := by have hh := mt (nI_ltI (a := nc) (b := 8) (by omega) (by omega)).mpr q10; omega
    refine m_iconst F (v := 2) (by decide) e_X7_readIndex_13 ?_
    refine m_goto F e_X7_readIndex_14 ?_
    refine t_callV F e_X7_readIndex_18 (s_X7_startLineR (x_l X) V b M Z T _ _ a 2 tp td n bk nx st tk vl py sd ln 0 (-1) t  h1.1 hk (by omega) rfl (by decide) ⟨rd6768, rd6769, rd6770, rd6771, rd6772, rd6773, rd6774, rd6775, rd6776, rd6777, rd6778, rd6779, rd6780⟩ (hB.keep (h1.2 tp (by rw [show kA _ tp = 2 from htp]; decide))) hn7 hsd htp htd hbk (by omega)) cb_X7_startLine ml_X7_124 im_X7_startLine se_X7_startLine (fun _ => o3) h1 hk rfl rfl (rest := []) rfl (Nat.le_of_ble_eq_true rfl) ⟨Nat.le_of_ble_eq_true rfl, Nat.le_of_ble_eq_true rfl⟩ ⟨Nat.le_of_ble_eq_true rfl, Nat.le_of_ble_eq_true rfl⟩ (fun r σ6886 hp => ?_)
    obtain ⟨h6887, hp⟩ := hp
    have h6888 := HK.trans h1 h6887 (by decide)
    have bx6889 := hp5.hk hbk h6887 (by decide) (by decide) (by decide)
    have tq6890 := hp6.keep (h6887.2 td (by rw [show kA _ td = 4 from htd]; decide))
    obtain ⟨⟨rd6891, rd6892⟩, rfl⟩ := hp
    refine m_aload_n F rfl e_X7_readIndex_21 ?_
    refine m_aload_n F rfl e_X7_readIndex_22 ?_
    refine t_get F e_X7_readIndex_23 fl_X7_23 (fun _ => o3) h6888 hk rfl (fun v hv f6893 => ?_)
    obtain ⟨r6894, k6895, rfl⟩ := hv
    refine t_callV F e_X7_readIndex_26 (s_X2_lastTold (x_l X) V b M Z T _ _ r6894  h6888.1 k6895  (by omega)) cb_X2_lastTold ml_X7_172 im_X2_lastTold se_X2_lastTold (fun _ => o7) h6888 k6895 rfl rfl (rest := [.ref a]) rfl (Nat.le_of_ble_eq_true rfl) ⟨Nat.le_of_ble_eq_true rfl, Nat.le_of_ble_eq_true rfl⟩ ⟨Nat.le_of_ble_eq_true rfl, Nat.le_of_ble_eq_true rfl⟩ (fun r σ6896 hp => ?_)
    obtain ⟨h6898, x6899, rfl⟩ := hp
    have h6897 := HK.trans h6888 h6898 (by decide)
    refine m_iconst F (v := 1) (by decide) e_X7_readIndex_29 ?_
    refine m_iadd F e_X7_readIndex_30 ?_
    refine Wm.top (fun x6900 _ => ?_)
    refine m_bipush F (v := 99) (by decide) e_X7_readIndex_31 ?_
    refine t_callV F e_X7_readIndex_33 (s_X7_readNumberG (x_l X) V b M Z T _ _ a x6900 99 2 (nI st) h6897.1 hk  ((fld_eq (h6898.2 a (by rw [show kA _ a = 3 from hk]; decide))).trans rd6891) ((fld_eq (h6898.2 a (by rw [show kA _ a = 3 from hk]; decide))).trans rd6892) (by decide) (by omega)) cb_X7_readNumber ml_X7_130 im_X7_readNumber se_X7_readNumber (fun _ => o3) h6897 hk rfl rfl (rest := []) rfl (Nat.le_of_ble_eq_true rfl) ⟨Nat.le_of_ble_eq_true rfl, Nat.le_of_ble_eq_true rfl⟩ ⟨Nat.le_of_ble_eq_true rfl, Nat.le_of_ble_eq_true rfl⟩ (fun r σ6901 hp => ?_)
    obtain ⟨h6902, rd6904, rd6905, rfl⟩ := hp
    have h6903 := HK.trans h6897 h6902 (by decide)
    refine m_istore_n F (lv' := [(1, .int 0), (0, .ref a)]) e_X7_readIndex_36 (by decide) rfl ?_
    refine m_aload_n F rfl e_X7_readIndex_37 ?_
    refine m_sipush F (v := 500) (by decide) e_X7_readIndex_38 ?_
    refine m_sipush F (v := 2000) (by decide) e_X7_readIndex_41 ?_
    refine t_callV F e_X7_readIndex_44 (s_X7_readNumberG (x_l X) V b M Z T _ _ a 500 2000 2 (nI st) h6903.1 hk  (rd6904) (rd6905) (by decide) (by omega)) cb_X7_readNumber ml_X7_130 im_X7_readNumber se_X7_readNumber (fun _ => o3) h6903 hk rfl rfl (rest := []) rfl (Nat.le_of_ble_eq_true rfl) ⟨Nat.le_of_ble_eq_true rfl, Nat.le_of_ble_eq_true rfl⟩ ⟨Nat.le_of_ble_eq_true rfl, Nat.le_of_ble_eq_true rfl⟩ (fun r σ6907 hp => ?_)
    obtain ⟨h6908, rd6910, rd6911, rfl⟩ := hp
    have h6909 := HK.trans h6903 h6908 (by decide)
    refine m_istore_n F (lv' := [(2, .int 0), (1, .int 0), (0, .ref a)]) e_X7_readIndex_47 (by decide) rfl ?_
    refine m_aload_n F rfl e_X7_readIndex_48 ?_
    refine t_getC F e_X7_readIndex_49 fl_X7_55 (fun _ => o3) h6909 hk (rd6910) ?_
    refine m_if_ne F e_X7_readIndex_52 (fun _ => ?_) (fun q => absurd q (by decide))
    exact m_vret F hQ e_X7_readIndex_64 (⟨h6909, (by unfold indexS; dsimp only; rw [if_pos (by omega)]; exact RES.l (rd6910) (rd6911) (by decide) (by decide) (by omega)), rfl⟩)
set_option maxRecDepth 20000 in
theorem s_X7_readOptionE (l : Launch) (V : VX) (b M Z T N : Nat) (σ : Mem) (a : Nat) (tp : Nat) (td : Nat) (n : Nat) (bk : Nat) (nx : Nat) (st : Nat) (tk : Int32) (vl : Int32) (py : Nat) (sd : Nat) (ln : Nat) (ft : Int32) (pl : Int32) (t : Nat → Nat) (s9 : Nat) (v9 : Nat) (nl : Nat) (nm : Nat → Nat) (nc : Nat) (lc : Nat) (no : Nat) (md : Nat → Nat → Bool) (h0 : HT V (b, M, Z, T) σ) (hk : kA b a = 3) (hp0 : ft = 0) (hp1 : CT tk vl s9 v9) (hp2 : nx ≤ n) (hp3 : st ≤ n) (hp4 : pl = -1) (hp5 : BX σ bk nl nm nc lc no) (hp6 : TD V σ td nl md) (hp7 : py ≤ 12) (hR : RD σ a tp td n bk nx st tk vl py sd ln ft pl) (hB : BY V σ tp n t) (hn7 : n ≤ 700) (hsd : sd ≤ 1) (htp : kA b tp = 2) (htd : kA b td = 4) (hbk : kA b bk = 7) (hM : M + 0 ≤ 1000000000) : Ct l V yX7_readOption cX7_readOption 4 none 4 0 0 N σ [.ref a] (fun r τ => HK V (b, M, Z, T) [0, 1, 2, 4, 5, 6, 8, 9, 10, 11, 12, 13, 14, 15, 16, 17, 18] σ τ ∧ RES V τ a tp td n bk (optionS (tok t n) (st, s9, v9, nx) nl nm py nc lc no sd md ln) ∧ r = none) := by
  refine Ct.of (by decide) (Nat.le_of_ble_eq_true rfl) [(0, .ref a)] rfl (fun X hX F hQ => ?_)
  have h1 : HK V (b, M, Z, T) [0, 1, 2, 4, 5, 6, 8, 9, 10, 11, 12, 13, 14, 15, 16, 17, 18] σ σ := HK.start h0
  have hrd6913 := hR
  obtain ⟨rd6913, rd6914, rd6915, rd6916, rd6917, rd6918, rd6919, rd6920, rd6921, rd6922, rd6923, rd6924, rd6925⟩ := hrd6913
  subst hp0
  subst hp4
  have hbb6926 := hp5
  obtain ⟨bb6926, bb6927, bb6928, bb6929, bb6930, bb6931, bb6932, bb6933⟩ := hbb6926
  have hl4 := hp5.2.2.2.2.2.1
  refine m_aload_n F rfl e_X7_readOption_0 ?_
  refine m_aload_n F rfl e_X7_readOption_1 ?_
  refine t_getC F e_X7_readOption_2 fl_X7_23 (fun _ => o3) h1 hk (rd6915) ?_
  refine t_getC F e_X7_readOption_5 fl_X7_179 (fun _ => o7) h1 hbk (bb6927) ?_
  refine m_iconst F (v := 4) (by decide) e_X7_readOption_8 ?_
  refine m_icmp_lt F e_X7_readOption_9 (fun q9 => ?_) (fun q9 => ?_)
  · have c9 : no < 4 := (nI_ltI (a := no) (b := 4) (by omega) (by omega)).mp q9
    refine m_iconst F (v := 0) (by decide) e_X7_readOption_16 ?_
    refine t_callV F e_X7_readOption_17 (s_X7_startLineE (x_l X) V b M Z T _ _ a 0 tp td n bk nx st tk vl py sd ln 0 (-1) t s9 v9 h1.1 hk rfl hp1 (by omega) (by omega) rfl ⟨rd6913, rd6914, rd6915, rd6916, rd6917, rd6918, rd6919, rd6920, rd6921, rd6922, rd6923, rd6924, rd6925⟩ (hB.keep (h1.2 tp (by rw [show kA _ tp = 2 from htp]; decide))) hn7 hsd htp htd hbk (by omega)) cb_X7_startLine ml_X7_124 im_X7_startLine se_X7_startLine (fun _ => o3) h1 hk rfl rfl (rest := []) rfl (Nat.le_of_ble_eq_true rfl) ⟨Nat.le_of_ble_eq_true rfl, Nat.le_of_ble_eq_true rfl⟩ ⟨Nat.le_of_ble_eq_true rfl, Nat.le_of_ble_eq_true rfl⟩ (fun r σ6934 hp => ?_)
    obtain ⟨h6935, hp⟩ := hp
    have h6936 := HK.trans h1 h6935 (by decide)
    have bx6937 := hp5.hk hbk h6935 (by decide) (by decide) (by decide)
    have tq6938 := hp6.keep (h6935.2 td (by rw [show kA _ td = 4 from htd]; decide))
    obtain ⟨⟨tk6939, vl6940, ct6941, rd6942, rd6943, rd6944, rd6945, rd6946, rd6947, rd6948, rd6949, rd6950, rd6951, rd6952, rd6953, rd6954⟩, rfl⟩ := hp
    generalize ek6955 : tok t n nx = k6955 at ct6941 rd6946 rd6947
    have bk6955 := tok_ok (t := t) (n := n) nx (by omega)
    rw [ek6955] at bk6955
    refine m_aload_n F rfl e_X7_readOption_20 ?_
    refine t_callV F e_X7_readOption_21 (s_X7_readToldNameE (x_l X) V b M Z T _ _ a  tp td n bk k6955.2.2.2 k6955.1 tk6939 vl6940 py sd ln 0 (-1) t k6955.2.1 k6955.2.2.1 nl nm nc lc no  h6936.1 hk rfl ct6941 (by omega) (by omega) bx6937 ⟨rd6942, rd6943, rd6944, rd6945, rd6946, rd6947, rd6948, rd6949, rd6950, rd6951, rd6952, rd6953, rd6954⟩ (hB.keep (h6936.2 tp (by rw [show kA _ tp = 2 from htp]; decide))) hn7 hsd htp htd hbk (by omega)) cb_X7_readToldName ml_X7_138 im_X7_readToldName se_X7_readToldName (fun _ => o3) h6936 hk rfl rfl (rest := []) rfl (Nat.le_of_ble_eq_true rfl) ⟨Nat.le_of_ble_eq_true rfl, Nat.le_of_ble_eq_true rfl⟩ ⟨Nat.le_of_ble_eq_true rfl, Nat.le_of_ble_eq_true rfl⟩ (fun r σ6956 hp => ?_)
    obtain ⟨h6957, hp⟩ := hp
    have h6958 := HK.trans h6936 h6957 (by decide)
    have bx6959 := bx6937.hk hbk h6957 (by decide) (by decide) (by decide)
    have tq6960 := tq6938.keep (h6957.2 td (by rw [show kA _ td = 4 from htd]; decide))
    rcases hp with ⟨e6961, e6962, ⟨tk6964, vl6965, ct6966, rd6971, rd6972, rd6973, rd6974, rd6975, rd6976, rd6977, rd6978, rd6979, rd6980, rd6981, rd6982, rd6983⟩, rfl⟩ | ⟨e6961, ⟨rd6967, rd6968⟩, x6969, rfl⟩ | ⟨e6961, e6962, ⟨rd6967, rd6968⟩, x6969, rfl⟩
    · have hv9 := ct6941.w e6961
      generalize ek6984 : tok t n k6955.2.2.2 = k6984 at ct6966 rd6975 rd6976
      have bk6984 := tok_ok (t := t) (n := n) k6955.2.2.2 (by omega)
      rw [ek6984] at bk6984
      refine m_istore_n F (lv' := [(1, .int (nI (fx nm k6955.2.2.1 nl))), (0, .ref a)]) e_X7_readOption_24 (by decide) rfl ?_
      refine m_aload_n F rfl e_X7_readOption_25 ?_
      refine m_iconst F (v := 1) (by decide) e_X7_readOption_26 ?_
      refine m_bipush F (v := 24) (by decide) e_X7_readOption_27 ?_
      refine t_callV F e_X7_readOption_29 (s_X7_readNumberE (x_l X) V b M Z T _ _ a 1 24 tp td n bk k6984.2.2.2 k6984.1 tk6964 vl6965 py sd ln 0 (-1) t k6984.2.1 k6984.2.2.1 h6958.1 hk (by omega) (by omega) rfl ct6966 (by omega) (by omega) ⟨rd6971, rd6972, rd6973, rd6974, rd6975, rd6976, rd6977, rd6978, rd6979, rd6980, rd6981, rd6982, rd6983⟩ (hB.keep (h6958.2 tp (by rw [show kA _ tp = 2 from htp]; decide))) hn7 hsd htp htd hbk (by omega)) cb_X7_readNumber ml_X7_130 im_X7_readNumber se_X7_readNumber (fun _ => o3) h6958 hk rfl rfl (rest := []) rfl (Nat.le_of_ble_eq_true rfl) ⟨Nat.le_of_ble_eq_true rfl, Nat.le_of_ble_eq_true rfl⟩ ⟨Nat.le_of_ble_eq_true rfl, Nat.le_of_ble_eq_true rfl⟩ (fun r σ6985 hp => ?_)
      obtain ⟨h6986, hp⟩ := hp
      have h6987 := HK.trans h6958 h6986 (by decide)
      have bx6988 := bx6959.hk hbk h6986 (by decide) (by decide) (by decide)
      have tq6989 := tq6960.keep (h6986.2 td (by rw [show kA _ td = 4 from htd]; decide))
      rcases hp with ⟨e6990, l6992, l6993, ⟨tk6994, vl6995, ct6996, rd6997, rd6998, rd6999, rd7000, rd7001, rd7002, rd7003, rd7004, rd7005, rd7006, rd7007, rd7008, rd7009⟩, rfl⟩ | ⟨e6990, ⟨rd6997, rd6998, rd6999, rd7000, rd7001, rd7002, rd7003, rd7004, rd7005, rd7006, rd7007, rd7008, rd7009⟩, rfl⟩ | ⟨e6990, e6991, ⟨rd6997, rd6998, rd6999, rd7000, rd7001, rd7002, rd7003, rd7004, rd7005, rd7006, rd7007, rd7008, rd7009⟩, rfl⟩
      · generalize ek7010 : tok t n k6984.2.2.2 = k7010 at ct6996 rd7001 rd7002
        have bk7010 := tok_ok (t := t) (n := n) k6984.2.2.2 (by omega)
        rw [ek7010] at bk7010
        refine m_istore_n F (lv' := [(2, .int (nI k6984.2.2.1)), (1, .int (nI (fx nm k6955.2.2.1 nl))), (0, .ref a)]) e_X7_readOption_32 (by decide) rfl ?_
        refine m_aload_n F rfl e_X7_readOption_33 ?_
        refine m_iconst F (v := 0) (by decide) e_X7_readOption_34 ?_
        refine m_ldc F kc_X7_141 e_X7_readOption_35 ?_
        refine t_callV F e_X7_readOption_37 (s_X7_readNumberE (x_l X) V b M Z T _ _ a 0 99999 tp td n bk k7010.2.2.2 k7010.1 tk6994 vl6995 py sd ln 0 (-1) t k7010.2.1 k7010.2.2.1 h6987.1 hk (by omega) (by omega) rfl ct6996 (by omega) (by omega) ⟨rd6997, rd6998, rd6999, rd7000, rd7001, rd7002, rd7003, rd7004, rd7005, rd7006, rd7007, rd7008, rd7009⟩ (hB.keep (h6987.2 tp (by rw [show kA _ tp = 2 from htp]; decide))) hn7 hsd htp htd hbk (by omega)) cb_X7_readNumber ml_X7_130 im_X7_readNumber se_X7_readNumber (fun _ => o3) h6987 hk rfl rfl (rest := []) rfl (Nat.le_of_ble_eq_true rfl) ⟨Nat.le_of_ble_eq_true rfl, Nat.le_of_ble_eq_true rfl⟩ ⟨Nat.le_of_ble_eq_true rfl, Nat.le_of_ble_eq_true rfl⟩ (fun r σ7011 hp => ?_)
        obtain ⟨h7012, hp⟩ := hp
        have h7013 := HK.trans h6987 h7012 (by decide)
        have bx7014 := bx6988.hk hbk h7012 (by decide) (by decide) (by decide)
        have tq7015 := tq6989.keep (h7012.2 td (by rw [show kA _ td = 4 from htd]; decide))
        rcases hp with ⟨e7016, l7018, l7019, ⟨tk7020, vl7021, ct7022, rd7023, rd7024, rd7025, rd7026, rd7027, rd7028, rd7029, rd7030, rd7031, rd7032, rd7033, rd7034, rd7035⟩, rfl⟩ | ⟨e7016, ⟨rd7023, rd7024, rd7025, rd7026, rd7027, rd7028, rd7029, rd7030, rd7031, rd7032, rd7033, rd7034, rd7035⟩, rfl⟩ | ⟨e7016, e7017, ⟨rd7023, rd7024, rd7025, rd7026, rd7027, rd7028, rd7029, rd7030, rd7031, rd7032, rd7033, rd7034, rd7035⟩, rfl⟩
        · generalize ek7036 : tok t n k7010.2.2.2 = k7036 at ct7022 rd7027 rd7028
          have bk7036 := tok_ok (t := t) (n := n) k7010.2.2.2 (by omega)
          rw [ek7036] at bk7036
          refine m_istore_n F (lv' := [(3, .int (nI k7010.2.2.1)), (2, .int (nI k6984.2.2.1)), (1, .int (nI (fx nm k6955.2.2.1 nl))), (0, .ref a)]) e_X7_readOption_40 (by decide) rfl ?_
          refine m_aload_n F rfl e_X7_readOption_41 ?_
          refine t_getC F e_X7_readOption_42 fl_X7_55 (fun _ => o3) h7013 hk (rd7034) ?_
          refine m_if_ne F e_X7_readOption_45 (fun q => absurd (by decide) q) (fun _ => ?_)
          refine m_aload_n F rfl e_X7_readOption_48 ?_
          refine t_getC F e_X7_readOption_49 fl_X7_23 (fun _ => o3) h7013 hk (rd7025) ?_
          refine m_iload_n F rfl e_X7_readOption_52 ?_
          refine m_iload_n F rfl e_X7_readOption_53 ?_
          refine m_iload_n F rfl e_X7_readOption_54 ?_
          refine t_callV F e_X7_readOption_55 (s_X2_addOptionE (x_l X) V b M Z T _ _ bk (fx nm k6955.2.2.1 nl) k6984.2.2.1 (nI k7010.2.2.1) nl nm nc lc no h7013.1 hbk (by omega) (by omega) (by omega) bx7014 (by omega)) cb_X2_addOption ml_X7_182 im_X2_addOption se_X2_addOption (fun _ => o7) h7013 hbk rfl rfl (rest := []) rfl (Nat.le_of_ble_eq_true rfl) ⟨Nat.le_of_ble_eq_true rfl, Nat.le_of_ble_eq_true rfl⟩ ⟨Nat.le_of_ble_eq_true rfl, Nat.le_of_ble_eq_true rfl⟩ (fun r σ7037 hp => ?_)
          obtain ⟨h7038, bx7040, rfl⟩ := hp
          have h7039 := HK.trans h7013 h7038 (by decide)
          have tq7041 := tq7015.keep (h7038.2 td (by rw [show kA _ td = 4 from htd]; decide))
          exact m_vret F hQ e_X7_readOption_58 (⟨h7039, (by unfold optionS; dsimp only; rw [if_neg (by omega), ek6955, tolK_ok e6961 e6962, ek6984, numK_ok e6990 l6992 l6993, ek7010, numK_ok e7016 l7018 l7019, ek7036]; exact RES.r ct7022 ⟨(fld_eq (h7038.2 a (by rw [show kA _ a = 3 from hk]; decide))).trans rd7023, (fld_eq (h7038.2 a (by rw [show kA _ a = 3 from hk]; decide))).trans rd7024, (fld_eq (h7038.2 a (by rw [show kA _ a = 3 from hk]; decide))).trans rd7025, (fld_eq (h7038.2 a (by rw [show kA _ a = 3 from hk]; decide))).trans rd7026, (fld_eq (h7038.2 a (by rw [show kA _ a = 3 from hk]; decide))).trans rd7027, (fld_eq (h7038.2 a (by rw [show kA _ a = 3 from hk]; decide))).trans rd7028, (fld_eq (h7038.2 a (by rw [show kA _ a = 3 from hk]; decide))).trans rd7029, (fld_eq (h7038.2 a (by rw [show kA _ a = 3 from hk]; decide))).trans rd7030, (fld_eq (h7038.2 a (by rw [show kA _ a = 3 from hk]; decide))).trans rd7031, (fld_eq (h7038.2 a (by rw [show kA _ a = 3 from hk]; decide))).trans rd7032, (fld_eq (h7038.2 a (by rw [show kA _ a = 3 from hk]; decide))).trans rd7033, (fld_eq (h7038.2 a (by rw [show kA _ a = 3 from hk]; decide))).trans rd7034, (fld_eq (h7038.2 a (by rw [show kA _ a = 3 from hk]; decide))).trans rd7035⟩ bx7040 tq7041 (by omega) (by omega) (by omega) (by omega)), rfl⟩)
        · have hz9 : True := trivial
          refine m_istore_n F (lv' := [(3, .int 0), (2, .int (nI k6984.2.2.1)), (1, .int (nI (fx nm k6955.2.2.1 nl))), (0, .ref a)]) e_X7_readOption_40 (by decide) rfl ?_
          refine m_aload_n F rfl e_X7_readOption_41 ?_
          refine t_getC F e_X7_readOption_42 fl_X7_55 (fun _ => o3) h7013 hk (rd7034) ?_
          refine m_if_ne F e_X7_readOption_45 (fun _ => ?_) (fun q => absurd q (by decide))
          exact m_vret F hQ e_X7_readOption_58 (⟨h7013, (by unfold optionS; dsimp only; rw [if_neg (by omega), ek6955, tolK_ok e6961 e6962, ek6984, numK_ok e6990 l6992 l6993, ek7010, numK_1 e7016]; exact RES.l (rd7034) (rd7035) (by decide) (by decide) (by omega)), rfl⟩)
        · have hz9 : True := trivial
          refine m_istore_n F (lv' := [(3, .int 0), (2, .int (nI k6984.2.2.1)), (1, .int (nI (fx nm k6955.2.2.1 nl))), (0, .ref a)]) e_X7_readOption_40 (by decide) rfl ?_
          refine m_aload_n F rfl e_X7_readOption_41 ?_
          refine t_getC F e_X7_readOption_42 fl_X7_55 (fun _ => o3) h7013 hk (rd7034) ?_
          refine m_if_ne F e_X7_readOption_45 (fun _ => ?_) (fun q => absurd q (by decide))
          exact m_vret F hQ e_X7_readOption_58 (⟨h7013, (by unfold optionS; dsimp only; rw [if_neg (by omega), ek6955, tolK_ok e6961 e6962, ek6984, numK_ok e6990 l6992 l6993, ek7010, numK_2 e7016 e7017]; exact RES.l (rd7034) (rd7035) (by decide) (by decide) (by omega)), rfl⟩)
      · have hz9 : True := trivial
        refine m_istore_n F (lv' := [(2, .int 0), (1, .int (nI (fx nm k6955.2.2.1 nl))), (0, .ref a)]) e_X7_readOption_32 (by decide) rfl ?_
        refine m_aload_n F rfl e_X7_readOption_33 ?_
        refine m_iconst F (v := 0) (by decide) e_X7_readOption_34 ?_
        refine m_ldc F kc_X7_141 e_X7_readOption_35 ?_
        refine t_callV F e_X7_readOption_37 (s_X7_readNumberG (x_l X) V b M Z T _ _ a 0 99999 1 (nI k6984.1) h6987.1 hk  (rd7008) (rd7009) (by decide) (by omega)) cb_X7_readNumber ml_X7_130 im_X7_readNumber se_X7_readNumber (fun _ => o3) h6987 hk rfl rfl (rest := []) rfl (Nat.le_of_ble_eq_true rfl) ⟨Nat.le_of_ble_eq_true rfl, Nat.le_of_ble_eq_true rfl⟩ ⟨Nat.le_of_ble_eq_true rfl, Nat.le_of_ble_eq_true rfl⟩ (fun r σ7042 hp => ?_)
        obtain ⟨h7043, rd7045, rd7046, rfl⟩ := hp
        have h7044 := HK.trans h6987 h7043 (by decide)
        refine m_istore_n F (lv' := [(3, .int 0), (2, .int 0), (1, .int (nI (fx nm k6955.2.2.1 nl))), (0, .ref a)]) e_X7_readOption_40 (by decide) rfl ?_
        refine m_aload_n F rfl e_X7_readOption_41 ?_
        refine t_getC F e_X7_readOption_42 fl_X7_55 (fun _ => o3) h7044 hk (rd7045) ?_
        refine m_if_ne F e_X7_readOption_45 (fun _ => ?_) (fun q => absurd q (by decide))
        exact m_vret F hQ e_X7_readOption_58 (⟨h7044, (by unfold optionS; dsimp only; rw [if_neg (by omega), ek6955, tolK_ok e6961 e6962, ek6984, numK_1 e6990]; exact RES.l (rd7045) (rd7046) (by decide) (by decide) (by omega)), rfl⟩)
      · have hz9 : True := trivial
        refine m_istore_n F (lv' := [(2, .int 0), (1, .int (nI (fx nm k6955.2.2.1 nl))), (0, .ref a)]) e_X7_readOption_32 (by decide) rfl ?_
        refine m_aload_n F rfl e_X7_readOption_33 ?_
        refine m_iconst F (v := 0) (by decide) e_X7_readOption_34 ?_
        refine m_ldc F kc_X7_141 e_X7_readOption_35 ?_
        refine t_callV F e_X7_readOption_37 (s_X7_readNumberG (x_l X) V b M Z T _ _ a 0 99999 2 (nI k6984.1) h6987.1 hk  (rd7008) (rd7009) (by decide) (by omega)) cb_X7_readNumber ml_X7_130 im_X7_readNumber se_X7_readNumber (fun _ => o3) h6987 hk rfl rfl (rest := []) rfl (Nat.le_of_ble_eq_true rfl) ⟨Nat.le_of_ble_eq_true rfl, Nat.le_of_ble_eq_true rfl⟩ ⟨Nat.le_of_ble_eq_true rfl, Nat.le_of_ble_eq_true rfl⟩ (fun r σ7048 hp => ?_)
        obtain ⟨h7049, rd7051, rd7052, rfl⟩ := hp
        have h7050 := HK.trans h6987 h7049 (by decide)
        refine m_istore_n F (lv' := [(3, .int 0), (2, .int 0), (1, .int (nI (fx nm k6955.2.2.1 nl))), (0, .ref a)]) e_X7_readOption_40 (by decide) rfl ?_
        refine m_aload_n F rfl e_X7_readOption_41 ?_
        refine t_getC F e_X7_readOption_42 fl_X7_55 (fun _ => o3) h7050 hk (rd7051) ?_
        refine m_if_ne F e_X7_readOption_45 (fun _ => ?_) (fun q => absurd q (by decide))
        exact m_vret F hQ e_X7_readOption_58 (⟨h7050, (by unfold optionS; dsimp only; rw [if_neg (by omega), ek6955, tolK_ok e6961 e6962, ek6984, numK_2 e6990 e6991]; exact RES.l (rd7051) (rd7052) (by decide) (by decide) (by omega)), rfl⟩)
    · have hz9 : True := trivial
      refine m_istore_n F (lv' := [(1, .int x6969), (0, .ref a)]) e_X7_readOption_24 (by decide) rfl ?_
      refine m_aload_n F rfl e_X7_readOption_25 ?_
      refine m_iconst F (v := 1) (by decide) e_X7_readOption_26 ?_
      refine m_bipush F (v := 24) (by decide) e_X7_readOption_27 ?_
      refine t_callV F e_X7_readOption_29 (s_X7_readNumberG (x_l X) V b M Z T _ _ a 1 24 1 (nI k6955.1) h6958.1 hk  (rd6967) (rd6968) (by decide) (by omega)) cb_X7_readNumber ml_X7_130 im_X7_readNumber se_X7_readNumber (fun _ => o3) h6958 hk rfl rfl (rest := []) rfl (Nat.le_of_ble_eq_true rfl) ⟨Nat.le_of_ble_eq_true rfl, Nat.le_of_ble_eq_true rfl⟩ ⟨Nat.le_of_ble_eq_true rfl, Nat.le_of_ble_eq_true rfl⟩ (fun r σ7054 hp => ?_)
      obtain ⟨h7055, rd7057, rd7058, rfl⟩ := hp
      have h7056 := HK.trans h6958 h7055 (by decide)
      refine m_istore_n F (lv' := [(2, .int 0), (1, .int x6969), (0, .ref a)]) e_X7_readOption_32 (by decide) rfl ?_
      refine m_aload_n F rfl e_X7_readOption_33 ?_
      refine m_iconst F (v := 0) (by decide) e_X7_readOption_34 ?_
      refine m_ldc F kc_X7_141 e_X7_readOption_35 ?_
      refine t_callV F e_X7_readOption_37 (s_X7_readNumberG (x_l X) V b M Z T _ _ a 0 99999 1 (nI k6955.1) h7056.1 hk  (rd7057) (rd7058) (by decide) (by omega)) cb_X7_readNumber ml_X7_130 im_X7_readNumber se_X7_readNumber (fun _ => o3) h7056 hk rfl rfl (rest := []) rfl (Nat.le_of_ble_eq_true rfl) ⟨Nat.le_of_ble_eq_true rfl, Nat.le_of_ble_eq_true rfl⟩ ⟨Nat.le_of_ble_eq_true rfl, Nat.le_of_ble_eq_true rfl⟩ (fun r σ7060 hp => ?_)
      obtain ⟨h7061, rd7063, rd7064, rfl⟩ := hp
      have h7062 := HK.trans h7056 h7061 (by decide)
      refine m_istore_n F (lv' := [(3, .int 0), (2, .int 0), (1, .int x6969), (0, .ref a)]) e_X7_readOption_40 (by decide) rfl ?_
      refine m_aload_n F rfl e_X7_readOption_41 ?_
      refine t_getC F e_X7_readOption_42 fl_X7_55 (fun _ => o3) h7062 hk (rd7063) ?_
      refine m_if_ne F e_X7_readOption_45 (fun _ => ?_) (fun q => absurd q (by decide))
      exact m_vret F hQ e_X7_readOption_58 (⟨h7062, (by unfold optionS; dsimp only; rw [if_neg (by omega), ek6955, tolK_1 e6961]; exact RES.l (rd7063) (rd7064) (by decide) (by decide) (by omega)), rfl⟩)
    · have hz9 : True := trivial
      refine m_istore_n F (lv' := [(1, .int x6969), (0, .ref a)]) e_X7_readOption_24 (by decide) rfl ?_
      refine m_aload_n F rfl e_X7_readOption_25 ?_
      refine m_iconst F (v := 1) (by decide) e_X7_readOption_26 ?_
      refine m_bipush F (v := 24) (by decide) e_X7_readOption_27 ?_
      refine t_callV F e_X7_readOption_29 (s_X7_readNumberG (x_l X) V b M Z T _ _ a 1 24 4 (nI k6955.1) h6958.1 hk  (rd6967) (rd6968) (by decide) (by omega)) cb_X7_readNumber ml_X7_130 im_X7_readNumber se_X7_readNumber (fun _ => o3) h6958 hk rfl rfl (rest := []) rfl (Nat.le_of_ble_eq_true rfl) ⟨Nat.le_of_ble_eq_true rfl, Nat.le_of_ble_eq_true rfl⟩ ⟨Nat.le_of_ble_eq_true rfl, Nat.le_of_ble_eq_true rfl⟩ (fun r σ7066 hp => ?_)
      obtain ⟨h7067, rd7069, rd7070, rfl⟩ := hp
      have h7068 := HK.trans h6958 h7067 (by decide)
      refine m_istore_n F (lv' := [(2, .int 0), (1, .int x6969), (0, .ref a)]) e_X7_readOption_32 (by decide) rfl ?_
      refine m_aload_n F rfl e_X7_readOption_33 ?_
      refine m_iconst F (v := 0) (by decide) e_X7_readOption_34 ?_
      refine m_ldc F kc_X7_141 e_X7_readOption_35 ?_
      refine t_callV F e_X7_readOption_37 (s_X7_readNumberG (x_l X) V b M Z T _ _ a 0 99999 4 (nI k6955.1) h7068.1 hk  (rd7069) (rd7070) (by decide) (by omega)) cb_X7_readNumber ml_X7_130 im_X7_readNumber se_X7_readNumber (fun _ => o3) h7068 hk rfl rfl (rest := []) rfl (Nat.le_of_ble_eq_true rfl) ⟨Nat.le_of_ble_eq_true rfl, Nat.le_of_ble_eq_true rfl⟩ ⟨Nat.le_of_ble_eq_true rfl, Nat.le_of_ble_eq_true rfl⟩ (fun r σ7072 hp => ?_)
      obtain ⟨h7073, rd7075, rd7076, rfl⟩ := hp
      have h7074 := HK.trans h7068 h7073 (by decide)
      refine m_istore_n F (lv' := [(3, .int 0), (2, .int 0), (1, .int x6969), (0, .ref a)]) e_X7_readOption_40 (by decide) rfl ?_
      refine m_aload_n F rfl e_X7_readOption_41 ?_
      refine t_getC F e_X7_readOption_42 fl_X7_55 (fun _ => o3) h7074 hk (rd7075) ?_
      refine m_if_ne F e_X7_readOption_45 (fun _ => ?_) (fun q => absurd q (by decide))
      exact m_vret F hQ e_X7_readOption_58 (⟨h7074, (by unfold optionS; dsimp only; rw [if_neg (by omega), ek6955, tolK_4 e6961 e6962]; exact RES.l (rd7075) (rd7076) (by decide) (by decide) (by omega)), rfl⟩)
  · have c9 : no ≥ 4 := by have hh := mt (nI_ltI (a := no) (b := 4) (by omega) (by omega)).mpr q9; omega
    refine m_iconst F (v := 2) (by decide) e_X7_readOption_12 ?_
    refine m_goto F e_X7_readOption_13 ?_
    refine t_callV F e_X7_readOption_17 (s_X7_startLineR (x_l X) V b M Z T _ _ a 2 tp td n bk nx st tk vl py sd ln 0 (-1) t  h1.1 hk (by omega) rfl (by decide) ⟨rd6913, rd6914, rd6915, rd6916, rd6917, rd6918, rd6919, rd6920, rd6921, rd6922, rd6923, rd6924, rd6925⟩ (hB.keep (h1.2 tp (by rw [show kA _ tp = 2 from htp]; decide))) hn7 hsd htp htd hbk (by omega)) cb_X7_startLine ml_X7_124 im_X7_startLine se_X7_startLine (fun _ => o3) h1 hk rfl rfl (rest := []) rfl (Nat.le_of_ble_eq_true rfl) ⟨Nat.le_of_ble_eq_true rfl, Nat.le_of_ble_eq_true rfl⟩ ⟨Nat.le_of_ble_eq_true rfl, Nat.le_of_ble_eq_true rfl⟩ (fun r σ7078 hp => ?_)
    obtain ⟨h7079, hp⟩ := hp
    have h7080 := HK.trans h1 h7079 (by decide)
    have bx7081 := hp5.hk hbk h7079 (by decide) (by decide) (by decide)
    have tq7082 := hp6.keep (h7079.2 td (by rw [show kA _ td = 4 from htd]; decide))
    obtain ⟨⟨rd7083, rd7084⟩, rfl⟩ := hp
    refine m_aload_n F rfl e_X7_readOption_20 ?_
    refine t_callV F e_X7_readOption_21 (s_X7_readToldNameG (x_l X) V b M Z T _ _ a  2 (nI st) h7080.1 hk  (rd7083) (rd7084) (by decide) (by omega)) cb_X7_readToldName ml_X7_138 im_X7_readToldName se_X7_readToldName (fun _ => o3) h7080 hk rfl rfl (rest := []) rfl (Nat.le_of_ble_eq_true rfl) ⟨Nat.le_of_ble_eq_true rfl, Nat.le_of_ble_eq_true rfl⟩ ⟨Nat.le_of_ble_eq_true rfl, Nat.le_of_ble_eq_true rfl⟩ (fun r σ7085 hp => ?_)
    obtain ⟨h7086, rd7088, rd7089, x7090, rfl⟩ := hp
    have h7087 := HK.trans h7080 h7086 (by decide)
    refine m_istore_n F (lv' := [(1, .int x7090), (0, .ref a)]) e_X7_readOption_24 (by decide) rfl ?_
    refine m_aload_n F rfl e_X7_readOption_25 ?_
    refine m_iconst F (v := 1) (by decide) e_X7_readOption_26 ?_
    refine m_bipush F (v := 24) (by decide) e_X7_readOption_27 ?_
    refine t_callV F e_X7_readOption_29 (s_X7_readNumberG (x_l X) V b M Z T _ _ a 1 24 2 (nI st) h7087.1 hk  (rd7088) (rd7089) (by decide) (by omega)) cb_X7_readNumber ml_X7_130 im_X7_readNumber se_X7_readNumber (fun _ => o3) h7087 hk rfl rfl (rest := []) rfl (Nat.le_of_ble_eq_true rfl) ⟨Nat.le_of_ble_eq_true rfl, Nat.le_of_ble_eq_true rfl⟩ ⟨Nat.le_of_ble_eq_true rfl, Nat.le_of_ble_eq_true rfl⟩ (fun r σ7091 hp => ?_)
    obtain ⟨h7092, rd7094, rd7095, rfl⟩ := hp
    have h7093 := HK.trans h7087 h7092 (by decide)
    refine m_istore_n F (lv' := [(2, .int 0), (1, .int x7090), (0, .ref a)]) e_X7_readOption_32 (by decide) rfl ?_
    refine m_aload_n F rfl e_X7_readOption_33 ?_
    refine m_iconst F (v := 0) (by decide) e_X7_readOption_34 ?_
    refine m_ldc F kc_X7_141 e_X7_readOption_35 ?_
    refine t_callV F e_X7_readOption_37 (s_X7_readNumberG (x_l X) V b M Z T _ _ a 0 99999 2 (nI st) h7093.1 hk  (rd7094) (rd7095) (by decide) (by omega)) cb_X7_readNumber ml_X7_130 im_X7_readNumber se_X7_readNumber (fun _ => o3) h7093 hk rfl rfl (rest := []) rfl (Nat.le_of_ble_eq_true rfl) ⟨Nat.le_of_ble_eq_true rfl, Nat.le_of_ble_eq_true rfl⟩ ⟨Nat.le_of_ble_eq_true rfl, Nat.le_of_ble_eq_true rfl⟩ (fun r σ7097 hp => ?_)
    obtain ⟨h7098, rd7100, rd7101, rfl⟩ := hp
    have h7099 := HK.trans h7093 h7098 (by decide)
    refine m_istore_n F (lv' := [(3, .int 0), (2, .int 0), (1, .int x7090), (0, .ref a)]) e_X7_readOption_40 (by decide) rfl ?_
    refine m_aload_n F rfl e_X7_readOption_41 ?_
    refine t_getC F e_X7_readOption_42 fl_X7_55 (fun _ => o3) h7099 hk (rd7100) ?_
    refine m_if_ne F e_X7_readOption_45 (fun _ => ?_) (fun q => absurd q (by decide))
    exact m_vret F hQ e_X7_readOption_58 (⟨h7099, (by unfold optionS; dsimp only; rw [if_pos (by omega)]; exact RES.l (rd7100) (rd7101) (by decide) (by decide) (by omega)), rfl⟩)
set_option maxRecDepth 20000 in
theorem s_X7_readSeedE (l : Launch) (V : VX) (b M Z T N : Nat) (σ : Mem) (a : Nat) (tp : Nat) (td : Nat) (n : Nat) (bk : Nat) (nx : Nat) (st : Nat) (tk : Int32) (vl : Int32) (py : Nat) (sd : Nat) (ln : Nat) (ft : Int32) (pl : Int32) (t : Nat → Nat) (s9 : Nat) (v9 : Nat) (nl : Nat) (nm : Nat → Nat) (nc : Nat) (lc : Nat) (no : Nat) (md : Nat → Nat → Bool) (h0 : HT V (b, M, Z, T) σ) (hk : kA b a = 3) (hp0 : ft = 0) (hp1 : CT tk vl s9 v9) (hp2 : nx ≤ n) (hp3 : st ≤ n) (hp4 : pl = -1) (hp5 : BX σ bk nl nm nc lc no) (hp6 : TD V σ td nl md) (hp7 : py ≤ 12) (hR : RD σ a tp td n bk nx st tk vl py sd ln ft pl) (hB : BY V σ tp n t) (hn7 : n ≤ 700) (hsd : sd ≤ 1) (htp : kA b tp = 2) (htd : kA b td = 4) (hbk : kA b bk = 7) (hM : M + 0 ≤ 1000000000) : Ct l V yX7_readSeed cX7_readSeed 2 none 3 0 0 N σ [.ref a] (fun r τ => HK V (b, M, Z, T) [0, 1, 2, 4, 5, 6, 8, 9, 10, 11, 12, 13, 14, 15, 16, 17, 18, 19] σ τ ∧ RES V τ a tp td n bk (seedS (tok t n) (st, s9, v9, nx) nl nm py nc lc no sd md ln) ∧ r = none) := by
  refine Ct.of (by decide) (Nat.le_of_ble_eq_true rfl) [(0, .ref a)] rfl (fun X hX F hQ => ?_)
  have h1 : HK V (b, M, Z, T) [0, 1, 2, 4, 5, 6, 8, 9, 10, 11, 12, 13, 14, 15, 16, 17, 18, 19] σ σ := HK.start h0
  have hrd7103 := hR
  obtain ⟨rd7103, rd7104, rd7105, rd7106, rd7107, rd7108, rd7109, rd7110, rd7111, rd7112, rd7113, rd7114, rd7115⟩ := hrd7103
  subst hp0
  subst hp4
  have hbb7116 := hp5
  obtain ⟨bb7116, bb7117, bb7118, bb7119, bb7120, bb7121, bb7122, bb7123⟩ := hbb7116
  have hl4 := hp5.2.2.2.2.2.1
  refine m_aload_n F rfl e_X7_readSeed_0 ?_
  refine m_aload_n F rfl e_X7_readSeed_1 ?_
  refine t_getC F e_X7_readSeed_2 fl_X7_48 (fun _ => o3) h1 hk (rd7112) ?_
  refine m_if_eq F e_X7_readSeed_5 (fun q5 => ?_) (fun q5 => ?_)
  · have c5 : sd = 0 := (nI_eq (a := sd) (b := 0) (by omega) (by omega)).mp q5
    refine m_iconst F (v := 0) (by decide) e_X7_readSeed_12 ?_
    refine t_callV F e_X7_readSeed_13 (s_X7_startLineE (x_l X) V b M Z T _ _ a 0 tp td n bk nx st tk vl py sd ln 0 (-1) t s9 v9 h1.1 hk rfl hp1 (by omega) (by omega) rfl ⟨rd7103, rd7104, rd7105, rd7106, rd7107, rd7108, rd7109, rd7110, rd7111, rd7112, rd7113, rd7114, rd7115⟩ (hB.keep (h1.2 tp (by rw [show kA _ tp = 2 from htp]; decide))) hn7 hsd htp htd hbk (by omega)) cb_X7_startLine ml_X7_124 im_X7_startLine se_X7_startLine (fun _ => o3) h1 hk rfl rfl (rest := []) rfl (Nat.le_of_ble_eq_true rfl) ⟨Nat.le_of_ble_eq_true rfl, Nat.le_of_ble_eq_true rfl⟩ ⟨Nat.le_of_ble_eq_true rfl, Nat.le_of_ble_eq_true rfl⟩ (fun r σ7124 hp => ?_)
    obtain ⟨h7125, hp⟩ := hp
    have h7126 := HK.trans h1 h7125 (by decide)
    have bx7127 := hp5.hk hbk h7125 (by decide) (by decide) (by decide)
    have tq7128 := hp6.keep (h7125.2 td (by rw [show kA _ td = 4 from htd]; decide))
    obtain ⟨⟨tk7129, vl7130, ct7131, rd7132, rd7133, rd7134, rd7135, rd7136, rd7137, rd7138, rd7139, rd7140, rd7141, rd7142, rd7143, rd7144⟩, rfl⟩ := hp
    generalize ek7145 : tok t n nx = k7145 at ct7131 rd7136 rd7137
    have bk7145 := tok_ok (t := t) (n := n) nx (by omega)
    rw [ek7145] at bk7145
    refine m_aload_n F rfl e_X7_readSeed_16 ?_
    refine m_iconst F (v := 0) (by decide) e_X7_readSeed_17 ?_
    refine m_ldc F kc_X7_141 e_X7_readSeed_18 ?_
    refine t_callV F e_X7_readSeed_20 (s_X7_readNumberE (x_l X) V b M Z T _ _ a 0 99999 tp td n bk k7145.2.2.2 k7145.1 tk7129 vl7130 py sd ln 0 (-1) t k7145.2.1 k7145.2.2.1 h7126.1 hk (by omega) (by omega) rfl ct7131 (by omega) (by omega) ⟨rd7132, rd7133, rd7134, rd7135, rd7136, rd7137, rd7138, rd7139, rd7140, rd7141, rd7142, rd7143, rd7144⟩ (hB.keep (h7126.2 tp (by rw [show kA _ tp = 2 from htp]; decide))) hn7 hsd htp htd hbk (by omega)) cb_X7_readNumber ml_X7_130 im_X7_readNumber se_X7_readNumber (fun _ => o3) h7126 hk rfl rfl (rest := []) rfl (Nat.le_of_ble_eq_true rfl) ⟨Nat.le_of_ble_eq_true rfl, Nat.le_of_ble_eq_true rfl⟩ ⟨Nat.le_of_ble_eq_true rfl, Nat.le_of_ble_eq_true rfl⟩ (fun r σ7146 hp => ?_)
    obtain ⟨h7147, hp⟩ := hp
    have h7148 := HK.trans h7126 h7147 (by decide)
    have bx7149 := bx7127.hk hbk h7147 (by decide) (by decide) (by decide)
    have tq7150 := tq7128.keep (h7147.2 td (by rw [show kA _ td = 4 from htd]; decide))
    rcases hp with ⟨e7151, l7153, l7154, ⟨tk7155, vl7156, ct7157, rd7158, rd7159, rd7160, rd7161, rd7162, rd7163, rd7164, rd7165, rd7166, rd7167, rd7168, rd7169, rd7170⟩, rfl⟩ | ⟨e7151, ⟨rd7158, rd7159, rd7160, rd7161, rd7162, rd7163, rd7164, rd7165, rd7166, rd7167, rd7168, rd7169, rd7170⟩, rfl⟩ | ⟨e7151, e7152, ⟨rd7158, rd7159, rd7160, rd7161, rd7162, rd7163, rd7164, rd7165, rd7166, rd7167, rd7168, rd7169, rd7170⟩, rfl⟩
    · generalize ek7171 : tok t n k7145.2.2.2 = k7171 at ct7157 rd7162 rd7163
      have bk7171 := tok_ok (t := t) (n := n) k7145.2.2.2 (by omega)
      rw [ek7171] at bk7171
      refine m_istore_n F (lv' := [(1, .int (nI k7145.2.2.1)), (0, .ref a)]) e_X7_readSeed_23 (by decide) rfl ?_
      refine m_aload_n F rfl e_X7_readSeed_24 ?_
      refine t_getC F e_X7_readSeed_25 fl_X7_55 (fun _ => o3) h7148 hk (rd7169) ?_
      refine m_if_ne F e_X7_readSeed_28 (fun q => absurd (by decide) q) (fun _ => ?_)
      refine m_aload_n F rfl e_X7_readSeed_31 ?_
      refine m_iconst F (v := 1) (by decide) e_X7_readSeed_32 ?_
      refine t_putC F e_X7_readSeed_33 fp_X7_48 (fun _ => o3) h7148 hk rfl ⟨1, (show 1 ≤ 1 by omega), rfl⟩ (by decide) rfl (by decide) (fun σ7172 h7173 g7174 g7175 f7176 => ?_)
      have bx7177 := bx7149.keep hbk (fld_eq (g7174 bk (kdn hbk hk (by decide)))) (fld_eq (g7174 bk (kdn hbk hk (by decide)))) (fld_eq (g7174 bk (kdn hbk hk (by decide)))) (g7174 (bk + 4) (kdn (kA_7 hbk (r := 4) (by decide) : kA b (bk + 4) = 11) hk (by decide))) (fun x hx => fld_eq (g7174 x (kdn hx hk (by decide))))
      have tq7178 := tq7150.keep (g7174 td (kdn htd hk (by decide)))
      refine m_aload_n F rfl e_X7_readSeed_36 ?_
      refine t_getC F e_X7_readSeed_37 fl_X7_23 (fun _ => o3) h7173 hk ((g7175 2 (by decide)).trans rd7160) ?_
      refine m_iload_n F rfl e_X7_readSeed_40 ?_
      refine t_putC F e_X7_readSeed_41 fp_X7_185 (fun _ => o7) h7173 hbk rfl ⟨_, rfl⟩ rfl rfl (by decide) (fun σ7179 h7180 g7181 g7182 f7183 => ?_)
      have bx7184 := bx7177.keep hbk (g7182 8 (by decide)) (g7182 9 (by decide)) (g7182 10 (by decide)) (g7181 (bk + 4) (kdn (kA_7 hbk (r := 4) (by decide) : kA b (bk + 4) = 11) hbk (by decide))) (fun x hx => fld_eq (g7181 x (kdn hx hbk (by decide))))
      have tq7185 := tq7178.keep (g7181 td (kdn htd hbk (by decide)))
      exact m_vret F hQ e_X7_readSeed_44 (⟨h7180, (by unfold seedS; dsimp only; rw [if_pos (by omega), ek7145, numK_ok e7151 l7153 l7154, ek7171]; exact RES.r ct7157 ⟨(fld_eq (g7181 a (kdn hk hbk (by decide)))).trans ((g7175 0 (by decide)).trans rd7158), (fld_eq (g7181 a (kdn hk hbk (by decide)))).trans ((g7175 1 (by decide)).trans rd7159), (fld_eq (g7181 a (kdn hk hbk (by decide)))).trans ((g7175 2 (by decide)).trans rd7160), (fld_eq (g7181 a (kdn hk hbk (by decide)))).trans ((g7175 3 (by decide)).trans rd7161), (fld_eq (g7181 a (kdn hk hbk (by decide)))).trans ((g7175 4 (by decide)).trans rd7162), (fld_eq (g7181 a (kdn hk hbk (by decide)))).trans ((g7175 5 (by decide)).trans rd7163), (fld_eq (g7181 a (kdn hk hbk (by decide)))).trans ((g7175 6 (by decide)).trans rd7164), (fld_eq (g7181 a (kdn hk hbk (by decide)))).trans ((g7175 7 (by decide)).trans rd7165), (fld_eq (g7181 a (kdn hk hbk (by decide)))).trans ((g7175 8 (by decide)).trans rd7166), (fld_eq (g7181 a (kdn hk hbk (by decide)))).trans f7176, (fld_eq (g7181 a (kdn hk hbk (by decide)))).trans ((g7175 10 (by decide)).trans rd7168), (fld_eq (g7181 a (kdn hk hbk (by decide)))).trans ((g7175 11 (by decide)).trans rd7169), (fld_eq (g7181 a (kdn hk hbk (by decide)))).trans ((g7175 12 (by decide)).trans rd7170)⟩ bx7184 tq7185 (by omega) (by omega) (by omega) (by omega)), rfl⟩)
    · have hz9 : True := trivial
      refine m_istore_n F (lv' := [(1, .int 0), (0, .ref a)]) e_X7_readSeed_23 (by decide) rfl ?_
      refine m_aload_n F rfl e_X7_readSeed_24 ?_
      refine t_getC F e_X7_readSeed_25 fl_X7_55 (fun _ => o3) h7148 hk (rd7169) ?_
      refine m_if_ne F e_X7_readSeed_28 (fun _ => ?_) (fun q => absurd q (by decide))
      exact m_vret F hQ e_X7_readSeed_44 (⟨h7148, (by unfold seedS; dsimp only; rw [if_pos (by omega), ek7145, numK_1 e7151]; exact RES.l (rd7169) (rd7170) (by decide) (by decide) (by omega)), rfl⟩)
    · have hz9 : True := trivial
      refine m_istore_n F (lv' := [(1, .int 0), (0, .ref a)]) e_X7_readSeed_23 (by decide) rfl ?_
      refine m_aload_n F rfl e_X7_readSeed_24 ?_
      refine t_getC F e_X7_readSeed_25 fl_X7_55 (fun _ => o3) h7148 hk (rd7169) ?_
      refine m_if_ne F e_X7_readSeed_28 (fun _ => ?_) (fun q => absurd q (by decide))
      exact m_vret F hQ e_X7_readSeed_44 (⟨h7148, (by unfold seedS; dsimp only; rw [if_pos (by omega), ek7145, numK_2 e7151 e7152]; exact RES.l (rd7169) (rd7170) (by decide) (by decide) (by omega)), rfl⟩)
  · have c5 : sd ≠ 0 := by have hh := mt (nI_eq (a := sd) (b := 0) (by omega) (by omega)).mpr q5; omega
    refine m_iconst F (v := 3) (by decide) e_X7_readSeed_8 ?_
    refine m_goto F e_X7_readSeed_9 ?_
    refine t_callV F e_X7_readSeed_13 (s_X7_startLineR (x_l X) V b M Z T _ _ a 3 tp td n bk nx st tk vl py sd ln 0 (-1) t  h1.1 hk (by omega) rfl (by decide) ⟨rd7103, rd7104, rd7105, rd7106, rd7107, rd7108, rd7109, rd7110, rd7111, rd7112, rd7113, rd7114, rd7115⟩ (hB.keep (h1.2 tp (by rw [show kA _ tp = 2 from htp]; decide))) hn7 hsd htp htd hbk (by omega)) cb_X7_startLine ml_X7_124 im_X7_startLine se_X7_startLine (fun _ => o3) h1 hk rfl rfl (rest := []) rfl (Nat.le_of_ble_eq_true rfl) ⟨Nat.le_of_ble_eq_true rfl, Nat.le_of_ble_eq_true rfl⟩ ⟨Nat.le_of_ble_eq_true rfl, Nat.le_of_ble_eq_true rfl⟩ (fun r σ7186 hp => ?_)
    obtain ⟨h7187, hp⟩ := hp
    have h7188 := HK.trans h1 h7187 (by decide)
    have bx7189 := hp5.hk hbk h7187 (by decide) (by decide) (by decide)
    have tq7190 := hp6.keep (h7187.2 td (by rw [show kA _ td = 4 from htd]; decide))
    obtain ⟨⟨rd7191, rd7192⟩, rfl⟩ := hp
    refine m_aload_n F rfl e_X7_readSeed_16 ?_
    refine m_iconst F (v := 0) (by decide) e_X7_readSeed_17 ?_
    refine m_ldc F kc_X7_141 e_X7_readSeed_18 ?_
    refine t_callV F e_X7_readSeed_20 (s_X7_readNumberG (x_l X) V b M Z T _ _ a 0 99999 3 (nI st) h7188.1 hk  (rd7191) (rd7192) (by decide) (by omega)) cb_X7_readNumber ml_X7_130 im_X7_readNumber se_X7_readNumber (fun _ => o3) h7188 hk rfl rfl (rest := []) rfl (Nat.le_of_ble_eq_true rfl) ⟨Nat.le_of_ble_eq_true rfl, Nat.le_of_ble_eq_true rfl⟩ ⟨Nat.le_of_ble_eq_true rfl, Nat.le_of_ble_eq_true rfl⟩ (fun r σ7193 hp => ?_)
    obtain ⟨h7194, rd7196, rd7197, rfl⟩ := hp
    have h7195 := HK.trans h7188 h7194 (by decide)
    refine m_istore_n F (lv' := [(1, .int 0), (0, .ref a)]) e_X7_readSeed_23 (by decide) rfl ?_
    refine m_aload_n F rfl e_X7_readSeed_24 ?_
    refine t_getC F e_X7_readSeed_25 fl_X7_55 (fun _ => o3) h7195 hk (rd7196) ?_
    refine m_if_ne F e_X7_readSeed_28 (fun _ => ?_) (fun q => absurd q (by decide))
    exact m_vret F hQ e_X7_readSeed_44 (⟨h7195, (by unfold seedS; dsimp only; rw [if_neg (by omega)]; exact RES.l (rd7196) (rd7197) (by decide) (by decide) (by omega)), rfl⟩)
