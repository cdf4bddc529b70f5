theorem nI_nm1 {c : Nat} (h : c < 2147483648) : nI c ≠ -1 := fun e => by
  have h1 := congrArg Int32.toInt e
  rw [nI_ti h] at h1
  have h2 : (-1 : Int32).toInt = -1 := by decide
  omega
set_option maxRecDepth 20000 in
theorem s_X7_readNameE (l : Launch) (V : VX) (G : GH) (b M Z T N : Nat) (σ : Mem) (a : Nat) (tp : Nat) (td : Nat) (n : Nat) (bk : Nat) (nx : Nat) (st : Nat) (tk : Int32) (vl : Int32) (py : Nat) (sd : Nat) (ln : Nat) (ft : Int32) (pl : Int32) (t : Nat → Nat) (s9 : Nat) (v9 : Nat) (h0 : HT V G (b, M, Z, T) σ) (hk : kA b a = 3) (hp0 : ft = 0) (hp1 : CT tk vl s9 v9) (hp2 : nx ≤ n) (hp3 : st ≤ n) (hR : RD σ a tp td n bk nx st tk vl py sd ln ft pl) (hB : BY V σ tp n t) (hn7 : n ≤ 700) (hsd : sd ≤ 1) (htp : kA b tp = 2) (htd : kA b td = 4) (hbk : kA b bk = 7) (hgb : ¬ G.gd (blk (bk - b)) = 1) (hM : M + 0 ≤ 1000000000) : Ct l V yX7_readName cX7_readName 2 (some .int) 2 0 0 N σ [.ref a] (fun r τ => HK V G (b, M, Z, T) [0, 1, 2, 4, 5, 6, 7, 8, 9, 10, 11, 12, 13, 14, 15, 16, 17, 18, 19] σ τ ∧ ((s9 = 2 ∧ (∃ tk2 vl2, CT tk2 vl2 (tok t n nx).2.1 (tok t n nx).2.2.1 ∧ RD τ a tp td n bk (tok t n nx).2.2.2 (tok t n nx).1 tk2 vl2 py sd ln 0 pl) ∧ r = some (.int (nI v9))) ∨ (s9 ≠ 2 ∧ FT τ a 1 st ∧ r = some (.int (-1))))) := by
  refine Ct.of (by decide) (Nat.le_of_ble_eq_true rfl) [(0, .ref a)] rfl (fun X hX F hQ => ?_)
  have h1 : HK V G (b, M, Z, T) [0, 1, 2, 4, 5, 6, 7, 8, 9, 10, 11, 12, 13, 14, 15, 16, 17, 18, 19] σ σ := HK.start h0
  have hrd5046 := hR
  obtain ⟨rd5046, rd5047, rd5048, rd5049, rd5050, rd5051, rd5052, rd5053, rd5054, rd5055, rd5056, rd5057, rd5058⟩ := hrd5046
  subst hp0
  refine m_aload_n F rfl e_X7_readName_0 ?_
  refine t_getC F e_X7_readName_1 fl_X7_55 (fun _ => o3) h1 hk (rd5057) ?_
  refine m_if_eq F e_X7_readName_4 (fun _ => ?_) (fun q => absurd (by decide) q)
  have hct := hp1
  rcases hct with ⟨rfl, rfl⟩ | ⟨rfl, rfl, c9, rfl, hc9, hk9, hv9⟩ | ⟨rfl, rfl, rfl, hv9, hk9⟩ | ⟨rfl, rfl, w9, hw9, rfl, hm9⟩ | ⟨rfl, rfl⟩ | ⟨rfl, ⟨rfl, rfl⟩ | rfl⟩
  · refine m_aload_n F rfl e_X7_readName_9 ?_
    refine t_getC F e_X7_readName_10 fl_X7_61 (fun _ => o3) h1 hk (rd5052) ?_
    refine m_iconst F (v := 1) (by decide) e_X7_readName_13 ?_
    refine m_icmp_ne F e_X7_readName_14 (fun _ => ?_) (fun q => absurd q (by decide))
    refine m_aload_n F rfl e_X7_readName_36 ?_
    refine m_iconst F (v := 1) (by decide) e_X7_readName_37 ?_
    refine t_callV F e_X7_readName_38 (s_X7_failE (x_l X) V G b M Z T _ _ a 1 tp td n bk nx st 0 vl py sd ln 0 pl t h1.1 hk rfl (by decide) ⟨rd5046, rd5047, rd5048, rd5049, rd5050, rd5051, rd5052, rd5053, rd5054, rd5055, rd5056, rd5057, rd5058⟩ (hB.keep (h1.2 tp (by rw [show kA _ tp = 2 from htp]; decide))) hn7 hsd htp htd hbk hgb (by omega)) cb_X7_fail ml_X7_77 im_X7_fail se_X7_fail (fun _ => o3) h1 hk rfl rfl (rest := []) rfl (Nat.le_of_ble_eq_true rfl) ⟨Nat.le_of_ble_eq_true rfl, Nat.le_of_ble_eq_true rfl⟩ ⟨Nat.le_of_ble_eq_true rfl, Nat.le_of_ble_eq_true rfl⟩ (fun r σ5059 hp => ?_)
    obtain ⟨h5060, ⟨rd5062, rd5063, rd5064, rd5065, rd5066, rd5067, rd5068, rd5069, rd5070, rd5071, rd5072, rd5073, rd5074⟩, rfl⟩ := hp
    have h5061 := HK.trans h1 h5060 (by decide)
    refine m_iconst F (v := (-1)) (by decide) e_X7_readName_41 ?_
    exact m_iret F hQ e_X7_readName_42 (⟨h5061, Or.inr ⟨by decide, ⟨rd5073, rd5074⟩, rfl⟩⟩)
  · refine m_aload_n F rfl e_X7_readName_9 ?_
    refine t_getC F e_X7_readName_10 fl_X7_61 (fun _ => o3) h1 hk (rd5052) ?_
    refine m_iconst F (v := 1) (by decide) e_X7_readName_13 ?_
    refine m_icmp_ne F e_X7_readName_14 (fun q => absurd (by decide) q) (fun _ => ?_)
    refine m_aload_n F rfl e_X7_readName_17 ?_
    refine t_getC F e_X7_readName_18 fl_X7_70 (fun _ => o3) h1 hk (rd5053) ?_
    refine m_iconst F (v := (-1)) (by decide) e_X7_readName_21 ?_
    refine m_icmp_eq F e_X7_readName_22 (fun q22 => ?_) (fun q22 => ?_)
    · exact absurd q22 (nI_nm1 (by omega))
    · refine m_aload_n F rfl e_X7_readName_25 ?_
      refine m_aload_n F rfl e_X7_readName_26 ?_
      refine t_getC F e_X7_readName_27 fl_X7_70 (fun _ => o3) h1 hk (rd5053) ?_
      refine t_callV F e_X7_readName_30 (s_X7_kindOfE (x_l X) V G b M Z T _ _ a c9 h1.1 hk (by omega) (by omega)) cb_X7_kindOf ml_X7_73 im_X7_kindOf se_X7_kindOf (fun _ => o3) h1 hk rfl rfl (rest := []) rfl (Nat.le_of_ble_eq_true rfl) ⟨Nat.le_of_ble_eq_true rfl, Nat.le_of_ble_eq_true rfl⟩ ⟨Nat.le_of_ble_eq_true rfl, Nat.le_of_ble_eq_true rfl⟩ (fun r σ5075 hp => ?_)
      obtain ⟨h5076, hp⟩ := hp
      rcases hp with ⟨hp, rfl⟩ | ⟨hp, rfl⟩
      rotate_left
      · omega
      have h5077 := HK.trans h1 h5076 (by decide)
      refine m_ifnullR F e_X7_readName_33 ?_
      refine m_aload_n F rfl e_X7_readName_36 ?_
      refine m_iconst F (v := 1) (by decide) e_X7_readName_37 ?_
      refine t_callV F e_X7_readName_38 (s_X7_failE (x_l X) V G b M Z T _ _ a 1 tp td n bk nx st 1 (nI c9) py sd ln 0 pl t h5077.1 hk rfl (by decide) ⟨(fld_eq (h5076.2 a (by rw [show kA _ a = 3 from hk]; decide))).trans rd5046, (fld_eq (h5076.2 a (by rw [show kA _ a = 3 from hk]; decide))).trans rd5047, (fld_eq (h5076.2 a (by rw [show kA _ a = 3 from hk]; decide))).trans rd5048, (fld_eq (h5076.2 a (by rw [show kA _ a = 3 from hk]; decide))).trans rd5049, (fld_eq (h5076.2 a (by rw [show kA _ a = 3 from hk]; decide))).trans rd5050, (fld_eq (h5076.2 a (by rw [show kA _ a = 3 from hk]; decide))).trans rd5051, (fld_eq (h5076.2 a (by rw [show kA _ a = 3 from hk]; decide))).trans rd5052, (fld_eq (h5076.2 a (by rw [show kA _ a = 3 from hk]; decide))).trans rd5053, (fld_eq (h5076.2 a (by rw [show kA _ a = 3 from hk]; decide))).trans rd5054, (fld_eq (h5076.2 a (by rw [show kA _ a = 3 from hk]; decide))).trans rd5055, (fld_eq (h5076.2 a (by rw [show kA _ a = 3 from hk]; decide))).trans rd5056, (fld_eq (h5076.2 a (by rw [show kA _ a = 3 from hk]; decide))).trans rd5057, (fld_eq (h5076.2 a (by rw [show kA _ a = 3 from hk]; decide))).trans rd5058⟩ (hB.keep (h5077.2 tp (by rw [show kA _ tp = 2 from htp]; decide))) hn7 hsd htp htd hbk hgb (by omega)) cb_X7_fail ml_X7_77 im_X7_fail se_X7_fail (fun _ => o3) h5077 hk rfl rfl (rest := []) rfl (Nat.le_of_ble_eq_true rfl) ⟨Nat.le_of_ble_eq_true rfl, Nat.le_of_ble_eq_true rfl⟩ ⟨Nat.le_of_ble_eq_true rfl, Nat.le_of_ble_eq_true rfl⟩ (fun r σ5078 hp => ?_)
      obtain ⟨h5079, ⟨rd5081, rd5082, rd5083, rd5084, rd5085, rd5086, rd5087, rd5088, rd5089, rd5090, rd5091, rd5092, rd5093⟩, rfl⟩ := hp
      have h5080 := HK.trans h5077 h5079 (by decide)
      refine m_iconst F (v := (-1)) (by decide) e_X7_readName_41 ?_
      exact m_iret F hQ e_X7_readName_42 (⟨h5080, Or.inr ⟨by decide, ⟨rd5092, rd5093⟩, rfl⟩⟩)
  · refine m_aload_n F rfl e_X7_readName_9 ?_
    refine t_getC F e_X7_readName_10 fl_X7_61 (fun _ => o3) h1 hk (rd5052) ?_
    refine m_iconst F (v := 1) (by decide) e_X7_readName_13 ?_
    refine m_icmp_ne F e_X7_readName_14 (fun q => absurd (by decide) q) (fun _ => ?_)
    refine m_aload_n F rfl e_X7_readName_17 ?_
    refine t_getC F e_X7_readName_18 fl_X7_70 (fun _ => o3) h1 hk (rd5053) ?_
    refine m_iconst F (v := (-1)) (by decide) e_X7_readName_21 ?_
    refine m_icmp_eq F e_X7_readName_22 (fun q22 => ?_) (fun q22 => ?_)
    · exact absurd q22 (nI_nm1 (by omega))
    · refine m_aload_n F rfl e_X7_readName_25 ?_
      refine m_aload_n F rfl e_X7_readName_26 ?_
      refine t_getC F e_X7_readName_27 fl_X7_70 (fun _ => o3) h1 hk (rd5053) ?_
      refine t_callV F e_X7_readName_30 (s_X7_kindOfE (x_l X) V G b M Z T _ _ a v9 h1.1 hk (by omega) (by omega)) cb_X7_kindOf ml_X7_73 im_X7_kindOf se_X7_kindOf (fun _ => o3) h1 hk rfl rfl (rest := []) rfl (Nat.le_of_ble_eq_true rfl) ⟨Nat.le_of_ble_eq_true rfl, Nat.le_of_ble_eq_true rfl⟩ ⟨Nat.le_of_ble_eq_true rfl, Nat.le_of_ble_eq_true rfl⟩ (fun r σ5094 hp => ?_)
      obtain ⟨h5095, hp⟩ := hp
      rcases hp with ⟨hp, rfl⟩ | ⟨hp, rfl⟩
      · exact absurd hp hk9
      have h5096 := HK.trans h1 h5095 (by decide)
      refine m_ifnullN F e_X7_readName_33 ?_
      refine m_aload_n F rfl e_X7_readName_43 ?_
      refine t_getC F e_X7_readName_44 fl_X7_70 (fun _ => o3) h5096 hk ((fld_eq (h5095.2 a (by rw [show kA _ a = 3 from hk]; decide))).trans rd5053) ?_
      refine m_istore_n F (lv' := [(1, .int (nI v9)), (0, .ref a)]) e_X7_readName_47 (by decide) rfl ?_
      refine m_aload_n F rfl e_X7_readName_48 ?_
      refine t_callV F e_X7_readName_49 (s_X7_advanceE (x_l X) V G b M Z T _ _ a  tp td n bk nx st 1 (nI v9) py sd ln 0 pl t h5096.1 hk (by omega) ⟨(fld_eq (h5095.2 a (by rw [show kA _ a = 3 from hk]; decide))).trans rd5046, (fld_eq (h5095.2 a (by rw [show kA _ a = 3 from hk]; decide))).trans rd5047, (fld_eq (h5095.2 a (by rw [show kA _ a = 3 from hk]; decide))).trans rd5048, (fld_eq (h5095.2 a (by rw [show kA _ a = 3 from hk]; decide))).trans rd5049, (fld_eq (h5095.2 a (by rw [show kA _ a = 3 from hk]; decide))).trans rd5050, (fld_eq (h5095.2 a (by rw [show kA _ a = 3 from hk]; decide))).trans rd5051, (fld_eq (h5095.2 a (by rw [show kA _ a = 3 from hk]; decide))).trans rd5052, (fld_eq (h5095.2 a (by rw [show kA _ a = 3 from hk]; decide))).trans rd5053, (fld_eq (h5095.2 a (by rw [show kA _ a = 3 from hk]; decide))).trans rd5054, (fld_eq (h5095.2 a (by rw [show kA _ a = 3 from hk]; decide))).trans rd5055, (fld_eq (h5095.2 a (by rw [show kA _ a = 3 from hk]; decide))).trans rd5056, (fld_eq (h5095.2 a (by rw [show kA _ a = 3 from hk]; decide))).trans rd5057, (fld_eq (h5095.2 a (by rw [show kA _ a = 3 from hk]; decide))).trans rd5058⟩ (hB.keep (h5096.2 tp (by rw [show kA _ tp = 2 from htp]; decide))) hn7 hsd htp htd hbk hgb (by omega)) cb_X7_advance ml_X7_58 im_X7_advance se_X7_advance (fun _ => o3) h5096 hk rfl rfl (rest := []) rfl (Nat.le_of_ble_eq_true rfl) ⟨Nat.le_of_ble_eq_true rfl, Nat.le_of_ble_eq_true rfl⟩ ⟨Nat.le_of_ble_eq_true rfl, Nat.le_of_ble_eq_true rfl⟩ (fun r σ5097 hp => ?_)
      obtain ⟨h5098, ⟨tk5113, vl5114, ct5115, rd5100, rd5101, rd5102, rd5103, rd5104, rd5105, rd5106, rd5107, rd5108, rd5109, rd5110, rd5111, rd5112⟩, rfl⟩ := hp
      have h5099 := HK.trans h5096 h5098 (by decide)
      refine m_iload_n F rfl e_X7_readName_52 ?_
      exact m_iret F hQ e_X7_readName_53 (⟨h5099, Or.inl ⟨rfl, ⟨tk5113, vl5114, ct5115, ⟨rd5100, rd5101, rd5102, rd5103, rd5104, rd5105, rd5106, rd5107, rd5108, rd5109, rd5110, rd5111, rd5112⟩⟩, rfl⟩⟩)
  · refine m_aload_n F rfl e_X7_readName_9 ?_
    refine t_getC F e_X7_readName_10 fl_X7_61 (fun _ => o3) h1 hk (rd5052) ?_
    refine m_iconst F (v := 1) (by decide) e_X7_readName_13 ?_
    refine m_icmp_ne F e_X7_readName_14 (fun _ => ?_) (fun q => absurd q (by decide))
    refine m_aload_n F rfl e_X7_readName_36 ?_
    refine m_iconst F (v := 1) (by decide) e_X7_readName_37 ?_
    refine t_callV F e_X7_readName_38 (s_X7_failE (x_l X) V G b M Z T _ _ a 1 tp td n bk nx st 2 (nI w9) py sd ln 0 pl t h1.1 hk rfl (by decide) ⟨rd5046, rd5047, rd5048, rd5049, rd5050, rd5051, rd5052, rd5053, rd5054, rd5055, rd5056, rd5057, rd5058⟩ (hB.keep (h1.2 tp (by rw [show kA _ tp = 2 from htp]; decide))) hn7 hsd htp htd hbk hgb (by omega)) cb_X7_fail ml_X7_77 im_X7_fail se_X7_fail (fun _ => o3) h1 hk rfl rfl (rest := []) rfl (Nat.le_of_ble_eq_true rfl) ⟨Nat.le_of_ble_eq_true rfl, Nat.le_of_ble_eq_true rfl⟩ ⟨Nat.le_of_ble_eq_true rfl, Nat.le_of_ble_eq_true rfl⟩ (fun r σ5116 hp => ?_)
    obtain ⟨h5117, ⟨rd5119, rd5120, rd5121, rd5122, rd5123, rd5124, rd5125, rd5126, rd5127, rd5128, rd5129, rd5130, rd5131⟩, rfl⟩ := hp
    have h5118 := HK.trans h1 h5117 (by decide)
    refine m_iconst F (v := (-1)) (by decide) e_X7_readName_41 ?_
    exact m_iret F hQ e_X7_readName_42 (⟨h5118, Or.inr ⟨by decide, ⟨rd5130, rd5131⟩, rfl⟩⟩)
  · refine m_aload_n F rfl e_X7_readName_9 ?_
    refine t_getC F e_X7_readName_10 fl_X7_61 (fun _ => o3) h1 hk (rd5052) ?_
    refine m_iconst F (v := 1) (by decide) e_X7_readName_13 ?_
    refine m_icmp_ne F e_X7_readName_14 (fun _ => ?_) (fun q => absurd q (by decide))
    refine m_aload_n F rfl e_X7_readName_36 ?_
    refine m_iconst F (v := 1) (by decide) e_X7_readName_37 ?_
    refine t_callV F e_X7_readName_38 (s_X7_failE (x_l X) V G b M Z T _ _ a 1 tp td n bk nx st 3 vl py sd ln 0 pl t h1.1 hk rfl (by decide) ⟨rd5046, rd5047, rd5048, rd5049, rd5050, rd5051, rd5052, rd5053, rd5054, rd5055, rd5056, rd5057, rd5058⟩ (hB.keep (h1.2 tp (by rw [show kA _ tp = 2 from htp]; decide))) hn7 hsd htp htd hbk hgb (by omega)) cb_X7_fail ml_X7_77 im_X7_fail se_X7_fail (fun _ => o3) h1 hk rfl rfl (rest := []) rfl (Nat.le_of_ble_eq_true rfl) ⟨Nat.le_of_ble_eq_true rfl, Nat.le_of_ble_eq_true rfl⟩ ⟨Nat.le_of_ble_eq_true rfl, Nat.le_of_ble_eq_true rfl⟩ (fun r σ5132 hp => ?_)
    obtain ⟨h5133, ⟨rd5135, rd5136, rd5137, rd5138, rd5139, rd5140, rd5141, rd5142, rd5143, rd5144, rd5145, rd5146, rd5147⟩, rfl⟩ := hp
    have h5134 := HK.trans h1 h5133 (by decide)
    refine m_iconst F (v := (-1)) (by decide) e_X7_readName_41 ?_
    exact m_iret F hQ e_X7_readName_42 (⟨h5134, Or.inr ⟨by decide, ⟨rd5146, rd5147⟩, rfl⟩⟩)
  · refine m_aload_n F rfl e_X7_readName_9 ?_
    refine t_getC F e_X7_readName_10 fl_X7_61 (fun _ => o3) h1 hk (rd5052) ?_
    refine m_iconst F (v := 1) (by decide) e_X7_readName_13 ?_
    refine m_icmp_ne F e_X7_readName_14 (fun q => absurd (by decide) q) (fun _ => ?_)
    refine m_aload_n F rfl e_X7_readName_17 ?_
    refine t_getC F e_X7_readName_18 fl_X7_70 (fun _ => o3) h1 hk (rd5053) ?_
    refine m_iconst F (v := (-1)) (by decide) e_X7_readName_21 ?_
    refine m_icmp_eq F e_X7_readName_22 (fun _ => ?_) (fun q => absurd (by decide) q)
    refine m_aload_n F rfl e_X7_readName_36 ?_
    refine m_iconst F (v := 1) (by decide) e_X7_readName_37 ?_
    refine t_callV F e_X7_readName_38 (s_X7_failE (x_l X) V G b M Z T _ _ a 1 tp td n bk nx st 1 (-1) py sd ln 0 pl t h1.1 hk rfl (by decide) ⟨rd5046, rd5047, rd5048, rd5049, rd5050, rd5051, rd5052, rd5053, rd5054, rd5055, rd5056, rd5057, rd5058⟩ (hB.keep (h1.2 tp (by rw [show kA _ tp = 2 from htp]; decide))) hn7 hsd htp htd hbk hgb (by omega)) cb_X7_fail ml_X7_77 im_X7_fail se_X7_fail (fun _ => o3) h1 hk rfl rfl (rest := []) rfl (Nat.le_of_ble_eq_true rfl) ⟨Nat.le_of_ble_eq_true rfl, Nat.le_of_ble_eq_true rfl⟩ ⟨Nat.le_of_ble_eq_true rfl, Nat.le_of_ble_eq_true rfl⟩ (fun r σ5148 hp => ?_)
    obtain ⟨h5149, ⟨rd5151, rd5152, rd5153, rd5154, rd5155, rd5156, rd5157, rd5158, rd5159, rd5160, rd5161, rd5162, rd5163⟩, rfl⟩ := hp
    have h5150 := HK.trans h1 h5149 (by decide)
    refine m_iconst F (v := (-1)) (by decide) e_X7_readName_41 ?_
    exact m_iret F hQ e_X7_readName_42 (⟨h5150, Or.inr ⟨by decide, ⟨rd5162, rd5163⟩, rfl⟩⟩)
  · refine m_aload_n F rfl e_X7_readName_9 ?_
    refine t_getC F e_X7_readName_10 fl_X7_61 (fun _ => o3) h1 hk (rd5052) ?_
    refine m_iconst F (v := 1) (by decide) e_X7_readName_13 ?_
    refine m_icmp_ne F e_X7_readName_14 (fun _ => ?_) (fun q => absurd q (by decide))
    refine m_aload_n F rfl e_X7_readName_36 ?_
    refine m_iconst F (v := 1) (by decide) e_X7_readName_37 ?_
    refine t_callV F e_X7_readName_38 (s_X7_failE (x_l X) V G b M Z T _ _ a 1 tp td n bk nx st 4 vl py sd ln 0 pl t h1.1 hk rfl (by decide) ⟨rd5046, rd5047, rd5048, rd5049, rd5050, rd5051, rd5052, rd5053, rd5054, rd5055, rd5056, rd5057, rd5058⟩ (hB.keep (h1.2 tp (by rw [show kA _ tp = 2 from htp]; decide))) hn7 hsd htp htd hbk hgb (by omega)) cb_X7_fail ml_X7_77 im_X7_fail se_X7_fail (fun _ => o3) h1 hk rfl rfl (rest := []) rfl (Nat.le_of_ble_eq_true rfl) ⟨Nat.le_of_ble_eq_true rfl, Nat.le_of_ble_eq_true rfl⟩ ⟨Nat.le_of_ble_eq_true rfl, Nat.le_of_ble_eq_true rfl⟩ (fun r σ5164 hp => ?_)
    obtain ⟨h5165, ⟨rd5167, rd5168, rd5169, rd5170, rd5171, rd5172, rd5173, rd5174, rd5175, rd5176, rd5177, rd5178, rd5179⟩, rfl⟩ := hp
    have h5166 := HK.trans h1 h5165 (by decide)
    refine m_iconst F (v := (-1)) (by decide) e_X7_readName_41 ?_
    exact m_iret F hQ e_X7_readName_42 (⟨h5166, Or.inr ⟨by decide, ⟨rd5178, rd5179⟩, rfl⟩⟩)
set_option maxRecDepth 20000 in
theorem lp_X2_leaseNamedE_2 {V : VX} {G : GH} {X : MX} {b M Z T N : Nat} {σ : Mem} {a : Nat} {n901 : Nat} {nl : Nat} {nm : Nat → Nat} {nc : Nat} {lc : Nat} {no : Nat}  (F : Fx V X yX2_leaseNamed cX2_leaseNamed 3 (some .int) (rmd 0 0 0)) (hQ : Rt V X 0 0 N (fun r τ => HK V G (b, M, Z, T) [0, 1, 2, 3, 4, 5, 6, 7, 8, 9, 10, 11, 12, 13, 14, 15, 16, 17, 18, 19] σ τ ∧ ((fx nm n901 nl < nl ∧ r = some (.int (nI (fx nm n901 nl)))) ∨ (¬ fx nm n901 nl < nl ∧ r = some (.int (-1)))))) (hk : kA b a = 7) (hn901 : n901 ≤ 1073741823) (hBX : BX σ a nl nm nc lc no) (hM : M + 0 ≤ 1000000000)  : ∀ (fuel : Nat) (i : Nat) (τ : Mem), HK V G (b, M, Z, T) [0, 1, 2, 3, 4, 5, 6, 7, 8, 9, 10, 11, 12, 13, 14, 15, 16, 17, 18, 19] σ τ → (i ≤ nl ∧ (∀ j, j < i → nm j ≠ n901) ∧ fx nm n901 nl = sc (fun c => c != n901) nm nl i) → nl - i < fuel → Wm V X 3 N τ 0 0 2 [(2, .int (nI i)), (0, .ref a), (1, .int (nI n901))] [] := by
  intro fuel
  induction fuel with
  | zero => intro i τ h1 hi hm; exact absurd hm (Nat.not_lt_zero _)
  | succ fuel ih =>
    intro i τ h1 hi hm
    have hbb5180 := hBX
    obtain ⟨bb5180, bb5181, bb5182, bb5183, bb5184, bb5185, bb5186, bb5187⟩ := hbb5180
    have hbn : ∀ i, i < nl → nm i < 1073741824 ∧ fld τ (a + 1 + 10 + 12 * i) 0 = some (.int (nI (nm i))) := fun i hi => ⟨(bb5183 i hi).1, (fld_eq (h1.2 _ (by rw [show kA _ (a + 1 + 10 + 12 * i) = 15 from kA_lease hk (by omega)]; decide))).trans (bb5183 i hi).2⟩
    refine m_iload_n F rfl e_X2_leaseNamed_2 ?_
    refine m_aload_n F rfl e_X2_leaseNamed_3 ?_
    refine t_getC F e_X2_leaseNamed_4 fl_X2_58 (fun _ => o7) h1 hk ((fld_eq (h1.2 a (by rw [show kA _ a = 7 from hk]; decide))).trans bb5180) ?_
    refine m_icmp_ge F e_X2_leaseNamed_7 (fun q7 => ?_) (fun q7 => ?_)
    · have c7 : i ≥ nl := (nI_leI (a := nl) (b := i) (by omega) (by omega)).mp q7
      refine m_iconst F (v := (-1)) (by decide) e_X2_leaseNamed_31 ?_
      exact m_iret F hQ e_X2_leaseNamed_32 (⟨h1, Or.inr ⟨by rw [hi.2.2, sc_stop (Or.inl (by omega))]; omega, rfl⟩⟩)
    · have c7 : i < nl := by have hh := mt (nI_leI (a := nl) (b := i) (by omega) (by omega)).mpr q7; omega
      refine m_aload_n F rfl e_X2_leaseNamed_10 ?_
      refine t_get F e_X2_leaseNamed_11 fl_X2_11 (fun _ => o7) h1 hk rfl (fun v hv f5188 => ?_)
      obtain rfl : v = .ref (a + 1) := hv
      refine m_iload_n F rfl e_X2_leaseNamed_14 ?_
      refine t_aald8 F (j := i) e_X2_leaseNamed_15 rfl h1 (kA_7 hk (r := 1) (by decide)) (nI_clamp (by omega)) (vp_in_nI (by omega) (by decide)) ?_
      have hnb := (hbn i (by omega)).1
      refine t_getC F e_X2_leaseNamed_16 fl_X2_113 (fun _ => o15) h1 (kA_8 (kA_7 hk (r := 1) (by decide)) (j := i) (by omega)) ((hbn i (by omega)).2) ?_
      refine m_iload_n F rfl e_X2_leaseNamed_19 ?_
      refine m_icmp_ne F e_X2_leaseNamed_20 (fun q20 => ?_) (fun q20 => ?_)
      · have c20 : (nm i) ≠ n901 := by have hh := mt (nI_eq (a := (nm i)) (b := n901) (by omega) (by omega)).mpr q20; omega
        refine m_iinc F (v := nI (i + 1)) (lv' := [(2, .int (nI (i + 1))), (0, .ref a), (1, .int (nI n901))]) e_X2_leaseNamed_25 rfl (nI_add i 1) (by decide) rfl ?_
        refine m_goto F e_X2_leaseNamed_28 ?_
        exact ih (i + 1) _ h1 ⟨by omega, fun j hj => if e : j = i then (by rw [e]; omega) else hi.2.1 j (by omega), by rw [hi.2.2]; exact sc_go (by omega) (by simp; omega)⟩ (by omega)
      · have c20 : (nm i) = n901 := (nI_eq (a := (nm i)) (b := n901) (by omega) (by omega)).mp q20
        refine m_iload_n F rfl e_X2_leaseNamed_23 ?_
        exact m_iret F hQ e_X2_leaseNamed_24 (⟨h1, Or.inl ⟨by rw [hi.2.2, sc_stop (Or.inr (by simp; omega))]; omega, by rw [hi.2.2, sc_stop (Or.inr (by simp; omega))]⟩⟩)
set_option maxRecDepth 20000 in
theorem s_X2_leaseNamedE (l : Launch) (V : VX) (G : GH) (b M Z T N : Nat) (σ : Mem) (a : Nat) (n901 : Nat) (nl : Nat) (nm : Nat → Nat) (nc : Nat) (lc : Nat) (no : Nat) (h0 : HT V G (b, M, Z, T) σ) (hk : kA b a = 7) (hn901 : n901 ≤ 1073741823) (hBX : BX σ a nl nm nc lc no) (hM : M + 0 ≤ 1000000000) : Ct l V yX2_leaseNamed cX2_leaseNamed 3 (some .int) 0 0 0 N σ [.ref a, .int (nI n901)] (fun r τ => HK V G (b, M, Z, T) [0, 1, 2, 3, 4, 5, 6, 7, 8, 9, 10, 11, 12, 13, 14, 15, 16, 17, 18, 19] σ τ ∧ ((fx nm n901 nl < nl ∧ r = some (.int (nI (fx nm n901 nl)))) ∨ (¬ fx nm n901 nl < nl ∧ r = some (.int (-1))))) := by
  refine Ct.of (by decide) (Nat.le_of_ble_eq_true rfl) [(0, .ref a), (1, .int (nI n901))] rfl (fun X hX F hQ => ?_)
  have h1 : HK V G (b, M, Z, T) [0, 1, 2, 3, 4, 5, 6, 7, 8, 9, 10, 11, 12, 13, 14, 15, 16, 17, 18, 19] σ σ := HK.start h0
  have hbb5189 := hBX
  obtain ⟨bb5189, bb5190, bb5191, bb5192, bb5193, bb5194, bb5195, bb5196⟩ := hbb5189
  have hbn := bb5192
  refine m_iconst F (v := 0) (by decide) e_X2_leaseNamed_0 ?_
  refine m_istore_n F (lv' := [(2, .int 0), (0, .ref a), (1, .int (nI n901))]) e_X2_leaseNamed_1 (by decide) rfl ?_
  exact lp_X2_leaseNamedE_2 F hQ hk hn901 hBX hM (nl - 0 + 1) 0 _ h1 ⟨by omega, fun j hj => absurd hj (Nat.not_lt_zero _), rfl⟩ (Nat.lt_succ_self _)
