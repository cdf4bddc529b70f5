theorem nI_nm1 {c : Nat} (h : c < 2147483648) : nI c ≠ -1 := fun e => by
  have h1 := congrArg Int32.toInt e
  rw [nI_ti h] at h1
  have h2 : (-1 : Int32).toInt = -1 := by decide
  omega
set_option maxRecDepth 20000 in
theorem s_X7_readNameE (l : Launch) (V : VX) (b M Z T N : Nat) (σ : Mem) (a : Nat) (tp : Nat) (td : Nat) (n : Nat) (bk : Nat) (nx : Nat) (st : Nat) (tk : Int32) (vl : Int32) (py : Nat) (sd : Nat) (ln : Nat) (ft : Int32) (pl : Int32) (t : Nat → Nat) (s9 : Nat) (v9 : Nat) (h0 : HT V (b, M, Z, T) σ) (hk : kA b a = 3) (hp0 : ft = 0) (hp1 : CT tk vl s9 v9) (hp2 : nx ≤ n) (hp3 : st ≤ n) (hR : RD σ a tp td n bk nx st tk vl py sd ln ft pl) (hB : BY V σ tp n t) (hn7 : n ≤ 700) (hsd : sd ≤ 1) (htp : kA b tp = 2) (htd : kA b td = 4) (hbk : kA b bk = 7) (hM : M + 0 ≤ 1000000000) : Ct l V yX7_readName cX7_readName 2 (some .int) 2 0 0 N σ [.ref a] (fun r τ => HK V (b, M, Z, T) [0, 1, 2, 4, 5, 6, 7, 8, 9, 10, 11, 12, 13, 14, 15, 16, 17, 18, 19] σ τ ∧ ((s9 = 2 ∧ (∃ tk2 vl2, CT tk2 vl2 (tok t n nx).2.1 (tok t n nx).2.2.1 ∧ RD τ a tp td n bk (tok t n nx).2.2.2 (tok t n nx).1 tk2 vl2 py sd ln 0 pl) ∧ r = some (.int (nI v9))) ∨ (s9 ≠ 2 ∧ FT τ a 1 st ∧ r = some (.int (-1))))) := by
  refine Ct.of (by decide) (Nat.le_of_ble_eq_true rfl) [(0, .ref a)] rfl (fun X hX F hQ => ?_)
  have h1 : HK V (b, M, Z, T) [0, 1, 2, 4, 5, 6, 7, 8, 9, 10, 11, 12, 13, 14, 15, 16, 17, 18, 19] σ σ := HK.start h0
  have hrd5151 := hR
  obtain ⟨rd5151, rd5152, rd5153, rd5154, rd5155, rd5156, rd5157, rd5158, rd5159, rd5160, rd5161, rd5162, rd5163⟩ := hrd5151
  subst hp0
  refine m_aload_n F rfl e_X7_readName_0 ?_
  refine t_getC F e_X7_readName_1 fl_X7_55 (fun _ => o3) h1 hk (rd5162) ?_
  refine m_if_eq F e_X7_readName_4 (fun _ => ?_) (fun q => absurd (by decide) q)
  have hct := hp1
  rcases hct with ⟨rfl, rfl⟩ | ⟨rfl, rfl, c9, rfl, hc9, hk9, hv9⟩ | ⟨rfl, rfl, rfl, hv9, hk9⟩ | ⟨rfl, rfl, w9, hw9, rfl, hm9⟩ | ⟨rfl, rfl⟩ | ⟨rfl, ⟨rfl, rfl⟩ | rfl⟩
  · refine m_aload_n F rfl e_X7_readName_9 ?_
    refine t_getC F e_X7_readName_10 fl_X7_61 (fun _ => o3) h1 hk (rd5157) ?_
    refine m_iconst F (v := 1) (by decide) e_X7_readName_13 ?_
    refine m_icmp_ne F e_X7_readName_14 (fun _ => ?_) (fun q => absurd q (by decide))
    refine m_aload_n F rfl e_X7_readName_36 ?_
    refine m_iconst F (v := 1) (by decide) e_X7_readName_37 ?_
    refine t_callV F e_X7_readName_38 (s_X7_failE (x_l X) V b M Z T _ _ a 1 tp td n bk nx st 0 vl py sd ln 0 pl t h1.1 hk rfl (by decide) ⟨rd5151, rd5152, rd5153, rd5154, rd5155, rd5156, rd5157, rd5158, rd5159, rd5160, rd5161, rd5162, rd5163⟩ (hB.keep (h1.2 tp (by rw [show kA _ tp = 2 from htp]; decide))) hn7 hsd htp htd hbk (by omega)) cb_X7_fail ml_X7_77 im_X7_fail se_X7_fail (fun _ => o3) h1 hk rfl rfl (rest := []) rfl (Nat.le_of_ble_eq_true rfl) ⟨Nat.le_of_ble_eq_true rfl, Nat.le_of_ble_eq_true rfl⟩ ⟨Nat.le_of_ble_eq_true rfl, Nat.le_of_ble_eq_true rfl⟩ (fun r σ5164 hp => ?_)
    obtain ⟨h5165, ⟨rd5167, rd5168, rd5169, rd5170, rd5171, rd5172, rd5173, rd5174, rd5175, rd5176, rd5177, rd5178, rd5179⟩, rfl⟩ := hp
    have h5166 := HK.trans h1 h5165 (by decide)
    refine m_iconst F (v := (-1)) (by decide) e_X7_readName_41 ?_
    exact m_iret F hQ e_X7_readName_42 (⟨h5166, Or.inr ⟨by decide, ⟨rd5178, rd5179⟩, rfl⟩⟩)
  · refine m_aload_n F rfl e_X7_readName_9 ?_
    refine t_getC F e_X7_readName_10 fl_X7_61 (fun _ => o3) h1 hk (rd5157) ?_
    refine m_iconst F (v := 1) (by decide) e_X7_readName_13 ?_
    refine m_icmp_ne F e_X7_readName_14 (fun q => absurd (by decide) q) (fun _ => ?_)
    refine m_aload_n F rfl e_X7_readName_17 ?_
    refine t_getC F e_X7_readName_18 fl_X7_70 (fun _ => o3) h1 hk (rd5158) ?_
    refine m_iconst F (v := (-1)) (by decide) e_X7_readName_21 ?_
    refine m_icmp_eq F e_X7_readName_22 (fun q22 => ?_) (fun q22 => ?_)
    · exact absurd q22 (nI_nm1 (by omega))
    · refine m_aload_n F rfl e_X7_readName_25 ?_
      refine m_aload_n F rfl e_X7_readName_26 ?_
      refine t_getC F e_X7_readName_27 fl_X7_70 (fun _ => o3) h1 hk (rd5158) ?_
      refine t_callV F e_X7_readName_30 (s_X7_kindOfE (x_l X) V b M Z T _ _ a c9 h1.1 hk (by omega) (by omega)) cb_X7_kindOf ml_X7_73 im_X7_kindOf se_X7_kindOf (fun _ => o3) h1 hk rfl rfl (rest := []) rfl (Nat.le_of_ble_eq_true rfl) ⟨Nat.le_of_ble_eq_true rfl, Nat.le_of_ble_eq_true rfl⟩ ⟨Nat.le_of_ble_eq_true rfl, Nat.le_of_ble_eq_true rfl⟩ (fun r σ5180 hp => ?_)
      obtain ⟨h5181, hp⟩ := hp
      rcases hp with ⟨hp, rfl⟩ | ⟨hp, rfl⟩
      rotate_left
      · omega
      have h5182 := HK.trans h1 h5181 (by decide)
      refine m_ifnullR F e_X7_readName_33 ?_
      refine m_aload_n F rfl e_X7_readName_36 ?_
      refine m_iconst F (v := 1) (by decide) e_X7_readName_37 ?_
      refine t_callV F e_X7_readName_38 (s_X7_failE (x_l X) V b M Z T _ _ a 1 tp td n bk nx st 1 (nI c9) py sd ln 0 pl t h5182.1 hk rfl (by decide) ⟨(fld_eq (h5181.2 a (by rw [show kA _ a = 3 from hk]; decide))).trans rd5151, (fld_eq (h5181.2 a (by rw [show kA _ a = 3 from hk]; decide))).trans rd5152, (fld_eq (h5181.2 a (by rw [show kA _ a = 3 from hk]; decide))).trans rd5153, (fld_eq (h5181.2 a (by rw [show kA _ a = 3 from hk]; decide))).trans rd5154, (fld_eq (h5181.2 a (by rw [show kA _ a = 3 from hk]; decide))).trans rd5155, (fld_eq (h5181.2 a (by rw [show kA _ a = 3 from hk]; decide))).trans rd5156, (fld_eq (h5181.2 a (by rw [show kA _ a = 3 from hk]; decide))).trans rd5157, (fld_eq (h5181.2 a (by rw [show kA _ a = 3 from hk]; decide))).trans rd5158, (fld_eq (h5181.2 a (by rw [show kA _ a = 3 from hk]; decide))).trans rd5159, (fld_eq (h5181.2 a (by rw [show kA _ a = 3 from hk]; decide))).trans rd5160, (fld_eq (h5181.2 a (by rw [show kA _ a = 3 from hk]; decide))).trans rd5161, (fld_eq (h5181.2 a (by rw [show kA _ a = 3 from hk]; decide))).trans rd5162, (fld_eq (h5181.2 a (by rw [show kA _ a = 3 from hk]; decide))).trans rd5163⟩ (hB.keep (h5182.2 tp (by rw [show kA _ tp = 2 from htp]; decide))) hn7 hsd htp htd hbk (by omega)) cb_X7_fail ml_X7_77 im_X7_fail se_X7_fail (fun _ => o3) h5182 hk rfl rfl (rest := []) rfl (Nat.le_of_ble_eq_true rfl) ⟨Nat.le_of_ble_eq_true rfl, Nat.le_of_ble_eq_true rfl⟩ ⟨Nat.le_of_ble_eq_true rfl, Nat.le_of_ble_eq_true rfl⟩ (fun r σ5183 hp => ?_)
      obtain ⟨h5184, ⟨rd5186, rd5187, rd5188, rd5189, rd5190, rd5191, rd5192, rd5193, rd5194, rd5195, rd5196, rd5197, rd5198⟩, rfl⟩ := hp
      have h5185 := HK.trans h5182 h5184 (by decide)
      refine m_iconst F (v := (-1)) (by decide) e_X7_readName_41 ?_
      exact m_iret F hQ e_X7_readName_42 (⟨h5185, Or.inr ⟨by decide, ⟨rd5197, rd5198⟩, rfl⟩⟩)
  · refine m_aload_n F rfl e_X7_readName_9 ?_
    refine t_getC F e_X7_readName_10 fl_X7_61 (fun _ => o3) h1 hk (rd5157) ?_
    refine m_iconst F (v := 1) (by decide) e_X7_readName_13 ?_
    refine m_icmp_ne F e_X7_readName_14 (fun q => absurd (by decide) q) (fun _ => ?_)
    refine m_aload_n F rfl e_X7_readName_17 ?_
    refine t_getC F e_X7_readName_18 fl_X7_70 (fun _ => o3) h1 hk (rd5158) ?_
    refine m_iconst F (v := (-1)) (by decide) e_X7_readName_21 ?_
    refine m_icmp_eq F e_X7_readName_22 (fun q22 => ?_) (fun q22 => ?_)
    · exact absurd q22 (nI_nm1 (by omega))
    · refine m_aload_n F rfl e_X7_readName_25 ?_
      refine m_aload_n F rfl e_X7_readName_26 ?_
      refine t_getC F e_X7_readName_27 fl_X7_70 (fun _ => o3) h1 hk (rd5158) ?_
      refine t_callV F e_X7_readName_30 (s_X7_kindOfE (x_l X) V b M Z T _ _ a v9 h1.1 hk (by omega) (by omega)) cb_X7_kindOf ml_X7_73 im_X7_kindOf se_X7_kindOf (fun _ => o3) h1 hk rfl rfl (rest := []) rfl (Nat.le_of_ble_eq_true rfl) ⟨Nat.le_of_ble_eq_true rfl, Nat.le_of_ble_eq_true rfl⟩ ⟨Nat.le_of_ble_eq_true rfl, Nat.le_of_ble_eq_true rfl⟩ (fun r σ5199 hp => ?_)
      obtain ⟨h5200, hp⟩ := hp
      rcases hp with ⟨hp, rfl⟩ | ⟨hp, rfl⟩
      · exact absurd hp hk9
      have h5201 := HK.trans h1 h5200 (by decide)
      refine m_ifnullN F e_X7_readName_33 ?_
      refine m_aload_n F rfl e_X7_readName_43 ?_
      refine t_getC F e_X7_readName_44 fl_X7_70 (fun _ => o3) h5201 hk ((fld_eq (h5200.2 a (by rw [show kA _ a = 3 from hk]; decide))).trans rd5158) ?_
      refine m_istore_n F (lv' := [(1, .int (nI v9)), (0, .ref a)]) e_X7_readName_47 (by decide) rfl ?_
      refine m_aload_n F rfl e_X7_readName_48 ?_
      refine t_callV F e_X7_readName_49 (s_X7_advanceE (x_l X) V b M Z T _ _ a  tp td n bk nx st 1 (nI v9) py sd ln 0 pl t h5201.1 hk (by omega) ⟨(fld_eq (h5200.2 a (by rw [show kA _ a = 3 from hk]; decide))).trans rd5151, (fld_eq (h5200.2 a (by rw [show kA _ a = 3 from hk]; decide))).trans rd5152, (fld_eq (h5200.2 a (by rw [show kA _ a = 3 from hk]; decide))).trans rd5153, (fld_eq (h5200.2 a (by rw [show kA _ a = 3 from hk]; decide))).trans rd5154, (fld_eq (h5200.2 a (by rw [show kA _ a = 3 from hk]; decide))).trans rd5155, (fld_eq (h5200.2 a (by rw [show kA _ a = 3 from hk]; decide))).trans rd5156, (fld_eq (h5200.2 a (by rw [show kA _ a = 3 from hk]; decide))).trans rd5157, (fld_eq (h5200.2 a (by rw [show kA _ a = 3 from hk]; decide))).trans rd5158, (fld_eq (h5200.2 a (by rw [show kA _ a = 3 from hk]; decide))).trans rd5159, (fld_eq (h5200.2 a (by rw [show kA _ a = 3 from hk]; decide))).trans rd5160, (fld_eq (h5200.2 a (by rw [show kA _ a = 3 from hk]; decide))).trans rd5161, (fld_eq (h5200.2 a (by rw [show kA _ a = 3 from hk]; decide))).trans rd5162, (fld_eq (h5200.2 a (by rw [show kA _ a = 3 from hk]; decide))).trans rd5163⟩ (hB.keep (h5201.2 tp (by rw [show kA _ tp = 2 from htp]; decide))) hn7 hsd htp htd hbk (by omega)) cb_X7_advance ml_X7_58 im_X7_advance se_X7_advance (fun _ => o3) h5201 hk rfl rfl (rest := []) rfl (Nat.le_of_ble_eq_true rfl) ⟨Nat.le_of_ble_eq_true rfl, Nat.le_of_ble_eq_true rfl⟩ ⟨Nat.le_of_ble_eq_true rfl, Nat.le_of_ble_eq_true rfl⟩ (fun r σ5202 hp => ?_)
      obtain ⟨h5203, ⟨tk5218, vl5219, ct5220, rd5205, rd5206, rd5207, rd5208, rd5209, rd5210, rd5211, rd5212, rd5213, rd5214, rd5215, rd5216, rd5217⟩, rfl⟩ := hp
      have h5204 := HK.trans h5201 h5203 (by decide)
      refine m_iload_n F rfl e_X7_readName_52 ?_
      exact m_iret F hQ e_X7_readName_53 (⟨h5204, Or.inl ⟨rfl, ⟨tk5218, vl5219, ct5220, ⟨rd5205, rd5206, rd5207, rd5208, rd5209, rd5210, rd5211, rd5212, rd5213, rd5214, rd5215, rd5216, rd5217⟩⟩, rfl⟩⟩)
  · refine m_aload_n F rfl e_X7_readName_9 ?_
    refine t_getC F e_X7_readName_10 fl_X7_61 (fun _ => o3) h1 hk (rd5157) ?_
    refine m_iconst F (v := 1) (by decide) e_X7_readName_13 ?_
    refine m_icmp_ne F e_X7_readName_14 (fun _ => ?_) (fun q => absurd q (by decide))
    refine m_aload_n F rfl e_X7_readName_36 ?_
    refine m_iconst F (v := 1) (by decide) e_X7_readName_37 ?_
    refine t_callV F e_X7_readName_38 (s_X7_failE (x_l X) V b M Z T _ _ a 1 tp td n bk nx st 2 (nI w9) py sd ln 0 pl t h1.1 hk rfl (by decide) ⟨rd5151, rd5152, rd5153, rd5154, rd5155, rd5156, rd5157, rd5158, rd5159, rd5160, rd5161, rd5162, rd5163⟩ (hB.keep (h1.2 tp (by rw [show kA _ tp = 2 from htp]; decide))) hn7 hsd htp htd hbk (by omega)) cb_X7_fail ml_X7_77 im_X7_fail se_X7_fail (fun _ => o3) h1 hk rfl rfl (rest := []) rfl (Nat.le_of_ble_eq_true rfl) ⟨Nat.le_of_ble_eq_true rfl, Nat.le_of_ble_eq_true rfl⟩ ⟨Nat.le_of_ble_eq_true rfl, Nat.le_of_ble_eq_true rfl⟩ (fun r σ5221 hp => ?_)
    obtain ⟨h5222, ⟨rd5224, rd5225, rd5226, rd5227, rd5228, rd5229, rd5230, rd5231, rd5232, rd5233, rd5234, rd5235, rd5236⟩, rfl⟩ := hp
    have h5223 := HK.trans h1 h5222 (by decide)
    refine m_iconst F (v := (-1)) (by decide) e_X7_readName_41 ?_
    exact m_iret F hQ e_X7_readName_42 (⟨h5223, Or.inr ⟨by decide, ⟨rd5235, rd5236⟩, rfl⟩⟩)
  · refine m_aload_n F rfl e_X7_readName_9 ?_
    refine t_getC F e_X7_readName_10 fl_X7_61 (fun _ => o3) h1 hk (rd5157) ?_
    refine m_iconst F (v := 1) (by decide) e_X7_readName_13 ?_
    refine m_icmp_ne F e_X7_readName_14 (fun _ => ?_) (fun q => absurd q (by decide))
    refine m_aload_n F rfl e_X7_readName_36 ?_
    refine m_iconst F (v := 1) (by decide) e_X7_readName_37 ?_
    refine t_callV F e_X7_readName_38 (s_X7_failE (x_l X) V b M Z T _ _ a 1 tp td n bk nx st 3 vl py sd ln 0 pl t h1.1 hk rfl (by decide) ⟨rd5151, rd5152, rd5153, rd5154, rd5155, rd5156, rd5157, rd5158, rd5159, rd5160, rd5161, rd5162, rd5163⟩ (hB.keep (h1.2 tp (by rw [show kA _ tp = 2 from htp]; decide))) hn7 hsd htp htd hbk (by omega)) cb_X7_fail ml_X7_77 im_X7_fail se_X7_fail (fun _ => o3) h1 hk rfl rfl (rest := []) rfl (Nat.le_of_ble_eq_true rfl) ⟨Nat.le_of_ble_eq_true rfl, Nat.le_of_ble_eq_true rfl⟩ ⟨Nat.le_of_ble_eq_true rfl, Nat.le_of_ble_eq_true rfl⟩ (fun r σ5237 hp => ?_)
    obtain ⟨h5238, ⟨rd5240, rd5241, rd5242, rd5243, rd5244, rd5245, rd5246, rd5247, rd5248, rd5249, rd5250, rd5251, rd5252⟩, rfl⟩ := hp
    have h5239 := HK.trans h1 h5238 (by decide)
    refine m_iconst F (v := (-1)) (by decide) e_X7_readName_41 ?_
    exact m_iret F hQ e_X7_readName_42 (⟨h5239, Or.inr ⟨by decide, ⟨rd5251, rd5252⟩, rfl⟩⟩)
  · refine m_aload_n F rfl e_X7_readName_9 ?_
    refine t_getC F e_X7_readName_10 fl_X7_61 (fun _ => o3) h1 hk (rd5157) ?_
    refine m_iconst F (v := 1) (by decide) e_X7_readName_13 ?_
    refine m_icmp_ne F e_X7_readName_14 (fun q => absurd (by decide) q) (fun _ => ?_)
    refine m_aload_n F rfl e_X7_readName_17 ?_
    refine t_getC F e_X7_readName_18 fl_X7_70 (fun _ => o3) h1 hk (rd5158) ?_
    refine m_iconst F (v := (-1)) (by decide) e_X7_readName_21 ?_
    refine m_icmp_eq F e_X7_readName_22 (fun _ => ?_) (fun q => absurd (by decide) q)
    refine m_aload_n F rfl e_X7_readName_36 ?_
    refine m_iconst F (v := 1) (by decide) e_X7_readName_37 ?_
    refine t_callV F e_X7_readName_38 (s_X7_failE (x_l X) V b M Z T _ _ a 1 tp td n bk nx st 1 (-1) py sd ln 0 pl t h1.1 hk rfl (by decide) ⟨rd5151, rd5152, rd5153, rd5154, rd5155, rd5156, rd5157, rd5158, rd5159, rd5160, rd5161, rd5162, rd5163⟩ (hB.keep (h1.2 tp (by rw [show kA _ tp = 2 from htp]; decide))) hn7 hsd htp htd hbk (by omega)) cb_X7_fail ml_X7_77 im_X7_fail se_X7_fail (fun _ => o3) h1 hk rfl rfl (rest := []) rfl (Nat.le_of_ble_eq_true rfl) ⟨Nat.le_of_ble_eq_true rfl, Nat.le_of_ble_eq_true rfl⟩ ⟨Nat.le_of_ble_eq_true rfl, Nat.le_of_ble_eq_true rfl⟩ (fun r σ5253 hp => ?_)
    obtain ⟨h5254, ⟨rd5256, rd5257, rd5258, rd5259, rd5260, rd5261, rd5262, rd5263, rd5264, rd5265, rd5266, rd5267, rd5268⟩, rfl⟩ := hp
    have h5255 := HK.trans h1 h5254 (by decide)
    refine m_iconst F (v := (-1)) (by decide) e_X7_readName_41 ?_
    exact m_iret F hQ e_X7_readName_42 (⟨h5255, Or.inr ⟨by decide, ⟨rd5267, rd5268⟩, rfl⟩⟩)
  · refine m_aload_n F rfl e_X7_readName_9 ?_
    refine t_getC F e_X7_readName_10 fl_X7_61 (fun _ => o3) h1 hk (rd5157) ?_
    refine m_iconst F (v := 1) (by decide) e_X7_readName_13 ?_
    refine m_icmp_ne F e_X7_readName_14 (fun _ => ?_) (fun q => absurd q (by decide))
    refine m_aload_n F rfl e_X7_readName_36 ?_
    refine m_iconst F (v := 1) (by decide) e_X7_readName_37 ?_
    refine t_callV F e_X7_readName_38 (s_X7_failE (x_l X) V b M Z T _ _ a 1 tp td n bk nx st 4 vl py sd ln 0 pl t h1.1 hk rfl (by decide) ⟨rd5151, rd5152, rd5153, rd5154, rd5155, rd5156, rd5157, rd5158, rd5159, rd5160, rd5161, rd5162, rd5163⟩ (hB.keep (h1.2 tp (by rw [show kA _ tp = 2 from htp]; decide))) hn7 hsd htp htd hbk (by omega)) cb_X7_fail ml_X7_77 im_X7_fail se_X7_fail (fun _ => o3) h1 hk rfl rfl (rest := []) rfl (Nat.le_of_ble_eq_true rfl) ⟨Nat.le_of_ble_eq_true rfl, Nat.le_of_ble_eq_true rfl⟩ ⟨Nat.le_of_ble_eq_true rfl, Nat.le_of_ble_eq_true rfl⟩ (fun r σ5269 hp => ?_)
    obtain ⟨h5270, ⟨rd5272, rd5273, rd5274, rd5275, rd5276, rd5277, rd5278, rd5279, rd5280, rd5281, rd5282, rd5283, rd5284⟩, rfl⟩ := hp
    have h5271 := HK.trans h1 h5270 (by decide)
    refine m_iconst F (v := (-1)) (by decide) e_X7_readName_41 ?_
    exact m_iret F hQ e_X7_readName_42 (⟨h5271, Or.inr ⟨by decide, ⟨rd5283, rd5284⟩, rfl⟩⟩)
set_option maxRecDepth 20000 in
theorem lp_X2_leaseNamedE_2 {V : VX} {X : MX} {b M Z T N : Nat} {σ : Mem} {a : Nat} {n901 : Nat} {nl : Nat} {nm : Nat → Nat} {nc : Nat} {lc : Nat} {no : Nat}  (F : Fx V X yX2_leaseNamed cX2_leaseNamed 3 (some .int) (rmd 0 0 0)) (hQ : Rt V X 0 0 N (fun r τ => HK V (b, M, Z, T) [0, 1, 2, 3, 4, 5, 6, 7, 8, 9, 10, 11, 12, 13, 14, 15, 16, 17, 18, 19] σ τ ∧ ((fx nm n901 nl < nl ∧ r = some (.int (nI (fx nm n901 nl)))) ∨ (¬ fx nm n901 nl < nl ∧ r = some (.int (-1)))))) (hk : kA b a = 7) (hn901 : n901 ≤ 1073741823) (hBX : BX σ a nl nm nc lc no) (hM : M + 0 ≤ 1000000000)  : ∀ (fuel : Nat) (i : Nat) (τ : Mem), HK V (b, M, Z, T) [0, 1, 2, 3, 4, 5, 6, 7, 8, 9, 10, 11, 12, 13, 14, 15, 16, 17, 18, 19] σ τ → (i ≤ nl ∧ (∀ j, j < i → nm j ≠ n901) ∧ fx nm n901 nl = sc (fun c => c != n901) nm nl i) → nl - i < fuel → Wm V X 3 N τ 0 0 2 [(2, .int (nI i)), (0, .ref a), (1, .int (nI n901))] [] := by
  intro fuel
  induction fuel with
  | zero => intro i τ h1 hi hm; exact absurd hm (Nat.not_lt_zero _)
  | succ fuel ih =>
    intro i τ h1 hi hm
    have hbb5285 := hBX
    obtain ⟨bb5285, bb5286, bb5287, bb5288, bb5289, bb5290, bb5291, bb5292⟩ := hbb5285
    have hbn : ∀ i, i < nl → nm i < 1073741824 ∧ fld τ (a + 1 + 10 + 12 * i) 0 = some (.int (nI (nm i))) := fun i hi => ⟨(bb5288 i hi).1, (fld_eq (h1.2 _ (by rw [show kA _ (a + 1 + 10 + 12 * i) = 15 from kA_lease hk (by omega)]; decide))).trans (bb5288 i hi).2⟩
    refine m_iload_n F rfl e_X2_leaseNamed_2 ?_
    refine m_aload_n F rfl e_X2_leaseNamed_3 ?_
    refine t_getC F e_X2_leaseNamed_4 fl_X2_58 (fun _ => o7) h1 hk ((fld_eq (h1.2 a (by rw [show kA _ a = 7 from hk]; decide))).trans bb5285) ?_
    refine m_icmp_ge F e_X2_leaseNamed_7 (fun q7 => ?_) (fun q7 => ?_)
    · have c7 : i ≥ nl := (nI_leI (a := nl) (b := i) (by omega) (by omega)).mp q7
      refine m_iconst F (v := (-1)) (by decide) e_X2_leaseNamed_31 ?_
      exact m_iret F hQ e_X2_leaseNamed_32 (⟨h1, Or.inr ⟨by rw [hi.2.2, sc_stop (Or.inl (by omega))]; omega, rfl⟩⟩)
    · have c7 : i < nl := by have hh := mt (nI_leI (a := nl) (b := i) (by omega) (by omega)).mpr q7; omega
      refine m_aload_n F rfl e_X2_leaseNamed_10 ?_
      refine t_get F e_X2_leaseNamed_11 fl_X2_11 (fun _ => o7) h1 hk rfl (fun v hv f5293 => ?_)
      obtain rfl : v = .ref (a + 1) := hv
      refine m_iload_n F rfl e_X2_leaseNamed_14 ?_
      refine t_aald8 F (j := i) e_X2_leaseNamed_15 rfl h1 (kA_7 hk (r := 1) (by decide)) (nI_clamp (by omega)) (vp_in_nI (by omega) (by decide)) ?_
      have hnb := (hbn i (by omega)).1
      refine t_getC F e_X2_leaseNamed_16 fl_X2_113 (fun _ => o15) h1 (kA_8 (kA_7 hk (r := 1) (by decide)) (j := i) (by omega)) ((hbn i (by omega)).2) ?_
      refine m_iload_n F rfl e_X2_leaseNamed_19 ?_
      refine m_icmp_ne F e_X2_leaseNamed_20 (fun q20 => ?_) (fun q20 => ?_)
      · have c20 : (nm i) ≠ n901 := by have hh := mt (nI_eq (a := (nm i)) (b := n901) (by omega) (by omega)).mpr q20; omega
        refine m_iinc F (v := nI (i + 1)) (lv' := [(2, .int (nI (i + 1))), (0, .ref a), (1, .int (nI n901))]) e_X2_leaseNamed_25 rfl (nI_add i 1) (by decide) rfl ?_
        refine m_goto F e_X2_leaseNamed_28 ?_
        exact ih (i + 1) _ h1 ⟨by omega, fun j hj => if e : j = i then (by rw [e]; omega) else hi.2.1 j (by omega), by rw [hi.2.2]; exact sc_go (by omega) (by simp; omega)⟩ (by omega)
      · have c20 : (nm i) = n901 := (nI_eq (a := (nm i)) (b := n901) (by omega) (by omega)).mp q20
        refine m_iload_n F rfl e_X2_leaseNamed_23 ?_
        exact m_iret F hQ e_X2_leaseNamed_24 (⟨h1, Or.inl ⟨by rw [hi.2.2, sc_stop (Or.inr (by simp; omega))]; omega, by rw [hi.2.2, sc_stop (Or.inr (by simp; omega))]⟩⟩)
set_option maxRecDepth 20000 in
theorem s_X2_leaseNamedE (l : Launch) (V : VX) (b M Z T N : Nat) (σ : Mem) (a : Nat) (n901 : Nat) (nl : Nat) (nm : Nat → Nat) (nc : Nat) (lc : Nat) (no : Nat) (h0 : HT V (b, M, Z, T) σ) (hk : kA b a = 7) (hn901 : n901 ≤ 1073741823) (hBX : BX σ a nl nm nc lc no) (hM : M + 0 ≤ 1000000000) : Ct l V yX2_leaseNamed cX2_leaseNamed 3 (some .int) 0 0 0 N σ [.ref a, .int (nI n901)] (fun r τ => HK V (b, M, Z, T) [0, 1, 2, 3, 4, 5, 6, 7, 8, 9, 10, 11, 12, 13, 14, 15, 16, 17, 18, 19] σ τ ∧ ((fx nm n901 nl < nl ∧ r = some (.int (nI (fx nm n901 nl)))) ∨ (¬ fx nm n901 nl < nl ∧ r = some (.int (-1))))) := by
  refine Ct.of (by decide) (Nat.le_of_ble_eq_true rfl) [(0, .ref a), (1, .int (nI n901))] rfl (fun X hX F hQ => ?_)
  have h1 : HK V (b, M, Z, T) [0, 1, 2, 3, 4, 5, 6, 7, 8, 9, 10, 11, 12, 13, 14, 15, 16, 17, 18, 19] σ σ := HK.start h0
  have hbb5294 := hBX
  obtain ⟨bb5294, bb5295, bb5296, bb5297, bb5298, bb5299, bb5300, bb5301⟩ := hbb5294
  have hbn := bb5297
  refine m_iconst F (v := 0) (by decide) e_X2_leaseNamed_0 ?_
  refine m_istore_n F (lv' := [(2, .int 0), (0, .ref a), (1, .int (nI n901))]) e_X2_leaseNamed_1 (by decide) rfl ?_
  exact lp_X2_leaseNamedE_2 F hQ hk hn901 hBX hM (nl - 0 + 1) 0 _ h1 ⟨by omega, fun j hj => absurd hj (Nat.not_lt_zero _), rfl⟩ (Nat.lt_succ_self _)
