theorem CT.w {tk vl : Int32} {s v : Nat} (h : CT tk vl s v) (e : s = 2) : v < 1073741824 := by
  rcases h with h | h | h | h | h | h
  · omega
  · omega
  · exact h.2.2.2.1
  · omega
  · omega
  · omega
set_option maxRecDepth 20000 in
theorem s_X7_readNewNameE (l : Launch) (V : VX) (G : GH) (b M Z T N : Nat) (σ : Mem) (a : Nat) (tp : Nat) (td : Nat) (n : Nat) (bk : Nat) (nx : Nat) (st : Nat) (tk : Int32) (vl : Int32) (py : Nat) (sd : Nat) (ln : Nat) (ft : Int32) (pl : Int32) (t : Nat → Nat) (s9 : Nat) (v9 : Nat) (nl : Nat) (nm : Nat → Nat) (nc : Nat) (lc : Nat) (no : Nat) (h0 : HT V G (b, M, Z, T) σ) (hk : kA b a = 3) (hp0 : ft = 0) (hp1 : CT tk vl s9 v9) (hp2 : nx ≤ n) (hp3 : st ≤ n) (hp4 : BX σ bk nl nm nc lc no) (hR : RD σ a tp td n bk nx st tk vl py sd ln ft pl) (hB : BY V σ tp n t) (hn7 : n ≤ 700) (hsd : sd ≤ 1) (htp : kA b tp = 2) (htd : kA b td = 4) (hbk : kA b bk = 7) (hgb : ¬ G.gd (blk (bk - b)) = 1) (hM : M + 0 ≤ 1000000000) : Ct l V yX7_readNewName cX7_readNewName 3 (some .int) 3 0 0 N σ [.ref a] (fun r τ => HK V G (b, M, Z, T) [0, 1, 2, 4, 5, 6, 7, 8, 9, 10, 11, 12, 13, 14, 15, 16, 17, 18, 19] σ τ ∧ ((s9 = 2 ∧ ¬ fx nm v9 nl < nl ∧ (∃ tk2 vl2, CT tk2 vl2 (tok t n nx).2.1 (tok t n nx).2.2.1 ∧ RD τ a tp td n bk (tok t n nx).2.2.2 (tok t n nx).1 tk2 vl2 py sd ln 0 pl) ∧ r = some (.int (nI v9))) ∨ (s9 ≠ 2 ∧ FT τ a 1 st ∧ ∃ x : Int32, r = some (.int x)) ∨ (s9 = 2 ∧ fx nm v9 nl < nl ∧ FT τ a 3 st ∧ ∃ x : Int32, r = some (.int x)))) := by
  refine Ct.of (by decide) (Nat.le_of_ble_eq_true rfl) [(0, .ref a)] rfl (fun X hX F hQ => ?_)
  have h1 : HK V G (b, M, Z, T) [0, 1, 2, 4, 5, 6, 7, 8, 9, 10, 11, 12, 13, 14, 15, 16, 17, 18, 19] σ σ := HK.start h0
  have hrd5197 := hR
  obtain ⟨rd5197, rd5198, rd5199, rd5200, rd5201, rd5202, rd5203, rd5204, rd5205, rd5206, rd5207, rd5208, rd5209⟩ := hrd5197
  subst hp0
  have hl4 := hp4.2.2.2.2.2.1
  refine m_aload_n F rfl e_X7_readNewName_0 ?_
  refine t_getC F e_X7_readNewName_1 fl_X7_188 (fun _ => o3) h1 hk (rd5202) ?_
  refine m_istore_n F (lv' := [(1, .int (nI st)), (0, .ref a)]) e_X7_readNewName_4 (by decide) rfl ?_
  refine m_aload_n F rfl e_X7_readNewName_5 ?_
  refine t_callV F e_X7_readNewName_6 (s_X7_readNameE (x_l X) V G b M Z T _ _ a  tp td n bk nx st tk vl py sd ln 0 pl t s9 v9 h1.1 hk rfl hp1 (by omega) (by omega) ⟨rd5197, rd5198, rd5199, rd5200, rd5201, rd5202, rd5203, rd5204, rd5205, rd5206, rd5207, rd5208, rd5209⟩ (hB.keep (h1.2 tp (by rw [show kA _ tp = 2 from htp]; decide))) hn7 hsd htp htd hbk hgb (by omega)) cb_X7_readName ml_X7_191 im_X7_readName se_X7_readName (fun _ => o3) h1 hk rfl rfl (rest := []) rfl (Nat.le_of_ble_eq_true rfl) ⟨Nat.le_of_ble_eq_true rfl, Nat.le_of_ble_eq_true rfl⟩ ⟨Nat.le_of_ble_eq_true rfl, Nat.le_of_ble_eq_true rfl⟩ (fun r σ5210 hp => ?_)
  obtain ⟨h5211, hp⟩ := hp
  have h5212 := HK.trans h1 h5211 (by decide)
  have bx5213 := hp4.hk hbk h5211 (by decide) (by decide) (by decide)
  rcases hp with ⟨e5214, ⟨tk5215, vl5216, ct5217, rd5220, rd5221, rd5222, rd5223, rd5224, rd5225, rd5226, rd5227, rd5228, rd5229, rd5230, rd5231, rd5232⟩, rfl⟩ | ⟨e5214, ⟨rd5218, rd5219⟩, rfl⟩
  · have hv9 := hp1.w e5214
    refine m_istore_n F (lv' := [(2, .int (nI v9)), (1, .int (nI st)), (0, .ref a)]) e_X7_readNewName_9 (by decide) rfl ?_
    refine m_aload_n F rfl e_X7_readNewName_10 ?_
    refine t_getC F e_X7_readNewName_11 fl_X7_23 (fun _ => o3) h5212 hk (rd5222) ?_
    refine m_iload_n F rfl e_X7_readNewName_14 ?_
    refine t_callV F e_X7_readNewName_15 (s_X2_leaseNamedE (x_l X) V G b M Z T _ _ bk v9 nl nm nc lc no h5212.1 hbk (by omega) bx5213 (by omega)) cb_X2_leaseNamed ml_X7_194 im_X2_leaseNamed se_X2_leaseNamed (fun _ => o7) h5212 hbk rfl rfl (rest := []) rfl (Nat.le_of_ble_eq_true rfl) ⟨Nat.le_of_ble_eq_true rfl, Nat.le_of_ble_eq_true rfl⟩ ⟨Nat.le_of_ble_eq_true rfl, Nat.le_of_ble_eq_true rfl⟩ (fun r σ5233 hp => ?_)
    obtain ⟨h5234, hp⟩ := hp
    have h5235 := HK.trans h5212 h5234 (by decide)
    have bx5237 := bx5213.hk hbk h5234 (by decide) (by decide) (by decide)
    rcases hp with ⟨e5236, rfl⟩ | ⟨e5236, rfl⟩
    · refine m_iconst F (v := (-1)) (by decide) e_X7_readNewName_18 ?_
      refine m_icmp_eq F e_X7_readNewName_19 (fun q19 => ?_) (fun q19 => ?_)
      · exact absurd q19 (nI_nm1 (by omega))
      · refine m_aload_n F rfl e_X7_readNewName_22 ?_
        refine m_iconst F (v := 3) (by decide) e_X7_readNewName_23 ?_
        refine m_iload_n F rfl e_X7_readNewName_24 ?_
        refine t_callV F e_X7_readNewName_25 (s_X7_failAtE (x_l X) V G b M Z T _ _ a 3 (nI st) tp td n bk ((tok t n nx).2.2.2) ((tok t n nx).1) tk5215 vl5216 py sd ln 0 pl t h5235.1 hk rfl (by decide) ⟨(fld_eq (h5234.2 a (by rw [show kA _ a = 3 from hk]; decide))).trans rd5220, (fld_eq (h5234.2 a (by rw [show kA _ a = 3 from hk]; decide))).trans rd5221, (fld_eq (h5234.2 a (by rw [show kA _ a = 3 from hk]; decide))).trans rd5222, (fld_eq (h5234.2 a (by rw [show kA _ a = 3 from hk]; decide))).trans rd5223, (fld_eq (h5234.2 a (by rw [show kA _ a = 3 from hk]; decide))).trans rd5224, (fld_eq (h5234.2 a (by rw [show kA _ a = 3 from hk]; decide))).trans rd5225, (fld_eq (h5234.2 a (by rw [show kA _ a = 3 from hk]; decide))).trans rd5226, (fld_eq (h5234.2 a (by rw [show kA _ a = 3 from hk]; decide))).trans rd5227, (fld_eq (h5234.2 a (by rw [show kA _ a = 3 from hk]; decide))).trans rd5228, (fld_eq (h5234.2 a (by rw [show kA _ a = 3 from hk]; decide))).trans rd5229, (fld_eq (h5234.2 a (by rw [show kA _ a = 3 from hk]; decide))).trans rd5230, (fld_eq (h5234.2 a (by rw [show kA _ a = 3 from hk]; decide))).trans rd5231, (fld_eq (h5234.2 a (by rw [show kA _ a = 3 from hk]; decide))).trans rd5232⟩ (hB.keep (h5235.2 tp (by rw [show kA _ tp = 2 from htp]; decide))) hn7 hsd htp htd hbk hgb (by omega)) cb_X7_failAt ml_X7_197 im_X7_failAt se_X7_failAt (fun _ => o3) h5235 hk rfl rfl (rest := []) rfl (Nat.le_of_ble_eq_true rfl) ⟨Nat.le_of_ble_eq_true rfl, Nat.le_of_ble_eq_true rfl⟩ ⟨Nat.le_of_ble_eq_true rfl, Nat.le_of_ble_eq_true rfl⟩ (fun r σ5238 hp => ?_)
        obtain ⟨h5239, ⟨rd5241, rd5242, rd5243, rd5244, rd5245, rd5246, rd5247, rd5248, rd5249, rd5250, rd5251, rd5252, rd5253⟩, rfl⟩ := hp
        have h5240 := HK.trans h5235 h5239 (by decide)
        have bx5254 := bx5237.hk hbk h5239 (by decide) (by decide) (by decide)
        refine m_iload_n F rfl e_X7_readNewName_28 ?_
        exact m_iret F hQ e_X7_readNewName_29 (⟨h5240, Or.inr (Or.inr ⟨e5214, e5236, ⟨rd5252, rd5253⟩, _, rfl⟩)⟩)
    · refine m_iconst F (v := (-1)) (by decide) e_X7_readNewName_18 ?_
      refine m_icmp_eq F e_X7_readNewName_19 (fun _ => ?_) (fun q => absurd (by decide) q)
      refine m_iload_n F rfl e_X7_readNewName_28 ?_
      exact m_iret F hQ e_X7_readNewName_29 (⟨h5235, Or.inl ⟨e5214, e5236, ⟨tk5215, vl5216, ct5217, ⟨(fld_eq (h5234.2 a (by rw [show kA _ a = 3 from hk]; decide))).trans rd5220, (fld_eq (h5234.2 a (by rw [show kA _ a = 3 from hk]; decide))).trans rd5221, (fld_eq (h5234.2 a (by rw [show kA _ a = 3 from hk]; decide))).trans rd5222, (fld_eq (h5234.2 a (by rw [show kA _ a = 3 from hk]; decide))).trans rd5223, (fld_eq (h5234.2 a (by rw [show kA _ a = 3 from hk]; decide))).trans rd5224, (fld_eq (h5234.2 a (by rw [show kA _ a = 3 from hk]; decide))).trans rd5225, (fld_eq (h5234.2 a (by rw [show kA _ a = 3 from hk]; decide))).trans rd5226, (fld_eq (h5234.2 a (by rw [show kA _ a = 3 from hk]; decide))).trans rd5227, (fld_eq (h5234.2 a (by rw [show kA _ a = 3 from hk]; decide))).trans rd5228, (fld_eq (h5234.2 a (by rw [show kA _ a = 3 from hk]; decide))).trans rd5229, (fld_eq (h5234.2 a (by rw [show kA _ a = 3 from hk]; decide))).trans rd5230, (fld_eq (h5234.2 a (by rw [show kA _ a = 3 from hk]; decide))).trans rd5231, (fld_eq (h5234.2 a (by rw [show kA _ a = 3 from hk]; decide))).trans rd5232⟩⟩, rfl⟩⟩)
  · refine m_istore_n F (lv' := [(2, .int (-1)), (1, .int (nI st)), (0, .ref a)]) e_X7_readNewName_9 (by decide) rfl ?_
    refine m_aload_n F rfl e_X7_readNewName_10 ?_
    refine t_get F e_X7_readNewName_11 fl_X7_23 (fun _ => o3) h5212 hk rfl (fun v hv f5255 => ?_)
    obtain ⟨r5256, k5257, rfl⟩ := hv
    refine m_iload_n F rfl e_X7_readNewName_14 ?_
    refine t_callV F e_X7_readNewName_15 (s_X2_leaseNamed (x_l X) V G b M Z T _ _ r5256 (-1) h5212.1 k5257  (by omega)) cb_X2_leaseNamed ml_X7_194 im_X2_leaseNamed se_X2_leaseNamed (fun _ => o7) h5212 k5257 rfl rfl (rest := []) rfl (Nat.le_of_ble_eq_true rfl) ⟨Nat.le_of_ble_eq_true rfl, Nat.le_of_ble_eq_true rfl⟩ ⟨Nat.le_of_ble_eq_true rfl, Nat.le_of_ble_eq_true rfl⟩ (fun r σ5258 hp => ?_)
    obtain ⟨h5260, c5261⟩ := hp
    have h5259 := HK.trans h5212 h5260 (by decide)
    rcases c5261 with ⟨n5262, hn5262, rfl⟩ | rfl
    · refine m_iconst F (v := (-1)) (by decide) e_X7_readNewName_18 ?_
      refine m_icmp_eq F e_X7_readNewName_19 (fun q19 => ?_) (fun q19 => ?_)
      · exact absurd q19 (nI_nm1 (by omega))
      · refine m_aload_n F rfl e_X7_readNewName_22 ?_
        refine m_iconst F (v := 3) (by decide) e_X7_readNewName_23 ?_
        refine m_iload_n F rfl e_X7_readNewName_24 ?_
        refine t_callV F e_X7_readNewName_25 (s_X7_failAtG (x_l X) V G b M Z T _ _ a 3 (nI st) 1 (nI st) h5259.1 hk  ((fld_eq (h5260.2 a (by rw [show kA _ a = 3 from hk]; decide))).trans rd5218) ((fld_eq (h5260.2 a (by rw [show kA _ a = 3 from hk]; decide))).trans rd5219) (by decide) (by omega)) cb_X7_failAt ml_X7_197 im_X7_failAt se_X7_failAt (fun _ => o3) h5259 hk rfl rfl (rest := []) rfl (Nat.le_of_ble_eq_true rfl) ⟨Nat.le_of_ble_eq_true rfl, Nat.le_of_ble_eq_true rfl⟩ ⟨Nat.le_of_ble_eq_true rfl, Nat.le_of_ble_eq_true rfl⟩ (fun r σ5263 hp => ?_)
        obtain ⟨h5264, rd5266, rd5267, rfl⟩ := hp
        have h5265 := HK.trans h5259 h5264 (by decide)
        refine m_iload_n F rfl e_X7_readNewName_28 ?_
        exact m_iret F hQ e_X7_readNewName_29 (⟨h5265, Or.inr (Or.inl ⟨e5214, ⟨rd5266, rd5267⟩, _, rfl⟩)⟩)
    · refine m_iconst F (v := (-1)) (by decide) e_X7_readNewName_18 ?_
      refine m_icmp_eq F e_X7_readNewName_19 (fun _ => ?_) (fun q => absurd (by decide) q)
      refine m_iload_n F rfl e_X7_readNewName_28 ?_
      exact m_iret F hQ e_X7_readNewName_29 (⟨h5259, Or.inr (Or.inl ⟨e5214, ⟨(fld_eq (h5260.2 a (by rw [show kA _ a = 3 from hk]; decide))).trans rd5218, (fld_eq (h5260.2 a (by rw [show kA _ a = 3 from hk]; decide))).trans rd5219⟩, _, rfl⟩)⟩)
set_option maxRecDepth 20000 in
theorem s_X7_readToldNameE (l : Launch) (V : VX) (G : GH) (b M Z T N : Nat) (σ : Mem) (a : Nat) (tp : Nat) (td : Nat) (n : Nat) (bk : Nat) (nx : Nat) (st : Nat) (tk : Int32) (vl : Int32) (py : Nat) (sd : Nat) (ln : Nat) (ft : Int32) (pl : Int32) (t : Nat → Nat) (s9 : Nat) (v9 : Nat) (nl : Nat) (nm : Nat → Nat) (nc : Nat) (lc : Nat) (no : Nat) (h0 : HT V G (b, M, Z, T) σ) (hk : kA b a = 3) (hp0 : ft = 0) (hp1 : CT tk vl s9 v9) (hp2 : nx ≤ n) (hp3 : st ≤ n) (hp4 : BX σ bk nl nm nc lc no) (hR : RD σ a tp td n bk nx st tk vl py sd ln ft pl) (hB : BY V σ tp n t) (hn7 : n ≤ 700) (hsd : sd ≤ 1) (htp : kA b tp = 2) (htd : kA b td = 4) (hbk : kA b bk = 7) (hgb : ¬ G.gd (blk (bk - b)) = 1) (hM : M + 0 ≤ 1000000000) : Ct l V yX7_readToldName cX7_readToldName 3 (some .int) 3 0 0 N σ [.ref a] (fun r τ => HK V G (b, M, Z, T) [0, 1, 2, 4, 5, 6, 7, 8, 9, 10, 11, 12, 13, 14, 15, 16, 17, 18, 19] σ τ ∧ ((s9 = 2 ∧ fx nm v9 nl < nl ∧ (∃ tk2 vl2, CT tk2 vl2 (tok t n nx).2.1 (tok t n nx).2.2.1 ∧ RD τ a tp td n bk (tok t n nx).2.2.2 (tok t n nx).1 tk2 vl2 py sd ln 0 pl) ∧ r = some (.int (nI (fx nm v9 nl)))) ∨ (s9 ≠ 2 ∧ FT τ a 1 st ∧ ∃ x : Int32, r = some (.int x)) ∨ (s9 = 2 ∧ ¬ fx nm v9 nl < nl ∧ FT τ a 4 st ∧ ∃ x : Int32, r = some (.int x)))) := by
  refine Ct.of (by decide) (Nat.le_of_ble_eq_true rfl) [(0, .ref a)] rfl (fun X hX F hQ => ?_)
  have h1 : HK V G (b, M, Z, T) [0, 1, 2, 4, 5, 6, 7, 8, 9, 10, 11, 12, 13, 14, 15, 16, 17, 18, 19] σ σ := HK.start h0
  have hrd5269 := hR
  obtain ⟨rd5269, rd5270, rd5271, rd5272, rd5273, rd5274, rd5275, rd5276, rd5277, rd5278, rd5279, rd5280, rd5281⟩ := hrd5269
  subst hp0
  have hl4 := hp4.2.2.2.2.2.1
  refine m_aload_n F rfl e_X7_readToldName_0 ?_
  refine t_getC F e_X7_readToldName_1 fl_X7_188 (fun _ => o3) h1 hk (rd5274) ?_
  refine m_istore_n F (lv' := [(1, .int (nI st)), (0, .ref a)]) e_X7_readToldName_4 (by decide) rfl ?_
  refine m_aload_n F rfl e_X7_readToldName_5 ?_
  refine t_getC F e_X7_readToldName_6 fl_X7_23 (fun _ => o3) h1 hk (rd5271) ?_
  refine m_aload_n F rfl e_X7_readToldName_9 ?_
  refine t_callV F e_X7_readToldName_10 (s_X7_readNameE (x_l X) V G b M Z T _ _ a  tp td n bk nx st tk vl py sd ln 0 pl t s9 v9 h1.1 hk rfl hp1 (by omega) (by omega) ⟨rd5269, rd5270, rd5271, rd5272, rd5273, rd5274, rd5275, rd5276, rd5277, rd5278, rd5279, rd5280, rd5281⟩ (hB.keep (h1.2 tp (by rw [show kA _ tp = 2 from htp]; decide))) hn7 hsd htp htd hbk hgb (by omega)) cb_X7_readName ml_X7_191 im_X7_readName se_X7_readName (fun _ => o3) h1 hk rfl rfl (rest := [.ref bk]) rfl (Nat.le_of_ble_eq_true rfl) ⟨Nat.le_of_ble_eq_true rfl, Nat.le_of_ble_eq_true rfl⟩ ⟨Nat.le_of_ble_eq_true rfl, Nat.le_of_ble_eq_true rfl⟩ (fun r σ5282 hp => ?_)
  obtain ⟨h5283, hp⟩ := hp
  have h5284 := HK.trans h1 h5283 (by decide)
  have bx5285 := hp4.hk hbk h5283 (by decide) (by decide) (by decide)
  rcases hp with ⟨e5286, ⟨tk5287, vl5288, ct5289, rd5292, rd5293, rd5294, rd5295, rd5296, rd5297, rd5298, rd5299, rd5300, rd5301, rd5302, rd5303, rd5304⟩, rfl⟩ | ⟨e5286, ⟨rd5290, rd5291⟩, rfl⟩
  · have hv9 := hp1.w e5286
    refine t_callV F e_X7_readToldName_13 (s_X2_leaseNamedE (x_l X) V G b M Z T _ _ bk v9 nl nm nc lc no h5284.1 hbk (by omega) bx5285 (by omega)) cb_X2_leaseNamed ml_X7_194 im_X2_leaseNamed se_X2_leaseNamed (fun _ => o7) h5284 hbk rfl rfl (rest := []) rfl (Nat.le_of_ble_eq_true rfl) ⟨Nat.le_of_ble_eq_true rfl, Nat.le_of_ble_eq_true rfl⟩ ⟨Nat.le_of_ble_eq_true rfl, Nat.le_of_ble_eq_true rfl⟩ (fun r σ5305 hp => ?_)
    obtain ⟨h5306, hp⟩ := hp
    have h5307 := HK.trans h5284 h5306 (by decide)
    have bx5309 := bx5285.hk hbk h5306 (by decide) (by decide) (by decide)
    rcases hp with ⟨e5308, rfl⟩ | ⟨e5308, rfl⟩
    · refine m_istore_n F (lv' := [(2, .int (nI (fx nm v9 nl))), (1, .int (nI st)), (0, .ref a)]) e_X7_readToldName_16 (by decide) rfl ?_
      refine m_iload_n F rfl e_X7_readToldName_17 ?_
      refine m_iconst F (v := (-1)) (by decide) e_X7_readToldName_18 ?_
      refine m_icmp_ne F e_X7_readToldName_19 (fun q19 => ?_) (fun q19 => ?_)
      · refine m_iload_n F rfl e_X7_readToldName_28 ?_
        exact m_iret F hQ e_X7_readToldName_29 (⟨h5307, Or.inl ⟨e5286, e5308, ⟨tk5287, vl5288, ct5289, ⟨(fld_eq (h5306.2 a (by rw [show kA _ a = 3 from hk]; decide))).trans rd5292, (fld_eq (h5306.2 a (by rw [show kA _ a = 3 from hk]; decide))).trans rd5293, (fld_eq (h5306.2 a (by rw [show kA _ a = 3 from hk]; decide))).trans rd5294, (fld_eq (h5306.2 a (by rw [show kA _ a = 3 from hk]; decide))).trans rd5295, (fld_eq (h5306.2 a (by rw [show kA _ a = 3 from hk]; decide))).trans rd5296, (fld_eq (h5306.2 a (by rw [show kA _ a = 3 from hk]; decide))).trans rd5297, (fld_eq (h5306.2 a (by rw [show kA _ a = 3 from hk]; decide))).trans rd5298, (fld_eq (h5306.2 a (by rw [show kA _ a = 3 from hk]; decide))).trans rd5299, (fld_eq (h5306.2 a (by rw [show kA _ a = 3 from hk]; decide))).trans rd5300, (fld_eq (h5306.2 a (by rw [show kA _ a = 3 from hk]; decide))).trans rd5301, (fld_eq (h5306.2 a (by rw [show kA _ a = 3 from hk]; decide))).trans rd5302, (fld_eq (h5306.2 a (by rw [show kA _ a = 3 from hk]; decide))).trans rd5303, (fld_eq (h5306.2 a (by rw [show kA _ a = 3 from hk]; decide))).trans rd5304⟩⟩, rfl⟩⟩)
      · exact absurd q19 (nI_nm1 (by omega))
    · refine m_istore_n F (lv' := [(2, .int (-1)), (1, .int (nI st)), (0, .ref a)]) e_X7_readToldName_16 (by decide) rfl ?_
      refine m_iload_n F rfl e_X7_readToldName_17 ?_
      refine m_iconst F (v := (-1)) (by decide) e_X7_readToldName_18 ?_
      refine m_icmp_ne F e_X7_readToldName_19 (fun q => absurd (by decide) q) (fun _ => ?_)
      refine m_aload_n F rfl e_X7_readToldName_22 ?_
      refine m_iconst F (v := 4) (by decide) e_X7_readToldName_23 ?_
      refine m_iload_n F rfl e_X7_readToldName_24 ?_
      refine t_callV F e_X7_readToldName_25 (s_X7_failAtE (x_l X) V G b M Z T _ _ a 4 (nI st) tp td n bk ((tok t n nx).2.2.2) ((tok t n nx).1) tk5287 vl5288 py sd ln 0 pl t h5307.1 hk rfl (by decide) ⟨(fld_eq (h5306.2 a (by rw [show kA _ a = 3 from hk]; decide))).trans rd5292, (fld_eq (h5306.2 a (by rw [show kA _ a = 3 from hk]; decide))).trans rd5293, (fld_eq (h5306.2 a (by rw [show kA _ a = 3 from hk]; decide))).trans rd5294, (fld_eq (h5306.2 a (by rw [show kA _ a = 3 from hk]; decide))).trans rd5295, (fld_eq (h5306.2 a (by rw [show kA _ a = 3 from hk]; decide))).trans rd5296, (fld_eq (h5306.2 a (by rw [show kA _ a = 3 from hk]; decide))).trans rd5297, (fld_eq (h5306.2 a (by rw [show kA _ a = 3 from hk]; decide))).trans rd5298, (fld_eq (h5306.2 a (by rw [show kA _ a = 3 from hk]; decide))).trans rd5299, (fld_eq (h5306.2 a (by rw [show kA _ a = 3 from hk]; decide))).trans rd5300, (fld_eq (h5306.2 a (by rw [show kA _ a = 3 from hk]; decide))).trans rd5301, (fld_eq (h5306.2 a (by rw [show kA _ a = 3 from hk]; decide))).trans rd5302, (fld_eq (h5306.2 a (by rw [show kA _ a = 3 from hk]; decide))).trans rd5303, (fld_eq (h5306.2 a (by rw [show kA _ a = 3 from hk]; decide))).trans rd5304⟩ (hB.keep (h5307.2 tp (by rw [show kA _ tp = 2 from htp]; decide))) hn7 hsd htp htd hbk hgb (by omega)) cb_X7_failAt ml_X7_197 im_X7_failAt se_X7_failAt (fun _ => o3) h5307 hk rfl rfl (rest := []) rfl (Nat.le_of_ble_eq_true rfl) ⟨Nat.le_of_ble_eq_true rfl, Nat.le_of_ble_eq_true rfl⟩ ⟨Nat.le_of_ble_eq_true rfl, Nat.le_of_ble_eq_true rfl⟩ (fun r σ5310 hp => ?_)
      obtain ⟨h5311, ⟨rd5313, rd5314, rd5315, rd5316, rd5317, rd5318, rd5319, rd5320, rd5321, rd5322, rd5323, rd5324, rd5325⟩, rfl⟩ := hp
      have h5312 := HK.trans h5307 h5311 (by decide)
      have bx5326 := bx5309.hk hbk h5311 (by decide) (by decide) (by decide)
      refine m_iload_n F rfl e_X7_readToldName_28 ?_
      exact m_iret F hQ e_X7_readToldName_29 (⟨h5312, Or.inr (Or.inr ⟨e5286, e5308, ⟨rd5324, rd5325⟩, _, rfl⟩)⟩)
  · refine t_callV F e_X7_readToldName_13 (s_X2_leaseNamed (x_l X) V G b M Z T _ _ bk (-1) h5284.1 hbk  (by omega)) cb_X2_leaseNamed ml_X7_194 im_X2_leaseNamed se_X2_leaseNamed (fun _ => o7) h5284 hbk rfl rfl (rest := []) rfl (Nat.le_of_ble_eq_true rfl) ⟨Nat.le_of_ble_eq_true rfl, Nat.le_of_ble_eq_true rfl⟩ ⟨Nat.le_of_ble_eq_true rfl, Nat.le_of_ble_eq_true rfl⟩ (fun r σ5327 hp => ?_)
    obtain ⟨h5329, c5330⟩ := hp
    have h5328 := HK.trans h5284 h5329 (by decide)
    rcases c5330 with ⟨n5331, hn5331, rfl⟩ | rfl
    · refine m_istore_n F (lv' := [(2, .int (nI n5331)), (1, .int (nI st)), (0, .ref a)]) e_X7_readToldName_16 (by decide) rfl ?_
      refine m_iload_n F rfl e_X7_readToldName_17 ?_
      refine m_iconst F (v := (-1)) (by decide) e_X7_readToldName_18 ?_
      refine m_icmp_ne F e_X7_readToldName_19 (fun q19 => ?_) (fun q19 => ?_)
      · refine m_iload_n F rfl e_X7_readToldName_28 ?_
        exact m_iret F hQ e_X7_readToldName_29 (⟨h5328, Or.inr (Or.inl ⟨e5286, ⟨(fld_eq (h5329.2 a (by rw [show kA _ a = 3 from hk]; decide))).trans rd5290, (fld_eq (h5329.2 a (by rw [show kA _ a = 3 from hk]; decide))).trans rd5291⟩, _, rfl⟩)⟩)
      · exact absurd q19 (nI_nm1 (by omega))
    · refine m_istore_n F (lv' := [(2, .int (-1)), (1, .int (nI st)), (0, .ref a)]) e_X7_readToldName_16 (by decide) rfl ?_
      refine m_iload_n F rfl e_X7_readToldName_17 ?_
      refine m_iconst F (v := (-1)) (by decide) e_X7_readToldName_18 ?_
      refine m_icmp_ne F e_X7_readToldName_19 (fun q => absurd (by decide) q) (fun _ => ?_)
      refine m_aload_n F rfl e_X7_readToldName_22 ?_
      refine m_iconst F (v := 4) (by decide) e_X7_readToldName_23 ?_
      refine m_iload_n F rfl e_X7_readToldName_24 ?_
      refine t_callV F e_X7_readToldName_25 (s_X7_failAtG (x_l X) V G b M Z T _ _ a 4 (nI st) 1 (nI st) h5328.1 hk  ((fld_eq (h5329.2 a (by rw [show kA _ a = 3 from hk]; decide))).trans rd5290) ((fld_eq (h5329.2 a (by rw [show kA _ a = 3 from hk]; decide))).trans rd5291) (by decide) (by omega)) cb_X7_failAt ml_X7_197 im_X7_failAt se_X7_failAt (fun _ => o3) h5328 hk rfl rfl (rest := []) rfl (Nat.le_of_ble_eq_true rfl) ⟨Nat.le_of_ble_eq_true rfl, Nat.le_of_ble_eq_true rfl⟩ ⟨Nat.le_of_ble_eq_true rfl, Nat.le_of_ble_eq_true rfl⟩ (fun r σ5332 hp => ?_)
      obtain ⟨h5333, rd5335, rd5336, rfl⟩ := hp
      have h5334 := HK.trans h5328 h5333 (by decide)
      refine m_iload_n F rfl e_X7_readToldName_28 ?_
      exact m_iret F hQ e_X7_readToldName_29 (⟨h5334, Or.inr (Or.inl ⟨e5286, ⟨rd5335, rd5336⟩, _, rfl⟩)⟩)
