theorem CT.w {tk vl : Int32} {s v : Nat} (h : CT tk vl s v) (e : s = 2) : v < 1073741824 := by
  rcases h with h | h | h | h | h | h
  · omega
  · omega
  · exact h.2.2.2.1
  · omega
  · omega
  · omega
set_option maxRecDepth 20000 in
theorem s_X7_readNewNameE (l : Launch) (V : VX) (b M Z T N : Nat) (σ : Mem) (a : Nat) (tp : Nat) (td : Nat) (n : Nat) (bk : Nat) (nx : Nat) (st : Nat) (tk : Int32) (vl : Int32) (py : Nat) (sd : Nat) (ln : Nat) (ft : Int32) (pl : Int32) (t : Nat → Nat) (s9 : Nat) (v9 : Nat) (nl : Nat) (nm : Nat → Nat) (nc : Nat) (lc : Nat) (no : Nat) (h0 : HT V (b, M, Z, T) σ) (hk : kA b a = 3) (hp0 : ft = 0) (hp1 : CT tk vl s9 v9) (hp2 : nx ≤ n) (hp3 : st ≤ n) (hp4 : BX σ bk nl nm nc lc no) (hR : RD σ a tp td n bk nx st tk vl py sd ln ft pl) (hB : BY V σ tp n t) (hn7 : n ≤ 700) (hsd : sd ≤ 1) (htp : kA b tp = 2) (htd : kA b td = 4) (hbk : kA b bk = 7) (hM : M + 0 ≤ 1000000000) : Ct l V yX7_readNewName cX7_readNewName 3 (some .int) 3 0 0 N σ [.ref a] (fun r τ => HK V (b, M, Z, T) [0, 1, 2, 4, 5, 6, 7, 8, 9, 10, 11, 12, 13, 14, 15, 16, 17, 18, 19] σ τ ∧ ((s9 = 2 ∧ ¬ fx nm v9 nl < nl ∧ (∃ tk2 vl2, CT tk2 vl2 (tok t n nx).2.1 (tok t n nx).2.2.1 ∧ RD τ a tp td n bk (tok t n nx).2.2.2 (tok t n nx).1 tk2 vl2 py sd ln 0 pl) ∧ r = some (.int (nI v9))) ∨ (s9 ≠ 2 ∧ FT τ a 1 st ∧ ∃ x : Int32, r = some (.int x)) ∨ (s9 = 2 ∧ fx nm v9 nl < nl ∧ FT τ a 3 st ∧ ∃ x : Int32, r = some (.int x)))) := by
  refine Ct.of (by decide) (Nat.le_of_ble_eq_true rfl) [(0, .ref a)] rfl (fun X hX F hQ => ?_)
  have h1 : HK V (b, M, Z, T) [0, 1, 2, 4, 5, 6, 7, 8, 9, 10, 11, 12, 13, 14, 15, 16, 17, 18, 19] σ σ := HK.start h0
  have hrd5302 := hR
  obtain ⟨rd5302, rd5303, rd5304, rd5305, rd5306, rd5307, rd5308, rd5309, rd5310, rd5311, rd5312, rd5313, rd5314⟩ := hrd5302
  subst hp0
  have hl4 := hp4.2.2.2.2.2.1
  refine m_aload_n F rfl e_X7_readNewName_0 ?_
  refine t_getC F e_X7_readNewName_1 fl_X7_188 (fun _ => o3) h1 hk (rd5307) ?_
  refine m_istore_n F (lv' := [(1, .int (nI st)), (0, .ref a)]) e_X7_readNewName_4 (by decide) rfl ?_
  refine m_aload_n F rfl e_X7_readNewName_5 ?_
  refine t_callV F e_X7_readNewName_6 (s_X7_readNameE (x_l X) V b M Z T _ _ a  tp td n bk nx st tk vl py sd ln 0 pl t s9 v9 h1.1 hk rfl hp1 (by omega) (by omega) ⟨rd5302, rd5303, rd5304, rd5305, rd5306, rd5307, rd5308, rd5309, rd5310, rd5311, rd5312, rd5313, rd5314⟩ (hB.keep (h1.2 tp (by rw [show kA _ tp = 2 from htp]; decide))) hn7 hsd htp htd hbk (by omega)) cb_X7_readName ml_X7_191 im_X7_readName se_X7_readName (fun _ => o3) h1 hk rfl rfl (rest := []) rfl (Nat.le_of_ble_eq_true rfl) ⟨Nat.le_of_ble_eq_true rfl, Nat.le_of_ble_eq_true rfl⟩ ⟨Nat.le_of_ble_eq_true rfl, Nat.le_of_ble_eq_true rfl⟩ (fun r σ5315 hp => ?_)
  obtain ⟨h5316, hp⟩ := hp
  have h5317 := HK.trans h1 h5316 (by decide)
  have bx5318 := hp4.hk hbk h5316 (by decide) (by decide) (by decide)
  rcases hp with ⟨e5319, ⟨tk5320, vl5321, ct5322, rd5325, rd5326, rd5327, rd5328, rd5329, rd5330, rd5331, rd5332, rd5333, rd5334, rd5335, rd5336, rd5337⟩, rfl⟩ | ⟨e5319, ⟨rd5323, rd5324⟩, rfl⟩
  · have hv9 := hp1.w e5319
    refine m_istore_n F (lv' := [(2, .int (nI v9)), (1, .int (nI st)), (0, .ref a)]) e_X7_readNewName_9 (by decide) rfl ?_
    refine m_aload_n F rfl e_X7_readNewName_10 ?_
    refine t_getC F e_X7_readNewName_11 fl_X7_23 (fun _ => o3) h5317 hk (rd5327) ?_
    refine m_iload_n F rfl e_X7_readNewName_14 ?_
    refine t_callV F e_X7_readNewName_15 (s_X2_leaseNamedE (x_l X) V b M Z T _ _ bk v9 nl nm nc lc no h5317.1 hbk (by omega) bx5318 (by omega)) cb_X2_leaseNamed ml_X7_194 im_X2_leaseNamed se_X2_leaseNamed (fun _ => o7) h5317 hbk rfl rfl (rest := []) rfl (Nat.le_of_ble_eq_true rfl) ⟨Nat.le_of_ble_eq_true rfl, Nat.le_of_ble_eq_true rfl⟩ ⟨Nat.le_of_ble_eq_true rfl, Nat.le_of_ble_eq_true rfl⟩ (fun r σ5338 hp => ?_)
    obtain ⟨h5339, hp⟩ := hp
    have h5340 := HK.trans h5317 h5339 (by decide)
    have bx5342 := bx5318.hk hbk h5339 (by decide) (by decide) (by decide)
    rcases hp with ⟨e5341, rfl⟩ | ⟨e5341, rfl⟩
    · refine m_iconst F (v := (-1)) (by decide) e_X7_readNewName_18 ?_
      refine m_icmp_eq F e_X7_readNewName_19 (fun q19 => ?_) (fun q19 => ?_)
      · exact absurd q19 (nI_nm1 (by omega))
      · refine m_aload_n F rfl e_X7_readNewName_22 ?_
        refine m_iconst F (v := 3) (by decide) e_X7_readNewName_23 ?_
        refine m_iload_n F rfl e_X7_readNewName_24 ?_
        refine t_callV F e_X7_readNewName_25 (s_X7_failAtE (x_l X) V b M Z T _ _ a 3 (nI st) tp td n bk ((tok t n nx).2.2.2) ((tok t n nx).1) tk5320 vl5321 py sd ln 0 pl t h5340.1 hk rfl (by decide) ⟨(fld_eq (h5339.2 a (by rw [show kA _ a = 3 from hk]; decide))).trans rd5325, (fld_eq (h5339.2 a (by rw [show kA _ a = 3 from hk]; decide))).trans rd5326, (fld_eq (h5339.2 a (by rw [show kA _ a = 3 from hk]; decide))).trans rd5327, (fld_eq (h5339.2 a (by rw [show kA _ a = 3 from hk]; decide))).trans rd5328, (fld_eq (h5339.2 a (by rw [show kA _ a = 3 from hk]; decide))).trans rd5329, (fld_eq (h5339.2 a (by rw [show kA _ a = 3 from hk]; decide))).trans rd5330, (fld_eq (h5339.2 a (by rw [show kA _ a = 3 from hk]; decide))).trans rd5331, (fld_eq (h5339.2 a (by rw [show kA _ a = 3 from hk]; decide))).trans rd5332, (fld_eq (h5339.2 a (by rw [show kA _ a = 3 from hk]; decide))).trans rd5333, (fld_eq (h5339.2 a (by rw [show kA _ a = 3 from hk]; decide))).trans rd5334, (fld_eq (h5339.2 a (by rw [show kA _ a = 3 from hk]; decide))).trans rd5335, (fld_eq (h5339.2 a (by rw [show kA _ a = 3 from hk]; decide))).trans rd5336, (fld_eq (h5339.2 a (by rw [show kA _ a = 3 from hk]; decide))).trans rd5337⟩ (hB.keep (h5340.2 tp (by rw [show kA _ tp = 2 from htp]; decide))) hn7 hsd htp htd hbk (by omega)) cb_X7_failAt ml_X7_197 im_X7_failAt se_X7_failAt (fun _ => o3) h5340 hk rfl rfl (rest := []) rfl (Nat.le_of_ble_eq_true rfl) ⟨Nat.le_of_ble_eq_true rfl, Nat.le_of_ble_eq_true rfl⟩ ⟨Nat.le_of_ble_eq_true rfl, Nat.le_of_ble_eq_true rfl⟩ (fun r σ5343 hp => ?_)
        obtain ⟨h5344, ⟨rd5346, rd5347, rd5348, rd5349, rd5350, rd5351, rd5352, rd5353, rd5354, rd5355, rd5356, rd5357, rd5358⟩, rfl⟩ := hp
        have h5345 := HK.trans h5340 h5344 (by decide)
        have bx5359 := bx5342.hk hbk h5344 (by decide) (by decide) (by decide)
        refine m_iload_n F rfl e_X7_readNewName_28 ?_
        exact m_iret F hQ e_X7_readNewName_29 (⟨h5345, Or.inr (Or.inr ⟨e5319, e5341, ⟨rd5357, rd5358⟩, _, rfl⟩)⟩)
    · refine m_iconst F (v := (-1)) (by decide) e_X7_readNewName_18 ?_
      refine m_icmp_eq F e_X7_readNewName_19 (fun _ => ?_) (fun q => absurd (by decide) q)
      refine m_iload_n F rfl e_X7_readNewName_28 ?_
      exact m_iret F hQ e_X7_readNewName_29 (⟨h5340, Or.inl ⟨e5319, e5341, ⟨tk5320, vl5321, ct5322, ⟨(fld_eq (h5339.2 a (by rw [show kA _ a = 3 from hk]; decide))).trans rd5325, (fld_eq (h5339.2 a (by rw [show kA _ a = 3 from hk]; decide))).trans rd5326, (fld_eq (h5339.2 a (by rw [show kA _ a = 3 from hk]; decide))).trans rd5327, (fld_eq (h5339.2 a (by rw [show kA _ a = 3 from hk]; decide))).trans rd5328, (fld_eq (h5339.2 a (by rw [show kA _ a = 3 from hk]; decide))).trans rd5329, (fld_eq (h5339.2 a (by rw [show kA _ a = 3 from hk]; decide))).trans rd5330, (fld_eq (h5339.2 a (by rw [show kA _ a = 3 from hk]; decide))).trans rd5331, (fld_eq (h5339.2 a (by rw [show kA _ a = 3 from hk]; decide))).trans rd5332, (fld_eq (h5339.2 a (by rw [show kA _ a = 3 from hk]; decide))).trans rd5333, (fld_eq (h5339.2 a (by rw [show kA _ a = 3 from hk]; decide))).trans rd5334, (fld_eq (h5339.2 a (by rw [show kA _ a = 3 from hk]; decide))).trans rd5335, (fld_eq (h5339.2 a (by rw [show kA _ a = 3 from hk]; decide))).trans rd5336, (fld_eq (h5339.2 a (by rw [show kA _ a = 3 from hk]; decide))).trans rd5337⟩⟩, rfl⟩⟩)
  · refine m_istore_n F (lv' := [(2, .int (-1)), (1, .int (nI st)), (0, .ref a)]) e_X7_readNewName_9 (by decide) rfl ?_
    refine m_aload_n F rfl e_X7_readNewName_10 ?_
    refine t_get F e_X7_readNewName_11 fl_X7_23 (fun _ => o3) h5317 hk rfl (fun v hv f5360 => ?_)
    obtain ⟨r5361, k5362, rfl⟩ := hv
    refine m_iload_n F rfl e_X7_readNewName_14 ?_
    refine t_callV F e_X7_readNewName_15 (s_X2_leaseNamed (x_l X) V b M Z T _ _ r5361 (-1) h5317.1 k5362  (by omega)) cb_X2_leaseNamed ml_X7_194 im_X2_leaseNamed se_X2_leaseNamed (fun _ => o7) h5317 k5362 rfl rfl (rest := []) rfl (Nat.le_of_ble_eq_true rfl) ⟨Nat.le_of_ble_eq_true rfl, Nat.le_of_ble_eq_true rfl⟩ ⟨Nat.le_of_ble_eq_true rfl, Nat.le_of_ble_eq_true rfl⟩ (fun r σ5363 hp => ?_)
    obtain ⟨h5365, c5366⟩ := hp
    have h5364 := HK.trans h5317 h5365 (by decide)
    rcases c5366 with ⟨n5367, hn5367, rfl⟩ | rfl
    · refine m_iconst F (v := (-1)) (by decide) e_X7_readNewName_18 ?_
      refine m_icmp_eq F e_X7_readNewName_19 (fun q19 => ?_) (fun q19 => ?_)
      · exact absurd q19 (nI_nm1 (by omega))
      · refine m_aload_n F rfl e_X7_readNewName_22 ?_
        refine m_iconst F (v := 3) (by decide) e_X7_readNewName_23 ?_
        refine m_iload_n F rfl e_X7_readNewName_24 ?_
        refine t_callV F e_X7_readNewName_25 (s_X7_failAtG (x_l X) V b M Z T _ _ a 3 (nI st) 1 (nI st) h5364.1 hk  ((fld_eq (h5365.2 a (by rw [show kA _ a = 3 from hk]; decide))).trans rd5323) ((fld_eq (h5365.2 a (by rw [show kA _ a = 3 from hk]; decide))).trans rd5324) (by decide) (by omega)) cb_X7_failAt ml_X7_197 im_X7_failAt se_X7_failAt (fun _ => o3) h5364 hk rfl rfl (rest := []) rfl (Nat.le_of_ble_eq_true rfl) ⟨Nat.le_of_ble_eq_true rfl, Nat.le_of_ble_eq_true rfl⟩ ⟨Nat.le_of_ble_eq_true rfl, Nat.le_of_ble_eq_true rfl⟩ (fun r σ5368 hp => ?_)
        obtain ⟨h5369, rd5371, rd5372, rfl⟩ := hp
        have h5370 := HK.trans h5364 h5369 (by decide)
        refine m_iload_n F rfl e_X7_readNewName_28 ?_
        exact m_iret F hQ e_X7_readNewName_29 (⟨h5370, Or.inr (Or.inl ⟨e5319, ⟨rd5371, rd5372⟩, _, rfl⟩)⟩)
    · refine m_iconst F (v := (-1)) (by decide) e_X7_readNewName_18 ?_
      refine m_icmp_eq F e_X7_readNewName_19 (fun _ => ?_) (fun q => absurd (by decide) q)
      refine m_iload_n F rfl e_X7_readNewName_28 ?_
      exact m_iret F hQ e_X7_readNewName_29 (⟨h5364, Or.inr (Or.inl ⟨e5319, ⟨(fld_eq (h5365.2 a (by rw [show kA _ a = 3 from hk]; decide))).trans rd5323, (fld_eq (h5365.2 a (by rw [show kA _ a = 3 from hk]; decide))).trans rd5324⟩, _, rfl⟩)⟩)
set_option maxRecDepth 20000 in
theorem s_X7_readToldNameE (l : Launch) (V : VX) (b M Z T N : Nat) (σ : Mem) (a : Nat) (tp : Nat) (td : Nat) (n : Nat) (bk : Nat) (nx : Nat) (st : Nat) (tk : Int32) (vl : Int32) (py : Nat) (sd : Nat) (ln : Nat) (ft : Int32) (pl : Int32) (t : Nat → Nat) (s9 : Nat) (v9 : Nat) (nl : Nat) (nm : Nat → Nat) (nc : Nat) (lc : Nat) (no : Nat) (h0 : HT V (b, M, Z, T) σ) (hk : kA b a = 3) (hp0 : ft = 0) (hp1 : CT tk vl s9 v9) (hp2 : nx ≤ n) (hp3 : st ≤ n) (hp4 : BX σ bk nl nm nc lc no) (hR : RD σ a tp td n bk nx st tk vl py sd ln ft pl) (hB : BY V σ tp n t) (hn7 : n ≤ 700) (hsd : sd ≤ 1) (htp : kA b tp = 2) (htd : kA b td = 4) (hbk : kA b bk = 7) (hM : M + 0 ≤ 1000000000) : Ct l V yX7_readToldName cX7_readToldName 3 (some .int) 3 0 0 N σ [.ref a] (fun r τ => HK V (b, M, Z, T) [0, 1, 2, 4, 5, 6, 7, 8, 9, 10, 11, 12, 13, 14, 15, 16, 17, 18, 19] σ τ ∧ ((s9 = 2 ∧ fx nm v9 nl < nl ∧ (∃ tk2 vl2, CT tk2 vl2 (tok t n nx).2.1 (tok t n nx).2.2.1 ∧ RD τ a tp td n bk (tok t n nx).2.2.2 (tok t n nx).1 tk2 vl2 py sd ln 0 pl) ∧ r = some (.int (nI (fx nm v9 nl)))) ∨ (s9 ≠ 2 ∧ FT τ a 1 st ∧ ∃ x : Int32, r = some (.int x)) ∨ (s9 = 2 ∧ ¬ fx nm v9 nl < nl ∧ FT τ a 4 st ∧ ∃ x : Int32, r = some (.int x)))) := by
  refine Ct.of (by decide) (Nat.le_of_ble_eq_true rfl) [(0, .ref a)] rfl (fun X hX F hQ => ?_)
  have h1 : HK V (b, M, Z, T) [0, 1, 2, 4, 5, 6, 7, 8, 9, 10, 11, 12, 13, 14, 15, 16, 17, 18, 19] σ σ := HK.start h0
  have hrd5374 := hR
  obtain ⟨rd5374, rd5375, rd5376, rd5377, rd5378, rd5379, rd5380, rd5381, rd5382, rd5383, rd5384, rd5385, rd5386⟩ := hrd5374
  subst hp0
  have hl4 := hp4.2.2.2.2.2.1
  refine m_aload_n F rfl e_X7_readToldName_0 ?_
  refine t_getC F e_X7_readToldName_1 fl_X7_188 (fun _ => o3) h1 hk (rd5379) ?_
  refine m_istore_n F (lv' := [(1, .int (nI st)), (0, .ref a)]) e_X7_readToldName_4 (by decide) rfl ?_
  refine m_aload_n F rfl e_X7_readToldName_5 ?_
  refine t_getC F e_X7_readToldName_6 fl_X7_23 (fun _ => o3) h1 hk (rd5376) ?_
  refine m_aload_n F rfl e_X7_readToldName_9 ?_
  refine t_callV F e_X7_readToldName_10 (s_X7_readNameE (x_l X) V b M Z T _ _ a  tp td n bk nx st tk vl py sd ln 0 pl t s9 v9 h1.1 hk rfl hp1 (by omega) (by omega) ⟨rd5374, rd5375, rd5376, rd5377, rd5378, rd5379, rd5380, rd5381, rd5382, rd5383, rd5384, rd5385, rd5386⟩ (hB.keep (h1.2 tp (by rw [show kA _ tp = 2 from htp]; decide))) hn7 hsd htp htd hbk (by omega)) cb_X7_readName ml_X7_191 im_X7_readName se_X7_readName (fun _ => o3) h1 hk rfl rfl (rest := [.ref bk]) rfl (Nat.le_of_ble_eq_true rfl) ⟨Nat.le_of_ble_eq_true rfl, Nat.le_of_ble_eq_true rfl⟩ ⟨Nat.le_of_ble_eq_true rfl, Nat.le_of_ble_eq_true rfl⟩ (fun r σ5387 hp => ?_)
  obtain ⟨h5388, hp⟩ := hp
  have h5389 := HK.trans h1 h5388 (by decide)
  have bx5390 := hp4.hk hbk h5388 (by decide) (by decide) (by decide)
  rcases hp with ⟨e5391, ⟨tk5392, vl5393, ct5394, rd5397, rd5398, rd5399, rd5400, rd5401, rd5402, rd5403, rd5404, rd5405, rd5406, rd5407, rd5408, rd5409⟩, rfl⟩ | ⟨e5391, ⟨rd5395, rd5396⟩, rfl⟩
  · have hv9 := hp1.w e5391
    refine t_callV F e_X7_readToldName_13 (s_X2_leaseNamedE (x_l X) V b M Z T _ _ bk v9 nl nm nc lc no h5389.1 hbk (by omega) bx5390 (by omega)) cb_X2_leaseNamed ml_X7_194 im_X2_leaseNamed se_X2_leaseNamed (fun _ => o7) h5389 hbk rfl rfl (rest := []) rfl (Nat.le_of_ble_eq_true rfl) ⟨Nat.le_of_ble_eq_true rfl, Nat.le_of_ble_eq_true rfl⟩ ⟨Nat.le_of_ble_eq_true rfl, Nat.le_of_ble_eq_true rfl⟩ (fun r σ5410 hp => ?_)
    obtain ⟨h5411, hp⟩ := hp
    have h5412 := HK.trans h5389 h5411 (by decide)
    have bx5414 := bx5390.hk hbk h5411 (by decide) (by decide) (by decide)
    rcases hp with ⟨e5413, rfl⟩ | ⟨e5413, rfl⟩
    · refine m_istore_n F (lv' := [(2, .int (nI (fx nm v9 nl))), (1, .int (nI st)), (0, .ref a)]) e_X7_readToldName_16 (by decide) rfl ?_
      refine m_iload_n F rfl e_X7_readToldName_17 ?_
      refine m_iconst F (v := (-1)) (by decide) e_X7_readToldName_18 ?_
      refine m_icmp_ne F e_X7_readToldName_19 (fun q19 => ?_) (fun q19 => ?_)
      · refine m_iload_n F rfl e_X7_readToldName_28 ?_
        exact m_iret F hQ e_X7_readToldName_29 (⟨h5412, Or.inl ⟨e5391, e5413, ⟨tk5392, vl5393, ct5394, ⟨(fld_eq (h5411.2 a (by rw [show kA _ a = 3 from hk]; decide))).trans rd5397, (fld_eq (h5411.2 a (by rw [show kA _ a = 3 from hk]; decide))).trans rd5398, (fld_eq (h5411.2 a (by rw [show kA _ a = 3 from hk]; decide))).trans rd5399, (fld_eq (h5411.2 a (by rw [show kA _ a = 3 from hk]; decide))).trans rd5400, (fld_eq (h5411.2 a (by rw [show kA _ a = 3 from hk]; decide))).trans rd5401, (fld_eq (h5411.2 a (by rw [show kA _ a = 3 from hk]; decide))).trans rd5402, (fld_eq (h5411.2 a (by rw [show kA _ a = 3 from hk]; decide))).trans rd5403, (fld_eq (h5411.2 a (by rw [show kA _ a = 3 from hk]; decide))).trans rd5404, (fld_eq (h5411.2 a (by rw [show kA _ a = 3 from hk]; decide))).trans rd5405, (fld_eq (h5411.2 a (by rw [show kA _ a = 3 from hk]; decide))).trans rd5406, (fld_eq (h5411.2 a (by rw [show kA _ a = 3 from hk]; decide))).trans rd5407, (fld_eq (h5411.2 a (by rw [show kA _ a = 3 from hk]; decide))).trans rd5408, (fld_eq (h5411.2 a (by rw [show kA _ a = 3 from hk]; decide))).trans rd5409⟩⟩, rfl⟩⟩)
      · exact absurd q19 (nI_nm1 (by omega))
    · refine m_istore_n F (lv' := [(2, .int (-1)), (1, .int (nI st)), (0, .ref a)]) e_X7_readToldName_16 (by decide) rfl ?_
      refine m_iload_n F rfl e_X7_readToldName_17 ?_
      refine m_iconst F (v := (-1)) (by decide) e_X7_readToldName_18 ?_
      refine m_icmp_ne F e_X7_readToldName_19 (fun q => absurd (by decide) q) (fun _ => ?_)
      refine m_aload_n F rfl e_X7_readToldName_22 ?_
      refine m_iconst F (v := 4) (by decide) e_X7_readToldName_23 ?_
      refine m_iload_n F rfl e_X7_readToldName_24 ?_
      refine t_callV F e_X7_readToldName_25 (s_X7_failAtE (x_l X) V b M Z T _ _ a 4 (nI st) tp td n bk ((tok t n nx).2.2.2) ((tok t n nx).1) tk5392 vl5393 py sd ln 0 pl t h5412.1 hk rfl (by decide) ⟨(fld_eq (h5411.2 a (by rw [show kA _ a = 3 from hk]; decide))).trans rd5397, (fld_eq (h5411.2 a (by rw [show kA _ a = 3 from hk]; decide))).trans rd5398, (fld_eq (h5411.2 a (by rw [show kA _ a = 3 from hk]; decide))).trans rd5399, (fld_eq (h5411.2 a (by rw [show kA _ a = 3 from hk]; decide))).trans rd5400, (fld_eq (h5411.2 a (by rw [show kA _ a = 3 from hk]; decide))).trans rd5401, (fld_eq (h5411.2 a (by rw [show kA _ a = 3 from hk]; decide))).trans rd5402, (fld_eq (h5411.2 a (by rw [show kA _ a = 3 from hk]; decide))).trans rd5403, (fld_eq (h5411.2 a (by rw [show kA _ a = 3 from hk]; decide))).trans rd5404, (fld_eq (h5411.2 a (by rw [show kA _ a = 3 from hk]; decide))).trans rd5405, (fld_eq (h5411.2 a (by rw [show kA _ a = 3 from hk]; decide))).trans rd5406, (fld_eq (h5411.2 a (by rw [show kA _ a = 3 from hk]; decide))).trans rd5407, (fld_eq (h5411.2 a (by rw [show kA _ a = 3 from hk]; decide))).trans rd5408, (fld_eq (h5411.2 a (by rw [show kA _ a = 3 from hk]; decide))).trans rd5409⟩ (hB.keep (h5412.2 tp (by rw [show kA _ tp = 2 from htp]; decide))) hn7 hsd htp htd hbk (by omega)) cb_X7_failAt ml_X7_197 im_X7_failAt se_X7_failAt (fun _ => o3) h5412 hk rfl rfl (rest := []) rfl (Nat.le_of_ble_eq_true rfl) ⟨Nat.le_of_ble_eq_true rfl, Nat.le_of_ble_eq_true rfl⟩ ⟨Nat.le_of_ble_eq_true rfl, Nat.le_of_ble_eq_true rfl⟩ (fun r σ5415 hp => ?_)
      obtain ⟨h5416, ⟨rd5418, rd5419, rd5420, rd5421, rd5422, rd5423, rd5424, rd5425, rd5426, rd5427, rd5428, rd5429, rd5430⟩, rfl⟩ := hp
      have h5417 := HK.trans h5412 h5416 (by decide)
      have bx5431 := bx5414.hk hbk h5416 (by decide) (by decide) (by decide)
      refine m_iload_n F rfl e_X7_readToldName_28 ?_
      exact m_iret F hQ e_X7_readToldName_29 (⟨h5417, Or.inr (Or.inr ⟨e5391, e5413, ⟨rd5429, rd5430⟩, _, rfl⟩)⟩)
  · refine t_callV F e_X7_readToldName_13 (s_X2_leaseNamed (x_l X) V b M Z T _ _ bk (-1) h5389.1 hbk  (by omega)) cb_X2_leaseNamed ml_X7_194 im_X2_leaseNamed se_X2_leaseNamed (fun _ => o7) h5389 hbk rfl rfl (rest := []) rfl (Nat.le_of_ble_eq_true rfl) ⟨Nat.le_of_ble_eq_true rfl, Nat.le_of_ble_eq_true rfl⟩ ⟨Nat.le_of_ble_eq_true rfl, Nat.le_of_ble_eq_true rfl⟩ (fun r σ5432 hp => ?_)
    obtain ⟨h5434, c5435⟩ := hp
    have h5433 := HK.trans h5389 h5434 (by decide)
    rcases c5435 with ⟨n5436, hn5436, rfl⟩ | rfl
    · refine m_istore_n F (lv' := [(2, .int (nI n5436)), (1, .int (nI st)), (0, .ref a)]) e_X7_readToldName_16 (by decide) rfl ?_
      refine m_iload_n F rfl e_X7_readToldName_17 ?_
      refine m_iconst F (v := (-1)) (by decide) e_X7_readToldName_18 ?_
      refine m_icmp_ne F e_X7_readToldName_19 (fun q19 => ?_) (fun q19 => ?_)
      · refine m_iload_n F rfl e_X7_readToldName_28 ?_
        exact m_iret F hQ e_X7_readToldName_29 (⟨h5433, Or.inr (Or.inl ⟨e5391, ⟨(fld_eq (h5434.2 a (by rw [show kA _ a = 3 from hk]; decide))).trans rd5395, (fld_eq (h5434.2 a (by rw [show kA _ a = 3 from hk]; decide))).trans rd5396⟩, _, rfl⟩)⟩)
      · exact absurd q19 (nI_nm1 (by omega))
    · refine m_istore_n F (lv' := [(2, .int (-1)), (1, .int (nI st)), (0, .ref a)]) e_X7_readToldName_16 (by decide) rfl ?_
      refine m_iload_n F rfl e_X7_readToldName_17 ?_
      refine m_iconst F (v := (-1)) (by decide) e_X7_readToldName_18 ?_
      refine m_icmp_ne F e_X7_readToldName_19 (fun q => absurd (by decide) q) (fun _ => ?_)
      refine m_aload_n F rfl e_X7_readToldName_22 ?_
      refine m_iconst F (v := 4) (by decide) e_X7_readToldName_23 ?_
      refine m_iload_n F rfl e_X7_readToldName_24 ?_
      refine t_callV F e_X7_readToldName_25 (s_X7_failAtG (x_l X) V b M Z T _ _ a 4 (nI st) 1 (nI st) h5433.1 hk  ((fld_eq (h5434.2 a (by rw [show kA _ a = 3 from hk]; decide))).trans rd5395) ((fld_eq (h5434.2 a (by rw [show kA _ a = 3 from hk]; decide))).trans rd5396) (by decide) (by omega)) cb_X7_failAt ml_X7_197 im_X7_failAt se_X7_failAt (fun _ => o3) h5433 hk rfl rfl (rest := []) rfl (Nat.le_of_ble_eq_true rfl) ⟨Nat.le_of_ble_eq_true rfl, Nat.le_of_ble_eq_true rfl⟩ ⟨Nat.le_of_ble_eq_true rfl, Nat.le_of_ble_eq_true rfl⟩ (fun r σ5437 hp => ?_)
      obtain ⟨h5438, rd5440, rd5441, rfl⟩ := hp
      have h5439 := HK.trans h5433 h5438 (by decide)
      refine m_iload_n F rfl e_X7_readToldName_28 ?_
      exact m_iret F hQ e_X7_readToldName_29 (⟨h5439, Or.inr (Or.inl ⟨e5391, ⟨rd5440, rd5441⟩, _, rfl⟩)⟩)
