set_option maxRecDepth 20000 in
theorem s_X7_readNameOnceE (l : Launch) (V : VX) (G : GH) (b M Z T N : Nat) (σ : Mem) (a : Nat) (n901 : Nat) (tp : Nat) (td : Nat) (n : Nat) (bk : Nat) (nx : Nat) (st : Nat) (tk : Int32) (vl : Int32) (py : Nat) (sd : Nat) (ln : Nat) (ft : Int32) (pl : Int32) (t : Nat → Nat) (s9 : Nat) (v9 : Nat) (nl : Nat) (nm : Nat → Nat) (nc : Nat) (lc : Nat) (no : Nat) (md : Nat → Nat → Bool) (b9 : Nat) (h0 : HT V G (b, M, Z, T) σ) (hk : kA b a = 3) (hn901 : n901 ≤ 8) (hp0 : ft = 0) (hp1 : CT tk vl s9 v9) (hp2 : nx ≤ n) (hp3 : st ≤ n) (hp4 : BX σ bk nl nm nc lc no) (hp5 : TD V σ td nl md) (hp6 : n901 = 2 ^ b9) (hp7 : b9 < 4) (hR : RD σ a tp td n bk nx st tk vl py sd ln ft pl) (hB : BY V σ tp n t) (hn7 : n ≤ 700) (hsd : sd ≤ 1) (htp : kA b tp = 2) (htd : kA b td = 4) (hbk : kA b bk = 7) (hgb : ¬ G.gd (blk (bk - b)) = 1) (hM : M + 0 ≤ 1000000000) : Ct l V yX7_readNameOnce cX7_readNameOnce 4 (some .int) 3 0 0 N σ [.ref a, .int (nI n901)] (fun r τ => HK V G (b, M, Z, T) [0, 1, 2, 5, 6, 7, 8, 9, 10, 11, 12, 13, 14, 15, 16, 17, 18, 19] σ τ ∧ ((s9 = 2 ∧ fx nm v9 nl < nl ∧ md (fx nm v9 nl) b9 = false ∧ (∃ tk2 vl2, CT tk2 vl2 (tok t n nx).2.1 (tok t n nx).2.2.1 ∧ RD τ a tp td n bk (tok t n nx).2.2.2 (tok t n nx).1 tk2 vl2 py sd ln 0 pl) ∧ TD V τ td nl (upb md (fx nm v9 nl) b9) ∧ r = some (.int (nI (fx nm v9 nl)))) ∨ (s9 ≠ 2 ∧ FT τ a 1 st ∧ ∃ x : Int32, r = some (.int x)) ∨ (s9 = 2 ∧ ¬ fx nm v9 nl < nl ∧ FT τ a 4 st ∧ ∃ x : Int32, r = some (.int x)) ∨ (s9 = 2 ∧ fx nm v9 nl < nl ∧ md (fx nm v9 nl) b9 = true ∧ FT τ a 3 st ∧ ∃ x : Int32, r = some (.int x)))) := by
  refine Ct.of (by decide) (Nat.le_of_ble_eq_true rfl) [(0, .ref a), (1, .int (nI n901))] rfl (fun X hX F hQ => ?_)
  have h1 : HK V G (b, M, Z, T) [0, 1, 2, 5, 6, 7, 8, 9, 10, 11, 12, 13, 14, 15, 16, 17, 18, 19] σ σ := HK.start h0
  have hrd5338 := hR
  obtain ⟨rd5338, rd5339, rd5340, rd5341, rd5342, rd5343, rd5344, rd5345, rd5346, rd5347, rd5348, rd5349, rd5350⟩ := hrd5338
  subst hp0
  have hl4 := hp4.2.2.2.2.2.1
  subst hp6
  refine m_aload_n F rfl e_X7_readNameOnce_0 ?_
  refine t_getC F e_X7_readNameOnce_1 fl_X7_188 (fun _ => o3) h1 hk (rd5343) ?_
  refine m_istore_n F (lv' := [(2, .int (nI st)), (0, .ref a), (1, .int (nI (2 ^ b9)))]) e_X7_readNameOnce_4 (by decide) rfl ?_
  refine m_aload_n F rfl e_X7_readNameOnce_5 ?_
  refine t_getC F e_X7_readNameOnce_6 fl_X7_23 (fun _ => o3) h1 hk (rd5340) ?_
  refine m_aload_n F rfl e_X7_readNameOnce_9 ?_
  refine t_callV F e_X7_readNameOnce_10 (s_X7_readNameE (x_l X) V G b M Z T _ _ a  tp td n bk nx st tk vl py sd ln 0 pl t s9 v9 h1.1 hk rfl hp1 (by omega) (by omega) ⟨rd5338, rd5339, rd5340, rd5341, rd5342, rd5343, rd5344, rd5345, rd5346, rd5347, rd5348, rd5349, rd5350⟩ (hB.keep (h1.2 tp (by rw [show kA _ tp = 2 from htp]; decide))) hn7 hsd htp htd hbk hgb (by omega)) cb_X7_readName ml_X7_191 im_X7_readName se_X7_readName (fun _ => o3) h1 hk rfl rfl (rest := [.ref bk]) rfl (Nat.le_of_ble_eq_true rfl) ⟨Nat.le_of_ble_eq_true rfl, Nat.le_of_ble_eq_true rfl⟩ ⟨Nat.le_of_ble_eq_true rfl, Nat.le_of_ble_eq_true rfl⟩ (fun r σ5351 hp => ?_)
  obtain ⟨h5352, hp⟩ := hp
  have h5353 := HK.trans h1 h5352 (by decide)
  have bx5354 := hp4.hk hbk h5352 (by decide) (by decide) (by decide)
  have tq5355 := hp5.keep (h5352.2 td (by rw [show kA _ td = 4 from htd]; decide))
  rcases hp with ⟨e5356, ⟨tk5357, vl5358, ct5359, rd5362, rd5363, rd5364, rd5365, rd5366, rd5367, rd5368, rd5369, rd5370, rd5371, rd5372, rd5373, rd5374⟩, rfl⟩ | ⟨e5356, ⟨rd5360, rd5361⟩, rfl⟩
  · have hv9 := hp1.w e5356
    refine t_callV F e_X7_readNameOnce_13 (s_X2_leaseNamedE (x_l X) V G b M Z T _ _ bk v9 nl nm nc lc no h5353.1 hbk (by omega) bx5354 (by omega)) cb_X2_leaseNamed ml_X7_194 im_X2_leaseNamed se_X2_leaseNamed (fun _ => o7) h5353 hbk rfl rfl (rest := []) rfl (Nat.le_of_ble_eq_true rfl) ⟨Nat.le_of_ble_eq_true rfl, Nat.le_of_ble_eq_true rfl⟩ ⟨Nat.le_of_ble_eq_true rfl, Nat.le_of_ble_eq_true rfl⟩ (fun r σ5375 hp => ?_)
    obtain ⟨h5376, hp⟩ := hp
    have h5377 := HK.trans h5353 h5376 (by decide)
    have bx5379 := bx5354.hk hbk h5376 (by decide) (by decide) (by decide)
    have tq5380 := tq5355.keep (h5376.2 td (by rw [show kA _ td = 4 from htd]; decide))
    rcases hp with ⟨e5378, rfl⟩ | ⟨e5378, rfl⟩
    · refine m_istore_n F (lv' := [(3, .int (nI (fx nm v9 nl))), (2, .int (nI st)), (0, .ref a), (1, .int (nI (2 ^ b9)))]) e_X7_readNameOnce_16 (by decide) rfl ?_
      refine m_iload_n F rfl e_X7_readNameOnce_17 ?_
      refine m_if_lt F e_X7_readNameOnce_18 (fun q18 => ?_) (fun q18 => ?_)
      · have c18 : (fx nm v9 nl) < 0 := (nI_ltI (a := (fx nm v9 nl)) (b := 0) (by omega) (by omega)).mp q18
        exfalso; omega
      · have c18 : (fx nm v9 nl) ≥ 0 := by have hh := mt (nI_ltI (a := (fx nm v9 nl)) (b := 0) (by omega) (by omega)).mpr q18; omega
        refine m_iload_n F rfl e_X7_readNameOnce_21 ?_
        refine m_iconst F (v := 4) (by decide) e_X7_readNameOnce_22 ?_
        refine m_icmp_lt F e_X7_readNameOnce_23 (fun q23 => ?_) (fun q23 => ?_)
        · have c23 : (fx nm v9 nl) < 4 := (nI_ltI (a := (fx nm v9 nl)) (b := 4) (by omega) (by omega)).mp q23
          refine m_aload_n F rfl e_X7_readNameOnce_34 ?_
          refine t_getC F e_X7_readNameOnce_35 fl_X7_9 (fun _ => o3) h5377 hk ((fld_eq (h5376.2 a (by rw [show kA _ a = 3 from hk]; decide))).trans rd5365) ?_
          refine m_iload_n F rfl e_X7_readNameOnce_38 ?_
          refine t_ialdX F (len := 4) (j := fx nm v9 nl) e_X7_readNameOnce_39 (fun _ => o4) h5377 htd (nI_clamp (by omega)) (vp_in_nI (by omega) (by decide)) (fun x5381 ex5381 => ?_)
          obtain rfl : x5381 = nI (mk4 (md (fx nm v9 nl))) := Option.some.inj (ex5381.symm.trans (tq5380.at e5378 (by omega)))
          refine m_iload_n F rfl e_X7_readNameOnce_40 ?_
          refine m_iand F e_X7_readNameOnce_41 ?_
          refine m_if_eq F e_X7_readNameOnce_42 (fun q42 => ?_) (fun q42 => ?_)
          · have e42 : md (fx nm v9 nl) b9 = false := (mk4_and hp7).mp q42
            refine m_aload_n F rfl e_X7_readNameOnce_51 ?_
            refine t_getC F e_X7_readNameOnce_52 fl_X7_9 (fun _ => o3) h5377 hk ((fld_eq (h5376.2 a (by rw [show kA _ a = 3 from hk]; decide))).trans rd5365) ?_
            refine m_iload_n F rfl e_X7_readNameOnce_55 ?_
            refine m_dup2_11 F rfl rfl e_X7_readNameOnce_56 ?_
            refine t_ialdX F (len := 4) (j := fx nm v9 nl) e_X7_readNameOnce_57 (fun _ => o4) h5377 htd (nI_clamp (by omega)) (vp_in_nI (by omega) (by decide)) (fun x5382 ex5382 => ?_)
            obtain rfl : x5382 = nI (mk4 (md (fx nm v9 nl))) := Option.some.inj (ex5382.symm.trans (tq5380.at e5378 (by omega)))
            refine m_iload_n F rfl e_X7_readNameOnce_58 ?_
            refine m_ior F e_X7_readNameOnce_59 ?_
            refine Wm.topE (w := nI (mk4 (fun j => if j = b9 then true else md (fx nm v9 nl) j))) (mk4_or hp7) ?_
            refine t_iastX F (len := 4) (j := fx nm v9 nl) e_X7_readNameOnce_60 (fun _ => o4) h5377 htd (nI_clamp (by omega)) (vp_in_nI (by omega) (by decide)) (by decide) (fun σ5383 h5384 g5385 g5386 g5387 g5388 => ?_)
            have bx5389 := bx5379.keep hbk (fld_eq (g5385 bk (kdn hbk htd (by decide)))) (fld_eq (g5385 bk (kdn hbk htd (by decide)))) (fld_eq (g5385 bk (kdn hbk htd (by decide)))) (g5385 (bk + 4) (kdn (kA_7 hbk (r := 4) (by decide) : kA b (bk + 4) = 11) htd (by decide))) (fun x hx => fld_eq (g5385 x (kdn hx htd (by decide))))
            have tq5390 := TD.up (b := b9) tq5380 e5378 g5388
            refine m_iload_n F rfl e_X7_readNameOnce_61 ?_
            exact m_iret F hQ e_X7_readNameOnce_62 (⟨h5384, Or.inl ⟨e5356, e5378, e42, ⟨tk5357, vl5358, ct5359, ⟨(fld_eq (g5385 a (kdn hk htd (by decide)))).trans ((fld_eq (h5376.2 a (by rw [show kA _ a = 3 from hk]; decide))).trans rd5362), (fld_eq (g5385 a (kdn hk htd (by decide)))).trans ((fld_eq (h5376.2 a (by rw [show kA _ a = 3 from hk]; decide))).trans rd5363), (fld_eq (g5385 a (kdn hk htd (by decide)))).trans ((fld_eq (h5376.2 a (by rw [show kA _ a = 3 from hk]; decide))).trans rd5364), (fld_eq (g5385 a (kdn hk htd (by decide)))).trans ((fld_eq (h5376.2 a (by rw [show kA _ a = 3 from hk]; decide))).trans rd5365), (fld_eq (g5385 a (kdn hk htd (by decide)))).trans ((fld_eq (h5376.2 a (by rw [show kA _ a = 3 from hk]; decide))).trans rd5366), (fld_eq (g5385 a (kdn hk htd (by decide)))).trans ((fld_eq (h5376.2 a (by rw [show kA _ a = 3 from hk]; decide))).trans rd5367), (fld_eq (g5385 a (kdn hk htd (by decide)))).trans ((fld_eq (h5376.2 a (by rw [show kA _ a = 3 from hk]; decide))).trans rd5368), (fld_eq (g5385 a (kdn hk htd (by decide)))).trans ((fld_eq (h5376.2 a (by rw [show kA _ a = 3 from hk]; decide))).trans rd5369), (fld_eq (g5385 a (kdn hk htd (by decide)))).trans ((fld_eq (h5376.2 a (by rw [show kA _ a = 3 from hk]; decide))).trans rd5370), (fld_eq (g5385 a (kdn hk htd (by decide)))).trans ((fld_eq (h5376.2 a (by rw [show kA _ a = 3 from hk]; decide))).trans rd5371), (fld_eq (g5385 a (kdn hk htd (by decide)))).trans ((fld_eq (h5376.2 a (by rw [show kA _ a = 3 from hk]; decide))).trans rd5372), (fld_eq (g5385 a (kdn hk htd (by decide)))).trans ((fld_eq (h5376.2 a (by rw [show kA _ a = 3 from hk]; decide))).trans rd5373), (fld_eq (g5385 a (kdn hk htd (by decide)))).trans ((fld_eq (h5376.2 a (by rw [show kA _ a = 3 from hk]; decide))).trans rd5374)⟩⟩, tq5390, rfl⟩⟩)
          · have e42 : md (fx nm v9 nl) b9 = true := by cases hmd : md (fx nm v9 nl) b9 with | true => rfl | false => exact absurd ((mk4_and hp7).mpr hmd) q42
            refine m_aload_n F rfl e_X7_readNameOnce_45 ?_
            refine m_iconst F (v := 3) (by decide) e_X7_readNameOnce_46 ?_
            refine m_iload_n F rfl e_X7_readNameOnce_47 ?_
            refine t_callV F e_X7_readNameOnce_48 (s_X7_failAtE (x_l X) V G b M Z T _ _ a 3 (nI st) tp td n bk ((tok t n nx).2.2.2) ((tok t n nx).1) tk5357 vl5358 py sd ln 0 pl t h5377.1 hk rfl (by decide) ⟨(fld_eq (h5376.2 a (by rw [show kA _ a = 3 from hk]; decide))).trans rd5362, (fld_eq (h5376.2 a (by rw [show kA _ a = 3 from hk]; decide))).trans rd5363, (fld_eq (h5376.2 a (by rw [show kA _ a = 3 from hk]; decide))).trans rd5364, (fld_eq (h5376.2 a (by rw [show kA _ a = 3 from hk]; decide))).trans rd5365, (fld_eq (h5376.2 a (by rw [show kA _ a = 3 from hk]; decide))).trans rd5366, (fld_eq (h5376.2 a (by rw [show kA _ a = 3 from hk]; decide))).trans rd5367, (fld_eq (h5376.2 a (by rw [show kA _ a = 3 from hk]; decide))).trans rd5368, (fld_eq (h5376.2 a (by rw [show kA _ a = 3 from hk]; decide))).trans rd5369, (fld_eq (h5376.2 a (by rw [show kA _ a = 3 from hk]; decide))).trans rd5370, (fld_eq (h5376.2 a (by rw [show kA _ a = 3 from hk]; decide))).trans rd5371, (fld_eq (h5376.2 a (by rw [show kA _ a = 3 from hk]; decide))).trans rd5372, (fld_eq (h5376.2 a (by rw [show kA _ a = 3 from hk]; decide))).trans rd5373, (fld_eq (h5376.2 a (by rw [show kA _ a = 3 from hk]; decide))).trans rd5374⟩ (hB.keep (h5377.2 tp (by rw [show kA _ tp = 2 from htp]; decide))) hn7 hsd htp htd hbk hgb (by omega)) cb_X7_failAt ml_X7_197 im_X7_failAt se_X7_failAt (fun _ => o3) h5377 hk rfl rfl (rest := []) rfl (Nat.le_of_ble_eq_true rfl) ⟨Nat.le_of_ble_eq_true rfl, Nat.le_of_ble_eq_true rfl⟩ ⟨Nat.le_of_ble_eq_true rfl, Nat.le_of_ble_eq_true rfl⟩ (fun r σ5391 hp => ?_)
            obtain ⟨h5392, ⟨rd5394, rd5395, rd5396, rd5397, rd5398, rd5399, rd5400, rd5401, rd5402, rd5403, rd5404, rd5405, rd5406⟩, rfl⟩ := hp
            have h5393 := HK.trans h5377 h5392 (by decide)
            have bx5407 := bx5379.hk hbk h5392 (by decide) (by decide) (by decide)
            have tq5408 := tq5380.keep (h5392.2 td (by rw [show kA _ td = 4 from htd]; decide))
            refine m_aload_n F rfl e_X7_readNameOnce_51 ?_
            refine t_getC F e_X7_readNameOnce_52 fl_X7_9 (fun _ => o3) h5393 hk (rd5397) ?_
            refine m_iload_n F rfl e_X7_readNameOnce_55 ?_
            refine m_dup2_11 F rfl rfl e_X7_readNameOnce_56 ?_
            refine t_ialdX F (len := 4) (j := fx nm v9 nl) e_X7_readNameOnce_57 (fun _ => o4) h5393 htd (nI_clamp (by omega)) (vp_in_nI (by omega) (by decide)) (fun x5409 ex5409 => ?_)
            obtain rfl : x5409 = nI (mk4 (md (fx nm v9 nl))) := Option.some.inj (ex5409.symm.trans (tq5408.at e5378 (by omega)))
            refine m_iload_n F rfl e_X7_readNameOnce_58 ?_
            refine m_ior F e_X7_readNameOnce_59 ?_
            refine Wm.topE (w := nI (mk4 (fun j => if j = b9 then true else md (fx nm v9 nl) j))) (mk4_or hp7) ?_
            refine t_iastX F (len := 4) (j := fx nm v9 nl) e_X7_readNameOnce_60 (fun _ => o4) h5393 htd (nI_clamp (by omega)) (vp_in_nI (by omega) (by decide)) (by decide) (fun σ5410 h5411 g5412 g5413 g5414 g5415 => ?_)
            have bx5416 := bx5407.keep hbk (fld_eq (g5412 bk (kdn hbk htd (by decide)))) (fld_eq (g5412 bk (kdn hbk htd (by decide)))) (fld_eq (g5412 bk (kdn hbk htd (by decide)))) (g5412 (bk + 4) (kdn (kA_7 hbk (r := 4) (by decide) : kA b (bk + 4) = 11) htd (by decide))) (fun x hx => fld_eq (g5412 x (kdn hx htd (by decide))))
            refine m_iload_n F rfl e_X7_readNameOnce_61 ?_
            exact m_iret F hQ e_X7_readNameOnce_62 (⟨h5411, Or.inr (Or.inr (Or.inr ⟨e5356, e5378, e42, ⟨(fld_eq (g5412 a (kdn hk htd (by decide)))).trans rd5405, (fld_eq (g5412 a (kdn hk htd (by decide)))).trans rd5406⟩, _, rfl⟩))⟩)
        · have c23 : (fx nm v9 nl) ≥ 4 := by have hh := mt (nI_ltI (a := (fx nm v9 nl)) (b := 4) (by omega) (by omega)).mpr q23; omega
          exfalso; omega
    · refine m_istore_n F (lv' := [(3, .int (-1)), (2, .int (nI st)), (0, .ref a), (1, .int (nI (2 ^ b9)))]) e_X7_readNameOnce_16 (by decide) rfl ?_
      refine m_iload_n F rfl e_X7_readNameOnce_17 ?_
      refine m_if_lt F e_X7_readNameOnce_18 (fun _ => ?_) (fun q => absurd (by decide) q)
      refine m_aload_n F rfl e_X7_readNameOnce_26 ?_
      refine m_iconst F (v := 4) (by decide) e_X7_readNameOnce_27 ?_
      refine m_iload_n F rfl e_X7_readNameOnce_28 ?_
      refine t_callV F e_X7_readNameOnce_29 (s_X7_failAtE (x_l X) V G b M Z T _ _ a 4 (nI st) tp td n bk ((tok t n nx).2.2.2) ((tok t n nx).1) tk5357 vl5358 py sd ln 0 pl t h5377.1 hk rfl (by decide) ⟨(fld_eq (h5376.2 a (by rw [show kA _ a = 3 from hk]; decide))).trans rd5362, (fld_eq (h5376.2 a (by rw [show kA _ a = 3 from hk]; decide))).trans rd5363, (fld_eq (h5376.2 a (by rw [show kA _ a = 3 from hk]; decide))).trans rd5364, (fld_eq (h5376.2 a (by rw [show kA _ a = 3 from hk]; decide))).trans rd5365, (fld_eq (h5376.2 a (by rw [show kA _ a = 3 from hk]; decide))).trans rd5366, (fld_eq (h5376.2 a (by rw [show kA _ a = 3 from hk]; decide))).trans rd5367, (fld_eq (h5376.2 a (by rw [show kA _ a = 3 from hk]; decide))).trans rd5368, (fld_eq (h5376.2 a (by rw [show kA _ a = 3 from hk]; decide))).trans rd5369, (fld_eq (h5376.2 a (by rw [show kA _ a = 3 from hk]; decide))).trans rd5370, (fld_eq (h5376.2 a (by rw [show kA _ a = 3 from hk]; decide))).trans rd5371, (fld_eq (h5376.2 a (by rw [show kA _ a = 3 from hk]; decide))).trans rd5372, (fld_eq (h5376.2 a (by rw [show kA _ a = 3 from hk]; decide))).trans rd5373, (fld_eq (h5376.2 a (by rw [show kA _ a = 3 from hk]; decide))).trans rd5374⟩ (hB.keep (h5377.2 tp (by rw [show kA _ tp = 2 from htp]; decide))) hn7 hsd htp htd hbk hgb (by omega)) cb_X7_failAt ml_X7_197 im_X7_failAt se_X7_failAt (fun _ => o3) h5377 hk rfl rfl (rest := []) rfl (Nat.le_of_ble_eq_true rfl) ⟨Nat.le_of_ble_eq_true rfl, Nat.le_of_ble_eq_true rfl⟩ ⟨Nat.le_of_ble_eq_true rfl, Nat.le_of_ble_eq_true rfl⟩ (fun r σ5417 hp => ?_)
      obtain ⟨h5418, ⟨rd5420, rd5421, rd5422, rd5423, rd5424, rd5425, rd5426, rd5427, rd5428, rd5429, rd5430, rd5431, rd5432⟩, rfl⟩ := hp
      have h5419 := HK.trans h5377 h5418 (by decide)
      have bx5433 := bx5379.hk hbk h5418 (by decide) (by decide) (by decide)
      have tq5434 := tq5380.keep (h5418.2 td (by rw [show kA _ td = 4 from htd]; decide))
      refine m_iconst F (v := (-1)) (by decide) e_X7_readNameOnce_32 ?_
      exact m_iret F hQ e_X7_readNameOnce_33 (⟨h5419, Or.inr (Or.inr (Or.inl ⟨e5356, e5378, ⟨rd5431, rd5432⟩, _, rfl⟩))⟩)
  · refine t_callV F e_X7_readNameOnce_13 (s_X2_leaseNamed (x_l X) V G b M Z T _ _ bk (-1) h5353.1 hbk  (by omega)) cb_X2_leaseNamed ml_X7_194 im_X2_leaseNamed se_X2_leaseNamed (fun _ => o7) h5353 hbk rfl rfl (rest := []) rfl (Nat.le_of_ble_eq_true rfl) ⟨Nat.le_of_ble_eq_true rfl, Nat.le_of_ble_eq_true rfl⟩ ⟨Nat.le_of_ble_eq_true rfl, Nat.le_of_ble_eq_true rfl⟩ (fun r σ5435 hp => ?_)
    obtain ⟨h5437, c5438⟩ := hp
    have h5436 := HK.trans h5353 h5437 (by decide)
    rcases c5438 with ⟨n5439, hn5439, rfl⟩ | rfl
    · refine m_istore_n F (lv' := [(3, .int (nI n5439)), (2, .int (nI st)), (0, .ref a), (1, .int (nI (2 ^ b9)))]) e_X7_readNameOnce_16 (by decide) rfl ?_
      refine m_iload_n F rfl e_X7_readNameOnce_17 ?_
      refine m_if_lt F e_X7_readNameOnce_18 (fun q18 => ?_) (fun q18 => ?_)
      · have c18 : n5439 < 0 := (nI_ltI (a := n5439) (b := 0) (by omega) (by omega)).mp q18
        exfalso; omega
      · have c18 : n5439 ≥ 0 := by have hh := mt (nI_ltI (a := n5439) (b := 0) (by omega) (by omega)).mpr q18; omega
        refine m_iload_n F rfl e_X7_readNameOnce_21 ?_
        refine m_iconst F (v := 4) (by decide) e_X7_readNameOnce_22 ?_
        refine m_icmp_lt F e_X7_readNameOnce_23 (fun q23 => ?_) (fun q23 => ?_)
        · have c23 : n5439 < 4 := (nI_ltI (a := n5439) (b := 4) (by omega) (by omega)).mp q23
          refine m_aload_n F rfl e_X7_readNameOnce_34 ?_
          refine t_get F e_X7_readNameOnce_35 fl_X7_9 (fun _ => o3) h5436 hk rfl (fun v hv f5440 => ?_)
          obtain ⟨r5441, k5442, rfl⟩ := hv
          refine m_iload_n F rfl e_X7_readNameOnce_38 ?_
          refine t_iald F (len := 4) (j := n5439) e_X7_readNameOnce_39 (fun _ => o4) h5436 k5442 (nI_clamp (by omega)) (vp_in_nI (by omega) (by decide)) (fun x5443 => ?_)
          refine m_iload_n F rfl e_X7_readNameOnce_40 ?_
          refine m_iand F e_X7_readNameOnce_41 ?_
          refine Wm.top (fun x5444 _ => ?_)
          refine m_if_eq F e_X7_readNameOnce_42 (fun q42 => ?_) (fun q42 => ?_)
          · refine m_aload_n F rfl e_X7_readNameOnce_51 ?_
            refine t_getC F e_X7_readNameOnce_52 fl_X7_9 (fun _ => o3) h5436 hk (f5440) ?_
            refine m_iload_n F rfl e_X7_readNameOnce_55 ?_
            refine m_dup2_11 F rfl rfl e_X7_readNameOnce_56 ?_
            refine t_iald F (len := 4) (j := n5439) e_X7_readNameOnce_57 (fun _ => o4) h5436 k5442 (nI_clamp (by omega)) (vp_in_nI (by omega) (by decide)) (fun x5445 => ?_)
            refine m_iload_n F rfl e_X7_readNameOnce_58 ?_
            refine m_ior F e_X7_readNameOnce_59 ?_
            refine Wm.top (fun x5446 _ => ?_)
            refine t_iast F (len := 4) (j := n5439) e_X7_readNameOnce_60 (fun _ => o4) h5436 k5442 (nI_clamp (by omega)) (vp_in_nI (by omega) (by decide)) (by decide) (fun σ5447 h5448 g5449 => ?_)
            refine m_iload_n F rfl e_X7_readNameOnce_61 ?_
            exact m_iret F hQ e_X7_readNameOnce_62 (⟨h5448, Or.inr (Or.inl ⟨e5356, ⟨(g5449 a 11 (fun e => absurd ((hk).symm.trans e) (by decide))).trans ((fld_eq (h5437.2 a (by rw [show kA _ a = 3 from hk]; decide))).trans rd5360), (g5449 a 12 (fun e => absurd ((hk).symm.trans e) (by decide))).trans ((fld_eq (h5437.2 a (by rw [show kA _ a = 3 from hk]; decide))).trans rd5361)⟩, _, rfl⟩)⟩)
          · refine m_aload_n F rfl e_X7_readNameOnce_45 ?_
            refine m_iconst F (v := 3) (by decide) e_X7_readNameOnce_46 ?_
            refine m_iload_n F rfl e_X7_readNameOnce_47 ?_
            refine t_callV F e_X7_readNameOnce_48 (s_X7_failAtG (x_l X) V G b M Z T _ _ a 3 (nI st) 1 (nI st) h5436.1 hk  ((fld_eq (h5437.2 a (by rw [show kA _ a = 3 from hk]; decide))).trans rd5360) ((fld_eq (h5437.2 a (by rw [show kA _ a = 3 from hk]; decide))).trans rd5361) (by decide) (by omega)) cb_X7_failAt ml_X7_197 im_X7_failAt se_X7_failAt (fun _ => o3) h5436 hk rfl rfl (rest := []) rfl (Nat.le_of_ble_eq_true rfl) ⟨Nat.le_of_ble_eq_true rfl, Nat.le_of_ble_eq_true rfl⟩ ⟨Nat.le_of_ble_eq_true rfl, Nat.le_of_ble_eq_true rfl⟩ (fun r σ5450 hp => ?_)
            obtain ⟨h5451, rd5453, rd5454, rfl⟩ := hp
            have h5452 := HK.trans h5436 h5451 (by decide)
            refine m_aload_n F rfl e_X7_readNameOnce_51 ?_
            refine t_get F e_X7_readNameOnce_52 fl_X7_9 (fun _ => o3) h5452 hk rfl (fun v hv f5456 => ?_)
            obtain ⟨r5457, k5458, rfl⟩ := hv
            refine m_iload_n F rfl e_X7_readNameOnce_55 ?_
            refine m_dup2_11 F rfl rfl e_X7_readNameOnce_56 ?_
            refine t_iald F (len := 4) (j := n5439) e_X7_readNameOnce_57 (fun _ => o4) h5452 k5458 (nI_clamp (by omega)) (vp_in_nI (by omega) (by decide)) (fun x5459 => ?_)
            refine m_iload_n F rfl e_X7_readNameOnce_58 ?_
            refine m_ior F e_X7_readNameOnce_59 ?_
            refine Wm.top (fun x5460 _ => ?_)
            refine t_iast F (len := 4) (j := n5439) e_X7_readNameOnce_60 (fun _ => o4) h5452 k5458 (nI_clamp (by omega)) (vp_in_nI (by omega) (by decide)) (by decide) (fun σ5461 h5462 g5463 => ?_)
            refine m_iload_n F rfl e_X7_readNameOnce_61 ?_
            exact m_iret F hQ e_X7_readNameOnce_62 (⟨h5462, Or.inr (Or.inl ⟨e5356, ⟨(g5463 a 11 (fun e => absurd ((hk).symm.trans e) (by decide))).trans rd5453, (g5463 a 12 (fun e => absurd ((hk).symm.trans e) (by decide))).trans rd5454⟩, _, rfl⟩)⟩)
        · have c23 : n5439 ≥ 4 := by have hh := mt (nI_ltI (a := n5439) (b := 4) (by omega) (by omega)).mpr q23; omega
          exfalso; omega
    · refine m_istore_n F (lv' := [(3, .int (-1)), (2, .int (nI st)), (0, .ref a), (1, .int (nI (2 ^ b9)))]) e_X7_readNameOnce_16 (by decide) rfl ?_
      refine m_iload_n F rfl e_X7_readNameOnce_17 ?_
      refine m_if_lt F e_X7_readNameOnce_18 (fun _ => ?_) (fun q => absurd (by decide) q)
      refine m_aload_n F rfl e_X7_readNameOnce_26 ?_
      refine m_iconst F (v := 4) (by decide) e_X7_readNameOnce_27 ?_
      refine m_iload_n F rfl e_X7_readNameOnce_28 ?_
      refine t_callV F e_X7_readNameOnce_29 (s_X7_failAtG (x_l X) V G b M Z T _ _ a 4 (nI st) 1 (nI st) h5436.1 hk  ((fld_eq (h5437.2 a (by rw [show kA _ a = 3 from hk]; decide))).trans rd5360) ((fld_eq (h5437.2 a (by rw [show kA _ a = 3 from hk]; decide))).trans rd5361) (by decide) (by omega)) cb_X7_failAt ml_X7_197 im_X7_failAt se_X7_failAt (fun _ => o3) h5436 hk rfl rfl (rest := []) rfl (Nat.le_of_ble_eq_true rfl) ⟨Nat.le_of_ble_eq_true rfl, Nat.le_of_ble_eq_true rfl⟩ ⟨Nat.le_of_ble_eq_true rfl, Nat.le_of_ble_eq_true rfl⟩ (fun r σ5464 hp => ?_)
      obtain ⟨h5465, rd5467, rd5468, rfl⟩ := hp
      have h5466 := HK.trans h5436 h5465 (by decide)
      refine m_iconst F (v := (-1)) (by decide) e_X7_readNameOnce_32 ?_
      exact m_iret F hQ e_X7_readNameOnce_33 (⟨h5466, Or.inr (Or.inl ⟨e5356, ⟨rd5467, rd5468⟩, _, rfl⟩)⟩)
set_option maxRecDepth 20000 in
theorem s_X7_startLineE (l : Launch) (V : VX) (G : GH) (b M Z T N : Nat) (σ : Mem) (a : Nat) (x901 : Int32) (tp : Nat) (td : Nat) (n : Nat) (bk : Nat) (nx : Nat) (st : Nat) (tk : Int32) (vl : Int32) (py : Nat) (sd : Nat) (ln : Nat) (ft : Int32) (pl : Int32) (t : Nat → Nat) (s9 : Nat) (v9 : Nat) (h0 : HT V G (b, M, Z, T) σ) (hk : kA b a = 3) (hp0 : ft = 0) (hp1 : CT tk vl s9 v9) (hp2 : nx ≤ n) (hp3 : st ≤ n) (hp4 : x901 = 0) (hR : RD σ a tp td n bk nx st tk vl py sd ln ft pl) (hB : BY V σ tp n t) (hn7 : n ≤ 700) (hsd : sd ≤ 1) (htp : kA b tp = 2) (htd : kA b td = 4) (hbk : kA b bk = 7) (hgb : ¬ G.gd (blk (bk - b)) = 1) (hM : M + 0 ≤ 1000000000) : Ct l V yX7_startLine cX7_startLine 2 none 2 0 0 N σ [.ref a, .int x901] (fun r τ => HK V G (b, M, Z, T) [0, 1, 2, 4, 5, 6, 7, 8, 9, 10, 11, 12, 13, 14, 15, 16, 17, 18, 19] σ τ ∧ (∃ tk2 vl2, CT tk2 vl2 (tok t n nx).2.1 (tok t n nx).2.2.1 ∧ RD τ a tp td n bk (tok t n nx).2.2.2 (tok t n nx).1 tk2 vl2 py sd ln 0 pl) ∧ r = none) := by
  refine Ct.of (by decide) (Nat.le_of_ble_eq_true rfl) [(0, .ref a), (1, .int x901)] rfl (fun X hX F hQ => ?_)
  have h1 : HK V G (b, M, Z, T) [0, 1, 2, 4, 5, 6, 7, 8, 9, 10, 11, 12, 13, 14, 15, 16, 17, 18, 19] σ σ := HK.start h0
  have hrd5470 := hR
  obtain ⟨rd5470, rd5471, rd5472, rd5473, rd5474, rd5475, rd5476, rd5477, rd5478, rd5479, rd5480, rd5481, rd5482⟩ := hrd5470
  subst hp0
  refine m_iload_n F rfl e_X7_startLine_0 ?_
  refine m_if_eq F e_X7_startLine_1 (fun q1 => ?_) (fun q1 => ?_)
  · refine m_aload_n F rfl e_X7_startLine_10 ?_
    refine t_callV F e_X7_startLine_11 (s_X7_advanceE (x_l X) V G b M Z T _ _ a  tp td n bk nx st tk vl py sd ln 0 pl t h1.1 hk (by omega) ⟨rd5470, rd5471, rd5472, rd5473, rd5474, rd5475, rd5476, rd5477, rd5478, rd5479, rd5480, rd5481, rd5482⟩ (hB.keep (h1.2 tp (by rw [show kA _ tp = 2 from htp]; decide))) hn7 hsd htp htd hbk hgb (by omega)) cb_X7_advance ml_X7_58 im_X7_advance se_X7_advance (fun _ => o3) h1 hk rfl rfl (rest := []) rfl (Nat.le_of_ble_eq_true rfl) ⟨Nat.le_of_ble_eq_true rfl, Nat.le_of_ble_eq_true rfl⟩ ⟨Nat.le_of_ble_eq_true rfl, Nat.le_of_ble_eq_true rfl⟩ (fun r σ5483 hp => ?_)
    obtain ⟨h5484, ⟨tk5499, vl5500, ct5501, rd5486, rd5487, rd5488, rd5489, rd5490, rd5491, rd5492, rd5493, rd5494, rd5495, rd5496, rd5497, rd5498⟩, rfl⟩ := hp
    have h5485 := HK.trans h1 h5484 (by decide)
    exact m_vret F hQ e_X7_startLine_14 (⟨h5485, ⟨tk5499, vl5500, ct5501, ⟨rd5486, rd5487, rd5488, rd5489, rd5490, rd5491, rd5492, rd5493, rd5494, rd5495, rd5496, rd5497, rd5498⟩⟩, rfl⟩)
  · exact absurd hp4 q1
theorem nI_inj9 {a b : Nat} (ha : a < 2147483648) (hb : b < 2147483648) (h : nI a = nI b) : a = b := by
  have h1 := congrArg Int32.toInt h
  rw [nI_ti ha, nI_ti hb] at h1
  omega
set_option maxRecDepth 20000 in
theorem s_X7_startLineR (l : Launch) (V : VX) (G : GH) (b M Z T N : Nat) (σ : Mem) (a : Nat) (n901 : Nat) (tp : Nat) (td : Nat) (n : Nat) (bk : Nat) (nx : Nat) (st : Nat) (tk : Int32) (vl : Int32) (py : Nat) (sd : Nat) (ln : Nat) (ft : Int32) (pl : Int32) (t : Nat → Nat) (h0 : HT V G (b, M, Z, T) σ) (hk : kA b a = 3) (hn901 : n901 ≤ 4) (hp0 : ft = 0) (hp1 : 1 ≤ n901) (hR : RD σ a tp td n bk nx st tk vl py sd ln ft pl) (hB : BY V σ tp n t) (hn7 : n ≤ 700) (hsd : sd ≤ 1) (htp : kA b tp = 2) (htd : kA b td = 4) (hbk : kA b bk = 7) (hgb : ¬ G.gd (blk (bk - b)) = 1) (hM : M + 0 ≤ 1000000000) : Ct l V yX7_startLine cX7_startLine 2 none 2 0 0 N σ [.ref a, .int (nI n901)] (fun r τ => HK V G (b, M, Z, T) [0, 1, 2, 4, 5, 6, 7, 8, 9, 10, 11, 12, 13, 14, 15, 16, 17, 18, 19] σ τ ∧ FT τ a n901 st ∧ r = none) := by
  refine Ct.of (by decide) (Nat.le_of_ble_eq_true rfl) [(0, .ref a), (1, .int (nI n901))] rfl (fun X hX F hQ => ?_)
  have h1 : HK V G (b, M, Z, T) [0, 1, 2, 4, 5, 6, 7, 8, 9, 10, 11, 12, 13, 14, 15, 16, 17, 18, 19] σ σ := HK.start h0
  have hrd5502 := hR
  obtain ⟨rd5502, rd5503, rd5504, rd5505, rd5506, rd5507, rd5508, rd5509, rd5510, rd5511, rd5512, rd5513, rd5514⟩ := hrd5502
  subst hp0
  refine m_iload_n F rfl e_X7_startLine_0 ?_
  refine m_if_eq F e_X7_startLine_1 (fun q1 => ?_) (fun q1 => ?_)
  · have c1 : n901 = 0 := (nI_eq (a := n901) (b := 0) (by omega) (by omega)).mp q1
    exfalso; omega
  · have c1 : n901 ≠ 0 := by have hh := mt (nI_eq (a := n901) (b := 0) (by omega) (by omega)).mpr q1; omega
    refine m_aload_n F rfl e_X7_startLine_4 ?_
    refine m_iload_n F rfl e_X7_startLine_5 ?_
    refine t_callV F e_X7_startLine_6 (s_X7_failE (x_l X) V G b M Z T _ _ a (nI n901) tp td n bk nx st tk vl py sd ln 0 pl t h1.1 hk rfl (fun e => absurd (nI_inj9 (b := 0) (by omega) (by omega) e) (by omega)) ⟨rd5502, rd5503, rd5504, rd5505, rd5506, rd5507, rd5508, rd5509, rd5510, rd5511, rd5512, rd5513, rd5514⟩ (hB.keep (h1.2 tp (by rw [show kA _ tp = 2 from htp]; decide))) hn7 hsd htp htd hbk hgb (by omega)) cb_X7_fail ml_X7_77 im_X7_fail se_X7_fail (fun _ => o3) h1 hk rfl rfl (rest := []) rfl (Nat.le_of_ble_eq_true rfl) ⟨Nat.le_of_ble_eq_true rfl, Nat.le_of_ble_eq_true rfl⟩ ⟨Nat.le_of_ble_eq_true rfl, Nat.le_of_ble_eq_true rfl⟩ (fun r σ5515 hp => ?_)
    obtain ⟨h5516, ⟨rd5518, rd5519, rd5520, rd5521, rd5522, rd5523, rd5524, rd5525, rd5526, rd5527, rd5528, rd5529, rd5530⟩, rfl⟩ := hp
    have h5517 := HK.trans h1 h5516 (by decide)
    exact m_vret F hQ e_X7_startLine_9 (⟨h5517, ⟨rd5529, rd5530⟩, rfl⟩)
set_option maxRecDepth 20000 in
theorem s_X5_tellE (l : Launch) (V : VX) (G : GH) (b M Z T N : Nat) (σ : Mem) (a : Nat) (n901 : Nat) (x902 : Int32) (x903 : Int32) (x904 : Int32) (h0 : HT V G (b, M, Z, T) σ) (hk : kA b a = 15) (hn901 : n901 ≤ 1073741823) (hg : ¬ G.gd (blk (a - b)) = 1) (hM : M + 0 ≤ 1000000000) : Ct l V yX5_tell cX5_tell 5 none 4 0 0 N σ [.ref a, .int (nI n901), .int x902, .int x903, .int x904] (fun r τ => HK V G (b, M, Z, T) [0, 1, 2, 3, 4, 5, 7, 8, 9, 10, 11, 12, 13, 14, 16, 19] σ τ ∧ fld τ a 0 = some (.int (nI n901)) ∧ (∀ x, x ≠ a → kA b x = 15 → fld τ x 0 = fld σ x 0) ∧ r = none) := by
  refine Ct.of (by decide) (Nat.le_of_ble_eq_true rfl) [(0, .ref a), (1, .int (nI n901)), (2, .int x902), (3, .int x903), (4, .int x904)] rfl (fun X hX F hQ => ?_)
  have h1 : HK V G (b, M, Z, T) [0, 1, 2, 3, 4, 5, 7, 8, 9, 10, 11, 12, 13, 14, 16, 19] σ σ := HK.start h0
  refine m_aload_n F rfl e_X5_tell_0 ?_
  refine m_iload_n F rfl e_X5_tell_1 ?_
  refine t_putC F e_X5_tell_2 fp_X5_35 (fun _ => o15) h1 hk rfl ⟨_, fun e => absurd e hg, rfl⟩ rfl rfl (by decide) (fun σ5531 h5532 g5533 g5534 f5535 => ?_)
  have ot5536 : ∀ x, x ≠ a → kA b x = 15 → fld _ x 0 = fld _ x 0 := fun x h1 h2 => (fld_eq (g5533 x h1)).trans ((fun _ _ _ => rfl) x h1 h2)
  refine m_aload_n F rfl e_X5_tell_5 ?_
  refine m_iload_n F rfl e_X5_tell_6 ?_
  refine t_putC F e_X5_tell_7 fp_X5_39 (fun _ => o15) h5532 hk rfl ⟨_, rfl⟩ rfl rfl (by decide) (fun σ5537 h5538 g5539 g5540 f5541 => ?_)
  have ot5542 : ∀ x, x ≠ a → kA b x = 15 → fld _ x 0 = fld _ x 0 := fun x h1 h2 => (fld_eq (g5539 x h1)).trans (ot5536 x h1 h2)
  refine m_aload_n F rfl e_X5_tell_10 ?_
  refine m_iload_n F rfl e_X5_tell_11 ?_
  refine t_putC F e_X5_tell_12 fp_X5_42 (fun _ => o15) h5538 hk rfl ⟨_, rfl⟩ rfl rfl (by decide) (fun σ5543 h5544 g5545 g5546 f5547 => ?_)
  have ot5548 : ∀ x, x ≠ a → kA b x = 15 → fld _ x 0 = fld _ x 0 := fun x h1 h2 => (fld_eq (g5545 x h1)).trans (ot5542 x h1 h2)
  refine m_aload_n F rfl e_X5_tell_15 ?_
  refine m_iload F rfl e_X5_tell_16 ?_
  refine t_putC F e_X5_tell_18 fp_X5_45 (fun _ => o15) h5544 hk rfl ⟨_, rfl⟩ rfl rfl (by decide) (fun σ5549 h5550 g5551 g5552 f5553 => ?_)
  have ot5554 : ∀ x, x ≠ a → kA b x = 15 → fld _ x 0 = fld _ x 0 := fun x h1 h2 => (fld_eq (g5551 x h1)).trans (ot5548 x h1 h2)
  refine m_aload_n F rfl e_X5_tell_21 ?_
  refine m_iconst F (v := 0) (by decide) e_X5_tell_22 ?_
  refine t_putC F e_X5_tell_23 fp_X5_48 (fun _ => o15) h5550 hk rfl ⟨_, rfl⟩ rfl rfl (by decide) (fun σ5555 h5556 g5557 g5558 f5559 => ?_)
  have ot5560 : ∀ x, x ≠ a → kA b x = 15 → fld _ x 0 = fld _ x 0 := fun x h1 h2 => (fld_eq (g5557 x h1)).trans (ot5554 x h1 h2)
  refine m_aload_n F rfl e_X5_tell_26 ?_
  refine m_iconst F (v := 0) (by decide) e_X5_tell_27 ?_
  refine t_putC F e_X5_tell_28 fp_X5_51 (fun _ => o15) h5556 hk rfl ⟨_, rfl⟩ rfl rfl (by decide) (fun σ5561 h5562 g5563 g5564 f5565 => ?_)
  have ot5566 : ∀ x, x ≠ a → kA b x = 15 → fld _ x 0 = fld _ x 0 := fun x h1 h2 => (fld_eq (g5563 x h1)).trans (ot5560 x h1 h2)
  refine m_aload_n F rfl e_X5_tell_31 ?_
  refine m_iconst F (v := 0) (by decide) e_X5_tell_32 ?_
  refine t_putC F e_X5_tell_33 fp_X5_54 (fun _ => o15) h5562 hk rfl ⟨_, rfl⟩ rfl rfl (by decide) (fun σ5567 h5568 g5569 g5570 f5571 => ?_)
  have ot5572 : ∀ x, x ≠ a → kA b x = 15 → fld _ x 0 = fld _ x 0 := fun x h1 h2 => (fld_eq (g5569 x h1)).trans (ot5566 x h1 h2)
  refine m_aload_n F rfl e_X5_tell_36 ?_
  refine m_iconst F (v := 0) (by decide) e_X5_tell_37 ?_
  refine t_putC F e_X5_tell_38 fp_X5_57 (fun _ => o15) h5568 hk rfl ⟨_, rfl⟩ rfl rfl (by decide) (fun σ5573 h5574 g5575 g5576 f5577 => ?_)
  have ot5578 : ∀ x, x ≠ a → kA b x = 15 → fld _ x 0 = fld _ x 0 := fun x h1 h2 => (fld_eq (g5575 x h1)).trans (ot5572 x h1 h2)
  refine m_aload_n F rfl e_X5_tell_41 ?_
  refine m_iconst F (v := 0) (by decide) e_X5_tell_42 ?_
  refine t_putC F e_X5_tell_43 fp_X5_60 (fun _ => o15) h5574 hk rfl ⟨_, rfl⟩ rfl rfl (by decide) (fun σ5579 h5580 g5581 g5582 f5583 => ?_)
  have ot5584 : ∀ x, x ≠ a → kA b x = 15 → fld _ x 0 = fld _ x 0 := fun x h1 h2 => (fld_eq (g5581 x h1)).trans (ot5578 x h1 h2)
  refine m_aload_n F rfl e_X5_tell_46 ?_
  refine m_iconst F (v := 0) (by decide) e_X5_tell_47 ?_
  refine t_putC F e_X5_tell_48 fp_X5_63 (fun _ => o15) h5580 hk rfl ⟨_, rfl⟩ rfl rfl (by decide) (fun σ5585 h5586 g5587 g5588 f5589 => ?_)
  have ot5590 : ∀ x, x ≠ a → kA b x = 15 → fld _ x 0 = fld _ x 0 := fun x h1 h2 => (fld_eq (g5587 x h1)).trans (ot5584 x h1 h2)
  refine m_aload_n F rfl e_X5_tell_51 ?_
  refine m_iconst F (v := 0) (by decide) e_X5_tell_52 ?_
  refine t_putC F e_X5_tell_53 fp_X5_66 (fun _ => o15) h5586 hk rfl ⟨0, (show 0 ≤ 1 by omega), rfl⟩ (by decide) rfl (by decide) (fun σ5591 h5592 g5593 g5594 f5595 => ?_)
  have ot5596 : ∀ x, x ≠ a → kA b x = 15 → fld _ x 0 = fld _ x 0 := fun x h1 h2 => (fld_eq (g5593 x h1)).trans (ot5590 x h1 h2)
  refine m_aload_n F rfl e_X5_tell_56 ?_
  refine m_iconst F (v := 0) (by decide) e_X5_tell_57 ?_
  refine t_putC F e_X5_tell_58 fp_X5_70 (fun _ => o15) h5592 hk rfl ⟨0, (show 0 ≤ 1 by omega), rfl⟩ (by decide) rfl (by decide) (fun σ5597 h5598 g5599 g5600 f5601 => ?_)
  have ot5602 : ∀ x, x ≠ a → kA b x = 15 → fld _ x 0 = fld _ x 0 := fun x h1 h2 => (fld_eq (g5599 x h1)).trans (ot5596 x h1 h2)
  refine m_aload_n F rfl e_X5_tell_61 ?_
  refine m_iconst F (v := 0) (by decide) e_X5_tell_62 ?_
  refine t_putC F e_X5_tell_63 fp_X5_73 (fun _ => o15) h5598 hk rfl ⟨0, (show 0 ≤ 1 by omega), rfl⟩ (by decide) rfl (by decide) (fun σ5603 h5604 g5605 g5606 f5607 => ?_)
  have ot5608 : ∀ x, x ≠ a → kA b x = 15 → fld _ x 0 = fld _ x 0 := fun x h1 h2 => (fld_eq (g5605 x h1)).trans (ot5602 x h1 h2)
  refine m_aload_n F rfl e_X5_tell_66 ?_
  refine t_get F e_X5_tell_67 fl_X5_12 (fun _ => o15) h5604 hk rfl (fun v hv f5609 => ?_)
  obtain ⟨r5610, k5611, rfl⟩ := hv
  refine m_lconst F (v := 0) (by decide) e_X5_tell_70 ?_
  refine t_callV F e_X5_tell_71 (s_X1_set (x_l X) V G b M Z T _ _ r5610 0 h5604.1 k5611  (by omega)) cb_X1_set ml_X5_76 im_X1_set se_X1_set (fun _ => o6) h5604 k5611 rfl rfl (rest := []) rfl (Nat.le_of_ble_eq_true rfl) ⟨Nat.le_of_ble_eq_true rfl, Nat.le_of_ble_eq_true rfl⟩ ⟨Nat.le_of_ble_eq_true rfl, Nat.le_of_ble_eq_true rfl⟩ (fun r σ5612 hp => ?_)
  obtain ⟨h5614, rfl⟩ := hp
  have h5613 := HK.trans h5604 h5614 (by decide)
  have ot5615 : ∀ x, x ≠ a → kA b x = 15 → fld _ x 0 = fld _ x 0 := fun x h1 h2 => (fld_eq (h5614.2 x (by rw [show kA _ x = 15 from h2]; decide))).trans (ot5608 x h1 h2)
  refine m_aload_n F rfl e_X5_tell_74 ?_
  refine t_get F e_X5_tell_75 fl_X5_18 (fun _ => o15) h5613 hk rfl (fun v hv f5616 => ?_)
  obtain ⟨r5617, k5618, rfl⟩ := hv
  refine m_lconst F (v := 0) (by decide) e_X5_tell_78 ?_
  refine t_callV F e_X5_tell_79 (s_X1_set (x_l X) V G b M Z T _ _ r5617 0 h5613.1 k5618  (by omega)) cb_X1_set ml_X5_76 im_X1_set se_X1_set (fun _ => o6) h5613 k5618 rfl rfl (rest := []) rfl (Nat.le_of_ble_eq_true rfl) ⟨Nat.le_of_ble_eq_true rfl, Nat.le_of_ble_eq_true rfl⟩ ⟨Nat.le_of_ble_eq_true rfl, Nat.le_of_ble_eq_true rfl⟩ (fun r σ5619 hp => ?_)
  obtain ⟨h5621, rfl⟩ := hp
  have h5620 := HK.trans h5613 h5621 (by decide)
  have ot5622 : ∀ x, x ≠ a → kA b x = 15 → fld _ x 0 = fld _ x 0 := fun x h1 h2 => (fld_eq (h5621.2 x (by rw [show kA _ x = 15 from h2]; decide))).trans (ot5615 x h1 h2)
  refine m_aload_n F rfl e_X5_tell_82 ?_
  refine t_get F e_X5_tell_83 fl_X5_24 (fun _ => o15) h5620 hk rfl (fun v hv f5623 => ?_)
  obtain ⟨r5624, k5625, rfl⟩ := hv
  refine m_bipush F (v := 72) (by decide) e_X5_tell_86 ?_
  refine m_lconst F (v := 0) (by decide) e_X5_tell_88 ?_
  refine t_callV F e_X5_tell_89 (s_X8_fill (x_l X) V G b M Z T _ _ r5624 72 0 h5620.1 k5625  (by omega)) cb_X8_fill ml_X5_80 im_X8_fill se_X8_fill (fun _ => o16) h5620 k5625 rfl rfl (rest := []) rfl (Nat.le_of_ble_eq_true rfl) ⟨Nat.le_of_ble_eq_true rfl, Nat.le_of_ble_eq_true rfl⟩ ⟨Nat.le_of_ble_eq_true rfl, Nat.le_of_ble_eq_true rfl⟩ (fun r σ5626 hp => ?_)
  obtain ⟨h5628, rfl⟩ := hp
  have h5627 := HK.trans h5620 h5628 (by decide)
  have ot5629 : ∀ x, x ≠ a → kA b x = 15 → fld _ x 0 = fld _ x 0 := fun x h1 h2 => (fld_eq (h5628.2 x (by rw [show kA _ x = 15 from h2]; decide))).trans (ot5622 x h1 h2)
  refine m_aload_n F rfl e_X5_tell_92 ?_
  refine t_get F e_X5_tell_93 fl_X5_28 (fun _ => o15) h5627 hk rfl (fun v hv f5630 => ?_)
  obtain ⟨r5631, k5632, rfl⟩ := hv
  refine m_bipush F (v := 72) (by decide) e_X5_tell_96 ?_
  refine m_lconst F (v := 0) (by decide) e_X5_tell_98 ?_
  refine t_callV F e_X5_tell_99 (s_X8_fill (x_l X) V G b M Z T _ _ r5631 72 0 h5627.1 k5632  (by omega)) cb_X8_fill ml_X5_80 im_X8_fill se_X8_fill (fun _ => o16) h5627 k5632 rfl rfl (rest := []) rfl (Nat.le_of_ble_eq_true rfl) ⟨Nat.le_of_ble_eq_true rfl, Nat.le_of_ble_eq_true rfl⟩ ⟨Nat.le_of_ble_eq_true rfl, Nat.le_of_ble_eq_true rfl⟩ (fun r σ5633 hp => ?_)
  obtain ⟨h5635, rfl⟩ := hp
  have h5634 := HK.trans h5627 h5635 (by decide)
  have ot5636 : ∀ x, x ≠ a → kA b x = 15 → fld _ x 0 = fld _ x 0 := fun x h1 h2 => (fld_eq (h5635.2 x (by rw [show kA _ x = 15 from h2]; decide))).trans (ot5629 x h1 h2)
  refine m_aload_n F rfl e_X5_tell_102 ?_
  refine t_get F e_X5_tell_103 fl_X5_31 (fun _ => o15) h5634 hk rfl (fun v hv f5637 => ?_)
  obtain ⟨r5638, k5639, rfl⟩ := hv
  refine m_lconst F (v := 0) (by decide) e_X5_tell_106 ?_
  refine m_callS F e_X5_tell_107 (s_J7_fill_d0a16_18 (x_l X) V G b M Z T _ _ r5638 0 h5634.1 k5639 (by omega)) cb_J7_fill_d0a16 ml_X5_84 sm_J7_fill_d0a16 rfl (rest := []) rfl (Nat.le_of_ble_eq_true rfl) ⟨Nat.le_of_ble_eq_true rfl, Nat.le_of_ble_eq_true rfl⟩ ⟨Nat.le_of_ble_eq_true rfl, Nat.le_of_ble_eq_true rfl⟩ (k' := 0) (z' := 0) (N' := N) rfl rfl rfl (fun r σ5640 hp => ?_)
  obtain ⟨h5642, rfl⟩ := hp
  have h5641 := HK.trans h5634 h5642 (by decide)
  have ot5643 : ∀ x, x ≠ a → kA b x = 15 → fld _ x 0 = fld _ x 0 := fun x h1 h2 => (fld_eq (h5642.2 x (by rw [show kA _ x = 15 from h2]; decide))).trans (ot5636 x h1 h2)
  exact m_vret F hQ e_X5_tell_110 (⟨h5641, (fld_eq (h5642.2 a (by rw [show kA _ a = 15 from hk]; decide))).trans ((fld_eq (h5635.2 a (by rw [show kA _ a = 15 from hk]; decide))).trans ((fld_eq (h5628.2 a (by rw [show kA _ a = 15 from hk]; decide))).trans ((fld_eq (h5621.2 a (by rw [show kA _ a = 15 from hk]; decide))).trans ((fld_eq (h5614.2 a (by rw [show kA _ a = 15 from hk]; decide))).trans ((g5606 0 (by decide)).trans ((g5600 0 (by decide)).trans ((g5594 0 (by decide)).trans ((g5588 0 (by decide)).trans ((g5582 0 (by decide)).trans ((g5576 0 (by decide)).trans ((g5570 0 (by decide)).trans ((g5564 0 (by decide)).trans ((g5558 0 (by decide)).trans ((g5552 0 (by decide)).trans ((g5546 0 (by decide)).trans ((g5540 0 (by decide)).trans f5535)))))))))))))))), ot5643, rfl⟩)
set_option maxRecDepth 20000 in
theorem s_X2_addLeaseE (l : Launch) (V : VX) (G : GH) (b M Z T N : Nat) (σ : Mem) (a : Nat) (n901 : Nat) (x902 : Int32) (x903 : Int32) (x904 : Int32) (nl : Nat) (nm : Nat → Nat) (nc : Nat) (lc : Nat) (no : Nat) (h0 : HT V G (b, M, Z, T) σ) (hk : kA b a = 7) (hn901 : n901 ≤ 1073741823) (hp0 : nl < 4) (hg : ¬ G.gd (blk (a - b)) = 1) (hBX : BX σ a nl nm nc lc no) (hM : M + 0 ≤ 1000000000) : Ct l V yX2_addLease cX2_addLease 5 none 5 0 0 N σ [.ref a, .int (nI n901), .int x902, .int x903, .int x904] (fun r τ => HK V G (b, M, Z, T) [0, 1, 2, 3, 4, 5, 8, 9, 10, 11, 12, 13, 14, 16, 19] σ τ ∧ BX τ a (nl + 1) (upn nm nl n901) nc lc no ∧ r = none) := by
  refine Ct.of (by decide) (Nat.le_of_ble_eq_true rfl) [(0, .ref a), (1, .int (nI n901)), (2, .int x902), (3, .int x903), (4, .int x904)] rfl (fun X hX F hQ => ?_)
  have h1 : HK V G (b, M, Z, T) [0, 1, 2, 3, 4, 5, 8, 9, 10, 11, 12, 13, 14, 16, 19] σ σ := HK.start h0
  have hbb5644 := hBX
  obtain ⟨bb5644, bb5645, bb5646, bb5647, bb5648, bb5649, bb5650, bb5651⟩ := hbb5644
  refine m_aload_n F rfl e_X2_addLease_0 ?_
  refine t_getC F e_X2_addLease_1 fl_X2_58 (fun _ => o7) h1 hk (bb5644) ?_
  refine m_iconst F (v := 4) (by decide) e_X2_addLease_4 ?_
  refine m_icmp_ge F e_X2_addLease_5 (fun q5 => ?_) (fun q5 => ?_)
  · have c5 : nl ≥ 4 := (nI_leI (a := 4) (b := nl) (by omega) (by omega)).mp q5
    exfalso; omega
  · have c5 : nl < 4 := by have hh := mt (nI_leI (a := 4) (b := nl) (by omega) (by omega)).mpr q5; omega
    refine m_aload_n F rfl e_X2_addLease_8 ?_
    refine t_get F e_X2_addLease_9 fl_X2_11 (fun _ => o7) h1 hk rfl (fun v hv f5652 => ?_)
    obtain rfl : v = .ref (a + 1) := hv
    refine m_aload_n F rfl e_X2_addLease_12 ?_
    refine t_getC F e_X2_addLease_13 fl_X2_58 (fun _ => o7) h1 hk (bb5644) ?_
    refine t_aald8 F (j := nl) e_X2_addLease_16 rfl h1 (kA_7 hk (r := 1) (by decide)) (nI_clamp (by omega)) (vp_in_nI (by omega) (by decide)) ?_
    refine m_iload_n F rfl e_X2_addLease_17 ?_
    refine m_iload_n F rfl e_X2_addLease_18 ?_
    refine m_iload_n F rfl e_X2_addLease_19 ?_
    refine m_iload F rfl e_X2_addLease_20 ?_
    refine t_callV F e_X2_addLease_22 (s_X5_tellE (x_l X) V G b M Z T _ _ ((a + 1) + 10 + 12 * nl) n901 x902 x903 x904 h1.1 (kA_8 (kA_7 hk (r := 1) (by decide)) (j := nl) (by omega)) (by omega) (gd_le hk (j := nl) (by omega) hg) (by omega)) cb_X5_tell ml_X2_93 im_X5_tell se_X5_tell (fun _ => o15) h1 (kA_8 (kA_7 hk (r := 1) (by decide)) (j := nl) (by omega)) rfl rfl (rest := []) rfl (Nat.le_of_ble_eq_true rfl) ⟨Nat.le_of_ble_eq_true rfl, Nat.le_of_ble_eq_true rfl⟩ ⟨Nat.le_of_ble_eq_true rfl, Nat.le_of_ble_eq_true rfl⟩ (fun r σ5653 hp => ?_)
    obtain ⟨h5654, el5656, ot5657, rfl⟩ := hp
    have h5655 := HK.trans h1 h5654 (by decide)
    refine m_aload_n F rfl e_X2_addLease_25 ?_
    refine m_dup F rfl e_X2_addLease_26 ?_
    refine t_getC F e_X2_addLease_27 fl_X2_58 (fun _ => o7) h5655 hk ((fld_eq (h5654.2 a (by rw [show kA _ a = 7 from hk]; decide))).trans bb5644) ?_
    refine m_iconst F (v := 1) (by decide) e_X2_addLease_30 ?_
    refine m_iadd F e_X2_addLease_31 ?_
    refine Wm.topE (w := nI (nl + 1)) (nI_add nl 1) ?_
    refine t_putC F e_X2_addLease_32 fp_X2_58 (fun _ => o7) h5655 hk rfl ⟨nl + 1, ⟨(show nl + 1 ≤ 4 by omega), fun e => absurd e hg⟩, rfl⟩ rfl rfl (by decide) (fun σ5658 h5659 g5660 g5661 f5662 => ?_)
    have ot5663 : ∀ x, x ≠ ((a + 1) + 10 + 12 * nl) → kA b x = 15 → fld _ x 0 = fld _ x 0 := fun x h1 h2 => (fld_eq (g5660 x (kdn h2 hk (by decide)))).trans (ot5657 x h1 h2)
    exact m_vret F hQ e_X2_addLease_35 (⟨h5659, BX.addL hBX hk (by omega) (by omega) (f5662) (((g5661 9 (by decide)).trans ((fld_eq (h5654.2 a (by rw [show kA _ a = 7 from hk]; decide))).trans bb5645)).trans bb5645.symm) (((g5661 10 (by decide)).trans ((fld_eq (h5654.2 a (by rw [show kA _ a = 7 from hk]; decide))).trans bb5646)).trans bb5646.symm) (h5659.2 (a + 4) (by rw [show kA _ (a + 4) = 11 from kA_7 hk (r := 4) (by decide)]; decide)) ((fld_eq (g5660 ((a + 1) + 10 + 12 * nl) (kdn (kA_8 (kA_7 hk (r := 1) (by decide)) (j := nl) (by omega)) hk (by decide)))).trans el5656) ot5663, rfl⟩)
set_option maxRecDepth 20000 in
theorem s_X2_addOptionE (l : Launch) (V : VX) (G : GH) (b M Z T N : Nat) (σ : Mem) (a : Nat) (n901 : Nat) (n902 : Nat) (x903 : Int32) (nl : Nat) (nm : Nat → Nat) (nc : Nat) (lc : Nat) (no : Nat) (h0 : HT V G (b, M, Z, T) σ) (hk : kA b a = 7) (hn901 : n901 ≤ 3) (hn902 : n902 ≤ 24) (hp0 : no < 4) (hBX : BX σ a nl nm nc lc no) (hM : M + 0 ≤ 1000000000) : Ct l V yX2_addOption cX2_addOption 5 none 0 0 0 N σ [.ref a, .int (nI n901), .int (nI n902), .int x903] (fun r τ => HK V G (b, M, Z, T) [0, 1, 2, 3, 4, 5, 6, 8, 9, 10, 11, 12, 13, 14, 15, 16, 17, 18] σ τ ∧ BX τ a nl nm nc lc (no + 1) ∧ r = none) := by
  refine Ct.of (by decide) (Nat.le_of_ble_eq_true rfl) [(0, .ref a), (1, .int (nI n901)), (2, .int (nI n902)), (3, .int x903)] rfl (fun X hX F hQ => ?_)
  have h1 : HK V G (b, M, Z, T) [0, 1, 2, 3, 4, 5, 6, 8, 9, 10, 11, 12, 13, 14, 15, 16, 17, 18] σ σ := HK.start h0
  have hbb5664 := hBX
  obtain ⟨bb5664, bb5665, bb5666, bb5667, bb5668, bb5669, bb5670, bb5671⟩ := hbb5664
  refine m_aload_n F rfl e_X2_addOption_0 ?_
  refine t_getC F e_X2_addOption_1 fl_X2_62 (fun _ => o7) h1 hk (bb5665) ?_
  refine m_iconst F (v := 4) (by decide) e_X2_addOption_4 ?_
  refine m_icmp_ge F e_X2_addOption_5 (fun q5 => ?_) (fun q5 => ?_)
  · have c5 : no ≥ 4 := (nI_leI (a := 4) (b := no) (by omega) (by omega)).mp q5
    exfalso; omega
  · have c5 : no < 4 := by have hh := mt (nI_leI (a := 4) (b := no) (by omega) (by omega)).mpr q5; omega
    refine m_aload_n F rfl e_X2_addOption_8 ?_
    refine t_get F e_X2_addOption_9 fl_X2_19 (fun _ => o7) h1 hk rfl (fun v hv f5672 => ?_)
    obtain rfl : v = .ref (a + 2) := hv
    refine m_aload_n F rfl e_X2_addOption_12 ?_
    refine t_getC F e_X2_addOption_13 fl_X2_62 (fun _ => o7) h1 hk (bb5665) ?_
    refine t_aald9 F (j := no) e_X2_addOption_16 rfl h1 (kA_7 hk (r := 2) (by decide)) (nI_clamp (by omega)) (vp_in_nI (by omega) (by decide)) ?_
    refine m_astore F (lv' := [(4, .ref ((a + 2) + 57 + no)), (0, .ref a), (1, .int (nI n901)), (2, .int (nI n902)), (3, .int x903)]) e_X2_addOption_17 (by decide) rfl ?_
    refine m_aload F rfl e_X2_addOption_19 ?_
    refine m_iload_n F rfl e_X2_addOption_21 ?_
    refine t_putC F e_X2_addOption_22 fp_X2_97 (fun _ => o19) h1 (kA_9 (kA_7 hk (r := 2) (by decide)) (j := no) (by omega)) rfl ⟨n901, (show n901 ≤ 3 by omega), rfl⟩ rfl rfl (by decide) (fun σ5673 h5674 g5675 g5676 f5677 => ?_)
    refine m_aload F rfl e_X2_addOption_25 ?_
    refine m_iload_n F rfl e_X2_addOption_27 ?_
    refine t_putC F e_X2_addOption_28 fp_X2_100 (fun _ => o19) h5674 (kA_9 (kA_7 hk (r := 2) (by decide)) (j := no) (by omega)) rfl ⟨n902, (show n902 ≤ 24 by omega), rfl⟩ rfl rfl (by decide) (fun σ5678 h5679 g5680 g5681 f5682 => ?_)
    refine m_aload F rfl e_X2_addOption_31 ?_
    refine m_iload_n F rfl e_X2_addOption_33 ?_
    refine t_putC F e_X2_addOption_34 fp_X2_103 (fun _ => o19) h5679 (kA_9 (kA_7 hk (r := 2) (by decide)) (j := no) (by omega)) rfl ⟨_, rfl⟩ rfl rfl (by decide) (fun σ5683 h5684 g5685 g5686 f5687 => ?_)
    refine m_aload F rfl e_X2_addOption_37 ?_
    refine m_iconst F (v := 0) (by decide) e_X2_addOption_39 ?_
    refine t_putC F e_X2_addOption_40 fp_X2_106 (fun _ => o19) h5684 (kA_9 (kA_7 hk (r := 2) (by decide)) (j := no) (by omega)) rfl ⟨0, (show 0 ≤ 1 by omega), rfl⟩ (by decide) rfl (by decide) (fun σ5688 h5689 g5690 g5691 f5692 => ?_)
    refine m_aload_n F rfl e_X2_addOption_43 ?_
    refine m_dup F rfl e_X2_addOption_44 ?_
    refine t_getC F e_X2_addOption_45 fl_X2_62 (fun _ => o7) h5689 hk ((fld_eq (g5690 a (kdn hk (kA_9 (kA_7 hk (r := 2) (by decide)) (j := no) (by omega)) (by decide)))).trans ((fld_eq (g5685 a (kdn hk (kA_9 (kA_7 hk (r := 2) (by decide)) (j := no) (by omega)) (by decide)))).trans ((fld_eq (g5680 a (kdn hk (kA_9 (kA_7 hk (r := 2) (by decide)) (j := no) (by omega)) (by decide)))).trans ((fld_eq (g5675 a (kdn hk (kA_9 (kA_7 hk (r := 2) (by decide)) (j := no) (by omega)) (by decide)))).trans bb5665)))) ?_
    refine m_iconst F (v := 1) (by decide) e_X2_addOption_48 ?_
    refine m_iadd F e_X2_addOption_49 ?_
    refine Wm.topE (w := nI (no + 1)) (nI_add no 1) ?_
    refine t_putC F e_X2_addOption_50 fp_X2_62 (fun _ => o7) h5689 hk rfl ⟨no + 1, (show no + 1 ≤ 4 by omega), rfl⟩ rfl rfl (by decide) (fun σ5693 h5694 g5695 g5696 f5697 => ?_)
    exact m_vret F hQ e_X2_addOption_53 (⟨h5694, BX.addO hBX hk (by omega) (((g5696 8 (by decide)).trans ((fld_eq (g5690 a (kdn hk (kA_9 (kA_7 hk (r := 2) (by decide)) (j := no) (by omega)) (by decide)))).trans ((fld_eq (g5685 a (kdn hk (kA_9 (kA_7 hk (r := 2) (by decide)) (j := no) (by omega)) (by decide)))).trans ((fld_eq (g5680 a (kdn hk (kA_9 (kA_7 hk (r := 2) (by decide)) (j := no) (by omega)) (by decide)))).trans ((fld_eq (g5675 a (kdn hk (kA_9 (kA_7 hk (r := 2) (by decide)) (j := no) (by omega)) (by decide)))).trans bb5664))))).trans bb5664.symm) (f5697) (((g5696 10 (by decide)).trans ((fld_eq (g5690 a (kdn hk (kA_9 (kA_7 hk (r := 2) (by decide)) (j := no) (by omega)) (by decide)))).trans ((fld_eq (g5685 a (kdn hk (kA_9 (kA_7 hk (r := 2) (by decide)) (j := no) (by omega)) (by decide)))).trans ((fld_eq (g5680 a (kdn hk (kA_9 (kA_7 hk (r := 2) (by decide)) (j := no) (by omega)) (by decide)))).trans ((fld_eq (g5675 a (kdn hk (kA_9 (kA_7 hk (r := 2) (by decide)) (j := no) (by omega)) (by decide)))).trans bb5666))))).trans bb5666.symm) (h5694.2 (a + 4) (by rw [show kA _ (a + 4) = 11 from kA_7 hk (r := 4) (by decide)]; decide)) (fun x hx => fld_eq (h5694.2 x (by rw [show kA _ x = 15 from hx]; decide))), rfl⟩)
set_option maxRecDepth 20000 in
theorem s_X2_addIndexE (l : Launch) (V : VX) (G : GH) (b M Z T N : Nat) (σ : Mem) (a : Nat) (n901 : Nat) (x902 : Int32) (nl : Nat) (nm : Nat → Nat) (nc : Nat) (lc : Nat) (no : Nat) (h0 : HT V G (b, M, Z, T) σ) (hk : kA b a = 7) (hn901 : n901 ≤ 99) (hp0 : nc < 8) (hBX : BX σ a nl nm nc lc no) (hM : M + 0 ≤ 1000000000) : Ct l V yX2_addIndex cX2_addIndex 3 none 3 0 0 N σ [.ref a, .int (nI n901), .int x902] (fun r τ => HK V G (b, M, Z, T) [0, 1, 2, 3, 4, 5, 6, 8, 9, 12, 13, 14, 15, 16, 17, 18, 19] σ τ ∧ BX τ a nl nm (nc + 1) (n901 + 1) no ∧ r = none) := by
  refine Ct.of (by decide) (Nat.le_of_ble_eq_true rfl) [(0, .ref a), (1, .int (nI n901)), (2, .int x902)] rfl (fun X hX F hQ => ?_)
  have h1 : HK V G (b, M, Z, T) [0, 1, 2, 3, 4, 5, 6, 8, 9, 12, 13, 14, 15, 16, 17, 18, 19] σ σ := HK.start h0
  have hbb5698 := hBX
  obtain ⟨bb5698, bb5699, bb5700, bb5701, bb5702, bb5703, bb5704, bb5705⟩ := hbb5698
  refine m_aload_n F rfl e_X2_addIndex_0 ?_
  refine t_getC F e_X2_addIndex_1 fl_X2_65 (fun _ => o7) h1 hk (bb5700) ?_
  refine m_bipush F (v := 8) (by decide) e_X2_addIndex_4 ?_
  refine m_icmp_ge F e_X2_addIndex_6 (fun q6 => ?_) (fun q6 => ?_)
  · have c6 : nc ≥ 8 := (nI_leI (a := 8) (b := nc) (by omega) (by omega)).mp q6
    exfalso; omega
  · have c6 : nc < 8 := by have hh := mt (nI_leI (a := 8) (b := nc) (by omega) (by omega)).mpr q6; omega
    refine m_iload_n F rfl e_X2_addIndex_9 ?_
    refine m_if_lt F e_X2_addIndex_10 (fun q10 => ?_) (fun q10 => ?_)
    · have c10 : n901 < 0 := (nI_ltI (a := n901) (b := 0) (by omega) (by omega)).mp q10
      exfalso; omega
    · have c10 : n901 ≥ 0 := by have hh := mt (nI_ltI (a := n901) (b := 0) (by omega) (by omega)).mpr q10; omega
      refine m_iload_n F rfl e_X2_addIndex_13 ?_
      refine m_bipush F (v := 99) (by decide) e_X2_addIndex_14 ?_
      refine m_icmp_gt F e_X2_addIndex_16 (fun q16 => ?_) (fun q16 => ?_)
      · have c16 : n901 > 99 := (nI_ltI (a := 99) (b := n901) (by omega) (by omega)).mp q16
        exfalso; omega
      · have c16 : n901 ≤ 99 := by have hh := mt (nI_ltI (a := 99) (b := n901) (by omega) (by omega)).mpr q16; omega
        refine m_aload_n F rfl e_X2_addIndex_19 ?_
        refine t_get F e_X2_addIndex_20 fl_X2_27 (fun _ => o7) h1 hk rfl (fun v hv f5706 => ?_)
        obtain rfl : v = .ref (a + 4) := hv
        refine m_aload_n F rfl e_X2_addIndex_23 ?_
        refine t_getC F e_X2_addIndex_24 fl_X2_65 (fun _ => o7) h1 hk (bb5700) ?_
        refine m_iload_n F rfl e_X2_addIndex_27 ?_
        refine t_iastX F (len := 8) (j := nc) e_X2_addIndex_28 (fun _ => o11) h1 (kA_7 hk (r := 4) (by decide)) (nI_clamp (by omega)) (vp_in_nI (by omega) (by decide)) (by decide) (fun σ5707 h5708 g5709 g5710 g5711 g5712 => ?_)
        refine m_aload_n F rfl e_X2_addIndex_29 ?_
        refine m_dup F rfl e_X2_addIndex_30 ?_
        refine t_getC F e_X2_addIndex_31 fl_X2_65 (fun _ => o7) h5708 hk ((fld_eq (g5709 a (kdn hk (kA_7 hk (r := 4) (by decide)) (by decide)))).trans bb5700) ?_
        refine m_iconst F (v := 1) (by decide) e_X2_addIndex_34 ?_
        refine m_iadd F e_X2_addIndex_35 ?_
        refine Wm.topE (w := nI (nc + 1)) (nI_add nc 1) ?_
        refine t_putC F e_X2_addIndex_36 fp_X2_65 (fun _ => o7) h5708 hk rfl ⟨nc + 1, (show nc + 1 ≤ 8 by omega), rfl⟩ rfl rfl (by decide) (fun σ5713 h5714 g5715 g5716 f5717 => ?_)
        have el5718 := (elA_eq (j := nc) (g5715 (a + 4) (kdn (kA_7 hk (r := 4) (by decide)) hk (by decide)))).trans g5710
        refine m_aload_n F rfl e_X2_addIndex_39 ?_
        refine t_get F e_X2_addIndex_40 fl_X2_23 (fun _ => o7) h5714 hk rfl (fun v hv f5719 => ?_)
        obtain rfl : v = .ref (a + 3) := hv
        refine m_iload_n F rfl e_X2_addIndex_43 ?_
        refine m_bipush F (v := 100) (by decide) e_X2_addIndex_44 ?_
        refine m_iload_n F rfl e_X2_addIndex_46 ?_
        refine m_callS F e_X2_addIndex_47 (s_J7_fill_fda19_10 (x_l X) V G b M Z T _ _ (a + 3) n901 100 x902 h5714.1 (kA_7 hk (r := 3) (by decide)) (by omega) (by omega) (by first | omega | assumption | decide) (by first | omega | assumption | decide) (by omega)) cb_J7_fill_fda19 ml_X2_110 sm_J7_fill_fda19 rfl (rest := []) rfl (Nat.le_of_ble_eq_true rfl) ⟨Nat.le_of_ble_eq_true rfl, Nat.le_of_ble_eq_true rfl⟩ ⟨Nat.le_of_ble_eq_true rfl, Nat.le_of_ble_eq_true rfl⟩ (k' := 0) (z' := 0) (N' := N) rfl rfl rfl (fun r σ5720 hp => ?_)
        obtain ⟨h5722, rfl⟩ := hp
        have h5721 := HK.trans h5714 h5722 (by decide)
        have el5723 := (elA_eq (j := nc) (h5722.2 (a + 4) (by rw [show kA _ (a + 4) = 11 from (kA_7 hk (r := 4) (by decide))]; decide))).trans el5718
        exact m_vret F hQ e_X2_addIndex_50 (⟨h5721, BX.addI hBX hk (by omega) (by omega) (((fld_eq (h5722.2 a (by rw [show kA _ a = 7 from hk]; decide))).trans ((g5716 8 (by decide)).trans ((fld_eq (g5709 a (kdn hk (kA_7 hk (r := 4) (by decide)) (by decide)))).trans bb5698))).trans bb5698.symm) (((fld_eq (h5722.2 a (by rw [show kA _ a = 7 from hk]; decide))).trans ((g5716 9 (by decide)).trans ((fld_eq (g5709 a (kdn hk (kA_7 hk (r := 4) (by decide)) (by decide)))).trans bb5699))).trans bb5699.symm) ((fld_eq (h5722.2 a (by rw [show kA _ a = 7 from hk]; decide))).trans f5717) el5723 (fun x hx => fld_eq (h5721.2 x (by rw [show kA _ x = 15 from hx]; decide))), rfl⟩)
set_option maxRecDepth 20000 in
theorem s_X2_lastToldE (l : Launch) (V : VX) (G : GH) (b M Z T N : Nat) (σ : Mem) (a : Nat) (nl : Nat) (nm : Nat → Nat) (nc : Nat) (lc : Nat) (no : Nat) (h0 : HT V G (b, M, Z, T) σ) (hk : kA b a = 7) (hBX : BX σ a nl nm nc lc no) (hM : M + 0 ≤ 1000000000) : Ct l V yX2_lastTold cX2_lastTold 1 (some .int) 0 0 0 N σ [.ref a] (fun r τ => HK V G (b, M, Z, T) [0, 1, 2, 3, 4, 5, 6, 7, 8, 9, 10, 11, 12, 13, 14, 15, 16, 17, 18, 19] σ τ ∧ ∃ x : Int32, r = some (.int x) ∧ x + 1 = nI lc) := by
  refine Ct.of (by decide) (Nat.le_of_ble_eq_true rfl) [(0, .ref a)] rfl (fun X hX F hQ => ?_)
  have h1 : HK V G (b, M, Z, T) [0, 1, 2, 3, 4, 5, 6, 7, 8, 9, 10, 11, 12, 13, 14, 15, 16, 17, 18, 19] σ σ := HK.start h0
  have hbb5724 := hBX
  obtain ⟨bb5724, bb5725, bb5726, bb5727, bb5728, bb5729, bb5730, bb5731⟩ := hbb5724
  refine m_aload_n F rfl e_X2_lastTold_0 ?_
  refine t_getC F e_X2_lastTold_1 fl_X2_65 (fun _ => o7) h1 hk (bb5726) ?_
  refine m_if_le F e_X2_lastTold_4 (fun q4 => ?_) (fun q4 => ?_)
  · have c4 : nc ≤ 0 := (nI_leI (a := nc) (b := 0) (by omega) (by omega)).mp q4
    refine m_iconst F (v := (-1)) (by decide) e_X2_lastTold_21 ?_
    exact m_iret F hQ e_X2_lastTold_22 (⟨h1, _, rfl, by rcases bb5728 with hz | hz; (rw [hz.2]; rfl); omega⟩)
  · have c4 : nc > 0 := by have hh := mt (nI_leI (a := nc) (b := 0) (by omega) (by omega)).mpr q4; omega
    refine m_aload_n F rfl e_X2_lastTold_7 ?_
    refine t_get F e_X2_lastTold_8 fl_X2_27 (fun _ => o7) h1 hk rfl (fun v hv f5732 => ?_)
    obtain rfl : v = .ref (a + 4) := hv
    refine m_aload_n F rfl e_X2_lastTold_11 ?_
    refine t_getC F e_X2_lastTold_12 fl_X2_65 (fun _ => o7) h1 hk (bb5726) ?_
    refine m_iconst F (v := 1) (by decide) e_X2_lastTold_15 ?_
    refine m_isub F e_X2_lastTold_16 ?_
    refine Wm.topE (w := nI (nc - 1)) (pk_sub (a := nc) (b := 1) (by omega)) ?_
    refine t_ialdX F (len := 8) (j := nc - 1) e_X2_lastTold_17 (fun _ => o11) h1 (kA_7 hk (r := 4) (by decide)) (nI_clamp (by omega)) (vp_in_nI (by omega) (by decide)) (fun x5733 ex5733 => ?_)
    have ex : x5733 + 1 = nI lc := by
      rcases bb5728 with hz | ⟨b1, b2, b3, b4⟩
      · omega
      · obtain rfl := Option.some.inj (ex5733.symm.trans b4)
        exact (nI_add (lc - 1) 1).trans (congrArg nI (by omega))
    refine m_goto F e_X2_lastTold_18 ?_
    exact m_iret F hQ e_X2_lastTold_22 (⟨h1, _, rfl, ex⟩)
