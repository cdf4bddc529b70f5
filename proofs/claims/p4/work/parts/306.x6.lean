set_option maxRecDepth 20000 in
theorem s_X7_readNameOnceE (l : Launch) (V : VX) (b M Z T N : Nat) (σ : Mem) (a : Nat) (n901 : Nat) (tp : Nat) (td : Nat) (n : Nat) (bk : Nat) (nx : Nat) (st : Nat) (tk : Int32) (vl : Int32) (py : Nat) (sd : Nat) (ln : Nat) (ft : Int32) (pl : Int32) (t : Nat → Nat) (s9 : Nat) (v9 : Nat) (nl : Nat) (nm : Nat → Nat) (nc : Nat) (lc : Nat) (no : Nat) (md : Nat → Nat → Bool) (b9 : Nat) (h0 : HT V (b, M, Z, T) σ) (hk : kA b a = 3) (hn901 : n901 ≤ 8) (hp0 : ft = 0) (hp1 : CT tk vl s9 v9) (hp2 : nx ≤ n) (hp3 : st ≤ n) (hp4 : BX σ bk nl nm nc lc no) (hp5 : TD V σ td nl md) (hp6 : n901 = 2 ^ b9) (hp7 : b9 < 4) (hR : RD σ a tp td n bk nx st tk vl py sd ln ft pl) (hB : BY V σ tp n t) (hn7 : n ≤ 700) (hsd : sd ≤ 1) (htp : kA b tp = 2) (htd : kA b td = 4) (hbk : kA b bk = 7) (hM : M + 0 ≤ 1000000000) : Ct l V yX7_readNameOnce cX7_readNameOnce 4 (some .int) 3 0 0 N σ [.ref a, .int (nI n901)] (fun r τ => HK V (b, M, Z, T) [0, 1, 2, 5, 6, 7, 8, 9, 10, 11, 12, 13, 14, 15, 16, 17, 18, 19] σ τ ∧ ((s9 = 2 ∧ fx nm v9 nl < nl ∧ md (fx nm v9 nl) b9 = false ∧ (∃ tk2 vl2, CT tk2 vl2 (tok t n nx).2.1 (tok t n nx).2.2.1 ∧ RD τ a tp td n bk (tok t n nx).2.2.2 (tok t n nx).1 tk2 vl2 py sd ln 0 pl) ∧ TD V τ td nl (upb md (fx nm v9 nl) b9) ∧ r = some (.int (nI (fx nm v9 nl)))) ∨ (s9 ≠ 2 ∧ FT τ a 1 st ∧ ∃ x : Int32, r = some (.int x)) ∨ (s9 = 2 ∧ ¬ fx nm v9 nl < nl ∧ FT τ a 4 st ∧ ∃ x : Int32, r = some (.int x)) ∨ (s9 = 2 ∧ fx nm v9 nl < nl ∧ md (fx nm v9 nl) b9 = true ∧ FT τ a 3 st ∧ ∃ x : Int32, r = some (.int x)))) := by
  refine Ct.of (by decide) (Nat.le_of_ble_eq_true rfl) [(0, .ref a), (1, .int (nI n901))] rfl (fun X hX F hQ => ?_)
  have h1 : HK V (b, M, Z, T) [0, 1, 2, 5, 6, 7, 8, 9, 10, 11, 12, 13, 14, 15, 16, 17, 18, 19] σ σ := HK.start h0
  have hrd5443 := hR
  obtain ⟨rd5443, rd5444, rd5445, rd5446, rd5447, rd5448, rd5449, rd5450, rd5451, rd5452, rd5453, rd5454, rd5455⟩ := hrd5443
  subst hp0
  have hl4 := hp4.2.2.2.2.2.1
  subst hp6
  refine m_aload_n F rfl e_X7_readNameOnce_0 ?_
  refine t_getC F e_X7_readNameOnce_1 fl_X7_188 (fun _ => o3) h1 hk (rd5448) ?_
  refine m_istore_n F (lv' := [(2, .int (nI st)), (0, .ref a), (1, .int (nI (2 ^ b9)))]) e_X7_readNameOnce_4 (by decide) rfl ?_
  refine m_aload_n F rfl e_X7_readNameOnce_5 ?_
  refine t_getC F e_X7_readNameOnce_6 fl_X7_23 (fun _ => o3) h1 hk (rd5445) ?_
  refine m_aload_n F rfl e_X7_readNameOnce_9 ?_
  refine t_callV F e_X7_readNameOnce_10 (s_X7_readNameE (x_l X) V b M Z T _ _ a  tp td n bk nx st tk vl py sd ln 0 pl t s9 v9 h1.1 hk rfl hp1 (by omega) (by omega) ⟨rd5443, rd5444, rd5445, rd5446, rd5447, rd5448, rd5449, rd5450, rd5451, rd5452, rd5453, rd5454, rd5455⟩ (hB.keep (h1.2 tp (by rw [show kA _ tp = 2 from htp]; decide))) hn7 hsd htp htd hbk (by omega)) cb_X7_readName ml_X7_191 im_X7_readName se_X7_readName (fun _ => o3) h1 hk rfl rfl (rest := [.ref bk]) rfl (Nat.le_of_ble_eq_true rfl) ⟨Nat.le_of_ble_eq_true rfl, Nat.le_of_ble_eq_true rfl⟩ ⟨Nat.le_of_ble_eq_true rfl, Nat.le_of_ble_eq_true rfl⟩ (fun r σ5456 hp => ?_)
  obtain ⟨h5457, hp⟩ := hp
  have h5458 := HK.trans h1 h5457 (by decide)
  have bx5459 := hp4.hk hbk h5457 (by decide) (by decide) (by decide)
  have tq5460 := hp5.keep (h5457.2 td (by rw [show kA _ td = 4 from htd]; decide))
  rcases hp with ⟨e5461, ⟨tk5462, vl5463, ct5464, rd5467, rd5468, rd5469, rd5470, rd5471, rd5472, rd5473, rd5474, rd5475, rd5476, rd5477, rd5478, rd5479⟩, rfl⟩ | ⟨e5461, ⟨rd5465, rd5466⟩, rfl⟩
  · have hv9 := hp1.w e5461
    refine t_callV F e_X7_readNameOnce_13 (s_X2_leaseNamedE (x_l X) V b M Z T _ _ bk v9 nl nm nc lc no h5458.1 hbk (by omega) bx5459 (by omega)) cb_X2_leaseNamed ml_X7_194 im_X2_leaseNamed se_X2_leaseNamed (fun _ => o7) h5458 hbk rfl rfl (rest := []) rfl (Nat.le_of_ble_eq_true rfl) ⟨Nat.le_of_ble_eq_true rfl, Nat.le_of_ble_eq_true rfl⟩ ⟨Nat.le_of_ble_eq_true rfl, Nat.le_of_ble_eq_true rfl⟩ (fun r σ5480 hp => ?_)
    obtain ⟨h5481, hp⟩ := hp
    have h5482 := HK.trans h5458 h5481 (by decide)
    have bx5484 := bx5459.hk hbk h5481 (by decide) (by decide) (by decide)
    have tq5485 := tq5460.keep (h5481.2 td (by rw [show kA _ td = 4 from htd]; decide))
    rcases hp with ⟨e5483, rfl⟩ | ⟨e5483, rfl⟩
    · refine m_istore_n F (lv' := [(3, .int (nI (fx nm v9 nl))), (2, .int (nI st)), (0, .ref a), (1, .int (nI (2 ^ b9)))]) e_X7_readNameOnce_16 (by decide) rfl ?_
      refine m_iload_n F rfl e_X7_readNameOnce_17 ?_
      refine m_if_lt F e_X7_readNameOnce_18 (fun q18 => ?_) (fun q18 => ?_)
      · have c18 : (fx nm v9 nl) < 0 := (nI_ltI (a := (fx nm v9 nl)) (b := 0) (by omega) (by omega)).mp q18
        exfalso; omega
      · have c18 : (fx nm v9 nl) ≥ 0 := by have hh := mt (nI_ltI (a := (fx nm v9 nl)) (b := 0) (by omega) (by omega)).mpr q18; omega
        refine m_iload_n F rfl e_X7_readNameOnce_21 ?_
        refine m_iconst F (v := 4) (by decide) e_X7_readNameOnce_22 ?_
        refine m_icmp_lt F e_X7_readNameOnce_23 (fun q23 => ?_) (fun q23 => ?_)
        · have c23 : (fx nm v9 nl) < 4 := (nI_ltI (a := (fx nm v9 nl)) (b := 4) (by omega) (by omega)).mp q23
          refine m_aload_n F rfl e_X7_readNameOnce_34 ?_
          refine t_getC F e_X7_readNameOnce_35 fl_X7_9 (fun _ => o3) h5482 hk ((fld_eq (h5481.2 a (by rw [show kA _ a = 3 from hk]; decide))).trans rd5470) ?_
          refine m_iload_n F rfl e_X7_readNameOnce_38 ?_
          refine t_ialdX F (len := 4) (j := fx nm v9 nl) e_X7_readNameOnce_39 (fun _ => o4) h5482 htd (nI_clamp (by omega)) (vp_in_nI (by omega) (by decide)) (fun x5486 ex5486 => ?_)
          obtain rfl : x5486 = nI (mk4 (md (fx nm v9 nl))) := Option.some.inj (ex5486.symm.trans (tq5485.at e5483 (by omega)))
          refine m_iload_n F rfl e_X7_readNameOnce_40 ?_
          refine m_iand F e_X7_readNameOnce_41 ?_
          refine m_if_eq F e_X7_readNameOnce_42 (fun q42 => ?_) (fun q42 => ?_)
          · have e42 : md (fx nm v9 nl) b9 = false := (mk4_and hp7).mp q42
            refine m_aload_n F rfl e_X7_readNameOnce_51 ?_
            refine t_getC F e_X7_readNameOnce_52 fl_X7_9 (fun _ => o3) h5482 hk ((fld_eq (h5481.2 a (by rw [show kA _ a = 3 from hk]; decide))).trans rd5470) ?_
            refine m_iload_n F rfl e_X7_readNameOnce_55 ?_
            refine m_dup2_11 F rfl rfl e_X7_readNameOnce_56 ?_
            refine t_ialdX F (len := 4) (j := fx nm v9 nl) e_X7_readNameOnce_57 (fun _ => o4) h5482 htd (nI_clamp (by omega)) (vp_in_nI (by omega) (by decide)) (fun x5487 ex5487 => ?_)
            obtain rfl : x5487 = nI (mk4 (md (fx nm v9 nl))) := Option.some.inj (ex5487.symm.trans (tq5485.at e5483 (by omega)))
            refine m_iload_n F rfl e_X7_readNameOnce_58 ?_
            refine m_ior F e_X7_readNameOnce_59 ?_
            refine Wm.topE (w := nI (mk4 (fun j => if j = b9 then true else md (fx nm v9 nl) j))) (mk4_or hp7) ?_
            refine t_iastX F (len := 4) (j := fx nm v9 nl) e_X7_readNameOnce_60 (fun _ => o4) h5482 htd (nI_clamp (by omega)) (vp_in_nI (by omega) (by decide)) (by decide) (fun σ5488 h5489 g5490 g5491 g5492 g5493 => ?_)
            have bx5494 := bx5484.keep hbk (fld_eq (g5490 bk (kdn hbk htd (by decide)))) (fld_eq (g5490 bk (kdn hbk htd (by decide)))) (fld_eq (g5490 bk (kdn hbk htd (by decide)))) (g5490 (bk + 4) (kdn (kA_7 hbk (r := 4) (by decide) : kA b (bk + 4) = 11) htd (by decide))) (fun x hx => fld_eq (g5490 x (kdn hx htd (by decide))))
            have tq5495 := TD.up (b := b9) tq5485 e5483 g5493
            refine m_iload_n F rfl e_X7_readNameOnce_61 ?_
            exact m_iret F hQ e_X7_readNameOnce_62 (⟨h5489, Or.inl ⟨e5461, e5483, e42, ⟨tk5462, vl5463, ct5464, ⟨(fld_eq (g5490 a (kdn hk htd (by decide)))).trans ((fld_eq (h5481.2 a (by rw [show kA _ a = 3 from hk]; decide))).trans rd5467), (fld_eq (g5490 a (kdn hk htd (by decide)))).trans ((fld_eq (h5481.2 a (by rw [show kA _ a = 3 from hk]; decide))).trans rd5468), (fld_eq (g5490 a (kdn hk htd (by decide)))).trans ((fld_eq (h5481.2 a (by rw [show kA _ a = 3 from hk]; decide))).trans rd5469), (fld_eq (g5490 a (kdn hk htd (by decide)))).trans ((fld_eq (h5481.2 a (by rw [show kA _ a = 3 from hk]; decide))).trans rd5470), (fld_eq (g5490 a (kdn hk htd (by decide)))).trans ((fld_eq (h5481.2 a (by rw [show kA _ a = 3 from hk]; decide))).trans rd5471), (fld_eq (g5490 a (kdn hk htd (by decide)))).trans ((fld_eq (h5481.2 a (by rw [show kA _ a = 3 from hk]; decide))).trans rd5472), (fld_eq (g5490 a (kdn hk htd (by decide)))).trans ((fld_eq (h5481.2 a (by rw [show kA _ a = 3 from hk]; decide))).trans rd5473), (fld_eq (g5490 a (kdn hk htd (by decide)))).trans ((fld_eq (h5481.2 a (by rw [show kA _ a = 3 from hk]; decide))).trans rd5474), (fld_eq (g5490 a (kdn hk htd (by decide)))).trans ((fld_eq (h5481.2 a (by rw [show kA _ a = 3 from hk]; decide))).trans rd5475), (fld_eq (g5490 a (kdn hk htd (by decide)))).trans ((fld_eq (h5481.2 a (by rw [show kA _ a = 3 from hk]; decide))).trans rd5476), (fld_eq (g5490 a (kdn hk htd (by decide)))).trans ((fld_eq (h5481.2 a (by rw [show kA _ a = 3 from hk]; decide))).trans rd5477), (fld_eq (g5490 a (kdn hk htd (by decide)))).trans ((fld_eq (h5481.2 a (by rw [show kA _ a = 3 from hk]; decide))).trans rd5478), (fld_eq (g5490 a (kdn hk htd (by decide)))).trans ((fld_eq (h5481.2 a (by rw [show kA _ a = 3 from hk]; decide))).trans rd5479)⟩⟩, tq5495, rfl⟩⟩)
          · have e42 : md (fx nm v9 nl) b9 = true := by cases hmd : md (fx nm v9 nl) b9 with | true => rfl | false => exact absurd ((mk4_and hp7).mpr hmd) q42
            refine m_aload_n F rfl e_X7_readNameOnce_45 ?_
            refine m_iconst F (v := 3) (by decide) e_X7_readNameOnce_46 ?_
            refine m_iload_n F rfl e_X7_readNameOnce_47 ?_
            refine t_callV F e_X7_readNameOnce_48 (s_X7_failAtE (x_l X) V b M Z T _ _ a 3 (nI st) tp td n bk ((tok t n nx).2.2.2) ((tok t n nx).1) tk5462 vl5463 py sd ln 0 pl t h5482.1 hk rfl (by decide) ⟨(fld_eq (h5481.2 a (by rw [show kA _ a = 3 from hk]; decide))).trans rd5467, (fld_eq (h5481.2 a (by rw [show kA _ a = 3 from hk]; decide))).trans rd5468, (fld_eq (h5481.2 a (by rw [show kA _ a = 3 from hk]; decide))).trans rd5469, (fld_eq (h5481.2 a (by rw [show kA _ a = 3 from hk]; decide))).trans rd5470, (fld_eq (h5481.2 a (by rw [show kA _ a = 3 from hk]; decide))).trans rd5471, (fld_eq (h5481.2 a (by rw [show kA _ a = 3 from hk]; decide))).trans rd5472, (fld_eq (h5481.2 a (by rw [show kA _ a = 3 from hk]; decide))).trans rd5473, (fld_eq (h5481.2 a (by rw [show kA _ a = 3 from hk]; decide))).trans rd5474, (fld_eq (h5481.2 a (by rw [show kA _ a = 3 from hk]; decide))).trans rd5475, (fld_eq (h5481.2 a (by rw [show kA _ a = 3 from hk]; decide))).trans rd5476, (fld_eq (h5481.2 a (by rw [show kA _ a = 3 from hk]; decide))).trans rd5477, (fld_eq (h5481.2 a (by rw [show kA _ a = 3 from hk]; decide))).trans rd5478, (fld_eq (h5481.2 a (by rw [show kA _ a = 3 from hk]; decide))).trans rd5479⟩ (hB.keep (h5482.2 tp (by rw [show kA _ tp = 2 from htp]; decide))) hn7 hsd htp htd hbk (by omega)) cb_X7_failAt ml_X7_197 im_X7_failAt se_X7_failAt (fun _ => o3) h5482 hk rfl rfl (rest := []) rfl (Nat.le_of_ble_eq_true rfl) ⟨Nat.le_of_ble_eq_true rfl, Nat.le_of_ble_eq_true rfl⟩ ⟨Nat.le_of_ble_eq_true rfl, Nat.le_of_ble_eq_true rfl⟩ (fun r σ5496 hp => ?_)
            obtain ⟨h5497, ⟨rd5499, rd5500, rd5501, rd5502, rd5503, rd5504, rd5505, rd5506, rd5507, rd5508, rd5509, rd5510, rd5511⟩, rfl⟩ := hp
            have h5498 := HK.trans h5482 h5497 (by decide)
            have bx5512 := bx5484.hk hbk h5497 (by decide) (by decide) (by decide)
            have tq5513 := tq5485.keep (h5497.2 td (by rw [show kA _ td = 4 from htd]; decide))
            refine m_aload_n F rfl e_X7_readNameOnce_51 ?_
            refine t_getC F e_X7_readNameOnce_52 fl_X7_9 (fun _ => o3) h5498 hk (rd5502) ?_
            refine m_iload_n F rfl e_X7_readNameOnce_55 ?_
            refine m_dup2_11 F rfl rfl e_X7_readNameOnce_56 ?_
            refine t_ialdX F (len := 4) (j := fx nm v9 nl) e_X7_readNameOnce_57 (fun _ => o4) h5498 htd (nI_clamp (by omega)) (vp_in_nI (by omega) (by decide)) (fun x5514 ex5514 => ?_)
            obtain rfl : x5514 = nI (mk4 (md (fx nm v9 nl))) := Option.some.inj (ex5514.symm.trans (tq5513.at e5483 (by omega)))
            refine m_iload_n F rfl e_X7_readNameOnce_58 ?_
            refine m_ior F e_X7_readNameOnce_59 ?_
            refine Wm.topE (w := nI (mk4 (fun j => if j = b9 then true else md (fx nm v9 nl) j))) (mk4_or hp7) ?_
            refine t_iastX F (len := 4) (j := fx nm v9 nl) e_X7_readNameOnce_60 (fun _ => o4) h5498 htd (nI_clamp (by omega)) (vp_in_nI (by omega) (by decide)) (by decide) (fun σ5515 h5516 g5517 g5518 g5519 g5520 => ?_)
            have bx5521 := bx5512.keep hbk (fld_eq (g5517 bk (kdn hbk htd (by decide)))) (fld_eq (g5517 bk (kdn hbk htd (by decide)))) (fld_eq (g5517 bk (kdn hbk htd (by decide)))) (g5517 (bk + 4) (kdn (kA_7 hbk (r := 4) (by decide) : kA b (bk + 4) = 11) htd (by decide))) (fun x hx => fld_eq (g5517 x (kdn hx htd (by decide))))
            refine m_iload_n F rfl e_X7_readNameOnce_61 ?_
            exact m_iret F hQ e_X7_readNameOnce_62 (⟨h5516, Or.inr (Or.inr (Or.inr ⟨e5461, e5483, e42, ⟨(fld_eq (g5517 a (kdn hk htd (by decide)))).trans rd5510, (fld_eq (g5517 a (kdn hk htd (by decide)))).trans rd5511⟩, _, rfl⟩))⟩)
        · have c23 : (fx nm v9 nl) ≥ 4 := by have hh := mt (nI_ltI (a := (fx nm v9 nl)) (b := 4) (by omega) (by omega)).mpr q23; omega
          exfalso; omega
    · refine m_istore_n F (lv' := [(3, .int (-1)), (2, .int (nI st)), (0, .ref a), (1, .int (nI (2 ^ b9)))]) e_X7_readNameOnce_16 (by decide) rfl ?_
      refine m_iload_n F rfl e_X7_readNameOnce_17 ?_
      refine m_if_lt F e_X7_readNameOnce_18 (fun _ => ?_) (fun q => absurd (by decide) q)
      refine m_aload_n F rfl e_X7_readNameOnce_26 ?_
      refine m_iconst F (v := 4) (by decide) e_X7_readNameOnce_27 ?_
      refine m_iload_n F rfl e_X7_readNameOnce_28 ?_
      refine t_callV F e_X7_readNameOnce_29 (s_X7_failAtE (x_l X) V b M Z T _ _ a 4 (nI st) tp td n bk ((tok t n nx).2.2.2) ((tok t n nx).1) tk5462 vl5463 py sd ln 0 pl t h5482.1 hk rfl (by decide) ⟨(fld_eq (h5481.2 a (by rw [show kA _ a = 3 from hk]; decide))).trans rd5467, (fld_eq (h5481.2 a (by rw [show kA _ a = 3 from hk]; decide))).trans rd5468, (fld_eq (h5481.2 a (by rw [show kA _ a = 3 from hk]; decide))).trans rd5469, (fld_eq (h5481.2 a (by rw [show kA _ a = 3 from hk]; decide))).trans rd5470, (fld_eq (h5481.2 a (by rw [show kA _ a = 3 from hk]; decide))).trans rd5471, (fld_eq (h5481.2 a (by rw [show kA _ a = 3 from hk]; decide))).trans rd5472, (fld_eq (h5481.2 a (by rw [show kA _ a = 3 from hk]; decide))).trans rd5473, (fld_eq (h5481.2 a (by rw [show kA _ a = 3 from hk]; decide))).trans rd5474, (fld_eq (h5481.2 a (by rw [show kA _ a = 3 from hk]; decide))).trans rd5475, (fld_eq (h5481.2 a (by rw [show kA _ a = 3 from hk]; decide))).trans rd5476, (fld_eq (h5481.2 a (by rw [show kA _ a = 3 from hk]; decide))).trans rd5477, (fld_eq (h5481.2 a (by rw [show kA _ a = 3 from hk]; decide))).trans rd5478, (fld_eq (h5481.2 a (by rw [show kA _ a = 3 from hk]; decide))).trans rd5479⟩ (hB.keep (h5482.2 tp (by rw [show kA _ tp = 2 from htp]; decide))) hn7 hsd htp htd hbk (by omega)) cb_X7_failAt ml_X7_197 im_X7_failAt se_X7_failAt (fun _ => o3) h5482 hk rfl rfl (rest := []) rfl (Nat.le_of_ble_eq_true rfl) ⟨Nat.le_of_ble_eq_true rfl, Nat.le_of_ble_eq_true rfl⟩ ⟨Nat.le_of_ble_eq_true rfl, Nat.le_of_ble_eq_true rfl⟩ (fun r σ5522 hp => ?_)
      obtain ⟨h5523, ⟨rd5525, rd5526, rd5527, rd5528, rd5529, rd5530, rd5531, rd5532, rd5533, rd5534, rd5535, rd5536, rd5537⟩, rfl⟩ := hp
      have h5524 := HK.trans h5482 h5523 (by decide)
      have bx5538 := bx5484.hk hbk h5523 (by decide) (by decide) (by decide)
      have tq5539 := tq5485.keep (h5523.2 td (by rw [show kA _ td = 4 from htd]; decide))
      refine m_iconst F (v := (-1)) (by decide) e_X7_readNameOnce_32 ?_
      exact m_iret F hQ e_X7_readNameOnce_33 (⟨h5524, Or.inr (Or.inr (Or.inl ⟨e5461, e5483, ⟨rd5536, rd5537⟩, _, rfl⟩))⟩)
  · refine t_callV F e_X7_readNameOnce_13 (s_X2_leaseNamed (x_l X) V b M Z T _ _ bk (-1) h5458.1 hbk  (by omega)) cb_X2_leaseNamed ml_X7_194 im_X2_leaseNamed se_X2_leaseNamed (fun _ => o7) h5458 hbk rfl rfl (rest := []) rfl (Nat.le_of_ble_eq_true rfl) ⟨Nat.le_of_ble_eq_true rfl, Nat.le_of_ble_eq_true rfl⟩ ⟨Nat.le_of_ble_eq_true rfl, Nat.le_of_ble_eq_true rfl⟩ (fun r σ5540 hp => ?_)
    obtain ⟨h5542, c5543⟩ := hp
    have h5541 := HK.trans h5458 h5542 (by decide)
    rcases c5543 with ⟨n5544, hn5544, rfl⟩ | rfl
    · refine m_istore_n F (lv' := [(3, .int (nI n5544)), (2, .int (nI st)), (0, .ref a), (1, .int (nI (2 ^ b9)))]) e_X7_readNameOnce_16 (by decide) rfl ?_
      refine m_iload_n F rfl e_X7_readNameOnce_17 ?_
      refine m_if_lt F e_X7_readNameOnce_18 (fun q18 => ?_) (fun q18 => ?_)
      · have c18 : n5544 < 0 := (nI_ltI (a := n5544) (b := 0) (by omega) (by omega)).mp q18
        exfalso; omega
      · have c18 : n5544 ≥ 0 := by have hh := mt (nI_ltI (a := n5544) (b := 0) (by omega) (by omega)).mpr q18; omega
        refine m_iload_n F rfl e_X7_readNameOnce_21 ?_
        refine m_iconst F (v := 4) (by decide) e_X7_readNameOnce_22 ?_
        refine m_icmp_lt F e_X7_readNameOnce_23 (fun q23 => ?_) (fun q23 => ?_)
        · have c23 : n5544 < 4 := (nI_ltI (a := n5544) (b := 4) (by omega) (by omega)).mp q23
          refine m_aload_n F rfl e_X7_readNameOnce_34 ?_
          refine t_get F e_X7_readNameOnce_35 fl_X7_9 (fun _ => o3) h5541 hk rfl (fun v hv f5545 => ?_)
          obtain ⟨r5546, k5547, rfl⟩ := hv
          refine m_iload_n F rfl e_X7_readNameOnce_38 ?_
          refine t_iald F (len := 4) (j := n5544) e_X7_readNameOnce_39 (fun _ => o4) h5541 k5547 (nI_clamp (by omega)) (vp_in_nI (by omega) (by decide)) (fun x5548 => ?_)
          refine m_iload_n F rfl e_X7_readNameOnce_40 ?_
          refine m_iand F e_X7_readNameOnce_41 ?_
          refine Wm.top (fun x5549 _ => ?_)
          refine m_if_eq F e_X7_readNameOnce_42 (fun q42 => ?_) (fun q42 => ?_)
          · refine m_aload_n F rfl e_X7_readNameOnce_51 ?_
            refine t_getC F e_X7_readNameOnce_52 fl_X7_9 (fun _ => o3) h5541 hk (f5545) ?_
            refine m_iload_n F rfl e_X7_readNameOnce_55 ?_
            refine m_dup2_11 F rfl rfl e_X7_readNameOnce_56 ?_
            refine t_iald F (len := 4) (j := n5544) e_X7_readNameOnce_57 (fun _ => o4) h5541 k5547 (nI_clamp (by omega)) (vp_in_nI (by omega) (by decide)) (fun x5550 => ?_)
            refine m_iload_n F rfl e_X7_readNameOnce_58 ?_
            refine m_ior F e_X7_readNameOnce_59 ?_
            refine Wm.top (fun x5551 _ => ?_)
            refine t_iast F (len := 4) (j := n5544) e_X7_readNameOnce_60 (fun _ => o4) h5541 k5547 (nI_clamp (by omega)) (vp_in_nI (by omega) (by decide)) (by decide) (fun σ5552 h5553 g5554 => ?_)
            refine m_iload_n F rfl e_X7_readNameOnce_61 ?_
            exact m_iret F hQ e_X7_readNameOnce_62 (⟨h5553, Or.inr (Or.inl ⟨e5461, ⟨(g5554 a 11 (fun e => absurd ((hk).symm.trans e) (by decide))).trans ((fld_eq (h5542.2 a (by rw [show kA _ a = 3 from hk]; decide))).trans rd5465), (g5554 a 12 (fun e => absurd ((hk).symm.trans e) (by decide))).trans ((fld_eq (h5542.2 a (by rw [show kA _ a = 3 from hk]; decide))).trans rd5466)⟩, _, rfl⟩)⟩)
          · refine m_aload_n F rfl e_X7_readNameOnce_45 ?_
            refine m_iconst F (v := 3) (by decide) e_X7_readNameOnce_46 ?_
            refine m_iload_n F rfl e_X7_readNameOnce_47 ?_
            refine t_callV F e_X7_readNameOnce_48 (s_X7_failAtG (x_l X) V b M Z T _ _ a 3 (nI st) 1 (nI st) h5541.1 hk  ((fld_eq (h5542.2 a (by rw [show kA _ a = 3 from hk]; decide))).trans rd5465) ((fld_eq (h5542.2 a (by rw [show kA _ a = 3 from hk]; decide))).trans rd5466) (by decide) (by omega)) cb_X7_failAt ml_X7_197 im_X7_failAt se_X7_failAt (fun _ => o3) h5541 hk rfl rfl (rest := []) rfl (Nat.le_of_ble_eq_true rfl) ⟨Nat.le_of_ble_eq_true rfl, Nat.le_of_ble_eq_true rfl⟩ ⟨Nat.le_of_ble_eq_true rfl, Nat.le_of_ble_eq_true rfl⟩ (fun r σ5555 hp => ?_)
            obtain ⟨h5556, rd5558, rd5559, rfl⟩ := hp
            have h5557 := HK.trans h5541 h5556 (by decide)
            refine m_aload_n F rfl e_X7_readNameOnce_51 ?_
            refine t_get F e_X7_readNameOnce_52 fl_X7_9 (fun _ => o3) h5557 hk rfl (fun v hv f5561 => ?_)
            obtain ⟨r5562, k5563, rfl⟩ := hv
            refine m_iload_n F rfl e_X7_readNameOnce_55 ?_
            refine m_dup2_11 F rfl rfl e_X7_readNameOnce_56 ?_
            refine t_iald F (len := 4) (j := n5544) e_X7_readNameOnce_57 (fun _ => o4) h5557 k5563 (nI_clamp (by omega)) (vp_in_nI (by omega) (by decide)) (fun x5564 => ?_)
            refine m_iload_n F rfl e_X7_readNameOnce_58 ?_
            refine m_ior F e_X7_readNameOnce_59 ?_
            refine Wm.top (fun x5565 _ => ?_)
            refine t_iast F (len := 4) (j := n5544) e_X7_readNameOnce_60 (fun _ => o4) h5557 k5563 (nI_clamp (by omega)) (vp_in_nI (by omega) (by decide)) (by decide) (fun σ5566 h5567 g5568 => ?_)
            refine m_iload_n F rfl e_X7_readNameOnce_61 ?_
            exact m_iret F hQ e_X7_readNameOnce_62 (⟨h5567, Or.inr (Or.inl ⟨e5461, ⟨(g5568 a 11 (fun e => absurd ((hk).symm.trans e) (by decide))).trans rd5558, (g5568 a 12 (fun e => absurd ((hk).symm.trans e) (by decide))).trans rd5559⟩, _, rfl⟩)⟩)
        · have c23 : n5544 ≥ 4 := by have hh := mt (nI_ltI (a := n5544) (b := 4) (by omega) (by omega)).mpr q23; omega
          exfalso; omega
    · refine m_istore_n F (lv' := [(3, .int (-1)), (2, .int (nI st)), (0, .ref a), (1, .int (nI (2 ^ b9)))]) e_X7_readNameOnce_16 (by decide) rfl ?_
      refine m_iload_n F rfl e_X7_readNameOnce_17 ?_
      refine m_if_lt F e_X7_readNameOnce_18 (fun _ => ?_) (fun q => absurd (by decide) q)
      refine m_aload_n F rfl e_X7_readNameOnce_26 ?_
      refine m_iconst F (v := 4) (by decide) e_X7_readNameOnce_27 ?_
      refine m_iload_n F rfl e_X7_readNameOnce_28 ?_
      refine t_callV F e_X7_readNameOnce_29 (s_X7_failAtG (x_l X) V b M Z T _ _ a 4 (nI st) 1 (nI st) h5541.1 hk  ((fld_eq (h5542.2 a (by rw [show kA _ a = 3 from hk]; decide))).trans rd5465) ((fld_eq (h5542.2 a (by rw [show kA _ a = 3 from hk]; decide))).trans rd5466) (by decide) (by omega)) cb_X7_failAt ml_X7_197 im_X7_failAt se_X7_failAt (fun _ => o3) h5541 hk rfl rfl (rest := []) rfl (Nat.le_of_ble_eq_true rfl) ⟨Nat.le_of_ble_eq_true rfl, Nat.le_of_ble_eq_true rfl⟩ ⟨Nat.le_of_ble_eq_true rfl, Nat.le_of_ble_eq_true rfl⟩ (fun r σ5569 hp => ?_)
      obtain ⟨h5570, rd5572, rd5573, rfl⟩ := hp
      have h5571 := HK.trans h5541 h5570 (by decide)
      refine m_iconst F (v := (-1)) (by decide) e_X7_readNameOnce_32 ?_
      exact m_iret F hQ e_X7_readNameOnce_33 (⟨h5571, Or.inr (Or.inl ⟨e5461, ⟨rd5572, rd5573⟩, _, rfl⟩)⟩)
set_option maxRecDepth 20000 in
theorem s_X7_startLineE (l : Launch) (V : VX) (b M Z T N : Nat) (σ : Mem) (a : Nat) (x901 : Int32) (tp : Nat) (td : Nat) (n : Nat) (bk : Nat) (nx : Nat) (st : Nat) (tk : Int32) (vl : Int32) (py : Nat) (sd : Nat) (ln : Nat) (ft : Int32) (pl : Int32) (t : Nat → Nat) (s9 : Nat) (v9 : Nat) (h0 : HT V (b, M, Z, T) σ) (hk : kA b a = 3) (hp0 : ft = 0) (hp1 : CT tk vl s9 v9) (hp2 : nx ≤ n) (hp3 : st ≤ n) (hp4 : x901 = 0) (hR : RD σ a tp td n bk nx st tk vl py sd ln ft pl) (hB : BY V σ tp n t) (hn7 : n ≤ 700) (hsd : sd ≤ 1) (htp : kA b tp = 2) (htd : kA b td = 4) (hbk : kA b bk = 7) (hM : M + 0 ≤ 1000000000) : Ct l V yX7_startLine cX7_startLine 2 none 2 0 0 N σ [.ref a, .int x901] (fun r τ => HK V (b, M, Z, T) [0, 1, 2, 4, 5, 6, 7, 8, 9, 10, 11, 12, 13, 14, 15, 16, 17, 18, 19] σ τ ∧ (∃ tk2 vl2, CT tk2 vl2 (tok t n nx).2.1 (tok t n nx).2.2.1 ∧ RD τ a tp td n bk (tok t n nx).2.2.2 (tok t n nx).1 tk2 vl2 py sd ln 0 pl) ∧ r = none) := by
  refine Ct.of (by decide) (Nat.le_of_ble_eq_true rfl) [(0, .ref a), (1, .int x901)] rfl (fun X hX F hQ => ?_)
  have h1 : HK V (b, M, Z, T) [0, 1, 2, 4, 5, 6, 7, 8, 9, 10, 11, 12, 13, 14, 15, 16, 17, 18, 19] σ σ := HK.start h0
  have hrd5575 := hR
  obtain ⟨rd5575, rd5576, rd5577, rd5578, rd5579, rd5580, rd5581, rd5582, rd5583, rd5584, rd5585, rd5586, rd5587⟩ := hrd5575
  subst hp0
  refine m_iload_n F rfl e_X7_startLine_0 ?_
  refine m_if_eq F e_X7_startLine_1 (fun q1 => ?_) (fun q1 => ?_)
  · refine m_aload_n F rfl e_X7_startLine_10 ?_
    refine t_callV F e_X7_startLine_11 (s_X7_advanceE (x_l X) V b M Z T _ _ a  tp td n bk nx st tk vl py sd ln 0 pl t h1.1 hk (by omega) ⟨rd5575, rd5576, rd5577, rd5578, rd5579, rd5580, rd5581, rd5582, rd5583, rd5584, rd5585, rd5586, rd5587⟩ (hB.keep (h1.2 tp (by rw [show kA _ tp = 2 from htp]; decide))) hn7 hsd htp htd hbk (by omega)) cb_X7_advance ml_X7_58 im_X7_advance se_X7_advance (fun _ => o3) h1 hk rfl rfl (rest := []) rfl (Nat.le_of_ble_eq_true rfl) ⟨Nat.le_of_ble_eq_true rfl, Nat.le_of_ble_eq_true rfl⟩ ⟨Nat.le_of_ble_eq_true rfl, Nat.le_of_ble_eq_true rfl⟩ (fun r σ5588 hp => ?_)
    obtain ⟨h5589, ⟨tk5604, vl5605, ct5606, rd5591, rd5592, rd5593, rd5594, rd5595, rd5596, rd5597, rd5598, rd5599, rd5600, rd5601, rd5602, rd5603⟩, rfl⟩ := hp
    have h5590 := HK.trans h1 h5589 (by decide)
    exact m_vret F hQ e_X7_startLine_14 (⟨h5590, ⟨tk5604, vl5605, ct5606, ⟨rd5591, rd5592, rd5593, rd5594, rd5595, rd5596, rd5597, rd5598, rd5599, rd5600, rd5601, rd5602, rd5603⟩⟩, rfl⟩)
  · exact absurd hp4 q1
theorem nI_inj9 {a b : Nat} (ha : a < 2147483648) (hb : b < 2147483648) (h : nI a = nI b) : a = b := by
  have h1 := congrArg Int32.toInt h
  rw [nI_ti ha, nI_ti hb] at h1
  omega
set_option maxRecDepth 20000 in
theorem s_X7_startLineR (l : Launch) (V : VX) (b M Z T N : Nat) (σ : Mem) (a : Nat) (n901 : Nat) (tp : Nat) (td : Nat) (n : Nat) (bk : Nat) (nx : Nat) (st : Nat) (tk : Int32) (vl : Int32) (py : Nat) (sd : Nat) (ln : Nat) (ft : Int32) (pl : Int32) (t : Nat → Nat) (h0 : HT V (b, M, Z, T) σ) (hk : kA b a = 3) (hn901 : n901 ≤ 4) (hp0 : ft = 0) (hp1 : 1 ≤ n901) (hR : RD σ a tp td n bk nx st tk vl py sd ln ft pl) (hB : BY V σ tp n t) (hn7 : n ≤ 700) (hsd : sd ≤ 1) (htp : kA b tp = 2) (htd : kA b td = 4) (hbk : kA b bk = 7) (hM : M + 0 ≤ 1000000000) : Ct l V yX7_startLine cX7_startLine 2 none 2 0 0 N σ [.ref a, .int (nI n901)] (fun r τ => HK V (b, M, Z, T) [0, 1, 2, 4, 5, 6, 7, 8, 9, 10, 11, 12, 13, 14, 15, 16, 17, 18, 19] σ τ ∧ FT τ a n901 st ∧ r = none) := by
  refine Ct.of (by decide) (Nat.le_of_ble_eq_true rfl) [(0, .ref a), (1, .int (nI n901))] rfl (fun X hX F hQ => ?_)
  have h1 : HK V (b, M, Z, T) [0, 1, 2, 4, 5, 6, 7, 8, 9, 10, 11, 12, 13, 14, 15, 16, 17, 18, 19] σ σ := HK.start h0
  have hrd5607 := hR
  obtain ⟨rd5607, rd5608, rd5609, rd5610, rd5611, rd5612, rd5613, rd5614, rd5615, rd5616, rd5617, rd5618, rd5619⟩ := hrd5607
  subst hp0
  refine m_iload_n F rfl e_X7_startLine_0 ?_
  refine m_if_eq F e_X7_startLine_1 (fun q1 => ?_) (fun q1 => ?_)
  · have c1 : n901 = 0 := (nI_eq (a := n901) (b := 0) (by omega) (by omega)).mp q1
    exfalso; omega
  · have c1 : n901 ≠ 0 := by have hh := mt (nI_eq (a := n901) (b := 0) (by omega) (by omega)).mpr q1; omega
    refine m_aload_n F rfl e_X7_startLine_4 ?_
    refine m_iload_n F rfl e_X7_startLine_5 ?_
    refine t_callV F e_X7_startLine_6 (s_X7_failE (x_l X) V b M Z T _ _ a (nI n901) tp td n bk nx st tk vl py sd ln 0 pl t h1.1 hk rfl (fun e => absurd (nI_inj9 (b := 0) (by omega) (by omega) e) (by omega)) ⟨rd5607, rd5608, rd5609, rd5610, rd5611, rd5612, rd5613, rd5614, rd5615, rd5616, rd5617, rd5618, rd5619⟩ (hB.keep (h1.2 tp (by rw [show kA _ tp = 2 from htp]; decide))) hn7 hsd htp htd hbk (by omega)) cb_X7_fail ml_X7_77 im_X7_fail se_X7_fail (fun _ => o3) h1 hk rfl rfl (rest := []) rfl (Nat.le_of_ble_eq_true rfl) ⟨Nat.le_of_ble_eq_true rfl, Nat.le_of_ble_eq_true rfl⟩ ⟨Nat.le_of_ble_eq_true rfl, Nat.le_of_ble_eq_true rfl⟩ (fun r σ5620 hp => ?_)
    obtain ⟨h5621, ⟨rd5623, rd5624, rd5625, rd5626, rd5627, rd5628, rd5629, rd5630, rd5631, rd5632, rd5633, rd5634, rd5635⟩, rfl⟩ := hp
    have h5622 := HK.trans h1 h5621 (by decide)
    exact m_vret F hQ e_X7_startLine_9 (⟨h5622, ⟨rd5634, rd5635⟩, rfl⟩)
set_option maxRecDepth 20000 in
theorem s_X5_tellE (l : Launch) (V : VX) (b M Z T N : Nat) (σ : Mem) (a : Nat) (n901 : Nat) (x902 : Int32) (x903 : Int32) (x904 : Int32) (h0 : HT V (b, M, Z, T) σ) (hk : kA b a = 15) (hn901 : n901 ≤ 1073741823) (hM : M + 0 ≤ 1000000000) : Ct l V yX5_tell cX5_tell 5 none 4 0 0 N σ [.ref a, .int (nI n901), .int x902, .int x903, .int x904] (fun r τ => HK V (b, M, Z, T) [0, 1, 2, 3, 4, 5, 7, 8, 9, 10, 11, 12, 13, 14, 16, 19] σ τ ∧ fld τ a 0 = some (.int (nI n901)) ∧ (∀ x, x ≠ a → kA b x = 15 → fld τ x 0 = fld σ x 0) ∧ r = none) := by
  refine Ct.of (by decide) (Nat.le_of_ble_eq_true rfl) [(0, .ref a), (1, .int (nI n901)), (2, .int x902), (3, .int x903), (4, .int x904)] rfl (fun X hX F hQ => ?_)
  have h1 : HK V (b, M, Z, T) [0, 1, 2, 3, 4, 5, 7, 8, 9, 10, 11, 12, 13, 14, 16, 19] σ σ := HK.start h0
  refine m_aload_n F rfl e_X5_tell_0 ?_
  refine m_iload_n F rfl e_X5_tell_1 ?_
  refine t_putC F e_X5_tell_2 fp_X5_35 (fun _ => o15) h1 hk rfl ⟨_, rfl⟩ rfl rfl (by decide) (fun σ5636 h5637 g5638 g5639 f5640 => ?_)
  have ot5641 : ∀ x, x ≠ a → kA b x = 15 → fld _ x 0 = fld _ x 0 := fun x h1 h2 => (fld_eq (g5638 x h1)).trans ((fun _ _ _ => rfl) x h1 h2)
  refine m_aload_n F rfl e_X5_tell_5 ?_
  refine m_iload_n F rfl e_X5_tell_6 ?_
  refine t_putC F e_X5_tell_7 fp_X5_39 (fun _ => o15) h5637 hk rfl ⟨_, rfl⟩ rfl rfl (by decide) (fun σ5642 h5643 g5644 g5645 f5646 => ?_)
  have ot5647 : ∀ x, x ≠ a → kA b x = 15 → fld _ x 0 = fld _ x 0 := fun x h1 h2 => (fld_eq (g5644 x h1)).trans (ot5641 x h1 h2)
  refine m_aload_n F rfl e_X5_tell_10 ?_
  refine m_iload_n F rfl e_X5_tell_11 ?_
  refine t_putC F e_X5_tell_12 fp_X5_42 (fun _ => o15) h5643 hk rfl ⟨_, rfl⟩ rfl rfl (by decide) (fun σ5648 h5649 g5650 g5651 f5652 => ?_)
  have ot5653 : ∀ x, x ≠ a → kA b x = 15 → fld _ x 0 = fld _ x 0 := fun x h1 h2 => (fld_eq (g5650 x h1)).trans (ot5647 x h1 h2)
  refine m_aload_n F rfl e_X5_tell_15 ?_
  refine m_iload F rfl e_X5_tell_16 ?_
  refine t_putC F e_X5_tell_18 fp_X5_45 (fun _ => o15) h5649 hk rfl ⟨_, rfl⟩ rfl rfl (by decide) (fun σ5654 h5655 g5656 g5657 f5658 => ?_)
  have ot5659 : ∀ x, x ≠ a → kA b x = 15 → fld _ x 0 = fld _ x 0 := fun x h1 h2 => (fld_eq (g5656 x h1)).trans (ot5653 x h1 h2)
  refine m_aload_n F rfl e_X5_tell_21 ?_
  refine m_iconst F (v := 0) (by decide) e_X5_tell_22 ?_
  refine t_putC F e_X5_tell_23 fp_X5_48 (fun _ => o15) h5655 hk rfl ⟨_, rfl⟩ rfl rfl (by decide) (fun σ5660 h5661 g5662 g5663 f5664 => ?_)
  have ot5665 : ∀ x, x ≠ a → kA b x = 15 → fld _ x 0 = fld _ x 0 := fun x h1 h2 => (fld_eq (g5662 x h1)).trans (ot5659 x h1 h2)
  refine m_aload_n F rfl e_X5_tell_26 ?_
  refine m_iconst F (v := 0) (by decide) e_X5_tell_27 ?_
  refine t_putC F e_X5_tell_28 fp_X5_51 (fun _ => o15) h5661 hk rfl ⟨_, rfl⟩ rfl rfl (by decide) (fun σ5666 h5667 g5668 g5669 f5670 => ?_)
  have ot5671 : ∀ x, x ≠ a → kA b x = 15 → fld _ x 0 = fld _ x 0 := fun x h1 h2 => (fld_eq (g5668 x h1)).trans (ot5665 x h1 h2)
  refine m_aload_n F rfl e_X5_tell_31 ?_
  refine m_iconst F (v := 0) (by decide) e_X5_tell_32 ?_
  refine t_putC F e_X5_tell_33 fp_X5_54 (fun _ => o15) h5667 hk rfl ⟨_, rfl⟩ rfl rfl (by decide) (fun σ5672 h5673 g5674 g5675 f5676 => ?_)
  have ot5677 : ∀ x, x ≠ a → kA b x = 15 → fld _ x 0 = fld _ x 0 := fun x h1 h2 => (fld_eq (g5674 x h1)).trans (ot5671 x h1 h2)
  refine m_aload_n F rfl e_X5_tell_36 ?_
  refine m_iconst F (v := 0) (by decide) e_X5_tell_37 ?_
  refine t_putC F e_X5_tell_38 fp_X5_57 (fun _ => o15) h5673 hk rfl ⟨_, rfl⟩ rfl rfl (by decide) (fun σ5678 h5679 g5680 g5681 f5682 => ?_)
  have ot5683 : ∀ x, x ≠ a → kA b x = 15 → fld _ x 0 = fld _ x 0 := fun x h1 h2 => (fld_eq (g5680 x h1)).trans (ot5677 x h1 h2)
  refine m_aload_n F rfl e_X5_tell_41 ?_
  refine m_iconst F (v := 0) (by decide) e_X5_tell_42 ?_
  refine t_putC F e_X5_tell_43 fp_X5_60 (fun _ => o15) h5679 hk rfl ⟨_, rfl⟩ rfl rfl (by decide) (fun σ5684 h5685 g5686 g5687 f5688 => ?_)
  have ot5689 : ∀ x, x ≠ a → kA b x = 15 → fld _ x 0 = fld _ x 0 := fun x h1 h2 => (fld_eq (g5686 x h1)).trans (ot5683 x h1 h2)
  refine m_aload_n F rfl e_X5_tell_46 ?_
  refine m_iconst F (v := 0) (by decide) e_X5_tell_47 ?_
  refine t_putC F e_X5_tell_48 fp_X5_63 (fun _ => o15) h5685 hk rfl ⟨_, rfl⟩ rfl rfl (by decide) (fun σ5690 h5691 g5692 g5693 f5694 => ?_)
  have ot5695 : ∀ x, x ≠ a → kA b x = 15 → fld _ x 0 = fld _ x 0 := fun x h1 h2 => (fld_eq (g5692 x h1)).trans (ot5689 x h1 h2)
  refine m_aload_n F rfl e_X5_tell_51 ?_
  refine m_iconst F (v := 0) (by decide) e_X5_tell_52 ?_
  refine t_putC F e_X5_tell_53 fp_X5_66 (fun _ => o15) h5691 hk rfl ⟨0, (show 0 ≤ 1 by omega), rfl⟩ (by decide) rfl (by decide) (fun σ5696 h5697 g5698 g5699 f5700 => ?_)
  have ot5701 : ∀ x, x ≠ a → kA b x = 15 → fld _ x 0 = fld _ x 0 := fun x h1 h2 => (fld_eq (g5698 x h1)).trans (ot5695 x h1 h2)
  refine m_aload_n F rfl e_X5_tell_56 ?_
  refine m_iconst F (v := 0) (by decide) e_X5_tell_57 ?_
  refine t_putC F e_X5_tell_58 fp_X5_70 (fun _ => o15) h5697 hk rfl ⟨0, (show 0 ≤ 1 by omega), rfl⟩ (by decide) rfl (by decide) (fun σ5702 h5703 g5704 g5705 f5706 => ?_)
  have ot5707 : ∀ x, x ≠ a → kA b x = 15 → fld _ x 0 = fld _ x 0 := fun x h1 h2 => (fld_eq (g5704 x h1)).trans (ot5701 x h1 h2)
  refine m_aload_n F rfl e_X5_tell_61 ?_
  refine m_iconst F (v := 0) (by decide) e_X5_tell_62 ?_
  refine t_putC F e_X5_tell_63 fp_X5_73 (fun _ => o15) h5703 hk rfl ⟨0, (show 0 ≤ 1 by omega), rfl⟩ (by decide) rfl (by decide) (fun σ5708 h5709 g5710 g5711 f5712 => ?_)
  have ot5713 : ∀ x, x ≠ a → kA b x = 15 → fld _ x 0 = fld _ x 0 := fun x h1 h2 => (fld_eq (g5710 x h1)).trans (ot5707 x h1 h2)
  refine m_aload_n F rfl e_X5_tell_66 ?_
  refine t_get F e_X5_tell_67 fl_X5_12 (fun _ => o15) h5709 hk rfl (fun v hv f5714 => ?_)
  obtain ⟨r5715, k5716, rfl⟩ := hv
  refine m_lconst F (v := 0) (by decide) e_X5_tell_70 ?_
  refine t_callV F e_X5_tell_71 (s_X1_set (x_l X) V b M Z T _ _ r5715 0 h5709.1 k5716  (by omega)) cb_X1_set ml_X5_76 im_X1_set se_X1_set (fun _ => o6) h5709 k5716 rfl rfl (rest := []) rfl (Nat.le_of_ble_eq_true rfl) ⟨Nat.le_of_ble_eq_true rfl, Nat.le_of_ble_eq_true rfl⟩ ⟨Nat.le_of_ble_eq_true rfl, Nat.le_of_ble_eq_true rfl⟩ (fun r σ5717 hp => ?_)
  obtain ⟨h5719, rfl⟩ := hp
  have h5718 := HK.trans h5709 h5719 (by decide)
  have ot5720 : ∀ x, x ≠ a → kA b x = 15 → fld _ x 0 = fld _ x 0 := fun x h1 h2 => (fld_eq (h5719.2 x (by rw [show kA _ x = 15 from h2]; decide))).trans (ot5713 x h1 h2)
  refine m_aload_n F rfl e_X5_tell_74 ?_
  refine t_get F e_X5_tell_75 fl_X5_18 (fun _ => o15) h5718 hk rfl (fun v hv f5721 => ?_)
  obtain ⟨r5722, k5723, rfl⟩ := hv
  refine m_lconst F (v := 0) (by decide) e_X5_tell_78 ?_
  refine t_callV F e_X5_tell_79 (s_X1_set (x_l X) V b M Z T _ _ r5722 0 h5718.1 k5723  (by omega)) cb_X1_set ml_X5_76 im_X1_set se_X1_set (fun _ => o6) h5718 k5723 rfl rfl (rest := []) rfl (Nat.le_of_ble_eq_true rfl) ⟨Nat.le_of_ble_eq_true rfl, Nat.le_of_ble_eq_true rfl⟩ ⟨Nat.le_of_ble_eq_true rfl, Nat.le_of_ble_eq_true rfl⟩ (fun r σ5724 hp => ?_)
  obtain ⟨h5726, rfl⟩ := hp
  have h5725 := HK.trans h5718 h5726 (by decide)
  have ot5727 : ∀ x, x ≠ a → kA b x = 15 → fld _ x 0 = fld _ x 0 := fun x h1 h2 => (fld_eq (h5726.2 x (by rw [show kA _ x = 15 from h2]; decide))).trans (ot5720 x h1 h2)
  refine m_aload_n F rfl e_X5_tell_82 ?_
  refine t_get F e_X5_tell_83 fl_X5_24 (fun _ => o15) h5725 hk rfl (fun v hv f5728 => ?_)
  obtain ⟨r5729, k5730, rfl⟩ := hv
  refine m_bipush F (v := 72) (by decide) e_X5_tell_86 ?_
  refine m_lconst F (v := 0) (by decide) e_X5_tell_88 ?_
  refine t_callV F e_X5_tell_89 (s_X8_fill (x_l X) V b M Z T _ _ r5729 72 0 h5725.1 k5730  (by omega)) cb_X8_fill ml_X5_80 im_X8_fill se_X8_fill (fun _ => o16) h5725 k5730 rfl rfl (rest := []) rfl (Nat.le_of_ble_eq_true rfl) ⟨Nat.le_of_ble_eq_true rfl, Nat.le_of_ble_eq_true rfl⟩ ⟨Nat.le_of_ble_eq_true rfl, Nat.le_of_ble_eq_true rfl⟩ (fun r σ5731 hp => ?_)
  obtain ⟨h5733, rfl⟩ := hp
  have h5732 := HK.trans h5725 h5733 (by decide)
  have ot5734 : ∀ x, x ≠ a → kA b x = 15 → fld _ x 0 = fld _ x 0 := fun x h1 h2 => (fld_eq (h5733.2 x (by rw [show kA _ x = 15 from h2]; decide))).trans (ot5727 x h1 h2)
  refine m_aload_n F rfl e_X5_tell_92 ?_
  refine t_get F e_X5_tell_93 fl_X5_28 (fun _ => o15) h5732 hk rfl (fun v hv f5735 => ?_)
  obtain ⟨r5736, k5737, rfl⟩ := hv
  refine m_bipush F (v := 72) (by decide) e_X5_tell_96 ?_
  refine m_lconst F (v := 0) (by decide) e_X5_tell_98 ?_
  refine t_callV F e_X5_tell_99 (s_X8_fill (x_l X) V b M Z T _ _ r5736 72 0 h5732.1 k5737  (by omega)) cb_X8_fill ml_X5_80 im_X8_fill se_X8_fill (fun _ => o16) h5732 k5737 rfl rfl (rest := []) rfl (Nat.le_of_ble_eq_true rfl) ⟨Nat.le_of_ble_eq_true rfl, Nat.le_of_ble_eq_true rfl⟩ ⟨Nat.le_of_ble_eq_true rfl, Nat.le_of_ble_eq_true rfl⟩ (fun r σ5738 hp => ?_)
  obtain ⟨h5740, rfl⟩ := hp
  have h5739 := HK.trans h5732 h5740 (by decide)
  have ot5741 : ∀ x, x ≠ a → kA b x = 15 → fld _ x 0 = fld _ x 0 := fun x h1 h2 => (fld_eq (h5740.2 x (by rw [show kA _ x = 15 from h2]; decide))).trans (ot5734 x h1 h2)
  refine m_aload_n F rfl e_X5_tell_102 ?_
  refine t_get F e_X5_tell_103 fl_X5_31 (fun _ => o15) h5739 hk rfl (fun v hv f5742 => ?_)
  obtain ⟨r5743, k5744, rfl⟩ := hv
  refine m_lconst F (v := 0) (by decide) e_X5_tell_106 ?_
  refine m_callS F e_X5_tell_107 (s_J7_fill_d0a16_18 (x_l X) V b M Z T _ _ r5743 0 h5739.1 k5744 (by omega)) cb_J7_fill_d0a16 ml_X5_84 sm_J7_fill_d0a16 rfl (rest := []) rfl (Nat.le_of_ble_eq_true rfl) ⟨Nat.le_of_ble_eq_true rfl, Nat.le_of_ble_eq_true rfl⟩ ⟨Nat.le_of_ble_eq_true rfl, Nat.le_of_ble_eq_true rfl⟩ (k' := 0) (z' := 0) (N' := N) rfl rfl rfl (fun r σ5745 hp => ?_)
  obtain ⟨h5747, rfl⟩ := hp
  have h5746 := HK.trans h5739 h5747 (by decide)
  have ot5748 : ∀ x, x ≠ a → kA b x = 15 → fld _ x 0 = fld _ x 0 := fun x h1 h2 => (fld_eq (h5747.2 x (by rw [show kA _ x = 15 from h2]; decide))).trans (ot5741 x h1 h2)
  exact m_vret F hQ e_X5_tell_110 (⟨h5746, (fld_eq (h5747.2 a (by rw [show kA _ a = 15 from hk]; decide))).trans ((fld_eq (h5740.2 a (by rw [show kA _ a = 15 from hk]; decide))).trans ((fld_eq (h5733.2 a (by rw [show kA _ a = 15 from hk]; decide))).trans ((fld_eq (h5726.2 a (by rw [show kA _ a = 15 from hk]; decide))).trans ((fld_eq (h5719.2 a (by rw [show kA _ a = 15 from hk]; decide))).trans ((g5711 0 (by decide)).trans ((g5705 0 (by decide)).trans ((g5699 0 (by decide)).trans ((g5693 0 (by decide)).trans ((g5687 0 (by decide)).trans ((g5681 0 (by decide)).trans ((g5675 0 (by decide)).trans ((g5669 0 (by decide)).trans ((g5663 0 (by decide)).trans ((g5657 0 (by decide)).trans ((g5651 0 (by decide)).trans ((g5645 0 (by decide)).trans f5640)))))))))))))))), ot5748, rfl⟩)
set_option maxRecDepth 20000 in
theorem s_X2_addLeaseE (l : Launch) (V : VX) (b M Z T N : Nat) (σ : Mem) (a : Nat) (n901 : Nat) (x902 : Int32) (x903 : Int32) (x904 : Int32) (nl : Nat) (nm : Nat → Nat) (nc : Nat) (lc : Nat) (no : Nat) (h0 : HT V (b, M, Z, T) σ) (hk : kA b a = 7) (hn901 : n901 ≤ 1073741823) (hp0 : nl < 4) (hBX : BX σ a nl nm nc lc no) (hM : M + 0 ≤ 1000000000) : Ct l V yX2_addLease cX2_addLease 5 none 5 0 0 N σ [.ref a, .int (nI n901), .int x902, .int x903, .int x904] (fun r τ => HK V (b, M, Z, T) [0, 1, 2, 3, 4, 5, 8, 9, 10, 11, 12, 13, 14, 16, 19] σ τ ∧ BX τ a (nl + 1) (upn nm nl n901) nc lc no ∧ r = none) := by
  refine Ct.of (by decide) (Nat.le_of_ble_eq_true rfl) [(0, .ref a), (1, .int (nI n901)), (2, .int x902), (3, .int x903), (4, .int x904)] rfl (fun X hX F hQ => ?_)
  have h1 : HK V (b, M, Z, T) [0, 1, 2, 3, 4, 5, 8, 9, 10, 11, 12, 13, 14, 16, 19] σ σ := HK.start h0
  have hbb5749 := hBX
  obtain ⟨bb5749, bb5750, bb5751, bb5752, bb5753, bb5754, bb5755, bb5756⟩ := hbb5749
  refine m_aload_n F rfl e_X2_addLease_0 ?_
  refine t_getC F e_X2_addLease_1 fl_X2_58 (fun _ => o7) h1 hk (bb5749) ?_
  refine m_iconst F (v := 4) (by decide) e_X2_addLease_4 ?_
  refine m_icmp_ge F e_X2_addLease_5 (fun q5 => ?_) (fun q5 => ?_)
  · have c5 : nl ≥ 4 := (nI_leI (a := 4) (b := nl) (by omega) (by omega)).mp q5
    exfalso; omega
  · have c5 : nl < 4 := by have hh := mt (nI_leI (a := 4) (b := nl) (by omega) (by omega)).mpr q5; omega
    refine m_aload_n F rfl e_X2_addLease_8 ?_
    refine t_get F e_X2_addLease_9 fl_X2_11 (fun _ => o7) h1 hk rfl (fun v hv f5757 => ?_)
    obtain rfl : v = .ref (a + 1) := hv
    refine m_aload_n F rfl e_X2_addLease_12 ?_
    refine t_getC F e_X2_addLease_13 fl_X2_58 (fun _ => o7) h1 hk (bb5749) ?_
    refine t_aald8 F (j := nl) e_X2_addLease_16 rfl h1 (kA_7 hk (r := 1) (by decide)) (nI_clamp (by omega)) (vp_in_nI (by omega) (by decide)) ?_
    refine m_iload_n F rfl e_X2_addLease_17 ?_
    refine m_iload_n F rfl e_X2_addLease_18 ?_
    refine m_iload_n F rfl e_X2_addLease_19 ?_
    refine m_iload F rfl e_X2_addLease_20 ?_
    refine t_callV F e_X2_addLease_22 (s_X5_tellE (x_l X) V b M Z T _ _ ((a + 1) + 10 + 12 * nl) n901 x902 x903 x904 h1.1 (kA_8 (kA_7 hk (r := 1) (by decide)) (j := nl) (by omega)) (by omega) (by omega)) cb_X5_tell ml_X2_93 im_X5_tell se_X5_tell (fun _ => o15) h1 (kA_8 (kA_7 hk (r := 1) (by decide)) (j := nl) (by omega)) rfl rfl (rest := []) rfl (Nat.le_of_ble_eq_true rfl) ⟨Nat.le_of_ble_eq_true rfl, Nat.le_of_ble_eq_true rfl⟩ ⟨Nat.le_of_ble_eq_true rfl, Nat.le_of_ble_eq_true rfl⟩ (fun r σ5758 hp => ?_)
    obtain ⟨h5759, el5761, ot5762, rfl⟩ := hp
    have h5760 := HK.trans h1 h5759 (by decide)
    refine m_aload_n F rfl e_X2_addLease_25 ?_
    refine m_dup F rfl e_X2_addLease_26 ?_
    refine t_getC F e_X2_addLease_27 fl_X2_58 (fun _ => o7) h5760 hk ((fld_eq (h5759.2 a (by rw [show kA _ a = 7 from hk]; decide))).trans bb5749) ?_
    refine m_iconst F (v := 1) (by decide) e_X2_addLease_30 ?_
    refine m_iadd F e_X2_addLease_31 ?_
    refine Wm.topE (w := nI (nl + 1)) (nI_add nl 1) ?_
    refine t_putC F e_X2_addLease_32 fp_X2_58 (fun _ => o7) h5760 hk rfl ⟨nl + 1, (show nl + 1 ≤ 4 by omega), rfl⟩ rfl rfl (by decide) (fun σ5763 h5764 g5765 g5766 f5767 => ?_)
    have ot5768 : ∀ x, x ≠ ((a + 1) + 10 + 12 * nl) → kA b x = 15 → fld _ x 0 = fld _ x 0 := fun x h1 h2 => (fld_eq (g5765 x (kdn h2 hk (by decide)))).trans (ot5762 x h1 h2)
    exact m_vret F hQ e_X2_addLease_35 (⟨h5764, BX.addL hBX hk (by omega) (by omega) (f5767) (((g5766 9 (by decide)).trans ((fld_eq (h5759.2 a (by rw [show kA _ a = 7 from hk]; decide))).trans bb5750)).trans bb5750.symm) (((g5766 10 (by decide)).trans ((fld_eq (h5759.2 a (by rw [show kA _ a = 7 from hk]; decide))).trans bb5751)).trans bb5751.symm) (h5764.2 (a + 4) (by rw [show kA _ (a + 4) = 11 from kA_7 hk (r := 4) (by decide)]; decide)) ((fld_eq (g5765 ((a + 1) + 10 + 12 * nl) (kdn (kA_8 (kA_7 hk (r := 1) (by decide)) (j := nl) (by omega)) hk (by decide)))).trans el5761) ot5768, rfl⟩)
set_option maxRecDepth 20000 in
theorem s_X2_addOptionE (l : Launch) (V : VX) (b M Z T N : Nat) (σ : Mem) (a : Nat) (n901 : Nat) (n902 : Nat) (x903 : Int32) (nl : Nat) (nm : Nat → Nat) (nc : Nat) (lc : Nat) (no : Nat) (h0 : HT V (b, M, Z, T) σ) (hk : kA b a = 7) (hn901 : n901 ≤ 3) (hn902 : n902 ≤ 24) (hp0 : no < 4) (hBX : BX σ a nl nm nc lc no) (hM : M + 0 ≤ 1000000000) : Ct l V yX2_addOption cX2_addOption 5 none 0 0 0 N σ [.ref a, .int (nI n901), .int (nI n902), .int x903] (fun r τ => HK V (b, M, Z, T) [0, 1, 2, 3, 4, 5, 6, 8, 9, 10, 11, 12, 13, 14, 15, 16, 17, 18] σ τ ∧ BX τ a nl nm nc lc (no + 1) ∧ r = none) := by
  refine Ct.of (by decide) (Nat.le_of_ble_eq_true rfl) [(0, .ref a), (1, .int (nI n901)), (2, .int (nI n902)), (3, .int x903)] rfl (fun X hX F hQ => ?_)
  have h1 : HK V (b, M, Z, T) [0, 1, 2, 3, 4, 5, 6, 8, 9, 10, 11, 12, 13, 14, 15, 16, 17, 18] σ σ := HK.start h0
  have hbb5769 := hBX
  obtain ⟨bb5769, bb5770, bb5771, bb5772, bb5773, bb5774, bb5775, bb5776⟩ := hbb5769
  refine m_aload_n F rfl e_X2_addOption_0 ?_
  refine t_getC F e_X2_addOption_1 fl_X2_62 (fun _ => o7) h1 hk (bb5770) ?_
  refine m_iconst F (v := 4) (by decide) e_X2_addOption_4 ?_
  refine m_icmp_ge F e_X2_addOption_5 (fun q5 => ?_) (fun q5 => ?_)
  · have c5 : no ≥ 4 := (nI_leI (a := 4) (b := no) (by omega) (by omega)).mp q5
    exfalso; omega
  · have c5 : no < 4 := by have hh := mt (nI_leI (a := 4) (b := no) (by omega) (by omega)).mpr q5; omega
    refine m_aload_n F rfl e_X2_addOption_8 ?_
    refine t_get F e_X2_addOption_9 fl_X2_19 (fun _ => o7) h1 hk rfl (fun v hv f5777 => ?_)
    obtain rfl : v = .ref (a + 2) := hv
    refine m_aload_n F rfl e_X2_addOption_12 ?_
    refine t_getC F e_X2_addOption_13 fl_X2_62 (fun _ => o7) h1 hk (bb5770) ?_
    refine t_aald9 F (j := no) e_X2_addOption_16 rfl h1 (kA_7 hk (r := 2) (by decide)) (nI_clamp (by omega)) (vp_in_nI (by omega) (by decide)) ?_
    refine m_astore F (lv' := [(4, .ref ((a + 2) + 57 + no)), (0, .ref a), (1, .int (nI n901)), (2, .int (nI n902)), (3, .int x903)]) e_X2_addOption_17 (by decide) rfl ?_
    refine m_aload F rfl e_X2_addOption_19 ?_
    refine m_iload_n F rfl e_X2_addOption_21 ?_
    refine t_putC F e_X2_addOption_22 fp_X2_97 (fun _ => o19) h1 (kA_9 (kA_7 hk (r := 2) (by decide)) (j := no) (by omega)) rfl ⟨n901, (show n901 ≤ 3 by omega), rfl⟩ rfl rfl (by decide) (fun σ5778 h5779 g5780 g5781 f5782 => ?_)
    refine m_aload F rfl e_X2_addOption_25 ?_
    refine m_iload_n F rfl e_X2_addOption_27 ?_
    refine t_putC F e_X2_addOption_28 fp_X2_100 (fun _ => o19) h5779 (kA_9 (kA_7 hk (r := 2) (by decide)) (j := no) (by omega)) rfl ⟨n902, (show n902 ≤ 24 by omega), rfl⟩ rfl rfl (by decide) (fun σ5783 h5784 g5785 g5786 f5787 => ?_)
    refine m_aload F rfl e_X2_addOption_31 ?_
    refine m_iload_n F rfl e_X2_addOption_33 ?_
    refine t_putC F e_X2_addOption_34 fp_X2_103 (fun _ => o19) h5784 (kA_9 (kA_7 hk (r := 2) (by decide)) (j := no) (by omega)) rfl ⟨_, rfl⟩ rfl rfl (by decide) (fun σ5788 h5789 g5790 g5791 f5792 => ?_)
    refine m_aload F rfl e_X2_addOption_37 ?_
    refine m_iconst F (v := 0) (by decide) e_X2_addOption_39 ?_
    refine t_putC F e_X2_addOption_40 fp_X2_106 (fun _ => o19) h5789 (kA_9 (kA_7 hk (r := 2) (by decide)) (j := no) (by omega)) rfl ⟨0, (show 0 ≤ 1 by omega), rfl⟩ (by decide) rfl (by decide) (fun σ5793 h5794 g5795 g5796 f5797 => ?_)
    refine m_aload_n F rfl e_X2_addOption_43 ?_
    refine m_dup F rfl e_X2_addOption_44 ?_
    refine t_getC F e_X2_addOption_45 fl_X2_62 (fun _ => o7) h5794 hk ((fld_eq (g5795 a (kdn hk (kA_9 (kA_7 hk (r := 2) (by decide)) (j := no) (by omega)) (by decide)))).trans ((fld_eq (g5790 a (kdn hk (kA_9 (kA_7 hk (r := 2) (by decide)) (j := no) (by omega)) (by decide)))).trans ((fld_eq (g5785 a (kdn hk (kA_9 (kA_7 hk (r := 2) (by decide)) (j := no) (by omega)) (by decide)))).trans ((fld_eq (g5780 a (kdn hk (kA_9 (kA_7 hk (r := 2) (by decide)) (j := no) (by omega)) (by decide)))).trans bb5770)))) ?_
    refine m_iconst F (v := 1) (by decide) e_X2_addOption_48 ?_
    refine m_iadd F e_X2_addOption_49 ?_
    refine Wm.topE (w := nI (no + 1)) (nI_add no 1) ?_
    refine t_putC F e_X2_addOption_50 fp_X2_62 (fun _ => o7) h5794 hk rfl ⟨no + 1, (show no + 1 ≤ 4 by omega), rfl⟩ rfl rfl (by decide) (fun σ5798 h5799 g5800 g5801 f5802 => ?_)
    exact m_vret F hQ e_X2_addOption_53 (⟨h5799, BX.addO hBX hk (by omega) (((g5801 8 (by decide)).trans ((fld_eq (g5795 a (kdn hk (kA_9 (kA_7 hk (r := 2) (by decide)) (j := no) (by omega)) (by decide)))).trans ((fld_eq (g5790 a (kdn hk (kA_9 (kA_7 hk (r := 2) (by decide)) (j := no) (by omega)) (by decide)))).trans ((fld_eq (g5785 a (kdn hk (kA_9 (kA_7 hk (r := 2) (by decide)) (j := no) (by omega)) (by decide)))).trans ((fld_eq (g5780 a (kdn hk (kA_9 (kA_7 hk (r := 2) (by decide)) (j := no) (by omega)) (by decide)))).trans bb5769))))).trans bb5769.symm) (f5802) (((g5801 10 (by decide)).trans ((fld_eq (g5795 a (kdn hk (kA_9 (kA_7 hk (r := 2) (by decide)) (j := no) (by omega)) (by decide)))).trans ((fld_eq (g5790 a (kdn hk (kA_9 (kA_7 hk (r := 2) (by decide)) (j := no) (by omega)) (by decide)))).trans ((fld_eq (g5785 a (kdn hk (kA_9 (kA_7 hk (r := 2) (by decide)) (j := no) (by omega)) (by decide)))).trans ((fld_eq (g5780 a (kdn hk (kA_9 (kA_7 hk (r := 2) (by decide)) (j := no) (by omega)) (by decide)))).trans bb5771))))).trans bb5771.symm) (h5799.2 (a + 4) (by rw [show kA _ (a + 4) = 11 from kA_7 hk (r := 4) (by decide)]; decide)) (fun x hx => fld_eq (h5799.2 x (by rw [show kA _ x = 15 from hx]; decide))), rfl⟩)
set_option maxRecDepth 20000 in
theorem s_X2_addIndexE (l : Launch) (V : VX) (b M Z T N : Nat) (σ : Mem) (a : Nat) (n901 : Nat) (x902 : Int32) (nl : Nat) (nm : Nat → Nat) (nc : Nat) (lc : Nat) (no : Nat) (h0 : HT V (b, M, Z, T) σ) (hk : kA b a = 7) (hn901 : n901 ≤ 99) (hp0 : nc < 8) (hBX : BX σ a nl nm nc lc no) (hM : M + 0 ≤ 1000000000) : Ct l V yX2_addIndex cX2_addIndex 3 none 3 0 0 N σ [.ref a, .int (nI n901), .int x902] (fun r τ => HK V (b, M, Z, T) [0, 1, 2, 3, 4, 5, 6, 8, 9, 12, 13, 14, 15, 16, 17, 18, 19] σ τ ∧ BX τ a nl nm (nc + 1) (n901 + 1) no ∧ r = none) := by
  refine Ct.of (by decide) (Nat.le_of_ble_eq_true rfl) [(0, .ref a), (1, .int (nI n901)), (2, .int x902)] rfl (fun X hX F hQ => ?_)
  have h1 : HK V (b, M, Z, T) [0, 1, 2, 3, 4, 5, 6, 8, 9, 12, 13, 14, 15, 16, 17, 18, 19] σ σ := HK.start h0
  have hbb5803 := hBX
  obtain ⟨bb5803, bb5804, bb5805, bb5806, bb5807, bb5808, bb5809, bb5810⟩ := hbb5803
  refine m_aload_n F rfl e_X2_addIndex_0 ?_
  refine t_getC F e_X2_addIndex_1 fl_X2_65 (fun _ => o7) h1 hk (bb5805) ?_
  refine m_bipush F (v := 8) (by decide) e_X2_addIndex_4 ?_
  refine m_icmp_ge F e_X2_addIndex_6 (fun q6 => ?_) (fun q6 => ?_)
  · have c6 : nc ≥ 8 := (nI_leI (a := 8) (b := nc) (by omega) (by omega)).mp q6
    exfalso; omega
  · have c6 : nc < 8 := by have hh := mt (nI_leI (a := 8) (b := nc) (by omega) (by omega)).mpr q6; omega
    refine m_iload_n F rfl e_X2_addIndex_9 ?_
    refine m_if_lt F e_X2_addIndex_10 (fun q10 => ?_) (fun q10 => ?_)
    · have c10 : n901 < 0 := (nI_ltI (a := n901) (b := 0) (by omega) (by omega)).mp q10
      exfalso; omega
    · have c10 : n901 ≥ 0 := by have hh := mt (nI_ltI (a := n901) (b := 0) (by omega) (by omega)).mpr q10; omega
      refine m_iload_n F rfl e_X2_addIndex_13 ?_
      refine m_bipush F (v := 99) (by decide) e_X2_addIndex_14 ?_
      refine m_icmp_gt F e_X2_addIndex_16 (fun q16 => ?_) (fun q16 => ?_)
      · have c16 : n901 > 99 := (nI_ltI (a := 99) (b := n901) (by omega) (by omega)).mp q16
        exfalso; omega
      · have c16 : n901 ≤ 99 := by have hh := mt (nI_ltI (a := 99) (b := n901) (by omega) (by omega)).mpr q16; omega
        refine m_aload_n F rfl e_X2_addIndex_19 ?_
        refine t_get F e_X2_addIndex_20 fl_X2_27 (fun _ => o7) h1 hk rfl (fun v hv f5811 => ?_)
        obtain rfl : v = .ref (a + 4) := hv
        refine m_aload_n F rfl e_X2_addIndex_23 ?_
        refine t_getC F e_X2_addIndex_24 fl_X2_65 (fun _ => o7) h1 hk (bb5805) ?_
        refine m_iload_n F rfl e_X2_addIndex_27 ?_
        refine t_iastX F (len := 8) (j := nc) e_X2_addIndex_28 (fun _ => o11) h1 (kA_7 hk (r := 4) (by decide)) (nI_clamp (by omega)) (vp_in_nI (by omega) (by decide)) (by decide) (fun σ5812 h5813 g5814 g5815 g5816 g5817 => ?_)
        refine m_aload_n F rfl e_X2_addIndex_29 ?_
        refine m_dup F rfl e_X2_addIndex_30 ?_
        refine t_getC F e_X2_addIndex_31 fl_X2_65 (fun _ => o7) h5813 hk ((fld_eq (g5814 a (kdn hk (kA_7 hk (r := 4) (by decide)) (by decide)))).trans bb5805) ?_
        refine m_iconst F (v := 1) (by decide) e_X2_addIndex_34 ?_
        refine m_iadd F e_X2_addIndex_35 ?_
        refine Wm.topE (w := nI (nc + 1)) (nI_add nc 1) ?_
        refine t_putC F e_X2_addIndex_36 fp_X2_65 (fun _ => o7) h5813 hk rfl ⟨nc + 1, (show nc + 1 ≤ 8 by omega), rfl⟩ rfl rfl (by decide) (fun σ5818 h5819 g5820 g5821 f5822 => ?_)
        have el5823 := (elA_eq (j := nc) (g5820 (a + 4) (kdn (kA_7 hk (r := 4) (by decide)) hk (by decide)))).trans g5815
        refine m_aload_n F rfl e_X2_addIndex_39 ?_
        refine t_get F e_X2_addIndex_40 fl_X2_23 (fun _ => o7) h5819 hk rfl (fun v hv f5824 => ?_)
        obtain rfl : v = .ref (a + 3) := hv
        refine m_iload_n F rfl e_X2_addIndex_43 ?_
        refine m_bipush F (v := 100) (by decide) e_X2_addIndex_44 ?_
        refine m_iload_n F rfl e_X2_addIndex_46 ?_
        refine m_callS F e_X2_addIndex_47 (s_J7_fill_fda19_10 (x_l X) V b M Z T _ _ (a + 3) n901 100 x902 h5819.1 (kA_7 hk (r := 3) (by decide)) (by omega) (by omega) (by first | omega | assumption | decide) (by first | omega | assumption | decide) (by omega)) cb_J7_fill_fda19 ml_X2_110 sm_J7_fill_fda19 rfl (rest := []) rfl (Nat.le_of_ble_eq_true rfl) ⟨Nat.le_of_ble_eq_true rfl, Nat.le_of_ble_eq_true rfl⟩ ⟨Nat.le_of_ble_eq_true rfl, Nat.le_of_ble_eq_true rfl⟩ (k' := 0) (z' := 0) (N' := N) rfl rfl rfl (fun r σ5825 hp => ?_)
        obtain ⟨h5827, rfl⟩ := hp
        have h5826 := HK.trans h5819 h5827 (by decide)
        have el5828 := (elA_eq (j := nc) (h5827.2 (a + 4) (by rw [show kA _ (a + 4) = 11 from (kA_7 hk (r := 4) (by decide))]; decide))).trans el5823
        exact m_vret F hQ e_X2_addIndex_50 (⟨h5826, BX.addI hBX hk (by omega) (by omega) (((fld_eq (h5827.2 a (by rw [show kA _ a = 7 from hk]; decide))).trans ((g5821 8 (by decide)).trans ((fld_eq (g5814 a (kdn hk (kA_7 hk (r := 4) (by decide)) (by decide)))).trans bb5803))).trans bb5803.symm) (((fld_eq (h5827.2 a (by rw [show kA _ a = 7 from hk]; decide))).trans ((g5821 9 (by decide)).trans ((fld_eq (g5814 a (kdn hk (kA_7 hk (r := 4) (by decide)) (by decide)))).trans bb5804))).trans bb5804.symm) ((fld_eq (h5827.2 a (by rw [show kA _ a = 7 from hk]; decide))).trans f5822) el5828 (fun x hx => fld_eq (h5826.2 x (by rw [show kA _ x = 15 from hx]; decide))), rfl⟩)
set_option maxRecDepth 20000 in
theorem s_X2_lastToldE (l : Launch) (V : VX) (b M Z T N : Nat) (σ : Mem) (a : Nat) (nl : Nat) (nm : Nat → Nat) (nc : Nat) (lc : Nat) (no : Nat) (h0 : HT V (b, M, Z, T) σ) (hk : kA b a = 7) (hBX : BX σ a nl nm nc lc no) (hM : M + 0 ≤ 1000000000) : Ct l V yX2_lastTold cX2_lastTold 1 (some .int) 0 0 0 N σ [.ref a] (fun r τ => HK V (b, M, Z, T) [0, 1, 2, 3, 4, 5, 6, 7, 8, 9, 10, 11, 12, 13, 14, 15, 16, 17, 18, 19] σ τ ∧ ∃ x : Int32, r = some (.int x) ∧ x + 1 = nI lc) := by
  refine Ct.of (by decide) (Nat.le_of_ble_eq_true rfl) [(0, .ref a)] rfl (fun X hX F hQ => ?_)
  have h1 : HK V (b, M, Z, T) [0, 1, 2, 3, 4, 5, 6, 7, 8, 9, 10, 11, 12, 13, 14, 15, 16, 17, 18, 19] σ σ := HK.start h0
  have hbb5829 := hBX
  obtain ⟨bb5829, bb5830, bb5831, bb5832, bb5833, bb5834, bb5835, bb5836⟩ := hbb5829
  refine m_aload_n F rfl e_X2_lastTold_0 ?_
  refine t_getC F e_X2_lastTold_1 fl_X2_65 (fun _ => o7) h1 hk (bb5831) ?_
  refine m_if_le F e_X2_lastTold_4 (fun q4 => ?_) (fun q4 => ?_)
  · have c4 : nc ≤ 0 := (nI_leI (a := nc) (b := 0) (by omega) (by omega)).mp q4
    refine m_iconst F (v := (-1)) (by decide) e_X2_lastTold_21 ?_
    exact m_iret F hQ e_X2_lastTold_22 (⟨h1, _, rfl, by rcases bb5833 with hz | hz; (rw [hz.2]; rfl); omega⟩)
  · have c4 : nc > 0 := by have hh := mt (nI_leI (a := nc) (b := 0) (by omega) (by omega)).mpr q4; omega
    refine m_aload_n F rfl e_X2_lastTold_7 ?_
    refine t_get F e_X2_lastTold_8 fl_X2_27 (fun _ => o7) h1 hk rfl (fun v hv f5837 => ?_)
    obtain rfl : v = .ref (a + 4) := hv
    refine m_aload_n F rfl e_X2_lastTold_11 ?_
    refine t_getC F e_X2_lastTold_12 fl_X2_65 (fun _ => o7) h1 hk (bb5831) ?_
    refine m_iconst F (v := 1) (by decide) e_X2_lastTold_15 ?_
    refine m_isub F e_X2_lastTold_16 ?_
    refine Wm.topE (w := nI (nc - 1)) (pk_sub (a := nc) (b := 1) (by omega)) ?_
    refine t_ialdX F (len := 8) (j := nc - 1) e_X2_lastTold_17 (fun _ => o11) h1 (kA_7 hk (r := 4) (by decide)) (nI_clamp (by omega)) (vp_in_nI (by omega) (by decide)) (fun x5838 ex5838 => ?_)
    have ex : x5838 + 1 = nI lc := by
      rcases bb5833 with hz | ⟨b1, b2, b3, b4⟩
      · omega
      · obtain rfl := Option.some.inj (ex5838.symm.trans b4)
        exact (nI_add (lc - 1) 1).trans (congrArg nI (by omega))
    refine m_goto F e_X2_lastTold_18 ?_
    exact m_iret F hQ e_X2_lastTold_22 (⟨h1, _, rfl, ex⟩)
