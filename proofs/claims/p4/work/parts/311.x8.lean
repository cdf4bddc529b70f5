section LT
variable {X : Nat → Tk} {st s9 v9 nx nl : Nat} {nm : Nat → Nat} {np nc lc no sd : Nat} {md : Nat → Nat → Bool} {ln : Nat}
theorem stopS_ok : stopS X (st, 4, v9, nx) nl nm np nc lc no sd md ln = .inr (X nx, nl, nm, np, nc, lc, no, sd, md, ln + 1) := by unfold stopS; exact if_pos rfl
theorem stopS_1 (h : s9 ≠ 4) : stopS X (st, s9, v9, nx) nl nm np nc lc no sd md ln = .inl (1, st) := by unfold stopS; exact if_neg h
theorem lineS_no (h : s9 ≠ 1) : lineS X (st, s9, v9, nx) nl nm np nc lc no sd md ln = .inl (1, st) := by unfold lineS; exact if_neg h
theorem lineS_0 : lineS X (st, 1, 0, nx) nl nm np nc lc no sd md ln = leaseS X (st, 1, 0, nx) nl nm np nc lc no sd md ln := rfl
theorem lineS_1 : lineS X (st, 1, 1, nx) nl nm np nc lc no sd md ln = payS X (st, 1, 1, nx) nl nm np nc lc no sd md ln := rfl
theorem lineS_2 : lineS X (st, 1, 2, nx) nl nm np nc lc no sd md ln = earlyS X (st, 1, 2, nx) nl nm np nc lc no sd md ln := rfl
theorem lineS_3 : lineS X (st, 1, 3, nx) nl nm np nc lc no sd md ln = fairS X (st, 1, 3, nx) nl nm np nc lc no sd md ln := rfl
theorem lineS_4 : lineS X (st, 1, 4, nx) nl nm np nc lc no sd md ln = feeS X (st, 1, 4, nx) nl nm np nc lc no sd md ln := rfl
theorem lineS_5 : lineS X (st, 1, 5, nx) nl nm np nc lc no sd md ln = tiedS X (st, 1, 5, nx) nl nm np nc lc no sd md ln := rfl
theorem lineS_6 : lineS X (st, 1, 6, nx) nl nm np nc lc no sd md ln = indexS X (st, 1, 6, nx) nl nm np nc lc no sd md ln := rfl
theorem lineS_7 : lineS X (st, 1, 7, nx) nl nm np nc lc no sd md ln = optionS X (st, 1, 7, nx) nl nm np nc lc no sd md ln := rfl
theorem lineS_8 : lineS X (st, 1, 8, nx) nl nm np nc lc no sd md ln = seedS X (st, 1, 8, nx) nl nm np nc lc no sd md ln := rfl
end LT
section TT
variable {X : Nat → Tk} {f : Nat} {S S1 S2 : SS} {e : Nat × Nat}
theorem textS_end (h : S.1.2.1 = 0) : textS X f S = .inr S := by
  cases f with
  | zero => rfl
  | succ f => show (if S.1.2.1 = 0 then _ else _) = _; exact if_pos h
theorem textS_f (h0 : S.1.2.1 ≠ 0) (h : lineT X S = .inl e) : textS X (f + 1) S = .inl e := by
  show (if S.1.2.1 = 0 then _ else _) = _
  rw [if_neg h0, h]; rfl
theorem textS_s (h0 : S.1.2.1 ≠ 0) (h : lineT X S = .inr S1) (h2 : stopT X S1 = .inl e) : textS X (f + 1) S = .inl e := by
  show (if S.1.2.1 = 0 then _ else _) = _
  rw [if_neg h0, h]
  show thenS (stopT X S1) _ = _
  rw [h2]; rfl
theorem textS_go (h0 : S.1.2.1 ≠ 0) (h : lineT X S = .inr S1) (h2 : stopT X S1 = .inr S2) : textS X (f + 1) S = textS X f S2 := by
  show (if S.1.2.1 = 0 then _ else _) = _
  rw [if_neg h0, h]
  show thenS (stopT X S1) _ = _
  rw [h2]; rfl
end TT
theorem CT.z {tk vl : Int32} {s v : Nat} (h : CT tk vl s v) : tk = 0 ↔ s = 0 := by
  rcases h with ⟨rfl, rfl⟩ | ⟨rfl, rfl, _⟩ | ⟨rfl, rfl, _⟩ | ⟨rfl, rfl, _⟩ | ⟨rfl, rfl⟩ | ⟨rfl, ⟨rfl, _⟩ | rfl⟩ <;> simp
theorem CS.mk {V : VX} {σ : Mem} {a tp td n bk : Nat} {k : Tk} {nl : Nat} {nm : Nat → Nat} {np nc lc no sd : Nat} {md : Nat → Nat → Bool} {ln : Nat} {tk vl : Int32} (h1 : CT tk vl k.2.1 k.2.2.1) (h2 : RD σ a tp td n bk k.2.2.2 k.1 tk vl np sd ln 0 (-1)) (h3 : BX σ bk nl nm nc lc no) (h4 : TD V σ td nl md) (h5 : k.2.2.2 ≤ n) (h6 : k.1 ≤ n) (h7 : np ≤ 12) (h8 : sd ≤ 1) : CS V σ a tp td n bk (k, nl, nm, np, nc, lc, no, sd, md, ln) := ⟨tk, vl, h1, h2, h3, h4, h5, h6, h7, h8⟩
theorem BX.zero {τ : Mem} {a : Nat} (e8 : fld τ a 8 = some (.int (nI 0))) (e9 : fld τ a 9 = some (.int (nI 0))) (e10 : fld τ a 10 = some (.int (nI 0))) : BX τ a 0 (fun _ => 0) 0 0 0 := ⟨e8, e9, e10, fun _ h => absurd h (Nat.not_lt_zero _), Or.inl ⟨rfl, rfl⟩, by decide, by decide, by decide⟩
theorem HK.c4 {V : VX} {E : PE} {ks : List Nat} {σ0 σ : Mem} (h : HK V E ks σ0 σ) {a : Nat} (hk : kA E.1 a = 4) : ∃ f, σ a = some (aI V 4 f) := by
  have h1 := h.1 a
  rw [hk] at h1
  exact h1
theorem TD.zero {V : VX} {σ : Mem} {td : Nat} (h : ∃ f, σ td = some (aI V 4 f) ∧ ∀ i, i < 4 → f i = 0) : TD V σ td 0 (fun _ _ => false) := by
  obtain ⟨f, h1, h2⟩ := h
  exact ⟨f, h1, fun i hi => by rw [h2 i hi, if_neg (Nat.not_lt_zero _)]⟩
theorem nI_surj (x : Int32) : ∃ s : Nat, x = nI s := ⟨x.toBitVec.toNat, by
  apply Int32.toBitVec_inj.mp
  show x.toBitVec = BitVec.ofNat 32 x.toBitVec.toNat
  simp⟩
/-- what text answers, the fault it keeps and its place -/
def ansO (o : RO) : Int32 × Nat × Nat := match o with
  | .inl e => (-1, e.1, e.2)
  | .inr S => (nI S.2.2.2.2.2.2.2.2.2, 0, 4294967295)
set_option maxRecDepth 20000 in
theorem s_X7_readStopE (l : Launch) (V : VX) (b M Z T N : Nat) (σ : Mem) (a : Nat) (tp : Nat) (td : Nat) (n : Nat) (bk : Nat) (nx : Nat) (st : Nat) (tk : Int32) (vl : Int32) (py : Nat) (sd : Nat) (ln : Nat) (ft : Int32) (pl : Int32) (t : Nat → Nat) (s9 : Nat) (v9 : Nat) (nl : Nat) (nm : Nat → Nat) (nc : Nat) (lc : Nat) (no : Nat) (md : Nat → Nat → Bool) (h0 : HT V (b, M, Z, T) σ) (hk : kA b a = 3) (hp0 : ft = 0) (hp1 : CT tk vl s9 v9) (hp2 : nx ≤ n) (hp3 : st ≤ n) (hp4 : pl = -1) (hp5 : BX σ bk nl nm nc lc no) (hp6 : TD V σ td nl md) (hp7 : py ≤ 12) (hR : RD σ a tp td n bk nx st tk vl py sd ln ft pl) (hB : BY V σ tp n t) (hn7 : n ≤ 700) (hsd : sd ≤ 1) (htp : kA b tp = 2) (htd : kA b td = 4) (hbk : kA b bk = 7) (hM : M + 0 ≤ 1000000000) : Ct l V yX7_readStop cX7_readStop 1 none 2 0 0 N σ [.ref a] (fun r τ => HK V (b, M, Z, T) [0, 1, 2, 4, 5, 6, 7, 8, 9, 10, 11, 12, 13, 14, 15, 16, 17, 18, 19] σ τ ∧ RES V τ a tp td n bk (stopS (tok t n) (st, s9, v9, nx) nl nm py nc lc no sd md ln) ∧ r = none) := by
  refine Ct.of (by decide) (Nat.le_of_ble_eq_true rfl) [(0, .ref a)] rfl (fun X hX F hQ => ?_)
  have h1 : HK V (b, M, Z, T) [0, 1, 2, 4, 5, 6, 7, 8, 9, 10, 11, 12, 13, 14, 15, 16, 17, 18, 19] σ σ := HK.start h0
  have hrd7199 := hR
  obtain ⟨rd7199, rd7200, rd7201, rd7202, rd7203, rd7204, rd7205, rd7206, rd7207, rd7208, rd7209, rd7210, rd7211⟩ := hrd7199
  subst hp0
  subst hp4
  have hbb7212 := hp5
  obtain ⟨bb7212, bb7213, bb7214, bb7215, bb7216, bb7217, bb7218, bb7219⟩ := hbb7212
  have hl4 := hp5.2.2.2.2.2.1
  refine m_aload_n F rfl e_X7_readStop_0 ?_
  refine t_getC F e_X7_readStop_1 fl_X7_55 (fun _ => o3) h1 hk (rd7210) ?_
  refine m_if_eq F e_X7_readStop_4 (fun _ => ?_) (fun q => absurd (by decide) q)
  refine m_aload_n F rfl e_X7_readStop_8 ?_
  have hct := hp1
  rcases hct with ⟨rfl, rfl⟩ | ⟨rfl, rfl, c9, rfl, hc9, hk9, hv9⟩ | ⟨rfl, rfl, rfl, hv9, hk9⟩ | ⟨rfl, rfl, w9, hw9, rfl, hm9⟩ | ⟨rfl, rfl⟩ | ⟨rfl, ⟨rfl, rfl⟩ | rfl⟩
  · refine t_getC F e_X7_readStop_9 fl_X7_61 (fun _ => o3) h1 hk (rd7205) ?_
    refine m_iconst F (v := 3) (by decide) e_X7_readStop_12 ?_
    refine m_icmp_eq F e_X7_readStop_13 (fun q => absurd q (by decide)) (fun _ => ?_)
    refine m_aload_n F rfl e_X7_readStop_16 ?_
    refine m_iconst F (v := 1) (by decide) e_X7_readStop_17 ?_
    refine t_callV F e_X7_readStop_18 (s_X7_failE (x_l X) V b M Z T _ _ a 1 tp td n bk nx st 0 vl py sd ln 0 (-1) t h1.1 hk rfl (by decide) ⟨rd7199, rd7200, rd7201, rd7202, rd7203, rd7204, rd7205, rd7206, rd7207, rd7208, rd7209, rd7210, rd7211⟩ (hB.keep (h1.2 tp (by rw [show kA _ tp = 2 from htp]; decide))) hn7 hsd htp htd hbk (by omega)) cb_X7_fail ml_X7_77 im_X7_fail se_X7_fail (fun _ => o3) h1 hk rfl rfl (rest := []) rfl (Nat.le_of_ble_eq_true rfl) ⟨Nat.le_of_ble_eq_true rfl, Nat.le_of_ble_eq_true rfl⟩ ⟨Nat.le_of_ble_eq_true rfl, Nat.le_of_ble_eq_true rfl⟩ (fun r σ7220 hp => ?_)
    obtain ⟨h7221, ⟨rd7223, rd7224, rd7225, rd7226, rd7227, rd7228, rd7229, rd7230, rd7231, rd7232, rd7233, rd7234, rd7235⟩, rfl⟩ := hp
    have h7222 := HK.trans h1 h7221 (by decide)
    have bx7236 := hp5.hk hbk h7221 (by decide) (by decide) (by decide)
    have tq7237 := hp6.keep (h7221.2 td (by rw [show kA _ td = 4 from htd]; decide))
    exact m_vret F hQ e_X7_readStop_21 (⟨h7222, (by rw [stopS_1 (by decide)]; exact RES.l (rd7234) (rd7235) (by decide) (by decide) (by omega)), rfl⟩)
  · refine t_getC F e_X7_readStop_9 fl_X7_61 (fun _ => o3) h1 hk (rd7205) ?_
    refine m_iconst F (v := 3) (by decide) e_X7_readStop_12 ?_
    refine m_icmp_eq F e_X7_readStop_13 (fun q => absurd q (by decide)) (fun _ => ?_)
    refine m_aload_n F rfl e_X7_readStop_16 ?_
    refine m_iconst F (v := 1) (by decide) e_X7_readStop_17 ?_
    refine t_callV F e_X7_readStop_18 (s_X7_failE (x_l X) V b M Z T _ _ a 1 tp td n bk nx st 1 (nI c9) py sd ln 0 (-1) t h1.1 hk rfl (by decide) ⟨rd7199, rd7200, rd7201, rd7202, rd7203, rd7204, rd7205, rd7206, rd7207, rd7208, rd7209, rd7210, rd7211⟩ (hB.keep (h1.2 tp (by rw [show kA _ tp = 2 from htp]; decide))) hn7 hsd htp htd hbk (by omega)) cb_X7_fail ml_X7_77 im_X7_fail se_X7_fail (fun _ => o3) h1 hk rfl rfl (rest := []) rfl (Nat.le_of_ble_eq_true rfl) ⟨Nat.le_of_ble_eq_true rfl, Nat.le_of_ble_eq_true rfl⟩ ⟨Nat.le_of_ble_eq_true rfl, Nat.le_of_ble_eq_true rfl⟩ (fun r σ7238 hp => ?_)
    obtain ⟨h7239, ⟨rd7241, rd7242, rd7243, rd7244, rd7245, rd7246, rd7247, rd7248, rd7249, rd7250, rd7251, rd7252, rd7253⟩, rfl⟩ := hp
    have h7240 := HK.trans h1 h7239 (by decide)
    have bx7254 := hp5.hk hbk h7239 (by decide) (by decide) (by decide)
    have tq7255 := hp6.keep (h7239.2 td (by rw [show kA _ td = 4 from htd]; decide))
    exact m_vret F hQ e_X7_readStop_21 (⟨h7240, (by rw [stopS_1 (by decide)]; exact RES.l (rd7252) (rd7253) (by decide) (by decide) (by omega)), rfl⟩)
  · refine t_getC F e_X7_readStop_9 fl_X7_61 (fun _ => o3) h1 hk (rd7205) ?_
    refine m_iconst F (v := 3) (by decide) e_X7_readStop_12 ?_
    refine m_icmp_eq F e_X7_readStop_13 (fun q => absurd q (by decide)) (fun _ => ?_)
    refine m_aload_n F rfl e_X7_readStop_16 ?_
    refine m_iconst F (v := 1) (by decide) e_X7_readStop_17 ?_
    refine t_callV F e_X7_readStop_18 (s_X7_failE (x_l X) V b M Z T _ _ a 1 tp td n bk nx st 1 (nI v9) py sd ln 0 (-1) t h1.1 hk rfl (by decide) ⟨rd7199, rd7200, rd7201, rd7202, rd7203, rd7204, rd7205, rd7206, rd7207, rd7208, rd7209, rd7210, rd7211⟩ (hB.keep (h1.2 tp (by rw [show kA _ tp = 2 from htp]; decide))) hn7 hsd htp htd hbk (by omega)) cb_X7_fail ml_X7_77 im_X7_fail se_X7_fail (fun _ => o3) h1 hk rfl rfl (rest := []) rfl (Nat.le_of_ble_eq_true rfl) ⟨Nat.le_of_ble_eq_true rfl, Nat.le_of_ble_eq_true rfl⟩ ⟨Nat.le_of_ble_eq_true rfl, Nat.le_of_ble_eq_true rfl⟩ (fun r σ7256 hp => ?_)
    obtain ⟨h7257, ⟨rd7259, rd7260, rd7261, rd7262, rd7263, rd7264, rd7265, rd7266, rd7267, rd7268, rd7269, rd7270, rd7271⟩, rfl⟩ := hp
    have h7258 := HK.trans h1 h7257 (by decide)
    have bx7272 := hp5.hk hbk h7257 (by decide) (by decide) (by decide)
    have tq7273 := hp6.keep (h7257.2 td (by rw [show kA _ td = 4 from htd]; decide))
    exact m_vret F hQ e_X7_readStop_21 (⟨h7258, (by rw [stopS_1 (by decide)]; exact RES.l (rd7270) (rd7271) (by decide) (by decide) (by omega)), rfl⟩)
  · refine t_getC F e_X7_readStop_9 fl_X7_61 (fun _ => o3) h1 hk (rd7205) ?_
    refine m_iconst F (v := 3) (by decide) e_X7_readStop_12 ?_
    refine m_icmp_eq F e_X7_readStop_13 (fun q => absurd q (by decide)) (fun _ => ?_)
    refine m_aload_n F rfl e_X7_readStop_16 ?_
    refine m_iconst F (v := 1) (by decide) e_X7_readStop_17 ?_
    refine t_callV F e_X7_readStop_18 (s_X7_failE (x_l X) V b M Z T _ _ a 1 tp td n bk nx st 2 (nI w9) py sd ln 0 (-1) t h1.1 hk rfl (by decide) ⟨rd7199, rd7200, rd7201, rd7202, rd7203, rd7204, rd7205, rd7206, rd7207, rd7208, rd7209, rd7210, rd7211⟩ (hB.keep (h1.2 tp (by rw [show kA _ tp = 2 from htp]; decide))) hn7 hsd htp htd hbk (by omega)) cb_X7_fail ml_X7_77 im_X7_fail se_X7_fail (fun _ => o3) h1 hk rfl rfl (rest := []) rfl (Nat.le_of_ble_eq_true rfl) ⟨Nat.le_of_ble_eq_true rfl, Nat.le_of_ble_eq_true rfl⟩ ⟨Nat.le_of_ble_eq_true rfl, Nat.le_of_ble_eq_true rfl⟩ (fun r σ7274 hp => ?_)
    obtain ⟨h7275, ⟨rd7277, rd7278, rd7279, rd7280, rd7281, rd7282, rd7283, rd7284, rd7285, rd7286, rd7287, rd7288, rd7289⟩, rfl⟩ := hp
    have h7276 := HK.trans h1 h7275 (by decide)
    have bx7290 := hp5.hk hbk h7275 (by decide) (by decide) (by decide)
    have tq7291 := hp6.keep (h7275.2 td (by rw [show kA _ td = 4 from htd]; decide))
    exact m_vret F hQ e_X7_readStop_21 (⟨h7276, (by rw [stopS_1 (by decide)]; exact RES.l (rd7288) (rd7289) (by decide) (by decide) (by omega)), rfl⟩)
  · refine t_getC F e_X7_readStop_9 fl_X7_61 (fun _ => o3) h1 hk (rd7205) ?_
    refine m_iconst F (v := 3) (by decide) e_X7_readStop_12 ?_
    refine m_icmp_eq F e_X7_readStop_13 (fun _ => ?_) (fun q => absurd (by decide) q)
    refine m_aload_n F rfl e_X7_readStop_22 ?_
    refine m_dup F rfl e_X7_readStop_23 ?_
    refine t_getC F e_X7_readStop_24 fl_X7_52 (fun _ => o3) h1 hk (rd7209) ?_
    refine m_iconst F (v := 1) (by decide) e_X7_readStop_27 ?_
    refine m_iadd F e_X7_readStop_28 ?_
    refine Wm.topE (w := nI (ln + 1)) (nI_add ln 1) ?_
    refine t_putC F e_X7_readStop_29 fp_X7_52 (fun _ => o3) h1 hk rfl ⟨_, rfl⟩ rfl rfl (by decide) (fun σ7292 h7293 g7294 g7295 f7296 => ?_)
    have bx7297 := hp5.keep hbk (fld_eq (g7294 bk (kdn hbk hk (by decide)))) (fld_eq (g7294 bk (kdn hbk hk (by decide)))) (fld_eq (g7294 bk (kdn hbk hk (by decide)))) (g7294 (bk + 4) (kdn (kA_7 hbk (r := 4) (by decide) : kA b (bk + 4) = 11) hk (by decide))) (fun x hx => fld_eq (g7294 x (kdn hx hk (by decide))))
    have tq7298 := hp6.keep (g7294 td (kdn htd hk (by decide)))
    refine m_aload_n F rfl e_X7_readStop_32 ?_
    have hb8 := tok_ok (t := t) (n := n) nx (by omega)
    refine t_callV F e_X7_readStop_33 (s_X7_advanceE (x_l X) V b M Z T _ _ a  tp td n bk nx st 3 vl py sd (ln + 1) 0 (-1) t h7293.1 hk (by omega) ⟨(g7295 0 (by decide)).trans rd7199, (g7295 1 (by decide)).trans rd7200, (g7295 2 (by decide)).trans rd7201, (g7295 3 (by decide)).trans rd7202, (g7295 4 (by decide)).trans rd7203, (g7295 5 (by decide)).trans rd7204, (g7295 6 (by decide)).trans rd7205, (g7295 7 (by decide)).trans rd7206, (g7295 8 (by decide)).trans rd7207, (g7295 9 (by decide)).trans rd7208, f7296, (g7295 11 (by decide)).trans rd7210, (g7295 12 (by decide)).trans rd7211⟩ (hB.keep (h7293.2 tp (by rw [show kA _ tp = 2 from htp]; decide))) hn7 hsd htp htd hbk (by omega)) cb_X7_advance ml_X7_58 im_X7_advance se_X7_advance (fun _ => o3) h7293 hk rfl rfl (rest := []) rfl (Nat.le_of_ble_eq_true rfl) ⟨Nat.le_of_ble_eq_true rfl, Nat.le_of_ble_eq_true rfl⟩ ⟨Nat.le_of_ble_eq_true rfl, Nat.le_of_ble_eq_true rfl⟩ (fun r σ7299 hp => ?_)
    obtain ⟨h7300, ⟨tk7315, vl7316, ct7317, rd7302, rd7303, rd7304, rd7305, rd7306, rd7307, rd7308, rd7309, rd7310, rd7311, rd7312, rd7313, rd7314⟩, rfl⟩ := hp
    have h7301 := HK.trans h7293 h7300 (by decide)
    have bx7318 := bx7297.hk hbk h7300 (by decide) (by decide) (by decide)
    have tq7319 := tq7298.keep (h7300.2 td (by rw [show kA _ td = 4 from htd]; decide))
    exact m_vret F hQ e_X7_readStop_36 (⟨h7301, (by rw [stopS_ok]; exact RES.r ct7317 ⟨rd7302, rd7303, rd7304, rd7305, rd7306, rd7307, rd7308, rd7309, rd7310, rd7311, rd7312, rd7313, rd7314⟩ bx7318 tq7319 (by omega) (by omega) (by omega) (by omega)), rfl⟩)
  · refine t_getC F e_X7_readStop_9 fl_X7_61 (fun _ => o3) h1 hk (rd7205) ?_
    refine m_iconst F (v := 3) (by decide) e_X7_readStop_12 ?_
    refine m_icmp_eq F e_X7_readStop_13 (fun q => absurd q (by decide)) (fun _ => ?_)
    refine m_aload_n F rfl e_X7_readStop_16 ?_
    refine m_iconst F (v := 1) (by decide) e_X7_readStop_17 ?_
    refine t_callV F e_X7_readStop_18 (s_X7_failE (x_l X) V b M Z T _ _ a 1 tp td n bk nx st 1 (-1) py sd ln 0 (-1) t h1.1 hk rfl (by decide) ⟨rd7199, rd7200, rd7201, rd7202, rd7203, rd7204, rd7205, rd7206, rd7207, rd7208, rd7209, rd7210, rd7211⟩ (hB.keep (h1.2 tp (by rw [show kA _ tp = 2 from htp]; decide))) hn7 hsd htp htd hbk (by omega)) cb_X7_fail ml_X7_77 im_X7_fail se_X7_fail (fun _ => o3) h1 hk rfl rfl (rest := []) rfl (Nat.le_of_ble_eq_true rfl) ⟨Nat.le_of_ble_eq_true rfl, Nat.le_of_ble_eq_true rfl⟩ ⟨Nat.le_of_ble_eq_true rfl, Nat.le_of_ble_eq_true rfl⟩ (fun r σ7320 hp => ?_)
    obtain ⟨h7321, ⟨rd7323, rd7324, rd7325, rd7326, rd7327, rd7328, rd7329, rd7330, rd7331, rd7332, rd7333, rd7334, rd7335⟩, rfl⟩ := hp
    have h7322 := HK.trans h1 h7321 (by decide)
    have bx7336 := hp5.hk hbk h7321 (by decide) (by decide) (by decide)
    have tq7337 := hp6.keep (h7321.2 td (by rw [show kA _ td = 4 from htd]; decide))
    exact m_vret F hQ e_X7_readStop_21 (⟨h7322, (by rw [stopS_1 (by decide)]; exact RES.l (rd7334) (rd7335) (by decide) (by decide) (by omega)), rfl⟩)
  · refine t_getC F e_X7_readStop_9 fl_X7_61 (fun _ => o3) h1 hk (rd7205) ?_
    refine m_iconst F (v := 3) (by decide) e_X7_readStop_12 ?_
    refine m_icmp_eq F e_X7_readStop_13 (fun q => absurd q (by decide)) (fun _ => ?_)
    refine m_aload_n F rfl e_X7_readStop_16 ?_
    refine m_iconst F (v := 1) (by decide) e_X7_readStop_17 ?_
    refine t_callV F e_X7_readStop_18 (s_X7_failE (x_l X) V b M Z T _ _ a 1 tp td n bk nx st 4 vl py sd ln 0 (-1) t h1.1 hk rfl (by decide) ⟨rd7199, rd7200, rd7201, rd7202, rd7203, rd7204, rd7205, rd7206, rd7207, rd7208, rd7209, rd7210, rd7211⟩ (hB.keep (h1.2 tp (by rw [show kA _ tp = 2 from htp]; decide))) hn7 hsd htp htd hbk (by omega)) cb_X7_fail ml_X7_77 im_X7_fail se_X7_fail (fun _ => o3) h1 hk rfl rfl (rest := []) rfl (Nat.le_of_ble_eq_true rfl) ⟨Nat.le_of_ble_eq_true rfl, Nat.le_of_ble_eq_true rfl⟩ ⟨Nat.le_of_ble_eq_true rfl, Nat.le_of_ble_eq_true rfl⟩ (fun r σ7338 hp => ?_)
    obtain ⟨h7339, ⟨rd7341, rd7342, rd7343, rd7344, rd7345, rd7346, rd7347, rd7348, rd7349, rd7350, rd7351, rd7352, rd7353⟩, rfl⟩ := hp
    have h7340 := HK.trans h1 h7339 (by decide)
    have bx7354 := hp5.hk hbk h7339 (by decide) (by decide) (by decide)
    have tq7355 := hp6.keep (h7339.2 td (by rw [show kA _ td = 4 from htd]; decide))
    exact m_vret F hQ e_X7_readStop_21 (⟨h7340, (by rw [stopS_1 (by decide)]; exact RES.l (rd7352) (rd7353) (by decide) (by decide) (by omega)), rfl⟩)
set_option maxRecDepth 20000 in
theorem lp_X7_kindOfN_2 {V : VX} {X : MX} {b M Z T N : Nat} {σ : Mem} {a : Nat} {x901 : Int32}  (F : Fx V X yX7_kindOf cX7_kindOf 3 (some (.object "LeaseLedger$Kind")) (rmd 0 0 0)) (hQ : Rt V X 0 0 N (fun r τ => HK V (b, M, Z, T) [0, 1, 2, 3, 4, 5, 6, 7, 8, 9, 10, 11, 12, 13, 14, 15, 16, 17, 18, 19] σ τ ∧ r = some .null)) (hk : kA b a = 3) (hp0 : x901 = -1) (hM : M + 0 ≤ 1000000000)  : ∀ (fuel : Nat) (i : Nat) (τ : Mem), HK V (b, M, Z, T) [0, 1, 2, 3, 4, 5, 6, 7, 8, 9, 10, 11, 12, 13, 14, 15, 16, 17, 18, 19] σ τ → i ≤ 9 → 9 - i < fuel → Wm V X 3 N τ 0 0 2 [(2, .int (nI i)), (0, .ref a), (1, .int x901)] [] := by
  intro fuel
  induction fuel with
  | zero => intro i τ h1 hi hm; exact absurd hm (Nat.not_lt_zero _)
  | succ fuel ih =>
    intro i τ h1 hi hm
    refine m_iload_n F rfl e_X7_kindOf_2 ?_
    refine m_gsN F e_X7_kindOf_3 F.sw.2.2.2.1.1 (F.ku.2.1 (.fieldLinkNest RX7 200 RX9 "KINDS" "[LLeaseLedger$Kind;" RX9) (by simp [nestW])) ?_
    refine m_tlen F e_X7_kindOf_6 F.sw.2.2.2.1.2 (v := 9) (by decide) ?_
    refine m_icmp_ge F e_X7_kindOf_7 (fun q7 => ?_) (fun q7 => ?_)
    · have c7 : i ≥ 9 := (nI_leI (a := 9) (b := i) (by omega) (by omega)).mp q7
      refine m_null F e_X7_kindOf_34 ?_
      exact m_aret F hQ e_X7_kindOf_35 (Or.inl rfl) (⟨h1, rfl⟩)
    · have c7 : i < 9 := by have hh := mt (nI_leI (a := 9) (b := i) (by omega) (by omega)).mpr q7; omega
      refine m_gsN F e_X7_kindOf_10 F.sw.2.2.2.1.1 (F.ku.2.1 (.fieldLinkNest RX7 200 RX9 "KINDS" "[LLeaseLedger$Kind;" RX9) (by simp [nestW])) ?_
      refine m_iload_n F rfl e_X7_kindOf_13 ?_
      refine m_tq F e_X7_kindOf_14 F.sw.2.2.2.1.2 (i := nI i) (vp_in_nI (by omega) (by decide)) (v := .ref (adK V i)) (by show Value.ref (adK V (nI i).toNatClampNeg) = _; rw [nI_clamp (by omega)]) ?_
      refine m_gof F e_X7_kindOf_15 (F.sw.2.2.2.2.2.1 i (by omega)).2.1 kf_code ?_
      have hkb := kc_b (i := i) (by omega)
      refine Wm.topE (w := nI (kcN.getD i 0)) (kc_nI (by omega)) ?_
      refine m_iload_n F rfl e_X7_kindOf_18 ?_
      refine m_icmp_ne F e_X7_kindOf_19 (fun q19 => ?_) (fun q19 => ?_)
      · refine m_iinc F (v := nI (i + 1)) (lv' := [(2, .int (nI (i + 1))), (0, .ref a), (1, .int x901)]) e_X7_kindOf_28 rfl (nI_add i 1) (by decide) rfl ?_
        refine m_goto F e_X7_kindOf_31 ?_
        exact ih (i + 1) _ h1 (by omega) (by omega)
      · exact absurd (q19.trans hp0) (nI_nm1 (by omega))
set_option maxRecDepth 20000 in
theorem s_X7_kindOfN (l : Launch) (V : VX) (b M Z T N : Nat) (σ : Mem) (a : Nat) (x901 : Int32) (h0 : HT V (b, M, Z, T) σ) (hk : kA b a = 3) (hp0 : x901 = -1) (hM : M + 0 ≤ 1000000000) : Ct l V yX7_kindOf cX7_kindOf 3 (some (.object "LeaseLedger$Kind")) 0 0 0 N σ [.ref a, .int x901] (fun r τ => HK V (b, M, Z, T) [0, 1, 2, 3, 4, 5, 6, 7, 8, 9, 10, 11, 12, 13, 14, 15, 16, 17, 18, 19] σ τ ∧ r = some .null) := by
  refine Ct.of (by decide) (Nat.le_of_ble_eq_true rfl) [(0, .ref a), (1, .int x901)] rfl (fun X hX F hQ => ?_)
  have h1 : HK V (b, M, Z, T) [0, 1, 2, 3, 4, 5, 6, 7, 8, 9, 10, 11, 12, 13, 14, 15, 16, 17, 18, 19] σ σ := HK.start h0
  refine m_iconst F (v := 0) (by decide) e_X7_kindOf_0 ?_
  refine m_istore_n F (lv' := [(2, .int 0), (0, .ref a), (1, .int x901)]) e_X7_kindOf_1 (by decide) rfl ?_
  exact lp_X7_kindOfN_2 F hQ hk hp0 hM (9 - 0 + 1) 0 _ h1 (by omega) (Nat.lt_succ_self _)
set_option maxRecDepth 20000 in
theorem s_X7_readLineE (l : Launch) (V : VX) (b M Z T N : Nat) (σ : Mem) (a : Nat) (tp : Nat) (td : Nat) (n : Nat) (bk : Nat) (nx : Nat) (st : Nat) (tk : Int32) (vl : Int32) (py : Nat) (sd : Nat) (ln : Nat) (ft : Int32) (pl : Int32) (t : Nat → Nat) (s9 : Nat) (v9 : Nat) (nl : Nat) (nm : Nat → Nat) (nc : Nat) (lc : Nat) (no : Nat) (md : Nat → Nat → Bool) (h0 : HT V (b, M, Z, T) σ) (hk : kA b a = 3) (hp0 : ft = 0) (hp1 : CT tk vl s9 v9) (hp2 : nx ≤ n) (hp3 : st ≤ n) (hp4 : pl = -1) (hp5 : BX σ bk nl nm nc lc no) (hp6 : TD V σ td nl md) (hp7 : py ≤ 12) (hR : RD σ a tp td n bk nx st tk vl py sd ln ft pl) (hB : BY V σ tp n t) (hn7 : n ≤ 700) (hsd : sd ≤ 1) (htp : kA b tp = 2) (htd : kA b td = 4) (hbk : kA b bk = 7) (hM : M + 0 ≤ 1000000000) : Ct l V yX7_readLine cX7_readLine 2 none 7 0 0 N σ [.ref a] (fun r τ => HK V (b, M, Z, T) [0, 1, 2, 5, 8, 9, 12, 13, 14, 16] σ τ ∧ RES V τ a tp td n bk (lineS (tok t n) (st, s9, v9, nx) nl nm py nc lc no sd md ln) ∧ r = none) := by
  refine Ct.of (by decide) (Nat.le_of_ble_eq_true rfl) [(0, .ref a)] rfl (fun X hX F hQ => ?_)
  have h1 : HK V (b, M, Z, T) [0, 1, 2, 5, 8, 9, 12, 13, 14, 16] σ σ := HK.start h0
  have hrd7356 := hR
  obtain ⟨rd7356, rd7357, rd7358, rd7359, rd7360, rd7361, rd7362, rd7363, rd7364, rd7365, rd7366, rd7367, rd7368⟩ := hrd7356
  subst hp0
  subst hp4
  have hbb7369 := hp5
  obtain ⟨bb7369, bb7370, bb7371, bb7372, bb7373, bb7374, bb7375, bb7376⟩ := hbb7369
  have hl4 := hp5.2.2.2.2.2.1
  refine m_aload_n F rfl e_X7_readLine_0 ?_
  have hct := hp1
  rcases hct with ⟨rfl, rfl⟩ | ⟨rfl, rfl, c9, rfl, hc9, hk9, hv9⟩ | ⟨rfl, rfl, rfl, hv9, hk9⟩ | ⟨rfl, rfl, w9, hw9, rfl, hm9⟩ | ⟨rfl, rfl⟩ | ⟨rfl, ⟨rfl, rfl⟩ | rfl⟩
  · refine t_getC F e_X7_readLine_1 fl_X7_61 (fun _ => o3) h1 hk (rd7362) ?_
    refine m_iconst F (v := 1) (by decide) e_X7_readLine_4 ?_
    refine m_icmp_ne F e_X7_readLine_5 (fun _ => ?_) (fun q => absurd q (by decide))
    refine m_null F e_X7_readLine_19 ?_
    refine m_astore_nN F (lv' := [(1, .null), (0, .ref a)]) e_X7_readLine_20 (by decide) rfl ?_
    refine m_aload_nN F rfl e_X7_readLine_21 ?_
    refine m_ifnonnullN F e_X7_readLine_22 ?_
    refine m_aload_n F rfl e_X7_readLine_25 ?_
    refine m_iconst F (v := 1) (by decide) e_X7_readLine_26 ?_
    refine t_callV F e_X7_readLine_27 (s_X7_failE (x_l X) V b M Z T _ _ a 1 tp td n bk nx st 0 vl py sd ln 0 (-1) t h1.1 hk rfl (by decide) ⟨rd7356, rd7357, rd7358, rd7359, rd7360, rd7361, rd7362, rd7363, rd7364, rd7365, rd7366, rd7367, rd7368⟩ (hB.keep (h1.2 tp (by rw [show kA _ tp = 2 from htp]; decide))) hn7 hsd htp htd hbk (by omega)) cb_X7_fail ml_X7_77 im_X7_fail se_X7_fail (fun _ => o3) h1 hk rfl rfl (rest := []) rfl (Nat.le_of_ble_eq_true rfl) ⟨Nat.le_of_ble_eq_true rfl, Nat.le_of_ble_eq_true rfl⟩ ⟨Nat.le_of_ble_eq_true rfl, Nat.le_of_ble_eq_true rfl⟩ (fun r σ7377 hp => ?_)
    obtain ⟨h7378, ⟨rd7380, rd7381, rd7382, rd7383, rd7384, rd7385, rd7386, rd7387, rd7388, rd7389, rd7390, rd7391, rd7392⟩, rfl⟩ := hp
    have h7379 := HK.trans h1 h7378 (by decide)
    have bx7393 := hp5.hk hbk h7378 (by decide) (by decide) (by decide)
    have tq7394 := hp6.keep (h7378.2 td (by rw [show kA _ td = 4 from htd]; decide))
    exact m_vret F hQ e_X7_readLine_30 (⟨h7379, (by rw [lineS_no (by decide)]; exact RES.l (rd7391) (rd7392) (by decide) (by decide) (by omega)), rfl⟩)
  · refine t_getC F e_X7_readLine_1 fl_X7_61 (fun _ => o3) h1 hk (rd7362) ?_
    refine m_iconst F (v := 1) (by decide) e_X7_readLine_4 ?_
    refine m_icmp_ne F e_X7_readLine_5 (fun q => absurd (by decide) q) (fun _ => ?_)
    refine m_aload_n F rfl e_X7_readLine_8 ?_
    refine m_aload_n F rfl e_X7_readLine_9 ?_
    refine t_getC F e_X7_readLine_10 fl_X7_70 (fun _ => o3) h1 hk (rd7363) ?_
    refine t_callV F e_X7_readLine_13 (s_X7_kindOfE (x_l X) V b M Z T _ _ a c9 h1.1 hk (by omega) (by omega)) cb_X7_kindOf ml_X7_73 im_X7_kindOf se_X7_kindOf (fun _ => o3) h1 hk rfl rfl (rest := []) rfl (Nat.le_of_ble_eq_true rfl) ⟨Nat.le_of_ble_eq_true rfl, Nat.le_of_ble_eq_true rfl⟩ ⟨Nat.le_of_ble_eq_true rfl, Nat.le_of_ble_eq_true rfl⟩ (fun r σ7395 hp => ?_)
    obtain ⟨h7396, hp⟩ := hp
    rcases hp with ⟨hp, rfl⟩ | ⟨hp, rfl⟩
    rotate_left
    · omega
    have h7397 := HK.trans h1 h7396 (by decide)
    have bx7398 := hp5.hk hbk h7396 (by decide) (by decide) (by decide)
    have tq7399 := hp6.keep (h7396.2 td (by rw [show kA _ td = 4 from htd]; decide))
    refine m_goto F e_X7_readLine_16 ?_
    refine m_astore_n F (lv' := [(1, .ref (adK V (kix c9))), (0, .ref a)]) e_X7_readLine_20 (by decide) rfl ?_
    refine m_aload_n F rfl e_X7_readLine_21 ?_
    refine m_ifnonnullR F e_X7_readLine_22 ?_
    have hv8 : v9 = 0 ∨ v9 = 1 ∨ v9 = 2 ∨ v9 = 3 ∨ v9 = 4 ∨ v9 = 5 ∨ v9 = 6 ∨ v9 = 7 ∨ v9 = 8 := by omega
    rcases hv8 with rfl | rfl | rfl | rfl | rfl | rfl | rfl | rfl | rfl
    · refine m_gs F e_X7_readLine_31 F.sw.2.2.2.2.1.1 kf_map ?_
      refine m_aload_n F rfl e_X7_readLine_34 ?_
      refine m_ord F rfl e_X7_readLine_35 (i := kix c9) (by omega) (Nat.le_of_ble_eq_true rfl) ⟨Nat.le_of_ble_eq_true rfl, Nat.le_of_ble_eq_true rfl⟩ ?_
      refine m_ti F e_X7_readLine_38 F.sw.2.2.2.2.1.2 (i := nI (kix c9)) (vp_in_nI (by omega) (by decide)) (v := .int 1) (by rw [hk9]; decide) ?_
      refine m_tableIn F e_X7_readLine_39 (by decide) (by decide) (off := 45) (tgt := 84) (by decide) (by decide) ?_
      refine m_aload_n F rfl e_X7_readLine_84 ?_
      refine t_callV F e_X7_readLine_85 (s_X7_readLeaseE (x_l X) V b M Z T _ _ a  tp td n bk nx st 1 (nI c9) py sd ln 0 (-1) t 1 0 nl nm nc lc no md h7397.1 hk rfl hp1 (by omega) (by omega) rfl bx7398 tq7399 (by omega) ⟨(fld_eq (h7396.2 a (by rw [show kA _ a = 3 from hk]; decide))).trans rd7356, (fld_eq (h7396.2 a (by rw [show kA _ a = 3 from hk]; decide))).trans rd7357, (fld_eq (h7396.2 a (by rw [show kA _ a = 3 from hk]; decide))).trans rd7358, (fld_eq (h7396.2 a (by rw [show kA _ a = 3 from hk]; decide))).trans rd7359, (fld_eq (h7396.2 a (by rw [show kA _ a = 3 from hk]; decide))).trans rd7360, (fld_eq (h7396.2 a (by rw [show kA _ a = 3 from hk]; decide))).trans rd7361, (fld_eq (h7396.2 a (by rw [show kA _ a = 3 from hk]; decide))).trans rd7362, (fld_eq (h7396.2 a (by rw [show kA _ a = 3 from hk]; decide))).trans rd7363, (fld_eq (h7396.2 a (by rw [show kA _ a = 3 from hk]; decide))).trans rd7364, (fld_eq (h7396.2 a (by rw [show kA _ a = 3 from hk]; decide))).trans rd7365, (fld_eq (h7396.2 a (by rw [show kA _ a = 3 from hk]; decide))).trans rd7366, (fld_eq (h7396.2 a (by rw [show kA _ a = 3 from hk]; decide))).trans rd7367, (fld_eq (h7396.2 a (by rw [show kA _ a = 3 from hk]; decide))).trans rd7368⟩ (hB.keep (h7397.2 tp (by rw [show kA _ tp = 2 from htp]; decide))) hn7 hsd htp htd hbk (by omega)) cb_X7_readLease ml_X7_92 im_X7_readLease se_X7_readLease (fun _ => o3) h7397 hk rfl rfl (rest := []) rfl (Nat.le_of_ble_eq_true rfl) ⟨Nat.le_of_ble_eq_true rfl, Nat.le_of_ble_eq_true rfl⟩ ⟨Nat.le_of_ble_eq_true rfl, Nat.le_of_ble_eq_true rfl⟩ (fun r σ7400 hp => ?_)
      obtain ⟨h7401, hp⟩ := hp
      have h7402 := HK.trans h7397 h7401 (by decide)
      have tq7403 := tq7399.keep (h7401.2 td (by rw [show kA _ td = 4 from htd]; decide))
      obtain ⟨rs7404, rfl⟩ := hp
      refine m_goto F e_X7_readLine_88 ?_
      exact m_vret F hQ e_X7_readLine_144 (⟨h7402, (by rw [lineS_0]; exact rs7404), rfl⟩)
    · refine m_gs F e_X7_readLine_31 F.sw.2.2.2.2.1.1 kf_map ?_
      refine m_aload_n F rfl e_X7_readLine_34 ?_
      refine m_ord F rfl e_X7_readLine_35 (i := kix c9) (by omega) (Nat.le_of_ble_eq_true rfl) ⟨Nat.le_of_ble_eq_true rfl, Nat.le_of_ble_eq_true rfl⟩ ?_
      refine m_ti F e_X7_readLine_38 F.sw.2.2.2.2.1.2 (i := nI (kix c9)) (vp_in_nI (by omega) (by decide)) (v := .int 2) (by rw [hk9]; decide) ?_
      refine m_tableIn F e_X7_readLine_39 (by decide) (by decide) (off := 52) (tgt := 91) (by decide) (by decide) ?_
      refine m_aload_n F rfl e_X7_readLine_91 ?_
      refine t_callV F e_X7_readLine_92 (s_X7_readPayE (x_l X) V b M Z T _ _ a  tp td n bk nx st 1 (nI c9) py sd ln 0 (-1) t 1 1 nl nm nc lc no md h7397.1 hk rfl hp1 (by omega) (by omega) rfl bx7398 tq7399 (by omega) ⟨(fld_eq (h7396.2 a (by rw [show kA _ a = 3 from hk]; decide))).trans rd7356, (fld_eq (h7396.2 a (by rw [show kA _ a = 3 from hk]; decide))).trans rd7357, (fld_eq (h7396.2 a (by rw [show kA _ a = 3 from hk]; decide))).trans rd7358, (fld_eq (h7396.2 a (by rw [show kA _ a = 3 from hk]; decide))).trans rd7359, (fld_eq (h7396.2 a (by rw [show kA _ a = 3 from hk]; decide))).trans rd7360, (fld_eq (h7396.2 a (by rw [show kA _ a = 3 from hk]; decide))).trans rd7361, (fld_eq (h7396.2 a (by rw [show kA _ a = 3 from hk]; decide))).trans rd7362, (fld_eq (h7396.2 a (by rw [show kA _ a = 3 from hk]; decide))).trans rd7363, (fld_eq (h7396.2 a (by rw [show kA _ a = 3 from hk]; decide))).trans rd7364, (fld_eq (h7396.2 a (by rw [show kA _ a = 3 from hk]; decide))).trans rd7365, (fld_eq (h7396.2 a (by rw [show kA _ a = 3 from hk]; decide))).trans rd7366, (fld_eq (h7396.2 a (by rw [show kA _ a = 3 from hk]; decide))).trans rd7367, (fld_eq (h7396.2 a (by rw [show kA _ a = 3 from hk]; decide))).trans rd7368⟩ (hB.keep (h7397.2 tp (by rw [show kA _ tp = 2 from htp]; decide))) hn7 hsd htp htd hbk (by omega)) cb_X7_readPay ml_X7_95 im_X7_readPay se_X7_readPay (fun _ => o3) h7397 hk rfl rfl (rest := []) rfl (Nat.le_of_ble_eq_true rfl) ⟨Nat.le_of_ble_eq_true rfl, Nat.le_of_ble_eq_true rfl⟩ ⟨Nat.le_of_ble_eq_true rfl, Nat.le_of_ble_eq_true rfl⟩ (fun r σ7405 hp => ?_)
      obtain ⟨h7406, hp⟩ := hp
      have h7407 := HK.trans h7397 h7406 (by decide)
      have bx7408 := bx7398.hk hbk h7406 (by decide) (by decide) (by decide)
      have tq7409 := tq7399.keep (h7406.2 td (by rw [show kA _ td = 4 from htd]; decide))
      obtain ⟨rs7410, rfl⟩ := hp
      refine m_goto F e_X7_readLine_95 ?_
      exact m_vret F hQ e_X7_readLine_144 (⟨h7407, (by rw [lineS_1]; exact rs7410), rfl⟩)
    · refine m_gs F e_X7_readLine_31 F.sw.2.2.2.2.1.1 kf_map ?_
      refine m_aload_n F rfl e_X7_readLine_34 ?_
      refine m_ord F rfl e_X7_readLine_35 (i := kix c9) (by omega) (Nat.le_of_ble_eq_true rfl) ⟨Nat.le_of_ble_eq_true rfl, Nat.le_of_ble_eq_true rfl⟩ ?_
      refine m_ti F e_X7_readLine_38 F.sw.2.2.2.2.1.2 (i := nI (kix c9)) (vp_in_nI (by omega) (by decide)) (v := .int 3) (by rw [hk9]; decide) ?_
      refine m_tableIn F e_X7_readLine_39 (by decide) (by decide) (off := 59) (tgt := 98) (by decide) (by decide) ?_
      refine m_aload_n F rfl e_X7_readLine_98 ?_
      refine t_callV F e_X7_readLine_99 (s_X7_readEarlyE (x_l X) V b M Z T _ _ a  tp td n bk nx st 1 (nI c9) py sd ln 0 (-1) t 1 2 nl nm nc lc no md h7397.1 hk rfl hp1 (by omega) (by omega) rfl bx7398 tq7399 (by omega) ⟨(fld_eq (h7396.2 a (by rw [show kA _ a = 3 from hk]; decide))).trans rd7356, (fld_eq (h7396.2 a (by rw [show kA _ a = 3 from hk]; decide))).trans rd7357, (fld_eq (h7396.2 a (by rw [show kA _ a = 3 from hk]; decide))).trans rd7358, (fld_eq (h7396.2 a (by rw [show kA _ a = 3 from hk]; decide))).trans rd7359, (fld_eq (h7396.2 a (by rw [show kA _ a = 3 from hk]; decide))).trans rd7360, (fld_eq (h7396.2 a (by rw [show kA _ a = 3 from hk]; decide))).trans rd7361, (fld_eq (h7396.2 a (by rw [show kA _ a = 3 from hk]; decide))).trans rd7362, (fld_eq (h7396.2 a (by rw [show kA _ a = 3 from hk]; decide))).trans rd7363, (fld_eq (h7396.2 a (by rw [show kA _ a = 3 from hk]; decide))).trans rd7364, (fld_eq (h7396.2 a (by rw [show kA _ a = 3 from hk]; decide))).trans rd7365, (fld_eq (h7396.2 a (by rw [show kA _ a = 3 from hk]; decide))).trans rd7366, (fld_eq (h7396.2 a (by rw [show kA _ a = 3 from hk]; decide))).trans rd7367, (fld_eq (h7396.2 a (by rw [show kA _ a = 3 from hk]; decide))).trans rd7368⟩ (hB.keep (h7397.2 tp (by rw [show kA _ tp = 2 from htp]; decide))) hn7 hsd htp htd hbk (by omega)) cb_X7_readEarly ml_X7_98 im_X7_readEarly se_X7_readEarly (fun _ => o3) h7397 hk rfl rfl (rest := []) rfl (Nat.le_of_ble_eq_true rfl) ⟨Nat.le_of_ble_eq_true rfl, Nat.le_of_ble_eq_true rfl⟩ ⟨Nat.le_of_ble_eq_true rfl, Nat.le_of_ble_eq_true rfl⟩ (fun r σ7411 hp => ?_)
      obtain ⟨h7412, hp⟩ := hp
      have h7413 := HK.trans h7397 h7412 (by decide)
      obtain ⟨rs7414, rfl⟩ := hp
      refine m_goto F e_X7_readLine_102 ?_
      exact m_vret F hQ e_X7_readLine_144 (⟨h7413, (by rw [lineS_2]; exact rs7414), rfl⟩)
    · refine m_gs F e_X7_readLine_31 F.sw.2.2.2.2.1.1 kf_map ?_
      refine m_aload_n F rfl e_X7_readLine_34 ?_
      refine m_ord F rfl e_X7_readLine_35 (i := kix c9) (by omega) (Nat.le_of_ble_eq_true rfl) ⟨Nat.le_of_ble_eq_true rfl, Nat.le_of_ble_eq_true rfl⟩ ?_
      refine m_ti F e_X7_readLine_38 F.sw.2.2.2.2.1.2 (i := nI (kix c9)) (vp_in_nI (by omega) (by decide)) (v := .int 4) (by rw [hk9]; decide) ?_
      refine m_tableIn F e_X7_readLine_39 (by decide) (by decide) (off := 66) (tgt := 105) (by decide) (by decide) ?_
      refine m_aload_n F rfl e_X7_readLine_105 ?_
      refine t_callV F e_X7_readLine_106 (s_X7_readFairE (x_l X) V b M Z T _ _ a  tp td n bk nx st 1 (nI c9) py sd ln 0 (-1) t 1 3 nl nm nc lc no md h7397.1 hk rfl hp1 (by omega) (by omega) rfl bx7398 tq7399 (by omega) ⟨(fld_eq (h7396.2 a (by rw [show kA _ a = 3 from hk]; decide))).trans rd7356, (fld_eq (h7396.2 a (by rw [show kA _ a = 3 from hk]; decide))).trans rd7357, (fld_eq (h7396.2 a (by rw [show kA _ a = 3 from hk]; decide))).trans rd7358, (fld_eq (h7396.2 a (by rw [show kA _ a = 3 from hk]; decide))).trans rd7359, (fld_eq (h7396.2 a (by rw [show kA _ a = 3 from hk]; decide))).trans rd7360, (fld_eq (h7396.2 a (by rw [show kA _ a = 3 from hk]; decide))).trans rd7361, (fld_eq (h7396.2 a (by rw [show kA _ a = 3 from hk]; decide))).trans rd7362, (fld_eq (h7396.2 a (by rw [show kA _ a = 3 from hk]; decide))).trans rd7363, (fld_eq (h7396.2 a (by rw [show kA _ a = 3 from hk]; decide))).trans rd7364, (fld_eq (h7396.2 a (by rw [show kA _ a = 3 from hk]; decide))).trans rd7365, (fld_eq (h7396.2 a (by rw [show kA _ a = 3 from hk]; decide))).trans rd7366, (fld_eq (h7396.2 a (by rw [show kA _ a = 3 from hk]; decide))).trans rd7367, (fld_eq (h7396.2 a (by rw [show kA _ a = 3 from hk]; decide))).trans rd7368⟩ (hB.keep (h7397.2 tp (by rw [show kA _ tp = 2 from htp]; decide))) hn7 hsd htp htd hbk (by omega)) cb_X7_readFair ml_X7_101 im_X7_readFair se_X7_readFair (fun _ => o3) h7397 hk rfl rfl (rest := []) rfl (Nat.le_of_ble_eq_true rfl) ⟨Nat.le_of_ble_eq_true rfl, Nat.le_of_ble_eq_true rfl⟩ ⟨Nat.le_of_ble_eq_true rfl, Nat.le_of_ble_eq_true rfl⟩ (fun r σ7415 hp => ?_)
      obtain ⟨h7416, hp⟩ := hp
      have h7417 := HK.trans h7397 h7416 (by decide)
      obtain ⟨rs7418, rfl⟩ := hp
      refine m_goto F e_X7_readLine_109 ?_
      exact m_vret F hQ e_X7_readLine_144 (⟨h7417, (by rw [lineS_3]; exact rs7418), rfl⟩)
    · refine m_gs F e_X7_readLine_31 F.sw.2.2.2.2.1.1 kf_map ?_
      refine m_aload_n F rfl e_X7_readLine_34 ?_
      refine m_ord F rfl e_X7_readLine_35 (i := kix c9) (by omega) (Nat.le_of_ble_eq_true rfl) ⟨Nat.le_of_ble_eq_true rfl, Nat.le_of_ble_eq_true rfl⟩ ?_
      refine m_ti F e_X7_readLine_38 F.sw.2.2.2.2.1.2 (i := nI (kix c9)) (vp_in_nI (by omega) (by decide)) (v := .int 5) (by rw [hk9]; decide) ?_
      refine m_tableIn F e_X7_readLine_39 (by decide) (by decide) (off := 73) (tgt := 112) (by decide) (by decide) ?_
      refine m_aload_n F rfl e_X7_readLine_112 ?_
      refine t_callV F e_X7_readLine_113 (s_X7_readFeeE (x_l X) V b M Z T _ _ a  tp td n bk nx st 1 (nI c9) py sd ln 0 (-1) t 1 4 nl nm nc lc no md h7397.1 hk rfl hp1 (by omega) (by omega) rfl bx7398 tq7399 (by omega) ⟨(fld_eq (h7396.2 a (by rw [show kA _ a = 3 from hk]; decide))).trans rd7356, (fld_eq (h7396.2 a (by rw [show kA _ a = 3 from hk]; decide))).trans rd7357, (fld_eq (h7396.2 a (by rw [show kA _ a = 3 from hk]; decide))).trans rd7358, (fld_eq (h7396.2 a (by rw [show kA _ a = 3 from hk]; decide))).trans rd7359, (fld_eq (h7396.2 a (by rw [show kA _ a = 3 from hk]; decide))).trans rd7360, (fld_eq (h7396.2 a (by rw [show kA _ a = 3 from hk]; decide))).trans rd7361, (fld_eq (h7396.2 a (by rw [show kA _ a = 3 from hk]; decide))).trans rd7362, (fld_eq (h7396.2 a (by rw [show kA _ a = 3 from hk]; decide))).trans rd7363, (fld_eq (h7396.2 a (by rw [show kA _ a = 3 from hk]; decide))).trans rd7364, (fld_eq (h7396.2 a (by rw [show kA _ a = 3 from hk]; decide))).trans rd7365, (fld_eq (h7396.2 a (by rw [show kA _ a = 3 from hk]; decide))).trans rd7366, (fld_eq (h7396.2 a (by rw [show kA _ a = 3 from hk]; decide))).trans rd7367, (fld_eq (h7396.2 a (by rw [show kA _ a = 3 from hk]; decide))).trans rd7368⟩ (hB.keep (h7397.2 tp (by rw [show kA _ tp = 2 from htp]; decide))) hn7 hsd htp htd hbk (by omega)) cb_X7_readFee ml_X7_104 im_X7_readFee se_X7_readFee (fun _ => o3) h7397 hk rfl rfl (rest := []) rfl (Nat.le_of_ble_eq_true rfl) ⟨Nat.le_of_ble_eq_true rfl, Nat.le_of_ble_eq_true rfl⟩ ⟨Nat.le_of_ble_eq_true rfl, Nat.le_of_ble_eq_true rfl⟩ (fun r σ7419 hp => ?_)
      obtain ⟨h7420, hp⟩ := hp
      have h7421 := HK.trans h7397 h7420 (by decide)
      obtain ⟨rs7422, rfl⟩ := hp
      refine m_goto F e_X7_readLine_116 ?_
      exact m_vret F hQ e_X7_readLine_144 (⟨h7421, (by rw [lineS_4]; exact rs7422), rfl⟩)
    · refine m_gs F e_X7_readLine_31 F.sw.2.2.2.2.1.1 kf_map ?_
      refine m_aload_n F rfl e_X7_readLine_34 ?_
      refine m_ord F rfl e_X7_readLine_35 (i := kix c9) (by omega) (Nat.le_of_ble_eq_true rfl) ⟨Nat.le_of_ble_eq_true rfl, Nat.le_of_ble_eq_true rfl⟩ ?_
      refine m_ti F e_X7_readLine_38 F.sw.2.2.2.2.1.2 (i := nI (kix c9)) (vp_in_nI (by omega) (by decide)) (v := .int 6) (by rw [hk9]; decide) ?_
      refine m_tableIn F e_X7_readLine_39 (by decide) (by decide) (off := 80) (tgt := 119) (by decide) (by decide) ?_
      refine m_aload_n F rfl e_X7_readLine_119 ?_
      refine t_callV F e_X7_readLine_120 (s_X7_readTiedE (x_l X) V b M Z T _ _ a  tp td n bk nx st 1 (nI c9) py sd ln 0 (-1) t 1 5 nl nm nc lc no md h7397.1 hk rfl hp1 (by omega) (by omega) rfl bx7398 tq7399 (by omega) ⟨(fld_eq (h7396.2 a (by rw [show kA _ a = 3 from hk]; decide))).trans rd7356, (fld_eq (h7396.2 a (by rw [show kA _ a = 3 from hk]; decide))).trans rd7357, (fld_eq (h7396.2 a (by rw [show kA _ a = 3 from hk]; decide))).trans rd7358, (fld_eq (h7396.2 a (by rw [show kA _ a = 3 from hk]; decide))).trans rd7359, (fld_eq (h7396.2 a (by rw [show kA _ a = 3 from hk]; decide))).trans rd7360, (fld_eq (h7396.2 a (by rw [show kA _ a = 3 from hk]; decide))).trans rd7361, (fld_eq (h7396.2 a (by rw [show kA _ a = 3 from hk]; decide))).trans rd7362, (fld_eq (h7396.2 a (by rw [show kA _ a = 3 from hk]; decide))).trans rd7363, (fld_eq (h7396.2 a (by rw [show kA _ a = 3 from hk]; decide))).trans rd7364, (fld_eq (h7396.2 a (by rw [show kA _ a = 3 from hk]; decide))).trans rd7365, (fld_eq (h7396.2 a (by rw [show kA _ a = 3 from hk]; decide))).trans rd7366, (fld_eq (h7396.2 a (by rw [show kA _ a = 3 from hk]; decide))).trans rd7367, (fld_eq (h7396.2 a (by rw [show kA _ a = 3 from hk]; decide))).trans rd7368⟩ (hB.keep (h7397.2 tp (by rw [show kA _ tp = 2 from htp]; decide))) hn7 hsd htp htd hbk (by omega)) cb_X7_readTied ml_X7_107 im_X7_readTied se_X7_readTied (fun _ => o3) h7397 hk rfl rfl (rest := []) rfl (Nat.le_of_ble_eq_true rfl) ⟨Nat.le_of_ble_eq_true rfl, Nat.le_of_ble_eq_true rfl⟩ ⟨Nat.le_of_ble_eq_true rfl, Nat.le_of_ble_eq_true rfl⟩ (fun r σ7423 hp => ?_)
      obtain ⟨h7424, hp⟩ := hp
      have h7425 := HK.trans h7397 h7424 (by decide)
      obtain ⟨rs7426, rfl⟩ := hp
      refine m_goto F e_X7_readLine_123 ?_
      exact m_vret F hQ e_X7_readLine_144 (⟨h7425, (by rw [lineS_5]; exact rs7426), rfl⟩)
    · refine m_gs F e_X7_readLine_31 F.sw.2.2.2.2.1.1 kf_map ?_
      refine m_aload_n F rfl e_X7_readLine_34 ?_
      refine m_ord F rfl e_X7_readLine_35 (i := kix c9) (by omega) (Nat.le_of_ble_eq_true rfl) ⟨Nat.le_of_ble_eq_true rfl, Nat.le_of_ble_eq_true rfl⟩ ?_
      refine m_ti F e_X7_readLine_38 F.sw.2.2.2.2.1.2 (i := nI (kix c9)) (vp_in_nI (by omega) (by decide)) (v := .int 7) (by rw [hk9]; decide) ?_
      refine m_tableIn F e_X7_readLine_39 (by decide) (by decide) (off := 87) (tgt := 126) (by decide) (by decide) ?_
      refine m_aload_n F rfl e_X7_readLine_126 ?_
      refine t_callV F e_X7_readLine_127 (s_X7_readIndexE (x_l X) V b M Z T _ _ a  tp td n bk nx st 1 (nI c9) py sd ln 0 (-1) t 1 6 nl nm nc lc no md h7397.1 hk rfl hp1 (by omega) (by omega) rfl bx7398 tq7399 (by omega) ⟨(fld_eq (h7396.2 a (by rw [show kA _ a = 3 from hk]; decide))).trans rd7356, (fld_eq (h7396.2 a (by rw [show kA _ a = 3 from hk]; decide))).trans rd7357, (fld_eq (h7396.2 a (by rw [show kA _ a = 3 from hk]; decide))).trans rd7358, (fld_eq (h7396.2 a (by rw [show kA _ a = 3 from hk]; decide))).trans rd7359, (fld_eq (h7396.2 a (by rw [show kA _ a = 3 from hk]; decide))).trans rd7360, (fld_eq (h7396.2 a (by rw [show kA _ a = 3 from hk]; decide))).trans rd7361, (fld_eq (h7396.2 a (by rw [show kA _ a = 3 from hk]; decide))).trans rd7362, (fld_eq (h7396.2 a (by rw [show kA _ a = 3 from hk]; decide))).trans rd7363, (fld_eq (h7396.2 a (by rw [show kA _ a = 3 from hk]; decide))).trans rd7364, (fld_eq (h7396.2 a (by rw [show kA _ a = 3 from hk]; decide))).trans rd7365, (fld_eq (h7396.2 a (by rw [show kA _ a = 3 from hk]; decide))).trans rd7366, (fld_eq (h7396.2 a (by rw [show kA _ a = 3 from hk]; decide))).trans rd7367, (fld_eq (h7396.2 a (by rw [show kA _ a = 3 from hk]; decide))).trans rd7368⟩ (hB.keep (h7397.2 tp (by rw [show kA _ tp = 2 from htp]; decide))) hn7 hsd htp htd hbk (by omega)) cb_X7_readIndex ml_X7_110 im_X7_readIndex se_X7_readIndex (fun _ => o3) h7397 hk rfl rfl (rest := []) rfl (Nat.le_of_ble_eq_true rfl) ⟨Nat.le_of_ble_eq_true rfl, Nat.le_of_ble_eq_true rfl⟩ ⟨Nat.le_of_ble_eq_true rfl, Nat.le_of_ble_eq_true rfl⟩ (fun r σ7427 hp => ?_)
      obtain ⟨h7428, hp⟩ := hp
      have h7429 := HK.trans h7397 h7428 (by decide)
      have tq7430 := tq7399.keep (h7428.2 td (by rw [show kA _ td = 4 from htd]; decide))
      obtain ⟨rs7431, rfl⟩ := hp
      refine m_goto F e_X7_readLine_130 ?_
      exact m_vret F hQ e_X7_readLine_144 (⟨h7429, (by rw [lineS_6]; exact rs7431), rfl⟩)
    · refine m_gs F e_X7_readLine_31 F.sw.2.2.2.2.1.1 kf_map ?_
      refine m_aload_n F rfl e_X7_readLine_34 ?_
      refine m_ord F rfl e_X7_readLine_35 (i := kix c9) (by omega) (Nat.le_of_ble_eq_true rfl) ⟨Nat.le_of_ble_eq_true rfl, Nat.le_of_ble_eq_true rfl⟩ ?_
      refine m_ti F e_X7_readLine_38 F.sw.2.2.2.2.1.2 (i := nI (kix c9)) (vp_in_nI (by omega) (by decide)) (v := .int 8) (by rw [hk9]; decide) ?_
      refine m_tableIn F e_X7_readLine_39 (by decide) (by decide) (off := 94) (tgt := 133) (by decide) (by decide) ?_
      refine m_aload_n F rfl e_X7_readLine_133 ?_
      refine t_callV F e_X7_readLine_134 (s_X7_readOptionE (x_l X) V b M Z T _ _ a  tp td n bk nx st 1 (nI c9) py sd ln 0 (-1) t 1 7 nl nm nc lc no md h7397.1 hk rfl hp1 (by omega) (by omega) rfl bx7398 tq7399 (by omega) ⟨(fld_eq (h7396.2 a (by rw [show kA _ a = 3 from hk]; decide))).trans rd7356, (fld_eq (h7396.2 a (by rw [show kA _ a = 3 from hk]; decide))).trans rd7357, (fld_eq (h7396.2 a (by rw [show kA _ a = 3 from hk]; decide))).trans rd7358, (fld_eq (h7396.2 a (by rw [show kA _ a = 3 from hk]; decide))).trans rd7359, (fld_eq (h7396.2 a (by rw [show kA _ a = 3 from hk]; decide))).trans rd7360, (fld_eq (h7396.2 a (by rw [show kA _ a = 3 from hk]; decide))).trans rd7361, (fld_eq (h7396.2 a (by rw [show kA _ a = 3 from hk]; decide))).trans rd7362, (fld_eq (h7396.2 a (by rw [show kA _ a = 3 from hk]; decide))).trans rd7363, (fld_eq (h7396.2 a (by rw [show kA _ a = 3 from hk]; decide))).trans rd7364, (fld_eq (h7396.2 a (by rw [show kA _ a = 3 from hk]; decide))).trans rd7365, (fld_eq (h7396.2 a (by rw [show kA _ a = 3 from hk]; decide))).trans rd7366, (fld_eq (h7396.2 a (by rw [show kA _ a = 3 from hk]; decide))).trans rd7367, (fld_eq (h7396.2 a (by rw [show kA _ a = 3 from hk]; decide))).trans rd7368⟩ (hB.keep (h7397.2 tp (by rw [show kA _ tp = 2 from htp]; decide))) hn7 hsd htp htd hbk (by omega)) cb_X7_readOption ml_X7_113 im_X7_readOption se_X7_readOption (fun _ => o3) h7397 hk rfl rfl (rest := []) rfl (Nat.le_of_ble_eq_true rfl) ⟨Nat.le_of_ble_eq_true rfl, Nat.le_of_ble_eq_true rfl⟩ ⟨Nat.le_of_ble_eq_true rfl, Nat.le_of_ble_eq_true rfl⟩ (fun r σ7432 hp => ?_)
      obtain ⟨h7433, hp⟩ := hp
      have h7434 := HK.trans h7397 h7433 (by decide)
      have tq7435 := tq7399.keep (h7433.2 td (by rw [show kA _ td = 4 from htd]; decide))
      obtain ⟨rs7436, rfl⟩ := hp
      refine m_goto F e_X7_readLine_137 ?_
      exact m_vret F hQ e_X7_readLine_144 (⟨h7434, (by rw [lineS_7]; exact rs7436), rfl⟩)
    · refine m_gs F e_X7_readLine_31 F.sw.2.2.2.2.1.1 kf_map ?_
      refine m_aload_n F rfl e_X7_readLine_34 ?_
      refine m_ord F rfl e_X7_readLine_35 (i := kix c9) (by omega) (Nat.le_of_ble_eq_true rfl) ⟨Nat.le_of_ble_eq_true rfl, Nat.le_of_ble_eq_true rfl⟩ ?_
      refine m_ti F e_X7_readLine_38 F.sw.2.2.2.2.1.2 (i := nI (kix c9)) (vp_in_nI (by omega) (by decide)) (v := .int 0) (by rw [hk9]; decide) ?_
      refine m_tableOut F e_X7_readLine_39 (Or.inl (by decide)) (tgt := 140) (by decide) ?_
      refine m_aload_n F rfl e_X7_readLine_140 ?_
      refine t_callV F e_X7_readLine_141 (s_X7_readSeedE (x_l X) V b M Z T _ _ a  tp td n bk nx st 1 (nI c9) py sd ln 0 (-1) t 1 8 nl nm nc lc no md h7397.1 hk rfl hp1 (by omega) (by omega) rfl bx7398 tq7399 (by omega) ⟨(fld_eq (h7396.2 a (by rw [show kA _ a = 3 from hk]; decide))).trans rd7356, (fld_eq (h7396.2 a (by rw [show kA _ a = 3 from hk]; decide))).trans rd7357, (fld_eq (h7396.2 a (by rw [show kA _ a = 3 from hk]; decide))).trans rd7358, (fld_eq (h7396.2 a (by rw [show kA _ a = 3 from hk]; decide))).trans rd7359, (fld_eq (h7396.2 a (by rw [show kA _ a = 3 from hk]; decide))).trans rd7360, (fld_eq (h7396.2 a (by rw [show kA _ a = 3 from hk]; decide))).trans rd7361, (fld_eq (h7396.2 a (by rw [show kA _ a = 3 from hk]; decide))).trans rd7362, (fld_eq (h7396.2 a (by rw [show kA _ a = 3 from hk]; decide))).trans rd7363, (fld_eq (h7396.2 a (by rw [show kA _ a = 3 from hk]; decide))).trans rd7364, (fld_eq (h7396.2 a (by rw [show kA _ a = 3 from hk]; decide))).trans rd7365, (fld_eq (h7396.2 a (by rw [show kA _ a = 3 from hk]; decide))).trans rd7366, (fld_eq (h7396.2 a (by rw [show kA _ a = 3 from hk]; decide))).trans rd7367, (fld_eq (h7396.2 a (by rw [show kA _ a = 3 from hk]; decide))).trans rd7368⟩ (hB.keep (h7397.2 tp (by rw [show kA _ tp = 2 from htp]; decide))) hn7 hsd htp htd hbk (by omega)) cb_X7_readSeed ml_X7_116 im_X7_readSeed se_X7_readSeed (fun _ => o3) h7397 hk rfl rfl (rest := []) rfl (Nat.le_of_ble_eq_true rfl) ⟨Nat.le_of_ble_eq_true rfl, Nat.le_of_ble_eq_true rfl⟩ ⟨Nat.le_of_ble_eq_true rfl, Nat.le_of_ble_eq_true rfl⟩ (fun r σ7437 hp => ?_)
      obtain ⟨h7438, hp⟩ := hp
      have h7439 := HK.trans h7397 h7438 (by decide)
      have tq7440 := tq7399.keep (h7438.2 td (by rw [show kA _ td = 4 from htd]; decide))
      obtain ⟨rs7441, rfl⟩ := hp
      exact m_vret F hQ e_X7_readLine_144 (⟨h7439, (by rw [lineS_8]; exact rs7441), rfl⟩)
  · refine t_getC F e_X7_readLine_1 fl_X7_61 (fun _ => o3) h1 hk (rd7362) ?_
    refine m_iconst F (v := 1) (by decide) e_X7_readLine_4 ?_
    refine m_icmp_ne F e_X7_readLine_5 (fun q => absurd (by decide) q) (fun _ => ?_)
    refine m_aload_n F rfl e_X7_readLine_8 ?_
    refine m_aload_n F rfl e_X7_readLine_9 ?_
    refine t_getC F e_X7_readLine_10 fl_X7_70 (fun _ => o3) h1 hk (rd7363) ?_
    refine t_callV F e_X7_readLine_13 (s_X7_kindOfE (x_l X) V b M Z T _ _ a v9 h1.1 hk (by omega) (by omega)) cb_X7_kindOf ml_X7_73 im_X7_kindOf se_X7_kindOf (fun _ => o3) h1 hk rfl rfl (rest := []) rfl (Nat.le_of_ble_eq_true rfl) ⟨Nat.le_of_ble_eq_true rfl, Nat.le_of_ble_eq_true rfl⟩ ⟨Nat.le_of_ble_eq_true rfl, Nat.le_of_ble_eq_true rfl⟩ (fun r σ7442 hp => ?_)
    obtain ⟨h7443, hp⟩ := hp
    rcases hp with ⟨hp, rfl⟩ | ⟨hp, rfl⟩
    · exact absurd hp hk9
    have h7444 := HK.trans h1 h7443 (by decide)
    have bx7445 := hp5.hk hbk h7443 (by decide) (by decide) (by decide)
    have tq7446 := hp6.keep (h7443.2 td (by rw [show kA _ td = 4 from htd]; decide))
    refine m_goto F e_X7_readLine_16 ?_
    refine m_astore_nN F (lv' := [(1, .null), (0, .ref a)]) e_X7_readLine_20 (by decide) rfl ?_
    refine m_aload_nN F rfl e_X7_readLine_21 ?_
    refine m_ifnonnullN F e_X7_readLine_22 ?_
    refine m_aload_n F rfl e_X7_readLine_25 ?_
    refine m_iconst F (v := 1) (by decide) e_X7_readLine_26 ?_
    refine t_callV F e_X7_readLine_27 (s_X7_failE (x_l X) V b M Z T _ _ a 1 tp td n bk nx st 1 (nI v9) py sd ln 0 (-1) t h7444.1 hk rfl (by decide) ⟨(fld_eq (h7443.2 a (by rw [show kA _ a = 3 from hk]; decide))).trans rd7356, (fld_eq (h7443.2 a (by rw [show kA _ a = 3 from hk]; decide))).trans rd7357, (fld_eq (h7443.2 a (by rw [show kA _ a = 3 from hk]; decide))).trans rd7358, (fld_eq (h7443.2 a (by rw [show kA _ a = 3 from hk]; decide))).trans rd7359, (fld_eq (h7443.2 a (by rw [show kA _ a = 3 from hk]; decide))).trans rd7360, (fld_eq (h7443.2 a (by rw [show kA _ a = 3 from hk]; decide))).trans rd7361, (fld_eq (h7443.2 a (by rw [show kA _ a = 3 from hk]; decide))).trans rd7362, (fld_eq (h7443.2 a (by rw [show kA _ a = 3 from hk]; decide))).trans rd7363, (fld_eq (h7443.2 a (by rw [show kA _ a = 3 from hk]; decide))).trans rd7364, (fld_eq (h7443.2 a (by rw [show kA _ a = 3 from hk]; decide))).trans rd7365, (fld_eq (h7443.2 a (by rw [show kA _ a = 3 from hk]; decide))).trans rd7366, (fld_eq (h7443.2 a (by rw [show kA _ a = 3 from hk]; decide))).trans rd7367, (fld_eq (h7443.2 a (by rw [show kA _ a = 3 from hk]; decide))).trans rd7368⟩ (hB.keep (h7444.2 tp (by rw [show kA _ tp = 2 from htp]; decide))) hn7 hsd htp htd hbk (by omega)) cb_X7_fail ml_X7_77 im_X7_fail se_X7_fail (fun _ => o3) h7444 hk rfl rfl (rest := []) rfl (Nat.le_of_ble_eq_true rfl) ⟨Nat.le_of_ble_eq_true rfl, Nat.le_of_ble_eq_true rfl⟩ ⟨Nat.le_of_ble_eq_true rfl, Nat.le_of_ble_eq_true rfl⟩ (fun r σ7447 hp => ?_)
    obtain ⟨h7448, ⟨rd7450, rd7451, rd7452, rd7453, rd7454, rd7455, rd7456, rd7457, rd7458, rd7459, rd7460, rd7461, rd7462⟩, rfl⟩ := hp
    have h7449 := HK.trans h7444 h7448 (by decide)
    have bx7463 := bx7445.hk hbk h7448 (by decide) (by decide) (by decide)
    have tq7464 := tq7446.keep (h7448.2 td (by rw [show kA _ td = 4 from htd]; decide))
    exact m_vret F hQ e_X7_readLine_30 (⟨h7449, (by rw [lineS_no (by decide)]; exact RES.l (rd7461) (rd7462) (by decide) (by decide) (by omega)), rfl⟩)
  · refine t_getC F e_X7_readLine_1 fl_X7_61 (fun _ => o3) h1 hk (rd7362) ?_
    refine m_iconst F (v := 1) (by decide) e_X7_readLine_4 ?_
    refine m_icmp_ne F e_X7_readLine_5 (fun _ => ?_) (fun q => absurd q (by decide))
    refine m_null F e_X7_readLine_19 ?_
    refine m_astore_nN F (lv' := [(1, .null), (0, .ref a)]) e_X7_readLine_20 (by decide) rfl ?_
    refine m_aload_nN F rfl e_X7_readLine_21 ?_
    refine m_ifnonnullN F e_X7_readLine_22 ?_
    refine m_aload_n F rfl e_X7_readLine_25 ?_
    refine m_iconst F (v := 1) (by decide) e_X7_readLine_26 ?_
    refine t_callV F e_X7_readLine_27 (s_X7_failE (x_l X) V b M Z T _ _ a 1 tp td n bk nx st 2 (nI w9) py sd ln 0 (-1) t h1.1 hk rfl (by decide) ⟨rd7356, rd7357, rd7358, rd7359, rd7360, rd7361, rd7362, rd7363, rd7364, rd7365, rd7366, rd7367, rd7368⟩ (hB.keep (h1.2 tp (by rw [show kA _ tp = 2 from htp]; decide))) hn7 hsd htp htd hbk (by omega)) cb_X7_fail ml_X7_77 im_X7_fail se_X7_fail (fun _ => o3) h1 hk rfl rfl (rest := []) rfl (Nat.le_of_ble_eq_true rfl) ⟨Nat.le_of_ble_eq_true rfl, Nat.le_of_ble_eq_true rfl⟩ ⟨Nat.le_of_ble_eq_true rfl, Nat.le_of_ble_eq_true rfl⟩ (fun r σ7465 hp => ?_)
    obtain ⟨h7466, ⟨rd7468, rd7469, rd7470, rd7471, rd7472, rd7473, rd7474, rd7475, rd7476, rd7477, rd7478, rd7479, rd7480⟩, rfl⟩ := hp
    have h7467 := HK.trans h1 h7466 (by decide)
    have bx7481 := hp5.hk hbk h7466 (by decide) (by decide) (by decide)
    have tq7482 := hp6.keep (h7466.2 td (by rw [show kA _ td = 4 from htd]; decide))
    exact m_vret F hQ e_X7_readLine_30 (⟨h7467, (by rw [lineS_no (by decide)]; exact RES.l (rd7479) (rd7480) (by decide) (by decide) (by omega)), rfl⟩)
  · refine t_getC F e_X7_readLine_1 fl_X7_61 (fun _ => o3) h1 hk (rd7362) ?_
    refine m_iconst F (v := 1) (by decide) e_X7_readLine_4 ?_
    refine m_icmp_ne F e_X7_readLine_5 (fun _ => ?_) (fun q => absurd q (by decide))
    refine m_null F e_X7_readLine_19 ?_
    refine m_astore_nN F (lv' := [(1, .null), (0, .ref a)]) e_X7_readLine_20 (by decide) rfl ?_
    refine m_aload_nN F rfl e_X7_readLine_21 ?_
    refine m_ifnonnullN F e_X7_readLine_22 ?_
    refine m_aload_n F rfl e_X7_readLine_25 ?_
    refine m_iconst F (v := 1) (by decide) e_X7_readLine_26 ?_
    refine t_callV F e_X7_readLine_27 (s_X7_failE (x_l X) V b M Z T _ _ a 1 tp td n bk nx st 3 vl py sd ln 0 (-1) t h1.1 hk rfl (by decide) ⟨rd7356, rd7357, rd7358, rd7359, rd7360, rd7361, rd7362, rd7363, rd7364, rd7365, rd7366, rd7367, rd7368⟩ (hB.keep (h1.2 tp (by rw [show kA _ tp = 2 from htp]; decide))) hn7 hsd htp htd hbk (by omega)) cb_X7_fail ml_X7_77 im_X7_fail se_X7_fail (fun _ => o3) h1 hk rfl rfl (rest := []) rfl (Nat.le_of_ble_eq_true rfl) ⟨Nat.le_of_ble_eq_true rfl, Nat.le_of_ble_eq_true rfl⟩ ⟨Nat.le_of_ble_eq_true rfl, Nat.le_of_ble_eq_true rfl⟩ (fun r σ7483 hp => ?_)
    obtain ⟨h7484, ⟨rd7486, rd7487, rd7488, rd7489, rd7490, rd7491, rd7492, rd7493, rd7494, rd7495, rd7496, rd7497, rd7498⟩, rfl⟩ := hp
    have h7485 := HK.trans h1 h7484 (by decide)
    have bx7499 := hp5.hk hbk h7484 (by decide) (by decide) (by decide)
    have tq7500 := hp6.keep (h7484.2 td (by rw [show kA _ td = 4 from htd]; decide))
    exact m_vret F hQ e_X7_readLine_30 (⟨h7485, (by rw [lineS_no (by decide)]; exact RES.l (rd7497) (rd7498) (by decide) (by decide) (by omega)), rfl⟩)
  · refine t_getC F e_X7_readLine_1 fl_X7_61 (fun _ => o3) h1 hk (rd7362) ?_
    refine m_iconst F (v := 1) (by decide) e_X7_readLine_4 ?_
    refine m_icmp_ne F e_X7_readLine_5 (fun q => absurd (by decide) q) (fun _ => ?_)
    refine m_aload_n F rfl e_X7_readLine_8 ?_
    refine m_aload_n F rfl e_X7_readLine_9 ?_
    refine t_getC F e_X7_readLine_10 fl_X7_70 (fun _ => o3) h1 hk (rd7363) ?_
    refine t_callV F e_X7_readLine_13 (s_X7_kindOfN (x_l X) V b M Z T _ _ a (-1) h1.1 hk rfl (by omega)) cb_X7_kindOf ml_X7_73 im_X7_kindOf se_X7_kindOf (fun _ => o3) h1 hk rfl rfl (rest := []) rfl (Nat.le_of_ble_eq_true rfl) ⟨Nat.le_of_ble_eq_true rfl, Nat.le_of_ble_eq_true rfl⟩ ⟨Nat.le_of_ble_eq_true rfl, Nat.le_of_ble_eq_true rfl⟩ (fun r σ7501 hp => ?_)
    obtain ⟨h7502, rfl⟩ := hp
    have h7503 := HK.trans h1 h7502 (by decide)
    have bx7504 := hp5.hk hbk h7502 (by decide) (by decide) (by decide)
    have tq7505 := hp6.keep (h7502.2 td (by rw [show kA _ td = 4 from htd]; decide))
    refine m_goto F e_X7_readLine_16 ?_
    refine m_astore_nN F (lv' := [(1, .null), (0, .ref a)]) e_X7_readLine_20 (by decide) rfl ?_
    refine m_aload_nN F rfl e_X7_readLine_21 ?_
    refine m_ifnonnullN F e_X7_readLine_22 ?_
    refine m_aload_n F rfl e_X7_readLine_25 ?_
    refine m_iconst F (v := 1) (by decide) e_X7_readLine_26 ?_
    refine t_callV F e_X7_readLine_27 (s_X7_failE (x_l X) V b M Z T _ _ a 1 tp td n bk nx st 1 (-1) py sd ln 0 (-1) t h7503.1 hk rfl (by decide) ⟨(fld_eq (h7502.2 a (by rw [show kA _ a = 3 from hk]; decide))).trans rd7356, (fld_eq (h7502.2 a (by rw [show kA _ a = 3 from hk]; decide))).trans rd7357, (fld_eq (h7502.2 a (by rw [show kA _ a = 3 from hk]; decide))).trans rd7358, (fld_eq (h7502.2 a (by rw [show kA _ a = 3 from hk]; decide))).trans rd7359, (fld_eq (h7502.2 a (by rw [show kA _ a = 3 from hk]; decide))).trans rd7360, (fld_eq (h7502.2 a (by rw [show kA _ a = 3 from hk]; decide))).trans rd7361, (fld_eq (h7502.2 a (by rw [show kA _ a = 3 from hk]; decide))).trans rd7362, (fld_eq (h7502.2 a (by rw [show kA _ a = 3 from hk]; decide))).trans rd7363, (fld_eq (h7502.2 a (by rw [show kA _ a = 3 from hk]; decide))).trans rd7364, (fld_eq (h7502.2 a (by rw [show kA _ a = 3 from hk]; decide))).trans rd7365, (fld_eq (h7502.2 a (by rw [show kA _ a = 3 from hk]; decide))).trans rd7366, (fld_eq (h7502.2 a (by rw [show kA _ a = 3 from hk]; decide))).trans rd7367, (fld_eq (h7502.2 a (by rw [show kA _ a = 3 from hk]; decide))).trans rd7368⟩ (hB.keep (h7503.2 tp (by rw [show kA _ tp = 2 from htp]; decide))) hn7 hsd htp htd hbk (by omega)) cb_X7_fail ml_X7_77 im_X7_fail se_X7_fail (fun _ => o3) h7503 hk rfl rfl (rest := []) rfl (Nat.le_of_ble_eq_true rfl) ⟨Nat.le_of_ble_eq_true rfl, Nat.le_of_ble_eq_true rfl⟩ ⟨Nat.le_of_ble_eq_true rfl, Nat.le_of_ble_eq_true rfl⟩ (fun r σ7506 hp => ?_)
    obtain ⟨h7507, ⟨rd7509, rd7510, rd7511, rd7512, rd7513, rd7514, rd7515, rd7516, rd7517, rd7518, rd7519, rd7520, rd7521⟩, rfl⟩ := hp
    have h7508 := HK.trans h7503 h7507 (by decide)
    have bx7522 := bx7504.hk hbk h7507 (by decide) (by decide) (by decide)
    have tq7523 := tq7505.keep (h7507.2 td (by rw [show kA _ td = 4 from htd]; decide))
    exact m_vret F hQ e_X7_readLine_30 (⟨h7508, (by rw [lineS_no (by decide)]; exact RES.l (rd7520) (rd7521) (by decide) (by decide) (by omega)), rfl⟩)
  · refine t_getC F e_X7_readLine_1 fl_X7_61 (fun _ => o3) h1 hk (rd7362) ?_
    refine m_iconst F (v := 1) (by decide) e_X7_readLine_4 ?_
    refine m_icmp_ne F e_X7_readLine_5 (fun _ => ?_) (fun q => absurd q (by decide))
    refine m_null F e_X7_readLine_19 ?_
    refine m_astore_nN F (lv' := [(1, .null), (0, .ref a)]) e_X7_readLine_20 (by decide) rfl ?_
    refine m_aload_nN F rfl e_X7_readLine_21 ?_
    refine m_ifnonnullN F e_X7_readLine_22 ?_
    refine m_aload_n F rfl e_X7_readLine_25 ?_
    refine m_iconst F (v := 1) (by decide) e_X7_readLine_26 ?_
    refine t_callV F e_X7_readLine_27 (s_X7_failE (x_l X) V b M Z T _ _ a 1 tp td n bk nx st 4 vl py sd ln 0 (-1) t h1.1 hk rfl (by decide) ⟨rd7356, rd7357, rd7358, rd7359, rd7360, rd7361, rd7362, rd7363, rd7364, rd7365, rd7366, rd7367, rd7368⟩ (hB.keep (h1.2 tp (by rw [show kA _ tp = 2 from htp]; decide))) hn7 hsd htp htd hbk (by omega)) cb_X7_fail ml_X7_77 im_X7_fail se_X7_fail (fun _ => o3) h1 hk rfl rfl (rest := []) rfl (Nat.le_of_ble_eq_true rfl) ⟨Nat.le_of_ble_eq_true rfl, Nat.le_of_ble_eq_true rfl⟩ ⟨Nat.le_of_ble_eq_true rfl, Nat.le_of_ble_eq_true rfl⟩ (fun r σ7524 hp => ?_)
    obtain ⟨h7525, ⟨rd7527, rd7528, rd7529, rd7530, rd7531, rd7532, rd7533, rd7534, rd7535, rd7536, rd7537, rd7538, rd7539⟩, rfl⟩ := hp
    have h7526 := HK.trans h1 h7525 (by decide)
    have bx7540 := hp5.hk hbk h7525 (by decide) (by decide) (by decide)
    have tq7541 := hp6.keep (h7525.2 td (by rw [show kA _ td = 4 from htd]; decide))
    exact m_vret F hQ e_X7_readLine_30 (⟨h7526, (by rw [lineS_no (by decide)]; exact RES.l (rd7538) (rd7539) (by decide) (by decide) (by omega)), rfl⟩)
