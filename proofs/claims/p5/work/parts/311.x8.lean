section LT
variable {X : Nat → Tk} {st s9 v9 nx nl : Nat} {nm : Nat → Nat} {np nc lc no sd : Nat} {md : Nat → Nat → Bool} {ln : Nat}
theorem stopS_ok : stopS X (st, 4, v9, nx) nl nm np nc lc no sd md ln = .inr (X nx, nl, nm, np, nc, lc, no, sd, md, ln + 1) := by unfold stopS; exact if_pos rfl
theorem stopS_1 (h : s9 ≠ 4) : stopS X (st, s9, v9, nx) nl nm np nc lc no sd md ln = .inl (1, st) := by unfold stopS; exact if_neg h
theorem lineS_no (h : s9 ≠ 1) : lineS X (st, s9, v9, nx) nl nm np nc lc no sd md ln = .inl (1, st) := by unfold lineS; exact if_neg h
theorem lineS_0 : lineS X (st, 1, 0, nx) nl nm np nc lc no sd md ln = leaseS X (st, 1, 0, nx) nl nm np nc lc no sd md ln := rfl
theorem lineS_1 : lineS X (st, 1, 1, nx) nl nm np nc lc no sd md ln = payS X (st, 1, 1, nx) nl nm np nc lc no sd md ln := rfl
theorem lineS_2 : lineS X (st, 1, 2, nx) nl nm np nc lc no sd md ln = earlyS X (st, 1, 2, nx) nl nm np nc lc no sd md ln := rfl
theorem lineS_3 : lineS X (st, 1, 3, nx) nl nm np nc lc no sd md ln = fairS X (st, 1, 3, nx) nl nm np nc lc no sd md ln := rfl
theorem lineS_4 : lineS X (st, 1, 4, nx) nl nm np nc lc no sd md ln = feeS X (st, 1, 4, nx) nl nm np nc lc no sd md ln := rfl
theorem lineS_5 : lineS X (st, 1, 5, nx) nl nm np nc lc no sd md ln = tiedS X (st, 1, 5, nx) nl nm np nc lc no sd md ln := rfl
theorem lineS_6 : lineS X (st, 1, 6, nx) nl nm np nc lc no sd md ln = indexS X (st, 1, 6, nx) nl nm np nc lc no sd md ln := rfl
theorem lineS_7 : lineS X (st, 1, 7, nx) nl nm np nc lc no sd md ln = optionS X (st, 1, 7, nx) nl nm np nc lc no sd md ln := rfl
theorem lineS_8 : lineS X (st, 1, 8, nx) nl nm np nc lc no sd md ln = seedS X (st, 1, 8, nx) nl nm np nc lc no sd md ln := rfl
end LT
section TT
variable {X : Nat → Tk} {f : Nat} {S S1 S2 : SS} {e : Nat × Nat}
theorem textS_end (h : S.1.2.1 = 0) : textS X f S = .inr S := by
  cases f with
  | zero => rfl
  | succ f => show (if S.1.2.1 = 0 then _ else _) = _; exact if_pos h
theorem textS_f (h0 : S.1.2.1 ≠ 0) (h : lineT X S = .inl e) : textS X (f + 1) S = .inl e := by
  show (if S.1.2.1 = 0 then _ else _) = _
  rw [if_neg h0, h]; rfl
theorem textS_s (h0 : S.1.2.1 ≠ 0) (h : lineT X S = .inr S1) (h2 : stopT X S1 = .inl e) : textS X (f + 1) S = .inl e := by
  show (if S.1.2.1 = 0 then _ else _) = _
  rw [if_neg h0, h]
  show thenS (stopT X S1) _ = _
  rw [h2]; rfl
theorem textS_go (h0 : S.1.2.1 ≠ 0) (h : lineT X S = .inr S1) (h2 : stopT X S1 = .inr S2) : textS X (f + 1) S = textS X f S2 := by
  show (if S.1.2.1 = 0 then _ else _) = _
  rw [if_neg h0, h]
  show thenS (stopT X S1) _ = _
  rw [h2]; rfl
end TT
theorem CT.z {tk vl : Int32} {s v : Nat} (h : CT tk vl s v) : tk = 0 ↔ s = 0 := by
  rcases h with ⟨rfl, rfl⟩ | ⟨rfl, rfl, _⟩ | ⟨rfl, rfl, _⟩ | ⟨rfl, rfl, _⟩ | ⟨rfl, rfl⟩ | ⟨rfl, ⟨rfl, _⟩ | rfl⟩ <;> simp
theorem CS.mk {V : VX} {σ : Mem} {a tp td n bk : Nat} {k : Tk} {nl : Nat} {nm : Nat → Nat} {np nc lc no sd : Nat} {md : Nat → Nat → Bool} {ln : Nat} {tk vl : Int32} (h1 : CT tk vl k.2.1 k.2.2.1) (h2 : RD σ a tp td n bk k.2.2.2 k.1 tk vl np sd ln 0 (-1)) (h3 : BX σ bk nl nm nc lc no) (h4 : TD V σ td nl md) (h5 : k.2.2.2 ≤ n) (h6 : k.1 ≤ n) (h7 : np ≤ 12) (h8 : sd ≤ 1) : CS V σ a tp td n bk (k, nl, nm, np, nc, lc, no, sd, md, ln) := ⟨tk, vl, h1, h2, h3, h4, h5, h6, h7, h8⟩
theorem BX.zero {τ : Mem} {a : Nat} (e8 : fld τ a 8 = some (.int (nI 0))) (e9 : fld τ a 9 = some (.int (nI 0))) (e10 : fld τ a 10 = some (.int (nI 0))) : BX τ a 0 (fun _ => 0) 0 0 0 := ⟨e8, e9, e10, fun _ h => absurd h (Nat.not_lt_zero _), Or.inl ⟨rfl, rfl⟩, by decide, by decide, by decide⟩
theorem HK.c4 {V : VX} {G : GH} {E : PE} {ks : List Nat} {σ0 σ : Mem} (h : HK V G E ks σ0 σ) {a : Nat} (hk : kA E.1 a = 4) : ∃ f, σ a = some (aI V 4 f) := by
  have h1 := h.1 a
  rw [hk] at h1
  exact h1
theorem TD.zero {V : VX} {σ : Mem} {td : Nat} (h : ∃ f, σ td = some (aI V 4 f) ∧ ∀ i, i < 4 → f i = 0) : TD V σ td 0 (fun _ _ => false) := by
  obtain ⟨f, h1, h2⟩ := h
  exact ⟨f, h1, fun i hi => by rw [h2 i hi, if_neg (Nat.not_lt_zero _)]⟩
theorem nI_surj (x : Int32) : ∃ s : Nat, x = nI s := ⟨x.toBitVec.toNat, by
  apply Int32.toBitVec_inj.mp
  show x.toBitVec = BitVec.ofNat 32 x.toBitVec.toNat
  simp⟩
/-- what text answers, the fault it keeps and its place -/
def ansO (o : RO) : Int32 × Nat × Nat := match o with
  | .inl e => (-1, e.1, e.2)
  | .inr S => (nI S.2.2.2.2.2.2.2.2.2, 0, 4294967295)
set_option maxRecDepth 20000 in
theorem s_X7_readStopE (l : Launch) (V : VX) (G : GH) (b M Z T N : Nat) (σ : Mem) (a : Nat) (tp : Nat) (td : Nat) (n : Nat) (bk : Nat) (nx : Nat) (st : Nat) (tk : Int32) (vl : Int32) (py : Nat) (sd : Nat) (ln : Nat) (ft : Int32) (pl : Int32) (t : Nat → Nat) (s9 : Nat) (v9 : Nat) (nl : Nat) (nm : Nat → Nat) (nc : Nat) (lc : Nat) (no : Nat) (md : Nat → Nat → Bool) (h0 : HT V G (b, M, Z, T) σ) (hk : kA b a = 3) (hp0 : ft = 0) (hp1 : CT tk vl s9 v9) (hp2 : nx ≤ n) (hp3 : st ≤ n) (hp4 : pl = -1) (hp5 : BX σ bk nl nm nc lc no) (hp6 : TD V σ td nl md) (hp7 : py ≤ 12) (hR : RD σ a tp td n bk nx st tk vl py sd ln ft pl) (hB : BY V σ tp n t) (hn7 : n ≤ 700) (hsd : sd ≤ 1) (htp : kA b tp = 2) (htd : kA b td = 4) (hbk : kA b bk = 7) (hgb : ¬ G.gd (blk (bk - b)) = 1) (hM : M + 0 ≤ 1000000000) : Ct l V yX7_readStop cX7_readStop 1 none 2 0 0 N σ [.ref a] (fun r τ => HK V G (b, M, Z, T) [0, 1, 2, 4, 5, 6, 7, 8, 9, 10, 11, 12, 13, 14, 15, 16, 17, 18, 19] σ τ ∧ RES V τ a tp td n bk (stopS (tok t n) (st, s9, v9, nx) nl nm py nc lc no sd md ln) ∧ r = none) := by
  refine Ct.of (by decide) (Nat.le_of_ble_eq_true rfl) [(0, .ref a)] rfl (fun X hX F hQ => ?_)
  have h1 : HK V G (b, M, Z, T) [0, 1, 2, 4, 5, 6, 7, 8, 9, 10, 11, 12, 13, 14, 15, 16, 17, 18, 19] σ σ := HK.start h0
  have hrd7094 := hR
  obtain ⟨rd7094, rd7095, rd7096, rd7097, rd7098, rd7099, rd7100, rd7101, rd7102, rd7103, rd7104, rd7105, rd7106⟩ := hrd7094
  subst hp0
  subst hp4
  have hbb7107 := hp5
  obtain ⟨bb7107, bb7108, bb7109, bb7110, bb7111, bb7112, bb7113, bb7114⟩ := hbb7107
  have hl4 := hp5.2.2.2.2.2.1
  refine m_aload_n F rfl e_X7_readStop_0 ?_
  refine t_getC F e_X7_readStop_1 fl_X7_55 (fun _ => o3) h1 hk (rd7105) ?_
  refine m_if_eq F e_X7_readStop_4 (fun _ => ?_) (fun q => absurd (by decide) q)
  refine m_aload_n F rfl e_X7_readStop_8 ?_
  have hct := hp1
  rcases hct with ⟨rfl, rfl⟩ | ⟨rfl, rfl, c9, rfl, hc9, hk9, hv9⟩ | ⟨rfl, rfl, rfl, hv9, hk9⟩ | ⟨rfl, rfl, w9, hw9, rfl, hm9⟩ | ⟨rfl, rfl⟩ | ⟨rfl, ⟨rfl, rfl⟩ | rfl⟩
  · refine t_getC F e_X7_readStop_9 fl_X7_61 (fun _ => o3) h1 hk (rd7100) ?_
    refine m_iconst F (v := 3) (by decide) e_X7_readStop_12 ?_
    refine m_icmp_eq F e_X7_readStop_13 (fun q => absurd q (by decide)) (fun _ => ?_)
    refine m_aload_n F rfl e_X7_readStop_16 ?_
    refine m_iconst F (v := 1) (by decide) e_X7_readStop_17 ?_
    refine t_callV F e_X7_readStop_18 (s_X7_failE (x_l X) V G b M Z T _ _ a 1 tp td n bk nx st 0 vl py sd ln 0 (-1) t h1.1 hk rfl (by decide) ⟨rd7094, rd7095, rd7096, rd7097, rd7098, rd7099, rd7100, rd7101, rd7102, rd7103, rd7104, rd7105, rd7106⟩ (hB.keep (h1.2 tp (by rw [show kA _ tp = 2 from htp]; decide))) hn7 hsd htp htd hbk hgb (by omega)) cb_X7_fail ml_X7_77 im_X7_fail se_X7_fail (fun _ => o3) h1 hk rfl rfl (rest := []) rfl (Nat.le_of_ble_eq_true rfl) ⟨Nat.le_of_ble_eq_true rfl, Nat.le_of_ble_eq_true rfl⟩ ⟨Nat.le_of_ble_eq_true rfl, Nat.le_of_ble_eq_true rfl⟩ (fun r σ7115 hp => ?_)
    obtain ⟨h7116, ⟨rd7118, rd7119, rd7120, rd7121, rd7122, rd7123, rd7124, rd7125, rd7126, rd7127, rd7128, rd7129, rd7130⟩, rfl⟩ := hp
    have h7117 := HK.trans h1 h7116 (by decide)
    have bx7131 := hp5.hk hbk h7116 (by decide) (by decide) (by decide)
    have tq7132 := hp6.keep (h7116.2 td (by rw [show kA _ td = 4 from htd]; decide))
    exact m_vret F hQ e_X7_readStop_21 (⟨h7117, (by rw [stopS_1 (by decide)]; exact RES.l (rd7129) (rd7130) (by decide) (by decide) (by omega)), rfl⟩)
  · refine t_getC F e_X7_readStop_9 fl_X7_61 (fun _ => o3) h1 hk (rd7100) ?_
    refine m_iconst F (v := 3) (by decide) e_X7_readStop_12 ?_
    refine m_icmp_eq F e_X7_readStop_13 (fun q => absurd q (by decide)) (fun _ => ?_)
    refine m_aload_n F rfl e_X7_readStop_16 ?_
    refine m_iconst F (v := 1) (by decide) e_X7_readStop_17 ?_
    refine t_callV F e_X7_readStop_18 (s_X7_failE (x_l X) V G b M Z T _ _ a 1 tp td n bk nx st 1 (nI c9) py sd ln 0 (-1) t h1.1 hk rfl (by decide) ⟨rd7094, rd7095, rd7096, rd7097, rd7098, rd7099, rd7100, rd7101, rd7102, rd7103, rd7104, rd7105, rd7106⟩ (hB.keep (h1.2 tp (by rw [show kA _ tp = 2 from htp]; decide))) hn7 hsd htp htd hbk hgb (by omega)) cb_X7_fail ml_X7_77 im_X7_fail se_X7_fail (fun _ => o3) h1 hk rfl rfl (rest := []) rfl (Nat.le_of_ble_eq_true rfl) ⟨Nat.le_of_ble_eq_true rfl, Nat.le_of_ble_eq_true rfl⟩ ⟨Nat.le_of_ble_eq_true rfl, Nat.le_of_ble_eq_true rfl⟩ (fun r σ7133 hp => ?_)
    obtain ⟨h7134, ⟨rd7136, rd7137, rd7138, rd7139, rd7140, rd7141, rd7142, rd7143, rd7144, rd7145, rd7146, rd7147, rd7148⟩, rfl⟩ := hp
    have h7135 := HK.trans h1 h7134 (by decide)
    have bx7149 := hp5.hk hbk h7134 (by decide) (by decide) (by decide)
    have tq7150 := hp6.keep (h7134.2 td (by rw [show kA _ td = 4 from htd]; decide))
    exact m_vret F hQ e_X7_readStop_21 (⟨h7135, (by rw [stopS_1 (by decide)]; exact RES.l (rd7147) (rd7148) (by decide) (by decide) (by omega)), rfl⟩)
  · refine t_getC F e_X7_readStop_9 fl_X7_61 (fun _ => o3) h1 hk (rd7100) ?_
    refine m_iconst F (v := 3) (by decide) e_X7_readStop_12 ?_
    refine m_icmp_eq F e_X7_readStop_13 (fun q => absurd q (by decide)) (fun _ => ?_)
    refine m_aload_n F rfl e_X7_readStop_16 ?_
    refine m_iconst F (v := 1) (by decide) e_X7_readStop_17 ?_
    refine t_callV F e_X7_readStop_18 (s_X7_failE (x_l X) V G b M Z T _ _ a 1 tp td n bk nx st 1 (nI v9) py sd ln 0 (-1) t h1.1 hk rfl (by decide) ⟨rd7094, rd7095, rd7096, rd7097, rd7098, rd7099, rd7100, rd7101, rd7102, rd7103, rd7104, rd7105, rd7106⟩ (hB.keep (h1.2 tp (by rw [show kA _ tp = 2 from htp]; decide))) hn7 hsd htp htd hbk hgb (by omega)) cb_X7_fail ml_X7_77 im_X7_fail se_X7_fail (fun _ => o3) h1 hk rfl rfl (rest := []) rfl (Nat.le_of_ble_eq_true rfl) ⟨Nat.le_of_ble_eq_true rfl, Nat.le_of_ble_eq_true rfl⟩ ⟨Nat.le_of_ble_eq_true rfl, Nat.le_of_ble_eq_true rfl⟩ (fun r σ7151 hp => ?_)
    obtain ⟨h7152, ⟨rd7154, rd7155, rd7156, rd7157, rd7158, rd7159, rd7160, rd7161, rd7162, rd7163, rd7164, rd7165, rd7166⟩, rfl⟩ := hp
    have h7153 := HK.trans h1 h7152 (by decide)
    have bx7167 := hp5.hk hbk h7152 (by decide) (by decide) (by decide)
    have tq7168 := hp6.keep (h7152.2 td (by rw [show kA _ td = 4 from htd]; decide))
    exact m_vret F hQ e_X7_readStop_21 (⟨h7153, (by rw [stopS_1 (by decide)]; exact RES.l (rd7165) (rd7166) (by decide) (by decide) (by omega)), rfl⟩)
  · refine t_getC F e_X7_readStop_9 fl_X7_61 (fun _ => o3) h1 hk (rd7100) ?_
    refine m_iconst F (v := 3) (by decide) e_X7_readStop_12 ?_
    refine m_icmp_eq F e_X7_readStop_13 (fun q => absurd q (by decide)) (fun _ => ?_)
    refine m_aload_n F rfl e_X7_readStop_16 ?_
    refine m_iconst F (v := 1) (by decide) e_X7_readStop_17 ?_
    refine t_callV F e_X7_readStop_18 (s_X7_failE (x_l X) V G b M Z T _ _ a 1 tp td n bk nx st 2 (nI w9) py sd ln 0 (-1) t h1.1 hk rfl (by decide) ⟨rd7094, rd7095, rd7096, rd7097, rd7098, rd7099, rd7100, rd7101, rd7102, rd7103, rd7104, rd7105, rd7106⟩ (hB.keep (h1.2 tp (by rw [show kA _ tp = 2 from htp]; decide))) hn7 hsd htp htd hbk hgb (by omega)) cb_X7_fail ml_X7_77 im_X7_fail se_X7_fail (fun _ => o3) h1 hk rfl rfl (rest := []) rfl (Nat.le_of_ble_eq_true rfl) ⟨Nat.le_of_ble_eq_true rfl, Nat.le_of_ble_eq_true rfl⟩ ⟨Nat.le_of_ble_eq_true rfl, Nat.le_of_ble_eq_true rfl⟩ (fun r σ7169 hp => ?_)
    obtain ⟨h7170, ⟨rd7172, rd7173, rd7174, rd7175, rd7176, rd7177, rd7178, rd7179, rd7180, rd7181, rd7182, rd7183, rd7184⟩, rfl⟩ := hp
    have h7171 := HK.trans h1 h7170 (by decide)
    have bx7185 := hp5.hk hbk h7170 (by decide) (by decide) (by decide)
    have tq7186 := hp6.keep (h7170.2 td (by rw [show kA _ td = 4 from htd]; decide))
    exact m_vret F hQ e_X7_readStop_21 (⟨h7171, (by rw [stopS_1 (by decide)]; exact RES.l (rd7183) (rd7184) (by decide) (by decide) (by omega)), rfl⟩)
  · refine t_getC F e_X7_readStop_9 fl_X7_61 (fun _ => o3) h1 hk (rd7100) ?_
    refine m_iconst F (v := 3) (by decide) e_X7_readStop_12 ?_
    refine m_icmp_eq F e_X7_readStop_13 (fun _ => ?_) (fun q => absurd (by decide) q)
    refine m_aload_n F rfl e_X7_readStop_22 ?_
    refine m_dup F rfl e_X7_readStop_23 ?_
    refine t_getC F e_X7_readStop_24 fl_X7_52 (fun _ => o3) h1 hk (rd7104) ?_
    refine m_iconst F (v := 1) (by decide) e_X7_readStop_27 ?_
    refine m_iadd F e_X7_readStop_28 ?_
    refine Wm.topE (w := nI (ln + 1)) (nI_add ln 1) ?_
    refine t_putC F e_X7_readStop_29 fp_X7_52 (fun _ => o3) h1 hk rfl ⟨_, rfl⟩ rfl rfl (by decide) (fun σ7187 h7188 g7189 g7190 f7191 => ?_)
    have bx7192 := hp5.keep hbk (fld_eq (g7189 bk (kdn hbk hk (by decide)))) (fld_eq (g7189 bk (kdn hbk hk (by decide)))) (fld_eq (g7189 bk (kdn hbk hk (by decide)))) (g7189 (bk + 4) (kdn (kA_7 hbk (r := 4) (by decide) : kA b (bk + 4) = 11) hk (by decide))) (fun x hx => fld_eq (g7189 x (kdn hx hk (by decide))))
    have tq7193 := hp6.keep (g7189 td (kdn htd hk (by decide)))
    refine m_aload_n F rfl e_X7_readStop_32 ?_
    have hb8 := tok_ok (t := t) (n := n) nx (by omega)
    refine t_callV F e_X7_readStop_33 (s_X7_advanceE (x_l X) V G b M Z T _ _ a  tp td n bk nx st 3 vl py sd (ln + 1) 0 (-1) t h7188.1 hk (by omega) ⟨(g7190 0 (by decide)).trans rd7094, (g7190 1 (by decide)).trans rd7095, (g7190 2 (by decide)).trans rd7096, (g7190 3 (by decide)).trans rd7097, (g7190 4 (by decide)).trans rd7098, (g7190 5 (by decide)).trans rd7099, (g7190 6 (by decide)).trans rd7100, (g7190 7 (by decide)).trans rd7101, (g7190 8 (by decide)).trans rd7102, (g7190 9 (by decide)).trans rd7103, f7191, (g7190 11 (by decide)).trans rd7105, (g7190 12 (by decide)).trans rd7106⟩ (hB.keep (h7188.2 tp (by rw [show kA _ tp = 2 from htp]; decide))) hn7 hsd htp htd hbk hgb (by omega)) cb_X7_advance ml_X7_58 im_X7_advance se_X7_advance (fun _ => o3) h7188 hk rfl rfl (rest := []) rfl (Nat.le_of_ble_eq_true rfl) ⟨Nat.le_of_ble_eq_true rfl, Nat.le_of_ble_eq_true rfl⟩ ⟨Nat.le_of_ble_eq_true rfl, Nat.le_of_ble_eq_true rfl⟩ (fun r σ7194 hp => ?_)
    obtain ⟨h7195, ⟨tk7210, vl7211, ct7212, rd7197, rd7198, rd7199, rd7200, rd7201, rd7202, rd7203, rd7204, rd7205, rd7206, rd7207, rd7208, rd7209⟩, rfl⟩ := hp
    have h7196 := HK.trans h7188 h7195 (by decide)
    have bx7213 := bx7192.hk hbk h7195 (by decide) (by decide) (by decide)
    have tq7214 := tq7193.keep (h7195.2 td (by rw [show kA _ td = 4 from htd]; decide))
    exact m_vret F hQ e_X7_readStop_36 (⟨h7196, (by rw [stopS_ok]; exact RES.r ct7212 ⟨rd7197, rd7198, rd7199, rd7200, rd7201, rd7202, rd7203, rd7204, rd7205, rd7206, rd7207, rd7208, rd7209⟩ bx7213 tq7214 (by omega) (by omega) (by omega) (by omega)), rfl⟩)
  · refine t_getC F e_X7_readStop_9 fl_X7_61 (fun _ => o3) h1 hk (rd7100) ?_
    refine m_iconst F (v := 3) (by decide) e_X7_readStop_12 ?_
    refine m_icmp_eq F e_X7_readStop_13 (fun q => absurd q (by decide)) (fun _ => ?_)
    refine m_aload_n F rfl e_X7_readStop_16 ?_
    refine m_iconst F (v := 1) (by decide) e_X7_readStop_17 ?_
    refine t_callV F e_X7_readStop_18 (s_X7_failE (x_l X) V G b M Z T _ _ a 1 tp td n bk nx st 1 (-1) py sd ln 0 (-1) t h1.1 hk rfl (by decide) ⟨rd7094, rd7095, rd7096, rd7097, rd7098, rd7099, rd7100, rd7101, rd7102, rd7103, rd7104, rd7105, rd7106⟩ (hB.keep (h1.2 tp (by rw [show kA _ tp = 2 from htp]; decide))) hn7 hsd htp htd hbk hgb (by omega)) cb_X7_fail ml_X7_77 im_X7_fail se_X7_fail (fun _ => o3) h1 hk rfl rfl (rest := []) rfl (Nat.le_of_ble_eq_true rfl) ⟨Nat.le_of_ble_eq_true rfl, Nat.le_of_ble_eq_true rfl⟩ ⟨Nat.le_of_ble_eq_true rfl, Nat.le_of_ble_eq_true rfl⟩ (fun r σ7215 hp => ?_)
    obtain ⟨h7216, ⟨rd7218, rd7219, rd7220, rd7221, rd7222, rd7223, rd7224, rd7225, rd7226, rd7227, rd7228, rd7229, rd7230⟩, rfl⟩ := hp
    have h7217 := HK.trans h1 h7216 (by decide)
    have bx7231 := hp5.hk hbk h7216 (by decide) (by decide) (by decide)
    have tq7232 := hp6.keep (h7216.2 td (by rw [show kA _ td = 4 from htd]; decide))
    exact m_vret F hQ e_X7_readStop_21 (⟨h7217, (by rw [stopS_1 (by decide)]; exact RES.l (rd7229) (rd7230) (by decide) (by decide) (by omega)), rfl⟩)
  · refine t_getC F e_X7_readStop_9 fl_X7_61 (fun _ => o3) h1 hk (rd7100) ?_
    refine m_iconst F (v := 3) (by decide) e_X7_readStop_12 ?_
    refine m_icmp_eq F e_X7_readStop_13 (fun q => absurd q (by decide)) (fun _ => ?_)
    refine m_aload_n F rfl e_X7_readStop_16 ?_
    refine m_iconst F (v := 1) (by decide) e_X7_readStop_17 ?_
    refine t_callV F e_X7_readStop_18 (s_X7_failE (x_l X) V G b M Z T _ _ a 1 tp td n bk nx st 4 vl py sd ln 0 (-1) t h1.1 hk rfl (by decide) ⟨rd7094, rd7095, rd7096, rd7097, rd7098, rd7099, rd7100, rd7101, rd7102, rd7103, rd7104, rd7105, rd7106⟩ (hB.keep (h1.2 tp (by rw [show kA _ tp = 2 from htp]; decide))) hn7 hsd htp htd hbk hgb (by omega)) cb_X7_fail ml_X7_77 im_X7_fail se_X7_fail (fun _ => o3) h1 hk rfl rfl (rest := []) rfl (Nat.le_of_ble_eq_true rfl) ⟨Nat.le_of_ble_eq_true rfl, Nat.le_of_ble_eq_true rfl⟩ ⟨Nat.le_of_ble_eq_true rfl, Nat.le_of_ble_eq_true rfl⟩ (fun r σ7233 hp => ?_)
    obtain ⟨h7234, ⟨rd7236, rd7237, rd7238, rd7239, rd7240, rd7241, rd7242, rd7243, rd7244, rd7245, rd7246, rd7247, rd7248⟩, rfl⟩ := hp
    have h7235 := HK.trans h1 h7234 (by decide)
    have bx7249 := hp5.hk hbk h7234 (by decide) (by decide) (by decide)
    have tq7250 := hp6.keep (h7234.2 td (by rw [show kA _ td = 4 from htd]; decide))
    exact m_vret F hQ e_X7_readStop_21 (⟨h7235, (by rw [stopS_1 (by decide)]; exact RES.l (rd7247) (rd7248) (by decide) (by decide) (by omega)), rfl⟩)
set_option maxRecDepth 20000 in
theorem lp_X7_kindOfN_2 {V : VX} {G : GH} {X : MX} {b M Z T N : Nat} {σ : Mem} {a : Nat} {x901 : Int32}  (F : Fx V X yX7_kindOf cX7_kindOf 3 (some (.object "LeaseLedger$Kind")) (rmd 0 0 0)) (hQ : Rt V X 0 0 N (fun r τ => HK V G (b, M, Z, T) [0, 1, 2, 3, 4, 5, 6, 7, 8, 9, 10, 11, 12, 13, 14, 15, 16, 17, 18, 19] σ τ ∧ r = some .null)) (hk : kA b a = 3) (hp0 : x901 = -1) (hM : M + 0 ≤ 1000000000)  : ∀ (fuel : Nat) (i : Nat) (τ : Mem), HK V G (b, M, Z, T) [0, 1, 2, 3, 4, 5, 6, 7, 8, 9, 10, 11, 12, 13, 14, 15, 16, 17, 18, 19] σ τ → i ≤ 9 → 9 - i < fuel → Wm V X 3 N τ 0 0 2 [(2, .int (nI i)), (0, .ref a), (1, .int x901)] [] := by
  intro fuel
  induction fuel with
  | zero => intro i τ h1 hi hm; exact absurd hm (Nat.not_lt_zero _)
  | succ fuel ih =>
    intro i τ h1 hi hm
    refine m_iload_n F rfl e_X7_kindOf_2 ?_
    refine m_gsN F e_X7_kindOf_3 F.sw.2.2.2.1.1 (F.ku.2.1 (.fieldLinkNest RX7 200 RX9 "KINDS" "[LLeaseLedger$Kind;" RX9) (by simp [nestW])) ?_
    refine m_tlen F e_X7_kindOf_6 F.sw.2.2.2.1.2 (v := 9) (by decide) ?_
    refine m_icmp_ge F e_X7_kindOf_7 (fun q7 => ?_) (fun q7 => ?_)
    · have c7 : i ≥ 9 := (nI_leI (a := 9) (b := i) (by omega) (by omega)).mp q7
      refine m_null F e_X7_kindOf_34 ?_
      exact m_aret F hQ e_X7_kindOf_35 (Or.inl rfl) (⟨h1, rfl⟩)
    · have c7 : i < 9 := by have hh := mt (nI_leI (a := 9) (b := i) (by omega) (by omega)).mpr q7; omega
      refine m_gsN F e_X7_kindOf_10 F.sw.2.2.2.1.1 (F.ku.2.1 (.fieldLinkNest RX7 200 RX9 "KINDS" "[LLeaseLedger$Kind;" RX9) (by simp [nestW])) ?_
      refine m_iload_n F rfl e_X7_kindOf_13 ?_
      refine m_tq F e_X7_kindOf_14 F.sw.2.2.2.1.2 (i := nI i) (vp_in_nI (by omega) (by decide)) (v := .ref (adK V i)) (by show Value.ref (adK V (nI i).toNatClampNeg) = _; rw [nI_clamp (by omega)]) ?_
      refine m_gof F e_X7_kindOf_15 (F.sw.2.2.2.2.2.1 i (by omega)).2.1 kf_code ?_
      have hkb := kc_b (i := i) (by omega)
      refine Wm.topE (w := nI (kcN.getD i 0)) (kc_nI (by omega)) ?_
      refine m_iload_n F rfl e_X7_kindOf_18 ?_
      refine m_icmp_ne F e_X7_kindOf_19 (fun q19 => ?_) (fun q19 => ?_)
      · refine m_iinc F (v := nI (i + 1)) (lv' := [(2, .int (nI (i + 1))), (0, .ref a), (1, .int x901)]) e_X7_kindOf_28 rfl (nI_add i 1) (by decide) rfl ?_
        refine m_goto F e_X7_kindOf_31 ?_
        exact ih (i + 1) _ h1 (by omega) (by omega)
      · exact absurd (q19.trans hp0) (nI_nm1 (by omega))
set_option maxRecDepth 20000 in
theorem s_X7_kindOfN (l : Launch) (V : VX) (G : GH) (b M Z T N : Nat) (σ : Mem) (a : Nat) (x901 : Int32) (h0 : HT V G (b, M, Z, T) σ) (hk : kA b a = 3) (hp0 : x901 = -1) (hM : M + 0 ≤ 1000000000) : Ct l V yX7_kindOf cX7_kindOf 3 (some (.object "LeaseLedger$Kind")) 0 0 0 N σ [.ref a, .int x901] (fun r τ => HK V G (b, M, Z, T) [0, 1, 2, 3, 4, 5, 6, 7, 8, 9, 10, 11, 12, 13, 14, 15, 16, 17, 18, 19] σ τ ∧ r = some .null) := by
  refine Ct.of (by decide) (Nat.le_of_ble_eq_true rfl) [(0, .ref a), (1, .int x901)] rfl (fun X hX F hQ => ?_)
  have h1 : HK V G (b, M, Z, T) [0, 1, 2, 3, 4, 5, 6, 7, 8, 9, 10, 11, 12, 13, 14, 15, 16, 17, 18, 19] σ σ := HK.start h0
  refine m_iconst F (v := 0) (by decide) e_X7_kindOf_0 ?_
  refine m_istore_n F (lv' := [(2, .int 0), (0, .ref a), (1, .int x901)]) e_X7_kindOf_1 (by decide) rfl ?_
  exact lp_X7_kindOfN_2 F hQ hk hp0 hM (9 - 0 + 1) 0 _ h1 (by omega) (Nat.lt_succ_self _)
set_option maxRecDepth 20000 in
theorem s_X7_readLineE (l : Launch) (V : VX) (G : GH) (b M Z T N : Nat) (σ : Mem) (a : Nat) (tp : Nat) (td : Nat) (n : Nat) (bk : Nat) (nx : Nat) (st : Nat) (tk : Int32) (vl : Int32) (py : Nat) (sd : Nat) (ln : Nat) (ft : Int32) (pl : Int32) (t : Nat → Nat) (s9 : Nat) (v9 : Nat) (nl : Nat) (nm : Nat → Nat) (nc : Nat) (lc : Nat) (no : Nat) (md : Nat → Nat → Bool) (h0 : HT V G (b, M, Z, T) σ) (hk : kA b a = 3) (hp0 : ft = 0) (hp1 : CT tk vl s9 v9) (hp2 : nx ≤ n) (hp3 : st ≤ n) (hp4 : pl = -1) (hp5 : BX σ bk nl nm nc lc no) (hp6 : TD V σ td nl md) (hp7 : py ≤ 12) (hR : RD σ a tp td n bk nx st tk vl py sd ln ft pl) (hB : BY V σ tp n t) (hn7 : n ≤ 700) (hsd : sd ≤ 1) (htp : kA b tp = 2) (htd : kA b td = 4) (hbk : kA b bk = 7) (hgb : ¬ G.gd (blk (bk - b)) = 1) (hM : M + 0 ≤ 1000000000) : Ct l V yX7_readLine cX7_readLine 2 none 7 0 0 N σ [.ref a] (fun r τ => HK V G (b, M, Z, T) [0, 1, 2, 5, 8, 9, 12, 13, 14, 16] σ τ ∧ RES V τ a tp td n bk (lineS (tok t n) (st, s9, v9, nx) nl nm py nc lc no sd md ln) ∧ r = none) := by
  refine Ct.of (by decide) (Nat.le_of_ble_eq_true rfl) [(0, .ref a)] rfl (fun X hX F hQ => ?_)
  have h1 : HK V G (b, M, Z, T) [0, 1, 2, 5, 8, 9, 12, 13, 14, 16] σ σ := HK.start h0
  have hrd7251 := hR
  obtain ⟨rd7251, rd7252, rd7253, rd7254, rd7255, rd7256, rd7257, rd7258, rd7259, rd7260, rd7261, rd7262, rd7263⟩ := hrd7251
  subst hp0
  subst hp4
  have hbb7264 := hp5
  obtain ⟨bb7264, bb7265, bb7266, bb7267, bb7268, bb7269, bb7270, bb7271⟩ := hbb7264
  have hl4 := hp5.2.2.2.2.2.1
  refine m_aload_n F rfl e_X7_readLine_0 ?_
  have hct := hp1
  rcases hct with ⟨rfl, rfl⟩ | ⟨rfl, rfl, c9, rfl, hc9, hk9, hv9⟩ | ⟨rfl, rfl, rfl, hv9, hk9⟩ | ⟨rfl, rfl, w9, hw9, rfl, hm9⟩ | ⟨rfl, rfl⟩ | ⟨rfl, ⟨rfl, rfl⟩ | rfl⟩
  · refine t_getC F e_X7_readLine_1 fl_X7_61 (fun _ => o3) h1 hk (rd7257) ?_
    refine m_iconst F (v := 1) (by decide) e_X7_readLine_4 ?_
    refine m_icmp_ne F e_X7_readLine_5 (fun _ => ?_) (fun q => absurd q (by decide))
    refine m_null F e_X7_readLine_19 ?_
    refine m_astore_nN F (lv' := [(1, .null), (0, .ref a)]) e_X7_readLine_20 (by decide) rfl ?_
    refine m_aload_nN F rfl e_X7_readLine_21 ?_
    refine m_ifnonnullN F e_X7_readLine_22 ?_
    refine m_aload_n F rfl e_X7_readLine_25 ?_
    refine m_iconst F (v := 1) (by decide) e_X7_readLine_26 ?_
    refine t_callV F e_X7_readLine_27 (s_X7_failE (x_l X) V G b M Z T _ _ a 1 tp td n bk nx st 0 vl py sd ln 0 (-1) t h1.1 hk rfl (by decide) ⟨rd7251, rd7252, rd7253, rd7254, rd7255, rd7256, rd7257, rd7258, rd7259, rd7260, rd7261, rd7262, rd7263⟩ (hB.keep (h1.2 tp (by rw [show kA _ tp = 2 from htp]; decide))) hn7 hsd htp htd hbk hgb (by omega)) cb_X7_fail ml_X7_77 im_X7_fail se_X7_fail (fun _ => o3) h1 hk rfl rfl (rest := []) rfl (Nat.le_of_ble_eq_true rfl) ⟨Nat.le_of_ble_eq_true rfl, Nat.le_of_ble_eq_true rfl⟩ ⟨Nat.le_of_ble_eq_true rfl, Nat.le_of_ble_eq_true rfl⟩ (fun r σ7272 hp => ?_)
    obtain ⟨h7273, ⟨rd7275, rd7276, rd7277, rd7278, rd7279, rd7280, rd7281, rd7282, rd7283, rd7284, rd7285, rd7286, rd7287⟩, rfl⟩ := hp
    have h7274 := HK.trans h1 h7273 (by decide)
    have bx7288 := hp5.hk hbk h7273 (by decide) (by decide) (by decide)
    have tq7289 := hp6.keep (h7273.2 td (by rw [show kA _ td = 4 from htd]; decide))
    exact m_vret F hQ e_X7_readLine_30 (⟨h7274, (by rw [lineS_no (by decide)]; exact RES.l (rd7286) (rd7287) (by decide) (by decide) (by omega)), rfl⟩)
  · refine t_getC F e_X7_readLine_1 fl_X7_61 (fun _ => o3) h1 hk (rd7257) ?_
    refine m_iconst F (v := 1) (by decide) e_X7_readLine_4 ?_
    refine m_icmp_ne F e_X7_readLine_5 (fun q => absurd (by decide) q) (fun _ => ?_)
    refine m_aload_n F rfl e_X7_readLine_8 ?_
    refine m_aload_n F rfl e_X7_readLine_9 ?_
    refine t_getC F e_X7_readLine_10 fl_X7_70 (fun _ => o3) h1 hk (rd7258) ?_
    refine t_callV F e_X7_readLine_13 (s_X7_kindOfE (x_l X) V G b M Z T _ _ a c9 h1.1 hk (by omega) (by omega)) cb_X7_kindOf ml_X7_73 im_X7_kindOf se_X7_kindOf (fun _ => o3) h1 hk rfl rfl (rest := []) rfl (Nat.le_of_ble_eq_true rfl) ⟨Nat.le_of_ble_eq_true rfl, Nat.le_of_ble_eq_true rfl⟩ ⟨Nat.le_of_ble_eq_true rfl, Nat.le_of_ble_eq_true rfl⟩ (fun r σ7290 hp => ?_)
    obtain ⟨h7291, hp⟩ := hp
    rcases hp with ⟨hp, rfl⟩ | ⟨hp, rfl⟩
    rotate_left
    · omega
    have h7292 := HK.trans h1 h7291 (by decide)
    have bx7293 := hp5.hk hbk h7291 (by decide) (by decide) (by decide)
    have tq7294 := hp6.keep (h7291.2 td (by rw [show kA _ td = 4 from htd]; decide))
    refine m_goto F e_X7_readLine_16 ?_
    refine m_astore_n F (lv' := [(1, .ref (adK V (kix c9))), (0, .ref a)]) e_X7_readLine_20 (by decide) rfl ?_
    refine m_aload_n F rfl e_X7_readLine_21 ?_
    refine m_ifnonnullR F e_X7_readLine_22 ?_
    have hv8 : v9 = 0 ∨ v9 = 1 ∨ v9 = 2 ∨ v9 = 3 ∨ v9 = 4 ∨ v9 = 5 ∨ v9 = 6 ∨ v9 = 7 ∨ v9 = 8 := by omega
    rcases hv8 with rfl | rfl | rfl | rfl | rfl | rfl | rfl | rfl | rfl
    · refine m_gs F e_X7_readLine_31 F.sw.2.2.2.2.1.1 kf_map ?_
      refine m_aload_n F rfl e_X7_readLine_34 ?_
      refine m_ord F rfl e_X7_readLine_35 (i := kix c9) (by omega) (Nat.le_of_ble_eq_true rfl) ⟨Nat.le_of_ble_eq_true rfl, Nat.le_of_ble_eq_true rfl⟩ ?_
      refine m_ti F e_X7_readLine_38 F.sw.2.2.2.2.1.2 (i := nI (kix c9)) (vp_in_nI (by omega) (by decide)) (v := .int 1) (by rw [hk9]; decide) ?_
      refine m_tableIn F e_X7_readLine_39 (by decide) (by decide) (off := 45) (tgt := 84) (by decide) (by decide) ?_
      refine m_aload_n F rfl e_X7_readLine_84 ?_
      refine t_callV F e_X7_readLine_85 (s_X7_readLeaseE (x_l X) V G b M Z T _ _ a  tp td n bk nx st 1 (nI c9) py sd ln 0 (-1) t 1 0 nl nm nc lc no md h7292.1 hk rfl hp1 (by omega) (by omega) rfl bx7293 tq7294 (by omega) ⟨(fld_eq (h7291.2 a (by rw [show kA _ a = 3 from hk]; decide))).trans rd7251, (fld_eq (h7291.2 a (by rw [show kA _ a = 3 from hk]; decide))).trans rd7252, (fld_eq (h7291.2 a (by rw [show kA _ a = 3 from hk]; decide))).trans rd7253, (fld_eq (h7291.2 a (by rw [show kA _ a = 3 from hk]; decide))).trans rd7254, (fld_eq (h7291.2 a (by rw [show kA _ a = 3 from hk]; decide))).trans rd7255, (fld_eq (h7291.2 a (by rw [show kA _ a = 3 from hk]; decide))).trans rd7256, (fld_eq (h7291.2 a (by rw [show kA _ a = 3 from hk]; decide))).trans rd7257, (fld_eq (h7291.2 a (by rw [show kA _ a = 3 from hk]; decide))).trans rd7258, (fld_eq (h7291.2 a (by rw [show kA _ a = 3 from hk]; decide))).trans rd7259, (fld_eq (h7291.2 a (by rw [show kA _ a = 3 from hk]; decide))).trans rd7260, (fld_eq (h7291.2 a (by rw [show kA _ a = 3 from hk]; decide))).trans rd7261, (fld_eq (h7291.2 a (by rw [show kA _ a = 3 from hk]; decide))).trans rd7262, (fld_eq (h7291.2 a (by rw [show kA _ a = 3 from hk]; decide))).trans rd7263⟩ (hB.keep (h7292.2 tp (by rw [show kA _ tp = 2 from htp]; decide))) hn7 hsd htp htd hbk hgb (by omega)) cb_X7_readLease ml_X7_92 im_X7_readLease se_X7_readLease (fun _ => o3) h7292 hk rfl rfl (rest := []) rfl (Nat.le_of_ble_eq_true rfl) ⟨Nat.le_of_ble_eq_true rfl, Nat.le_of_ble_eq_true rfl⟩ ⟨Nat.le_of_ble_eq_true rfl, Nat.le_of_ble_eq_true rfl⟩ (fun r σ7295 hp => ?_)
      obtain ⟨h7296, hp⟩ := hp
      have h7297 := HK.trans h7292 h7296 (by decide)
      have tq7298 := tq7294.keep (h7296.2 td (by rw [show kA _ td = 4 from htd]; decide))
      obtain ⟨rs7299, rfl⟩ := hp
      refine m_goto F e_X7_readLine_88 ?_
      exact m_vret F hQ e_X7_readLine_144 (⟨h7297, (by rw [lineS_0]; exact rs7299), rfl⟩)
    · refine m_gs F e_X7_readLine_31 F.sw.2.2.2.2.1.1 kf_map ?_
      refine m_aload_n F rfl e_X7_readLine_34 ?_
      refine m_ord F rfl e_X7_readLine_35 (i := kix c9) (by omega) (Nat.le_of_ble_eq_true rfl) ⟨Nat.le_of_ble_eq_true rfl, Nat.le_of_ble_eq_true rfl⟩ ?_
      refine m_ti F e_X7_readLine_38 F.sw.2.2.2.2.1.2 (i := nI (kix c9)) (vp_in_nI (by omega) (by decide)) (v := .int 2) (by rw [hk9]; decide) ?_
      refine m_tableIn F e_X7_readLine_39 (by decide) (by decide) (off := 52) (tgt := 91) (by decide) (by decide) ?_
      refine m_aload_n F rfl e_X7_readLine_91 ?_
      refine t_callV F e_X7_readLine_92 (s_X7_readPayE (x_l X) V G b M Z T _ _ a  tp td n bk nx st 1 (nI c9) py sd ln 0 (-1) t 1 1 nl nm nc lc no md h7292.1 hk rfl hp1 (by omega) (by omega) rfl bx7293 tq7294 (by omega) ⟨(fld_eq (h7291.2 a (by rw [show kA _ a = 3 from hk]; decide))).trans rd7251, (fld_eq (h7291.2 a (by rw [show kA _ a = 3 from hk]; decide))).trans rd7252, (fld_eq (h7291.2 a (by rw [show kA _ a = 3 from hk]; decide))).trans rd7253, (fld_eq (h7291.2 a (by rw [show kA _ a = 3 from hk]; decide))).trans rd7254, (fld_eq (h7291.2 a (by rw [show kA _ a = 3 from hk]; decide))).trans rd7255, (fld_eq (h7291.2 a (by rw [show kA _ a = 3 from hk]; decide))).trans rd7256, (fld_eq (h7291.2 a (by rw [show kA _ a = 3 from hk]; decide))).trans rd7257, (fld_eq (h7291.2 a (by rw [show kA _ a = 3 from hk]; decide))).trans rd7258, (fld_eq (h7291.2 a (by rw [show kA _ a = 3 from hk]; decide))).trans rd7259, (fld_eq (h7291.2 a (by rw [show kA _ a = 3 from hk]; decide))).trans rd7260, (fld_eq (h7291.2 a (by rw [show kA _ a = 3 from hk]; decide))).trans rd7261, (fld_eq (h7291.2 a (by rw [show kA _ a = 3 from hk]; decide))).trans rd7262, (fld_eq (h7291.2 a (by rw [show kA _ a = 3 from hk]; decide))).trans rd7263⟩ (hB.keep (h7292.2 tp (by rw [show kA _ tp = 2 from htp]; decide))) hn7 hsd htp htd hbk hgb (by omega)) cb_X7_readPay ml_X7_95 im_X7_readPay se_X7_readPay (fun _ => o3) h7292 hk rfl rfl (rest := []) rfl (Nat.le_of_ble_eq_true rfl) ⟨Nat.le_of_ble_eq_true rfl, Nat.le_of_ble_eq_true rfl⟩ ⟨Nat.le_of_ble_eq_true rfl, Nat.le_of_ble_eq_true rfl⟩ (fun r σ7300 hp => ?_)
      obtain ⟨h7301, hp⟩ := hp
      have h7302 := HK.trans h7292 h7301 (by decide)
      have bx7303 := bx7293.hk hbk h7301 (by decide) (by decide) (by decide)
      have tq7304 := tq7294.keep (h7301.2 td (by rw [show kA _ td = 4 from htd]; decide))
      obtain ⟨rs7305, rfl⟩ := hp
      refine m_goto F e_X7_readLine_95 ?_
      exact m_vret F hQ e_X7_readLine_144 (⟨h7302, (by rw [lineS_1]; exact rs7305), rfl⟩)
    · refine m_gs F e_X7_readLine_31 F.sw.2.2.2.2.1.1 kf_map ?_
      refine m_aload_n F rfl e_X7_readLine_34 ?_
      refine m_ord F rfl e_X7_readLine_35 (i := kix c9) (by omega) (Nat.le_of_ble_eq_true rfl) ⟨Nat.le_of_ble_eq_true rfl, Nat.le_of_ble_eq_true rfl⟩ ?_
      refine m_ti F e_X7_readLine_38 F.sw.2.2.2.2.1.2 (i := nI (kix c9)) (vp_in_nI (by omega) (by decide)) (v := .int 3) (by rw [hk9]; decide) ?_
      refine m_tableIn F e_X7_readLine_39 (by decide) (by decide) (off := 59) (tgt := 98) (by decide) (by decide) ?_
      refine m_aload_n F rfl e_X7_readLine_98 ?_
      refine t_callV F e_X7_readLine_99 (s_X7_readEarlyE (x_l X) V G b M Z T _ _ a  tp td n bk nx st 1 (nI c9) py sd ln 0 (-1) t 1 2 nl nm nc lc no md h7292.1 hk rfl hp1 (by omega) (by omega) rfl bx7293 tq7294 (by omega) ⟨(fld_eq (h7291.2 a (by rw [show kA _ a = 3 from hk]; decide))).trans rd7251, (fld_eq (h7291.2 a (by rw [show kA _ a = 3 from hk]; decide))).trans rd7252, (fld_eq (h7291.2 a (by rw [show kA _ a = 3 from hk]; decide))).trans rd7253, (fld_eq (h7291.2 a (by rw [show kA _ a = 3 from hk]; decide))).trans rd7254, (fld_eq (h7291.2 a (by rw [show kA _ a = 3 from hk]; decide))).trans rd7255, (fld_eq (h7291.2 a (by rw [show kA _ a = 3 from hk]; decide))).trans rd7256, (fld_eq (h7291.2 a (by rw [show kA _ a = 3 from hk]; decide))).trans rd7257, (fld_eq (h7291.2 a (by rw [show kA _ a = 3 from hk]; decide))).trans rd7258, (fld_eq (h7291.2 a (by rw [show kA _ a = 3 from hk]; decide))).trans rd7259, (fld_eq (h7291.2 a (by rw [show kA _ a = 3 from hk]; decide))).trans rd7260, (fld_eq (h7291.2 a (by rw [show kA _ a = 3 from hk]; decide))).trans rd7261, (fld_eq (h7291.2 a (by rw [show kA _ a = 3 from hk]; decide))).trans rd7262, (fld_eq (h7291.2 a (by rw [show kA _ a = 3 from hk]; decide))).trans rd7263⟩ (hB.keep (h7292.2 tp (by rw [show kA _ tp = 2 from htp]; decide))) hn7 hsd htp htd hbk hgb (by omega)) cb_X7_readEarly ml_X7_98 im_X7_readEarly se_X7_readEarly (fun _ => o3) h7292 hk rfl rfl (rest := []) rfl (Nat.le_of_ble_eq_true rfl) ⟨Nat.le_of_ble_eq_true rfl, Nat.le_of_ble_eq_true rfl⟩ ⟨Nat.le_of_ble_eq_true rfl, Nat.le_of_ble_eq_true rfl⟩ (fun r σ7306 hp => ?_)
      obtain ⟨h7307, hp⟩ := hp
      have h7308 := HK.trans h7292 h7307 (by decide)
      obtain ⟨rs7309, rfl⟩ := hp
      refine m_goto F e_X7_readLine_102 ?_
      exact m_vret F hQ e_X7_readLine_144 (⟨h7308, (by rw [lineS_2]; exact rs7309), rfl⟩)
    · refine m_gs F e_X7_readLine_31 F.sw.2.2.2.2.1.1 kf_map ?_
      refine m_aload_n F rfl e_X7_readLine_34 ?_
      refine m_ord F rfl e_X7_readLine_35 (i := kix c9) (by omega) (Nat.le_of_ble_eq_true rfl) ⟨Nat.le_of_ble_eq_true rfl, Nat.le_of_ble_eq_true rfl⟩ ?_
      refine m_ti F e_X7_readLine_38 F.sw.2.2.2.2.1.2 (i := nI (kix c9)) (vp_in_nI (by omega) (by decide)) (v := .int 4) (by rw [hk9]; decide) ?_
      refine m_tableIn F e_X7_readLine_39 (by decide) (by decide) (off := 66) (tgt := 105) (by decide) (by decide) ?_
      refine m_aload_n F rfl e_X7_readLine_105 ?_
      refine t_callV F e_X7_readLine_106 (s_X7_readFairE (x_l X) V G b M Z T _ _ a  tp td n bk nx st 1 (nI c9) py sd ln 0 (-1) t 1 3 nl nm nc lc no md h7292.1 hk rfl hp1 (by omega) (by omega) rfl bx7293 tq7294 (by omega) ⟨(fld_eq (h7291.2 a (by rw [show kA _ a = 3 from hk]; decide))).trans rd7251, (fld_eq (h7291.2 a (by rw [show kA _ a = 3 from hk]; decide))).trans rd7252, (fld_eq (h7291.2 a (by rw [show kA _ a = 3 from hk]; decide))).trans rd7253, (fld_eq (h7291.2 a (by rw [show kA _ a = 3 from hk]; decide))).trans rd7254, (fld_eq (h7291.2 a (by rw [show kA _ a = 3 from hk]; decide))).trans rd7255, (fld_eq (h7291.2 a (by rw [show kA _ a = 3 from hk]; decide))).trans rd7256, (fld_eq (h7291.2 a (by rw [show kA _ a = 3 from hk]; decide))).trans rd7257, (fld_eq (h7291.2 a (by rw [show kA _ a = 3 from hk]; decide))).trans rd7258, (fld_eq (h7291.2 a (by rw [show kA _ a = 3 from hk]; decide))).trans rd7259, (fld_eq (h7291.2 a (by rw [show kA _ a = 3 from hk]; decide))).trans rd7260, (fld_eq (h7291.2 a (by rw [show kA _ a = 3 from hk]; decide))).trans rd7261, (fld_eq (h7291.2 a (by rw [show kA _ a = 3 from hk]; decide))).trans rd7262, (fld_eq (h7291.2 a (by rw [show kA _ a = 3 from hk]; decide))).trans rd7263⟩ (hB.keep (h7292.2 tp (by rw [show kA _ tp = 2 from htp]; decide))) hn7 hsd htp htd hbk hgb (by omega)) cb_X7_readFair ml_X7_101 im_X7_readFair se_X7_readFair (fun _ => o3) h7292 hk rfl rfl (rest := []) rfl (Nat.le_of_ble_eq_true rfl) ⟨Nat.le_of_ble_eq_true rfl, Nat.le_of_ble_eq_true rfl⟩ ⟨Nat.le_of_ble_eq_true rfl, Nat.le_of_ble_eq_true rfl⟩ (fun r σ7310 hp => ?_)
      obtain ⟨h7311, hp⟩ := hp
      have h7312 := HK.trans h7292 h7311 (by decide)
      obtain ⟨rs7313, rfl⟩ := hp
      refine m_goto F e_X7_readLine_109 ?_
      exact m_vret F hQ e_X7_readLine_144 (⟨h7312, (by rw [lineS_3]; exact rs7313), rfl⟩)
    · refine m_gs F e_X7_readLine_31 F.sw.2.2.2.2.1.1 kf_map ?_
      refine m_aload_n F rfl e_X7_readLine_34 ?_
      refine m_ord F rfl e_X7_readLine_35 (i := kix c9) (by omega) (Nat.le_of_ble_eq_true rfl) ⟨Nat.le_of_ble_eq_true rfl, Nat.le_of_ble_eq_true rfl⟩ ?_
      refine m_ti F e_X7_readLine_38 F.sw.2.2.2.2.1.2 (i := nI (kix c9)) (vp_in_nI (by omega) (by decide)) (v := .int 5) (by rw [hk9]; decide) ?_
      refine m_tableIn F e_X7_readLine_39 (by decide) (by decide) (off := 73) (tgt := 112) (by decide) (by decide) ?_
      refine m_aload_n F rfl e_X7_readLine_112 ?_
      refine t_callV F e_X7_readLine_113 (s_X7_readFeeE (x_l X) V G b M Z T _ _ a  tp td n bk nx st 1 (nI c9) py sd ln 0 (-1) t 1 4 nl nm nc lc no md h7292.1 hk rfl hp1 (by omega) (by omega) rfl bx7293 tq7294 (by omega) ⟨(fld_eq (h7291.2 a (by rw [show kA _ a = 3 from hk]; decide))).trans rd7251, (fld_eq (h7291.2 a (by rw [show kA _ a = 3 from hk]; decide))).trans rd7252, (fld_eq (h7291.2 a (by rw [show kA _ a = 3 from hk]; decide))).trans rd7253, (fld_eq (h7291.2 a (by rw [show kA _ a = 3 from hk]; decide))).trans rd7254, (fld_eq (h7291.2 a (by rw [show kA _ a = 3 from hk]; decide))).trans rd7255, (fld_eq (h7291.2 a (by rw [show kA _ a = 3 from hk]; decide))).trans rd7256, (fld_eq (h7291.2 a (by rw [show kA _ a = 3 from hk]; decide))).trans rd7257, (fld_eq (h7291.2 a (by rw [show kA _ a = 3 from hk]; decide))).trans rd7258, (fld_eq (h7291.2 a (by rw [show kA _ a = 3 from hk]; decide))).trans rd7259, (fld_eq (h7291.2 a (by rw [show kA _ a = 3 from hk]; decide))).trans rd7260, (fld_eq (h7291.2 a (by rw [show kA _ a = 3 from hk]; decide))).trans rd7261, (fld_eq (h7291.2 a (by rw [show kA _ a = 3 from hk]; decide))).trans rd7262, (fld_eq (h7291.2 a (by rw [show kA _ a = 3 from hk]; decide))).trans rd7263⟩ (hB.keep (h7292.2 tp (by rw [show kA _ tp = 2 from htp]; decide))) hn7 hsd htp htd hbk hgb (by omega)) cb_X7_readFee ml_X7_104 im_X7_readFee se_X7_readFee (fun _ => o3) h7292 hk rfl rfl (rest := []) rfl (Nat.le_of_ble_eq_true rfl) ⟨Nat.le_of_ble_eq_true rfl, Nat.le_of_ble_eq_true rfl⟩ ⟨Nat.le_of_ble_eq_true rfl, Nat.le_of_ble_eq_true rfl⟩ (fun r σ7314 hp => ?_)
      obtain ⟨h7315, hp⟩ := hp
      have h7316 := HK.trans h7292 h7315 (by decide)
      obtain ⟨rs7317, rfl⟩ := hp
      refine m_goto F e_X7_readLine_116 ?_
      exact m_vret F hQ e_X7_readLine_144 (⟨h7316, (by rw [lineS_4]; exact rs7317), rfl⟩)
    · refine m_gs F e_X7_readLine_31 F.sw.2.2.2.2.1.1 kf_map ?_
      refine m_aload_n F rfl e_X7_readLine_34 ?_
      refine m_ord F rfl e_X7_readLine_35 (i := kix c9) (by omega) (Nat.le_of_ble_eq_true rfl) ⟨Nat.le_of_ble_eq_true rfl, Nat.le_of_ble_eq_true rfl⟩ ?_
      refine m_ti F e_X7_readLine_38 F.sw.2.2.2.2.1.2 (i := nI (kix c9)) (vp_in_nI (by omega) (by decide)) (v := .int 6) (by rw [hk9]; decide) ?_
      refine m_tableIn F e_X7_readLine_39 (by decide) (by decide) (off := 80) (tgt := 119) (by decide) (by decide) ?_
      refine m_aload_n F rfl e_X7_readLine_119 ?_
      refine t_callV F e_X7_readLine_120 (s_X7_readTiedE (x_l X) V G b M Z T _ _ a  tp td n bk nx st 1 (nI c9) py sd ln 0 (-1) t 1 5 nl nm nc lc no md h7292.1 hk rfl hp1 (by omega) (by omega) rfl bx7293 tq7294 (by omega) ⟨(fld_eq (h7291.2 a (by rw [show kA _ a = 3 from hk]; decide))).trans rd7251, (fld_eq (h7291.2 a (by rw [show kA _ a = 3 from hk]; decide))).trans rd7252, (fld_eq (h7291.2 a (by rw [show kA _ a = 3 from hk]; decide))).trans rd7253, (fld_eq (h7291.2 a (by rw [show kA _ a = 3 from hk]; decide))).trans rd7254, (fld_eq (h7291.2 a (by rw [show kA _ a = 3 from hk]; decide))).trans rd7255, (fld_eq (h7291.2 a (by rw [show kA _ a = 3 from hk]; decide))).trans rd7256, (fld_eq (h7291.2 a (by rw [show kA _ a = 3 from hk]; decide))).trans rd7257, (fld_eq (h7291.2 a (by rw [show kA _ a = 3 from hk]; decide))).trans rd7258, (fld_eq (h7291.2 a (by rw [show kA _ a = 3 from hk]; decide))).trans rd7259, (fld_eq (h7291.2 a (by rw [show kA _ a = 3 from hk]; decide))).trans rd7260, (fld_eq (h7291.2 a (by rw [show kA _ a = 3 from hk]; decide))).trans rd7261, (fld_eq (h7291.2 a (by rw [show kA _ a = 3 from hk]; decide))).trans rd7262, (fld_eq (h7291.2 a (by rw [show kA _ a = 3 from hk]; decide))).trans rd7263⟩ (hB.keep (h7292.2 tp (by rw [show kA _ tp = 2 from htp]; decide))) hn7 hsd htp htd hbk hgb (by omega)) cb_X7_readTied ml_X7_107 im_X7_readTied se_X7_readTied (fun _ => o3) h7292 hk rfl rfl (rest := []) rfl (Nat.le_of_ble_eq_true rfl) ⟨Nat.le_of_ble_eq_true rfl, Nat.le_of_ble_eq_true rfl⟩ ⟨Nat.le_of_ble_eq_true rfl, Nat.le_of_ble_eq_true rfl⟩ (fun r σ7318 hp => ?_)
      obtain ⟨h7319, hp⟩ := hp
      have h7320 := HK.trans h7292 h7319 (by decide)
      obtain ⟨rs7321, rfl⟩ := hp
      refine m_goto F e_X7_readLine_123 ?_
      exact m_vret F hQ e_X7_readLine_144 (⟨h7320, (by rw [lineS_5]; exact rs7321), rfl⟩)
    · refine m_gs F e_X7_readLine_31 F.sw.2.2.2.2.1.1 kf_map ?_
      refine m_aload_n F rfl e_X7_readLine_34 ?_
      refine m_ord F rfl e_X7_readLine_35 (i := kix c9) (by omega) (Nat.le_of_ble_eq_true rfl) ⟨Nat.le_of_ble_eq_true rfl, Nat.le_of_ble_eq_true rfl⟩ ?_
      refine m_ti F e_X7_readLine_38 F.sw.2.2.2.2.1.2 (i := nI (kix c9)) (vp_in_nI (by omega) (by decide)) (v := .int 7) (by rw [hk9]; decide) ?_
      refine m_tableIn F e_X7_readLine_39 (by decide) (by decide) (off := 87) (tgt := 126) (by decide) (by decide) ?_
      refine m_aload_n F rfl e_X7_readLine_126 ?_
      refine t_callV F e_X7_readLine_127 (s_X7_readIndexE (x_l X) V G b M Z T _ _ a  tp td n bk nx st 1 (nI c9) py sd ln 0 (-1) t 1 6 nl nm nc lc no md h7292.1 hk rfl hp1 (by omega) (by omega) rfl bx7293 tq7294 (by omega) ⟨(fld_eq (h7291.2 a (by rw [show kA _ a = 3 from hk]; decide))).trans rd7251, (fld_eq (h7291.2 a (by rw [show kA _ a = 3 from hk]; decide))).trans rd7252, (fld_eq (h7291.2 a (by rw [show kA _ a = 3 from hk]; decide))).trans rd7253, (fld_eq (h7291.2 a (by rw [show kA _ a = 3 from hk]; decide))).trans rd7254, (fld_eq (h7291.2 a (by rw [show kA _ a = 3 from hk]; decide))).trans rd7255, (fld_eq (h7291.2 a (by rw [show kA _ a = 3 from hk]; decide))).trans rd7256, (fld_eq (h7291.2 a (by rw [show kA _ a = 3 from hk]; decide))).trans rd7257, (fld_eq (h7291.2 a (by rw [show kA _ a = 3 from hk]; decide))).trans rd7258, (fld_eq (h7291.2 a (by rw [show kA _ a = 3 from hk]; decide))).trans rd7259, (fld_eq (h7291.2 a (by rw [show kA _ a = 3 from hk]; decide))).trans rd7260, (fld_eq (h7291.2 a (by rw [show kA _ a = 3 from hk]; decide))).trans rd7261, (fld_eq (h7291.2 a (by rw [show kA _ a = 3 from hk]; decide))).trans rd7262, (fld_eq (h7291.2 a (by rw [show kA _ a = 3 from hk]; decide))).trans rd7263⟩ (hB.keep (h7292.2 tp (by rw [show kA _ tp = 2 from htp]; decide))) hn7 hsd htp htd hbk hgb (by omega)) cb_X7_readIndex ml_X7_110 im_X7_readIndex se_X7_readIndex (fun _ => o3) h7292 hk rfl rfl (rest := []) rfl (Nat.le_of_ble_eq_true rfl) ⟨Nat.le_of_ble_eq_true rfl, Nat.le_of_ble_eq_true rfl⟩ ⟨Nat.le_of_ble_eq_true rfl, Nat.le_of_ble_eq_true rfl⟩ (fun r σ7322 hp => ?_)
      obtain ⟨h7323, hp⟩ := hp
      have h7324 := HK.trans h7292 h7323 (by decide)
      have tq7325 := tq7294.keep (h7323.2 td (by rw [show kA _ td = 4 from htd]; decide))
      obtain ⟨rs7326, rfl⟩ := hp
      refine m_goto F e_X7_readLine_130 ?_
      exact m_vret F hQ e_X7_readLine_144 (⟨h7324, (by rw [lineS_6]; exact rs7326), rfl⟩)
    · refine m_gs F e_X7_readLine_31 F.sw.2.2.2.2.1.1 kf_map ?_
      refine m_aload_n F rfl e_X7_readLine_34 ?_
      refine m_ord F rfl e_X7_readLine_35 (i := kix c9) (by omega) (Nat.le_of_ble_eq_true rfl) ⟨Nat.le_of_ble_eq_true rfl, Nat.le_of_ble_eq_true rfl⟩ ?_
      refine m_ti F e_X7_readLine_38 F.sw.2.2.2.2.1.2 (i := nI (kix c9)) (vp_in_nI (by omega) (by decide)) (v := .int 8) (by rw [hk9]; decide) ?_
      refine m_tableIn F e_X7_readLine_39 (by decide) (by decide) (off := 94) (tgt := 133) (by decide) (by decide) ?_
      refine m_aload_n F rfl e_X7_readLine_133 ?_
      refine t_callV F e_X7_readLine_134 (s_X7_readOptionE (x_l X) V G b M Z T _ _ a  tp td n bk nx st 1 (nI c9) py sd ln 0 (-1) t 1 7 nl nm nc lc no md h7292.1 hk rfl hp1 (by omega) (by omega) rfl bx7293 tq7294 (by omega) ⟨(fld_eq (h7291.2 a (by rw [show kA _ a = 3 from hk]; decide))).trans rd7251, (fld_eq (h7291.2 a (by rw [show kA _ a = 3 from hk]; decide))).trans rd7252, (fld_eq (h7291.2 a (by rw [show kA _ a = 3 from hk]; decide))).trans rd7253, (fld_eq (h7291.2 a (by rw [show kA _ a = 3 from hk]; decide))).trans rd7254, (fld_eq (h7291.2 a (by rw [show kA _ a = 3 from hk]; decide))).trans rd7255, (fld_eq (h7291.2 a (by rw [show kA _ a = 3 from hk]; decide))).trans rd7256, (fld_eq (h7291.2 a (by rw [show kA _ a = 3 from hk]; decide))).trans rd7257, (fld_eq (h7291.2 a (by rw [show kA _ a = 3 from hk]; decide))).trans rd7258, (fld_eq (h7291.2 a (by rw [show kA _ a = 3 from hk]; decide))).trans rd7259, (fld_eq (h7291.2 a (by rw [show kA _ a = 3 from hk]; decide))).trans rd7260, (fld_eq (h7291.2 a (by rw [show kA _ a = 3 from hk]; decide))).trans rd7261, (fld_eq (h7291.2 a (by rw [show kA _ a = 3 from hk]; decide))).trans rd7262, (fld_eq (h7291.2 a (by rw [show kA _ a = 3 from hk]; decide))).trans rd7263⟩ (hB.keep (h7292.2 tp (by rw [show kA _ tp = 2 from htp]; decide))) hn7 hsd htp htd hbk hgb (by omega)) cb_X7_readOption ml_X7_113 im_X7_readOption se_X7_readOption (fun _ => o3) h7292 hk rfl rfl (rest := []) rfl (Nat.le_of_ble_eq_true rfl) ⟨Nat.le_of_ble_eq_true rfl, Nat.le_of_ble_eq_true rfl⟩ ⟨Nat.le_of_ble_eq_true rfl, Nat.le_of_ble_eq_true rfl⟩ (fun r σ7327 hp => ?_)
      obtain ⟨h7328, hp⟩ := hp
      have h7329 := HK.trans h7292 h7328 (by decide)
      have tq7330 := tq7294.keep (h7328.2 td (by rw [show kA _ td = 4 from htd]; decide))
      obtain ⟨rs7331, rfl⟩ := hp
      refine m_goto F e_X7_readLine_137 ?_
      exact m_vret F hQ e_X7_readLine_144 (⟨h7329, (by rw [lineS_7]; exact rs7331), rfl⟩)
    · refine m_gs F e_X7_readLine_31 F.sw.2.2.2.2.1.1 kf_map ?_
      refine m_aload_n F rfl e_X7_readLine_34 ?_
      refine m_ord F rfl e_X7_readLine_35 (i := kix c9) (by omega) (Nat.le_of_ble_eq_true rfl) ⟨Nat.le_of_ble_eq_true rfl, Nat.le_of_ble_eq_true rfl⟩ ?_
      refine m_ti F e_X7_readLine_38 F.sw.2.2.2.2.1.2 (i := nI (kix c9)) (vp_in_nI (by omega) (by decide)) (v := .int 0) (by rw [hk9]; decide) ?_
      refine m_tableOut F e_X7_readLine_39 (Or.inl (by decide)) (tgt := 140) (by decide) ?_
      refine m_aload_n F rfl e_X7_readLine_140 ?_
      refine t_callV F e_X7_readLine_141 (s_X7_readSeedE (x_l X) V G b M Z T _ _ a  tp td n bk nx st 1 (nI c9) py sd ln 0 (-1) t 1 8 nl nm nc lc no md h7292.1 hk rfl hp1 (by omega) (by omega) rfl bx7293 tq7294 (by omega) ⟨(fld_eq (h7291.2 a (by rw [show kA _ a = 3 from hk]; decide))).trans rd7251, (fld_eq (h7291.2 a (by rw [show kA _ a = 3 from hk]; decide))).trans rd7252, (fld_eq (h7291.2 a (by rw [show kA _ a = 3 from hk]; decide))).trans rd7253, (fld_eq (h7291.2 a (by rw [show kA _ a = 3 from hk]; decide))).trans rd7254, (fld_eq (h7291.2 a (by rw [show kA _ a = 3 from hk]; decide))).trans rd7255, (fld_eq (h7291.2 a (by rw [show kA _ a = 3 from hk]; decide))).trans rd7256, (fld_eq (h7291.2 a (by rw [show kA _ a = 3 from hk]; decide))).trans rd7257, (fld_eq (h7291.2 a (by rw [show kA _ a = 3 from hk]; decide))).trans rd7258, (fld_eq (h7291.2 a (by rw [show kA _ a = 3 from hk]; decide))).trans rd7259, (fld_eq (h7291.2 a (by rw [show kA _ a = 3 from hk]; decide))).trans rd7260, (fld_eq (h7291.2 a (by rw [show kA _ a = 3 from hk]; decide))).trans rd7261, (fld_eq (h7291.2 a (by rw [show kA _ a = 3 from hk]; decide))).trans rd7262, (fld_eq (h7291.2 a (by rw [show kA _ a = 3 from hk]; decide))).trans rd7263⟩ (hB.keep (h7292.2 tp (by rw [show kA _ tp = 2 from htp]; decide))) hn7 hsd htp htd hbk hgb (by omega)) cb_X7_readSeed ml_X7_116 im_X7_readSeed se_X7_readSeed (fun _ => o3) h7292 hk rfl rfl (rest := []) rfl (Nat.le_of_ble_eq_true rfl) ⟨Nat.le_of_ble_eq_true rfl, Nat.le_of_ble_eq_true rfl⟩ ⟨Nat.le_of_ble_eq_true rfl, Nat.le_of_ble_eq_true rfl⟩ (fun r σ7332 hp => ?_)
      obtain ⟨h7333, hp⟩ := hp
      have h7334 := HK.trans h7292 h7333 (by decide)
      have tq7335 := tq7294.keep (h7333.2 td (by rw [show kA _ td = 4 from htd]; decide))
      obtain ⟨rs7336, rfl⟩ := hp
      exact m_vret F hQ e_X7_readLine_144 (⟨h7334, (by rw [lineS_8]; exact rs7336), rfl⟩)
  · refine t_getC F e_X7_readLine_1 fl_X7_61 (fun _ => o3) h1 hk (rd7257) ?_
    refine m_iconst F (v := 1) (by decide) e_X7_readLine_4 ?_
    refine m_icmp_ne F e_X7_readLine_5 (fun q => absurd (by decide) q) (fun _ => ?_)
    refine m_aload_n F rfl e_X7_readLine_8 ?_
    refine m_aload_n F rfl e_X7_readLine_9 ?_
    refine t_getC F e_X7_readLine_10 fl_X7_70 (fun _ => o3) h1 hk (rd7258) ?_
    refine t_callV F e_X7_readLine_13 (s_X7_kindOfE (x_l X) V G b M Z T _ _ a v9 h1.1 hk (by omega) (by omega)) cb_X7_kindOf ml_X7_73 im_X7_kindOf se_X7_kindOf (fun _ => o3) h1 hk rfl rfl (rest := []) rfl (Nat.le_of_ble_eq_true rfl) ⟨Nat.le_of_ble_eq_true rfl, Nat.le_of_ble_eq_true rfl⟩ ⟨Nat.le_of_ble_eq_true rfl, Nat.le_of_ble_eq_true rfl⟩ (fun r σ7337 hp => ?_)
    obtain ⟨h7338, hp⟩ := hp
    rcases hp with ⟨hp, rfl⟩ | ⟨hp, rfl⟩
    · exact absurd hp hk9
    have h7339 := HK.trans h1 h7338 (by decide)
    have bx7340 := hp5.hk hbk h7338 (by decide) (by decide) (by decide)
    have tq7341 := hp6.keep (h7338.2 td (by rw [show kA _ td = 4 from htd]; decide))
    refine m_goto F e_X7_readLine_16 ?_
    refine m_astore_nN F (lv' := [(1, .null), (0, .ref a)]) e_X7_readLine_20 (by decide) rfl ?_
    refine m_aload_nN F rfl e_X7_readLine_21 ?_
    refine m_ifnonnullN F e_X7_readLine_22 ?_
    refine m_aload_n F rfl e_X7_readLine_25 ?_
    refine m_iconst F (v := 1) (by decide) e_X7_readLine_26 ?_
    refine t_callV F e_X7_readLine_27 (s_X7_failE (x_l X) V G b M Z T _ _ a 1 tp td n bk nx st 1 (nI v9) py sd ln 0 (-1) t h7339.1 hk rfl (by decide) ⟨(fld_eq (h7338.2 a (by rw [show kA _ a = 3 from hk]; decide))).trans rd7251, (fld_eq (h7338.2 a (by rw [show kA _ a = 3 from hk]; decide))).trans rd7252, (fld_eq (h7338.2 a (by rw [show kA _ a = 3 from hk]; decide))).trans rd7253, (fld_eq (h7338.2 a (by rw [show kA _ a = 3 from hk]; decide))).trans rd7254, (fld_eq (h7338.2 a (by rw [show kA _ a = 3 from hk]; decide))).trans rd7255, (fld_eq (h7338.2 a (by rw [show kA _ a = 3 from hk]; decide))).trans rd7256, (fld_eq (h7338.2 a (by rw [show kA _ a = 3 from hk]; decide))).trans rd7257, (fld_eq (h7338.2 a (by rw [show kA _ a = 3 from hk]; decide))).trans rd7258, (fld_eq (h7338.2 a (by rw [show kA _ a = 3 from hk]; decide))).trans rd7259, (fld_eq (h7338.2 a (by rw [show kA _ a = 3 from hk]; decide))).trans rd7260, (fld_eq (h7338.2 a (by rw [show kA _ a = 3 from hk]; decide))).trans rd7261, (fld_eq (h7338.2 a (by rw [show kA _ a = 3 from hk]; decide))).trans rd7262, (fld_eq (h7338.2 a (by rw [show kA _ a = 3 from hk]; decide))).trans rd7263⟩ (hB.keep (h7339.2 tp (by rw [show kA _ tp = 2 from htp]; decide))) hn7 hsd htp htd hbk hgb (by omega)) cb_X7_fail ml_X7_77 im_X7_fail se_X7_fail (fun _ => o3) h7339 hk rfl rfl (rest := []) rfl (Nat.le_of_ble_eq_true rfl) ⟨Nat.le_of_ble_eq_true rfl, Nat.le_of_ble_eq_true rfl⟩ ⟨Nat.le_of_ble_eq_true rfl, Nat.le_of_ble_eq_true rfl⟩ (fun r σ7342 hp => ?_)
    obtain ⟨h7343, ⟨rd7345, rd7346, rd7347, rd7348, rd7349, rd7350, rd7351, rd7352, rd7353, rd7354, rd7355, rd7356, rd7357⟩, rfl⟩ := hp
    have h7344 := HK.trans h7339 h7343 (by decide)
    have bx7358 := bx7340.hk hbk h7343 (by decide) (by decide) (by decide)
    have tq7359 := tq7341.keep (h7343.2 td (by rw [show kA _ td = 4 from htd]; decide))
    exact m_vret F hQ e_X7_readLine_30 (⟨h7344, (by rw [lineS_no (by decide)]; exact RES.l (rd7356) (rd7357) (by decide) (by decide) (by omega)), rfl⟩)
  · refine t_getC F e_X7_readLine_1 fl_X7_61 (fun _ => o3) h1 hk (rd7257) ?_
    refine m_iconst F (v := 1) (by decide) e_X7_readLine_4 ?_
    refine m_icmp_ne F e_X7_readLine_5 (fun _ => ?_) (fun q => absurd q (by decide))
    refine m_null F e_X7_readLine_19 ?_
    refine m_astore_nN F (lv' := [(1, .null), (0, .ref a)]) e_X7_readLine_20 (by decide) rfl ?_
    refine m_aload_nN F rfl e_X7_readLine_21 ?_
    refine m_ifnonnullN F e_X7_readLine_22 ?_
    refine m_aload_n F rfl e_X7_readLine_25 ?_
    refine m_iconst F (v := 1) (by decide) e_X7_readLine_26 ?_
    refine t_callV F e_X7_readLine_27 (s_X7_failE (x_l X) V G b M Z T _ _ a 1 tp td n bk nx st 2 (nI w9) py sd ln 0 (-1) t h1.1 hk rfl (by decide) ⟨rd7251, rd7252, rd7253, rd7254, rd7255, rd7256, rd7257, rd7258, rd7259, rd7260, rd7261, rd7262, rd7263⟩ (hB.keep (h1.2 tp (by rw [show kA _ tp = 2 from htp]; decide))) hn7 hsd htp htd hbk hgb (by omega)) cb_X7_fail ml_X7_77 im_X7_fail se_X7_fail (fun _ => o3) h1 hk rfl rfl (rest := []) rfl (Nat.le_of_ble_eq_true rfl) ⟨Nat.le_of_ble_eq_true rfl, Nat.le_of_ble_eq_true rfl⟩ ⟨Nat.le_of_ble_eq_true rfl, Nat.le_of_ble_eq_true rfl⟩ (fun r σ7360 hp => ?_)
    obtain ⟨h7361, ⟨rd7363, rd7364, rd7365, rd7366, rd7367, rd7368, rd7369, rd7370, rd7371, rd7372, rd7373, rd7374, rd7375⟩, rfl⟩ := hp
    have h7362 := HK.trans h1 h7361 (by decide)
    have bx7376 := hp5.hk hbk h7361 (by decide) (by decide) (by decide)
    have tq7377 := hp6.keep (h7361.2 td (by rw [show kA _ td = 4 from htd]; decide))
    exact m_vret F hQ e_X7_readLine_30 (⟨h7362, (by rw [lineS_no (by decide)]; exact RES.l (rd7374) (rd7375) (by decide) (by decide) (by omega)), rfl⟩)
  · refine t_getC F e_X7_readLine_1 fl_X7_61 (fun _ => o3) h1 hk (rd7257) ?_
    refine m_iconst F (v := 1) (by decide) e_X7_readLine_4 ?_
    refine m_icmp_ne F e_X7_readLine_5 (fun _ => ?_) (fun q => absurd q (by decide))
    refine m_null F e_X7_readLine_19 ?_
    refine m_astore_nN F (lv' := [(1, .null), (0, .ref a)]) e_X7_readLine_20 (by decide) rfl ?_
    refine m_aload_nN F rfl e_X7_readLine_21 ?_
    refine m_ifnonnullN F e_X7_readLine_22 ?_
    refine m_aload_n F rfl e_X7_readLine_25 ?_
    refine m_iconst F (v := 1) (by decide) e_X7_readLine_26 ?_
    refine t_callV F e_X7_readLine_27 (s_X7_failE (x_l X) V G b M Z T _ _ a 1 tp td n bk nx st 3 vl py sd ln 0 (-1) t h1.1 hk rfl (by decide) ⟨rd7251, rd7252, rd7253, rd7254, rd7255, rd7256, rd7257, rd7258, rd7259, rd7260, rd7261, rd7262, rd7263⟩ (hB.keep (h1.2 tp (by rw [show kA _ tp = 2 from htp]; decide))) hn7 hsd htp htd hbk hgb (by omega)) cb_X7_fail ml_X7_77 im_X7_fail se_X7_fail (fun _ => o3) h1 hk rfl rfl (rest := []) rfl (Nat.le_of_ble_eq_true rfl) ⟨Nat.le_of_ble_eq_true rfl, Nat.le_of_ble_eq_true rfl⟩ ⟨Nat.le_of_ble_eq_true rfl, Nat.le_of_ble_eq_true rfl⟩ (fun r σ7378 hp => ?_)
    obtain ⟨h7379, ⟨rd7381, rd7382, rd7383, rd7384, rd7385, rd7386, rd7387, rd7388, rd7389, rd7390, rd7391, rd7392, rd7393⟩, rfl⟩ := hp
    have h7380 := HK.trans h1 h7379 (by decide)
    have bx7394 := hp5.hk hbk h7379 (by decide) (by decide) (by decide)
    have tq7395 := hp6.keep (h7379.2 td (by rw [show kA _ td = 4 from htd]; decide))
    exact m_vret F hQ e_X7_readLine_30 (⟨h7380, (by rw [lineS_no (by decide)]; exact RES.l (rd7392) (rd7393) (by decide) (by decide) (by omega)), rfl⟩)
  · refine t_getC F e_X7_readLine_1 fl_X7_61 (fun _ => o3) h1 hk (rd7257) ?_
    refine m_iconst F (v := 1) (by decide) e_X7_readLine_4 ?_
    refine m_icmp_ne F e_X7_readLine_5 (fun q => absurd (by decide) q) (fun _ => ?_)
    refine m_aload_n F rfl e_X7_readLine_8 ?_
    refine m_aload_n F rfl e_X7_readLine_9 ?_
    refine t_getC F e_X7_readLine_10 fl_X7_70 (fun _ => o3) h1 hk (rd7258) ?_
    refine t_callV F e_X7_readLine_13 (s_X7_kindOfN (x_l X) V G b M Z T _ _ a (-1) h1.1 hk rfl (by omega)) cb_X7_kindOf ml_X7_73 im_X7_kindOf se_X7_kindOf (fun _ => o3) h1 hk rfl rfl (rest := []) rfl (Nat.le_of_ble_eq_true rfl) ⟨Nat.le_of_ble_eq_true rfl, Nat.le_of_ble_eq_true rfl⟩ ⟨Nat.le_of_ble_eq_true rfl, Nat.le_of_ble_eq_true rfl⟩ (fun r σ7396 hp => ?_)
    obtain ⟨h7397, rfl⟩ := hp
    have h7398 := HK.trans h1 h7397 (by decide)
    have bx7399 := hp5.hk hbk h7397 (by decide) (by decide) (by decide)
    have tq7400 := hp6.keep (h7397.2 td (by rw [show kA _ td = 4 from htd]; decide))
    refine m_goto F e_X7_readLine_16 ?_
    refine m_astore_nN F (lv' := [(1, .null), (0, .ref a)]) e_X7_readLine_20 (by decide) rfl ?_
    refine m_aload_nN F rfl e_X7_readLine_21 ?_
    refine m_ifnonnullN F e_X7_readLine_22 ?_
    refine m_aload_n F rfl e_X7_readLine_25 ?_
    refine m_iconst F (v := 1) (by decide) e_X7_readLine_26 ?_
    refine t_callV F e_X7_readLine_27 (s_X7_failE (x_l X) V G b M Z T _ _ a 1 tp td n bk nx st 1 (-1) py sd ln 0 (-1) t h7398.1 hk rfl (by decide) ⟨(fld_eq (h7397.2 a (by rw [show kA _ a = 3 from hk]; decide))).trans rd7251, (fld_eq (h7397.2 a (by rw [show kA _ a = 3 from hk]; decide))).trans rd7252, (fld_eq (h7397.2 a (by rw [show kA _ a = 3 from hk]; decide))).trans rd7253, (fld_eq (h7397.2 a (by rw [show kA _ a = 3 from hk]; decide))).trans rd7254, (fld_eq (h7397.2 a (by rw [show kA _ a = 3 from hk]; decide))).trans rd7255, (fld_eq (h7397.2 a (by rw [show kA _ a = 3 from hk]; decide))).trans rd7256, (fld_eq (h7397.2 a (by rw [show kA _ a = 3 from hk]; decide))).trans rd7257, (fld_eq (h7397.2 a (by rw [show kA _ a = 3 from hk]; decide))).trans rd7258, (fld_eq (h7397.2 a (by rw [show kA _ a = 3 from hk]; decide))).trans rd7259, (fld_eq (h7397.2 a (by rw [show kA _ a = 3 from hk]; decide))).trans rd7260, (fld_eq (h7397.2 a (by rw [show kA _ a = 3 from hk]; decide))).trans rd7261, (fld_eq (h7397.2 a (by rw [show kA _ a = 3 from hk]; decide))).trans rd7262, (fld_eq (h7397.2 a (by rw [show kA _ a = 3 from hk]; decide))).trans rd7263⟩ (hB.keep (h7398.2 tp (by rw [show kA _ tp = 2 from htp]; decide))) hn7 hsd htp htd hbk hgb (by omega)) cb_X7_fail ml_X7_77 im_X7_fail se_X7_fail (fun _ => o3) h7398 hk rfl rfl (rest := []) rfl (Nat.le_of_ble_eq_true rfl) ⟨Nat.le_of_ble_eq_true rfl, Nat.le_of_ble_eq_true rfl⟩ ⟨Nat.le_of_ble_eq_true rfl, Nat.le_of_ble_eq_true rfl⟩ (fun r σ7401 hp => ?_)
    obtain ⟨h7402, ⟨rd7404, rd7405, rd7406, rd7407, rd7408, rd7409, rd7410, rd7411, rd7412, rd7413, rd7414, rd7415, rd7416⟩, rfl⟩ := hp
    have h7403 := HK.trans h7398 h7402 (by decide)
    have bx7417 := bx7399.hk hbk h7402 (by decide) (by decide) (by decide)
    have tq7418 := tq7400.keep (h7402.2 td (by rw [show kA _ td = 4 from htd]; decide))
    exact m_vret F hQ e_X7_readLine_30 (⟨h7403, (by rw [lineS_no (by decide)]; exact RES.l (rd7415) (rd7416) (by decide) (by decide) (by omega)), rfl⟩)
  · refine t_getC F e_X7_readLine_1 fl_X7_61 (fun _ => o3) h1 hk (rd7257) ?_
    refine m_iconst F (v := 1) (by decide) e_X7_readLine_4 ?_
    refine m_icmp_ne F e_X7_readLine_5 (fun _ => ?_) (fun q => absurd q (by decide))
    refine m_null F e_X7_readLine_19 ?_
    refine m_astore_nN F (lv' := [(1, .null), (0, .ref a)]) e_X7_readLine_20 (by decide) rfl ?_
    refine m_aload_nN F rfl e_X7_readLine_21 ?_
    refine m_ifnonnullN F e_X7_readLine_22 ?_
    refine m_aload_n F rfl e_X7_readLine_25 ?_
    refine m_iconst F (v := 1) (by decide) e_X7_readLine_26 ?_
    refine t_callV F e_X7_readLine_27 (s_X7_failE (x_l X) V G b M Z T _ _ a 1 tp td n bk nx st 4 vl py sd ln 0 (-1) t h1.1 hk rfl (by decide) ⟨rd7251, rd7252, rd7253, rd7254, rd7255, rd7256, rd7257, rd7258, rd7259, rd7260, rd7261, rd7262, rd7263⟩ (hB.keep (h1.2 tp (by rw [show kA _ tp = 2 from htp]; decide))) hn7 hsd htp htd hbk hgb (by omega)) cb_X7_fail ml_X7_77 im_X7_fail se_X7_fail (fun _ => o3) h1 hk rfl rfl (rest := []) rfl (Nat.le_of_ble_eq_true rfl) ⟨Nat.le_of_ble_eq_true rfl, Nat.le_of_ble_eq_true rfl⟩ ⟨Nat.le_of_ble_eq_true rfl, Nat.le_of_ble_eq_true rfl⟩ (fun r σ7419 hp => ?_)
    obtain ⟨h7420, ⟨rd7422, rd7423, rd7424, rd7425, rd7426, rd7427, rd7428, rd7429, rd7430, rd7431, rd7432, rd7433, rd7434⟩, rfl⟩ := hp
    have h7421 := HK.trans h1 h7420 (by decide)
    have bx7435 := hp5.hk hbk h7420 (by decide) (by decide) (by decide)
    have tq7436 := hp6.keep (h7420.2 td (by rw [show kA _ td = 4 from htd]; decide))
    exact m_vret F hQ e_X7_readLine_30 (⟨h7421, (by rw [lineS_no (by decide)]; exact RES.l (rd7433) (rd7434) (by decide) (by decide) (by omega)), rfl⟩)
