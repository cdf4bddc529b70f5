set_option maxRecDepth 20000 in
theorem lp_X7_readE_6 {V : VX} {G : GH} {X : MX} {b M Z T N : Nat} {σ : Mem} {a : Nat} {tp : Nat} {td : Nat} {n : Nat} {bk : Nat} {nx : Nat} {st : Nat} {tk : Int32} {vl : Int32} {py : Nat} {sd : Nat} {ln : Nat} {ft : Int32} {pl : Int32} {t : Nat → Nat}  (F : Fx V X yX7_read cX7_read 2 none (rmd 8 0 0)) (hQ : Rt V X 0 0 N (fun r τ => HK V G (b, M, Z, T) [0, 1, 2, 5, 8, 9, 12, 13, 14, 16] σ τ ∧ RES V τ a tp td n bk (textS (tok t n) 700 (S0 (tok t n))) ∧ r = none)) (hk : kA b a = 3) (hp0 : nx = 0) (hp1 : py = 0) (hp2 : sd = 0) (hp3 : ln = 0) (hp4 : ft = 0) (hp5 : pl = -1) (hp6 : BX σ bk 0 (fun _ => 0) 0 0 0) (hp7 : TD V σ td 0 (fun _ _ => false)) (hR : RD σ a tp td n bk nx st tk vl py sd ln ft pl) (hB : BY V σ tp n t) (hn7 : n ≤ 700) (hsd : sd ≤ 1) (htp : kA b tp = 2) (htd : kA b td = 4) (hbk : kA b bk = 7) (hgb : ¬ G.gd (blk (bk - b)) = 1) (hM : M + 0 ≤ 1000000000)  : ∀ (fuel : Nat) (i : Nat) (τ : Mem), HK V G (b, M, Z, T) [0, 1, 2, 5, 8, 9, 12, 13, 14, 16] σ τ → (i ≤ 700 ∧ ((∃ e : Nat × Nat, textS (tok t n) 700 (S0 (tok t n)) = .inl e ∧ FT τ a e.1 e.2 ∧ 1 ≤ e.1 ∧ e.1 ≤ 4 ∧ e.2 ≤ n) ∨ (∃ S : SS, CS V τ a tp td n bk S ∧ textS (tok t n) 700 (S0 (tok t n)) = textS (tok t n) (700 - i) S))) → 700 - i < fuel → Wm V X 2 N τ 0 0 6 [(1, .int (nI i)), (0, .ref a)] [] := by
  intro fuel
  induction fuel with
  | zero => intro i τ h1 hi hm; exact absurd hm (Nat.not_lt_zero _)
  | succ fuel ih =>
    intro i τ h1 hi hm
    obtain ⟨b5, hi⟩ := hi
    refine m_iload_n F rfl e_X7_read_6 ?_
    refine m_sipush F (v := 700) (by decide) e_X7_read_7 ?_
    refine m_icmp_ge F e_X7_read_10 (fun q10 => ?_) (fun q10 => ?_)
    · have c10 : i ≥ 700 := (nI_leI (a := 700) (b := i) (by omega) (by omega)).mp q10
      exact m_vret F hQ e_X7_read_41 (⟨h1, (by rcases hi with ⟨e, e1, e2⟩ | ⟨S, e2, e1⟩; (rw [e1]; exact e2); (rw [e1, show 700 - i = 0 by omega]; exact e2)), rfl⟩)
    · have c10 : i < 700 := by have hh := mt (nI_leI (a := 700) (b := i) (by omega) (by omega)).mpr q10; omega
      rcases hi with ⟨e, e1, ⟨rd7455, rd7456⟩, b1, b2, b3⟩ | ⟨⟨⟨k1, k2, k3, k4⟩, nl, nm, np, nc, lc, no, sd2, md, ln2⟩, ⟨tk7437, vl7438, ct7439, ⟨rd7442, rd7443, rd7444, rd7445, rd7446, rd7447, rd7448, rd7449, rd7450, rd7451, rd7452, rd7453, rd7454⟩, bx7440, tq7441, b1, b2, b3, b4⟩, e1⟩
      · refine m_aload_n F rfl e_X7_read_13 ?_
        refine t_getC F e_X7_read_14 fl_X7_55 (fun _ => o3) h1 hk (rd7455) ?_
        refine m_if_ne F e_X7_read_17 (fun q17 => ?_) (fun q17 => ?_)
        · have c17 : e.1 ≠ 0 := by have hh := mt (nI_eq (a := e.1) (b := 0) (by omega) (by omega)).mpr q17; omega
          exact m_vret F hQ e_X7_read_41 (⟨h1, (by rw [e1]; exact ⟨⟨rd7455, rd7456⟩, b1, b2, b3⟩), rfl⟩)
        · have c17 : e.1 = 0 := (nI_eq (a := e.1) (b := 0) (by omega) (by omega)).mp q17
          exfalso; omega
      · replace b1 : k4 ≤ n := b1
        replace b2 : k1 ≤ n := b2
        refine m_aload_n F rfl e_X7_read_13 ?_
        refine t_getC F e_X7_read_14 fl_X7_55 (fun _ => o3) h1 hk (rd7453) ?_
        refine m_if_ne F e_X7_read_17 (fun q => absurd (by decide) q) (fun _ => ?_)
        refine m_aload_n F rfl e_X7_read_20 ?_
        refine t_getC F e_X7_read_21 fl_X7_61 (fun _ => o3) h1 hk (rd7448) ?_
        refine m_if_eq F e_X7_read_24 (fun q24 => ?_) (fun q24 => ?_)
        · have ez : k2 = 0 := ct7439.z.mp q24
          exact m_vret F hQ e_X7_read_41 (⟨h1, (by rw [e1, textS_end ez]; exact CS.mk (k := (k1, k2, k3, k4)) ct7439 ⟨rd7442, rd7443, rd7444, rd7445, rd7446, rd7447, rd7448, rd7449, rd7450, rd7451, rd7452, rd7453, rd7454⟩ bx7440 tq7441 b1 b2 b3 b4), rfl⟩)
        · have ez : k2 ≠ 0 := fun e => q24 (ct7439.z.mpr e)
          refine m_aload_n F rfl e_X7_read_27 ?_
          refine t_callV F e_X7_read_28 (s_X7_readLineE (x_l X) V G b M Z T _ _ a  tp td n bk k4 k1 tk7437 vl7438 np sd2 ln2 0 (-1) t k2 k3 nl nm nc lc no md h1.1 hk rfl ct7439 b1 b2 rfl bx7440 tq7441 b3 ⟨rd7442, rd7443, rd7444, rd7445, rd7446, rd7447, rd7448, rd7449, rd7450, rd7451, rd7452, rd7453, rd7454⟩ (hB.keep (h1.2 tp (by rw [show kA _ tp = 2 from htp]; decide))) hn7 b4 htp htd hbk hgb (by omega)) cb_X7_readLine ml_X7_64 im_X7_readLine se_X7_readLine (fun _ => o3) h1 hk rfl rfl (rest := []) rfl (Nat.le_of_ble_eq_true rfl) ⟨Nat.le_of_ble_eq_true rfl, Nat.le_of_ble_eq_true rfl⟩ ⟨Nat.le_of_ble_eq_true rfl, Nat.le_of_ble_eq_true rfl⟩ (fun r σ7457 hp => ?_)
          obtain ⟨h7458, hp⟩ := hp
          have h7459 := HK.trans h1 h7458 (by decide)
          obtain ⟨rs7460, rfl⟩ := hp
          cases eo7461 : lineS (tok t n) (k1, k2, k3, k4) nl nm np nc lc no sd2 md ln2 with
          | inl e8 =>
            rw [eo7461] at rs7460
            obtain ⟨⟨rd7462, rd7463⟩, c1, c2, c3⟩ := rs7460
            have e2 : textS (tok t n) 700 (S0 (tok t n)) = .inl e8 := e1.trans (by rw [show 700 - i = (700 - (i + 1)) + 1 by omega]; exact textS_f ez eo7461)
            refine m_aload_n F rfl e_X7_read_31 ?_
            have nz8 : nI e8.1 ≠ 0 := fun e => absurd (nI_inj9 (b := 0) (by omega) (by omega) e) (by omega)
            refine t_callV F e_X7_read_32 (s_X7_readStopG (x_l X) V G b M Z T _ _ a  (nI e8.1) (nI e8.2) h7459.1 hk  (rd7462) (rd7463) (by assumption) (by omega)) cb_X7_readStop ml_X7_67 im_X7_readStop se_X7_readStop (fun _ => o3) h7459 hk rfl rfl (rest := []) rfl (Nat.le_of_ble_eq_true rfl) ⟨Nat.le_of_ble_eq_true rfl, Nat.le_of_ble_eq_true rfl⟩ ⟨Nat.le_of_ble_eq_true rfl, Nat.le_of_ble_eq_true rfl⟩ (fun r σ7464 hp => ?_)
            obtain ⟨h7465, rd7467, rd7468, rfl⟩ := hp
            have h7466 := HK.trans h7459 h7465 (by decide)
            refine m_iinc F (v := nI (i + 1)) (lv' := [(1, .int (nI (i + 1))), (0, .ref a)]) e_X7_read_35 rfl (nI_add i 1) (by decide) rfl ?_
            refine m_goto F e_X7_read_38 ?_
            exact ih (i + 1) _ h7466 ⟨by omega, Or.inl ⟨e8, e2, ⟨rd7467, rd7468⟩, c1, c2, c3⟩⟩ (by omega)
          | inr S1 =>
            rw [eo7461] at rs7460
            obtain ⟨⟨j1, j2, j3, j4⟩, nl3, nm3, np3, nc3, lc3, no3, sd3, md3, ln3⟩ := S1
            obtain ⟨tk7470, vl7471, ct7472, ⟨rd7475, rd7476, rd7477, rd7478, rd7479, rd7480, rd7481, rd7482, rd7483, rd7484, rd7485, rd7486, rd7487⟩, bx7473, tq7474, d1, d2, d3, d4⟩ := rs7460
            replace d1 : j4 ≤ n := d1
            replace d2 : j1 ≤ n := d2
            refine m_aload_n F rfl e_X7_read_31 ?_
            refine t_callV F e_X7_read_32 (s_X7_readStopE (x_l X) V G b M Z T _ _ a  tp td n bk j4 j1 tk7470 vl7471 np3 sd3 ln3 0 (-1) t j2 j3 nl3 nm3 nc3 lc3 no3 md3 h7459.1 hk rfl ct7472 d1 d2 rfl bx7473 tq7474 d3 ⟨rd7475, rd7476, rd7477, rd7478, rd7479, rd7480, rd7481, rd7482, rd7483, rd7484, rd7485, rd7486, rd7487⟩ (hB.keep (h7459.2 tp (by rw [show kA _ tp = 2 from htp]; decide))) hn7 d4 htp htd hbk hgb (by omega)) cb_X7_readStop ml_X7_67 im_X7_readStop se_X7_readStop (fun _ => o3) h7459 hk rfl rfl (rest := []) rfl (Nat.le_of_ble_eq_true rfl) ⟨Nat.le_of_ble_eq_true rfl, Nat.le_of_ble_eq_true rfl⟩ ⟨Nat.le_of_ble_eq_true rfl, Nat.le_of_ble_eq_true rfl⟩ (fun r σ7488 hp => ?_)
            obtain ⟨h7489, hp⟩ := hp
            have h7490 := HK.trans h7459 h7489 (by decide)
            have bx7491 := bx7473.hk hbk h7489 (by decide) (by decide) (by decide)
            have tq7492 := tq7474.keep (h7489.2 td (by rw [show kA _ td = 4 from htd]; decide))
            obtain ⟨rs7493, rfl⟩ := hp
            cases eo7494 : stopS (tok t n) (j1, j2, j3, j4) nl3 nm3 np3 nc3 lc3 no3 sd3 md3 ln3 with
            | inl e8 =>
              rw [eo7494] at rs7493
              refine m_iinc F (v := nI (i + 1)) (lv' := [(1, .int (nI (i + 1))), (0, .ref a)]) e_X7_read_35 rfl (nI_add i 1) (by decide) rfl ?_
              refine m_goto F e_X7_read_38 ?_
              exact ih (i + 1) _ h7490 ⟨by omega, Or.inl ⟨e8, e1.trans (by rw [show 700 - i = (700 - (i + 1)) + 1 by omega]; exact textS_s ez eo7461 eo7494), rs7493⟩⟩ (by omega)
            | inr S2 =>
              rw [eo7494] at rs7493
              refine m_iinc F (v := nI (i + 1)) (lv' := [(1, .int (nI (i + 1))), (0, .ref a)]) e_X7_read_35 rfl (nI_add i 1) (by decide) rfl ?_
              refine m_goto F e_X7_read_38 ?_
              exact ih (i + 1) _ h7490 ⟨by omega, Or.inr ⟨S2, rs7493, e1.trans (by rw [show 700 - i = (700 - (i + 1)) + 1 by omega]; exact textS_go ez eo7461 eo7494)⟩⟩ (by omega)
set_option maxRecDepth 20000 in
theorem s_X7_readE (l : Launch) (V : VX) (G : GH) (b M Z T N : Nat) (σ : Mem) (a : Nat) (tp : Nat) (td : Nat) (n : Nat) (bk : Nat) (nx : Nat) (st : Nat) (tk : Int32) (vl : Int32) (py : Nat) (sd : Nat) (ln : Nat) (ft : Int32) (pl : Int32) (t : Nat → Nat) (h0 : HT V G (b, M, Z, T) σ) (hk : kA b a = 3) (hp0 : nx = 0) (hp1 : py = 0) (hp2 : sd = 0) (hp3 : ln = 0) (hp4 : ft = 0) (hp5 : pl = -1) (hp6 : BX σ bk 0 (fun _ => 0) 0 0 0) (hp7 : TD V σ td 0 (fun _ _ => false)) (hR : RD σ a tp td n bk nx st tk vl py sd ln ft pl) (hB : BY V σ tp n t) (hn7 : n ≤ 700) (hsd : sd ≤ 1) (htp : kA b tp = 2) (htd : kA b td = 4) (hbk : kA b bk = 7) (hgb : ¬ G.gd (blk (bk - b)) = 1) (hM : M + 0 ≤ 1000000000) : Ct l V yX7_read cX7_read 2 none 8 0 0 N σ [.ref a] (fun r τ => HK V G (b, M, Z, T) [0, 1, 2, 5, 8, 9, 12, 13, 14, 16] σ τ ∧ RES V τ a tp td n bk (textS (tok t n) 700 (S0 (tok t n))) ∧ r = none) := by
  refine Ct.of (by decide) (Nat.le_of_ble_eq_true rfl) [(0, .ref a)] rfl (fun X hX F hQ => ?_)
  have h1 : HK V G (b, M, Z, T) [0, 1, 2, 5, 8, 9, 12, 13, 14, 16] σ σ := HK.start h0
  have hrd7495 := hR
  obtain ⟨rd7495, rd7496, rd7497, rd7498, rd7499, rd7500, rd7501, rd7502, rd7503, rd7504, rd7505, rd7506, rd7507⟩ := hrd7495
  subst hp0
  subst hp1
  subst hp2
  subst hp3
  subst hp4
  subst hp5
  refine m_aload_n F rfl e_X7_read_0 ?_
  refine t_callV F e_X7_read_1 (s_X7_advanceE (x_l X) V G b M Z T _ _ a  tp td n bk 0 st tk vl 0 0 0 0 (-1) t h1.1 hk (by omega) ⟨rd7495, rd7496, rd7497, rd7498, rd7499, rd7500, rd7501, rd7502, rd7503, rd7504, rd7505, rd7506, rd7507⟩ (hB.keep (h1.2 tp (by rw [show kA _ tp = 2 from htp]; decide))) hn7 hsd htp htd hbk hgb (by omega)) cb_X7_advance ml_X7_58 im_X7_advance se_X7_advance (fun _ => o3) h1 hk rfl rfl (rest := []) rfl (Nat.le_of_ble_eq_true rfl) ⟨Nat.le_of_ble_eq_true rfl, Nat.le_of_ble_eq_true rfl⟩ ⟨Nat.le_of_ble_eq_true rfl, Nat.le_of_ble_eq_true rfl⟩ (fun r σ7508 hp => ?_)
  obtain ⟨h7509, ⟨tk7524, vl7525, ct7526, rd7511, rd7512, rd7513, rd7514, rd7515, rd7516, rd7517, rd7518, rd7519, rd7520, rd7521, rd7522, rd7523⟩, rfl⟩ := hp
  have h7510 := HK.trans h1 h7509 (by decide)
  have bx7527 := hp6.hk hbk h7509 (by decide) (by decide) (by decide)
  have tq7528 := hp7.keep (h7509.2 td (by rw [show kA _ td = 4 from htd]; decide))
  refine m_iconst F (v := 0) (by decide) e_X7_read_4 ?_
  refine m_istore_n F (lv' := [(1, .int 0), (0, .ref a)]) e_X7_read_5 (by decide) rfl ?_
  have hb8 := tok_ok (t := t) (n := n) 0 (by omega)
  exact lp_X7_readE_6 F hQ hk rfl rfl rfl rfl rfl rfl hp6 hp7 hR hB hn7 hsd htp htd hbk hgb hM (700 - 0 + 1) 0 _ h7510 ⟨by omega, Or.inr ⟨S0 (tok t n), CS.mk ct7526 ⟨rd7511, rd7512, rd7513, rd7514, rd7515, rd7516, rd7517, rd7518, rd7519, rd7520, rd7521, rd7522, rd7523⟩ bx7527 tq7528 (by omega) (by omega) (by omega) (by omega), rfl⟩⟩ (Nat.lt_succ_self _)
