set_option maxRecDepth 20000 in
theorem lq_X10_readPayE_60 {V : VX} {X : MX} {N : Nat} {σ : Mem} {c T Z u h : Nat} {P : NP} {L : Nat → LQ}  {n st : Nat} {so va : Int32} {ln : Nat} {fp : Int32} {t : Nat → Nat} {s9 v9 : Nat} {nm : Nat → Nat} {np lc no sd : Nat} {md : Nat → Nat → Bool} (F : Fx V X yX10_readPay cX10_readPay 6 none (rmd 8 0 0)) (hQ : Rt V X 0 0 N (fun r τ => ∃ P9 : NP, OKP P9 ∧ RP P P9 ∧ RM τ c n P9 (payS (tok t n) (st, s9, v9, P.a) P.n5 nm np P.n7 lc no sd md ln) ∧ HS V c (⟨T, Z, u, h, P9, L⟩ : RG) [0, 2, 4, 5, 6, 7, 8, 9, 10, 12, 13, 14, 15, 16, 17, 18, 19, 20, 21, 22, 23] σ τ ∧ r = none)) (hob : OKB L) (hP : OKP P) (hp0 : YD σ c n st so va ln 0 fp) (hp1 : BR σ c n t) (hp2 : n ≤ 700) (hp3 : P.a ≤ n) (hp4 : MT so va s9 v9) (hp5 : st ≤ n) (hp6 : NR σ c np no sd) (hp7 : MR σ c P.n5 nm) (hp8 : KR σ c P.n5 md) (hp9 : FR σ c 8 1 P.n5 md) (hp10 : FR σ c 9 2 P.n5 md) (hp11 : QR σ c P.n7 lc) (hp12 : np ≤ 12) (hp13 : no ≤ 4) (hp14 : sd ≤ 1)  : ∀ (fuel : Nat) (a : Nat) (b : Nat) (m1 : Nat) (k : Nat) (kt : Tk) (P1 : NP) (τ : Mem), HS V c (⟨T, Z, u, h, P1, L⟩ : RG) [0, 2, 4, 5, 6, 7, 8, 9, 10, 12, 13, 14, 15, 16, 17, 18, 19, 20, 21, 22, 23] σ τ → OKP P1 → RP P P1 → a ≤ 7 ∧ 1 ≤ k ∧ k ≤ 49 ∧ b ≤ 48 ∧ RM τ c n P1 (.inr (kt, P.n5, nm, np, P.n7, lc, no, sd, md, ln)) ∧ (payS (tok t n) (st, s9, v9, P.a) P.n5 nm np P.n7 lc no sd md ln) = .inr (kt, P.n5, nm, np + 1, P.n7, lc, no, sd, md, ln) ∧ np < 12 → 49 - k < fuel → Wm V X 6 N τ 0 0 60 [(0, .ref c), (1, .int (nI a)), (3, .int (nI b)), (4, .int (nI m1)), (5, .int (nI k))] [] := by
  intro fuel
  induction fuel with
  | zero => intros; rename_i hm; exact absurd hm (Nat.not_lt_zero _)
  | succ fuel ih =>
    intro a b m1 k kt P1 τ h1 hP1 hR1 hi hm
    have hPP := hP
    unfold OKP at hPP
    have hPP1 := hP1
    unfold OKP at hPP1
    unfold RP at hR1
    obtain ⟨i1, i2, i3, i4, hRM, i6, i7⟩ := hi
    obtain ⟨so2, va2, fp2, mt2, yd2, ⟨pa2, p52, p72⟩, hN2, hM2, hK2, hF2, hG2, hQ2, c1, c2, c3, c4, c5⟩ := hRM
    have hn7 := hp2
    have hyd13115 := yd2
    obtain ⟨yd13115, yd13116, yd13117, yd13118, yd13119, yd13120, yd13121⟩ := hyd13115
    refine m_iload F rfl e_X10_readPay_60 ?_
    refine m_iload_n F rfl e_X10_readPay_62 ?_
    refine m_icmp_gt F e_X10_readPay_63 (fun q63 => ?_) (fun q63 => ?_)
    · have c63 : k > b := (nI_ltI (a := b) (b := k) (by omega) (by omega)).mp q63
      refine m_aload_n F rfl e_X10_readPay_91 ?_
      refine m_iconst F (v := 1) (by decide) e_X10_readPay_92 ?_
      refine m_aload_n F rfl e_X10_readPay_93 ?_
      refine m_iconst F (v := 1) (by decide) e_X10_readPay_94 ?_
      refine r_callV F e_X10_readPay_95 (q_X10_reading1E (x_l X) V c T Z u h P1 L _ _  np no sd h1.1 (hob) hP1  hN2) cb_X10_reading ml_X10_157 im_X10_reading se_X10_reading h1 rfl rfl (rest := [.int 1, .ref c]) rfl (Nat.le_of_ble_eq_true rfl) ⟨Nat.le_of_ble_eq_true rfl, Nat.le_of_ble_eq_true rfl⟩ ⟨Nat.le_of_ble_eq_true rfl, Nat.le_of_ble_eq_true rfl⟩ (fun r σ13122 hp => ?_)
      obtain ⟨h13123, hp⟩ := hp
      have h13124 := HS.trans h1 h13123 (by decide)
      have ga13125 := hN2.of (h13123.2 (c + 2) (by rw [kC_at (k := 2) (by decide)]; decide))
      have ga13126 := hM2.of (h13123.2 (c + 3) (by rw [kC_at (k := 3) (by decide)]; decide))
      have ga13127 := hK2.of (h13123.2 (c + 7) (by rw [kC_at (k := 7) (by decide)]; decide))
      have ga13128 := hF2.of (h13123.2 (c + 8) (by rw [kC_at (k := 8) (by decide)]; decide))
      have ga13129 := hG2.of (h13123.2 (c + 9) (by rw [kC_at (k := 9) (by decide)]; decide))
      have ga13130 := hQ2.of (h13123.2 (c + 11) (by rw [kC_at (k := 11) (by decide)]; decide))
      obtain rfl := hp
      refine m_iconst F (v := 1) (by decide) e_X10_readPay_98 ?_
      refine m_iadd F e_X10_readPay_99 ?_
      refine Wm.topE (w := nI (np + 1)) (nI_add np 1) ?_
      refine r_callV F e_X10_readPay_100 (q_X10_reads1E (x_l X) V c T Z u h P1 L _ _ (np + 1)  h13124.1 (hob) hP1 (by omega) ) cb_X10_reads ml_X10_170 im_X10_reads se_X10_reads h13124 rfl rfl (rest := []) rfl (Nat.le_of_ble_eq_true rfl) ⟨Nat.le_of_ble_eq_true rfl, Nat.le_of_ble_eq_true rfl⟩ ⟨Nat.le_of_ble_eq_true rfl, Nat.le_of_ble_eq_true rfl⟩ (fun r σ13131 hp => ?_)
      obtain ⟨h13132, hp⟩ := hp
      have h13133 := HS.trans h13124 h13132 (by decide)
      have ga13134 := ga13126.of (h13132.2 (c + 3) (by rw [kC_at (k := 3) (by decide)]; decide))
      have ga13135 := ga13127.of (h13132.2 (c + 7) (by rw [kC_at (k := 7) (by decide)]; decide))
      have ga13136 := ga13128.of (h13132.2 (c + 8) (by rw [kC_at (k := 8) (by decide)]; decide))
      have ga13137 := ga13129.of (h13132.2 (c + 9) (by rw [kC_at (k := 9) (by decide)]; decide))
      have ga13138 := ga13130.of (h13132.2 (c + 11) (by rw [kC_at (k := 11) (by decide)]; decide))
      obtain ⟨ea13139, eb13140, rfl⟩ := hp
      have ga13141 := NR.p ga13125 ea13139 eb13140
      exact m_vret F hQ e_X10_readPay_103 (⟨P1, hP1, (by unfold RP; omega), (by rw [i6]; exact RM.r mt2 ⟨((fld_eq (h13132.2 c (by rw [show kC c c = 1 from kC_at (k := 0) (by decide)]; decide))).trans ((fld_eq (h13123.2 c (by rw [show kC c c = 1 from kC_at (k := 0) (by decide)]; decide))).trans yd13115)), ((fld_eq (h13132.2 c (by rw [show kC c c = 1 from kC_at (k := 0) (by decide)]; decide))).trans ((fld_eq (h13123.2 c (by rw [show kC c c = 1 from kC_at (k := 0) (by decide)]; decide))).trans yd13116)), ((fld_eq (h13132.2 c (by rw [show kC c c = 1 from kC_at (k := 0) (by decide)]; decide))).trans ((fld_eq (h13123.2 c (by rw [show kC c c = 1 from kC_at (k := 0) (by decide)]; decide))).trans yd13117)), ((fld_eq (h13132.2 c (by rw [show kC c c = 1 from kC_at (k := 0) (by decide)]; decide))).trans ((fld_eq (h13123.2 c (by rw [show kC c c = 1 from kC_at (k := 0) (by decide)]; decide))).trans yd13118)), ((fld_eq (h13132.2 c (by rw [show kC c c = 1 from kC_at (k := 0) (by decide)]; decide))).trans ((fld_eq (h13123.2 c (by rw [show kC c c = 1 from kC_at (k := 0) (by decide)]; decide))).trans yd13119)), ((fld_eq (h13132.2 c (by rw [show kC c c = 1 from kC_at (k := 0) (by decide)]; decide))).trans ((fld_eq (h13123.2 c (by rw [show kC c c = 1 from kC_at (k := 0) (by decide)]; decide))).trans yd13120)), ((fld_eq (h13132.2 c (by rw [show kC c c = 1 from kC_at (k := 0) (by decide)]; decide))).trans ((fld_eq (h13123.2 c (by rw [show kC c c = 1 from kC_at (k := 0) (by decide)]; decide))).trans yd13121))⟩ (by omega) (by omega) (by omega) ga13141 ga13134 ga13135 ga13136 ga13137 ga13138 (by omega) (by omega) (by omega) (by omega) (by omega)), h13133, rfl⟩)
    · have c63 : k ≤ b := by have hh := mt (nI_ltI (a := b) (b := k) (by omega) (by omega)).mpr q63; omega
      refine m_aload_n F rfl e_X10_readPay_66 ?_
      refine r_get F e_X10_readPay_67 fl_X10_37 h1 rfl (fun v hv f13142 => ?_)
      obtain rfl : v = .ref (c + 10) := hv
      refine m_bipush F (v := 48) (by decide) e_X10_readPay_70 ?_
      refine m_iload_n F rfl e_X10_readPay_72 ?_
      refine m_imul F e_X10_readPay_73 ?_
      refine Wm.topE (w := nI (48 * a)) (pk_mul 48 a) ?_
      refine m_iload F rfl e_X10_readPay_74 ?_
      refine m_iadd F e_X10_readPay_76 ?_
      refine Wm.topE (w := nI ((48 * a) + k)) (nI_add (48 * a) k) ?_
      refine m_iconst F (v := 1) (by decide) e_X10_readPay_77 ?_
      refine m_isub F e_X10_readPay_78 ?_
      refine Wm.topE (w := nI (((48 * a) + k) - 1)) (pk_sub (a := (48 * a) + k) (b := 1) (by omega)) ?_
      refine m_dup2_11 F rfl rfl e_X10_readPay_79 ?_
      refine r_iald F (len := 384) (j := ((48 * a) + k) - 1) e_X10_readPay_80 h1 (fun _ h => h) (by decide) (nI_clamp (by omega)) (vp_in_nI (by omega) (by decide)) (fun x13143 h13144 f13145 => ?_)
      refine m_iload F rfl e_X10_readPay_81 ?_
      refine m_iadd F e_X10_readPay_83 ?_
      refine Wm.top (fun x13146 _ => ?_)
      refine r_iast F (g' := (⟨T, Z, u, h, P1, L⟩ : RG)) (len := 384) (j := ((48 * a) + k) - 1) e_X10_readPay_84 h1 (fun _ h => h) (fun f h => ⟨f, rfl, h⟩) (by decide) (by decide) (nI_clamp (by omega)) (vp_in_nI (by omega) (by decide)) trivial (fun _ _ _ h => h) (fun _ _ _ h => h) (fun σ13147 h13148 g13149 f13150 g13151 => ?_)
      have ga13152 := hN2.of (g13149 _ (by omega))
      have ga13153 := hM2.of (g13149 _ (by omega))
      have ga13154 := hK2.of (g13149 _ (by omega))
      have ga13155 := hF2.of (g13149 _ (by omega))
      have ga13156 := hG2.of (g13149 _ (by omega))
      have ga13157 := hQ2.of (g13149 _ (by omega))
      refine m_iinc F (v := nI (k + 1)) (lv' := [(5, .int (nI (k + 1))), (0, .ref c), (1, .int (nI a)), (3, .int (nI b)), (4, .int (nI m1))]) e_X10_readPay_85 rfl (nI_add k 1) (by decide) rfl ?_
      refine m_goto F e_X10_readPay_88 ?_
      refine Wm.lvsub (lv' := [(0, .ref c), (1, .int (nI a)), (3, .int (nI b)), (4, .int (nI m1)), (5, .int (nI (k + 1)))]) ?_ [1, 2, 3, 4, 0] rfl
      exact ih a b m1 (k + 1) kt P1 _ h13148 hP1 (by unfold RP; omega) ⟨by omega, by omega, by omega, by omega, RM.r mt2 ⟨((fld_eq (g13149 _ (by omega))).trans yd13115), ((fld_eq (g13149 _ (by omega))).trans yd13116), ((fld_eq (g13149 _ (by omega))).trans yd13117), ((fld_eq (g13149 _ (by omega))).trans yd13118), ((fld_eq (g13149 _ (by omega))).trans yd13119), ((fld_eq (g13149 _ (by omega))).trans yd13120), ((fld_eq (g13149 _ (by omega))).trans yd13121)⟩ (by omega) (by omega) (by omega) ga13152 ga13153 ga13154 ga13155 ga13156 ga13157 (by omega) (by omega) (by omega) (by omega) (by omega), i6, i7⟩ (by omega)
set_option maxRecDepth 20000 in
theorem q_X10_readPayE (l : Launch) (V : VX) (c T Z u h : Nat) (P : NP) (L : Nat → LQ) (N : Nat) (σ : Mem) (n st : Nat) (so va : Int32) (ln : Nat) (fp : Int32) (t : Nat → Nat) (s9 v9 : Nat) (nm : Nat → Nat) (np lc no sd : Nat) (md : Nat → Nat → Bool) (h0 : HR V c ⟨T, Z, u, h, P, L⟩ σ) (hob : OKB L) (hP : OKP P) (hp0 : YD σ c n st so va ln 0 fp) (hp1 : BR σ c n t) (hp2 : n ≤ 700) (hp3 : P.a ≤ n) (hp4 : MT so va s9 v9) (hp5 : st ≤ n) (hp6 : NR σ c np no sd) (hp7 : MR σ c P.n5 nm) (hp8 : KR σ c P.n5 md) (hp9 : FR σ c 8 1 P.n5 md) (hp10 : FR σ c 9 2 P.n5 md) (hp11 : QR σ c P.n7 lc) (hp12 : np ≤ 12) (hp13 : no ≤ 4) (hp14 : sd ≤ 1) : Ct l V yX10_readPay cX10_readPay 6 none 8 0 0 N σ [.ref c] (fun r τ => ∃ P9 : NP, OKP P9 ∧ RP P P9 ∧ RM τ c n P9 (payS (tok t n) (st, s9, v9, P.a) P.n5 nm np P.n7 lc no sd md ln) ∧ HS V c (⟨T, Z, u, h, P9, L⟩ : RG) [0, 2, 4, 5, 6, 7, 8, 9, 10, 12, 13, 14, 15, 16, 17, 18, 19, 20, 21, 22, 23] σ τ ∧ r = none) := by
  refine Ct.of (by decide) (Nat.le_of_ble_eq_true rfl) [(0, .ref c)] rfl (fun X hX F hQ => ?_)
  have hPP := hP
  unfold OKP at hPP
  have h1 : HS V c ⟨T, Z, u, h, P, L⟩ [0, 2, 4, 5, 6, 7, 8, 9, 10, 12, 13, 14, 15, 16, 17, 18, 19, 20, 21, 22, 23] σ σ := HS.start h0
  have hyd13158 := hp0
  obtain ⟨yd13158, yd13159, yd13160, yd13161, yd13162, yd13163, yd13164⟩ := hyd13158
  have hn7 := hp2
  refine m_aload_n F rfl e_X10_readPay_0 ?_
  refine m_iconst F (v := 1) (by decide) e_X10_readPay_1 ?_
  refine r_callV F e_X10_readPay_2 (q_X10_reading1E (x_l X) V c T Z u h P L _ _  np no sd h1.1 (hob) hP  hp6) cb_X10_reading ml_X10_157 im_X10_reading se_X10_reading h1 rfl rfl (rest := []) rfl (Nat.le_of_ble_eq_true rfl) ⟨Nat.le_of_ble_eq_true rfl, Nat.le_of_ble_eq_true rfl⟩ ⟨Nat.le_of_ble_eq_true rfl, Nat.le_of_ble_eq_true rfl⟩ (fun r σ13165 hp => ?_)
  obtain ⟨h13166, hp⟩ := hp
  have h13167 := HS.trans h1 h13166 (by decide)
  have ga13168 := hp1.of (h13166.2 (c + 1) (by rw [kC_at (k := 1) (by decide)]; decide))
  have ga13169 := hp6.of (h13166.2 (c + 2) (by rw [kC_at (k := 2) (by decide)]; decide))
  have ga13170 := hp7.of (h13166.2 (c + 3) (by rw [kC_at (k := 3) (by decide)]; decide))
  have ga13171 := hp8.of (h13166.2 (c + 7) (by rw [kC_at (k := 7) (by decide)]; decide))
  have ga13172 := hp9.of (h13166.2 (c + 8) (by rw [kC_at (k := 8) (by decide)]; decide))
  have ga13173 := hp10.of (h13166.2 (c + 9) (by rw [kC_at (k := 9) (by decide)]; decide))
  have ga13174 := hp11.of (h13166.2 (c + 11) (by rw [kC_at (k := 11) (by decide)]; decide))
  obtain rfl := hp
  refine m_bipush F (v := 12) (by decide) e_X10_readPay_5 ?_
  refine m_icmp_ne F e_X10_readPay_7 (fun q7 => ?_) (fun q7 => ?_)
  · have c7 : np ≠ 12 := by have hh := mt (nI_eq (a := np) (b := 12) (by omega) (by omega)).mpr q7; omega
    refine m_aload_n F rfl e_X10_readPay_15 ?_
    refine r_callV F e_X10_readPay_16 (q_X10_atHandE (x_l X) V c T Z u h P L _ _  n st so va ln fp t nm h13167.1 (hob) hP  ⟨((fld_eq (h13166.2 c (by rw [show kC c c = 1 from kC_at (k := 0) (by decide)]; decide))).trans yd13158), ((fld_eq (h13166.2 c (by rw [show kC c c = 1 from kC_at (k := 0) (by decide)]; decide))).trans yd13159), ((fld_eq (h13166.2 c (by rw [show kC c c = 1 from kC_at (k := 0) (by decide)]; decide))).trans yd13160), ((fld_eq (h13166.2 c (by rw [show kC c c = 1 from kC_at (k := 0) (by decide)]; decide))).trans yd13161), ((fld_eq (h13166.2 c (by rw [show kC c c = 1 from kC_at (k := 0) (by decide)]; decide))).trans yd13162), ((fld_eq (h13166.2 c (by rw [show kC c c = 1 from kC_at (k := 0) (by decide)]; decide))).trans yd13163), ((fld_eq (h13166.2 c (by rw [show kC c c = 1 from kC_at (k := 0) (by decide)]; decide))).trans yd13164)⟩ ga13168 hn7 (by omega) ga13170) cb_X10_atHand ml_X10_174 im_X10_atHand se_X10_atHand h13167 rfl rfl (rest := []) rfl (Nat.le_of_ble_eq_true rfl) ⟨Nat.le_of_ble_eq_true rfl, Nat.le_of_ble_eq_true rfl⟩ ⟨Nat.le_of_ble_eq_true rfl, Nat.le_of_ble_eq_true rfl⟩ (fun r σ13175 hp => ?_)
    obtain ⟨P13178, oP13178, rP13178, pr13179, h13176, hp⟩ := hp
    have h13177 := HS.trans h13167 h13176 (by decide)
    have xP13178 := oP13178
    unfold OKP at xP13178
    unfold RA at rP13178
    have ga13180 := ga13168.of (h13176.2 (c + 1) (by rw [kC_at (k := 1) (by decide)]; decide))
    have ga13181 := ga13169.of (h13176.2 (c + 2) (by rw [kC_at (k := 2) (by decide)]; decide))
    have ga13182 := ga13170.of (h13176.2 (c + 3) (by rw [kC_at (k := 3) (by decide)]; decide))
    have ga13183 := ga13171.of (h13176.2 (c + 7) (by rw [kC_at (k := 7) (by decide)]; decide))
    have ga13184 := ga13172.of (h13176.2 (c + 8) (by rw [kC_at (k := 8) (by decide)]; decide))
    have ga13185 := ga13173.of (h13176.2 (c + 9) (by rw [kC_at (k := 9) (by decide)]; decide))
    have ga13186 := ga13174.of (h13176.2 (c + 11) (by rw [kC_at (k := 11) (by decide)]; decide))
    have bk13196 := tok_ok (t := t) (n := n) P.a (by omega)
    generalize ek13196 : tok t n P.a = k13196 at pr13179 bk13196
    rcases pr13179 with ⟨e13187, e13188, ea13189, ⟨so13190, va13191, mt13192, yd13193⟩, rfl⟩ | ⟨e13187, ⟨fa13194, fb13195⟩, rfl⟩ | ⟨e13187, e13188, ⟨fa13194, fb13195⟩, rfl⟩
    · have hyd13197 := yd13193
      obtain ⟨yd13197, yd13198, yd13199, yd13200, yd13201, yd13202, yd13203⟩ := hyd13197
      refine m_istore_n F (lv' := [(1, .int (nI (4 + fx nm k13196.2.2.1 P.n5))), (0, .ref c)]) e_X10_readPay_19 (by decide) rfl ?_
      refine m_aload_n F rfl e_X10_readPay_20 ?_
      refine r_callV F e_X10_readPay_21 (q_X10_goOnE (x_l X) V c T Z u h P13178 L _ _  n k13196.1 so13190 va13191 ln fp t h13177.1 (hob) oP13178  ⟨(yd13197), (yd13198), (yd13199), (yd13200), (yd13201), (yd13202), (yd13203)⟩ ga13180 hn7 (by omega)) cb_X10_goOn ml_X10_154 im_X10_goOn se_X10_goOn h13177 rfl rfl (rest := []) rfl (Nat.le_of_ble_eq_true rfl) ⟨Nat.le_of_ble_eq_true rfl, Nat.le_of_ble_eq_true rfl⟩ ⟨Nat.le_of_ble_eq_true rfl, Nat.le_of_ble_eq_true rfl⟩ (fun r σ13204 hp => ?_)
      obtain ⟨P13207, oP13207, rP13207, pr13208, pr13209, h13205, hp⟩ := hp
      have h13206 := HS.trans h13177 h13205 (by decide)
      have xP13207 := oP13207
      unfold OKP at xP13207
      unfold RA at rP13207
      have ga13210 := ga13180.of (h13205.2 (c + 1) (by rw [kC_at (k := 1) (by decide)]; decide))
      have ga13211 := ga13181.of (h13205.2 (c + 2) (by rw [kC_at (k := 2) (by decide)]; decide))
      have ga13212 := ga13182.of (h13205.2 (c + 3) (by rw [kC_at (k := 3) (by decide)]; decide))
      have ga13213 := ga13183.of (h13205.2 (c + 7) (by rw [kC_at (k := 7) (by decide)]; decide))
      have ga13214 := ga13184.of (h13205.2 (c + 8) (by rw [kC_at (k := 8) (by decide)]; decide))
      have ga13215 := ga13185.of (h13205.2 (c + 9) (by rw [kC_at (k := 9) (by decide)]; decide))
      have ga13216 := ga13186.of (h13205.2 (c + 11) (by rw [kC_at (k := 11) (by decide)]; decide))
      obtain rfl := hp
      obtain ⟨so13217, va13218, mt13219, yd13220⟩ := pr13209
      generalize ek13221 : tok t n P13178.a = k13221 at pr13208 mt13219 yd13220
      have bk13221 := tok_ok (t := t) (n := n) P13178.a (by omega)
      rw [ek13221] at bk13221
      rw [show P13178.a = k13196.2.2.2 by omega] at ek13221
      have hyd13222 := yd13220
      obtain ⟨yd13222, yd13223, yd13224, yd13225, yd13226, yd13227, yd13228⟩ := hyd13222
      refine m_aload_n F rfl e_X10_readPay_24 ?_
      refine m_iconst F (v := 1) (by decide) e_X10_readPay_25 ?_
      refine m_bipush F (v := 48) (by decide) e_X10_readPay_26 ?_
      refine r_callV F e_X10_readPay_28 (q_X10_numeralE (x_l X) V c T Z u h P13207 L _ _ 1 48 n k13221.1 so13217 va13218 ln fp t k13221.2.1 k13221.2.2.1 h13206.1 (hob) oP13207 (by omega) (by omega) ⟨(yd13222), (yd13223), (yd13224), (yd13225), (yd13226), (yd13227), (yd13228)⟩ ga13210 hn7 (by omega) mt13219) cb_X10_numeral ml_X10_165 im_X10_numeral se_X10_numeral h13206 rfl rfl (rest := []) rfl (Nat.le_of_ble_eq_true rfl) ⟨Nat.le_of_ble_eq_true rfl, Nat.le_of_ble_eq_true rfl⟩ ⟨Nat.le_of_ble_eq_true rfl, Nat.le_of_ble_eq_true rfl⟩ (fun r σ13229 hp => ?_)
      obtain ⟨P13232, oP13232, rP13232, pr13233, h13230, hp⟩ := hp
      have h13231 := HS.trans h13206 h13230 (by decide)
      have xP13232 := oP13232
      unfold OKP at xP13232
      unfold RA at rP13232
      have ga13234 := ga13210.of (h13230.2 (c + 1) (by rw [kC_at (k := 1) (by decide)]; decide))
      have ga13235 := ga13211.of (h13230.2 (c + 2) (by rw [kC_at (k := 2) (by decide)]; decide))
      have ga13236 := ga13212.of (h13230.2 (c + 3) (by rw [kC_at (k := 3) (by decide)]; decide))
      have ga13237 := ga13213.of (h13230.2 (c + 7) (by rw [kC_at (k := 7) (by decide)]; decide))
      have ga13238 := ga13214.of (h13230.2 (c + 8) (by rw [kC_at (k := 8) (by decide)]; decide))
      have ga13239 := ga13215.of (h13230.2 (c + 9) (by rw [kC_at (k := 9) (by decide)]; decide))
      have ga13240 := ga13216.of (h13230.2 (c + 11) (by rw [kC_at (k := 11) (by decide)]; decide))
      rcases pr13233 with ⟨e13241, l13243, l13244, ea13245, ⟨so13246, va13247, mt13248, yd13249⟩, rfl⟩ | ⟨e13241, ⟨fa13250, fb13251⟩, rfl⟩ | ⟨e13241, e13242, ⟨fa13250, fb13251⟩, rfl⟩
      · have bk13252 := tok_ok (t := t) (n := n) P13207.a (by omega)
        generalize ek13252 : tok t n P13207.a = k13252 at ea13245 mt13248 yd13249 bk13252
        rw [show P13207.a = k13221.2.2.2 by omega] at ek13252
        have hyd13253 := yd13249
        obtain ⟨yd13253, yd13254, yd13255, yd13256, yd13257, yd13258, yd13259⟩ := hyd13253
        refine m_istore_n F (lv' := [(2, .int (nI k13221.2.2.1)), (1, .int (nI (4 + fx nm k13196.2.2.1 P.n5))), (0, .ref c)]) e_X10_readPay_31 (by decide) rfl ?_
        refine m_aload_n F rfl e_X10_readPay_32 ?_
        refine m_iload_n F rfl e_X10_readPay_33 ?_
        refine m_bipush F (v := 48) (by decide) e_X10_readPay_34 ?_
        refine r_callV F e_X10_readPay_36 (q_X10_numeralE (x_l X) V c T Z u h P13232 L _ _ k13221.2.2.1 48 n k13252.1 so13246 va13247 ln fp t k13252.2.1 k13252.2.2.1 h13231.1 (hob) oP13232 (by omega) (by omega) ⟨(yd13253), (yd13254), (yd13255), (yd13256), (yd13257), (yd13258), (yd13259)⟩ ga13234 hn7 (by omega) mt13248) cb_X10_numeral ml_X10_165 im_X10_numeral se_X10_numeral h13231 rfl rfl (rest := []) rfl (Nat.le_of_ble_eq_true rfl) ⟨Nat.le_of_ble_eq_true rfl, Nat.le_of_ble_eq_true rfl⟩ ⟨Nat.le_of_ble_eq_true rfl, Nat.le_of_ble_eq_true rfl⟩ (fun r σ13260 hp => ?_)
        obtain ⟨P13263, oP13263, rP13263, pr13264, h13261, hp⟩ := hp
        have h13262 := HS.trans h13231 h13261 (by decide)
        have xP13263 := oP13263
        unfold OKP at xP13263
        unfold RA at rP13263
        have ga13265 := ga13234.of (h13261.2 (c + 1) (by rw [kC_at (k := 1) (by decide)]; decide))
        have ga13266 := ga13235.of (h13261.2 (c + 2) (by rw [kC_at (k := 2) (by decide)]; decide))
        have ga13267 := ga13236.of (h13261.2 (c + 3) (by rw [kC_at (k := 3) (by decide)]; decide))
        have ga13268 := ga13237.of (h13261.2 (c + 7) (by rw [kC_at (k := 7) (by decide)]; decide))
        have ga13269 := ga13238.of (h13261.2 (c + 8) (by rw [kC_at (k := 8) (by decide)]; decide))
        have ga13270 := ga13239.of (h13261.2 (c + 9) (by rw [kC_at (k := 9) (by decide)]; decide))
        have ga13271 := ga13240.of (h13261.2 (c + 11) (by rw [kC_at (k := 11) (by decide)]; decide))
        rcases pr13264 with ⟨e13272, l13274, l13275, ea13276, ⟨so13277, va13278, mt13279, yd13280⟩, rfl⟩ | ⟨e13272, ⟨fa13281, fb13282⟩, rfl⟩ | ⟨e13272, e13273, ⟨fa13281, fb13282⟩, rfl⟩
        · have bk13283 := tok_ok (t := t) (n := n) P13232.a (by omega)
          generalize ek13283 : tok t n P13232.a = k13283 at ea13276 mt13279 yd13280 bk13283
          rw [show P13232.a = k13252.2.2.2 by omega] at ek13283
          have hyd13284 := yd13280
          obtain ⟨yd13284, yd13285, yd13286, yd13287, yd13288, yd13289, yd13290⟩ := hyd13284
          refine m_istore_n F (lv' := [(3, .int (nI k13252.2.2.1)), (2, .int (nI k13221.2.2.1)), (1, .int (nI (4 + fx nm k13196.2.2.1 P.n5))), (0, .ref c)]) e_X10_readPay_39 (by decide) rfl ?_
          refine m_aload_n F rfl e_X10_readPay_40 ?_
          refine m_iconst F (v := 0) (by decide) e_X10_readPay_41 ?_
          refine m_ldc F kc_X10_177 e_X10_readPay_42 ?_
          refine r_callV F e_X10_readPay_44 (q_X10_numeralE (x_l X) V c T Z u h P13263 L _ _ 0 99999 n k13283.1 so13277 va13278 ln fp t k13283.2.1 k13283.2.2.1 h13262.1 (hob) oP13263 (by omega) (by omega) ⟨(yd13284), (yd13285), (yd13286), (yd13287), (yd13288), (yd13289), (yd13290)⟩ ga13265 hn7 (by omega) mt13279) cb_X10_numeral ml_X10_165 im_X10_numeral se_X10_numeral h13262 rfl rfl (rest := []) rfl (Nat.le_of_ble_eq_true rfl) ⟨Nat.le_of_ble_eq_true rfl, Nat.le_of_ble_eq_true rfl⟩ ⟨Nat.le_of_ble_eq_true rfl, Nat.le_of_ble_eq_true rfl⟩ (fun r σ13291 hp => ?_)
          obtain ⟨P13294, oP13294, rP13294, pr13295, h13292, hp⟩ := hp
          have h13293 := HS.trans h13262 h13292 (by decide)
          have xP13294 := oP13294
          unfold OKP at xP13294
          unfold RA at rP13294
          have ga13296 := ga13265.of (h13292.2 (c + 1) (by rw [kC_at (k := 1) (by decide)]; decide))
          have ga13297 := ga13266.of (h13292.2 (c + 2) (by rw [kC_at (k := 2) (by decide)]; decide))
          have ga13298 := ga13267.of (h13292.2 (c + 3) (by rw [kC_at (k := 3) (by decide)]; decide))
          have ga13299 := ga13268.of (h13292.2 (c + 7) (by rw [kC_at (k := 7) (by decide)]; decide))
          have ga13300 := ga13269.of (h13292.2 (c + 8) (by rw [kC_at (k := 8) (by decide)]; decide))
          have ga13301 := ga13270.of (h13292.2 (c + 9) (by rw [kC_at (k := 9) (by decide)]; decide))
          have ga13302 := ga13271.of (h13292.2 (c + 11) (by rw [kC_at (k := 11) (by decide)]; decide))
          rcases pr13295 with ⟨e13303, l13305, l13306, ea13307, ⟨so13308, va13309, mt13310, yd13311⟩, rfl⟩ | ⟨e13303, ⟨fa13312, fb13313⟩, rfl⟩ | ⟨e13303, e13304, ⟨fa13312, fb13313⟩, rfl⟩
          · have bk13314 := tok_ok (t := t) (n := n) P13263.a (by omega)
            generalize ek13314 : tok t n P13263.a = k13314 at ea13307 mt13310 yd13311 bk13314
            rw [show P13263.a = k13283.2.2.2 by omega] at ek13314
            have hyd13315 := yd13311
            obtain ⟨yd13315, yd13316, yd13317, yd13318, yd13319, yd13320, yd13321⟩ := hyd13315
            refine m_istore F (lv' := [(4, .int (nI k13283.2.2.1)), (3, .int (nI k13252.2.2.1)), (2, .int (nI k13221.2.2.1)), (1, .int (nI (4 + fx nm k13196.2.2.1 P.n5))), (0, .ref c)]) e_X10_readPay_47 (by decide) rfl ?_
            refine m_aload_n F rfl e_X10_readPay_49 ?_
            refine r_getC F e_X10_readPay_50 fl_X10_141 h13293 (yd13320) ?_
            refine m_if_eq F e_X10_readPay_53 (fun _ => ?_) (fun q => absurd (by decide) q)
            refine m_iload_n F rfl e_X10_readPay_57 ?_
            refine m_istore F (lv' := [(5, .int (nI k13221.2.2.1)), (4, .int (nI k13283.2.2.1)), (3, .int (nI k13252.2.2.1)), (2, .int (nI k13221.2.2.1)), (1, .int (nI (4 + fx nm k13196.2.2.1 P.n5))), (0, .ref c)]) e_X10_readPay_58 (by decide) rfl ?_
            refine Wm.lvsub (lv' := [(0, .ref c), (1, .int (nI (4 + fx nm k13196.2.2.1 P.n5))), (3, .int (nI k13252.2.2.1)), (4, .int (nI k13283.2.2.1)), (5, .int (nI k13221.2.2.1))]) ?_ [5, 4, 2, 1, 0] rfl
            have hsp : (payS (tok t n) (st, s9, v9, P.a) P.n5 nm np P.n7 lc no sd md ln) = .inr (k13314, P.n5, nm, np + 1, P.n7, lc, no, sd, md, ln) := by unfold payS; dsimp only; rw [if_neg (by omega), ek13196, tolK_ok e13187 e13188, ek13221, numK_ok e13241 l13243 l13244, ek13252, numK_ok e13272 l13274 l13275, ek13283, numK_ok e13303 l13305 l13306, ek13314]
            exact lq_X10_readPayE_60 F hQ hob hP hp0 hp1 hp2 hp3 hp4 hp5 hp6 hp7 hp8 hp9 hp10 hp11 hp12 hp13 hp14 (49 - k13221.2.2.1 + 1) (4 + fx nm k13196.2.2.1 P.n5) k13252.2.2.1 k13283.2.2.1 k13221.2.2.1 k13314 P13294 _ h13293 oP13294 (by unfold RP; omega) ⟨by omega, by omega, by omega, by omega, RM.r mt13310 ⟨(yd13315), (yd13316), (yd13317), (yd13318), (yd13319), (yd13320), (yd13321)⟩ (by omega) (by omega) (by omega) ga13297 ga13298 ga13299 ga13300 ga13301 ga13302 (by omega) (by omega) (by omega) (by omega) (by omega), hsp, by omega⟩ (Nat.lt_succ_self _)
          · have hz9 : True := trivial
            refine m_istore F (lv' := [(4, .int (nI 0)), (3, .int (nI k13252.2.2.1)), (2, .int (nI k13221.2.2.1)), (1, .int (nI (4 + fx nm k13196.2.2.1 P.n5))), (0, .ref c)]) e_X10_readPay_47 (by decide) rfl ?_
            refine m_aload_n F rfl e_X10_readPay_49 ?_
            refine r_getC F e_X10_readPay_50 fl_X10_141 h13293 (fa13312) ?_
            refine m_if_eq F e_X10_readPay_53 (fun q => absurd q (by decide)) (fun _ => ?_)
            exact m_vret F hQ e_X10_readPay_56 (⟨P13294, oP13294, (by unfold RP; omega), (by unfold payS; dsimp only; rw [if_neg (by omega), ek13196, tolK_ok e13187 e13188, ek13221, numK_ok e13241 l13243 l13244, ek13252, numK_ok e13272 l13274 l13275, ek13283, numK_1 e13303]; exact RM.l (fa13312) (fb13313) (by decide) (by decide) (by omega)), h13293, rfl⟩)
          · have hz9 : True := trivial
            refine m_istore F (lv' := [(4, .int (nI 0)), (3, .int (nI k13252.2.2.1)), (2, .int (nI k13221.2.2.1)), (1, .int (nI (4 + fx nm k13196.2.2.1 P.n5))), (0, .ref c)]) e_X10_readPay_47 (by decide) rfl ?_
            refine m_aload_n F rfl e_X10_readPay_49 ?_
            refine r_getC F e_X10_readPay_50 fl_X10_141 h13293 (fa13312) ?_
            refine m_if_eq F e_X10_readPay_53 (fun q => absurd q (by decide)) (fun _ => ?_)
            exact m_vret F hQ e_X10_readPay_56 (⟨P13294, oP13294, (by unfold RP; omega), (by unfold payS; dsimp only; rw [if_neg (by omega), ek13196, tolK_ok e13187 e13188, ek13221, numK_ok e13241 l13243 l13244, ek13252, numK_ok e13272 l13274 l13275, ek13283, numK_2 e13303 e13304]; exact RM.l (fa13312) (fb13313) (by decide) (by decide) (by omega)), h13293, rfl⟩)
        · have hz9 : True := trivial
          refine m_istore_n F (lv' := [(3, .int (nI k13221.2.2.1)), (2, .int (nI k13221.2.2.1)), (1, .int (nI (4 + fx nm k13196.2.2.1 P.n5))), (0, .ref c)]) e_X10_readPay_39 (by decide) rfl ?_
          refine m_aload_n F rfl e_X10_readPay_40 ?_
          refine m_iconst F (v := 0) (by decide) e_X10_readPay_41 ?_
          refine m_ldc F kc_X10_177 e_X10_readPay_42 ?_
          refine r_callV F e_X10_readPay_44 (q_X10_numeralG (x_l X) V c T Z u h P13263 L _ _ 0 99999 1 h13262.1 (hob) oP13263 (by omega) (by omega) (fa13281) (by decide)) cb_X10_numeral ml_X10_165 im_X10_numeral se_X10_numeral h13262 rfl rfl (rest := []) rfl (Nat.le_of_ble_eq_true rfl) ⟨Nat.le_of_ble_eq_true rfl, Nat.le_of_ble_eq_true rfl⟩ ⟨Nat.le_of_ble_eq_true rfl, Nat.le_of_ble_eq_true rfl⟩ (fun r σ13322 hp => ?_)
          obtain ⟨h13323, hp⟩ := hp
          have h13324 := HS.trans h13262 h13323 (by decide)
          obtain ⟨rfl, rfl⟩ := hp
          refine m_istore F (lv' := [(4, .int (nI 0)), (3, .int (nI k13221.2.2.1)), (2, .int (nI k13221.2.2.1)), (1, .int (nI (4 + fx nm k13196.2.2.1 P.n5))), (0, .ref c)]) e_X10_readPay_47 (by decide) rfl ?_
          refine m_aload_n F rfl e_X10_readPay_49 ?_
          refine r_getC F e_X10_readPay_50 fl_X10_141 h13324 (fa13281) ?_
          refine m_if_eq F e_X10_readPay_53 (fun q => absurd q (by decide)) (fun _ => ?_)
          exact m_vret F hQ e_X10_readPay_56 (⟨P13263, oP13263, (by unfold RP; omega), (by unfold payS; dsimp only; rw [if_neg (by omega), ek13196, tolK_ok e13187 e13188, ek13221, numK_ok e13241 l13243 l13244, ek13252, numK_1 e13272]; exact RM.l (fa13281) (fb13282) (by decide) (by decide) (by omega)), h13324, rfl⟩)
        · have hz9 : True := trivial
          refine m_istore_n F (lv' := [(3, .int (nI k13221.2.2.1)), (2, .int (nI k13221.2.2.1)), (1, .int (nI (4 + fx nm k13196.2.2.1 P.n5))), (0, .ref c)]) e_X10_readPay_39 (by decide) rfl ?_
          refine m_aload_n F rfl e_X10_readPay_40 ?_
          refine m_iconst F (v := 0) (by decide) e_X10_readPay_41 ?_
          refine m_ldc F kc_X10_177 e_X10_readPay_42 ?_
          refine r_callV F e_X10_readPay_44 (q_X10_numeralG (x_l X) V c T Z u h P13263 L _ _ 0 99999 2 h13262.1 (hob) oP13263 (by omega) (by omega) (fa13281) (by decide)) cb_X10_numeral ml_X10_165 im_X10_numeral se_X10_numeral h13262 rfl rfl (rest := []) rfl (Nat.le_of_ble_eq_true rfl) ⟨Nat.le_of_ble_eq_true rfl, Nat.le_of_ble_eq_true rfl⟩ ⟨Nat.le_of_ble_eq_true rfl, Nat.le_of_ble_eq_true rfl⟩ (fun r σ13325 hp => ?_)
          obtain ⟨h13326, hp⟩ := hp
          have h13327 := HS.trans h13262 h13326 (by decide)
          obtain ⟨rfl, rfl⟩ := hp
          refine m_istore F (lv' := [(4, .int (nI 0)), (3, .int (nI k13221.2.2.1)), (2, .int (nI k13221.2.2.1)), (1, .int (nI (4 + fx nm k13196.2.2.1 P.n5))), (0, .ref c)]) e_X10_readPay_47 (by decide) rfl ?_
          refine m_aload_n F rfl e_X10_readPay_49 ?_
          refine r_getC F e_X10_readPay_50 fl_X10_141 h13327 (fa13281) ?_
          refine m_if_eq F e_X10_readPay_53 (fun q => absurd q (by decide)) (fun _ => ?_)
          exact m_vret F hQ e_X10_readPay_56 (⟨P13263, oP13263, (by unfold RP; omega), (by unfold payS; dsimp only; rw [if_neg (by omega), ek13196, tolK_ok e13187 e13188, ek13221, numK_ok e13241 l13243 l13244, ek13252, numK_2 e13272 e13273]; exact RM.l (fa13281) (fb13282) (by decide) (by decide) (by omega)), h13327, rfl⟩)
      · have hz9 : True := trivial
        refine m_istore_n F (lv' := [(2, .int (nI 1)), (1, .int (nI (4 + fx nm k13196.2.2.1 P.n5))), (0, .ref c)]) e_X10_readPay_31 (by decide) rfl ?_
        refine m_aload_n F rfl e_X10_readPay_32 ?_
        refine m_iload_n F rfl e_X10_readPay_33 ?_
        refine m_bipush F (v := 48) (by decide) e_X10_readPay_34 ?_
        refine r_callV F e_X10_readPay_36 (q_X10_numeralG (x_l X) V c T Z u h P13232 L _ _ 1 48 1 h13231.1 (hob) oP13232 (by omega) (by omega) (fa13250) (by decide)) cb_X10_numeral ml_X10_165 im_X10_numeral se_X10_numeral h13231 rfl rfl (rest := []) rfl (Nat.le_of_ble_eq_true rfl) ⟨Nat.le_of_ble_eq_true rfl, Nat.le_of_ble_eq_true rfl⟩ ⟨Nat.le_of_ble_eq_true rfl, Nat.le_of_ble_eq_true rfl⟩ (fun r σ13328 hp => ?_)
        obtain ⟨h13329, hp⟩ := hp
        have h13330 := HS.trans h13231 h13329 (by decide)
        obtain ⟨rfl, rfl⟩ := hp
        refine m_istore_n F (lv' := [(3, .int (nI 1)), (2, .int (nI 1)), (1, .int (nI (4 + fx nm k13196.2.2.1 P.n5))), (0, .ref c)]) e_X10_readPay_39 (by decide) rfl ?_
        refine m_aload_n F rfl e_X10_readPay_40 ?_
        refine m_iconst F (v := 0) (by decide) e_X10_readPay_41 ?_
        refine m_ldc F kc_X10_177 e_X10_readPay_42 ?_
        refine r_callV F e_X10_readPay_44 (q_X10_numeralG (x_l X) V c T Z u h P13232 L _ _ 0 99999 1 h13330.1 (hob) oP13232 (by omega) (by omega) (fa13250) (by decide)) cb_X10_numeral ml_X10_165 im_X10_numeral se_X10_numeral h13330 rfl rfl (rest := []) rfl (Nat.le_of_ble_eq_true rfl) ⟨Nat.le_of_ble_eq_true rfl, Nat.le_of_ble_eq_true rfl⟩ ⟨Nat.le_of_ble_eq_true rfl, Nat.le_of_ble_eq_true rfl⟩ (fun r σ13331 hp => ?_)
        obtain ⟨h13332, hp⟩ := hp
        have h13333 := HS.trans h13330 h13332 (by decide)
        obtain ⟨rfl, rfl⟩ := hp
        refine m_istore F (lv' := [(4, .int (nI 0)), (3, .int (nI 1)), (2, .int (nI 1)), (1, .int (nI (4 + fx nm k13196.2.2.1 P.n5))), (0, .ref c)]) e_X10_readPay_47 (by decide) rfl ?_
        refine m_aload_n F rfl e_X10_readPay_49 ?_
        refine r_getC F e_X10_readPay_50 fl_X10_141 h13333 (fa13250) ?_
        refine m_if_eq F e_X10_readPay_53 (fun q => absurd q (by decide)) (fun _ => ?_)
        exact m_vret F hQ e_X10_readPay_56 (⟨P13232, oP13232, (by unfold RP; omega), (by unfold payS; dsimp only; rw [if_neg (by omega), ek13196, tolK_ok e13187 e13188, ek13221, numK_1 e13241]; exact RM.l (fa13250) (fb13251) (by decide) (by decide) (by omega)), h13333, rfl⟩)
      · have hz9 : True := trivial
        refine m_istore_n F (lv' := [(2, .int (nI 1)), (1, .int (nI (4 + fx nm k13196.2.2.1 P.n5))), (0, .ref c)]) e_X10_readPay_31 (by decide) rfl ?_
        refine m_aload_n F rfl e_X10_readPay_32 ?_
        refine m_iload_n F rfl e_X10_readPay_33 ?_
        refine m_bipush F (v := 48) (by decide) e_X10_readPay_34 ?_
        refine r_callV F e_X10_readPay_36 (q_X10_numeralG (x_l X) V c T Z u h P13232 L _ _ 1 48 2 h13231.1 (hob) oP13232 (by omega) (by omega) (fa13250) (by decide)) cb_X10_numeral ml_X10_165 im_X10_numeral se_X10_numeral h13231 rfl rfl (rest := []) rfl (Nat.le_of_ble_eq_true rfl) ⟨Nat.le_of_ble_eq_true rfl, Nat.le_of_ble_eq_true rfl⟩ ⟨Nat.le_of_ble_eq_true rfl, Nat.le_of_ble_eq_true rfl⟩ (fun r σ13334 hp => ?_)
        obtain ⟨h13335, hp⟩ := hp
        have h13336 := HS.trans h13231 h13335 (by decide)
        obtain ⟨rfl, rfl⟩ := hp
        refine m_istore_n F (lv' := [(3, .int (nI 1)), (2, .int (nI 1)), (1, .int (nI (4 + fx nm k13196.2.2.1 P.n5))), (0, .ref c)]) e_X10_readPay_39 (by decide) rfl ?_
        refine m_aload_n F rfl e_X10_readPay_40 ?_
        refine m_iconst F (v := 0) (by decide) e_X10_readPay_41 ?_
        refine m_ldc F kc_X10_177 e_X10_readPay_42 ?_
        refine r_callV F e_X10_readPay_44 (q_X10_numeralG (x_l X) V c T Z u h P13232 L _ _ 0 99999 2 h13336.1 (hob) oP13232 (by omega) (by omega) (fa13250) (by decide)) cb_X10_numeral ml_X10_165 im_X10_numeral se_X10_numeral h13336 rfl rfl (rest := []) rfl (Nat.le_of_ble_eq_true rfl) ⟨Nat.le_of_ble_eq_true rfl, Nat.le_of_ble_eq_true rfl⟩ ⟨Nat.le_of_ble_eq_true rfl, Nat.le_of_ble_eq_true rfl⟩ (fun r σ13337 hp => ?_)
        obtain ⟨h13338, hp⟩ := hp
        have h13339 := HS.trans h13336 h13338 (by decide)
        obtain ⟨rfl, rfl⟩ := hp
        refine m_istore F (lv' := [(4, .int (nI 0)), (3, .int (nI 1)), (2, .int (nI 1)), (1, .int (nI (4 + fx nm k13196.2.2.1 P.n5))), (0, .ref c)]) e_X10_readPay_47 (by decide) rfl ?_
        refine m_aload_n F rfl e_X10_readPay_49 ?_
        refine r_getC F e_X10_readPay_50 fl_X10_141 h13339 (fa13250) ?_
        refine m_if_eq F e_X10_readPay_53 (fun q => absurd q (by decide)) (fun _ => ?_)
        exact m_vret F hQ e_X10_readPay_56 (⟨P13232, oP13232, (by unfold RP; omega), (by unfold payS; dsimp only; rw [if_neg (by omega), ek13196, tolK_ok e13187 e13188, ek13221, numK_2 e13241 e13242]; exact RM.l (fa13250) (fb13251) (by decide) (by decide) (by omega)), h13339, rfl⟩)
    · have hz9 : True := trivial
      refine m_istore_n F (lv' := [(1, .int (nI 4)), (0, .ref c)]) e_X10_readPay_19 (by decide) rfl ?_
      refine m_aload_n F rfl e_X10_readPay_20 ?_
      refine r_callV F e_X10_readPay_21 (q_X10_goOnG (x_l X) V c T Z u h P13178 L _ _  1 h13177.1 (hob) oP13178  (fa13194) (by decide)) cb_X10_goOn ml_X10_154 im_X10_goOn se_X10_goOn h13177 rfl rfl (rest := []) rfl (Nat.le_of_ble_eq_true rfl) ⟨Nat.le_of_ble_eq_true rfl, Nat.le_of_ble_eq_true rfl⟩ ⟨Nat.le_of_ble_eq_true rfl, Nat.le_of_ble_eq_true rfl⟩ (fun r σ13340 hp => ?_)
      obtain ⟨h13341, hp⟩ := hp
      have h13342 := HS.trans h13177 h13341 (by decide)
      obtain ⟨rfl, rfl⟩ := hp
      refine m_aload_n F rfl e_X10_readPay_24 ?_
      refine m_iconst F (v := 1) (by decide) e_X10_readPay_25 ?_
      refine m_bipush F (v := 48) (by decide) e_X10_readPay_26 ?_
      refine r_callV F e_X10_readPay_28 (q_X10_numeralG (x_l X) V c T Z u h P13178 L _ _ 1 48 1 h13342.1 (hob) oP13178 (by omega) (by omega) (fa13194) (by decide)) cb_X10_numeral ml_X10_165 im_X10_numeral se_X10_numeral h13342 rfl rfl (rest := []) rfl (Nat.le_of_ble_eq_true rfl) ⟨Nat.le_of_ble_eq_true rfl, Nat.le_of_ble_eq_true rfl⟩ ⟨Nat.le_of_ble_eq_true rfl, Nat.le_of_ble_eq_true rfl⟩ (fun r σ13343 hp => ?_)
      obtain ⟨h13344, hp⟩ := hp
      have h13345 := HS.trans h13342 h13344 (by decide)
      obtain ⟨rfl, rfl⟩ := hp
      refine m_istore_n F (lv' := [(2, .int (nI 1)), (1, .int (nI 4)), (0, .ref c)]) e_X10_readPay_31 (by decide) rfl ?_
      refine m_aload_n F rfl e_X10_readPay_32 ?_
      refine m_iload_n F rfl e_X10_readPay_33 ?_
      refine m_bipush F (v := 48) (by decide) e_X10_readPay_34 ?_
      refine r_callV F e_X10_readPay_36 (q_X10_numeralG (x_l X) V c T Z u h P13178 L _ _ 1 48 1 h13345.1 (hob) oP13178 (by omega) (by omega) (fa13194) (by decide)) cb_X10_numeral ml_X10_165 im_X10_numeral se_X10_numeral h13345 rfl rfl (rest := []) rfl (Nat.le_of_ble_eq_true rfl) ⟨Nat.le_of_ble_eq_true rfl, Nat.le_of_ble_eq_true rfl⟩ ⟨Nat.le_of_ble_eq_true rfl, Nat.le_of_ble_eq_true rfl⟩ (fun r σ13346 hp => ?_)
      obtain ⟨h13347, hp⟩ := hp
      have h13348 := HS.trans h13345 h13347 (by decide)
      obtain ⟨rfl, rfl⟩ := hp
      refine m_istore_n F (lv' := [(3, .int (nI 1)), (2, .int (nI 1)), (1, .int (nI 4)), (0, .ref c)]) e_X10_readPay_39 (by decide) rfl ?_
      refine m_aload_n F rfl e_X10_readPay_40 ?_
      refine m_iconst F (v := 0) (by decide) e_X10_readPay_41 ?_
      refine m_ldc F kc_X10_177 e_X10_readPay_42 ?_
      refine r_callV F e_X10_readPay_44 (q_X10_numeralG (x_l X) V c T Z u h P13178 L _ _ 0 99999 1 h13348.1 (hob) oP13178 (by omega) (by omega) (fa13194) (by decide)) cb_X10_numeral ml_X10_165 im_X10_numeral se_X10_numeral h13348 rfl rfl (rest := []) rfl (Nat.le_of_ble_eq_true rfl) ⟨Nat.le_of_ble_eq_true rfl, Nat.le_of_ble_eq_true rfl⟩ ⟨Nat.le_of_ble_eq_true rfl, Nat.le_of_ble_eq_true rfl⟩ (fun r σ13349 hp => ?_)
      obtain ⟨h13350, hp⟩ := hp
      have h13351 := HS.trans h13348 h13350 (by decide)
      obtain ⟨rfl, rfl⟩ := hp
      refine m_istore F (lv' := [(4, .int (nI 0)), (3, .int (nI 1)), (2, .int (nI 1)), (1, .int (nI 4)), (0, .ref c)]) e_X10_readPay_47 (by decide) rfl ?_
      refine m_aload_n F rfl e_X10_readPay_49 ?_
      refine r_getC F e_X10_readPay_50 fl_X10_141 h13351 (fa13194) ?_
      refine m_if_eq F e_X10_readPay_53 (fun q => absurd q (by decide)) (fun _ => ?_)
      exact m_vret F hQ e_X10_readPay_56 (⟨P13178, oP13178, (by unfold RP; omega), (by unfold payS; dsimp only; rw [if_neg (by omega), ek13196, tolK_1 e13187]; exact RM.l (fa13194) (fb13195) (by decide) (by decide) (by omega)), h13351, rfl⟩)
    · have hz9 : True := trivial
      refine m_istore_n F (lv' := [(1, .int (nI 4)), (0, .ref c)]) e_X10_readPay_19 (by decide) rfl ?_
      refine m_aload_n F rfl e_X10_readPay_20 ?_
      refine r_callV F e_X10_readPay_21 (q_X10_goOnG (x_l X) V c T Z u h P13178 L _ _  4 h13177.1 (hob) oP13178  (fa13194) (by decide)) cb_X10_goOn ml_X10_154 im_X10_goOn se_X10_goOn h13177 rfl rfl (rest := []) rfl (Nat.le_of_ble_eq_true rfl) ⟨Nat.le_of_ble_eq_true rfl, Nat.le_of_ble_eq_true rfl⟩ ⟨Nat.le_of_ble_eq_true rfl, Nat.le_of_ble_eq_true rfl⟩ (fun r σ13352 hp => ?_)
      obtain ⟨h13353, hp⟩ := hp
      have h13354 := HS.trans h13177 h13353 (by decide)
      obtain ⟨rfl, rfl⟩ := hp
      refine m_aload_n F rfl e_X10_readPay_24 ?_
      refine m_iconst F (v := 1) (by decide) e_X10_readPay_25 ?_
      refine m_bipush F (v := 48) (by decide) e_X10_readPay_26 ?_
      refine r_callV F e_X10_readPay_28 (q_X10_numeralG (x_l X) V c T Z u h P13178 L _ _ 1 48 4 h13354.1 (hob) oP13178 (by omega) (by omega) (fa13194) (by decide)) cb_X10_numeral ml_X10_165 im_X10_numeral se_X10_numeral h13354 rfl rfl (rest := []) rfl (Nat.le_of_ble_eq_true rfl) ⟨Nat.le_of_ble_eq_true rfl, Nat.le_of_ble_eq_true rfl⟩ ⟨Nat.le_of_ble_eq_true rfl, Nat.le_of_ble_eq_true rfl⟩ (fun r σ13355 hp => ?_)
      obtain ⟨h13356, hp⟩ := hp
      have h13357 := HS.trans h13354 h13356 (by decide)
      obtain ⟨rfl, rfl⟩ := hp
      refine m_istore_n F (lv' := [(2, .int (nI 1)), (1, .int (nI 4)), (0, .ref c)]) e_X10_readPay_31 (by decide) rfl ?_
      refine m_aload_n F rfl e_X10_readPay_32 ?_
      refine m_iload_n F rfl e_X10_readPay_33 ?_
      refine m_bipush F (v := 48) (by decide) e_X10_readPay_34 ?_
      refine r_callV F e_X10_readPay_36 (q_X10_numeralG (x_l X) V c T Z u h P13178 L _ _ 1 48 4 h13357.1 (hob) oP13178 (by omega) (by omega) (fa13194) (by decide)) cb_X10_numeral ml_X10_165 im_X10_numeral se_X10_numeral h13357 rfl rfl (rest := []) rfl (Nat.le_of_ble_eq_true rfl) ⟨Nat.le_of_ble_eq_true rfl, Nat.le_of_ble_eq_true rfl⟩ ⟨Nat.le_of_ble_eq_true rfl, Nat.le_of_ble_eq_true rfl⟩ (fun r σ13358 hp => ?_)
      obtain ⟨h13359, hp⟩ := hp
      have h13360 := HS.trans h13357 h13359 (by decide)
      obtain ⟨rfl, rfl⟩ := hp
      refine m_istore_n F (lv' := [(3, .int (nI 1)), (2, .int (nI 1)), (1, .int (nI 4)), (0, .ref c)]) e_X10_readPay_39 (by decide) rfl ?_
      refine m_aload_n F rfl e_X10_readPay_40 ?_
      refine m_iconst F (v := 0) (by decide) e_X10_readPay_41 ?_
      refine m_ldc F kc_X10_177 e_X10_readPay_42 ?_
      refine r_callV F e_X10_readPay_44 (q_X10_numeralG (x_l X) V c T Z u h P13178 L _ _ 0 99999 4 h13360.1 (hob) oP13178 (by omega) (by omega) (fa13194) (by decide)) cb_X10_numeral ml_X10_165 im_X10_numeral se_X10_numeral h13360 rfl rfl (rest := []) rfl (Nat.le_of_ble_eq_true rfl) ⟨Nat.le_of_ble_eq_true rfl, Nat.le_of_ble_eq_true rfl⟩ ⟨Nat.le_of_ble_eq_true rfl, Nat.le_of_ble_eq_true rfl⟩ (fun r σ13361 hp => ?_)
      obtain ⟨h13362, hp⟩ := hp
      have h13363 := HS.trans h13360 h13362 (by decide)
      obtain ⟨rfl, rfl⟩ := hp
      refine m_istore F (lv' := [(4, .int (nI 0)), (3, .int (nI 1)), (2, .int (nI 1)), (1, .int (nI 4)), (0, .ref c)]) e_X10_readPay_47 (by decide) rfl ?_
      refine m_aload_n F rfl e_X10_readPay_49 ?_
      refine r_getC F e_X10_readPay_50 fl_X10_141 h13363 (fa13194) ?_
      refine m_if_eq F e_X10_readPay_53 (fun q => absurd q (by decide)) (fun _ => ?_)
      exact m_vret F hQ e_X10_readPay_56 (⟨P13178, oP13178, (by unfold RP; omega), (by unfold payS; dsimp only; rw [if_neg (by omega), ek13196, tolK_4 e13187 e13188]; exact RM.l (fa13194) (fb13195) (by decide) (by decide) (by omega)), h13363, rfl⟩)
  · have c7 : np = 12 := (nI_eq (a := np) (b := 12) (by omega) (by omega)).mp q7
    refine m_aload_n F rfl e_X10_readPay_10 ?_
    refine m_iconst F (v := 2) (by decide) e_X10_readPay_11 ?_
    refine r_callV F e_X10_readPay_12 (q_X10_wrongE (x_l X) V c T Z u h P L _ _ 2 n st so va ln fp h13167.1 (hob) hP (by omega) ⟨((fld_eq (h13166.2 c (by rw [show kC c c = 1 from kC_at (k := 0) (by decide)]; decide))).trans yd13158), ((fld_eq (h13166.2 c (by rw [show kC c c = 1 from kC_at (k := 0) (by decide)]; decide))).trans yd13159), ((fld_eq (h13166.2 c (by rw [show kC c c = 1 from kC_at (k := 0) (by decide)]; decide))).trans yd13160), ((fld_eq (h13166.2 c (by rw [show kC c c = 1 from kC_at (k := 0) (by decide)]; decide))).trans yd13161), ((fld_eq (h13166.2 c (by rw [show kC c c = 1 from kC_at (k := 0) (by decide)]; decide))).trans yd13162), ((fld_eq (h13166.2 c (by rw [show kC c c = 1 from kC_at (k := 0) (by decide)]; decide))).trans yd13163), ((fld_eq (h13166.2 c (by rw [show kC c c = 1 from kC_at (k := 0) (by decide)]; decide))).trans yd13164)⟩ (by decide)) cb_X10_wrong ml_X10_150 im_X10_wrong se_X10_wrong h13167 rfl rfl (rest := []) rfl (Nat.le_of_ble_eq_true rfl) ⟨Nat.le_of_ble_eq_true rfl, Nat.le_of_ble_eq_true rfl⟩ ⟨Nat.le_of_ble_eq_true rfl, Nat.le_of_ble_eq_true rfl⟩ (fun r σ13364 hp => ?_)
    obtain ⟨h13365, hp⟩ := hp
    have h13366 := HS.trans h13167 h13365 (by decide)
    have ga13367 := ga13168.of (h13365.2 (c + 1) (by rw [kC_at (k := 1) (by decide)]; decide))
    have ga13368 := ga13169.of (h13365.2 (c + 2) (by rw [kC_at (k := 2) (by decide)]; decide))
    have ga13369 := ga13170.of (h13365.2 (c + 3) (by rw [kC_at (k := 3) (by decide)]; decide))
    have ga13370 := ga13171.of (h13365.2 (c + 7) (by rw [kC_at (k := 7) (by decide)]; decide))
    have ga13371 := ga13172.of (h13365.2 (c + 8) (by rw [kC_at (k := 8) (by decide)]; decide))
    have ga13372 := ga13173.of (h13365.2 (c + 9) (by rw [kC_at (k := 9) (by decide)]; decide))
    have ga13373 := ga13174.of (h13365.2 (c + 11) (by rw [kC_at (k := 11) (by decide)]; decide))
    obtain ⟨hp, rfl⟩ := hp
    have hyd13374 := hp
    obtain ⟨yd13374, yd13375, yd13376, yd13377, yd13378, yd13379, yd13380⟩ := hyd13374
    refine m_aload_n F rfl e_X10_readPay_15 ?_
    refine r_callV F e_X10_readPay_16 (q_X10_atHandG (x_l X) V c T 0 u h P L _ _  2 h13366.1 (hob) hP  (yd13379) (by decide)) cb_X10_atHand ml_X10_174 im_X10_atHand se_X10_atHand h13366 rfl rfl (rest := []) rfl (Nat.le_of_ble_eq_true rfl) ⟨Nat.le_of_ble_eq_true rfl, Nat.le_of_ble_eq_true rfl⟩ ⟨Nat.le_of_ble_eq_true rfl, Nat.le_of_ble_eq_true rfl⟩ (fun r σ13381 hp => ?_)
    obtain ⟨h13382, hp⟩ := hp
    have h13383 := HS.trans h13366 h13382 (by decide)
    have ga13384 := ga13367.of (h13382.2 (c + 1) (by rw [kC_at (k := 1) (by decide)]; decide))
    have ga13385 := ga13368.of (h13382.2 (c + 2) (by rw [kC_at (k := 2) (by decide)]; decide))
    have ga13386 := ga13369.of (h13382.2 (c + 3) (by rw [kC_at (k := 3) (by decide)]; decide))
    have ga13387 := ga13370.of (h13382.2 (c + 7) (by rw [kC_at (k := 7) (by decide)]; decide))
    have ga13388 := ga13371.of (h13382.2 (c + 8) (by rw [kC_at (k := 8) (by decide)]; decide))
    have ga13389 := ga13372.of (h13382.2 (c + 9) (by rw [kC_at (k := 9) (by decide)]; decide))
    have ga13390 := ga13373.of (h13382.2 (c + 11) (by rw [kC_at (k := 11) (by decide)]; decide))
    obtain ⟨rfl, rfl⟩ := hp
    refine m_istore_n F (lv' := [(1, .int (nI 4)), (0, .ref c)]) e_X10_readPay_19 (by decide) rfl ?_
    refine m_aload_n F rfl e_X10_readPay_20 ?_
    refine r_callV F e_X10_readPay_21 (q_X10_goOnG (x_l X) V c T 0 u h P L _ _  2 h13383.1 (hob) hP  (yd13379) (by decide)) cb_X10_goOn ml_X10_154 im_X10_goOn se_X10_goOn h13383 rfl rfl (rest := []) rfl (Nat.le_of_ble_eq_true rfl) ⟨Nat.le_of_ble_eq_true rfl, Nat.le_of_ble_eq_true rfl⟩ ⟨Nat.le_of_ble_eq_true rfl, Nat.le_of_ble_eq_true rfl⟩ (fun r σ13391 hp => ?_)
    obtain ⟨h13392, hp⟩ := hp
    have h13393 := HS.trans h13383 h13392 (by decide)
    have ga13394 := ga13367.of (h13392.2 (c + 1) (by rw [kC_at (k := 1) (by decide)]; decide))
    have ga13395 := ga13368.of (h13392.2 (c + 2) (by rw [kC_at (k := 2) (by decide)]; decide))
    have ga13396 := ga13369.of (h13392.2 (c + 3) (by rw [kC_at (k := 3) (by decide)]; decide))
    have ga13397 := ga13370.of (h13392.2 (c + 7) (by rw [kC_at (k := 7) (by decide)]; decide))
    have ga13398 := ga13371.of (h13392.2 (c + 8) (by rw [kC_at (k := 8) (by decide)]; decide))
    have ga13399 := ga13372.of (h13392.2 (c + 9) (by rw [kC_at (k := 9) (by decide)]; decide))
    have ga13400 := ga13373.of (h13392.2 (c + 11) (by rw [kC_at (k := 11) (by decide)]; decide))
    obtain ⟨rfl, rfl⟩ := hp
    refine m_aload_n F rfl e_X10_readPay_24 ?_
    refine m_iconst F (v := 1) (by decide) e_X10_readPay_25 ?_
    refine m_bipush F (v := 48) (by decide) e_X10_readPay_26 ?_
    refine r_callV F e_X10_readPay_28 (q_X10_numeralG (x_l X) V c T 0 u h P L _ _ 1 48 2 h13393.1 (hob) hP (by omega) (by omega) (yd13379) (by decide)) cb_X10_numeral ml_X10_165 im_X10_numeral se_X10_numeral h13393 rfl rfl (rest := []) rfl (Nat.le_of_ble_eq_true rfl) ⟨Nat.le_of_ble_eq_true rfl, Nat.le_of_ble_eq_true rfl⟩ ⟨Nat.le_of_ble_eq_true rfl, Nat.le_of_ble_eq_true rfl⟩ (fun r σ13401 hp => ?_)
    obtain ⟨h13402, hp⟩ := hp
    have h13403 := HS.trans h13393 h13402 (by decide)
    have ga13404 := ga13367.of (h13402.2 (c + 1) (by rw [kC_at (k := 1) (by decide)]; decide))
    have ga13405 := ga13368.of (h13402.2 (c + 2) (by rw [kC_at (k := 2) (by decide)]; decide))
    have ga13406 := ga13369.of (h13402.2 (c + 3) (by rw [kC_at (k := 3) (by decide)]; decide))
    have ga13407 := ga13370.of (h13402.2 (c + 7) (by rw [kC_at (k := 7) (by decide)]; decide))
    have ga13408 := ga13371.of (h13402.2 (c + 8) (by rw [kC_at (k := 8) (by decide)]; decide))
    have ga13409 := ga13372.of (h13402.2 (c + 9) (by rw [kC_at (k := 9) (by decide)]; decide))
    have ga13410 := ga13373.of (h13402.2 (c + 11) (by rw [kC_at (k := 11) (by decide)]; decide))
    obtain ⟨rfl, rfl⟩ := hp
    refine m_istore_n F (lv' := [(2, .int (nI 1)), (1, .int (nI 4)), (0, .ref c)]) e_X10_readPay_31 (by decide) rfl ?_
    refine m_aload_n F rfl e_X10_readPay_32 ?_
    refine m_iload_n F rfl e_X10_readPay_33 ?_
    refine m_bipush F (v := 48) (by decide) e_X10_readPay_34 ?_
    refine r_callV F e_X10_readPay_36 (q_X10_numeralG (x_l X) V c T 0 u h P L _ _ 1 48 2 h13403.1 (hob) hP (by omega) (by omega) (yd13379) (by decide)) cb_X10_numeral ml_X10_165 im_X10_numeral se_X10_numeral h13403 rfl rfl (rest := []) rfl (Nat.le_of_ble_eq_true rfl) ⟨Nat.le_of_ble_eq_true rfl, Nat.le_of_ble_eq_true rfl⟩ ⟨Nat.le_of_ble_eq_true rfl, Nat.le_of_ble_eq_true rfl⟩ (fun r σ13411 hp => ?_)
    obtain ⟨h13412, hp⟩ := hp
    have h13413 := HS.trans h13403 h13412 (by decide)
    have ga13414 := ga13367.of (h13412.2 (c + 1) (by rw [kC_at (k := 1) (by decide)]; decide))
    have ga13415 := ga13368.of (h13412.2 (c + 2) (by rw [kC_at (k := 2) (by decide)]; decide))
    have ga13416 := ga13369.of (h13412.2 (c + 3) (by rw [kC_at (k := 3) (by decide)]; decide))
    have ga13417 := ga13370.of (h13412.2 (c + 7) (by rw [kC_at (k := 7) (by decide)]; decide))
    have ga13418 := ga13371.of (h13412.2 (c + 8) (by rw [kC_at (k := 8) (by decide)]; decide))
    have ga13419 := ga13372.of (h13412.2 (c + 9) (by rw [kC_at (k := 9) (by decide)]; decide))
    have ga13420 := ga13373.of (h13412.2 (c + 11) (by rw [kC_at (k := 11) (by decide)]; decide))
    obtain ⟨rfl, rfl⟩ := hp
    refine m_istore_n F (lv' := [(3, .int (nI 1)), (2, .int (nI 1)), (1, .int (nI 4)), (0, .ref c)]) e_X10_readPay_39 (by decide) rfl ?_
    refine m_aload_n F rfl e_X10_readPay_40 ?_
    refine m_iconst F (v := 0) (by decide) e_X10_readPay_41 ?_
    refine m_ldc F kc_X10_177 e_X10_readPay_42 ?_
    refine r_callV F e_X10_readPay_44 (q_X10_numeralG (x_l X) V c T 0 u h P L _ _ 0 99999 2 h13413.1 (hob) hP (by omega) (by omega) (yd13379) (by decide)) cb_X10_numeral ml_X10_165 im_X10_numeral se_X10_numeral h13413 rfl rfl (rest := []) rfl (Nat.le_of_ble_eq_true rfl) ⟨Nat.le_of_ble_eq_true rfl, Nat.le_of_ble_eq_true rfl⟩ ⟨Nat.le_of_ble_eq_true rfl, Nat.le_of_ble_eq_true rfl⟩ (fun r σ13421 hp => ?_)
    obtain ⟨h13422, hp⟩ := hp
    have h13423 := HS.trans h13413 h13422 (by decide)
    have ga13424 := ga13367.of (h13422.2 (c + 1) (by rw [kC_at (k := 1) (by decide)]; decide))
    have ga13425 := ga13368.of (h13422.2 (c + 2) (by rw [kC_at (k := 2) (by decide)]; decide))
    have ga13426 := ga13369.of (h13422.2 (c + 3) (by rw [kC_at (k := 3) (by decide)]; decide))
    have ga13427 := ga13370.of (h13422.2 (c + 7) (by rw [kC_at (k := 7) (by decide)]; decide))
    have ga13428 := ga13371.of (h13422.2 (c + 8) (by rw [kC_at (k := 8) (by decide)]; decide))
    have ga13429 := ga13372.of (h13422.2 (c + 9) (by rw [kC_at (k := 9) (by decide)]; decide))
    have ga13430 := ga13373.of (h13422.2 (c + 11) (by rw [kC_at (k := 11) (by decide)]; decide))
    obtain ⟨rfl, rfl⟩ := hp
    refine m_istore F (lv' := [(4, .int (nI 0)), (3, .int (nI 1)), (2, .int (nI 1)), (1, .int (nI 4)), (0, .ref c)]) e_X10_readPay_47 (by decide) rfl ?_
    refine m_aload_n F rfl e_X10_readPay_49 ?_
    refine r_getC F e_X10_readPay_50 fl_X10_141 h13423 (yd13379) ?_
    refine m_if_eq F e_X10_readPay_53 (fun q => absurd q (by decide)) (fun _ => ?_)
    have h13431 : HS V c _ [0, 2, 4, 5, 6, 7, 8, 9, 10, 12, 13, 14, 15, 16, 17, 18, 19, 20, 21, 22, 23] _ _ := ⟨HR.mono (Z' := Z) (by intro e; first | rfl | assumption | omega) h13423.1, h13423.2⟩
    exact m_vret F hQ e_X10_readPay_56 (⟨P, hP, (by unfold RP; omega), (by unfold payS; dsimp only; rw [if_pos (by omega)]; exact RM.l (yd13379) (yd13380) (by decide) (by decide) (by omega)), h13431, rfl⟩)
