set_option maxRecDepth 20000 in
theorem q_X10_reading0E (l : Launch) (V : VX) (c T Z u h : Nat) (P : NP) (L : Nat → LQ) (N : Nat) (σ : Mem)  (h0 : HR V c ⟨T, Z, u, h, P, L⟩ σ) (hob : OKB L) (hP : OKP P)  : Ct l V yX10_reading cX10_reading 2 (some .int) 0 0 0 N σ [.ref c, .int 0] (fun r τ => HS V c (⟨T, Z, u, h, P, L⟩ : RG) [0, 1, 2, 3, 4, 5, 6, 7, 8, 9, 10, 11, 12, 13, 14, 15, 16, 17, 18, 19, 20, 21, 22, 23] σ τ ∧ r = some (.int (nI P.n5))) := by
  refine Ct.of (by decide) (Nat.le_of_ble_eq_true rfl) [(0, .ref c), (1, .int 0)] rfl (fun X hX F hQ => ?_)
  have hPP := hP
  unfold OKP at hPP
  have h1 : HS V c ⟨T, Z, u, h, P, L⟩ [0, 1, 2, 3, 4, 5, 6, 7, 8, 9, 10, 11, 12, 13, 14, 15, 16, 17, 18, 19, 20, 21, 22, 23] σ σ := HS.start h0
  refine m_aload_n F rfl e_X10_reading_0 ?_
  refine r_get F e_X10_reading_1 fl_X10_13 h1 rfl (fun v hv f13534 => ?_)
  obtain rfl : v = .ref (c + 2) := hv
  refine m_iconst F (v := 5) (by decide) e_X10_reading_4 ?_
  refine m_iload_n F rfl e_X10_reading_5 ?_
  refine m_iadd F e_X10_reading_6 ?_
  refine Wm.topE (w := 5) (by decide) ?_
  refine r_iald F (len := 10) (j := 5) e_X10_reading_7 h1 (fun _ h => h) (by decide) (by decide) (by unfold vp_in; decide) (fun x13535 h13536 f13537 => ?_)
  obtain rfl : x13535 = nI P.n5 := h13536.2.2.1 rfl
  exact m_iret F hQ e_X10_reading_8 (⟨h1, rfl⟩)
set_option maxRecDepth 20000 in
theorem lq_X10_readLeaseE_157 {V : VX} {X : MX} {N : Nat} {σ : Mem} {c T Z u h : Nat} {P : NP} {L : Nat → LQ}  {n st : Nat} {so va : Int32} {ln : Nat} {fp : Int32} {t : Nat → Nat} {s9 v9 : Nat} {nm : Nat → Nat} {np lc no sd : Nat} {md : Nat → Nat → Bool} (F : Fx V X yX10_readLease cX10_readLease 3 none (rmd 8 0 0)) (hQ : Rt V X 0 0 N (fun r τ => ∃ P9 : NP, OKP P9 ∧ RP P P9 ∧ RM τ c n P9 (leaseS (tok t n) (st, s9, v9, P.a) P.n5 nm np P.n7 lc no sd md ln) ∧ HS V c (⟨T, Z, u, h, P9, L⟩ : RG) [0, 2, 12, 13, 14, 15, 16, 17, 18, 19, 20, 21, 22, 23] σ τ ∧ r = none)) (hob : OKB L) (hP : OKP P) (hp0 : YD σ c n st so va ln 0 fp) (hp1 : BR σ c n t) (hp2 : n ≤ 700) (hp3 : P.a ≤ n) (hp4 : MT so va s9 v9) (hp5 : st ≤ n) (hp6 : NR σ c np no sd) (hp7 : MR σ c P.n5 nm) (hp8 : KR σ c P.n5 md) (hp9 : FR σ c 8 1 P.n5 md) (hp10 : FR σ c 9 2 P.n5 md) (hp11 : QR σ c P.n7 lc) (hp12 : np ≤ 12) (hp13 : no ≤ 4) (hp14 : sd ≤ 1)  : ∀ (fuel : Nat) (a : Nat) (i : Nat) (P1 : NP) (τ : Mem), HS V c (⟨T, Z, u, h, P1, L⟩ : RG) [0, 2, 12, 13, 14, 15, 16, 17, 18, 19, 20, 21, 22, 23] σ τ → OKP P1 → RP P P1 → a = 4 + P1.n5 ∧ i ≤ 48 ∧ P1.n5 ≤ 3 ∧ P1.n5 + 1 ≤ P1.m5 ∧ RM τ c n (mkP P1.n0 P1.n2 (P1.n5 + 1) P1.n7 P1.m0 P1.m5 P1.w2 P1.w7 P1.kk P1.a P1.f P1.p) (leaseS (tok t n) (st, s9, v9, P.a) P.n5 nm np P.n7 lc no sd md ln) → 48 - i < fuel → Wm V X 3 N τ 0 0 157 [(0, .ref c), (1, .int (nI a)), (2, .int (nI i))] [] := by
  intro fuel
  induction fuel with
  | zero => intros; rename_i hm; exact absurd hm (Nat.not_lt_zero _)
  | succ fuel ih =>
    intro a i P1 τ h1 hP1 hR1 hi hm
    have hPP := hP
    unfold OKP at hPP
    have hPP1 := hP1
    unfold OKP at hPP1
    unfold RP at hR1
    obtain ⟨i1, i2, i3, i4, hRM⟩ := hi
    refine m_iload_n F rfl e_X10_readLease_157 ?_
    refine m_bipush F (v := 48) (by decide) e_X10_readLease_158 ?_
    refine m_icmp_ge F e_X10_readLease_160 (fun q160 => ?_) (fun q160 => ?_)
    · have c160 : i ≥ 48 := (nI_leI (a := 48) (b := i) (by omega) (by omega)).mp q160
      refine m_aload_n F rfl e_X10_readLease_181 ?_
      refine m_iconst F (v := 0) (by decide) e_X10_readLease_182 ?_
      refine m_aload_n F rfl e_X10_readLease_183 ?_
      refine m_iconst F (v := 0) (by decide) e_X10_readLease_184 ?_
      refine r_callV F e_X10_readLease_185 (q_X10_reading0E (x_l X) V c T Z u h P1 L _ _   h1.1 (hob) hP1  ) cb_X10_reading ml_X10_157 im_X10_reading se_X10_reading h1 rfl rfl (rest := [.int 0, .ref c]) rfl (Nat.le_of_ble_eq_true rfl) ⟨Nat.le_of_ble_eq_true rfl, Nat.le_of_ble_eq_true rfl⟩ ⟨Nat.le_of_ble_eq_true rfl, Nat.le_of_ble_eq_true rfl⟩ (fun r σ13538 hp => ?_)
      obtain ⟨h13539, hp⟩ := hp
      have h13540 := HS.trans h1 h13539 (by decide)
      obtain rfl := hp
      refine m_iconst F (v := 1) (by decide) e_X10_readLease_188 ?_
      refine m_iadd F e_X10_readLease_189 ?_
      refine Wm.topE (w := nI (P1.n5 + 1)) (nI_add P1.n5 1) ?_
      refine r_callV F e_X10_readLease_190 (q_X10_reads0E (x_l X) V c T Z u h P1 L _ _ (P1.n5 + 1)  h13540.1 (hob) hP1 (by omega) (by omega)) cb_X10_reads ml_X10_170 im_X10_reads se_X10_reads h13540 rfl rfl (rest := []) rfl (Nat.le_of_ble_eq_true rfl) ⟨Nat.le_of_ble_eq_true rfl, Nat.le_of_ble_eq_true rfl⟩ ⟨Nat.le_of_ble_eq_true rfl, Nat.le_of_ble_eq_true rfl⟩ (fun r σ13541 hp => ?_)
      obtain ⟨h13542, hp⟩ := hp
      have h13543 := HS.trans h13540 h13542 (by decide)
      obtain ⟨ea13544, eb13545, rfl⟩ := hp
      obtain ⟨P13546, eP13546⟩ : ∃ P9, P9 = (mkP P1.n0 P1.n2 (P1.n5 + 1) P1.n7 P1.m0 P1.m5 P1.w2 P1.w7 P1.kk P1.a P1.f P1.p) := ⟨_, rfl⟩
      rw [← eP13546] at h13543
      have fP13546 : P13546.n0 = P1.n0 ∧ P13546.n2 = P1.n2 ∧ P13546.n5 = P1.n5 + 1 ∧ P13546.n7 = P1.n7 ∧ P13546.m0 = P1.m0 ∧ P13546.m5 = P1.m5 ∧ P13546.w2 = P1.w2 ∧ P13546.w7 = P1.w7 ∧ P13546.kk = P1.kk ∧ P13546.a = P1.a ∧ P13546.f = P1.f ∧ P13546.p = P1.p := by rw [eP13546]; exact ⟨rfl, rfl, rfl, rfl, rfl, rfl, rfl, rfl, rfl, rfl, rfl, rfl⟩
      have oP13547 : OKP P13546 := by unfold OKP; omega
      exact m_vret F hQ e_X10_readLease_193 (⟨P13546, oP13547, (by unfold RP; omega), (RM.to hRM (fun j => (fld_eq (h13542.2 c (by rw [show kC c c = 1 from kC_at (k := 0) (by decide)]; decide))).trans (fld_eq (h13539.2 c (by rw [show kC c c = 1 from kC_at (k := 0) (by decide)]; decide)))) (fun i h5 _ => (eb13545 i h5).trans (elI_eq (h13539.2 (c + 2) (by rw [kC_at (k := 2) (by decide)]; decide)))) ((h13542.2 (c + 3) (by rw [kC_at (k := 3) (by decide)]; decide)).trans (h13539.2 (c + 3) (by rw [kC_at (k := 3) (by decide)]; decide))) ((h13542.2 (c + 7) (by rw [kC_at (k := 7) (by decide)]; decide)).trans (h13539.2 (c + 7) (by rw [kC_at (k := 7) (by decide)]; decide))) ((h13542.2 (c + 8) (by rw [kC_at (k := 8) (by decide)]; decide)).trans (h13539.2 (c + 8) (by rw [kC_at (k := 8) (by decide)]; decide))) ((h13542.2 (c + 9) (by rw [kC_at (k := 9) (by decide)]; decide)).trans (h13539.2 (c + 9) (by rw [kC_at (k := 9) (by decide)]; decide))) ((h13542.2 (c + 11) (by rw [kC_at (k := 11) (by decide)]; decide)).trans (h13539.2 (c + 11) (by rw [kC_at (k := 11) (by decide)]; decide))) (by show P13546.a = P1.a; omega) (by show P13546.n5 = P1.n5 + 1; omega) (by show P13546.n7 = P1.n7; omega)), h13543, rfl⟩)
    · have c160 : i < 48 := by have hh := mt (nI_leI (a := 48) (b := i) (by omega) (by omega)).mpr q160; omega
      refine m_aload_n F rfl e_X10_readLease_163 ?_
      refine r_get F e_X10_readLease_164 fl_X10_37 h1 rfl (fun v hv f13548 => ?_)
      obtain rfl : v = .ref (c + 10) := hv
      refine m_bipush F (v := 48) (by decide) e_X10_readLease_167 ?_
      refine m_iload_n F rfl e_X10_readLease_169 ?_
      refine m_imul F e_X10_readLease_170 ?_
      refine Wm.topE (w := nI (48 * a)) (pk_mul 48 a) ?_
      refine m_iload_n F rfl e_X10_readLease_171 ?_
      refine m_iadd F e_X10_readLease_172 ?_
      refine Wm.topE (w := nI ((48 * a) + i)) (nI_add (48 * a) i) ?_
      refine m_iconst F (v := 0) (by decide) e_X10_readLease_173 ?_
      refine r_iast F (g' := (⟨T, Z, u, h, P1, L⟩ : RG)) (len := 384) (j := (48 * a) + i) e_X10_readLease_174 h1 (fun _ h => h) (fun f h => ⟨f, rfl, h⟩) (by decide) (by decide) (nI_clamp (by omega)) (vp_in_nI (by omega) (by decide)) trivial (fun _ _ _ h => h) (fun _ _ _ h => h) (fun σ13549 h13550 g13551 f13552 g13553 => ?_)
      refine m_iinc F (v := nI (i + 1)) (lv' := [(2, .int (nI (i + 1))), (0, .ref c), (1, .int (nI a))]) e_X10_readLease_175 rfl (nI_add i 1) (by decide) rfl ?_
      refine m_goto F e_X10_readLease_178 ?_
      refine Wm.lvsub (lv' := [(0, .ref c), (1, .int (nI a)), (2, .int (nI (i + 1)))]) ?_ [1, 2, 0] rfl
      exact ih a (i + 1) P1 _ h13550 hP1 (by unfold RP; omega) ⟨by omega, by omega, by omega, by omega, RM.g hRM g13551 rfl rfl rfl⟩ (by omega)
set_option maxRecDepth 20000 in
theorem q_X10_readLeaseE (l : Launch) (V : VX) (c T Z u h : Nat) (P : NP) (L : Nat → LQ) (N : Nat) (σ : Mem) (n st : Nat) (so va : Int32) (ln : Nat) (fp : Int32) (t : Nat → Nat) (s9 v9 : Nat) (nm : Nat → Nat) (np lc no sd : Nat) (md : Nat → Nat → Bool) (h0 : HR V c ⟨T, Z, u, h, P, L⟩ σ) (hob : OKB L) (hP : OKP P) (hp0 : YD σ c n st so va ln 0 fp) (hp1 : BR σ c n t) (hp2 : n ≤ 700) (hp3 : P.a ≤ n) (hp4 : MT so va s9 v9) (hp5 : st ≤ n) (hp6 : NR σ c np no sd) (hp7 : MR σ c P.n5 nm) (hp8 : KR σ c P.n5 md) (hp9 : FR σ c 8 1 P.n5 md) (hp10 : FR σ c 9 2 P.n5 md) (hp11 : QR σ c P.n7 lc) (hp12 : np ≤ 12) (hp13 : no ≤ 4) (hp14 : sd ≤ 1) : Ct l V yX10_readLease cX10_readLease 3 none 8 0 0 N σ [.ref c] (fun r τ => ∃ P9 : NP, OKP P9 ∧ RP P P9 ∧ RM τ c n P9 (leaseS (tok t n) (st, s9, v9, P.a) P.n5 nm np P.n7 lc no sd md ln) ∧ HS V c (⟨T, Z, u, h, P9, L⟩ : RG) [0, 2, 12, 13, 14, 15, 16, 17, 18, 19, 20, 21, 22, 23] σ τ ∧ r = none) := by
  refine Ct.of (by decide) (Nat.le_of_ble_eq_true rfl) [(0, .ref c)] rfl (fun X hX F hQ => ?_)
  have hPP := hP
  unfold OKP at hPP
  have h1 : HS V c ⟨T, Z, u, h, P, L⟩ [0, 2, 12, 13, 14, 15, 16, 17, 18, 19, 20, 21, 22, 23] σ σ := HS.start h0
  have hyd13554 := hp0
  obtain ⟨yd13554, yd13555, yd13556, yd13557, yd13558, yd13559, yd13560⟩ := hyd13554
  have hn7 := hp2
  refine m_aload_n F rfl e_X10_readLease_0 ?_
  refine m_iconst F (v := 0) (by decide) e_X10_readLease_1 ?_
  refine r_callV F e_X10_readLease_2 (q_X10_reading0 (x_l X) V c T Z u h P L _ _  h1.1 (hob) hP ) cb_X10_reading ml_X10_157 im_X10_reading se_X10_reading h1 rfl rfl (rest := []) rfl (Nat.le_of_ble_eq_true rfl) ⟨Nat.le_of_ble_eq_true rfl, Nat.le_of_ble_eq_true rfl⟩ ⟨Nat.le_of_ble_eq_true rfl, Nat.le_of_ble_eq_true rfl⟩ (fun r σ13561 hp => ?_)
  obtain ⟨h13562, rfl⟩ := hp
  have h13563 := HS.trans h1 h13562 (by decide)
  have ga13564 := hp1.of (h13562.2 (c + 1) (by rw [kC_at (k := 1) (by decide)]; decide))
  have ga13565 := hp6.of (h13562.2 (c + 2) (by rw [kC_at (k := 2) (by decide)]; decide))
  have ga13566 := hp7.of (h13562.2 (c + 3) (by rw [kC_at (k := 3) (by decide)]; decide))
  have ga13567 := hp8.of (h13562.2 (c + 7) (by rw [kC_at (k := 7) (by decide)]; decide))
  have ga13568 := hp9.of (h13562.2 (c + 8) (by rw [kC_at (k := 8) (by decide)]; decide))
  have ga13569 := hp10.of (h13562.2 (c + 9) (by rw [kC_at (k := 9) (by decide)]; decide))
  have ga13570 := hp11.of (h13562.2 (c + 11) (by rw [kC_at (k := 11) (by decide)]; decide))
  refine Wm.topE (w := nI P.n5) (congrArg nI (by omega)) ?_
  refine m_iconst F (v := 4) (by decide) e_X10_readLease_5 ?_
  refine m_icmp_ne F e_X10_readLease_6 (fun q6 => ?_) (fun q6 => ?_)
  · have c6 : P.n5 ≠ 4 := by have hh := mt (nI_eq (a := P.n5) (b := 4) (by omega) (by omega)).mpr q6; omega
    refine m_aload_n F rfl e_X10_readLease_14 ?_
    refine r_callV F e_X10_readLease_15 (q_X10_goOnE (x_l X) V c T Z u h P L _ _  n st so va ln fp t h13563.1 (hob) hP  ⟨((fld_eq (h13562.2 c (by rw [show kC c c = 1 from kC_at (k := 0) (by decide)]; decide))).trans yd13554), ((fld_eq (h13562.2 c (by rw [show kC c c = 1 from kC_at (k := 0) (by decide)]; decide))).trans yd13555), ((fld_eq (h13562.2 c (by rw [show kC c c = 1 from kC_at (k := 0) (by decide)]; decide))).trans yd13556), ((fld_eq (h13562.2 c (by rw [show kC c c = 1 from kC_at (k := 0) (by decide)]; decide))).trans yd13557), ((fld_eq (h13562.2 c (by rw [show kC c c = 1 from kC_at (k := 0) (by decide)]; decide))).trans yd13558), ((fld_eq (h13562.2 c (by rw [show kC c c = 1 from kC_at (k := 0) (by decide)]; decide))).trans yd13559), ((fld_eq (h13562.2 c (by rw [show kC c c = 1 from kC_at (k := 0) (by decide)]; decide))).trans yd13560)⟩ ga13564 hn7 (by omega)) cb_X10_goOn ml_X10_154 im_X10_goOn se_X10_goOn h13563 rfl rfl (rest := []) rfl (Nat.le_of_ble_eq_true rfl) ⟨Nat.le_of_ble_eq_true rfl, Nat.le_of_ble_eq_true rfl⟩ ⟨Nat.le_of_ble_eq_true rfl, Nat.le_of_ble_eq_true rfl⟩ (fun r σ13571 hp => ?_)
    obtain ⟨P13574, oP13574, rP13574, pr13575, pr13576, h13572, hp⟩ := hp
    have h13573 := HS.trans h13563 h13572 (by decide)
    have xP13574 := oP13574
    unfold OKP at xP13574
    unfold RA at rP13574
    have ga13577 := ga13564.of (h13572.2 (c + 1) (by rw [kC_at (k := 1) (by decide)]; decide))
    have ga13578 := ga13565.of (h13572.2 (c + 2) (by rw [kC_at (k := 2) (by decide)]; decide))
    have ga13579 := ga13566.of (h13572.2 (c + 3) (by rw [kC_at (k := 3) (by decide)]; decide))
    have ga13580 := ga13567.of (h13572.2 (c + 7) (by rw [kC_at (k := 7) (by decide)]; decide))
    have ga13581 := ga13568.of (h13572.2 (c + 8) (by rw [kC_at (k := 8) (by decide)]; decide))
    have ga13582 := ga13569.of (h13572.2 (c + 9) (by rw [kC_at (k := 9) (by decide)]; decide))
    have ga13583 := ga13570.of (h13572.2 (c + 11) (by rw [kC_at (k := 11) (by decide)]; decide))
    obtain rfl := hp
    obtain ⟨so13584, va13585, mt13586, yd13587⟩ := pr13576
    generalize ek13588 : tok t n P.a = k13588 at pr13575 mt13586 yd13587
    have bk13588 := tok_ok (t := t) (n := n) P.a (by omega)
    rw [ek13588] at bk13588
    have hyd13589 := yd13587
    obtain ⟨yd13589, yd13590, yd13591, yd13592, yd13593, yd13594, yd13595⟩ := hyd13589
    refine m_aload_n F rfl e_X10_readLease_18 ?_
    refine r_getC F e_X10_readLease_19 fl_X10_141 h13573 (yd13594) ?_
    refine m_if_eq F e_X10_readLease_22 (fun _ => ?_) (fun q => absurd (by decide) q)
    refine m_aload_n F rfl e_X10_readLease_26 ?_
    by_cases hs13596 : k13588.2.1 = 2
    · obtain ⟨q13597, q13598, q13599⟩ := mt13586.w hs13596
      subst q13597
      subst q13598
      refine r_getC F e_X10_readLease_27 fl_X10_110 h13573 (yd13592) ?_
      refine m_iconst F (v := 1) (by decide) e_X10_readLease_30 ?_
      refine m_icmp_eq F e_X10_readLease_31 (fun _ => ?_) (fun q => absurd (by decide) q)
      refine m_aload_n F rfl e_X10_readLease_42 ?_
      refine m_iconst F (v := 4) (by decide) e_X10_readLease_43 ?_
      refine m_aload_n F rfl e_X10_readLease_44 ?_
      refine m_iconst F (v := 0) (by decide) e_X10_readLease_45 ?_
      refine r_callV F e_X10_readLease_46 (q_X10_reading0 (x_l X) V c T Z u h P13574 L _ _  h13573.1 (hob) oP13574 ) cb_X10_reading ml_X10_157 im_X10_reading se_X10_reading h13573 rfl rfl (rest := [.int 4, .ref c]) rfl (Nat.le_of_ble_eq_true rfl) ⟨Nat.le_of_ble_eq_true rfl, Nat.le_of_ble_eq_true rfl⟩ ⟨Nat.le_of_ble_eq_true rfl, Nat.le_of_ble_eq_true rfl⟩ (fun r σ13600 hp => ?_)
      obtain ⟨h13601, rfl⟩ := hp
      have h13602 := HS.trans h13573 h13601 (by decide)
      have ga13603 := ga13577.of (h13601.2 (c + 1) (by rw [kC_at (k := 1) (by decide)]; decide))
      have ga13604 := ga13578.of (h13601.2 (c + 2) (by rw [kC_at (k := 2) (by decide)]; decide))
      have ga13605 := ga13579.of (h13601.2 (c + 3) (by rw [kC_at (k := 3) (by decide)]; decide))
      have ga13606 := ga13580.of (h13601.2 (c + 7) (by rw [kC_at (k := 7) (by decide)]; decide))
      have ga13607 := ga13581.of (h13601.2 (c + 8) (by rw [kC_at (k := 8) (by decide)]; decide))
      have ga13608 := ga13582.of (h13601.2 (c + 9) (by rw [kC_at (k := 9) (by decide)]; decide))
      have ga13609 := ga13583.of (h13601.2 (c + 11) (by rw [kC_at (k := 11) (by decide)]; decide))
      refine Wm.topE (w := nI P.n5) (congrArg nI (by omega)) ?_
      refine m_aload_n F rfl e_X10_readLease_49 ?_
      refine r_getC F e_X10_readLease_50 fl_X10_120 h13602 ((fld_eq (h13601.2 c (by rw [show kC c c = 1 from kC_at (k := 0) (by decide)]; decide))).trans yd13593) ?_
      refine r_callV F e_X10_readLease_53 (q_X10_namedAtE (x_l X) V c T Z u h P13574 L _ _ P.n5 k13588.2.2.1 nm h13602.1 (hob) oP13574 (by omega) (by omega) ga13605) cb_X10_namedAt ml_X10_161 im_X10_namedAt se_X10_namedAt h13602 rfl rfl (rest := []) rfl (Nat.le_of_ble_eq_true rfl) ⟨Nat.le_of_ble_eq_true rfl, Nat.le_of_ble_eq_true rfl⟩ ⟨Nat.le_of_ble_eq_true rfl, Nat.le_of_ble_eq_true rfl⟩ (fun r σ13610 hp => ?_)
      obtain ⟨h13611, hp⟩ := hp
      have h13612 := HS.trans h13602 h13611 (by decide)
      have ga13613 := ga13603.of (h13611.2 (c + 1) (by rw [kC_at (k := 1) (by decide)]; decide))
      have ga13614 := ga13604.of (h13611.2 (c + 2) (by rw [kC_at (k := 2) (by decide)]; decide))
      have ga13615 := ga13605.of (h13611.2 (c + 3) (by rw [kC_at (k := 3) (by decide)]; decide))
      have ga13616 := ga13606.of (h13611.2 (c + 7) (by rw [kC_at (k := 7) (by decide)]; decide))
      have ga13617 := ga13607.of (h13611.2 (c + 8) (by rw [kC_at (k := 8) (by decide)]; decide))
      have ga13618 := ga13608.of (h13611.2 (c + 9) (by rw [kC_at (k := 9) (by decide)]; decide))
      have ga13619 := ga13609.of (h13611.2 (c + 11) (by rw [kC_at (k := 11) (by decide)]; decide))
      rcases hp with ⟨e13620, rfl⟩ | ⟨e13620, rfl⟩
      · refine m_iconst F (v := (-1)) (by decide) e_X10_readLease_56 ?_
        refine m_icmp_eq F e_X10_readLease_57 (fun q57 => ?_) (fun q57 => ?_)
        · exact absurd q57 (nI_nm1 (by omega))
        · refine m_aload_n F rfl e_X10_readLease_60 ?_
          refine m_iconst F (v := 3) (by decide) e_X10_readLease_61 ?_
          refine r_callV F e_X10_readLease_62 (q_X10_wrongE (x_l X) V c T Z u h P13574 L _ _ 3 n k13588.1 1 (nI k13588.2.2.1) ln fp h13612.1 (hob) oP13574 (by omega) ⟨((fld_eq (h13611.2 c (by rw [show kC c c = 1 from kC_at (k := 0) (by decide)]; decide))).trans ((fld_eq (h13601.2 c (by rw [show kC c c = 1 from kC_at (k := 0) (by decide)]; decide))).trans yd13589)), ((fld_eq (h13611.2 c (by rw [show kC c c = 1 from kC_at (k := 0) (by decide)]; decide))).trans ((fld_eq (h13601.2 c (by rw [show kC c c = 1 from kC_at (k := 0) (by decide)]; decide))).trans yd13590)), ((fld_eq (h13611.2 c (by rw [show kC c c = 1 from kC_at (k := 0) (by decide)]; decide))).trans ((fld_eq (h13601.2 c (by rw [show kC c c = 1 from kC_at (k := 0) (by decide)]; decide))).trans yd13591)), ((fld_eq (h13611.2 c (by rw [show kC c c = 1 from kC_at (k := 0) (by decide)]; decide))).trans ((fld_eq (h13601.2 c (by rw [show kC c c = 1 from kC_at (k := 0) (by decide)]; decide))).trans yd13592)), ((fld_eq (h13611.2 c (by rw [show kC c c = 1 from kC_at (k := 0) (by decide)]; decide))).trans ((fld_eq (h13601.2 c (by rw [show kC c c = 1 from kC_at (k := 0) (by decide)]; decide))).trans yd13593)), ((fld_eq (h13611.2 c (by rw [show kC c c = 1 from kC_at (k := 0) (by decide)]; decide))).trans ((fld_eq (h13601.2 c (by rw [show kC c c = 1 from kC_at (k := 0) (by decide)]; decide))).trans yd13594)), ((fld_eq (h13611.2 c (by rw [show kC c c = 1 from kC_at (k := 0) (by decide)]; decide))).trans ((fld_eq (h13601.2 c (by rw [show kC c c = 1 from kC_at (k := 0) (by decide)]; decide))).trans yd13595))⟩ (by decide)) cb_X10_wrong ml_X10_150 im_X10_wrong se_X10_wrong h13612 rfl rfl (rest := []) rfl (Nat.le_of_ble_eq_true rfl) ⟨Nat.le_of_ble_eq_true rfl, Nat.le_of_ble_eq_true rfl⟩ ⟨Nat.le_of_ble_eq_true rfl, Nat.le_of_ble_eq_true rfl⟩ (fun r σ13621 hp => ?_)
          obtain ⟨h13622, hp⟩ := hp
          have h13623 := HS.trans h13612 h13622 (by decide)
          have ga13624 := ga13613.of (h13622.2 (c + 1) (by rw [kC_at (k := 1) (by decide)]; decide))
          have ga13625 := ga13614.of (h13622.2 (c + 2) (by rw [kC_at (k := 2) (by decide)]; decide))
          have ga13626 := ga13615.of (h13622.2 (c + 3) (by rw [kC_at (k := 3) (by decide)]; decide))
          have ga13627 := ga13616.of (h13622.2 (c + 7) (by rw [kC_at (k := 7) (by decide)]; decide))
          have ga13628 := ga13617.of (h13622.2 (c + 8) (by rw [kC_at (k := 8) (by decide)]; decide))
          have ga13629 := ga13618.of (h13622.2 (c + 9) (by rw [kC_at (k := 9) (by decide)]; decide))
          have ga13630 := ga13619.of (h13622.2 (c + 11) (by rw [kC_at (k := 11) (by decide)]; decide))
          obtain ⟨hp, rfl⟩ := hp
          have hyd13631 := hp
          obtain ⟨yd13631, yd13632, yd13633, yd13634, yd13635, yd13636, yd13637⟩ := hyd13631
          refine m_aload_n F rfl e_X10_readLease_65 ?_
          refine r_getC F e_X10_readLease_66 fl_X10_141 h13623 (yd13636) ?_
          refine m_if_eq F e_X10_readLease_69 (fun q => absurd q (by decide)) (fun _ => ?_)
          have h13638 : HS V c _ [0, 2, 12, 13, 14, 15, 16, 17, 18, 19, 20, 21, 22, 23] _ _ := ⟨HR.mono (Z' := Z) (by intro e; first | rfl | assumption | omega) h13623.1, h13623.2⟩
          exact m_vret F hQ e_X10_readLease_72 (⟨P13574, oP13574, (by unfold RP; omega), (by unfold leaseS; dsimp only; rw [if_neg (by omega), ek13588, newK_3 hs13596 e13620]; exact RM.l (yd13636) (yd13637) (by decide) (by decide) (by omega)), h13638, rfl⟩)
      · refine m_iconst F (v := (-1)) (by decide) e_X10_readLease_56 ?_
        refine m_icmp_eq F e_X10_readLease_57 (fun _ => ?_) (fun q => absurd (by decide) q)
        refine m_aload_n F rfl e_X10_readLease_65 ?_
        refine r_getC F e_X10_readLease_66 fl_X10_141 h13612 ((fld_eq (h13611.2 c (by rw [show kC c c = 1 from kC_at (k := 0) (by decide)]; decide))).trans ((fld_eq (h13601.2 c (by rw [show kC c c = 1 from kC_at (k := 0) (by decide)]; decide))).trans yd13594)) ?_
        refine m_if_eq F e_X10_readLease_69 (fun _ => ?_) (fun q => absurd (by decide) q)
        refine m_iconst F (v := 4) (by decide) e_X10_readLease_73 ?_
        refine m_aload_n F rfl e_X10_readLease_74 ?_
        refine m_iconst F (v := 0) (by decide) e_X10_readLease_75 ?_
        refine r_callV F e_X10_readLease_76 (q_X10_reading0 (x_l X) V c T Z u h P13574 L _ _  h13612.1 (hob) oP13574 ) cb_X10_reading ml_X10_157 im_X10_reading se_X10_reading h13612 rfl rfl (rest := [.int 4]) rfl (Nat.le_of_ble_eq_true rfl) ⟨Nat.le_of_ble_eq_true rfl, Nat.le_of_ble_eq_true rfl⟩ ⟨Nat.le_of_ble_eq_true rfl, Nat.le_of_ble_eq_true rfl⟩ (fun r σ13639 hp => ?_)
        obtain ⟨h13640, rfl⟩ := hp
        have h13641 := HS.trans h13612 h13640 (by decide)
        have ga13642 := ga13613.of (h13640.2 (c + 1) (by rw [kC_at (k := 1) (by decide)]; decide))
        have ga13643 := ga13614.of (h13640.2 (c + 2) (by rw [kC_at (k := 2) (by decide)]; decide))
        have ga13644 := ga13615.of (h13640.2 (c + 3) (by rw [kC_at (k := 3) (by decide)]; decide))
        have ga13645 := ga13616.of (h13640.2 (c + 7) (by rw [kC_at (k := 7) (by decide)]; decide))
        have ga13646 := ga13617.of (h13640.2 (c + 8) (by rw [kC_at (k := 8) (by decide)]; decide))
        have ga13647 := ga13618.of (h13640.2 (c + 9) (by rw [kC_at (k := 9) (by decide)]; decide))
        have ga13648 := ga13619.of (h13640.2 (c + 11) (by rw [kC_at (k := 11) (by decide)]; decide))
        refine Wm.topE (w := nI P.n5) (congrArg nI (by omega)) ?_
        refine m_iadd F e_X10_readLease_79 ?_
        refine Wm.topE (w := nI (4 + P.n5)) (nI_add 4 P.n5) ?_
        refine m_istore_n F (lv' := [(1, .int (nI (4 + P.n5))), (0, .ref c)]) e_X10_readLease_80 (by decide) rfl ?_
        refine m_aload_n F rfl e_X10_readLease_81 ?_
        refine r_get F e_X10_readLease_82 fl_X10_16 h13641 rfl (fun v hv f13649 => ?_)
        obtain rfl : v = .ref (c + 3) := hv
        refine m_iload_n F rfl e_X10_readLease_85 ?_
        refine m_aload_n F rfl e_X10_readLease_86 ?_
        refine r_getC F e_X10_readLease_87 fl_X10_120 h13641 ((fld_eq (h13640.2 c (by rw [show kC c c = 1 from kC_at (k := 0) (by decide)]; decide))).trans ((fld_eq (h13611.2 c (by rw [show kC c c = 1 from kC_at (k := 0) (by decide)]; decide))).trans ((fld_eq (h13601.2 c (by rw [show kC c c = 1 from kC_at (k := 0) (by decide)]; decide))).trans yd13593))) ?_
        refine r_iast F (g' := (⟨T, Z, u, h, P13574, L⟩ : RG)) (len := 8) (j := 4 + P.n5) e_X10_readLease_90 h13641 (fun _ h => h) (fun f h => ⟨f, rfl, h⟩) (by decide) (by decide) (nI_clamp (by omega)) (vp_in_nI (by omega) (by decide)) trivial (fun _ _ _ h => h) (fun _ _ _ h => h) (fun σ13650 h13651 g13652 f13653 g13654 => ?_)
        have ga13655 := ga13642.of (g13652 _ (by omega))
        have ga13656 := ga13643.of (g13652 _ (by omega))
        have ga13657 := ga13645.of (g13652 _ (by omega))
        have ga13658 := ga13646.of (g13652 _ (by omega))
        have ga13659 := ga13647.of (g13652 _ (by omega))
        have ga13660 := ga13648.of (g13652 _ (by omega))
        have ga13661 := MR.put ga13644 (by omega) f13653 g13654
        refine m_aload_n F rfl e_X10_readLease_91 ?_
        refine r_callV F e_X10_readLease_92 (q_X10_tokenE (x_l X) V c T Z u h P13574 L _ _  n k13588.1 1 (nI k13588.2.2.1) ln 0 fp t h13651.1 (hob) oP13574  ⟨((fld_eq (g13652 _ (by omega))).trans ((fld_eq (h13640.2 c (by rw [show kC c c = 1 from kC_at (k := 0) (by decide)]; decide))).trans ((fld_eq (h13611.2 c (by rw [show kC c c = 1 from kC_at (k := 0) (by decide)]; decide))).trans ((fld_eq (h13601.2 c (by rw [show kC c c = 1 from kC_at (k := 0) (by decide)]; decide))).trans yd13589)))), ((fld_eq (g13652 _ (by omega))).trans ((fld_eq (h13640.2 c (by rw [show kC c c = 1 from kC_at (k := 0) (by decide)]; decide))).trans ((fld_eq (h13611.2 c (by rw [show kC c c = 1 from kC_at (k := 0) (by decide)]; decide))).trans ((fld_eq (h13601.2 c (by rw [show kC c c = 1 from kC_at (k := 0) (by decide)]; decide))).trans yd13590)))), ((fld_eq (g13652 _ (by omega))).trans ((fld_eq (h13640.2 c (by rw [show kC c c = 1 from kC_at (k := 0) (by decide)]; decide))).trans ((fld_eq (h13611.2 c (by rw [show kC c c = 1 from kC_at (k := 0) (by decide)]; decide))).trans ((fld_eq (h13601.2 c (by rw [show kC c c = 1 from kC_at (k := 0) (by decide)]; decide))).trans yd13591)))), ((fld_eq (g13652 _ (by omega))).trans ((fld_eq (h13640.2 c (by rw [show kC c c = 1 from kC_at (k := 0) (by decide)]; decide))).trans ((fld_eq (h13611.2 c (by rw [show kC c c = 1 from kC_at (k := 0) (by decide)]; decide))).trans ((fld_eq (h13601.2 c (by rw [show kC c c = 1 from kC_at (k := 0) (by decide)]; decide))).trans yd13592)))), ((fld_eq (g13652 _ (by omega))).trans ((fld_eq (h13640.2 c (by rw [show kC c c = 1 from kC_at (k := 0) (by decide)]; decide))).trans ((fld_eq (h13611.2 c (by rw [show kC c c = 1 from kC_at (k := 0) (by decide)]; decide))).trans ((fld_eq (h13601.2 c (by rw [show kC c c = 1 from kC_at (k := 0) (by decide)]; decide))).trans yd13593)))), ((fld_eq (g13652 _ (by omega))).trans ((fld_eq (h13640.2 c (by rw [show kC c c = 1 from kC_at (k := 0) (by decide)]; decide))).trans ((fld_eq (h13611.2 c (by rw [show kC c c = 1 from kC_at (k := 0) (by decide)]; decide))).trans ((fld_eq (h13601.2 c (by rw [show kC c c = 1 from kC_at (k := 0) (by decide)]; decide))).trans yd13594)))), ((fld_eq (g13652 _ (by omega))).trans ((fld_eq (h13640.2 c (by rw [show kC c c = 1 from kC_at (k := 0) (by decide)]; decide))).trans ((fld_eq (h13611.2 c (by rw [show kC c c = 1 from kC_at (k := 0) (by decide)]; decide))).trans ((fld_eq (h13601.2 c (by rw [show kC c c = 1 from kC_at (k := 0) (by decide)]; decide))).trans yd13595))))⟩ ga13655 hn7 (by omega)) cb_X10_token ml_X10_147 im_X10_token se_X10_token h13651 rfl rfl (rest := []) rfl (Nat.le_of_ble_eq_true rfl) ⟨Nat.le_of_ble_eq_true rfl, Nat.le_of_ble_eq_true rfl⟩ ⟨Nat.le_of_ble_eq_true rfl, Nat.le_of_ble_eq_true rfl⟩ (fun r σ13662 hp => ?_)
        obtain ⟨P13665, oP13665, rP13665, pr13666, pr13667, h13663, hp⟩ := hp
        have h13664 := HS.trans h13651 h13663 (by decide)
        have xP13665 := oP13665
        unfold OKP at xP13665
        unfold RA at rP13665
        have ga13668 := ga13655.of (h13663.2 (c + 1) (by rw [kC_at (k := 1) (by decide)]; decide))
        have ga13669 := ga13656.of (h13663.2 (c + 2) (by rw [kC_at (k := 2) (by decide)]; decide))
        have ga13670 := ga13657.of (h13663.2 (c + 7) (by rw [kC_at (k := 7) (by decide)]; decide))
        have ga13671 := ga13658.of (h13663.2 (c + 8) (by rw [kC_at (k := 8) (by decide)]; decide))
        have ga13672 := ga13659.of (h13663.2 (c + 9) (by rw [kC_at (k := 9) (by decide)]; decide))
        have ga13673 := ga13660.of (h13663.2 (c + 11) (by rw [kC_at (k := 11) (by decide)]; decide))
        have ga13674 := ga13661.of (h13663.2 (c + 3) (by rw [kC_at (k := 3) (by decide)]; decide))
        obtain rfl := hp
        obtain ⟨so13675, va13676, mt13677, yd13678⟩ := pr13667
        generalize ek13679 : tok t n P13574.a = k13679 at pr13666 mt13677 yd13678
        have bk13679 := tok_ok (t := t) (n := n) P13574.a (by omega)
        rw [ek13679] at bk13679
        rw [show P13574.a = k13588.2.2.2 by omega] at ek13679
        have hyd13680 := yd13678
        obtain ⟨yd13680, yd13681, yd13682, yd13683, yd13684, yd13685, yd13686⟩ := hyd13680
        refine m_aload_n F rfl e_X10_readLease_95 ?_
        refine r_get F e_X10_readLease_96 fl_X10_19 h13664 rfl (fun v hv f13687 => ?_)
        obtain rfl : v = .ref (c + 4) := hv
        refine m_iload_n F rfl e_X10_readLease_99 ?_
        refine m_aload_n F rfl e_X10_readLease_100 ?_
        refine m_iconst F (v := 0) (by decide) e_X10_readLease_101 ?_
        refine m_bipush F (v := 20) (by decide) e_X10_readLease_102 ?_
        refine r_callV F e_X10_readLease_104 (q_X10_numeralE (x_l X) V c T Z u h P13665 L _ _ 0 20 n k13679.1 so13675 va13676 ln fp t k13679.2.1 k13679.2.2.1 h13664.1 (hob) oP13665 (by omega) (by omega) ⟨(yd13680), (yd13681), (yd13682), (yd13683), (yd13684), (yd13685), (yd13686)⟩ ga13668 hn7 (by omega) mt13677) cb_X10_numeral ml_X10_165 im_X10_numeral se_X10_numeral h13664 rfl rfl (rest := [.int (nI (4 + P.n5)), .ref (c + 4)]) rfl (Nat.le_of_ble_eq_true rfl) ⟨Nat.le_of_ble_eq_true rfl, Nat.le_of_ble_eq_true rfl⟩ ⟨Nat.le_of_ble_eq_true rfl, Nat.le_of_ble_eq_true rfl⟩ (fun r σ13688 hp => ?_)
        obtain ⟨P13691, oP13691, rP13691, pr13692, h13689, hp⟩ := hp
        have h13690 := HS.trans h13664 h13689 (by decide)
        have xP13691 := oP13691
        unfold OKP at xP13691
        unfold RA at rP13691
        have ga13693 := ga13668.of (h13689.2 (c + 1) (by rw [kC_at (k := 1) (by decide)]; decide))
        have ga13694 := ga13669.of (h13689.2 (c + 2) (by rw [kC_at (k := 2) (by decide)]; decide))
        have ga13695 := ga13670.of (h13689.2 (c + 7) (by rw [kC_at (k := 7) (by decide)]; decide))
        have ga13696 := ga13671.of (h13689.2 (c + 8) (by rw [kC_at (k := 8) (by decide)]; decide))
        have ga13697 := ga13672.of (h13689.2 (c + 9) (by rw [kC_at (k := 9) (by decide)]; decide))
        have ga13698 := ga13673.of (h13689.2 (c + 11) (by rw [kC_at (k := 11) (by decide)]; decide))
        have ga13699 := ga13674.of (h13689.2 (c + 3) (by rw [kC_at (k := 3) (by decide)]; decide))
        rcases pr13692 with ⟨e13700, l13702, l13703, ea13704, ⟨so13705, va13706, mt13707, yd13708⟩, rfl⟩ | ⟨e13700, ⟨fa13709, fb13710⟩, rfl⟩ | ⟨e13700, e13701, ⟨fa13709, fb13710⟩, rfl⟩
        · have bk13711 := tok_ok (t := t) (n := n) P13665.a (by omega)
          generalize ek13711 : tok t n P13665.a = k13711 at ea13704 mt13707 yd13708 bk13711
          rw [show P13665.a = k13679.2.2.2 by omega] at ek13711
          have hyd13712 := yd13708
          obtain ⟨yd13712, yd13713, yd13714, yd13715, yd13716, yd13717, yd13718⟩ := hyd13712
          refine r_iast F (g' := (⟨T, Z, u, h, P13691, L⟩ : RG)) (len := 8) (j := 4 + P.n5) e_X10_readLease_107 h13690 (fun _ h => h) (fun f h => ⟨f, rfl, h⟩) (by decide) (by decide) (nI_clamp (by omega)) (vp_in_nI (by omega) (by decide)) trivial (fun _ _ _ h => h) (fun _ _ _ h => h) (fun σ13719 h13720 g13721 f13722 g13723 => ?_)
          have ga13724 := ga13693.of (g13721 _ (by omega))
          have ga13725 := ga13694.of (g13721 _ (by omega))
          have ga13726 := ga13695.of (g13721 _ (by omega))
          have ga13727 := ga13696.of (g13721 _ (by omega))
          have ga13728 := ga13697.of (g13721 _ (by omega))
          have ga13729 := ga13698.of (g13721 _ (by omega))
          have ga13730 := ga13699.of (g13721 _ (by omega))
          refine m_aload_n F rfl e_X10_readLease_108 ?_
          refine r_get F e_X10_readLease_109 fl_X10_22 h13720 rfl (fun v hv f13731 => ?_)
          obtain rfl : v = .ref (c + 5) := hv
          refine m_iload_n F rfl e_X10_readLease_112 ?_
          refine m_aload_n F rfl e_X10_readLease_113 ?_
          refine m_iconst F (v := 1) (by decide) e_X10_readLease_114 ?_
          refine m_bipush F (v := 48) (by decide) e_X10_readLease_115 ?_
          refine r_callV F e_X10_readLease_117 (q_X10_numeralE (x_l X) V c T Z u h P13691 L _ _ 1 48 n k13711.1 so13705 va13706 ln fp t k13711.2.1 k13711.2.2.1 h13720.1 (hob) oP13691 (by omega) (by omega) ⟨((fld_eq (g13721 _ (by omega))).trans yd13712), ((fld_eq (g13721 _ (by omega))).trans yd13713), ((fld_eq (g13721 _ (by omega))).trans yd13714), ((fld_eq (g13721 _ (by omega))).trans yd13715), ((fld_eq (g13721 _ (by omega))).trans yd13716), ((fld_eq (g13721 _ (by omega))).trans yd13717), ((fld_eq (g13721 _ (by omega))).trans yd13718)⟩ ga13724 hn7 (by omega) mt13707) cb_X10_numeral ml_X10_165 im_X10_numeral se_X10_numeral h13720 rfl rfl (rest := [.int (nI (4 + P.n5)), .ref (c + 5)]) rfl (Nat.le_of_ble_eq_true rfl) ⟨Nat.le_of_ble_eq_true rfl, Nat.le_of_ble_eq_true rfl⟩ ⟨Nat.le_of_ble_eq_true rfl, Nat.le_of_ble_eq_true rfl⟩ (fun r σ13732 hp => ?_)
          obtain ⟨P13735, oP13735, rP13735, pr13736, h13733, hp⟩ := hp
          have h13734 := HS.trans h13720 h13733 (by decide)
          have xP13735 := oP13735
          unfold OKP at xP13735
          unfold RA at rP13735
          have ga13737 := ga13724.of (h13733.2 (c + 1) (by rw [kC_at (k := 1) (by decide)]; decide))
          have ga13738 := ga13725.of (h13733.2 (c + 2) (by rw [kC_at (k := 2) (by decide)]; decide))
          have ga13739 := ga13726.of (h13733.2 (c + 7) (by rw [kC_at (k := 7) (by decide)]; decide))
          have ga13740 := ga13727.of (h13733.2 (c + 8) (by rw [kC_at (k := 8) (by decide)]; decide))
          have ga13741 := ga13728.of (h13733.2 (c + 9) (by rw [kC_at (k := 9) (by decide)]; decide))
          have ga13742 := ga13729.of (h13733.2 (c + 11) (by rw [kC_at (k := 11) (by decide)]; decide))
          have ga13743 := ga13730.of (h13733.2 (c + 3) (by rw [kC_at (k := 3) (by decide)]; decide))
          rcases pr13736 with ⟨e13744, l13746, l13747, ea13748, ⟨so13749, va13750, mt13751, yd13752⟩, rfl⟩ | ⟨e13744, ⟨fa13753, fb13754⟩, rfl⟩ | ⟨e13744, e13745, ⟨fa13753, fb13754⟩, rfl⟩
          · have bk13755 := tok_ok (t := t) (n := n) P13691.a (by omega)
            generalize ek13755 : tok t n P13691.a = k13755 at ea13748 mt13751 yd13752 bk13755
            rw [show P13691.a = k13711.2.2.2 by omega] at ek13755
            have hyd13756 := yd13752
            obtain ⟨yd13756, yd13757, yd13758, yd13759, yd13760, yd13761, yd13762⟩ := hyd13756
            refine r_iast F (g' := (⟨T, Z, u, h, (mkP P13735.n0 P13735.n2 P13735.n5 P13735.n7 P13735.m0 (P13735.n5 + 1) P13735.w2 P13735.w7 P13735.kk P13735.a P13735.f P13735.p), L⟩ : RG)) (len := 8) (j := 4 + P.n5) e_X10_readLease_120 h13734 (fun _ h => h) (fun f h => ⟨f, rfl, h⟩) (by decide) (by decide) (nI_clamp (by omega)) (vp_in_nI (by omega) (by decide)) ⟨k13711.2.2.1, by omega, rfl, fun h7 _ => absurd h7 (by omega), fun _ _ => by omega⟩ (fun i hi y hy => by obtain ⟨n9, a9, b9, c9, d9⟩ := hy; exact ⟨n9, a9, b9, c9, fun h7 h8 => d9 h7 (show i < 4 + P13735.m5 by have h6 : i < 4 + (P13735.n5 + 1) := h8; omega)⟩) (CR.chg (by intro k hk i x h; unfold EI at h ⊢; split at h <;> first | exact h | exact absurd rfl hk | trivial) rfl rfl rfl rfl) (fun σ13763 h13764 g13765 f13766 g13767 => ?_)
            have ga13768 := ga13737.of (g13765 _ (by omega))
            have ga13769 := ga13738.of (g13765 _ (by omega))
            have ga13770 := ga13739.of (g13765 _ (by omega))
            have ga13771 := ga13740.of (g13765 _ (by omega))
            have ga13772 := ga13741.of (g13765 _ (by omega))
            have ga13773 := ga13742.of (g13765 _ (by omega))
            have ga13774 := ga13743.of (g13765 _ (by omega))
            obtain ⟨P13775, eP13775⟩ : ∃ P9, P9 = (mkP P13735.n0 P13735.n2 P13735.n5 P13735.n7 P13735.m0 (P13735.n5 + 1) P13735.w2 P13735.w7 P13735.kk P13735.a P13735.f P13735.p) := ⟨_, rfl⟩
            rw [← eP13775] at h13764
            have fP13775 : P13775.n0 = P13735.n0 ∧ P13775.n2 = P13735.n2 ∧ P13775.n5 = P13735.n5 ∧ P13775.n7 = P13735.n7 ∧ P13775.m0 = P13735.m0 ∧ P13775.m5 = P13735.n5 + 1 ∧ P13775.w2 = P13735.w2 ∧ P13775.w7 = P13735.w7 ∧ P13775.kk = P13735.kk ∧ P13775.a = P13735.a ∧ P13775.f = P13735.f ∧ P13775.p = P13735.p := by rw [eP13775]; exact ⟨rfl, rfl, rfl, rfl, rfl, rfl, rfl, rfl, rfl, rfl, rfl, rfl⟩
            refine m_aload_n F rfl e_X10_readLease_121 ?_
            refine r_get F e_X10_readLease_122 fl_X10_25 h13764 rfl (fun v hv f13776 => ?_)
            obtain rfl : v = .ref (c + 6) := hv
            refine m_iload_n F rfl e_X10_readLease_125 ?_
            refine m_aload_n F rfl e_X10_readLease_126 ?_
            refine m_iconst F (v := 0) (by decide) e_X10_readLease_127 ?_
            refine m_ldc F kc_X10_169 e_X10_readLease_128 ?_
            have oP13780 : OKP P13775 := by unfold OKP; omega
            refine r_callV F e_X10_readLease_130 (q_X10_numeralE (x_l X) V c T Z u h P13775 L _ _ 0 200000 n k13755.1 so13749 va13750 ln fp t k13755.2.1 k13755.2.2.1 h13764.1 (hob) oP13780 (by omega) (by omega) ⟨((fld_eq (g13765 _ (by omega))).trans yd13756), ((fld_eq (g13765 _ (by omega))).trans yd13757), ((fld_eq (g13765 _ (by omega))).trans yd13758), ((fld_eq (g13765 _ (by omega))).trans yd13759), ((fld_eq (g13765 _ (by omega))).trans yd13760), ((fld_eq (g13765 _ (by omega))).trans yd13761), ((fld_eq (g13765 _ (by omega))).trans yd13762)⟩ ga13768 hn7 (by omega) mt13751) cb_X10_numeral ml_X10_165 im_X10_numeral se_X10_numeral h13764 rfl rfl (rest := [.int (nI (4 + P.n5)), .ref (c + 6)]) rfl (Nat.le_of_ble_eq_true rfl) ⟨Nat.le_of_ble_eq_true rfl, Nat.le_of_ble_eq_true rfl⟩ ⟨Nat.le_of_ble_eq_true rfl, Nat.le_of_ble_eq_true rfl⟩ (fun r σ13777 hp => ?_)
            obtain ⟨P13781, oP13781, rP13781, pr13782, h13778, hp⟩ := hp
            have h13779 := HS.trans h13764 h13778 (by decide)
            have xP13781 := oP13781
            unfold OKP at xP13781
            unfold RA at rP13781
            have ga13783 := ga13768.of (h13778.2 (c + 1) (by rw [kC_at (k := 1) (by decide)]; decide))
            have ga13784 := ga13769.of (h13778.2 (c + 2) (by rw [kC_at (k := 2) (by decide)]; decide))
            have ga13785 := ga13770.of (h13778.2 (c + 7) (by rw [kC_at (k := 7) (by decide)]; decide))
            have ga13786 := ga13771.of (h13778.2 (c + 8) (by rw [kC_at (k := 8) (by decide)]; decide))
            have ga13787 := ga13772.of (h13778.2 (c + 9) (by rw [kC_at (k := 9) (by decide)]; decide))
            have ga13788 := ga13773.of (h13778.2 (c + 11) (by rw [kC_at (k := 11) (by decide)]; decide))
            have ga13789 := ga13774.of (h13778.2 (c + 3) (by rw [kC_at (k := 3) (by decide)]; decide))
            rcases pr13782 with ⟨e13790, l13792, l13793, ea13794, ⟨so13795, va13796, mt13797, yd13798⟩, rfl⟩ | ⟨e13790, ⟨fa13799, fb13800⟩, rfl⟩ | ⟨e13790, e13791, ⟨fa13799, fb13800⟩, rfl⟩
            · have bk13801 := tok_ok (t := t) (n := n) P13775.a (by omega)
              generalize ek13801 : tok t n P13775.a = k13801 at ea13794 mt13797 yd13798 bk13801
              rw [show P13775.a = k13755.2.2.2 by omega] at ek13801
              have hyd13802 := yd13798
              obtain ⟨yd13802, yd13803, yd13804, yd13805, yd13806, yd13807, yd13808⟩ := hyd13802
              refine r_iast F (g' := (⟨T, Z, u, h, P13781, L⟩ : RG)) (len := 8) (j := 4 + P.n5) e_X10_readLease_133 h13779 (fun _ h => h) (fun f h => ⟨f, rfl, h⟩) (by decide) (by decide) (nI_clamp (by omega)) (vp_in_nI (by omega) (by decide)) ⟨k13755.2.2.1, by omega, rfl⟩ (fun _ _ _ h => h) (fun _ _ _ h => h) (fun σ13809 h13810 g13811 f13812 g13813 => ?_)
              have ga13814 := ga13783.of (g13811 _ (by omega))
              have ga13815 := ga13784.of (g13811 _ (by omega))
              have ga13816 := ga13785.of (g13811 _ (by omega))
              have ga13817 := ga13786.of (g13811 _ (by omega))
              have ga13818 := ga13787.of (g13811 _ (by omega))
              have ga13819 := ga13788.of (g13811 _ (by omega))
              have ga13820 := ga13789.of (g13811 _ (by omega))
              refine m_aload_n F rfl e_X10_readLease_134 ?_
              refine r_get F e_X10_readLease_135 fl_X10_28 h13810 rfl (fun v hv f13821 => ?_)
              obtain rfl : v = .ref (c + 7) := hv
              refine m_iload_n F rfl e_X10_readLease_138 ?_
              refine m_iconst F (v := 0) (by decide) e_X10_readLease_139 ?_
              refine r_iast F (g' := (⟨T, Z, u, h, P13781, L⟩ : RG)) (len := 8) (j := 4 + P.n5) e_X10_readLease_140 h13810 (fun _ h => h) (fun f h => ⟨f, rfl, h⟩) (by decide) (by decide) (nI_clamp (by omega)) (vp_in_nI (by omega) (by decide)) trivial (fun _ _ _ h => h) (fun _ _ _ h => h) (fun σ13822 h13823 g13824 f13825 g13826 => ?_)
              have ga13827 := ga13814.of (g13824 _ (by omega))
              have ga13828 := ga13815.of (g13824 _ (by omega))
              have ga13829 := ga13817.of (g13824 _ (by omega))
              have ga13830 := ga13818.of (g13824 _ (by omega))
              have ga13831 := ga13819.of (g13824 _ (by omega))
              have ga13832 := ga13820.of (g13824 _ (by omega))
              have ga13833 := KR.new ga13816 f13825 g13826
              refine m_aload_n F rfl e_X10_readLease_141 ?_
              refine r_get F e_X10_readLease_142 fl_X10_31 h13823 rfl (fun v hv f13834 => ?_)
              obtain rfl : v = .ref (c + 8) := hv
              refine m_iload_n F rfl e_X10_readLease_145 ?_
              refine m_iconst F (v := 0) (by decide) e_X10_readLease_146 ?_
              refine r_iast F (g' := (⟨T, Z, u, h, P13781, L⟩ : RG)) (len := 8) (j := 4 + P.n5) e_X10_readLease_147 h13823 (fun _ h => h) (fun f h => ⟨f, rfl, h⟩) (by decide) (by decide) (nI_clamp (by omega)) (vp_in_nI (by omega) (by decide)) trivial (fun _ _ _ h => h) (fun _ _ _ h => h) (fun σ13835 h13836 g13837 f13838 g13839 => ?_)
              have ga13840 := ga13827.of (g13837 _ (by omega))
              have ga13841 := ga13828.of (g13837 _ (by omega))
              have ga13842 := ga13830.of (g13837 _ (by omega))
              have ga13843 := ga13831.of (g13837 _ (by omega))
              have ga13844 := ga13832.of (g13837 _ (by omega))
              have ga13845 := ga13833.of (g13837 _ (by omega))
              have ga13846 := FR.new ga13829 f13838 g13839
              refine m_aload_n F rfl e_X10_readLease_148 ?_
              refine r_get F e_X10_readLease_149 fl_X10_34 h13836 rfl (fun v hv f13847 => ?_)
              obtain rfl : v = .ref (c + 9) := hv
              refine m_iload_n F rfl e_X10_readLease_152 ?_
              refine m_iconst F (v := 0) (by decide) e_X10_readLease_153 ?_
              refine r_iast F (g' := (⟨T, Z, u, h, P13781, L⟩ : RG)) (len := 8) (j := 4 + P.n5) e_X10_readLease_154 h13836 (fun _ h => h) (fun f h => ⟨f, rfl, h⟩) (by decide) (by decide) (nI_clamp (by omega)) (vp_in_nI (by omega) (by decide)) trivial (fun _ _ _ h => h) (fun _ _ _ h => h) (fun σ13848 h13849 g13850 f13851 g13852 => ?_)
              have ga13853 := ga13840.of (g13850 _ (by omega))
              have ga13854 := ga13841.of (g13850 _ (by omega))
              have ga13855 := ga13843.of (g13850 _ (by omega))
              have ga13856 := ga13844.of (g13850 _ (by omega))
              have ga13857 := ga13845.of (g13850 _ (by omega))
              have ga13858 := ga13846.of (g13850 _ (by omega))
              have ga13859 := FR.new ga13842 f13851 g13852
              refine m_iconst F (v := 0) (by decide) e_X10_readLease_155 ?_
              refine m_istore_n F (lv' := [(2, .int 0), (1, .int (nI (4 + P.n5))), (0, .ref c)]) e_X10_readLease_156 (by decide) rfl ?_
              refine Wm.lvsub (lv' := [(0, .ref c), (1, .int (nI (4 + P.n5))), (2, .int 0)]) ?_ [2, 1, 0] rfl
              exact lq_X10_readLeaseE_157 F hQ hob hP hp0 hp1 hp2 hp3 hp4 hp5 hp6 hp7 hp8 hp9 hp10 hp11 hp12 hp13 hp14 (48 - 0 + 1) (4 + P.n5) 0 P13781 _ h13849 oP13781 (by unfold RP; omega) ⟨by omega, by omega, by omega, by omega, (by unfold leaseS; dsimp only; rw [if_neg (by omega), ek13588, newK_ok hs13596 e13620, ek13679, numK_ok e13700 l13702 l13703, ek13711, numK_ok e13744 l13746 l13747, ek13755, numK_ok e13790 l13792 l13793, ek13801]; exact RM.r mt13797 ⟨((fld_eq (g13850 _ (by omega))).trans ((fld_eq (g13837 _ (by omega))).trans ((fld_eq (g13824 _ (by omega))).trans ((fld_eq (g13811 _ (by omega))).trans yd13802)))), ((fld_eq (g13850 _ (by omega))).trans ((fld_eq (g13837 _ (by omega))).trans ((fld_eq (g13824 _ (by omega))).trans ((fld_eq (g13811 _ (by omega))).trans yd13803)))), ((fld_eq (g13850 _ (by omega))).trans ((fld_eq (g13837 _ (by omega))).trans ((fld_eq (g13824 _ (by omega))).trans ((fld_eq (g13811 _ (by omega))).trans yd13804)))), ((fld_eq (g13850 _ (by omega))).trans ((fld_eq (g13837 _ (by omega))).trans ((fld_eq (g13824 _ (by omega))).trans ((fld_eq (g13811 _ (by omega))).trans yd13805)))), ((fld_eq (g13850 _ (by omega))).trans ((fld_eq (g13837 _ (by omega))).trans ((fld_eq (g13824 _ (by omega))).trans ((fld_eq (g13811 _ (by omega))).trans yd13806)))), ((fld_eq (g13850 _ (by omega))).trans ((fld_eq (g13837 _ (by omega))).trans ((fld_eq (g13824 _ (by omega))).trans ((fld_eq (g13811 _ (by omega))).trans yd13807)))), ((fld_eq (g13850 _ (by omega))).trans ((fld_eq (g13837 _ (by omega))).trans ((fld_eq (g13824 _ (by omega))).trans ((fld_eq (g13811 _ (by omega))).trans yd13808))))⟩ (by show P13781.a = _; omega) (by show P13781.n5 + 1 = P.n5 + 1; omega) (by show P13781.n7 = P.n7; omega) ga13854 ga13856 ga13857 ga13858 ga13859 ga13855 (by omega) (by omega) (by omega) (by omega) (by omega))⟩ (Nat.lt_succ_self _)
            · have hz9 : True := trivial
              refine r_iast F (g' := (⟨T, Z, u, h, P13781, L⟩ : RG)) (len := 8) (j := 4 + P.n5) e_X10_readLease_133 h13779 (fun _ h => h) (fun f h => ⟨f, rfl, h⟩) (by decide) (by decide) (nI_clamp (by omega)) (vp_in_nI (by omega) (by decide)) ⟨0, by omega, rfl⟩ (fun _ _ _ h => h) (fun _ _ _ h => h) (fun σ13860 h13861 g13862 f13863 g13864 => ?_)
              refine m_aload_n F rfl e_X10_readLease_134 ?_
              refine r_get F e_X10_readLease_135 fl_X10_28 h13861 rfl (fun v hv f13865 => ?_)
              obtain rfl : v = .ref (c + 7) := hv
              refine m_iload_n F rfl e_X10_readLease_138 ?_
              refine m_iconst F (v := 0) (by decide) e_X10_readLease_139 ?_
              refine r_iast F (g' := (⟨T, Z, u, h, P13781, L⟩ : RG)) (len := 8) (j := 4 + P.n5) e_X10_readLease_140 h13861 (fun _ h => h) (fun f h => ⟨f, rfl, h⟩) (by decide) (by decide) (nI_clamp (by omega)) (vp_in_nI (by omega) (by decide)) trivial (fun _ _ _ h => h) (fun _ _ _ h => h) (fun σ13866 h13867 g13868 f13869 g13870 => ?_)
              refine m_aload_n F rfl e_X10_readLease_141 ?_
              refine r_get F e_X10_readLease_142 fl_X10_31 h13867 rfl (fun v hv f13871 => ?_)
              obtain rfl : v = .ref (c + 8) := hv
              refine m_iload_n F rfl e_X10_readLease_145 ?_
              refine m_iconst F (v := 0) (by decide) e_X10_readLease_146 ?_
              refine r_iast F (g' := (⟨T, Z, u, h, P13781, L⟩ : RG)) (len := 8) (j := 4 + P.n5) e_X10_readLease_147 h13867 (fun _ h => h) (fun f h => ⟨f, rfl, h⟩) (by decide) (by decide) (nI_clamp (by omega)) (vp_in_nI (by omega) (by decide)) trivial (fun _ _ _ h => h) (fun _ _ _ h => h) (fun σ13872 h13873 g13874 f13875 g13876 => ?_)
              refine m_aload_n F rfl e_X10_readLease_148 ?_
              refine r_get F e_X10_readLease_149 fl_X10_34 h13873 rfl (fun v hv f13877 => ?_)
              obtain rfl : v = .ref (c + 9) := hv
              refine m_iload_n F rfl e_X10_readLease_152 ?_
              refine m_iconst F (v := 0) (by decide) e_X10_readLease_153 ?_
              refine r_iast F (g' := (⟨T, Z, u, h, P13781, L⟩ : RG)) (len := 8) (j := 4 + P.n5) e_X10_readLease_154 h13873 (fun _ h => h) (fun f h => ⟨f, rfl, h⟩) (by decide) (by decide) (nI_clamp (by omega)) (vp_in_nI (by omega) (by decide)) trivial (fun _ _ _ h => h) (fun _ _ _ h => h) (fun σ13878 h13879 g13880 f13881 g13882 => ?_)
              refine m_iconst F (v := 0) (by decide) e_X10_readLease_155 ?_
              refine m_istore_n F (lv' := [(2, .int 0), (1, .int (nI (4 + P.n5))), (0, .ref c)]) e_X10_readLease_156 (by decide) rfl ?_
              refine Wm.lvsub (lv' := [(0, .ref c), (1, .int (nI (4 + P.n5))), (2, .int 0)]) ?_ [2, 1, 0] rfl
              exact lq_X10_readLeaseE_157 F hQ hob hP hp0 hp1 hp2 hp3 hp4 hp5 hp6 hp7 hp8 hp9 hp10 hp11 hp12 hp13 hp14 (48 - 0 + 1) (4 + P.n5) 0 P13781 _ h13879 oP13781 (by unfold RP; omega) ⟨by omega, by omega, by omega, by omega, (by unfold leaseS; dsimp only; rw [if_neg (by omega), ek13588, newK_ok hs13596 e13620, ek13679, numK_ok e13700 l13702 l13703, ek13711, numK_ok e13744 l13746 l13747, ek13755, numK_1 e13790]; exact RM.l ((fld_eq (g13880 _ (by omega))).trans ((fld_eq (g13874 _ (by omega))).trans ((fld_eq (g13868 _ (by omega))).trans ((fld_eq (g13862 _ (by omega))).trans fa13799)))) ((fld_eq (g13880 _ (by omega))).trans ((fld_eq (g13874 _ (by omega))).trans ((fld_eq (g13868 _ (by omega))).trans ((fld_eq (g13862 _ (by omega))).trans fb13800)))) (by decide) (by decide) (by omega))⟩ (Nat.lt_succ_self _)
            · have hz9 : True := trivial
              refine r_iast F (g' := (⟨T, Z, u, h, P13781, L⟩ : RG)) (len := 8) (j := 4 + P.n5) e_X10_readLease_133 h13779 (fun _ h => h) (fun f h => ⟨f, rfl, h⟩) (by decide) (by decide) (nI_clamp (by omega)) (vp_in_nI (by omega) (by decide)) ⟨0, by omega, rfl⟩ (fun _ _ _ h => h) (fun _ _ _ h => h) (fun σ13883 h13884 g13885 f13886 g13887 => ?_)
              refine m_aload_n F rfl e_X10_readLease_134 ?_
              refine r_get F e_X10_readLease_135 fl_X10_28 h13884 rfl (fun v hv f13888 => ?_)
              obtain rfl : v = .ref (c + 7) := hv
              refine m_iload_n F rfl e_X10_readLease_138 ?_
              refine m_iconst F (v := 0) (by decide) e_X10_readLease_139 ?_
              refine r_iast F (g' := (⟨T, Z, u, h, P13781, L⟩ : RG)) (len := 8) (j := 4 + P.n5) e_X10_readLease_140 h13884 (fun _ h => h) (fun f h => ⟨f, rfl, h⟩) (by decide) (by decide) (nI_clamp (by omega)) (vp_in_nI (by omega) (by decide)) trivial (fun _ _ _ h => h) (fun _ _ _ h => h) (fun σ13889 h13890 g13891 f13892 g13893 => ?_)
              refine m_aload_n F rfl e_X10_readLease_141 ?_
              refine r_get F e_X10_readLease_142 fl_X10_31 h13890 rfl (fun v hv f13894 => ?_)
              obtain rfl : v = .ref (c + 8) := hv
              refine m_iload_n F rfl e_X10_readLease_145 ?_
              refine m_iconst F (v := 0) (by decide) e_X10_readLease_146 ?_
              refine r_iast F (g' := (⟨T, Z, u, h, P13781, L⟩ : RG)) (len := 8) (j := 4 + P.n5) e_X10_readLease_147 h13890 (fun _ h => h) (fun f h => ⟨f, rfl, h⟩) (by decide) (by decide) (nI_clamp (by omega)) (vp_in_nI (by omega) (by decide)) trivial (fun _ _ _ h => h) (fun _ _ _ h => h) (fun σ13895 h13896 g13897 f13898 g13899 => ?_)
              refine m_aload_n F rfl e_X10_readLease_148 ?_
              refine r_get F e_X10_readLease_149 fl_X10_34 h13896 rfl (fun v hv f13900 => ?_)
              obtain rfl : v = .ref (c + 9) := hv
              refine m_iload_n F rfl e_X10_readLease_152 ?_
              refine m_iconst F (v := 0) (by decide) e_X10_readLease_153 ?_
              refine r_iast F (g' := (⟨T, Z, u, h, P13781, L⟩ : RG)) (len := 8) (j := 4 + P.n5) e_X10_readLease_154 h13896 (fun _ h => h) (fun f h => ⟨f, rfl, h⟩) (by decide) (by decide) (nI_clamp (by omega)) (vp_in_nI (by omega) (by decide)) trivial (fun _ _ _ h => h) (fun _ _ _ h => h) (fun σ13901 h13902 g13903 f13904 g13905 => ?_)
              refine m_iconst F (v := 0) (by decide) e_X10_readLease_155 ?_
              refine m_istore_n F (lv' := [(2, .int 0), (1, .int (nI (4 + P.n5))), (0, .ref c)]) e_X10_readLease_156 (by decide) rfl ?_
              refine Wm.lvsub (lv' := [(0, .ref c), (1, .int (nI (4 + P.n5))), (2, .int 0)]) ?_ [2, 1, 0] rfl
              exact lq_X10_readLeaseE_157 F hQ hob hP hp0 hp1 hp2 hp3 hp4 hp5 hp6 hp7 hp8 hp9 hp10 hp11 hp12 hp13 hp14 (48 - 0 + 1) (4 + P.n5) 0 P13781 _ h13902 oP13781 (by unfold RP; omega) ⟨by omega, by omega, by omega, by omega, (by unfold leaseS; dsimp only; rw [if_neg (by omega), ek13588, newK_ok hs13596 e13620, ek13679, numK_ok e13700 l13702 l13703, ek13711, numK_ok e13744 l13746 l13747, ek13755, numK_2 e13790 e13791]; exact RM.l ((fld_eq (g13903 _ (by omega))).trans ((fld_eq (g13897 _ (by omega))).trans ((fld_eq (g13891 _ (by omega))).trans ((fld_eq (g13885 _ (by omega))).trans fa13799)))) ((fld_eq (g13903 _ (by omega))).trans ((fld_eq (g13897 _ (by omega))).trans ((fld_eq (g13891 _ (by omega))).trans ((fld_eq (g13885 _ (by omega))).trans fb13800)))) (by decide) (by decide) (by omega))⟩ (Nat.lt_succ_self _)
          · have hz9 : True := trivial
            refine r_iast F (g' := (⟨T, Z, u, h, (mkP P13735.n0 P13735.n2 P13735.n5 P13735.n7 P13735.m0 (P13735.n5 + 1) P13735.w2 P13735.w7 P13735.kk P13735.a P13735.f P13735.p), L⟩ : RG)) (len := 8) (j := 4 + P.n5) e_X10_readLease_120 h13734 (fun _ h => h) (fun f h => ⟨f, rfl, h⟩) (by decide) (by decide) (nI_clamp (by omega)) (vp_in_nI (by omega) (by decide)) ⟨1, by omega, rfl, fun h7 _ => absurd h7 (by omega), fun _ _ => by omega⟩ (fun i hi y hy => by obtain ⟨n9, a9, b9, c9, d9⟩ := hy; exact ⟨n9, a9, b9, c9, fun h7 h8 => d9 h7 (show i < 4 + P13735.m5 by have h6 : i < 4 + (P13735.n5 + 1) := h8; omega)⟩) (CR.chg (by intro k hk i x h; unfold EI at h ⊢; split at h <;> first | exact h | exact absurd rfl hk | trivial) rfl rfl rfl rfl) (fun σ13906 h13907 g13908 f13909 g13910 => ?_)
            obtain ⟨P13911, eP13911⟩ : ∃ P9, P9 = (mkP P13735.n0 P13735.n2 P13735.n5 P13735.n7 P13735.m0 (P13735.n5 + 1) P13735.w2 P13735.w7 P13735.kk P13735.a P13735.f P13735.p) := ⟨_, rfl⟩
            rw [← eP13911] at h13907
            have fP13911 : P13911.n0 = P13735.n0 ∧ P13911.n2 = P13735.n2 ∧ P13911.n5 = P13735.n5 ∧ P13911.n7 = P13735.n7 ∧ P13911.m0 = P13735.m0 ∧ P13911.m5 = P13735.n5 + 1 ∧ P13911.w2 = P13735.w2 ∧ P13911.w7 = P13735.w7 ∧ P13911.kk = P13735.kk ∧ P13911.a = P13735.a ∧ P13911.f = P13735.f ∧ P13911.p = P13735.p := by rw [eP13911]; exact ⟨rfl, rfl, rfl, rfl, rfl, rfl, rfl, rfl, rfl, rfl, rfl, rfl⟩
            refine m_aload_n F rfl e_X10_readLease_121 ?_
            refine r_get F e_X10_readLease_122 fl_X10_25 h13907 rfl (fun v hv f13912 => ?_)
            obtain rfl : v = .ref (c + 6) := hv
            refine m_iload_n F rfl e_X10_readLease_125 ?_
            refine m_aload_n F rfl e_X10_readLease_126 ?_
            refine m_iconst F (v := 0) (by decide) e_X10_readLease_127 ?_
            refine m_ldc F kc_X10_169 e_X10_readLease_128 ?_
            have oP13916 : OKP P13911 := by unfold OKP; omega
            refine r_callV F e_X10_readLease_130 (q_X10_numeralG (x_l X) V c T Z u h P13911 L _ _ 0 200000 1 h13907.1 (hob) oP13916 (by omega) (by omega) ((fld_eq (g13908 _ (by omega))).trans fa13753) (by decide)) cb_X10_numeral ml_X10_165 im_X10_numeral se_X10_numeral h13907 rfl rfl (rest := [.int (nI (4 + P.n5)), .ref (c + 6)]) rfl (Nat.le_of_ble_eq_true rfl) ⟨Nat.le_of_ble_eq_true rfl, Nat.le_of_ble_eq_true rfl⟩ ⟨Nat.le_of_ble_eq_true rfl, Nat.le_of_ble_eq_true rfl⟩ (fun r σ13913 hp => ?_)
            obtain ⟨h13914, hp⟩ := hp
            have h13915 := HS.trans h13907 h13914 (by decide)
            obtain ⟨rfl, rfl⟩ := hp
            refine r_iast F (g' := (⟨T, Z, u, h, P13911, L⟩ : RG)) (len := 8) (j := 4 + P.n5) e_X10_readLease_133 h13915 (fun _ h => h) (fun f h => ⟨f, rfl, h⟩) (by decide) (by decide) (nI_clamp (by omega)) (vp_in_nI (by omega) (by decide)) ⟨0, by omega, rfl⟩ (fun _ _ _ h => h) (fun _ _ _ h => h) (fun σ13917 h13918 g13919 f13920 g13921 => ?_)
            refine m_aload_n F rfl e_X10_readLease_134 ?_
            refine r_get F e_X10_readLease_135 fl_X10_28 h13918 rfl (fun v hv f13922 => ?_)
            obtain rfl : v = .ref (c + 7) := hv
            refine m_iload_n F rfl e_X10_readLease_138 ?_
            refine m_iconst F (v := 0) (by decide) e_X10_readLease_139 ?_
            refine r_iast F (g' := (⟨T, Z, u, h, P13911, L⟩ : RG)) (len := 8) (j := 4 + P.n5) e_X10_readLease_140 h13918 (fun _ h => h) (fun f h => ⟨f, rfl, h⟩) (by decide) (by decide) (nI_clamp (by omega)) (vp_in_nI (by omega) (by decide)) trivial (fun _ _ _ h => h) (fun _ _ _ h => h) (fun σ13923 h13924 g13925 f13926 g13927 => ?_)
            refine m_aload_n F rfl e_X10_readLease_141 ?_
            refine r_get F e_X10_readLease_142 fl_X10_31 h13924 rfl (fun v hv f13928 => ?_)
            obtain rfl : v = .ref (c + 8) := hv
            refine m_iload_n F rfl e_X10_readLease_145 ?_
            refine m_iconst F (v := 0) (by decide) e_X10_readLease_146 ?_
            refine r_iast F (g' := (⟨T, Z, u, h, P13911, L⟩ : RG)) (len := 8) (j := 4 + P.n5) e_X10_readLease_147 h13924 (fun _ h => h) (fun f h => ⟨f, rfl, h⟩) (by decide) (by decide) (nI_clamp (by omega)) (vp_in_nI (by omega) (by decide)) trivial (fun _ _ _ h => h) (fun _ _ _ h => h) (fun σ13929 h13930 g13931 f13932 g13933 => ?_)
            refine m_aload_n F rfl e_X10_readLease_148 ?_
            refine r_get F e_X10_readLease_149 fl_X10_34 h13930 rfl (fun v hv f13934 => ?_)
            obtain rfl : v = .ref (c + 9) := hv
            refine m_iload_n F rfl e_X10_readLease_152 ?_
            refine m_iconst F (v := 0) (by decide) e_X10_readLease_153 ?_
            refine r_iast F (g' := (⟨T, Z, u, h, P13911, L⟩ : RG)) (len := 8) (j := 4 + P.n5) e_X10_readLease_154 h13930 (fun _ h => h) (fun f h => ⟨f, rfl, h⟩) (by decide) (by decide) (nI_clamp (by omega)) (vp_in_nI (by omega) (by decide)) trivial (fun _ _ _ h => h) (fun _ _ _ h => h) (fun σ13935 h13936 g13937 f13938 g13939 => ?_)
            refine m_iconst F (v := 0) (by decide) e_X10_readLease_155 ?_
            refine m_istore_n F (lv' := [(2, .int 0), (1, .int (nI (4 + P.n5))), (0, .ref c)]) e_X10_readLease_156 (by decide) rfl ?_
            refine Wm.lvsub (lv' := [(0, .ref c), (1, .int (nI (4 + P.n5))), (2, .int 0)]) ?_ [2, 1, 0] rfl
            exact lq_X10_readLeaseE_157 F hQ hob hP hp0 hp1 hp2 hp3 hp4 hp5 hp6 hp7 hp8 hp9 hp10 hp11 hp12 hp13 hp14 (48 - 0 + 1) (4 + P.n5) 0 P13911 _ h13936 oP13916 (by unfold RP; omega) ⟨by omega, by omega, by omega, by omega, (by unfold leaseS; dsimp only; rw [if_neg (by omega), ek13588, newK_ok hs13596 e13620, ek13679, numK_ok e13700 l13702 l13703, ek13711, numK_1 e13744]; exact RM.l ((fld_eq (g13937 _ (by omega))).trans ((fld_eq (g13931 _ (by omega))).trans ((fld_eq (g13925 _ (by omega))).trans ((fld_eq (g13919 _ (by omega))).trans ((fld_eq (g13908 _ (by omega))).trans fa13753))))) ((fld_eq (g13937 _ (by omega))).trans ((fld_eq (g13931 _ (by omega))).trans ((fld_eq (g13925 _ (by omega))).trans ((fld_eq (g13919 _ (by omega))).trans ((fld_eq (g13908 _ (by omega))).trans fb13754))))) (by decide) (by decide) (by omega))⟩ (Nat.lt_succ_self _)
          · have hz9 : True := trivial
            refine r_iast F (g' := (⟨T, Z, u, h, (mkP P13735.n0 P13735.n2 P13735.n5 P13735.n7 P13735.m0 (P13735.n5 + 1) P13735.w2 P13735.w7 P13735.kk P13735.a P13735.f P13735.p), L⟩ : RG)) (len := 8) (j := 4 + P.n5) e_X10_readLease_120 h13734 (fun _ h => h) (fun f h => ⟨f, rfl, h⟩) (by decide) (by decide) (nI_clamp (by omega)) (vp_in_nI (by omega) (by decide)) ⟨1, by omega, rfl, fun h7 _ => absurd h7 (by omega), fun _ _ => by omega⟩ (fun i hi y hy => by obtain ⟨n9, a9, b9, c9, d9⟩ := hy; exact ⟨n9, a9, b9, c9, fun h7 h8 => d9 h7 (show i < 4 + P13735.m5 by have h6 : i < 4 + (P13735.n5 + 1) := h8; omega)⟩) (CR.chg (by intro k hk i x h; unfold EI at h ⊢; split at h <;> first | exact h | exact absurd rfl hk | trivial) rfl rfl rfl rfl) (fun σ13940 h13941 g13942 f13943 g13944 => ?_)
            obtain ⟨P13945, eP13945⟩ : ∃ P9, P9 = (mkP P13735.n0 P13735.n2 P13735.n5 P13735.n7 P13735.m0 (P13735.n5 + 1) P13735.w2 P13735.w7 P13735.kk P13735.a P13735.f P13735.p) := ⟨_, rfl⟩
            rw [← eP13945] at h13941
            have fP13945 : P13945.n0 = P13735.n0 ∧ P13945.n2 = P13735.n2 ∧ P13945.n5 = P13735.n5 ∧ P13945.n7 = P13735.n7 ∧ P13945.m0 = P13735.m0 ∧ P13945.m5 = P13735.n5 + 1 ∧ P13945.w2 = P13735.w2 ∧ P13945.w7 = P13735.w7 ∧ P13945.kk = P13735.kk ∧ P13945.a = P13735.a ∧ P13945.f = P13735.f ∧ P13945.p = P13735.p := by rw [eP13945]; exact ⟨rfl, rfl, rfl, rfl, rfl, rfl, rfl, rfl, rfl, rfl, rfl, rfl⟩
            refine m_aload_n F rfl e_X10_readLease_121 ?_
            refine r_get F e_X10_readLease_122 fl_X10_25 h13941 rfl (fun v hv f13946 => ?_)
            obtain rfl : v = .ref (c + 6) := hv
            refine m_iload_n F rfl e_X10_readLease_125 ?_
            refine m_aload_n F rfl e_X10_readLease_126 ?_
            refine m_iconst F (v := 0) (by decide) e_X10_readLease_127 ?_
            refine m_ldc F kc_X10_169 e_X10_readLease_128 ?_
            have oP13950 : OKP P13945 := by unfold OKP; omega
            refine r_callV F e_X10_readLease_130 (q_X10_numeralG (x_l X) V c T Z u h P13945 L _ _ 0 200000 2 h13941.1 (hob) oP13950 (by omega) (by omega) ((fld_eq (g13942 _ (by omega))).trans fa13753) (by decide)) cb_X10_numeral ml_X10_165 im_X10_numeral se_X10_numeral h13941 rfl rfl (rest := [.int (nI (4 + P.n5)), .ref (c + 6)]) rfl (Nat.le_of_ble_eq_true rfl) ⟨Nat.le_of_ble_eq_true rfl, Nat.le_of_ble_eq_true rfl⟩ ⟨Nat.le_of_ble_eq_true rfl, Nat.le_of_ble_eq_true rfl⟩ (fun r σ13947 hp => ?_)
            obtain ⟨h13948, hp⟩ := hp
            have h13949 := HS.trans h13941 h13948 (by decide)
            obtain ⟨rfl, rfl⟩ := hp
            refine r_iast F (g' := (⟨T, Z, u, h, P13945, L⟩ : RG)) (len := 8) (j := 4 + P.n5) e_X10_readLease_133 h13949 (fun _ h => h) (fun f h => ⟨f, rfl, h⟩) (by decide) (by decide) (nI_clamp (by omega)) (vp_in_nI (by omega) (by decide)) ⟨0, by omega, rfl⟩ (fun _ _ _ h => h) (fun _ _ _ h => h) (fun σ13951 h13952 g13953 f13954 g13955 => ?_)
            refine m_aload_n F rfl e_X10_readLease_134 ?_
            refine r_get F e_X10_readLease_135 fl_X10_28 h13952 rfl (fun v hv f13956 => ?_)
            obtain rfl : v = .ref (c + 7) := hv
            refine m_iload_n F rfl e_X10_readLease_138 ?_
            refine m_iconst F (v := 0) (by decide) e_X10_readLease_139 ?_
            refine r_iast F (g' := (⟨T, Z, u, h, P13945, L⟩ : RG)) (len := 8) (j := 4 + P.n5) e_X10_readLease_140 h13952 (fun _ h => h) (fun f h => ⟨f, rfl, h⟩) (by decide) (by decide) (nI_clamp (by omega)) (vp_in_nI (by omega) (by decide)) trivial (fun _ _ _ h => h) (fun _ _ _ h => h) (fun σ13957 h13958 g13959 f13960 g13961 => ?_)
            refine m_aload_n F rfl e_X10_readLease_141 ?_
            refine r_get F e_X10_readLease_142 fl_X10_31 h13958 rfl (fun v hv f13962 => ?_)
            obtain rfl : v = .ref (c + 8) := hv
            refine m_iload_n F rfl e_X10_readLease_145 ?_
            refine m_iconst F (v := 0) (by decide) e_X10_readLease_146 ?_
            refine r_iast F (g' := (⟨T, Z, u, h, P13945, L⟩ : RG)) (len := 8) (j := 4 + P.n5) e_X10_readLease_147 h13958 (fun _ h => h) (fun f h => ⟨f, rfl, h⟩) (by decide) (by decide) (nI_clamp (by omega)) (vp_in_nI (by omega) (by decide)) trivial (fun _ _ _ h => h) (fun _ _ _ h => h) (fun σ13963 h13964 g13965 f13966 g13967 => ?_)
            refine m_aload_n F rfl e_X10_readLease_148 ?_
            refine r_get F e_X10_readLease_149 fl_X10_34 h13964 rfl (fun v hv f13968 => ?_)
            obtain rfl : v = .ref (c + 9) := hv
            refine m_iload_n F rfl e_X10_readLease_152 ?_
            refine m_iconst F (v := 0) (by decide) e_X10_readLease_153 ?_
            refine r_iast F (g' := (⟨T, Z, u, h, P13945, L⟩ : RG)) (len := 8) (j := 4 + P.n5) e_X10_readLease_154 h13964 (fun _ h => h) (fun f h => ⟨f, rfl, h⟩) (by decide) (by decide) (nI_clamp (by omega)) (vp_in_nI (by omega) (by decide)) trivial (fun _ _ _ h => h) (fun _ _ _ h => h) (fun σ13969 h13970 g13971 f13972 g13973 => ?_)
            refine m_iconst F (v := 0) (by decide) e_X10_readLease_155 ?_
            refine m_istore_n F (lv' := [(2, .int 0), (1, .int (nI (4 + P.n5))), (0, .ref c)]) e_X10_readLease_156 (by decide) rfl ?_
            refine Wm.lvsub (lv' := [(0, .ref c), (1, .int (nI (4 + P.n5))), (2, .int 0)]) ?_ [2, 1, 0] rfl
            exact lq_X10_readLeaseE_157 F hQ hob hP hp0 hp1 hp2 hp3 hp4 hp5 hp6 hp7 hp8 hp9 hp10 hp11 hp12 hp13 hp14 (48 - 0 + 1) (4 + P.n5) 0 P13945 _ h13970 oP13950 (by unfold RP; omega) ⟨by omega, by omega, by omega, by omega, (by unfold leaseS; dsimp only; rw [if_neg (by omega), ek13588, newK_ok hs13596 e13620, ek13679, numK_ok e13700 l13702 l13703, ek13711, numK_2 e13744 e13745]; exact RM.l ((fld_eq (g13971 _ (by omega))).trans ((fld_eq (g13965 _ (by omega))).trans ((fld_eq (g13959 _ (by omega))).trans ((fld_eq (g13953 _ (by omega))).trans ((fld_eq (g13942 _ (by omega))).trans fa13753))))) ((fld_eq (g13971 _ (by omega))).trans ((fld_eq (g13965 _ (by omega))).trans ((fld_eq (g13959 _ (by omega))).trans ((fld_eq (g13953 _ (by omega))).trans ((fld_eq (g13942 _ (by omega))).trans fb13754))))) (by decide) (by decide) (by omega))⟩ (Nat.lt_succ_self _)
        · have hz9 : True := trivial
          refine r_iast F (g' := (⟨T, Z, u, h, P13691, L⟩ : RG)) (len := 8) (j := 4 + P.n5) e_X10_readLease_107 h13690 (fun _ h => h) (fun f h => ⟨f, rfl, h⟩) (by decide) (by decide) (nI_clamp (by omega)) (vp_in_nI (by omega) (by decide)) trivial (fun _ _ _ h => h) (fun _ _ _ h => h) (fun σ13974 h13975 g13976 f13977 g13978 => ?_)
          refine m_aload_n F rfl e_X10_readLease_108 ?_
          refine r_get F e_X10_readLease_109 fl_X10_22 h13975 rfl (fun v hv f13979 => ?_)
          obtain rfl : v = .ref (c + 5) := hv
          refine m_iload_n F rfl e_X10_readLease_112 ?_
          refine m_aload_n F rfl e_X10_readLease_113 ?_
          refine m_iconst F (v := 1) (by decide) e_X10_readLease_114 ?_
          refine m_bipush F (v := 48) (by decide) e_X10_readLease_115 ?_
          refine r_callV F e_X10_readLease_117 (q_X10_numeralG (x_l X) V c T Z u h P13691 L _ _ 1 48 1 h13975.1 (hob) oP13691 (by omega) (by omega) ((fld_eq (g13976 _ (by omega))).trans fa13709) (by decide)) cb_X10_numeral ml_X10_165 im_X10_numeral se_X10_numeral h13975 rfl rfl (rest := [.int (nI (4 + P.n5)), .ref (c + 5)]) rfl (Nat.le_of_ble_eq_true rfl) ⟨Nat.le_of_ble_eq_true rfl, Nat.le_of_ble_eq_true rfl⟩ ⟨Nat.le_of_ble_eq_true rfl, Nat.le_of_ble_eq_true rfl⟩ (fun r σ13980 hp => ?_)
          obtain ⟨h13981, hp⟩ := hp
          have h13982 := HS.trans h13975 h13981 (by decide)
          obtain ⟨rfl, rfl⟩ := hp
          refine r_iast F (g' := (⟨T, Z, u, h, (mkP P13691.n0 P13691.n2 P13691.n5 P13691.n7 P13691.m0 (P13691.n5 + 1) P13691.w2 P13691.w7 P13691.kk P13691.a P13691.f P13691.p), L⟩ : RG)) (len := 8) (j := 4 + P.n5) e_X10_readLease_120 h13982 (fun _ h => h) (fun f h => ⟨f, rfl, h⟩) (by decide) (by decide) (nI_clamp (by omega)) (vp_in_nI (by omega) (by decide)) ⟨1, by omega, rfl, fun h7 _ => absurd h7 (by omega), fun _ _ => by omega⟩ (fun i hi y hy => by obtain ⟨n9, a9, b9, c9, d9⟩ := hy; exact ⟨n9, a9, b9, c9, fun h7 h8 => d9 h7 (show i < 4 + P13691.m5 by have h6 : i < 4 + (P13691.n5 + 1) := h8; omega)⟩) (CR.chg (by intro k hk i x h; unfold EI at h ⊢; split at h <;> first | exact h | exact absurd rfl hk | trivial) rfl rfl rfl rfl) (fun σ13983 h13984 g13985 f13986 g13987 => ?_)
          obtain ⟨P13988, eP13988⟩ : ∃ P9, P9 = (mkP P13691.n0 P13691.n2 P13691.n5 P13691.n7 P13691.m0 (P13691.n5 + 1) P13691.w2 P13691.w7 P13691.kk P13691.a P13691.f P13691.p) := ⟨_, rfl⟩
          rw [← eP13988] at h13984
          have fP13988 : P13988.n0 = P13691.n0 ∧ P13988.n2 = P13691.n2 ∧ P13988.n5 = P13691.n5 ∧ P13988.n7 = P13691.n7 ∧ P13988.m0 = P13691.m0 ∧ P13988.m5 = P13691.n5 + 1 ∧ P13988.w2 = P13691.w2 ∧ P13988.w7 = P13691.w7 ∧ P13988.kk = P13691.kk ∧ P13988.a = P13691.a ∧ P13988.f = P13691.f ∧ P13988.p = P13691.p := by rw [eP13988]; exact ⟨rfl, rfl, rfl, rfl, rfl, rfl, rfl, rfl, rfl, rfl, rfl, rfl⟩
          refine m_aload_n F rfl e_X10_readLease_121 ?_
          refine r_get F e_X10_readLease_122 fl_X10_25 h13984 rfl (fun v hv f13989 => ?_)
          obtain rfl : v = .ref (c + 6) := hv
          refine m_iload_n F rfl e_X10_readLease_125 ?_
          refine m_aload_n F rfl e_X10_readLease_126 ?_
          refine m_iconst F (v := 0) (by decide) e_X10_readLease_127 ?_
          refine m_ldc F kc_X10_169 e_X10_readLease_128 ?_
          have oP13993 : OKP P13988 := by unfold OKP; omega
          refine r_callV F e_X10_readLease_130 (q_X10_numeralG (x_l X) V c T Z u h P13988 L _ _ 0 200000 1 h13984.1 (hob) oP13993 (by omega) (by omega) ((fld_eq (g13985 _ (by omega))).trans ((fld_eq (g13976 _ (by omega))).trans fa13709)) (by decide)) cb_X10_numeral ml_X10_165 im_X10_numeral se_X10_numeral h13984 rfl rfl (rest := [.int (nI (4 + P.n5)), .ref (c + 6)]) rfl (Nat.le_of_ble_eq_true rfl) ⟨Nat.le_of_ble_eq_true rfl, Nat.le_of_ble_eq_true rfl⟩ ⟨Nat.le_of_ble_eq_true rfl, Nat.le_of_ble_eq_true rfl⟩ (fun r σ13990 hp => ?_)
          obtain ⟨h13991, hp⟩ := hp
          have h13992 := HS.trans h13984 h13991 (by decide)
          obtain ⟨rfl, rfl⟩ := hp
          refine r_iast F (g' := (⟨T, Z, u, h, P13988, L⟩ : RG)) (len := 8) (j := 4 + P.n5) e_X10_readLease_133 h13992 (fun _ h => h) (fun f h => ⟨f, rfl, h⟩) (by decide) (by decide) (nI_clamp (by omega)) (vp_in_nI (by omega) (by decide)) ⟨0, by omega, rfl⟩ (fun _ _ _ h => h) (fun _ _ _ h => h) (fun σ13994 h13995 g13996 f13997 g13998 => ?_)
          refine m_aload_n F rfl e_X10_readLease_134 ?_
          refine r_get F e_X10_readLease_135 fl_X10_28 h13995 rfl (fun v hv f13999 => ?_)
          obtain rfl : v = .ref (c + 7) := hv
          refine m_iload_n F rfl e_X10_readLease_138 ?_
          refine m_iconst F (v := 0) (by decide) e_X10_readLease_139 ?_
          refine r_iast F (g' := (⟨T, Z, u, h, P13988, L⟩ : RG)) (len := 8) (j := 4 + P.n5) e_X10_readLease_140 h13995 (fun _ h => h) (fun f h => ⟨f, rfl, h⟩) (by decide) (by decide) (nI_clamp (by omega)) (vp_in_nI (by omega) (by decide)) trivial (fun _ _ _ h => h) (fun _ _ _ h => h) (fun σ14000 h14001 g14002 f14003 g14004 => ?_)
          refine m_aload_n F rfl e_X10_readLease_141 ?_
          refine r_get F e_X10_readLease_142 fl_X10_31 h14001 rfl (fun v hv f14005 => ?_)
          obtain rfl : v = .ref (c + 8) := hv
          refine m_iload_n F rfl e_X10_readLease_145 ?_
          refine m_iconst F (v := 0) (by decide) e_X10_readLease_146 ?_
          refine r_iast F (g' := (⟨T, Z, u, h, P13988, L⟩ : RG)) (len := 8) (j := 4 + P.n5) e_X10_readLease_147 h14001 (fun _ h => h) (fun f h => ⟨f, rfl, h⟩) (by decide) (by decide) (nI_clamp (by omega)) (vp_in_nI (by omega) (by decide)) trivial (fun _ _ _ h => h) (fun _ _ _ h => h) (fun σ14006 h14007 g14008 f14009 g14010 => ?_)
          refine m_aload_n F rfl e_X10_readLease_148 ?_
          refine r_get F e_X10_readLease_149 fl_X10_34 h14007 rfl (fun v hv f14011 => ?_)
          obtain rfl : v = .ref (c + 9) := hv
          refine m_iload_n F rfl e_X10_readLease_152 ?_
          refine m_iconst F (v := 0) (by decide) e_X10_readLease_153 ?_
          refine r_iast F (g' := (⟨T, Z, u, h, P13988, L⟩ : RG)) (len := 8) (j := 4 + P.n5) e_X10_readLease_154 h14007 (fun _ h => h) (fun f h => ⟨f, rfl, h⟩) (by decide) (by decide) (nI_clamp (by omega)) (vp_in_nI (by omega) (by decide)) trivial (fun _ _ _ h => h) (fun _ _ _ h => h) (fun σ14012 h14013 g14014 f14015 g14016 => ?_)
          refine m_iconst F (v := 0) (by decide) e_X10_readLease_155 ?_
          refine m_istore_n F (lv' := [(2, .int 0), (1, .int (nI (4 + P.n5))), (0, .ref c)]) e_X10_readLease_156 (by decide) rfl ?_
          refine Wm.lvsub (lv' := [(0, .ref c), (1, .int (nI (4 + P.n5))), (2, .int 0)]) ?_ [2, 1, 0] rfl
          exact lq_X10_readLeaseE_157 F hQ hob hP hp0 hp1 hp2 hp3 hp4 hp5 hp6 hp7 hp8 hp9 hp10 hp11 hp12 hp13 hp14 (48 - 0 + 1) (4 + P.n5) 0 P13988 _ h14013 oP13993 (by unfold RP; omega) ⟨by omega, by omega, by omega, by omega, (by unfold leaseS; dsimp only; rw [if_neg (by omega), ek13588, newK_ok hs13596 e13620, ek13679, numK_1 e13700]; exact RM.l ((fld_eq (g14014 _ (by omega))).trans ((fld_eq (g14008 _ (by omega))).trans ((fld_eq (g14002 _ (by omega))).trans ((fld_eq (g13996 _ (by omega))).trans ((fld_eq (g13985 _ (by omega))).trans ((fld_eq (g13976 _ (by omega))).trans fa13709)))))) ((fld_eq (g14014 _ (by omega))).trans ((fld_eq (g14008 _ (by omega))).trans ((fld_eq (g14002 _ (by omega))).trans ((fld_eq (g13996 _ (by omega))).trans ((fld_eq (g13985 _ (by omega))).trans ((fld_eq (g13976 _ (by omega))).trans fb13710)))))) (by decide) (by decide) (by omega))⟩ (Nat.lt_succ_self _)
        · have hz9 : True := trivial
          refine r_iast F (g' := (⟨T, Z, u, h, P13691, L⟩ : RG)) (len := 8) (j := 4 + P.n5) e_X10_readLease_107 h13690 (fun _ h => h) (fun f h => ⟨f, rfl, h⟩) (by decide) (by decide) (nI_clamp (by omega)) (vp_in_nI (by omega) (by decide)) trivial (fun _ _ _ h => h) (fun _ _ _ h => h) (fun σ14017 h14018 g14019 f14020 g14021 => ?_)
          refine m_aload_n F rfl e_X10_readLease_108 ?_
          refine r_get F e_X10_readLease_109 fl_X10_22 h14018 rfl (fun v hv f14022 => ?_)
          obtain rfl : v = .ref (c + 5) := hv
          refine m_iload_n F rfl e_X10_readLease_112 ?_
          refine m_aload_n F rfl e_X10_readLease_113 ?_
          refine m_iconst F (v := 1) (by decide) e_X10_readLease_114 ?_
          refine m_bipush F (v := 48) (by decide) e_X10_readLease_115 ?_
          refine r_callV F e_X10_readLease_117 (q_X10_numeralG (x_l X) V c T Z u h P13691 L _ _ 1 48 2 h14018.1 (hob) oP13691 (by omega) (by omega) ((fld_eq (g14019 _ (by omega))).trans fa13709) (by decide)) cb_X10_numeral ml_X10_165 im_X10_numeral se_X10_numeral h14018 rfl rfl (rest := [.int (nI (4 + P.n5)), .ref (c + 5)]) rfl (Nat.le_of_ble_eq_true rfl) ⟨Nat.le_of_ble_eq_true rfl, Nat.le_of_ble_eq_true rfl⟩ ⟨Nat.le_of_ble_eq_true rfl, Nat.le_of_ble_eq_true rfl⟩ (fun r σ14023 hp => ?_)
          obtain ⟨h14024, hp⟩ := hp
          have h14025 := HS.trans h14018 h14024 (by decide)
          obtain ⟨rfl, rfl⟩ := hp
          refine r_iast F (g' := (⟨T, Z, u, h, (mkP P13691.n0 P13691.n2 P13691.n5 P13691.n7 P13691.m0 (P13691.n5 + 1) P13691.w2 P13691.w7 P13691.kk P13691.a P13691.f P13691.p), L⟩ : RG)) (len := 8) (j := 4 + P.n5) e_X10_readLease_120 h14025 (fun _ h => h) (fun f h => ⟨f, rfl, h⟩) (by decide) (by decide) (nI_clamp (by omega)) (vp_in_nI (by omega) (by decide)) ⟨1, by omega, rfl, fun h7 _ => absurd h7 (by omega), fun _ _ => by omega⟩ (fun i hi y hy => by obtain ⟨n9, a9, b9, c9, d9⟩ := hy; exact ⟨n9, a9, b9, c9, fun h7 h8 => d9 h7 (show i < 4 + P13691.m5 by have h6 : i < 4 + (P13691.n5 + 1) := h8; omega)⟩) (CR.chg (by intro k hk i x h; unfold EI at h ⊢; split at h <;> first | exact h | exact absurd rfl hk | trivial) rfl rfl rfl rfl) (fun σ14026 h14027 g14028 f14029 g14030 => ?_)
          obtain ⟨P14031, eP14031⟩ : ∃ P9, P9 = (mkP P13691.n0 P13691.n2 P13691.n5 P13691.n7 P13691.m0 (P13691.n5 + 1) P13691.w2 P13691.w7 P13691.kk P13691.a P13691.f P13691.p) := ⟨_, rfl⟩
          rw [← eP14031] at h14027
          have fP14031 : P14031.n0 = P13691.n0 ∧ P14031.n2 = P13691.n2 ∧ P14031.n5 = P13691.n5 ∧ P14031.n7 = P13691.n7 ∧ P14031.m0 = P13691.m0 ∧ P14031.m5 = P13691.n5 + 1 ∧ P14031.w2 = P13691.w2 ∧ P14031.w7 = P13691.w7 ∧ P14031.kk = P13691.kk ∧ P14031.a = P13691.a ∧ P14031.f = P13691.f ∧ P14031.p = P13691.p := by rw [eP14031]; exact ⟨rfl, rfl, rfl, rfl, rfl, rfl, rfl, rfl, rfl, rfl, rfl, rfl⟩
          refine m_aload_n F rfl e_X10_readLease_121 ?_
          refine r_get F e_X10_readLease_122 fl_X10_25 h14027 rfl (fun v hv f14032 => ?_)
          obtain rfl : v = .ref (c + 6) := hv
          refine m_iload_n F rfl e_X10_readLease_125 ?_
          refine m_aload_n F rfl e_X10_readLease_126 ?_
          refine m_iconst F (v := 0) (by decide) e_X10_readLease_127 ?_
          refine m_ldc F kc_X10_169 e_X10_readLease_128 ?_
          have oP14036 : OKP P14031 := by unfold OKP; omega
          refine r_callV F e_X10_readLease_130 (q_X10_numeralG (x_l X) V c T Z u h P14031 L _ _ 0 200000 2 h14027.1 (hob) oP14036 (by omega) (by omega) ((fld_eq (g14028 _ (by omega))).trans ((fld_eq (g14019 _ (by omega))).trans fa13709)) (by decide)) cb_X10_numeral ml_X10_165 im_X10_numeral se_X10_numeral h14027 rfl rfl (rest := [.int (nI (4 + P.n5)), .ref (c + 6)]) rfl (Nat.le_of_ble_eq_true rfl) ⟨Nat.le_of_ble_eq_true rfl, Nat.le_of_ble_eq_true rfl⟩ ⟨Nat.le_of_ble_eq_true rfl, Nat.le_of_ble_eq_true rfl⟩ (fun r σ14033 hp => ?_)
          obtain ⟨h14034, hp⟩ := hp
          have h14035 := HS.trans h14027 h14034 (by decide)
          obtain ⟨rfl, rfl⟩ := hp
          refine r_iast F (g' := (⟨T, Z, u, h, P14031, L⟩ : RG)) (len := 8) (j := 4 + P.n5) e_X10_readLease_133 h14035 (fun _ h => h) (fun f h => ⟨f, rfl, h⟩) (by decide) (by decide) (nI_clamp (by omega)) (vp_in_nI (by omega) (by decide)) ⟨0, by omega, rfl⟩ (fun _ _ _ h => h) (fun _ _ _ h => h) (fun σ14037 h14038 g14039 f14040 g14041 => ?_)
          refine m_aload_n F rfl e_X10_readLease_134 ?_
          refine r_get F e_X10_readLease_135 fl_X10_28 h14038 rfl (fun v hv f14042 => ?_)
          obtain rfl : v = .ref (c + 7) := hv
          refine m_iload_n F rfl e_X10_readLease_138 ?_
          refine m_iconst F (v := 0) (by decide) e_X10_readLease_139 ?_
          refine r_iast F (g' := (⟨T, Z, u, h, P14031, L⟩ : RG)) (len := 8) (j := 4 + P.n5) e_X10_readLease_140 h14038 (fun _ h => h) (fun f h => ⟨f, rfl, h⟩) (by decide) (by decide) (nI_clamp (by omega)) (vp_in_nI (by omega) (by decide)) trivial (fun _ _ _ h => h) (fun _ _ _ h => h) (fun σ14043 h14044 g14045 f14046 g14047 => ?_)
          refine m_aload_n F rfl e_X10_readLease_141 ?_
          refine r_get F e_X10_readLease_142 fl_X10_31 h14044 rfl (fun v hv f14048 => ?_)
          obtain rfl : v = .ref (c + 8) := hv
          refine m_iload_n F rfl e_X10_readLease_145 ?_
          refine m_iconst F (v := 0) (by decide) e_X10_readLease_146 ?_
          refine r_iast F (g' := (⟨T, Z, u, h, P14031, L⟩ : RG)) (len := 8) (j := 4 + P.n5) e_X10_readLease_147 h14044 (fun _ h => h) (fun f h => ⟨f, rfl, h⟩) (by decide) (by decide) (nI_clamp (by omega)) (vp_in_nI (by omega) (by decide)) trivial (fun _ _ _ h => h) (fun _ _ _ h => h) (fun σ14049 h14050 g14051 f14052 g14053 => ?_)
          refine m_aload_n F rfl e_X10_readLease_148 ?_
          refine r_get F e_X10_readLease_149 fl_X10_34 h14050 rfl (fun v hv f14054 => ?_)
          obtain rfl : v = .ref (c + 9) := hv
          refine m_iload_n F rfl e_X10_readLease_152 ?_
          refine m_iconst F (v := 0) (by decide) e_X10_readLease_153 ?_
          refine r_iast F (g' := (⟨T, Z, u, h, P14031, L⟩ : RG)) (len := 8) (j := 4 + P.n5) e_X10_readLease_154 h14050 (fun _ h => h) (fun f h => ⟨f, rfl, h⟩) (by decide) (by decide) (nI_clamp (by omega)) (vp_in_nI (by omega) (by decide)) trivial (fun _ _ _ h => h) (fun _ _ _ h => h) (fun σ14055 h14056 g14057 f14058 g14059 => ?_)
          refine m_iconst F (v := 0) (by decide) e_X10_readLease_155 ?_
          refine m_istore_n F (lv' := [(2, .int 0), (1, .int (nI (4 + P.n5))), (0, .ref c)]) e_X10_readLease_156 (by decide) rfl ?_
          refine Wm.lvsub (lv' := [(0, .ref c), (1, .int (nI (4 + P.n5))), (2, .int 0)]) ?_ [2, 1, 0] rfl
          exact lq_X10_readLeaseE_157 F hQ hob hP hp0 hp1 hp2 hp3 hp4 hp5 hp6 hp7 hp8 hp9 hp10 hp11 hp12 hp13 hp14 (48 - 0 + 1) (4 + P.n5) 0 P14031 _ h14056 oP14036 (by unfold RP; omega) ⟨by omega, by omega, by omega, by omega, (by unfold leaseS; dsimp only; rw [if_neg (by omega), ek13588, newK_ok hs13596 e13620, ek13679, numK_2 e13700 e13701]; exact RM.l ((fld_eq (g14057 _ (by omega))).trans ((fld_eq (g14051 _ (by omega))).trans ((fld_eq (g14045 _ (by omega))).trans ((fld_eq (g14039 _ (by omega))).trans ((fld_eq (g14028 _ (by omega))).trans ((fld_eq (g14019 _ (by omega))).trans fa13709)))))) ((fld_eq (g14057 _ (by omega))).trans ((fld_eq (g14051 _ (by omega))).trans ((fld_eq (g14045 _ (by omega))).trans ((fld_eq (g14039 _ (by omega))).trans ((fld_eq (g14028 _ (by omega))).trans ((fld_eq (g14019 _ (by omega))).trans fb13710)))))) (by decide) (by decide) (by omega))⟩ (Nat.lt_succ_self _)
    · have hnw := mt13586.nw hs13596
      refine r_getC F e_X10_readLease_27 fl_X10_110 h13573 (yd13592) ?_
      refine m_iconst F (v := 1) (by decide) e_X10_readLease_30 ?_
      refine m_icmp_eq F e_X10_readLease_31 (fun q31 => ?_) (fun q31 => ?_)
      · exact absurd q31 hnw
      · refine m_aload_n F rfl e_X10_readLease_34 ?_
        refine m_iconst F (v := 1) (by decide) e_X10_readLease_35 ?_
        refine r_callV F e_X10_readLease_36 (q_X10_wrongE (x_l X) V c T Z u h P13574 L _ _ 1 n k13588.1 so13584 va13585 ln fp h13573.1 (hob) oP13574 (by omega) ⟨(yd13589), (yd13590), (yd13591), (yd13592), (yd13593), (yd13594), (yd13595)⟩ (by decide)) cb_X10_wrong ml_X10_150 im_X10_wrong se_X10_wrong h13573 rfl rfl (rest := []) rfl (Nat.le_of_ble_eq_true rfl) ⟨Nat.le_of_ble_eq_true rfl, Nat.le_of_ble_eq_true rfl⟩ ⟨Nat.le_of_ble_eq_true rfl, Nat.le_of_ble_eq_true rfl⟩ (fun r σ14060 hp => ?_)
        obtain ⟨h14061, hp⟩ := hp
        have h14062 := HS.trans h13573 h14061 (by decide)
        have ga14063 := ga13577.of (h14061.2 (c + 1) (by rw [kC_at (k := 1) (by decide)]; decide))
        have ga14064 := ga13578.of (h14061.2 (c + 2) (by rw [kC_at (k := 2) (by decide)]; decide))
        have ga14065 := ga13579.of (h14061.2 (c + 3) (by rw [kC_at (k := 3) (by decide)]; decide))
        have ga14066 := ga13580.of (h14061.2 (c + 7) (by rw [kC_at (k := 7) (by decide)]; decide))
        have ga14067 := ga13581.of (h14061.2 (c + 8) (by rw [kC_at (k := 8) (by decide)]; decide))
        have ga14068 := ga13582.of (h14061.2 (c + 9) (by rw [kC_at (k := 9) (by decide)]; decide))
        have ga14069 := ga13583.of (h14061.2 (c + 11) (by rw [kC_at (k := 11) (by decide)]; decide))
        obtain ⟨hp, rfl⟩ := hp
        have hyd14070 := hp
        obtain ⟨yd14070, yd14071, yd14072, yd14073, yd14074, yd14075, yd14076⟩ := hyd14070
        refine m_goto F e_X10_readLease_39 ?_
        refine m_aload_n F rfl e_X10_readLease_65 ?_
        refine r_getC F e_X10_readLease_66 fl_X10_141 h14062 (yd14075) ?_
        refine m_if_eq F e_X10_readLease_69 (fun q => absurd q (by decide)) (fun _ => ?_)
        have h14077 : HS V c _ [0, 2, 12, 13, 14, 15, 16, 17, 18, 19, 20, 21, 22, 23] _ _ := ⟨HR.mono (Z' := Z) (by intro e; first | rfl | assumption | omega) h14062.1, h14062.2⟩
        exact m_vret F hQ e_X10_readLease_72 (⟨P13574, oP13574, (by unfold RP; omega), (by unfold leaseS; dsimp only; rw [if_neg (by omega), ek13588, newK_1 hs13596]; exact RM.l (yd14075) (yd14076) (by decide) (by decide) (by omega)), h14077, rfl⟩)
  · have c6 : P.n5 = 4 := (nI_eq (a := P.n5) (b := 4) (by omega) (by omega)).mp q6
    refine m_aload_n F rfl e_X10_readLease_9 ?_
    refine m_iconst F (v := 2) (by decide) e_X10_readLease_10 ?_
    refine r_callV F e_X10_readLease_11 (q_X10_wrongE (x_l X) V c T Z u h P L _ _ 2 n st so va ln fp h13563.1 (hob) hP (by omega) ⟨((fld_eq (h13562.2 c (by rw [show kC c c = 1 from kC_at (k := 0) (by decide)]; decide))).trans yd13554), ((fld_eq (h13562.2 c (by rw [show kC c c = 1 from kC_at (k := 0) (by decide)]; decide))).trans yd13555), ((fld_eq (h13562.2 c (by rw [show kC c c = 1 from kC_at (k := 0) (by decide)]; decide))).trans yd13556), ((fld_eq (h13562.2 c (by rw [show kC c c = 1 from kC_at (k := 0) (by decide)]; decide))).trans yd13557), ((fld_eq (h13562.2 c (by rw [show kC c c = 1 from kC_at (k := 0) (by decide)]; decide))).trans yd13558), ((fld_eq (h13562.2 c (by rw [show kC c c = 1 from kC_at (k := 0) (by decide)]; decide))).trans yd13559), ((fld_eq (h13562.2 c (by rw [show kC c c = 1 from kC_at (k := 0) (by decide)]; decide))).trans yd13560)⟩ (by decide)) cb_X10_wrong ml_X10_150 im_X10_wrong se_X10_wrong h13563 rfl rfl (rest := []) rfl (Nat.le_of_ble_eq_true rfl) ⟨Nat.le_of_ble_eq_true rfl, Nat.le_of_ble_eq_true rfl⟩ ⟨Nat.le_of_ble_eq_true rfl, Nat.le_of_ble_eq_true rfl⟩ (fun r σ14078 hp => ?_)
    obtain ⟨h14079, hp⟩ := hp
    have h14080 := HS.trans h13563 h14079 (by decide)
    have ga14081 := ga13564.of (h14079.2 (c + 1) (by rw [kC_at (k := 1) (by decide)]; decide))
    have ga14082 := ga13565.of (h14079.2 (c + 2) (by rw [kC_at (k := 2) (by decide)]; decide))
    have ga14083 := ga13566.of (h14079.2 (c + 3) (by rw [kC_at (k := 3) (by decide)]; decide))
    have ga14084 := ga13567.of (h14079.2 (c + 7) (by rw [kC_at (k := 7) (by decide)]; decide))
    have ga14085 := ga13568.of (h14079.2 (c + 8) (by rw [kC_at (k := 8) (by decide)]; decide))
    have ga14086 := ga13569.of (h14079.2 (c + 9) (by rw [kC_at (k := 9) (by decide)]; decide))
    have ga14087 := ga13570.of (h14079.2 (c + 11) (by rw [kC_at (k := 11) (by decide)]; decide))
    obtain ⟨hp, rfl⟩ := hp
    have hyd14088 := hp
    obtain ⟨yd14088, yd14089, yd14090, yd14091, yd14092, yd14093, yd14094⟩ := hyd14088
    refine m_aload_n F rfl e_X10_readLease_14 ?_
    refine r_callV F e_X10_readLease_15 (q_X10_goOnG (x_l X) V c T 0 u h P L _ _  2 h14080.1 (hob) hP  (yd14093) (by decide)) cb_X10_goOn ml_X10_154 im_X10_goOn se_X10_goOn h14080 rfl rfl (rest := []) rfl (Nat.le_of_ble_eq_true rfl) ⟨Nat.le_of_ble_eq_true rfl, Nat.le_of_ble_eq_true rfl⟩ ⟨Nat.le_of_ble_eq_true rfl, Nat.le_of_ble_eq_true rfl⟩ (fun r σ14095 hp => ?_)
    obtain ⟨h14096, hp⟩ := hp
    have h14097 := HS.trans h14080 h14096 (by decide)
    have ga14098 := ga14081.of (h14096.2 (c + 1) (by rw [kC_at (k := 1) (by decide)]; decide))
    have ga14099 := ga14082.of (h14096.2 (c + 2) (by rw [kC_at (k := 2) (by decide)]; decide))
    have ga14100 := ga14083.of (h14096.2 (c + 3) (by rw [kC_at (k := 3) (by decide)]; decide))
    have ga14101 := ga14084.of (h14096.2 (c + 7) (by rw [kC_at (k := 7) (by decide)]; decide))
    have ga14102 := ga14085.of (h14096.2 (c + 8) (by rw [kC_at (k := 8) (by decide)]; decide))
    have ga14103 := ga14086.of (h14096.2 (c + 9) (by rw [kC_at (k := 9) (by decide)]; decide))
    have ga14104 := ga14087.of (h14096.2 (c + 11) (by rw [kC_at (k := 11) (by decide)]; decide))
    obtain ⟨rfl, rfl⟩ := hp
    refine m_aload_n F rfl e_X10_readLease_18 ?_
    refine r_getC F e_X10_readLease_19 fl_X10_141 h14097 (yd14093) ?_
    refine m_if_eq F e_X10_readLease_22 (fun q => absurd q (by decide)) (fun _ => ?_)
    have h14105 : HS V c _ [0, 2, 12, 13, 14, 15, 16, 17, 18, 19, 20, 21, 22, 23] _ _ := ⟨HR.mono (Z' := Z) (by intro e; first | rfl | assumption | omega) h14097.1, h14097.2⟩
    exact m_vret F hQ e_X10_readLease_25 (⟨P, hP, (by unfold RP; omega), (by unfold leaseS; dsimp only; rw [if_pos (by omega)]; exact RM.l (yd14093) (yd14094) (by decide) (by decide) (by omega)), h14105, rfl⟩)
