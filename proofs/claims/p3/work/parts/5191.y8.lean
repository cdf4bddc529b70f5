set_option maxRecDepth 20000 in
theorem q_X10_reading0E (l : Launch) (V : VX) (c T Z u h : Nat) (P : NP) (L : Nat → LQ) (N : Nat) (σ : Mem)  (h0 : HR V c ⟨T, Z, u, h, P, L⟩ σ) (hob : OKB L) (hP : OKP P)  : Ct l V yX10_reading cX10_reading 2 (some .int) 0 0 0 N σ [.ref c, .int 0] (fun r τ => HS V c (⟨T, Z, u, h, P, L⟩ : RG) [0, 1, 2, 3, 4, 5, 6, 7, 8, 9, 10, 11, 12, 13, 14, 15, 16, 17, 18, 19, 20, 21, 22, 23] σ τ ∧ r = some (.int (nI P.n5))) := by
  refine Ct.of (by decide) (Nat.le_of_ble_eq_true rfl) [(0, .ref c), (1, .int 0)] rfl (fun X hX F hQ => ?_)
  have hPP := hP
  unfold OKP at hPP
  have h1 : HS V c ⟨T, Z, u, h, P, L⟩ [0, 1, 2, 3, 4, 5, 6, 7, 8, 9, 10, 11, 12, 13, 14, 15, 16, 17, 18, 19, 20, 21, 22, 23] σ σ := HS.start h0
  refine m_aload_n F rfl e_X10_reading_0 ?_
  refine r_get F e_X10_reading_1 fl_X10_13 h1 rfl (fun v hv f13529 => ?_)
  obtain rfl : v = .ref (c + 2) := hv
  refine m_iconst F (v := 5) (by decide) e_X10_reading_4 ?_
  refine m_iload_n F rfl e_X10_reading_5 ?_
  refine m_iadd F e_X10_reading_6 ?_
  refine Wm.topE (w := 5) (by decide) ?_
  refine r_iald F (len := 10) (j := 5) e_X10_reading_7 h1 (fun _ h => h) (by decide) (by decide) (by unfold vp_in; decide) (fun x13530 h13531 f13532 => ?_)
  obtain rfl : x13530 = nI P.n5 := h13531.2.2.1 rfl
  exact m_iret F hQ e_X10_reading_8 (⟨h1, rfl⟩)
set_option maxRecDepth 20000 in
theorem lq_X10_readLeaseE_157 {V : VX} {X : MX} {N : Nat} {σ : Mem} {c T Z u h : Nat} {P : NP} {L : Nat → LQ}  {n st : Nat} {so va : Int32} {ln : Nat} {fp : Int32} {t : Nat → Nat} {s9 v9 : Nat} {nm : Nat → Nat} {np lc no sd : Nat} {md : Nat → Nat → Bool} (F : Fx V X yX10_readLease cX10_readLease 3 none (rmd 8 0 0)) (hQ : Rt V X 0 0 N (fun r τ => ∃ P9 : NP, OKP P9 ∧ RP P P9 ∧ RM τ c n P9 (leaseS (tok t n) (st, s9, v9, P.a) P.n5 nm np P.n7 lc no sd md ln) ∧ HS V c (⟨T, Z, u, h, P9, L⟩ : RG) [0, 2, 12, 13, 14, 15, 16, 17, 18, 19, 20, 21, 22, 23] σ τ ∧ r = none)) (hob : OKB L) (hP : OKP P) (hp0 : YD σ c n st so va ln 0 fp) (hp1 : BR σ c n t) (hp2 : n ≤ 700) (hp3 : P.a ≤ n) (hp4 : MT so va s9 v9) (hp5 : st ≤ n) (hp6 : NR σ c np no sd) (hp7 : MR σ c P.n5 nm) (hp8 : KR σ c P.n5 md) (hp9 : FR σ c 8 1 P.n5 md) (hp10 : FR σ c 9 2 P.n5 md) (hp11 : QR σ c P.n7 lc) (hp12 : np ≤ 12) (hp13 : no ≤ 4) (hp14 : sd ≤ 1)  : ∀ (fuel : Nat) (a : Nat) (i : Nat) (P1 : NP) (τ : Mem), HS V c (⟨T, Z, u, h, P1, L⟩ : RG) [0, 2, 12, 13, 14, 15, 16, 17, 18, 19, 20, 21, 22, 23] σ τ → OKP P1 → RP P P1 → a = 4 + P1.n5 ∧ i ≤ 48 ∧ P1.n5 ≤ 3 ∧ P1.n5 + 1 ≤ P1.m5 ∧ RM τ c n (mkP P1.n0 P1.n2 (P1.n5 + 1) P1.n7 P1.m0 P1.m5 P1.w2 P1.w7 P1.kk P1.a) (leaseS (tok t n) (st, s9, v9, P.a) P.n5 nm np P.n7 lc no sd md ln) → 48 - i < fuel → Wm V X 3 N τ 0 0 157 [(0, .ref c), (1, .int (nI a)), (2, .int (nI i))] [] := by
  intro fuel
  induction fuel with
  | zero => intros; rename_i hm; exact absurd hm (Nat.not_lt_zero _)
  | succ fuel ih =>
    intro a i P1 τ h1 hP1 hR1 hi hm
    have hPP := hP
    unfold OKP at hPP
    have hPP1 := hP1
    unfold OKP at hPP1
    unfold RP at hR1
    obtain ⟨i1, i2, i3, i4, hRM⟩ := hi
    refine m_iload_n F rfl e_X10_readLease_157 ?_
    refine m_bipush F (v := 48) (by decide) e_X10_readLease_158 ?_
    refine m_icmp_ge F e_X10_readLease_160 (fun q160 => ?_) (fun q160 => ?_)
    · have c160 : i ≥ 48 := (nI_leI (a := 48) (b := i) (by omega) (by omega)).mp q160
      refine m_aload_n F rfl e_X10_readLease_181 ?_
      refine m_iconst F (v := 0) (by decide) e_X10_readLease_182 ?_
      refine m_aload_n F rfl e_X10_readLease_183 ?_
      refine m_iconst F (v := 0) (by decide) e_X10_readLease_184 ?_
      refine r_callV F e_X10_readLease_185 (q_X10_reading0E (x_l X) V c T Z u h P1 L _ _   h1.1 (hob) hP1  ) cb_X10_reading ml_X10_157 im_X10_reading se_X10_reading h1 rfl rfl (rest := [.int 0, .ref c]) rfl (Nat.le_of_ble_eq_true rfl) ⟨Nat.le_of_ble_eq_true rfl, Nat.le_of_ble_eq_true rfl⟩ ⟨Nat.le_of_ble_eq_true rfl, Nat.le_of_ble_eq_true rfl⟩ (fun r σ13533 hp => ?_)
      obtain ⟨h13534, hp⟩ := hp
      have h13535 := HS.trans h1 h13534 (by decide)
      obtain rfl := hp
      refine m_iconst F (v := 1) (by decide) e_X10_readLease_188 ?_
      refine m_iadd F e_X10_readLease_189 ?_
      refine Wm.topE (w := nI (P1.n5 + 1)) (nI_add P1.n5 1) ?_
      refine r_callV F e_X10_readLease_190 (q_X10_reads0E (x_l X) V c T Z u h P1 L _ _ (P1.n5 + 1)  h13535.1 (hob) hP1 (by omega) (by omega)) cb_X10_reads ml_X10_170 im_X10_reads se_X10_reads h13535 rfl rfl (rest := []) rfl (Nat.le_of_ble_eq_true rfl) ⟨Nat.le_of_ble_eq_true rfl, Nat.le_of_ble_eq_true rfl⟩ ⟨Nat.le_of_ble_eq_true rfl, Nat.le_of_ble_eq_true rfl⟩ (fun r σ13536 hp => ?_)
      obtain ⟨h13537, hp⟩ := hp
      have h13538 := HS.trans h13535 h13537 (by decide)
      obtain ⟨ea13539, eb13540, rfl⟩ := hp
      obtain ⟨P13541, eP13541⟩ : ∃ P9, P9 = (mkP P1.n0 P1.n2 (P1.n5 + 1) P1.n7 P1.m0 P1.m5 P1.w2 P1.w7 P1.kk P1.a) := ⟨_, rfl⟩
      rw [← eP13541] at h13538
      have fP13541 : P13541.n0 = P1.n0 ∧ P13541.n2 = P1.n2 ∧ P13541.n5 = P1.n5 + 1 ∧ P13541.n7 = P1.n7 ∧ P13541.m0 = P1.m0 ∧ P13541.m5 = P1.m5 ∧ P13541.w2 = P1.w2 ∧ P13541.w7 = P1.w7 ∧ P13541.kk = P1.kk ∧ P13541.a = P1.a := by rw [eP13541]; exact ⟨rfl, rfl, rfl, rfl, rfl, rfl, rfl, rfl, rfl, rfl⟩
      have oP13542 : OKP P13541 := by unfold OKP; omega
      exact m_vret F hQ e_X10_readLease_193 (⟨P13541, oP13542, (by unfold RP; omega), (RM.to hRM (fun j => (fld_eq (h13537.2 c (by rw [show kC c c = 1 from kC_at (k := 0) (by decide)]; decide))).trans (fld_eq (h13534.2 c (by rw [show kC c c = 1 from kC_at (k := 0) (by decide)]; decide)))) (fun i h5 _ => (eb13540 i h5).trans (elI_eq (h13534.2 (c + 2) (by rw [kC_at (k := 2) (by decide)]; decide)))) ((h13537.2 (c + 3) (by rw [kC_at (k := 3) (by decide)]; decide)).trans (h13534.2 (c + 3) (by rw [kC_at (k := 3) (by decide)]; decide))) ((h13537.2 (c + 7) (by rw [kC_at (k := 7) (by decide)]; decide)).trans (h13534.2 (c + 7) (by rw [kC_at (k := 7) (by decide)]; decide))) ((h13537.2 (c + 8) (by rw [kC_at (k := 8) (by decide)]; decide)).trans (h13534.2 (c + 8) (by rw [kC_at (k := 8) (by decide)]; decide))) ((h13537.2 (c + 9) (by rw [kC_at (k := 9) (by decide)]; decide)).trans (h13534.2 (c + 9) (by rw [kC_at (k := 9) (by decide)]; decide))) ((h13537.2 (c + 11) (by rw [kC_at (k := 11) (by decide)]; decide)).trans (h13534.2 (c + 11) (by rw [kC_at (k := 11) (by decide)]; decide))) (by show P13541.a = P1.a; omega) (by show P13541.n5 = P1.n5 + 1; omega) (by show P13541.n7 = P1.n7; omega)), h13538, rfl⟩)
    · have c160 : i < 48 := by have hh := mt (nI_leI (a := 48) (b := i) (by omega) (by omega)).mpr q160; omega
      refine m_aload_n F rfl e_X10_readLease_163 ?_
      refine r_get F e_X10_readLease_164 fl_X10_37 h1 rfl (fun v hv f13543 => ?_)
      obtain rfl : v = .ref (c + 10) := hv
      refine m_bipush F (v := 48) (by decide) e_X10_readLease_167 ?_
      refine m_iload_n F rfl e_X10_readLease_169 ?_
      refine m_imul F e_X10_readLease_170 ?_
      refine Wm.topE (w := nI (48 * a)) (pk_mul 48 a) ?_
      refine m_iload_n F rfl e_X10_readLease_171 ?_
      refine m_iadd F e_X10_readLease_172 ?_
      refine Wm.topE (w := nI ((48 * a) + i)) (nI_add (48 * a) i) ?_
      refine m_iconst F (v := 0) (by decide) e_X10_readLease_173 ?_
      refine r_iast F (g' := (⟨T, Z, u, h, P1, L⟩ : RG)) (len := 384) (j := (48 * a) + i) e_X10_readLease_174 h1 (fun _ h => h) (fun f h => ⟨f, rfl, h⟩) (by decide) (by decide) (nI_clamp (by omega)) (vp_in_nI (by omega) (by decide)) trivial (fun _ _ _ h => h) (fun _ _ _ h => h) (fun σ13544 h13545 g13546 f13547 g13548 => ?_)
      refine m_iinc F (v := nI (i + 1)) (lv' := [(2, .int (nI (i + 1))), (0, .ref c), (1, .int (nI a))]) e_X10_readLease_175 rfl (nI_add i 1) (by decide) rfl ?_
      refine m_goto F e_X10_readLease_178 ?_
      refine Wm.lvsub (lv' := [(0, .ref c), (1, .int (nI a)), (2, .int (nI (i + 1)))]) ?_ [1, 2, 0] rfl
      exact ih a (i + 1) P1 _ h13545 hP1 (by unfold RP; omega) ⟨by omega, by omega, by omega, by omega, RM.g hRM g13546 rfl rfl rfl⟩ (by omega)
set_option maxRecDepth 20000 in
theorem q_X10_readLeaseE (l : Launch) (V : VX) (c T Z u h : Nat) (P : NP) (L : Nat → LQ) (N : Nat) (σ : Mem) (n st : Nat) (so va : Int32) (ln : Nat) (fp : Int32) (t : Nat → Nat) (s9 v9 : Nat) (nm : Nat → Nat) (np lc no sd : Nat) (md : Nat → Nat → Bool) (h0 : HR V c ⟨T, Z, u, h, P, L⟩ σ) (hob : OKB L) (hP : OKP P) (hp0 : YD σ c n st so va ln 0 fp) (hp1 : BR σ c n t) (hp2 : n ≤ 700) (hp3 : P.a ≤ n) (hp4 : MT so va s9 v9) (hp5 : st ≤ n) (hp6 : NR σ c np no sd) (hp7 : MR σ c P.n5 nm) (hp8 : KR σ c P.n5 md) (hp9 : FR σ c 8 1 P.n5 md) (hp10 : FR σ c 9 2 P.n5 md) (hp11 : QR σ c P.n7 lc) (hp12 : np ≤ 12) (hp13 : no ≤ 4) (hp14 : sd ≤ 1) : Ct l V yX10_readLease cX10_readLease 3 none 8 0 0 N σ [.ref c] (fun r τ => ∃ P9 : NP, OKP P9 ∧ RP P P9 ∧ RM τ c n P9 (leaseS (tok t n) (st, s9, v9, P.a) P.n5 nm np P.n7 lc no sd md ln) ∧ HS V c (⟨T, Z, u, h, P9, L⟩ : RG) [0, 2, 12, 13, 14, 15, 16, 17, 18, 19, 20, 21, 22, 23] σ τ ∧ r = none) := by
  refine Ct.of (by decide) (Nat.le_of_ble_eq_true rfl) [(0, .ref c)] rfl (fun X hX F hQ => ?_)
  have hPP := hP
  unfold OKP at hPP
  have h1 : HS V c ⟨T, Z, u, h, P, L⟩ [0, 2, 12, 13, 14, 15, 16, 17, 18, 19, 20, 21, 22, 23] σ σ := HS.start h0
  have hyd13549 := hp0
  obtain ⟨yd13549, yd13550, yd13551, yd13552, yd13553, yd13554, yd13555⟩ := hyd13549
  have hn7 := hp2
  refine m_aload_n F rfl e_X10_readLease_0 ?_
  refine m_iconst F (v := 0) (by decide) e_X10_readLease_1 ?_
  refine r_callV F e_X10_readLease_2 (q_X10_reading0 (x_l X) V c T Z u h P L _ _  h1.1 (hob) hP ) cb_X10_reading ml_X10_157 im_X10_reading se_X10_reading h1 rfl rfl (rest := []) rfl (Nat.le_of_ble_eq_true rfl) ⟨Nat.le_of_ble_eq_true rfl, Nat.le_of_ble_eq_true rfl⟩ ⟨Nat.le_of_ble_eq_true rfl, Nat.le_of_ble_eq_true rfl⟩ (fun r σ13556 hp => ?_)
  obtain ⟨h13557, rfl⟩ := hp
  have h13558 := HS.trans h1 h13557 (by decide)
  have ga13559 := hp1.of (h13557.2 (c + 1) (by rw [kC_at (k := 1) (by decide)]; decide))
  have ga13560 := hp6.of (h13557.2 (c + 2) (by rw [kC_at (k := 2) (by decide)]; decide))
  have ga13561 := hp7.of (h13557.2 (c + 3) (by rw [kC_at (k := 3) (by decide)]; decide))
  have ga13562 := hp8.of (h13557.2 (c + 7) (by rw [kC_at (k := 7) (by decide)]; decide))
  have ga13563 := hp9.of (h13557.2 (c + 8) (by rw [kC_at (k := 8) (by decide)]; decide))
  have ga13564 := hp10.of (h13557.2 (c + 9) (by rw [kC_at (k := 9) (by decide)]; decide))
  have ga13565 := hp11.of (h13557.2 (c + 11) (by rw [kC_at (k := 11) (by decide)]; decide))
  refine Wm.topE (w := nI P.n5) (congrArg nI (by omega)) ?_
  refine m_iconst F (v := 4) (by decide) e_X10_readLease_5 ?_
  refine m_icmp_ne F e_X10_readLease_6 (fun q6 => ?_) (fun q6 => ?_)
  · have c6 : P.n5 ≠ 4 := by have hh := mt (nI_eq (a := P.n5) (b := 4) (by omega) (by omega)).mpr q6; omega
    refine m_aload_n F rfl e_X10_readLease_14 ?_
    refine r_callV F e_X10_readLease_15 (q_X10_goOnE (x_l X) V c T Z u h P L _ _  n st so va ln fp t h13558.1 (hob) hP  ⟨((fld_eq (h13557.2 c (by rw [show kC c c = 1 from kC_at (k := 0) (by decide)]; decide))).trans yd13549), ((fld_eq (h13557.2 c (by rw [show kC c c = 1 from kC_at (k := 0) (by decide)]; decide))).trans yd13550), ((fld_eq (h13557.2 c (by rw [show kC c c = 1 from kC_at (k := 0) (by decide)]; decide))).trans yd13551), ((fld_eq (h13557.2 c (by rw [show kC c c = 1 from kC_at (k := 0) (by decide)]; decide))).trans yd13552), ((fld_eq (h13557.2 c (by rw [show kC c c = 1 from kC_at (k := 0) (by decide)]; decide))).trans yd13553), ((fld_eq (h13557.2 c (by rw [show kC c c = 1 from kC_at (k := 0) (by decide)]; decide))).trans yd13554), ((fld_eq (h13557.2 c (by rw [show kC c c = 1 from kC_at (k := 0) (by decide)]; decide))).trans yd13555)⟩ ga13559 hn7 (by omega)) cb_X10_goOn ml_X10_154 im_X10_goOn se_X10_goOn h13558 rfl rfl (rest := []) rfl (Nat.le_of_ble_eq_true rfl) ⟨Nat.le_of_ble_eq_true rfl, Nat.le_of_ble_eq_true rfl⟩ ⟨Nat.le_of_ble_eq_true rfl, Nat.le_of_ble_eq_true rfl⟩ (fun r σ13566 hp => ?_)
    obtain ⟨P13569, oP13569, rP13569, pr13570, pr13571, h13567, hp⟩ := hp
    have h13568 := HS.trans h13558 h13567 (by decide)
    have xP13569 := oP13569
    unfold OKP at xP13569
    unfold RA at rP13569
    have ga13572 := ga13559.of (h13567.2 (c + 1) (by rw [kC_at (k := 1) (by decide)]; decide))
    have ga13573 := ga13560.of (h13567.2 (c + 2) (by rw [kC_at (k := 2) (by decide)]; decide))
    have ga13574 := ga13561.of (h13567.2 (c + 3) (by rw [kC_at (k := 3) (by decide)]; decide))
    have ga13575 := ga13562.of (h13567.2 (c + 7) (by rw [kC_at (k := 7) (by decide)]; decide))
    have ga13576 := ga13563.of (h13567.2 (c + 8) (by rw [kC_at (k := 8) (by decide)]; decide))
    have ga13577 := ga13564.of (h13567.2 (c + 9) (by rw [kC_at (k := 9) (by decide)]; decide))
    have ga13578 := ga13565.of (h13567.2 (c + 11) (by rw [kC_at (k := 11) (by decide)]; decide))
    obtain rfl := hp
    obtain ⟨so13579, va13580, mt13581, yd13582⟩ := pr13571
    generalize ek13583 : tok t n P.a = k13583 at pr13570 mt13581 yd13582
    have bk13583 := tok_ok (t := t) (n := n) P.a (by omega)
    rw [ek13583] at bk13583
    have hyd13584 := yd13582
    obtain ⟨yd13584, yd13585, yd13586, yd13587, yd13588, yd13589, yd13590⟩ := hyd13584
    refine m_aload_n F rfl e_X10_readLease_18 ?_
    refine r_getC F e_X10_readLease_19 fl_X10_141 h13568 (yd13589) ?_
    refine m_if_eq F e_X10_readLease_22 (fun _ => ?_) (fun q => absurd (by decide) q)
    refine m_aload_n F rfl e_X10_readLease_26 ?_
    by_cases hs13591 : k13583.2.1 = 2
    · obtain ⟨q13592, q13593, q13594⟩ := mt13581.w hs13591
      subst q13592
      subst q13593
      refine r_getC F e_X10_readLease_27 fl_X10_110 h13568 (yd13587) ?_
      refine m_iconst F (v := 1) (by decide) e_X10_readLease_30 ?_
      refine m_icmp_eq F e_X10_readLease_31 (fun _ => ?_) (fun q => absurd (by decide) q)
      refine m_aload_n F rfl e_X10_readLease_42 ?_
      refine m_iconst F (v := 4) (by decide) e_X10_readLease_43 ?_
      refine m_aload_n F rfl e_X10_readLease_44 ?_
      refine m_iconst F (v := 0) (by decide) e_X10_readLease_45 ?_
      refine r_callV F e_X10_readLease_46 (q_X10_reading0 (x_l X) V c T Z u h P13569 L _ _  h13568.1 (hob) oP13569 ) cb_X10_reading ml_X10_157 im_X10_reading se_X10_reading h13568 rfl rfl (rest := [.int 4, .ref c]) rfl (Nat.le_of_ble_eq_true rfl) ⟨Nat.le_of_ble_eq_true rfl, Nat.le_of_ble_eq_true rfl⟩ ⟨Nat.le_of_ble_eq_true rfl, Nat.le_of_ble_eq_true rfl⟩ (fun r σ13595 hp => ?_)
      obtain ⟨h13596, rfl⟩ := hp
      have h13597 := HS.trans h13568 h13596 (by decide)
      have ga13598 := ga13572.of (h13596.2 (c + 1) (by rw [kC_at (k := 1) (by decide)]; decide))
      have ga13599 := ga13573.of (h13596.2 (c + 2) (by rw [kC_at (k := 2) (by decide)]; decide))
      have ga13600 := ga13574.of (h13596.2 (c + 3) (by rw [kC_at (k := 3) (by decide)]; decide))
      have ga13601 := ga13575.of (h13596.2 (c + 7) (by rw [kC_at (k := 7) (by decide)]; decide))
      have ga13602 := ga13576.of (h13596.2 (c + 8) (by rw [kC_at (k := 8) (by decide)]; decide))
      have ga13603 := ga13577.of (h13596.2 (c + 9) (by rw [kC_at (k := 9) (by decide)]; decide))
      have ga13604 := ga13578.of (h13596.2 (c + 11) (by rw [kC_at (k := 11) (by decide)]; decide))
      refine Wm.topE (w := nI P.n5) (congrArg nI (by omega)) ?_
      refine m_aload_n F rfl e_X10_readLease_49 ?_
      refine r_getC F e_X10_readLease_50 fl_X10_120 h13597 ((fld_eq (h13596.2 c (by rw [show kC c c = 1 from kC_at (k := 0) (by decide)]; decide))).trans yd13588) ?_
      refine r_callV F e_X10_readLease_53 (q_X10_namedAtE (x_l X) V c T Z u h P13569 L _ _ P.n5 k13583.2.2.1 nm h13597.1 (hob) oP13569 (by omega) (by omega) ga13600) cb_X10_namedAt ml_X10_161 im_X10_namedAt se_X10_namedAt h13597 rfl rfl (rest := []) rfl (Nat.le_of_ble_eq_true rfl) ⟨Nat.le_of_ble_eq_true rfl, Nat.le_of_ble_eq_true rfl⟩ ⟨Nat.le_of_ble_eq_true rfl, Nat.le_of_ble_eq_true rfl⟩ (fun r σ13605 hp => ?_)
      obtain ⟨h13606, hp⟩ := hp
      have h13607 := HS.trans h13597 h13606 (by decide)
      have ga13608 := ga13598.of (h13606.2 (c + 1) (by rw [kC_at (k := 1) (by decide)]; decide))
      have ga13609 := ga13599.of (h13606.2 (c + 2) (by rw [kC_at (k := 2) (by decide)]; decide))
      have ga13610 := ga13600.of (h13606.2 (c + 3) (by rw [kC_at (k := 3) (by decide)]; decide))
      have ga13611 := ga13601.of (h13606.2 (c + 7) (by rw [kC_at (k := 7) (by decide)]; decide))
      have ga13612 := ga13602.of (h13606.2 (c + 8) (by rw [kC_at (k := 8) (by decide)]; decide))
      have ga13613 := ga13603.of (h13606.2 (c + 9) (by rw [kC_at (k := 9) (by decide)]; decide))
      have ga13614 := ga13604.of (h13606.2 (c + 11) (by rw [kC_at (k := 11) (by decide)]; decide))
      rcases hp with ⟨e13615, rfl⟩ | ⟨e13615, rfl⟩
      · refine m_iconst F (v := (-1)) (by decide) e_X10_readLease_56 ?_
        refine m_icmp_eq F e_X10_readLease_57 (fun q57 => ?_) (fun q57 => ?_)
        · exact absurd q57 (nI_nm1 (by omega))
        · refine m_aload_n F rfl e_X10_readLease_60 ?_
          refine m_iconst F (v := 3) (by decide) e_X10_readLease_61 ?_
          refine r_callV F e_X10_readLease_62 (q_X10_wrongE (x_l X) V c T Z u h P13569 L _ _ 3 n k13583.1 1 (nI k13583.2.2.1) ln fp h13607.1 (hob) oP13569 (by omega) ⟨((fld_eq (h13606.2 c (by rw [show kC c c = 1 from kC_at (k := 0) (by decide)]; decide))).trans ((fld_eq (h13596.2 c (by rw [show kC c c = 1 from kC_at (k := 0) (by decide)]; decide))).trans yd13584)), ((fld_eq (h13606.2 c (by rw [show kC c c = 1 from kC_at (k := 0) (by decide)]; decide))).trans ((fld_eq (h13596.2 c (by rw [show kC c c = 1 from kC_at (k := 0) (by decide)]; decide))).trans yd13585)), ((fld_eq (h13606.2 c (by rw [show kC c c = 1 from kC_at (k := 0) (by decide)]; decide))).trans ((fld_eq (h13596.2 c (by rw [show kC c c = 1 from kC_at (k := 0) (by decide)]; decide))).trans yd13586)), ((fld_eq (h13606.2 c (by rw [show kC c c = 1 from kC_at (k := 0) (by decide)]; decide))).trans ((fld_eq (h13596.2 c (by rw [show kC c c = 1 from kC_at (k := 0) (by decide)]; decide))).trans yd13587)), ((fld_eq (h13606.2 c (by rw [show kC c c = 1 from kC_at (k := 0) (by decide)]; decide))).trans ((fld_eq (h13596.2 c (by rw [show kC c c = 1 from kC_at (k := 0) (by decide)]; decide))).trans yd13588)), ((fld_eq (h13606.2 c (by rw [show kC c c = 1 from kC_at (k := 0) (by decide)]; decide))).trans ((fld_eq (h13596.2 c (by rw [show kC c c = 1 from kC_at (k := 0) (by decide)]; decide))).trans yd13589)), ((fld_eq (h13606.2 c (by rw [show kC c c = 1 from kC_at (k := 0) (by decide)]; decide))).trans ((fld_eq (h13596.2 c (by rw [show kC c c = 1 from kC_at (k := 0) (by decide)]; decide))).trans yd13590))⟩ (by decide)) cb_X10_wrong ml_X10_150 im_X10_wrong se_X10_wrong h13607 rfl rfl (rest := []) rfl (Nat.le_of_ble_eq_true rfl) ⟨Nat.le_of_ble_eq_true rfl, Nat.le_of_ble_eq_true rfl⟩ ⟨Nat.le_of_ble_eq_true rfl, Nat.le_of_ble_eq_true rfl⟩ (fun r σ13616 hp => ?_)
          obtain ⟨h13617, hp⟩ := hp
          have h13618 := HS.trans h13607 h13617 (by decide)
          have ga13619 := ga13608.of (h13617.2 (c + 1) (by rw [kC_at (k := 1) (by decide)]; decide))
          have ga13620 := ga13609.of (h13617.2 (c + 2) (by rw [kC_at (k := 2) (by decide)]; decide))
          have ga13621 := ga13610.of (h13617.2 (c + 3) (by rw [kC_at (k := 3) (by decide)]; decide))
          have ga13622 := ga13611.of (h13617.2 (c + 7) (by rw [kC_at (k := 7) (by decide)]; decide))
          have ga13623 := ga13612.of (h13617.2 (c + 8) (by rw [kC_at (k := 8) (by decide)]; decide))
          have ga13624 := ga13613.of (h13617.2 (c + 9) (by rw [kC_at (k := 9) (by decide)]; decide))
          have ga13625 := ga13614.of (h13617.2 (c + 11) (by rw [kC_at (k := 11) (by decide)]; decide))
          obtain ⟨hp, rfl⟩ := hp
          have hyd13626 := hp
          obtain ⟨yd13626, yd13627, yd13628, yd13629, yd13630, yd13631, yd13632⟩ := hyd13626
          refine m_aload_n F rfl e_X10_readLease_65 ?_
          refine r_getC F e_X10_readLease_66 fl_X10_141 h13618 (yd13631) ?_
          refine m_if_eq F e_X10_readLease_69 (fun q => absurd q (by decide)) (fun _ => ?_)
          have h13633 : HS V c _ [0, 2, 12, 13, 14, 15, 16, 17, 18, 19, 20, 21, 22, 23] _ _ := ⟨HR.mono (Z' := Z) (by intro e; first | rfl | assumption | omega) h13618.1, h13618.2⟩
          exact m_vret F hQ e_X10_readLease_72 (⟨P13569, oP13569, (by unfold RP; omega), (by unfold leaseS; dsimp only; rw [if_neg (by omega), ek13583, newK_3 hs13591 e13615]; exact RM.l (yd13631) (yd13632) (by decide) (by decide) (by omega)), h13633, rfl⟩)
      · refine m_iconst F (v := (-1)) (by decide) e_X10_readLease_56 ?_
        refine m_icmp_eq F e_X10_readLease_57 (fun _ => ?_) (fun q => absurd (by decide) q)
        refine m_aload_n F rfl e_X10_readLease_65 ?_
        refine r_getC F e_X10_readLease_66 fl_X10_141 h13607 ((fld_eq (h13606.2 c (by rw [show kC c c = 1 from kC_at (k := 0) (by decide)]; decide))).trans ((fld_eq (h13596.2 c (by rw [show kC c c = 1 from kC_at (k := 0) (by decide)]; decide))).trans yd13589)) ?_
        refine m_if_eq F e_X10_readLease_69 (fun _ => ?_) (fun q => absurd (by decide) q)
        refine m_iconst F (v := 4) (by decide) e_X10_readLease_73 ?_
        refine m_aload_n F rfl e_X10_readLease_74 ?_
        refine m_iconst F (v := 0) (by decide) e_X10_readLease_75 ?_
        refine r_callV F e_X10_readLease_76 (q_X10_reading0 (x_l X) V c T Z u h P13569 L _ _  h13607.1 (hob) oP13569 ) cb_X10_reading ml_X10_157 im_X10_reading se_X10_reading h13607 rfl rfl (rest := [.int 4]) rfl (Nat.le_of_ble_eq_true rfl) ⟨Nat.le_of_ble_eq_true rfl, Nat.le_of_ble_eq_true rfl⟩ ⟨Nat.le_of_ble_eq_true rfl, Nat.le_of_ble_eq_true rfl⟩ (fun r σ13634 hp => ?_)
        obtain ⟨h13635, rfl⟩ := hp
        have h13636 := HS.trans h13607 h13635 (by decide)
        have ga13637 := ga13608.of (h13635.2 (c + 1) (by rw [kC_at (k := 1) (by decide)]; decide))
        have ga13638 := ga13609.of (h13635.2 (c + 2) (by rw [kC_at (k := 2) (by decide)]; decide))
        have ga13639 := ga13610.of (h13635.2 (c + 3) (by rw [kC_at (k := 3) (by decide)]; decide))
        have ga13640 := ga13611.of (h13635.2 (c + 7) (by rw [kC_at (k := 7) (by decide)]; decide))
        have ga13641 := ga13612.of (h13635.2 (c + 8) (by rw [kC_at (k := 8) (by decide)]; decide))
        have ga13642 := ga13613.of (h13635.2 (c + 9) (by rw [kC_at (k := 9) (by decide)]; decide))
        have ga13643 := ga13614.of (h13635.2 (c + 11) (by rw [kC_at (k := 11) (by decide)]; decide))
        refine Wm.topE (w := nI P.n5) (congrArg nI (by omega)) ?_
        refine m_iadd F e_X10_readLease_79 ?_
        refine Wm.topE (w := nI (4 + P.n5)) (nI_add 4 P.n5) ?_
        refine m_istore_n F (lv' := [(1, .int (nI (4 + P.n5))), (0, .ref c)]) e_X10_readLease_80 (by decide) rfl ?_
        refine m_aload_n F rfl e_X10_readLease_81 ?_
        refine r_get F e_X10_readLease_82 fl_X10_16 h13636 rfl (fun v hv f13644 => ?_)
        obtain rfl : v = .ref (c + 3) := hv
        refine m_iload_n F rfl e_X10_readLease_85 ?_
        refine m_aload_n F rfl e_X10_readLease_86 ?_
        refine r_getC F e_X10_readLease_87 fl_X10_120 h13636 ((fld_eq (h13635.2 c (by rw [show kC c c = 1 from kC_at (k := 0) (by decide)]; decide))).trans ((fld_eq (h13606.2 c (by rw [show kC c c = 1 from kC_at (k := 0) (by decide)]; decide))).trans ((fld_eq (h13596.2 c (by rw [show kC c c = 1 from kC_at (k := 0) (by decide)]; decide))).trans yd13588))) ?_
        refine r_iast F (g' := (⟨T, Z, u, h, P13569, L⟩ : RG)) (len := 8) (j := 4 + P.n5) e_X10_readLease_90 h13636 (fun _ h => h) (fun f h => ⟨f, rfl, h⟩) (by decide) (by decide) (nI_clamp (by omega)) (vp_in_nI (by omega) (by decide)) trivial (fun _ _ _ h => h) (fun _ _ _ h => h) (fun σ13645 h13646 g13647 f13648 g13649 => ?_)
        have ga13650 := ga13637.of (g13647 _ (by omega))
        have ga13651 := ga13638.of (g13647 _ (by omega))
        have ga13652 := ga13640.of (g13647 _ (by omega))
        have ga13653 := ga13641.of (g13647 _ (by omega))
        have ga13654 := ga13642.of (g13647 _ (by omega))
        have ga13655 := ga13643.of (g13647 _ (by omega))
        have ga13656 := MR.put ga13639 (by omega) f13648 g13649
        refine m_aload_n F rfl e_X10_readLease_91 ?_
        refine r_callV F e_X10_readLease_92 (q_X10_tokenE (x_l X) V c T Z u h P13569 L _ _  n k13583.1 1 (nI k13583.2.2.1) ln 0 fp t h13646.1 (hob) oP13569  ⟨((fld_eq (g13647 _ (by omega))).trans ((fld_eq (h13635.2 c (by rw [show kC c c = 1 from kC_at (k := 0) (by decide)]; decide))).trans ((fld_eq (h13606.2 c (by rw [show kC c c = 1 from kC_at (k := 0) (by decide)]; decide))).trans ((fld_eq (h13596.2 c (by rw [show kC c c = 1 from kC_at (k := 0) (by decide)]; decide))).trans yd13584)))), ((fld_eq (g13647 _ (by omega))).trans ((fld_eq (h13635.2 c (by rw [show kC c c = 1 from kC_at (k := 0) (by decide)]; decide))).trans ((fld_eq (h13606.2 c (by rw [show kC c c = 1 from kC_at (k := 0) (by decide)]; decide))).trans ((fld_eq (h13596.2 c (by rw [show kC c c = 1 from kC_at (k := 0) (by decide)]; decide))).trans yd13585)))), ((fld_eq (g13647 _ (by omega))).trans ((fld_eq (h13635.2 c (by rw [show kC c c = 1 from kC_at (k := 0) (by decide)]; decide))).trans ((fld_eq (h13606.2 c (by rw [show kC c c = 1 from kC_at (k := 0) (by decide)]; decide))).trans ((fld_eq (h13596.2 c (by rw [show kC c c = 1 from kC_at (k := 0) (by decide)]; decide))).trans yd13586)))), ((fld_eq (g13647 _ (by omega))).trans ((fld_eq (h13635.2 c (by rw [show kC c c = 1 from kC_at (k := 0) (by decide)]; decide))).trans ((fld_eq (h13606.2 c (by rw [show kC c c = 1 from kC_at (k := 0) (by decide)]; decide))).trans ((fld_eq (h13596.2 c (by rw [show kC c c = 1 from kC_at (k := 0) (by decide)]; decide))).trans yd13587)))), ((fld_eq (g13647 _ (by omega))).trans ((fld_eq (h13635.2 c (by rw [show kC c c = 1 from kC_at (k := 0) (by decide)]; decide))).trans ((fld_eq (h13606.2 c (by rw [show kC c c = 1 from kC_at (k := 0) (by decide)]; decide))).trans ((fld_eq (h13596.2 c (by rw [show kC c c = 1 from kC_at (k := 0) (by decide)]; decide))).trans yd13588)))), ((fld_eq (g13647 _ (by omega))).trans ((fld_eq (h13635.2 c (by rw [show kC c c = 1 from kC_at (k := 0) (by decide)]; decide))).trans ((fld_eq (h13606.2 c (by rw [show kC c c = 1 from kC_at (k := 0) (by decide)]; decide))).trans ((fld_eq (h13596.2 c (by rw [show kC c c = 1 from kC_at (k := 0) (by decide)]; decide))).trans yd13589)))), ((fld_eq (g13647 _ (by omega))).trans ((fld_eq (h13635.2 c (by rw [show kC c c = 1 from kC_at (k := 0) (by decide)]; decide))).trans ((fld_eq (h13606.2 c (by rw [show kC c c = 1 from kC_at (k := 0) (by decide)]; decide))).trans ((fld_eq (h13596.2 c (by rw [show kC c c = 1 from kC_at (k := 0) (by decide)]; decide))).trans yd13590))))⟩ ga13650 hn7 (by omega)) cb_X10_token ml_X10_147 im_X10_token se_X10_token h13646 rfl rfl (rest := []) rfl (Nat.le_of_ble_eq_true rfl) ⟨Nat.le_of_ble_eq_true rfl, Nat.le_of_ble_eq_true rfl⟩ ⟨Nat.le_of_ble_eq_true rfl, Nat.le_of_ble_eq_true rfl⟩ (fun r σ13657 hp => ?_)
        obtain ⟨P13660, oP13660, rP13660, pr13661, pr13662, h13658, hp⟩ := hp
        have h13659 := HS.trans h13646 h13658 (by decide)
        have xP13660 := oP13660
        unfold OKP at xP13660
        unfold RA at rP13660
        have ga13663 := ga13650.of (h13658.2 (c + 1) (by rw [kC_at (k := 1) (by decide)]; decide))
        have ga13664 := ga13651.of (h13658.2 (c + 2) (by rw [kC_at (k := 2) (by decide)]; decide))
        have ga13665 := ga13652.of (h13658.2 (c + 7) (by rw [kC_at (k := 7) (by decide)]; decide))
        have ga13666 := ga13653.of (h13658.2 (c + 8) (by rw [kC_at (k := 8) (by decide)]; decide))
        have ga13667 := ga13654.of (h13658.2 (c + 9) (by rw [kC_at (k := 9) (by decide)]; decide))
        have ga13668 := ga13655.of (h13658.2 (c + 11) (by rw [kC_at (k := 11) (by decide)]; decide))
        have ga13669 := ga13656.of (h13658.2 (c + 3) (by rw [kC_at (k := 3) (by decide)]; decide))
        obtain rfl := hp
        obtain ⟨so13670, va13671, mt13672, yd13673⟩ := pr13662
        generalize ek13674 : tok t n P13569.a = k13674 at pr13661 mt13672 yd13673
        have bk13674 := tok_ok (t := t) (n := n) P13569.a (by omega)
        rw [ek13674] at bk13674
        rw [show P13569.a = k13583.2.2.2 by omega] at ek13674
        have hyd13675 := yd13673
        obtain ⟨yd13675, yd13676, yd13677, yd13678, yd13679, yd13680, yd13681⟩ := hyd13675
        refine m_aload_n F rfl e_X10_readLease_95 ?_
        refine r_get F e_X10_readLease_96 fl_X10_19 h13659 rfl (fun v hv f13682 => ?_)
        obtain rfl : v = .ref (c + 4) := hv
        refine m_iload_n F rfl e_X10_readLease_99 ?_
        refine m_aload_n F rfl e_X10_readLease_100 ?_
        refine m_iconst F (v := 0) (by decide) e_X10_readLease_101 ?_
        refine m_bipush F (v := 20) (by decide) e_X10_readLease_102 ?_
        refine r_callV F e_X10_readLease_104 (q_X10_numeralE (x_l X) V c T Z u h P13660 L _ _ 0 20 n k13674.1 so13670 va13671 ln fp t k13674.2.1 k13674.2.2.1 h13659.1 (hob) oP13660 (by omega) (by omega) ⟨(yd13675), (yd13676), (yd13677), (yd13678), (yd13679), (yd13680), (yd13681)⟩ ga13663 hn7 (by omega) mt13672) cb_X10_numeral ml_X10_165 im_X10_numeral se_X10_numeral h13659 rfl rfl (rest := [.int (nI (4 + P.n5)), .ref (c + 4)]) rfl (Nat.le_of_ble_eq_true rfl) ⟨Nat.le_of_ble_eq_true rfl, Nat.le_of_ble_eq_true rfl⟩ ⟨Nat.le_of_ble_eq_true rfl, Nat.le_of_ble_eq_true rfl⟩ (fun r σ13683 hp => ?_)
        obtain ⟨P13686, oP13686, rP13686, pr13687, h13684, hp⟩ := hp
        have h13685 := HS.trans h13659 h13684 (by decide)
        have xP13686 := oP13686
        unfold OKP at xP13686
        unfold RA at rP13686
        have ga13688 := ga13663.of (h13684.2 (c + 1) (by rw [kC_at (k := 1) (by decide)]; decide))
        have ga13689 := ga13664.of (h13684.2 (c + 2) (by rw [kC_at (k := 2) (by decide)]; decide))
        have ga13690 := ga13665.of (h13684.2 (c + 7) (by rw [kC_at (k := 7) (by decide)]; decide))
        have ga13691 := ga13666.of (h13684.2 (c + 8) (by rw [kC_at (k := 8) (by decide)]; decide))
        have ga13692 := ga13667.of (h13684.2 (c + 9) (by rw [kC_at (k := 9) (by decide)]; decide))
        have ga13693 := ga13668.of (h13684.2 (c + 11) (by rw [kC_at (k := 11) (by decide)]; decide))
        have ga13694 := ga13669.of (h13684.2 (c + 3) (by rw [kC_at (k := 3) (by decide)]; decide))
        rcases pr13687 with ⟨e13695, l13697, l13698, ea13699, ⟨so13700, va13701, mt13702, yd13703⟩, rfl⟩ | ⟨e13695, ⟨fa13704, fb13705⟩, rfl⟩ | ⟨e13695, e13696, ⟨fa13704, fb13705⟩, rfl⟩
        · have bk13706 := tok_ok (t := t) (n := n) P13660.a (by omega)
          generalize ek13706 : tok t n P13660.a = k13706 at ea13699 mt13702 yd13703 bk13706
          rw [show P13660.a = k13674.2.2.2 by omega] at ek13706
          have hyd13707 := yd13703
          obtain ⟨yd13707, yd13708, yd13709, yd13710, yd13711, yd13712, yd13713⟩ := hyd13707
          refine r_iast F (g' := (⟨T, Z, u, h, P13686, L⟩ : RG)) (len := 8) (j := 4 + P.n5) e_X10_readLease_107 h13685 (fun _ h => h) (fun f h => ⟨f, rfl, h⟩) (by decide) (by decide) (nI_clamp (by omega)) (vp_in_nI (by omega) (by decide)) trivial (fun _ _ _ h => h) (fun _ _ _ h => h) (fun σ13714 h13715 g13716 f13717 g13718 => ?_)
          have ga13719 := ga13688.of (g13716 _ (by omega))
          have ga13720 := ga13689.of (g13716 _ (by omega))
          have ga13721 := ga13690.of (g13716 _ (by omega))
          have ga13722 := ga13691.of (g13716 _ (by omega))
          have ga13723 := ga13692.of (g13716 _ (by omega))
          have ga13724 := ga13693.of (g13716 _ (by omega))
          have ga13725 := ga13694.of (g13716 _ (by omega))
          refine m_aload_n F rfl e_X10_readLease_108 ?_
          refine r_get F e_X10_readLease_109 fl_X10_22 h13715 rfl (fun v hv f13726 => ?_)
          obtain rfl : v = .ref (c + 5) := hv
          refine m_iload_n F rfl e_X10_readLease_112 ?_
          refine m_aload_n F rfl e_X10_readLease_113 ?_
          refine m_iconst F (v := 1) (by decide) e_X10_readLease_114 ?_
          refine m_bipush F (v := 48) (by decide) e_X10_readLease_115 ?_
          refine r_callV F e_X10_readLease_117 (q_X10_numeralE (x_l X) V c T Z u h P13686 L _ _ 1 48 n k13706.1 so13700 va13701 ln fp t k13706.2.1 k13706.2.2.1 h13715.1 (hob) oP13686 (by omega) (by omega) ⟨((fld_eq (g13716 _ (by omega))).trans yd13707), ((fld_eq (g13716 _ (by omega))).trans yd13708), ((fld_eq (g13716 _ (by omega))).trans yd13709), ((fld_eq (g13716 _ (by omega))).trans yd13710), ((fld_eq (g13716 _ (by omega))).trans yd13711), ((fld_eq (g13716 _ (by omega))).trans yd13712), ((fld_eq (g13716 _ (by omega))).trans yd13713)⟩ ga13719 hn7 (by omega) mt13702) cb_X10_numeral ml_X10_165 im_X10_numeral se_X10_numeral h13715 rfl rfl (rest := [.int (nI (4 + P.n5)), .ref (c + 5)]) rfl (Nat.le_of_ble_eq_true rfl) ⟨Nat.le_of_ble_eq_true rfl, Nat.le_of_ble_eq_true rfl⟩ ⟨Nat.le_of_ble_eq_true rfl, Nat.le_of_ble_eq_true rfl⟩ (fun r σ13727 hp => ?_)
          obtain ⟨P13730, oP13730, rP13730, pr13731, h13728, hp⟩ := hp
          have h13729 := HS.trans h13715 h13728 (by decide)
          have xP13730 := oP13730
          unfold OKP at xP13730
          unfold RA at rP13730
          have ga13732 := ga13719.of (h13728.2 (c + 1) (by rw [kC_at (k := 1) (by decide)]; decide))
          have ga13733 := ga13720.of (h13728.2 (c + 2) (by rw [kC_at (k := 2) (by decide)]; decide))
          have ga13734 := ga13721.of (h13728.2 (c + 7) (by rw [kC_at (k := 7) (by decide)]; decide))
          have ga13735 := ga13722.of (h13728.2 (c + 8) (by rw [kC_at (k := 8) (by decide)]; decide))
          have ga13736 := ga13723.of (h13728.2 (c + 9) (by rw [kC_at (k := 9) (by decide)]; decide))
          have ga13737 := ga13724.of (h13728.2 (c + 11) (by rw [kC_at (k := 11) (by decide)]; decide))
          have ga13738 := ga13725.of (h13728.2 (c + 3) (by rw [kC_at (k := 3) (by decide)]; decide))
          rcases pr13731 with ⟨e13739, l13741, l13742, ea13743, ⟨so13744, va13745, mt13746, yd13747⟩, rfl⟩ | ⟨e13739, ⟨fa13748, fb13749⟩, rfl⟩ | ⟨e13739, e13740, ⟨fa13748, fb13749⟩, rfl⟩
          · have bk13750 := tok_ok (t := t) (n := n) P13686.a (by omega)
            generalize ek13750 : tok t n P13686.a = k13750 at ea13743 mt13746 yd13747 bk13750
            rw [show P13686.a = k13706.2.2.2 by omega] at ek13750
            have hyd13751 := yd13747
            obtain ⟨yd13751, yd13752, yd13753, yd13754, yd13755, yd13756, yd13757⟩ := hyd13751
            refine r_iast F (g' := (⟨T, Z, u, h, (mkP P13730.n0 P13730.n2 P13730.n5 P13730.n7 P13730.m0 (P13730.n5 + 1) P13730.w2 P13730.w7 P13730.kk P13730.a), L⟩ : RG)) (len := 8) (j := 4 + P.n5) e_X10_readLease_120 h13729 (fun _ h => h) (fun f h => ⟨f, rfl, h⟩) (by decide) (by decide) (nI_clamp (by omega)) (vp_in_nI (by omega) (by decide)) ⟨k13706.2.2.1, by omega, rfl, fun h7 _ => absurd h7 (by omega), fun _ _ => by omega⟩ (fun i hi y hy => by obtain ⟨n9, a9, b9, c9, d9⟩ := hy; exact ⟨n9, a9, b9, c9, fun h7 h8 => d9 h7 (show i < 4 + P13730.m5 by have h6 : i < 4 + (P13730.n5 + 1) := h8; omega)⟩) (CR.chg (by intro k hk i x h; unfold EI at h ⊢; split at h <;> first | exact h | exact absurd rfl hk | trivial) rfl rfl) (fun σ13758 h13759 g13760 f13761 g13762 => ?_)
            have ga13763 := ga13732.of (g13760 _ (by omega))
            have ga13764 := ga13733.of (g13760 _ (by omega))
            have ga13765 := ga13734.of (g13760 _ (by omega))
            have ga13766 := ga13735.of (g13760 _ (by omega))
            have ga13767 := ga13736.of (g13760 _ (by omega))
            have ga13768 := ga13737.of (g13760 _ (by omega))
            have ga13769 := ga13738.of (g13760 _ (by omega))
            obtain ⟨P13770, eP13770⟩ : ∃ P9, P9 = (mkP P13730.n0 P13730.n2 P13730.n5 P13730.n7 P13730.m0 (P13730.n5 + 1) P13730.w2 P13730.w7 P13730.kk P13730.a) := ⟨_, rfl⟩
            rw [← eP13770] at h13759
            have fP13770 : P13770.n0 = P13730.n0 ∧ P13770.n2 = P13730.n2 ∧ P13770.n5 = P13730.n5 ∧ P13770.n7 = P13730.n7 ∧ P13770.m0 = P13730.m0 ∧ P13770.m5 = P13730.n5 + 1 ∧ P13770.w2 = P13730.w2 ∧ P13770.w7 = P13730.w7 ∧ P13770.kk = P13730.kk ∧ P13770.a = P13730.a := by rw [eP13770]; exact ⟨rfl, rfl, rfl, rfl, rfl, rfl, rfl, rfl, rfl, rfl⟩
            refine m_aload_n F rfl e_X10_readLease_121 ?_
            refine r_get F e_X10_readLease_122 fl_X10_25 h13759 rfl (fun v hv f13771 => ?_)
            obtain rfl : v = .ref (c + 6) := hv
            refine m_iload_n F rfl e_X10_readLease_125 ?_
            refine m_aload_n F rfl e_X10_readLease_126 ?_
            refine m_iconst F (v := 0) (by decide) e_X10_readLease_127 ?_
            refine m_ldc F kc_X10_169 e_X10_readLease_128 ?_
            have oP13775 : OKP P13770 := by unfold OKP; omega
            refine r_callV F e_X10_readLease_130 (q_X10_numeralE (x_l X) V c T Z u h P13770 L _ _ 0 200000 n k13750.1 so13744 va13745 ln fp t k13750.2.1 k13750.2.2.1 h13759.1 (hob) oP13775 (by omega) (by omega) ⟨((fld_eq (g13760 _ (by omega))).trans yd13751), ((fld_eq (g13760 _ (by omega))).trans yd13752), ((fld_eq (g13760 _ (by omega))).trans yd13753), ((fld_eq (g13760 _ (by omega))).trans yd13754), ((fld_eq (g13760 _ (by omega))).trans yd13755), ((fld_eq (g13760 _ (by omega))).trans yd13756), ((fld_eq (g13760 _ (by omega))).trans yd13757)⟩ ga13763 hn7 (by omega) mt13746) cb_X10_numeral ml_X10_165 im_X10_numeral se_X10_numeral h13759 rfl rfl (rest := [.int (nI (4 + P.n5)), .ref (c + 6)]) rfl (Nat.le_of_ble_eq_true rfl) ⟨Nat.le_of_ble_eq_true rfl, Nat.le_of_ble_eq_true rfl⟩ ⟨Nat.le_of_ble_eq_true rfl, Nat.le_of_ble_eq_true rfl⟩ (fun r σ13772 hp => ?_)
            obtain ⟨P13776, oP13776, rP13776, pr13777, h13773, hp⟩ := hp
            have h13774 := HS.trans h13759 h13773 (by decide)
            have xP13776 := oP13776
            unfold OKP at xP13776
            unfold RA at rP13776
            have ga13778 := ga13763.of (h13773.2 (c + 1) (by rw [kC_at (k := 1) (by decide)]; decide))
            have ga13779 := ga13764.of (h13773.2 (c + 2) (by rw [kC_at (k := 2) (by decide)]; decide))
            have ga13780 := ga13765.of (h13773.2 (c + 7) (by rw [kC_at (k := 7) (by decide)]; decide))
            have ga13781 := ga13766.of (h13773.2 (c + 8) (by rw [kC_at (k := 8) (by decide)]; decide))
            have ga13782 := ga13767.of (h13773.2 (c + 9) (by rw [kC_at (k := 9) (by decide)]; decide))
            have ga13783 := ga13768.of (h13773.2 (c + 11) (by rw [kC_at (k := 11) (by decide)]; decide))
            have ga13784 := ga13769.of (h13773.2 (c + 3) (by rw [kC_at (k := 3) (by decide)]; decide))
            rcases pr13777 with ⟨e13785, l13787, l13788, ea13789, ⟨so13790, va13791, mt13792, yd13793⟩, rfl⟩ | ⟨e13785, ⟨fa13794, fb13795⟩, rfl⟩ | ⟨e13785, e13786, ⟨fa13794, fb13795⟩, rfl⟩
            · have bk13796 := tok_ok (t := t) (n := n) P13770.a (by omega)
              generalize ek13796 : tok t n P13770.a = k13796 at ea13789 mt13792 yd13793 bk13796
              rw [show P13770.a = k13750.2.2.2 by omega] at ek13796
              have hyd13797 := yd13793
              obtain ⟨yd13797, yd13798, yd13799, yd13800, yd13801, yd13802, yd13803⟩ := hyd13797
              refine r_iast F (g' := (⟨T, Z, u, h, P13776, L⟩ : RG)) (len := 8) (j := 4 + P.n5) e_X10_readLease_133 h13774 (fun _ h => h) (fun f h => ⟨f, rfl, h⟩) (by decide) (by decide) (nI_clamp (by omega)) (vp_in_nI (by omega) (by decide)) ⟨k13750.2.2.1, by omega, rfl⟩ (fun _ _ _ h => h) (fun _ _ _ h => h) (fun σ13804 h13805 g13806 f13807 g13808 => ?_)
              have ga13809 := ga13778.of (g13806 _ (by omega))
              have ga13810 := ga13779.of (g13806 _ (by omega))
              have ga13811 := ga13780.of (g13806 _ (by omega))
              have ga13812 := ga13781.of (g13806 _ (by omega))
              have ga13813 := ga13782.of (g13806 _ (by omega))
              have ga13814 := ga13783.of (g13806 _ (by omega))
              have ga13815 := ga13784.of (g13806 _ (by omega))
              refine m_aload_n F rfl e_X10_readLease_134 ?_
              refine r_get F e_X10_readLease_135 fl_X10_28 h13805 rfl (fun v hv f13816 => ?_)
              obtain rfl : v = .ref (c + 7) := hv
              refine m_iload_n F rfl e_X10_readLease_138 ?_
              refine m_iconst F (v := 0) (by decide) e_X10_readLease_139 ?_
              refine r_iast F (g' := (⟨T, Z, u, h, P13776, L⟩ : RG)) (len := 8) (j := 4 + P.n5) e_X10_readLease_140 h13805 (fun _ h => h) (fun f h => ⟨f, rfl, h⟩) (by decide) (by decide) (nI_clamp (by omega)) (vp_in_nI (by omega) (by decide)) trivial (fun _ _ _ h => h) (fun _ _ _ h => h) (fun σ13817 h13818 g13819 f13820 g13821 => ?_)
              have ga13822 := ga13809.of (g13819 _ (by omega))
              have ga13823 := ga13810.of (g13819 _ (by omega))
              have ga13824 := ga13812.of (g13819 _ (by omega))
              have ga13825 := ga13813.of (g13819 _ (by omega))
              have ga13826 := ga13814.of (g13819 _ (by omega))
              have ga13827 := ga13815.of (g13819 _ (by omega))
              have ga13828 := KR.new ga13811 f13820 g13821
              refine m_aload_n F rfl e_X10_readLease_141 ?_
              refine r_get F e_X10_readLease_142 fl_X10_31 h13818 rfl (fun v hv f13829 => ?_)
              obtain rfl : v = .ref (c + 8) := hv
              refine m_iload_n F rfl e_X10_readLease_145 ?_
              refine m_iconst F (v := 0) (by decide) e_X10_readLease_146 ?_
              refine r_iast F (g' := (⟨T, Z, u, h, P13776, L⟩ : RG)) (len := 8) (j := 4 + P.n5) e_X10_readLease_147 h13818 (fun _ h => h) (fun f h => ⟨f, rfl, h⟩) (by decide) (by decide) (nI_clamp (by omega)) (vp_in_nI (by omega) (by decide)) trivial (fun _ _ _ h => h) (fun _ _ _ h => h) (fun σ13830 h13831 g13832 f13833 g13834 => ?_)
              have ga13835 := ga13822.of (g13832 _ (by omega))
              have ga13836 := ga13823.of (g13832 _ (by omega))
              have ga13837 := ga13825.of (g13832 _ (by omega))
              have ga13838 := ga13826.of (g13832 _ (by omega))
              have ga13839 := ga13827.of (g13832 _ (by omega))
              have ga13840 := ga13828.of (g13832 _ (by omega))
              have ga13841 := FR.new ga13824 f13833 g13834
              refine m_aload_n F rfl e_X10_readLease_148 ?_
              refine r_get F e_X10_readLease_149 fl_X10_34 h13831 rfl (fun v hv f13842 => ?_)
              obtain rfl : v = .ref (c + 9) := hv
              refine m_iload_n F rfl e_X10_readLease_152 ?_
              refine m_iconst F (v := 0) (by decide) e_X10_readLease_153 ?_
              refine r_iast F (g' := (⟨T, Z, u, h, P13776, L⟩ : RG)) (len := 8) (j := 4 + P.n5) e_X10_readLease_154 h13831 (fun _ h => h) (fun f h => ⟨f, rfl, h⟩) (by decide) (by decide) (nI_clamp (by omega)) (vp_in_nI (by omega) (by decide)) trivial (fun _ _ _ h => h) (fun _ _ _ h => h) (fun σ13843 h13844 g13845 f13846 g13847 => ?_)
              have ga13848 := ga13835.of (g13845 _ (by omega))
              have ga13849 := ga13836.of (g13845 _ (by omega))
              have ga13850 := ga13838.of (g13845 _ (by omega))
              have ga13851 := ga13839.of (g13845 _ (by omega))
              have ga13852 := ga13840.of (g13845 _ (by omega))
              have ga13853 := ga13841.of (g13845 _ (by omega))
              have ga13854 := FR.new ga13837 f13846 g13847
              refine m_iconst F (v := 0) (by decide) e_X10_readLease_155 ?_
              refine m_istore_n F (lv' := [(2, .int 0), (1, .int (nI (4 + P.n5))), (0, .ref c)]) e_X10_readLease_156 (by decide) rfl ?_
              refine Wm.lvsub (lv' := [(0, .ref c), (1, .int (nI (4 + P.n5))), (2, .int 0)]) ?_ [2, 1, 0] rfl
              exact lq_X10_readLeaseE_157 F hQ hob hP hp0 hp1 hp2 hp3 hp4 hp5 hp6 hp7 hp8 hp9 hp10 hp11 hp12 hp13 hp14 (48 - 0 + 1) (4 + P.n5) 0 P13776 _ h13844 oP13776 (by unfold RP; omega) ⟨by omega, by omega, by omega, by omega, (by unfold leaseS; dsimp only; rw [if_neg (by omega), ek13583, newK_ok hs13591 e13615, ek13674, numK_ok e13695 l13697 l13698, ek13706, numK_ok e13739 l13741 l13742, ek13750, numK_ok e13785 l13787 l13788, ek13796]; exact RM.r mt13792 ⟨((fld_eq (g13845 _ (by omega))).trans ((fld_eq (g13832 _ (by omega))).trans ((fld_eq (g13819 _ (by omega))).trans ((fld_eq (g13806 _ (by omega))).trans yd13797)))), ((fld_eq (g13845 _ (by omega))).trans ((fld_eq (g13832 _ (by omega))).trans ((fld_eq (g13819 _ (by omega))).trans ((fld_eq (g13806 _ (by omega))).trans yd13798)))), ((fld_eq (g13845 _ (by omega))).trans ((fld_eq (g13832 _ (by omega))).trans ((fld_eq (g13819 _ (by omega))).trans ((fld_eq (g13806 _ (by omega))).trans yd13799)))), ((fld_eq (g13845 _ (by omega))).trans ((fld_eq (g13832 _ (by omega))).trans ((fld_eq (g13819 _ (by omega))).trans ((fld_eq (g13806 _ (by omega))).trans yd13800)))), ((fld_eq (g13845 _ (by omega))).trans ((fld_eq (g13832 _ (by omega))).trans ((fld_eq (g13819 _ (by omega))).trans ((fld_eq (g13806 _ (by omega))).trans yd13801)))), ((fld_eq (g13845 _ (by omega))).trans ((fld_eq (g13832 _ (by omega))).trans ((fld_eq (g13819 _ (by omega))).trans ((fld_eq (g13806 _ (by omega))).trans yd13802)))), ((fld_eq (g13845 _ (by omega))).trans ((fld_eq (g13832 _ (by omega))).trans ((fld_eq (g13819 _ (by omega))).trans ((fld_eq (g13806 _ (by omega))).trans yd13803))))⟩ (by show P13776.a = _; omega) (by show P13776.n5 + 1 = P.n5 + 1; omega) (by show P13776.n7 = P.n7; omega) ga13849 ga13851 ga13852 ga13853 ga13854 ga13850 (by omega) (by omega) (by omega) (by omega) (by omega))⟩ (Nat.lt_succ_self _)
            · have hz9 : True := trivial
              refine r_iast F (g' := (⟨T, Z, u, h, P13776, L⟩ : RG)) (len := 8) (j := 4 + P.n5) e_X10_readLease_133 h13774 (fun _ h => h) (fun f h => ⟨f, rfl, h⟩) (by decide) (by decide) (nI_clamp (by omega)) (vp_in_nI (by omega) (by decide)) ⟨0, by omega, rfl⟩ (fun _ _ _ h => h) (fun _ _ _ h => h) (fun σ13855 h13856 g13857 f13858 g13859 => ?_)
              refine m_aload_n F rfl e_X10_readLease_134 ?_
              refine r_get F e_X10_readLease_135 fl_X10_28 h13856 rfl (fun v hv f13860 => ?_)
              obtain rfl : v = .ref (c + 7) := hv
              refine m_iload_n F rfl e_X10_readLease_138 ?_
              refine m_iconst F (v := 0) (by decide) e_X10_readLease_139 ?_
              refine r_iast F (g' := (⟨T, Z, u, h, P13776, L⟩ : RG)) (len := 8) (j := 4 + P.n5) e_X10_readLease_140 h13856 (fun _ h => h) (fun f h => ⟨f, rfl, h⟩) (by decide) (by decide) (nI_clamp (by omega)) (vp_in_nI (by omega) (by decide)) trivial (fun _ _ _ h => h) (fun _ _ _ h => h) (fun σ13861 h13862 g13863 f13864 g13865 => ?_)
              refine m_aload_n F rfl e_X10_readLease_141 ?_
              refine r_get F e_X10_readLease_142 fl_X10_31 h13862 rfl (fun v hv f13866 => ?_)
              obtain rfl : v = .ref (c + 8) := hv
              refine m_iload_n F rfl e_X10_readLease_145 ?_
              refine m_iconst F (v := 0) (by decide) e_X10_readLease_146 ?_
              refine r_iast F (g' := (⟨T, Z, u, h, P13776, L⟩ : RG)) (len := 8) (j := 4 + P.n5) e_X10_readLease_147 h13862 (fun _ h => h) (fun f h => ⟨f, rfl, h⟩) (by decide) (by decide) (nI_clamp (by omega)) (vp_in_nI (by omega) (by decide)) trivial (fun _ _ _ h => h) (fun _ _ _ h => h) (fun σ13867 h13868 g13869 f13870 g13871 => ?_)
              refine m_aload_n F rfl e_X10_readLease_148 ?_
              refine r_get F e_X10_readLease_149 fl_X10_34 h13868 rfl (fun v hv f13872 => ?_)
              obtain rfl : v = .ref (c + 9) := hv
              refine m_iload_n F rfl e_X10_readLease_152 ?_
              refine m_iconst F (v := 0) (by decide) e_X10_readLease_153 ?_
              refine r_iast F (g' := (⟨T, Z, u, h, P13776, L⟩ : RG)) (len := 8) (j := 4 + P.n5) e_X10_readLease_154 h13868 (fun _ h => h) (fun f h => ⟨f, rfl, h⟩) (by decide) (by decide) (nI_clamp (by omega)) (vp_in_nI (by omega) (by decide)) trivial (fun _ _ _ h => h) (fun _ _ _ h => h) (fun σ13873 h13874 g13875 f13876 g13877 => ?_)
              refine m_iconst F (v := 0) (by decide) e_X10_readLease_155 ?_
              refine m_istore_n F (lv' := [(2, .int 0), (1, .int (nI (4 + P.n5))), (0, .ref c)]) e_X10_readLease_156 (by decide) rfl ?_
              refine Wm.lvsub (lv' := [(0, .ref c), (1, .int (nI (4 + P.n5))), (2, .int 0)]) ?_ [2, 1, 0] rfl
              exact lq_X10_readLeaseE_157 F hQ hob hP hp0 hp1 hp2 hp3 hp4 hp5 hp6 hp7 hp8 hp9 hp10 hp11 hp12 hp13 hp14 (48 - 0 + 1) (4 + P.n5) 0 P13776 _ h13874 oP13776 (by unfold RP; omega) ⟨by omega, by omega, by omega, by omega, (by unfold leaseS; dsimp only; rw [if_neg (by omega), ek13583, newK_ok hs13591 e13615, ek13674, numK_ok e13695 l13697 l13698, ek13706, numK_ok e13739 l13741 l13742, ek13750, numK_1 e13785]; exact RM.l ((fld_eq (g13875 _ (by omega))).trans ((fld_eq (g13869 _ (by omega))).trans ((fld_eq (g13863 _ (by omega))).trans ((fld_eq (g13857 _ (by omega))).trans fa13794)))) ((fld_eq (g13875 _ (by omega))).trans ((fld_eq (g13869 _ (by omega))).trans ((fld_eq (g13863 _ (by omega))).trans ((fld_eq (g13857 _ (by omega))).trans fb13795)))) (by decide) (by decide) (by omega))⟩ (Nat.lt_succ_self _)
            · have hz9 : True := trivial
              refine r_iast F (g' := (⟨T, Z, u, h, P13776, L⟩ : RG)) (len := 8) (j := 4 + P.n5) e_X10_readLease_133 h13774 (fun _ h => h) (fun f h => ⟨f, rfl, h⟩) (by decide) (by decide) (nI_clamp (by omega)) (vp_in_nI (by omega) (by decide)) ⟨0, by omega, rfl⟩ (fun _ _ _ h => h) (fun _ _ _ h => h) (fun σ13878 h13879 g13880 f13881 g13882 => ?_)
              refine m_aload_n F rfl e_X10_readLease_134 ?_
              refine r_get F e_X10_readLease_135 fl_X10_28 h13879 rfl (fun v hv f13883 => ?_)
              obtain rfl : v = .ref (c + 7) := hv
              refine m_iload_n F rfl e_X10_readLease_138 ?_
              refine m_iconst F (v := 0) (by decide) e_X10_readLease_139 ?_
              refine r_iast F (g' := (⟨T, Z, u, h, P13776, L⟩ : RG)) (len := 8) (j := 4 + P.n5) e_X10_readLease_140 h13879 (fun _ h => h) (fun f h => ⟨f, rfl, h⟩) (by decide) (by decide) (nI_clamp (by omega)) (vp_in_nI (by omega) (by decide)) trivial (fun _ _ _ h => h) (fun _ _ _ h => h) (fun σ13884 h13885 g13886 f13887 g13888 => ?_)
              refine m_aload_n F rfl e_X10_readLease_141 ?_
              refine r_get F e_X10_readLease_142 fl_X10_31 h13885 rfl (fun v hv f13889 => ?_)
              obtain rfl : v = .ref (c + 8) := hv
              refine m_iload_n F rfl e_X10_readLease_145 ?_
              refine m_iconst F (v := 0) (by decide) e_X10_readLease_146 ?_
              refine r_iast F (g' := (⟨T, Z, u, h, P13776, L⟩ : RG)) (len := 8) (j := 4 + P.n5) e_X10_readLease_147 h13885 (fun _ h => h) (fun f h => ⟨f, rfl, h⟩) (by decide) (by decide) (nI_clamp (by omega)) (vp_in_nI (by omega) (by decide)) trivial (fun _ _ _ h => h) (fun _ _ _ h => h) (fun σ13890 h13891 g13892 f13893 g13894 => ?_)
              refine m_aload_n F rfl e_X10_readLease_148 ?_
              refine r_get F e_X10_readLease_149 fl_X10_34 h13891 rfl (fun v hv f13895 => ?_)
              obtain rfl : v = .ref (c + 9) := hv
              refine m_iload_n F rfl e_X10_readLease_152 ?_
              refine m_iconst F (v := 0) (by decide) e_X10_readLease_153 ?_
              refine r_iast F (g' := (⟨T, Z, u, h, P13776, L⟩ : RG)) (len := 8) (j := 4 + P.n5) e_X10_readLease_154 h13891 (fun _ h => h) (fun f h => ⟨f, rfl, h⟩) (by decide) (by decide) (nI_clamp (by omega)) (vp_in_nI (by omega) (by decide)) trivial (fun _ _ _ h => h) (fun _ _ _ h => h) (fun σ13896 h13897 g13898 f13899 g13900 => ?_)
              refine m_iconst F (v := 0) (by decide) e_X10_readLease_155 ?_
              refine m_istore_n F (lv' := [(2, .int 0), (1, .int (nI (4 + P.n5))), (0, .ref c)]) e_X10_readLease_156 (by decide) rfl ?_
              refine Wm.lvsub (lv' := [(0, .ref c), (1, .int (nI (4 + P.n5))), (2, .int 0)]) ?_ [2, 1, 0] rfl
              exact lq_X10_readLeaseE_157 F hQ hob hP hp0 hp1 hp2 hp3 hp4 hp5 hp6 hp7 hp8 hp9 hp10 hp11 hp12 hp13 hp14 (48 - 0 + 1) (4 + P.n5) 0 P13776 _ h13897 oP13776 (by unfold RP; omega) ⟨by omega, by omega, by omega, by omega, (by unfold leaseS; dsimp only; rw [if_neg (by omega), ek13583, newK_ok hs13591 e13615, ek13674, numK_ok e13695 l13697 l13698, ek13706, numK_ok e13739 l13741 l13742, ek13750, numK_2 e13785 e13786]; exact RM.l ((fld_eq (g13898 _ (by omega))).trans ((fld_eq (g13892 _ (by omega))).trans ((fld_eq (g13886 _ (by omega))).trans ((fld_eq (g13880 _ (by omega))).trans fa13794)))) ((fld_eq (g13898 _ (by omega))).trans ((fld_eq (g13892 _ (by omega))).trans ((fld_eq (g13886 _ (by omega))).trans ((fld_eq (g13880 _ (by omega))).trans fb13795)))) (by decide) (by decide) (by omega))⟩ (Nat.lt_succ_self _)
          · have hz9 : True := trivial
            refine r_iast F (g' := (⟨T, Z, u, h, (mkP P13730.n0 P13730.n2 P13730.n5 P13730.n7 P13730.m0 (P13730.n5 + 1) P13730.w2 P13730.w7 P13730.kk P13730.a), L⟩ : RG)) (len := 8) (j := 4 + P.n5) e_X10_readLease_120 h13729 (fun _ h => h) (fun f h => ⟨f, rfl, h⟩) (by decide) (by decide) (nI_clamp (by omega)) (vp_in_nI (by omega) (by decide)) ⟨1, by omega, rfl, fun h7 _ => absurd h7 (by omega), fun _ _ => by omega⟩ (fun i hi y hy => by obtain ⟨n9, a9, b9, c9, d9⟩ := hy; exact ⟨n9, a9, b9, c9, fun h7 h8 => d9 h7 (show i < 4 + P13730.m5 by have h6 : i < 4 + (P13730.n5 + 1) := h8; omega)⟩) (CR.chg (by intro k hk i x h; unfold EI at h ⊢; split at h <;> first | exact h | exact absurd rfl hk | trivial) rfl rfl) (fun σ13901 h13902 g13903 f13904 g13905 => ?_)
            obtain ⟨P13906, eP13906⟩ : ∃ P9, P9 = (mkP P13730.n0 P13730.n2 P13730.n5 P13730.n7 P13730.m0 (P13730.n5 + 1) P13730.w2 P13730.w7 P13730.kk P13730.a) := ⟨_, rfl⟩
            rw [← eP13906] at h13902
            have fP13906 : P13906.n0 = P13730.n0 ∧ P13906.n2 = P13730.n2 ∧ P13906.n5 = P13730.n5 ∧ P13906.n7 = P13730.n7 ∧ P13906.m0 = P13730.m0 ∧ P13906.m5 = P13730.n5 + 1 ∧ P13906.w2 = P13730.w2 ∧ P13906.w7 = P13730.w7 ∧ P13906.kk = P13730.kk ∧ P13906.a = P13730.a := by rw [eP13906]; exact ⟨rfl, rfl, rfl, rfl, rfl, rfl, rfl, rfl, rfl, rfl⟩
            refine m_aload_n F rfl e_X10_readLease_121 ?_
            refine r_get F e_X10_readLease_122 fl_X10_25 h13902 rfl (fun v hv f13907 => ?_)
            obtain rfl : v = .ref (c + 6) := hv
            refine m_iload_n F rfl e_X10_readLease_125 ?_
            refine m_aload_n F rfl e_X10_readLease_126 ?_
            refine m_iconst F (v := 0) (by decide) e_X10_readLease_127 ?_
            refine m_ldc F kc_X10_169 e_X10_readLease_128 ?_
            have oP13911 : OKP P13906 := by unfold OKP; omega
            refine r_callV F e_X10_readLease_130 (q_X10_numeralG (x_l X) V c T Z u h P13906 L _ _ 0 200000 1 h13902.1 (hob) oP13911 (by omega) (by omega) ((fld_eq (g13903 _ (by omega))).trans fa13748) (by decide)) cb_X10_numeral ml_X10_165 im_X10_numeral se_X10_numeral h13902 rfl rfl (rest := [.int (nI (4 + P.n5)), .ref (c + 6)]) rfl (Nat.le_of_ble_eq_true rfl) ⟨Nat.le_of_ble_eq_true rfl, Nat.le_of_ble_eq_true rfl⟩ ⟨Nat.le_of_ble_eq_true rfl, Nat.le_of_ble_eq_true rfl⟩ (fun r σ13908 hp => ?_)
            obtain ⟨h13909, hp⟩ := hp
            have h13910 := HS.trans h13902 h13909 (by decide)
            obtain ⟨rfl, rfl⟩ := hp
            refine r_iast F (g' := (⟨T, Z, u, h, P13906, L⟩ : RG)) (len := 8) (j := 4 + P.n5) e_X10_readLease_133 h13910 (fun _ h => h) (fun f h => ⟨f, rfl, h⟩) (by decide) (by decide) (nI_clamp (by omega)) (vp_in_nI (by omega) (by decide)) ⟨0, by omega, rfl⟩ (fun _ _ _ h => h) (fun _ _ _ h => h) (fun σ13912 h13913 g13914 f13915 g13916 => ?_)
            refine m_aload_n F rfl e_X10_readLease_134 ?_
            refine r_get F e_X10_readLease_135 fl_X10_28 h13913 rfl (fun v hv f13917 => ?_)
            obtain rfl : v = .ref (c + 7) := hv
            refine m_iload_n F rfl e_X10_readLease_138 ?_
            refine m_iconst F (v := 0) (by decide) e_X10_readLease_139 ?_
            refine r_iast F (g' := (⟨T, Z, u, h, P13906, L⟩ : RG)) (len := 8) (j := 4 + P.n5) e_X10_readLease_140 h13913 (fun _ h => h) (fun f h => ⟨f, rfl, h⟩) (by decide) (by decide) (nI_clamp (by omega)) (vp_in_nI (by omega) (by decide)) trivial (fun _ _ _ h => h) (fun _ _ _ h => h) (fun σ13918 h13919 g13920 f13921 g13922 => ?_)
            refine m_aload_n F rfl e_X10_readLease_141 ?_
            refine r_get F e_X10_readLease_142 fl_X10_31 h13919 rfl (fun v hv f13923 => ?_)
            obtain rfl : v = .ref (c + 8) := hv
            refine m_iload_n F rfl e_X10_readLease_145 ?_
            refine m_iconst F (v := 0) (by decide) e_X10_readLease_146 ?_
            refine r_iast F (g' := (⟨T, Z, u, h, P13906, L⟩ : RG)) (len := 8) (j := 4 + P.n5) e_X10_readLease_147 h13919 (fun _ h => h) (fun f h => ⟨f, rfl, h⟩) (by decide) (by decide) (nI_clamp (by omega)) (vp_in_nI (by omega) (by decide)) trivial (fun _ _ _ h => h) (fun _ _ _ h => h) (fun σ13924 h13925 g13926 f13927 g13928 => ?_)
            refine m_aload_n F rfl e_X10_readLease_148 ?_
            refine r_get F e_X10_readLease_149 fl_X10_34 h13925 rfl (fun v hv f13929 => ?_)
            obtain rfl : v = .ref (c + 9) := hv
            refine m_iload_n F rfl e_X10_readLease_152 ?_
            refine m_iconst F (v := 0) (by decide) e_X10_readLease_153 ?_
            refine r_iast F (g' := (⟨T, Z, u, h, P13906, L⟩ : RG)) (len := 8) (j := 4 + P.n5) e_X10_readLease_154 h13925 (fun _ h => h) (fun f h => ⟨f, rfl, h⟩) (by decide) (by decide) (nI_clamp (by omega)) (vp_in_nI (by omega) (by decide)) trivial (fun _ _ _ h => h) (fun _ _ _ h => h) (fun σ13930 h13931 g13932 f13933 g13934 => ?_)
            refine m_iconst F (v := 0) (by decide) e_X10_readLease_155 ?_
            refine m_istore_n F (lv' := [(2, .int 0), (1, .int (nI (4 + P.n5))), (0, .ref c)]) e_X10_readLease_156 (by decide) rfl ?_
            refine Wm.lvsub (lv' := [(0, .ref c), (1, .int (nI (4 + P.n5))), (2, .int 0)]) ?_ [2, 1, 0] rfl
            exact lq_X10_readLeaseE_157 F hQ hob hP hp0 hp1 hp2 hp3 hp4 hp5 hp6 hp7 hp8 hp9 hp10 hp11 hp12 hp13 hp14 (48 - 0 + 1) (4 + P.n5) 0 P13906 _ h13931 oP13911 (by unfold RP; omega) ⟨by omega, by omega, by omega, by omega, (by unfold leaseS; dsimp only; rw [if_neg (by omega), ek13583, newK_ok hs13591 e13615, ek13674, numK_ok e13695 l13697 l13698, ek13706, numK_1 e13739]; exact RM.l ((fld_eq (g13932 _ (by omega))).trans ((fld_eq (g13926 _ (by omega))).trans ((fld_eq (g13920 _ (by omega))).trans ((fld_eq (g13914 _ (by omega))).trans ((fld_eq (g13903 _ (by omega))).trans fa13748))))) ((fld_eq (g13932 _ (by omega))).trans ((fld_eq (g13926 _ (by omega))).trans ((fld_eq (g13920 _ (by omega))).trans ((fld_eq (g13914 _ (by omega))).trans ((fld_eq (g13903 _ (by omega))).trans fb13749))))) (by decide) (by decide) (by omega))⟩ (Nat.lt_succ_self _)
          · have hz9 : True := trivial
            refine r_iast F (g' := (⟨T, Z, u, h, (mkP P13730.n0 P13730.n2 P13730.n5 P13730.n7 P13730.m0 (P13730.n5 + 1) P13730.w2 P13730.w7 P13730.kk P13730.a), L⟩ : RG)) (len := 8) (j := 4 + P.n5) e_X10_readLease_120 h13729 (fun _ h => h) (fun f h => ⟨f, rfl, h⟩) (by decide) (by decide) (nI_clamp (by omega)) (vp_in_nI (by omega) (by decide)) ⟨1, by omega, rfl, fun h7 _ => absurd h7 (by omega), fun _ _ => by omega⟩ (fun i hi y hy => by obtain ⟨n9, a9, b9, c9, d9⟩ := hy; exact ⟨n9, a9, b9, c9, fun h7 h8 => d9 h7 (show i < 4 + P13730.m5 by have h6 : i < 4 + (P13730.n5 + 1) := h8; omega)⟩) (CR.chg (by intro k hk i x h; unfold EI at h ⊢; split at h <;> first | exact h | exact absurd rfl hk | trivial) rfl rfl) (fun σ13935 h13936 g13937 f13938 g13939 => ?_)
            obtain ⟨P13940, eP13940⟩ : ∃ P9, P9 = (mkP P13730.n0 P13730.n2 P13730.n5 P13730.n7 P13730.m0 (P13730.n5 + 1) P13730.w2 P13730.w7 P13730.kk P13730.a) := ⟨_, rfl⟩
            rw [← eP13940] at h13936
            have fP13940 : P13940.n0 = P13730.n0 ∧ P13940.n2 = P13730.n2 ∧ P13940.n5 = P13730.n5 ∧ P13940.n7 = P13730.n7 ∧ P13940.m0 = P13730.m0 ∧ P13940.m5 = P13730.n5 + 1 ∧ P13940.w2 = P13730.w2 ∧ P13940.w7 = P13730.w7 ∧ P13940.kk = P13730.kk ∧ P13940.a = P13730.a := by rw [eP13940]; exact ⟨rfl, rfl, rfl, rfl, rfl, rfl, rfl, rfl, rfl, rfl⟩
            refine m_aload_n F rfl e_X10_readLease_121 ?_
            refine r_get F e_X10_readLease_122 fl_X10_25 h13936 rfl (fun v hv f13941 => ?_)
            obtain rfl : v = .ref (c + 6) := hv
            refine m_iload_n F rfl e_X10_readLease_125 ?_
            refine m_aload_n F rfl e_X10_readLease_126 ?_
            refine m_iconst F (v := 0) (by decide) e_X10_readLease_127 ?_
            refine m_ldc F kc_X10_169 e_X10_readLease_128 ?_
            have oP13945 : OKP P13940 := by unfold OKP; omega
            refine r_callV F e_X10_readLease_130 (q_X10_numeralG (x_l X) V c T Z u h P13940 L _ _ 0 200000 2 h13936.1 (hob) oP13945 (by omega) (by omega) ((fld_eq (g13937 _ (by omega))).trans fa13748) (by decide)) cb_X10_numeral ml_X10_165 im_X10_numeral se_X10_numeral h13936 rfl rfl (rest := [.int (nI (4 + P.n5)), .ref (c + 6)]) rfl (Nat.le_of_ble_eq_true rfl) ⟨Nat.le_of_ble_eq_true rfl, Nat.le_of_ble_eq_true rfl⟩ ⟨Nat.le_of_ble_eq_true rfl, Nat.le_of_ble_eq_true rfl⟩ (fun r σ13942 hp => ?_)
            obtain ⟨h13943, hp⟩ := hp
            have h13944 := HS.trans h13936 h13943 (by decide)
            obtain ⟨rfl, rfl⟩ := hp
            refine r_iast F (g' := (⟨T, Z, u, h, P13940, L⟩ : RG)) (len := 8) (j := 4 + P.n5) e_X10_readLease_133 h13944 (fun _ h => h) (fun f h => ⟨f, rfl, h⟩) (by decide) (by decide) (nI_clamp (by omega)) (vp_in_nI (by omega) (by decide)) ⟨0, by omega, rfl⟩ (fun _ _ _ h => h) (fun _ _ _ h => h) (fun σ13946 h13947 g13948 f13949 g13950 => ?_)
            refine m_aload_n F rfl e_X10_readLease_134 ?_
            refine r_get F e_X10_readLease_135 fl_X10_28 h13947 rfl (fun v hv f13951 => ?_)
            obtain rfl : v = .ref (c + 7) := hv
            refine m_iload_n F rfl e_X10_readLease_138 ?_
            refine m_iconst F (v := 0) (by decide) e_X10_readLease_139 ?_
            refine r_iast F (g' := (⟨T, Z, u, h, P13940, L⟩ : RG)) (len := 8) (j := 4 + P.n5) e_X10_readLease_140 h13947 (fun _ h => h) (fun f h => ⟨f, rfl, h⟩) (by decide) (by decide) (nI_clamp (by omega)) (vp_in_nI (by omega) (by decide)) trivial (fun _ _ _ h => h) (fun _ _ _ h => h) (fun σ13952 h13953 g13954 f13955 g13956 => ?_)
            refine m_aload_n F rfl e_X10_readLease_141 ?_
            refine r_get F e_X10_readLease_142 fl_X10_31 h13953 rfl (fun v hv f13957 => ?_)
            obtain rfl : v = .ref (c + 8) := hv
            refine m_iload_n F rfl e_X10_readLease_145 ?_
            refine m_iconst F (v := 0) (by decide) e_X10_readLease_146 ?_
            refine r_iast F (g' := (⟨T, Z, u, h, P13940, L⟩ : RG)) (len := 8) (j := 4 + P.n5) e_X10_readLease_147 h13953 (fun _ h => h) (fun f h => ⟨f, rfl, h⟩) (by decide) (by decide) (nI_clamp (by omega)) (vp_in_nI (by omega) (by decide)) trivial (fun _ _ _ h => h) (fun _ _ _ h => h) (fun σ13958 h13959 g13960 f13961 g13962 => ?_)
            refine m_aload_n F rfl e_X10_readLease_148 ?_
            refine r_get F e_X10_readLease_149 fl_X10_34 h13959 rfl (fun v hv f13963 => ?_)
            obtain rfl : v = .ref (c + 9) := hv
            refine m_iload_n F rfl e_X10_readLease_152 ?_
            refine m_iconst F (v := 0) (by decide) e_X10_readLease_153 ?_
            refine r_iast F (g' := (⟨T, Z, u, h, P13940, L⟩ : RG)) (len := 8) (j := 4 + P.n5) e_X10_readLease_154 h13959 (fun _ h => h) (fun f h => ⟨f, rfl, h⟩) (by decide) (by decide) (nI_clamp (by omega)) (vp_in_nI (by omega) (by decide)) trivial (fun _ _ _ h => h) (fun _ _ _ h => h) (fun σ13964 h13965 g13966 f13967 g13968 => ?_)
            refine m_iconst F (v := 0) (by decide) e_X10_readLease_155 ?_
            refine m_istore_n F (lv' := [(2, .int 0), (1, .int (nI (4 + P.n5))), (0, .ref c)]) e_X10_readLease_156 (by decide) rfl ?_
            refine Wm.lvsub (lv' := [(0, .ref c), (1, .int (nI (4 + P.n5))), (2, .int 0)]) ?_ [2, 1, 0] rfl
            exact lq_X10_readLeaseE_157 F hQ hob hP hp0 hp1 hp2 hp3 hp4 hp5 hp6 hp7 hp8 hp9 hp10 hp11 hp12 hp13 hp14 (48 - 0 + 1) (4 + P.n5) 0 P13940 _ h13965 oP13945 (by unfold RP; omega) ⟨by omega, by omega, by omega, by omega, (by unfold leaseS; dsimp only; rw [if_neg (by omega), ek13583, newK_ok hs13591 e13615, ek13674, numK_ok e13695 l13697 l13698, ek13706, numK_2 e13739 e13740]; exact RM.l ((fld_eq (g13966 _ (by omega))).trans ((fld_eq (g13960 _ (by omega))).trans ((fld_eq (g13954 _ (by omega))).trans ((fld_eq (g13948 _ (by omega))).trans ((fld_eq (g13937 _ (by omega))).trans fa13748))))) ((fld_eq (g13966 _ (by omega))).trans ((fld_eq (g13960 _ (by omega))).trans ((fld_eq (g13954 _ (by omega))).trans ((fld_eq (g13948 _ (by omega))).trans ((fld_eq (g13937 _ (by omega))).trans fb13749))))) (by decide) (by decide) (by omega))⟩ (Nat.lt_succ_self _)
        · have hz9 : True := trivial
          refine r_iast F (g' := (⟨T, Z, u, h, P13686, L⟩ : RG)) (len := 8) (j := 4 + P.n5) e_X10_readLease_107 h13685 (fun _ h => h) (fun f h => ⟨f, rfl, h⟩) (by decide) (by decide) (nI_clamp (by omega)) (vp_in_nI (by omega) (by decide)) trivial (fun _ _ _ h => h) (fun _ _ _ h => h) (fun σ13969 h13970 g13971 f13972 g13973 => ?_)
          refine m_aload_n F rfl e_X10_readLease_108 ?_
          refine r_get F e_X10_readLease_109 fl_X10_22 h13970 rfl (fun v hv f13974 => ?_)
          obtain rfl : v = .ref (c + 5) := hv
          refine m_iload_n F rfl e_X10_readLease_112 ?_
          refine m_aload_n F rfl e_X10_readLease_113 ?_
          refine m_iconst F (v := 1) (by decide) e_X10_readLease_114 ?_
          refine m_bipush F (v := 48) (by decide) e_X10_readLease_115 ?_
          refine r_callV F e_X10_readLease_117 (q_X10_numeralG (x_l X) V c T Z u h P13686 L _ _ 1 48 1 h13970.1 (hob) oP13686 (by omega) (by omega) ((fld_eq (g13971 _ (by omega))).trans fa13704) (by decide)) cb_X10_numeral ml_X10_165 im_X10_numeral se_X10_numeral h13970 rfl rfl (rest := [.int (nI (4 + P.n5)), .ref (c + 5)]) rfl (Nat.le_of_ble_eq_true rfl) ⟨Nat.le_of_ble_eq_true rfl, Nat.le_of_ble_eq_true rfl⟩ ⟨Nat.le_of_ble_eq_true rfl, Nat.le_of_ble_eq_true rfl⟩ (fun r σ13975 hp => ?_)
          obtain ⟨h13976, hp⟩ := hp
          have h13977 := HS.trans h13970 h13976 (by decide)
          obtain ⟨rfl, rfl⟩ := hp
          refine r_iast F (g' := (⟨T, Z, u, h, (mkP P13686.n0 P13686.n2 P13686.n5 P13686.n7 P13686.m0 (P13686.n5 + 1) P13686.w2 P13686.w7 P13686.kk P13686.a), L⟩ : RG)) (len := 8) (j := 4 + P.n5) e_X10_readLease_120 h13977 (fun _ h => h) (fun f h => ⟨f, rfl, h⟩) (by decide) (by decide) (nI_clamp (by omega)) (vp_in_nI (by omega) (by decide)) ⟨1, by omega, rfl, fun h7 _ => absurd h7 (by omega), fun _ _ => by omega⟩ (fun i hi y hy => by obtain ⟨n9, a9, b9, c9, d9⟩ := hy; exact ⟨n9, a9, b9, c9, fun h7 h8 => d9 h7 (show i < 4 + P13686.m5 by have h6 : i < 4 + (P13686.n5 + 1) := h8; omega)⟩) (CR.chg (by intro k hk i x h; unfold EI at h ⊢; split at h <;> first | exact h | exact absurd rfl hk | trivial) rfl rfl) (fun σ13978 h13979 g13980 f13981 g13982 => ?_)
          obtain ⟨P13983, eP13983⟩ : ∃ P9, P9 = (mkP P13686.n0 P13686.n2 P13686.n5 P13686.n7 P13686.m0 (P13686.n5 + 1) P13686.w2 P13686.w7 P13686.kk P13686.a) := ⟨_, rfl⟩
          rw [← eP13983] at h13979
          have fP13983 : P13983.n0 = P13686.n0 ∧ P13983.n2 = P13686.n2 ∧ P13983.n5 = P13686.n5 ∧ P13983.n7 = P13686.n7 ∧ P13983.m0 = P13686.m0 ∧ P13983.m5 = P13686.n5 + 1 ∧ P13983.w2 = P13686.w2 ∧ P13983.w7 = P13686.w7 ∧ P13983.kk = P13686.kk ∧ P13983.a = P13686.a := by rw [eP13983]; exact ⟨rfl, rfl, rfl, rfl, rfl, rfl, rfl, rfl, rfl, rfl⟩
          refine m_aload_n F rfl e_X10_readLease_121 ?_
          refine r_get F e_X10_readLease_122 fl_X10_25 h13979 rfl (fun v hv f13984 => ?_)
          obtain rfl : v = .ref (c + 6) := hv
          refine m_iload_n F rfl e_X10_readLease_125 ?_
          refine m_aload_n F rfl e_X10_readLease_126 ?_
          refine m_iconst F (v := 0) (by decide) e_X10_readLease_127 ?_
          refine m_ldc F kc_X10_169 e_X10_readLease_128 ?_
          have oP13988 : OKP P13983 := by unfold OKP; omega
          refine r_callV F e_X10_readLease_130 (q_X10_numeralG (x_l X) V c T Z u h P13983 L _ _ 0 200000 1 h13979.1 (hob) oP13988 (by omega) (by omega) ((fld_eq (g13980 _ (by omega))).trans ((fld_eq (g13971 _ (by omega))).trans fa13704)) (by decide)) cb_X10_numeral ml_X10_165 im_X10_numeral se_X10_numeral h13979 rfl rfl (rest := [.int (nI (4 + P.n5)), .ref (c + 6)]) rfl (Nat.le_of_ble_eq_true rfl) ⟨Nat.le_of_ble_eq_true rfl, Nat.le_of_ble_eq_true rfl⟩ ⟨Nat.le_of_ble_eq_true rfl, Nat.le_of_ble_eq_true rfl⟩ (fun r σ13985 hp => ?_)
          obtain ⟨h13986, hp⟩ := hp
          have h13987 := HS.trans h13979 h13986 (by decide)
          obtain ⟨rfl, rfl⟩ := hp
          refine r_iast F (g' := (⟨T, Z, u, h, P13983, L⟩ : RG)) (len := 8) (j := 4 + P.n5) e_X10_readLease_133 h13987 (fun _ h => h) (fun f h => ⟨f, rfl, h⟩) (by decide) (by decide) (nI_clamp (by omega)) (vp_in_nI (by omega) (by decide)) ⟨0, by omega, rfl⟩ (fun _ _ _ h => h) (fun _ _ _ h => h) (fun σ13989 h13990 g13991 f13992 g13993 => ?_)
          refine m_aload_n F rfl e_X10_readLease_134 ?_
          refine r_get F e_X10_readLease_135 fl_X10_28 h13990 rfl (fun v hv f13994 => ?_)
          obtain rfl : v = .ref (c + 7) := hv
          refine m_iload_n F rfl e_X10_readLease_138 ?_
          refine m_iconst F (v := 0) (by decide) e_X10_readLease_139 ?_
          refine r_iast F (g' := (⟨T, Z, u, h, P13983, L⟩ : RG)) (len := 8) (j := 4 + P.n5) e_X10_readLease_140 h13990 (fun _ h => h) (fun f h => ⟨f, rfl, h⟩) (by decide) (by decide) (nI_clamp (by omega)) (vp_in_nI (by omega) (by decide)) trivial (fun _ _ _ h => h) (fun _ _ _ h => h) (fun σ13995 h13996 g13997 f13998 g13999 => ?_)
          refine m_aload_n F rfl e_X10_readLease_141 ?_
          refine r_get F e_X10_readLease_142 fl_X10_31 h13996 rfl (fun v hv f14000 => ?_)
          obtain rfl : v = .ref (c + 8) := hv
          refine m_iload_n F rfl e_X10_readLease_145 ?_
          refine m_iconst F (v := 0) (by decide) e_X10_readLease_146 ?_
          refine r_iast F (g' := (⟨T, Z, u, h, P13983, L⟩ : RG)) (len := 8) (j := 4 + P.n5) e_X10_readLease_147 h13996 (fun _ h => h) (fun f h => ⟨f, rfl, h⟩) (by decide) (by decide) (nI_clamp (by omega)) (vp_in_nI (by omega) (by decide)) trivial (fun _ _ _ h => h) (fun _ _ _ h => h) (fun σ14001 h14002 g14003 f14004 g14005 => ?_)
          refine m_aload_n F rfl e_X10_readLease_148 ?_
          refine r_get F e_X10_readLease_149 fl_X10_34 h14002 rfl (fun v hv f14006 => ?_)
          obtain rfl : v = .ref (c + 9) := hv
          refine m_iload_n F rfl e_X10_readLease_152 ?_
          refine m_iconst F (v := 0) (by decide) e_X10_readLease_153 ?_
          refine r_iast F (g' := (⟨T, Z, u, h, P13983, L⟩ : RG)) (len := 8) (j := 4 + P.n5) e_X10_readLease_154 h14002 (fun _ h => h) (fun f h => ⟨f, rfl, h⟩) (by decide) (by decide) (nI_clamp (by omega)) (vp_in_nI (by omega) (by decide)) trivial (fun _ _ _ h => h) (fun _ _ _ h => h) (fun σ14007 h14008 g14009 f14010 g14011 => ?_)
          refine m_iconst F (v := 0) (by decide) e_X10_readLease_155 ?_
          refine m_istore_n F (lv' := [(2, .int 0), (1, .int (nI (4 + P.n5))), (0, .ref c)]) e_X10_readLease_156 (by decide) rfl ?_
          refine Wm.lvsub (lv' := [(0, .ref c), (1, .int (nI (4 + P.n5))), (2, .int 0)]) ?_ [2, 1, 0] rfl
          exact lq_X10_readLeaseE_157 F hQ hob hP hp0 hp1 hp2 hp3 hp4 hp5 hp6 hp7 hp8 hp9 hp10 hp11 hp12 hp13 hp14 (48 - 0 + 1) (4 + P.n5) 0 P13983 _ h14008 oP13988 (by unfold RP; omega) ⟨by omega, by omega, by omega, by omega, (by unfold leaseS; dsimp only; rw [if_neg (by omega), ek13583, newK_ok hs13591 e13615, ek13674, numK_1 e13695]; exact RM.l ((fld_eq (g14009 _ (by omega))).trans ((fld_eq (g14003 _ (by omega))).trans ((fld_eq (g13997 _ (by omega))).trans ((fld_eq (g13991 _ (by omega))).trans ((fld_eq (g13980 _ (by omega))).trans ((fld_eq (g13971 _ (by omega))).trans fa13704)))))) ((fld_eq (g14009 _ (by omega))).trans ((fld_eq (g14003 _ (by omega))).trans ((fld_eq (g13997 _ (by omega))).trans ((fld_eq (g13991 _ (by omega))).trans ((fld_eq (g13980 _ (by omega))).trans ((fld_eq (g13971 _ (by omega))).trans fb13705)))))) (by decide) (by decide) (by omega))⟩ (Nat.lt_succ_self _)
        · have hz9 : True := trivial
          refine r_iast F (g' := (⟨T, Z, u, h, P13686, L⟩ : RG)) (len := 8) (j := 4 + P.n5) e_X10_readLease_107 h13685 (fun _ h => h) (fun f h => ⟨f, rfl, h⟩) (by decide) (by decide) (nI_clamp (by omega)) (vp_in_nI (by omega) (by decide)) trivial (fun _ _ _ h => h) (fun _ _ _ h => h) (fun σ14012 h14013 g14014 f14015 g14016 => ?_)
          refine m_aload_n F rfl e_X10_readLease_108 ?_
          refine r_get F e_X10_readLease_109 fl_X10_22 h14013 rfl (fun v hv f14017 => ?_)
          obtain rfl : v = .ref (c + 5) := hv
          refine m_iload_n F rfl e_X10_readLease_112 ?_
          refine m_aload_n F rfl e_X10_readLease_113 ?_
          refine m_iconst F (v := 1) (by decide) e_X10_readLease_114 ?_
          refine m_bipush F (v := 48) (by decide) e_X10_readLease_115 ?_
          refine r_callV F e_X10_readLease_117 (q_X10_numeralG (x_l X) V c T Z u h P13686 L _ _ 1 48 2 h14013.1 (hob) oP13686 (by omega) (by omega) ((fld_eq (g14014 _ (by omega))).trans fa13704) (by decide)) cb_X10_numeral ml_X10_165 im_X10_numeral se_X10_numeral h14013 rfl rfl (rest := [.int (nI (4 + P.n5)), .ref (c + 5)]) rfl (Nat.le_of_ble_eq_true rfl) ⟨Nat.le_of_ble_eq_true rfl, Nat.le_of_ble_eq_true rfl⟩ ⟨Nat.le_of_ble_eq_true rfl, Nat.le_of_ble_eq_true rfl⟩ (fun r σ14018 hp => ?_)
          obtain ⟨h14019, hp⟩ := hp
          have h14020 := HS.trans h14013 h14019 (by decide)
          obtain ⟨rfl, rfl⟩ := hp
          refine r_iast F (g' := (⟨T, Z, u, h, (mkP P13686.n0 P13686.n2 P13686.n5 P13686.n7 P13686.m0 (P13686.n5 + 1) P13686.w2 P13686.w7 P13686.kk P13686.a), L⟩ : RG)) (len := 8) (j := 4 + P.n5) e_X10_readLease_120 h14020 (fun _ h => h) (fun f h => ⟨f, rfl, h⟩) (by decide) (by decide) (nI_clamp (by omega)) (vp_in_nI (by omega) (by decide)) ⟨1, by omega, rfl, fun h7 _ => absurd h7 (by omega), fun _ _ => by omega⟩ (fun i hi y hy => by obtain ⟨n9, a9, b9, c9, d9⟩ := hy; exact ⟨n9, a9, b9, c9, fun h7 h8 => d9 h7 (show i < 4 + P13686.m5 by have h6 : i < 4 + (P13686.n5 + 1) := h8; omega)⟩) (CR.chg (by intro k hk i x h; unfold EI at h ⊢; split at h <;> first | exact h | exact absurd rfl hk | trivial) rfl rfl) (fun σ14021 h14022 g14023 f14024 g14025 => ?_)
          obtain ⟨P14026, eP14026⟩ : ∃ P9, P9 = (mkP P13686.n0 P13686.n2 P13686.n5 P13686.n7 P13686.m0 (P13686.n5 + 1) P13686.w2 P13686.w7 P13686.kk P13686.a) := ⟨_, rfl⟩
          rw [← eP14026] at h14022
          have fP14026 : P14026.n0 = P13686.n0 ∧ P14026.n2 = P13686.n2 ∧ P14026.n5 = P13686.n5 ∧ P14026.n7 = P13686.n7 ∧ P14026.m0 = P13686.m0 ∧ P14026.m5 = P13686.n5 + 1 ∧ P14026.w2 = P13686.w2 ∧ P14026.w7 = P13686.w7 ∧ P14026.kk = P13686.kk ∧ P14026.a = P13686.a := by rw [eP14026]; exact ⟨rfl, rfl, rfl, rfl, rfl, rfl, rfl, rfl, rfl, rfl⟩
          refine m_aload_n F rfl e_X10_readLease_121 ?_
          refine r_get F e_X10_readLease_122 fl_X10_25 h14022 rfl (fun v hv f14027 => ?_)
          obtain rfl : v = .ref (c + 6) := hv
          refine m_iload_n F rfl e_X10_readLease_125 ?_
          refine m_aload_n F rfl e_X10_readLease_126 ?_
          refine m_iconst F (v := 0) (by decide) e_X10_readLease_127 ?_
          refine m_ldc F kc_X10_169 e_X10_readLease_128 ?_
          have oP14031 : OKP P14026 := by unfold OKP; omega
          refine r_callV F e_X10_readLease_130 (q_X10_numeralG (x_l X) V c T Z u h P14026 L _ _ 0 200000 2 h14022.1 (hob) oP14031 (by omega) (by omega) ((fld_eq (g14023 _ (by omega))).trans ((fld_eq (g14014 _ (by omega))).trans fa13704)) (by decide)) cb_X10_numeral ml_X10_165 im_X10_numeral se_X10_numeral h14022 rfl rfl (rest := [.int (nI (4 + P.n5)), .ref (c + 6)]) rfl (Nat.le_of_ble_eq_true rfl) ⟨Nat.le_of_ble_eq_true rfl, Nat.le_of_ble_eq_true rfl⟩ ⟨Nat.le_of_ble_eq_true rfl, Nat.le_of_ble_eq_true rfl⟩ (fun r σ14028 hp => ?_)
          obtain ⟨h14029, hp⟩ := hp
          have h14030 := HS.trans h14022 h14029 (by decide)
          obtain ⟨rfl, rfl⟩ := hp
          refine r_iast F (g' := (⟨T, Z, u, h, P14026, L⟩ : RG)) (len := 8) (j := 4 + P.n5) e_X10_readLease_133 h14030 (fun _ h => h) (fun f h => ⟨f, rfl, h⟩) (by decide) (by decide) (nI_clamp (by omega)) (vp_in_nI (by omega) (by decide)) ⟨0, by omega, rfl⟩ (fun _ _ _ h => h) (fun _ _ _ h => h) (fun σ14032 h14033 g14034 f14035 g14036 => ?_)
          refine m_aload_n F rfl e_X10_readLease_134 ?_
          refine r_get F e_X10_readLease_135 fl_X10_28 h14033 rfl (fun v hv f14037 => ?_)
          obtain rfl : v = .ref (c + 7) := hv
          refine m_iload_n F rfl e_X10_readLease_138 ?_
          refine m_iconst F (v := 0) (by decide) e_X10_readLease_139 ?_
          refine r_iast F (g' := (⟨T, Z, u, h, P14026, L⟩ : RG)) (len := 8) (j := 4 + P.n5) e_X10_readLease_140 h14033 (fun _ h => h) (fun f h => ⟨f, rfl, h⟩) (by decide) (by decide) (nI_clamp (by omega)) (vp_in_nI (by omega) (by decide)) trivial (fun _ _ _ h => h) (fun _ _ _ h => h) (fun σ14038 h14039 g14040 f14041 g14042 => ?_)
          refine m_aload_n F rfl e_X10_readLease_141 ?_
          refine r_get F e_X10_readLease_142 fl_X10_31 h14039 rfl (fun v hv f14043 => ?_)
          obtain rfl : v = .ref (c + 8) := hv
          refine m_iload_n F rfl e_X10_readLease_145 ?_
          refine m_iconst F (v := 0) (by decide) e_X10_readLease_146 ?_
          refine r_iast F (g' := (⟨T, Z, u, h, P14026, L⟩ : RG)) (len := 8) (j := 4 + P.n5) e_X10_readLease_147 h14039 (fun _ h => h) (fun f h => ⟨f, rfl, h⟩) (by decide) (by decide) (nI_clamp (by omega)) (vp_in_nI (by omega) (by decide)) trivial (fun _ _ _ h => h) (fun _ _ _ h => h) (fun σ14044 h14045 g14046 f14047 g14048 => ?_)
          refine m_aload_n F rfl e_X10_readLease_148 ?_
          refine r_get F e_X10_readLease_149 fl_X10_34 h14045 rfl (fun v hv f14049 => ?_)
          obtain rfl : v = .ref (c + 9) := hv
          refine m_iload_n F rfl e_X10_readLease_152 ?_
          refine m_iconst F (v := 0) (by decide) e_X10_readLease_153 ?_
          refine r_iast F (g' := (⟨T, Z, u, h, P14026, L⟩ : RG)) (len := 8) (j := 4 + P.n5) e_X10_readLease_154 h14045 (fun _ h => h) (fun f h => ⟨f, rfl, h⟩) (by decide) (by decide) (nI_clamp (by omega)) (vp_in_nI (by omega) (by decide)) trivial (fun _ _ _ h => h) (fun _ _ _ h => h) (fun σ14050 h14051 g14052 f14053 g14054 => ?_)
          refine m_iconst F (v := 0) (by decide) e_X10_readLease_155 ?_
          refine m_istore_n F (lv' := [(2, .int 0), (1, .int (nI (4 + P.n5))), (0, .ref c)]) e_X10_readLease_156 (by decide) rfl ?_
          refine Wm.lvsub (lv' := [(0, .ref c), (1, .int (nI (4 + P.n5))), (2, .int 0)]) ?_ [2, 1, 0] rfl
          exact lq_X10_readLeaseE_157 F hQ hob hP hp0 hp1 hp2 hp3 hp4 hp5 hp6 hp7 hp8 hp9 hp10 hp11 hp12 hp13 hp14 (48 - 0 + 1) (4 + P.n5) 0 P14026 _ h14051 oP14031 (by unfold RP; omega) ⟨by omega, by omega, by omega, by omega, (by unfold leaseS; dsimp only; rw [if_neg (by omega), ek13583, newK_ok hs13591 e13615, ek13674, numK_2 e13695 e13696]; exact RM.l ((fld_eq (g14052 _ (by omega))).trans ((fld_eq (g14046 _ (by omega))).trans ((fld_eq (g14040 _ (by omega))).trans ((fld_eq (g14034 _ (by omega))).trans ((fld_eq (g14023 _ (by omega))).trans ((fld_eq (g14014 _ (by omega))).trans fa13704)))))) ((fld_eq (g14052 _ (by omega))).trans ((fld_eq (g14046 _ (by omega))).trans ((fld_eq (g14040 _ (by omega))).trans ((fld_eq (g14034 _ (by omega))).trans ((fld_eq (g14023 _ (by omega))).trans ((fld_eq (g14014 _ (by omega))).trans fb13705)))))) (by decide) (by decide) (by omega))⟩ (Nat.lt_succ_self _)
    · have hnw := mt13581.nw hs13591
      refine r_getC F e_X10_readLease_27 fl_X10_110 h13568 (yd13587) ?_
      refine m_iconst F (v := 1) (by decide) e_X10_readLease_30 ?_
      refine m_icmp_eq F e_X10_readLease_31 (fun q31 => ?_) (fun q31 => ?_)
      · exact absurd q31 hnw
      · refine m_aload_n F rfl e_X10_readLease_34 ?_
        refine m_iconst F (v := 1) (by decide) e_X10_readLease_35 ?_
        refine r_callV F e_X10_readLease_36 (q_X10_wrongE (x_l X) V c T Z u h P13569 L _ _ 1 n k13583.1 so13579 va13580 ln fp h13568.1 (hob) oP13569 (by omega) ⟨(yd13584), (yd13585), (yd13586), (yd13587), (yd13588), (yd13589), (yd13590)⟩ (by decide)) cb_X10_wrong ml_X10_150 im_X10_wrong se_X10_wrong h13568 rfl rfl (rest := []) rfl (Nat.le_of_ble_eq_true rfl) ⟨Nat.le_of_ble_eq_true rfl, Nat.le_of_ble_eq_true rfl⟩ ⟨Nat.le_of_ble_eq_true rfl, Nat.le_of_ble_eq_true rfl⟩ (fun r σ14055 hp => ?_)
        obtain ⟨h14056, hp⟩ := hp
        have h14057 := HS.trans h13568 h14056 (by decide)
        have ga14058 := ga13572.of (h14056.2 (c + 1) (by rw [kC_at (k := 1) (by decide)]; decide))
        have ga14059 := ga13573.of (h14056.2 (c + 2) (by rw [kC_at (k := 2) (by decide)]; decide))
        have ga14060 := ga13574.of (h14056.2 (c + 3) (by rw [kC_at (k := 3) (by decide)]; decide))
        have ga14061 := ga13575.of (h14056.2 (c + 7) (by rw [kC_at (k := 7) (by decide)]; decide))
        have ga14062 := ga13576.of (h14056.2 (c + 8) (by rw [kC_at (k := 8) (by decide)]; decide))
        have ga14063 := ga13577.of (h14056.2 (c + 9) (by rw [kC_at (k := 9) (by decide)]; decide))
        have ga14064 := ga13578.of (h14056.2 (c + 11) (by rw [kC_at (k := 11) (by decide)]; decide))
        obtain ⟨hp, rfl⟩ := hp
        have hyd14065 := hp
        obtain ⟨yd14065, yd14066, yd14067, yd14068, yd14069, yd14070, yd14071⟩ := hyd14065
        refine m_goto F e_X10_readLease_39 ?_
        refine m_aload_n F rfl e_X10_readLease_65 ?_
        refine r_getC F e_X10_readLease_66 fl_X10_141 h14057 (yd14070) ?_
        refine m_if_eq F e_X10_readLease_69 (fun q => absurd q (by decide)) (fun _ => ?_)
        have h14072 : HS V c _ [0, 2, 12, 13, 14, 15, 16, 17, 18, 19, 20, 21, 22, 23] _ _ := ⟨HR.mono (Z' := Z) (by intro e; first | rfl | assumption | omega) h14057.1, h14057.2⟩
        exact m_vret F hQ e_X10_readLease_72 (⟨P13569, oP13569, (by unfold RP; omega), (by unfold leaseS; dsimp only; rw [if_neg (by omega), ek13583, newK_1 hs13591]; exact RM.l (yd14070) (yd14071) (by decide) (by decide) (by omega)), h14072, rfl⟩)
  · have c6 : P.n5 = 4 := (nI_eq (a := P.n5) (b := 4) (by omega) (by omega)).mp q6
    refine m_aload_n F rfl e_X10_readLease_9 ?_
    refine m_iconst F (v := 2) (by decide) e_X10_readLease_10 ?_
    refine r_callV F e_X10_readLease_11 (q_X10_wrongE (x_l X) V c T Z u h P L _ _ 2 n st so va ln fp h13558.1 (hob) hP (by omega) ⟨((fld_eq (h13557.2 c (by rw [show kC c c = 1 from kC_at (k := 0) (by decide)]; decide))).trans yd13549), ((fld_eq (h13557.2 c (by rw [show kC c c = 1 from kC_at (k := 0) (by decide)]; decide))).trans yd13550), ((fld_eq (h13557.2 c (by rw [show kC c c = 1 from kC_at (k := 0) (by decide)]; decide))).trans yd13551), ((fld_eq (h13557.2 c (by rw [show kC c c = 1 from kC_at (k := 0) (by decide)]; decide))).trans yd13552), ((fld_eq (h13557.2 c (by rw [show kC c c = 1 from kC_at (k := 0) (by decide)]; decide))).trans yd13553), ((fld_eq (h13557.2 c (by rw [show kC c c = 1 from kC_at (k := 0) (by decide)]; decide))).trans yd13554), ((fld_eq (h13557.2 c (by rw [show kC c c = 1 from kC_at (k := 0) (by decide)]; decide))).trans yd13555)⟩ (by decide)) cb_X10_wrong ml_X10_150 im_X10_wrong se_X10_wrong h13558 rfl rfl (rest := []) rfl (Nat.le_of_ble_eq_true rfl) ⟨Nat.le_of_ble_eq_true rfl, Nat.le_of_ble_eq_true rfl⟩ ⟨Nat.le_of_ble_eq_true rfl, Nat.le_of_ble_eq_true rfl⟩ (fun r σ14073 hp => ?_)
    obtain ⟨h14074, hp⟩ := hp
    have h14075 := HS.trans h13558 h14074 (by decide)
    have ga14076 := ga13559.of (h14074.2 (c + 1) (by rw [kC_at (k := 1) (by decide)]; decide))
    have ga14077 := ga13560.of (h14074.2 (c + 2) (by rw [kC_at (k := 2) (by decide)]; decide))
    have ga14078 := ga13561.of (h14074.2 (c + 3) (by rw [kC_at (k := 3) (by decide)]; decide))
    have ga14079 := ga13562.of (h14074.2 (c + 7) (by rw [kC_at (k := 7) (by decide)]; decide))
    have ga14080 := ga13563.of (h14074.2 (c + 8) (by rw [kC_at (k := 8) (by decide)]; decide))
    have ga14081 := ga13564.of (h14074.2 (c + 9) (by rw [kC_at (k := 9) (by decide)]; decide))
    have ga14082 := ga13565.of (h14074.2 (c + 11) (by rw [kC_at (k := 11) (by decide)]; decide))
    obtain ⟨hp, rfl⟩ := hp
    have hyd14083 := hp
    obtain ⟨yd14083, yd14084, yd14085, yd14086, yd14087, yd14088, yd14089⟩ := hyd14083
    refine m_aload_n F rfl e_X10_readLease_14 ?_
    refine r_callV F e_X10_readLease_15 (q_X10_goOnG (x_l X) V c T 0 u h P L _ _  2 h14075.1 (hob) hP  (yd14088) (by decide)) cb_X10_goOn ml_X10_154 im_X10_goOn se_X10_goOn h14075 rfl rfl (rest := []) rfl (Nat.le_of_ble_eq_true rfl) ⟨Nat.le_of_ble_eq_true rfl, Nat.le_of_ble_eq_true rfl⟩ ⟨Nat.le_of_ble_eq_true rfl, Nat.le_of_ble_eq_true rfl⟩ (fun r σ14090 hp => ?_)
    obtain ⟨h14091, hp⟩ := hp
    have h14092 := HS.trans h14075 h14091 (by decide)
    have ga14093 := ga14076.of (h14091.2 (c + 1) (by rw [kC_at (k := 1) (by decide)]; decide))
    have ga14094 := ga14077.of (h14091.2 (c + 2) (by rw [kC_at (k := 2) (by decide)]; decide))
    have ga14095 := ga14078.of (h14091.2 (c + 3) (by rw [kC_at (k := 3) (by decide)]; decide))
    have ga14096 := ga14079.of (h14091.2 (c + 7) (by rw [kC_at (k := 7) (by decide)]; decide))
    have ga14097 := ga14080.of (h14091.2 (c + 8) (by rw [kC_at (k := 8) (by decide)]; decide))
    have ga14098 := ga14081.of (h14091.2 (c + 9) (by rw [kC_at (k := 9) (by decide)]; decide))
    have ga14099 := ga14082.of (h14091.2 (c + 11) (by rw [kC_at (k := 11) (by decide)]; decide))
    obtain ⟨rfl, rfl⟩ := hp
    refine m_aload_n F rfl e_X10_readLease_18 ?_
    refine r_getC F e_X10_readLease_19 fl_X10_141 h14092 (yd14088) ?_
    refine m_if_eq F e_X10_readLease_22 (fun q => absurd q (by decide)) (fun _ => ?_)
    have h14100 : HS V c _ [0, 2, 12, 13, 14, 15, 16, 17, 18, 19, 20, 21, 22, 23] _ _ := ⟨HR.mono (Z' := Z) (by intro e; first | rfl | assumption | omega) h14092.1, h14092.2⟩
    exact m_vret F hQ e_X10_readLease_25 (⟨P, hP, (by unfold RP; omega), (by unfold leaseS; dsimp only; rw [if_pos (by omega)]; exact RM.l (yd14088) (yd14089) (by decide) (by decide) (by omega)), h14100, rfl⟩)
