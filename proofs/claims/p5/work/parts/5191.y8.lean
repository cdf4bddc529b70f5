set_option maxRecDepth 20000 in
theorem q_X10_reading0E (l : Launch) (V : VX) (c T Z u h : Nat) (P : NP) (L : Nat → LQ) (N : Nat) (σ : Mem)  (h0 : HR V c ⟨T, Z, u, h, P, L⟩ σ) (hob : OKB L) (hP : OKP P)  : Ct l V yX10_reading cX10_reading 2 (some .int) 0 0 0 N σ [.ref c, .int 0] (fun r τ => HS V c (⟨T, Z, u, h, P, L⟩ : RG) [0, 1, 2, 3, 4, 5, 6, 7, 8, 9, 10, 11, 12, 13, 14, 15, 16, 17, 18, 19, 20, 21, 22, 23] σ τ ∧ r = some (.int (nI P.n5))) := by
  refine Ct.of (by decide) (Nat.le_of_ble_eq_true rfl) [(0, .ref c), (1, .int 0)] rfl (fun X hX F hQ => ?_)
  have hPP := hP
  unfold OKP at hPP
  have h1 : HS V c ⟨T, Z, u, h, P, L⟩ [0, 1, 2, 3, 4, 5, 6, 7, 8, 9, 10, 11, 12, 13, 14, 15, 16, 17, 18, 19, 20, 21, 22, 23] σ σ := HS.start h0
  refine m_aload_n F rfl e_X10_reading_0 ?_
  refine r_get F e_X10_reading_1 fl_X10_13 h1 rfl (fun v hv f13432 => ?_)
  obtain rfl : v = .ref (c + 2) := hv
  refine m_iconst F (v := 5) (by decide) e_X10_reading_4 ?_
  refine m_iload_n F rfl e_X10_reading_5 ?_
  refine m_iadd F e_X10_reading_6 ?_
  refine Wm.topE (w := 5) (by decide) ?_
  refine r_iald F (len := 10) (j := 5) e_X10_reading_7 h1 (fun _ h => h) (by decide) (by decide) (by unfold vp_in; decide) (fun x13433 h13434 f13435 => ?_)
  obtain rfl : x13433 = nI P.n5 := h13434.2.2.1 rfl
  exact m_iret F hQ e_X10_reading_8 (⟨h1, rfl⟩)
set_option maxRecDepth 20000 in
theorem lq_X10_readLeaseE_157 {V : VX} {X : MX} {N : Nat} {σ : Mem} {c T Z u h : Nat} {P : NP} {L : Nat → LQ}  {n st : Nat} {so va : Int32} {ln : Nat} {fp : Int32} {t : Nat → Nat} {s9 v9 : Nat} {nm : Nat → Nat} {np lc no sd : Nat} {md : Nat → Nat → Bool} (F : Fx V X yX10_readLease cX10_readLease 3 none (rmd 8 0 0)) (hQ : Rt V X 0 0 N (fun r τ => ∃ P9 : NP, OKP P9 ∧ RP P P9 ∧ RM τ c n P9 (leaseS (tok t n) (st, s9, v9, P.a) P.n5 nm np P.n7 lc no sd md ln) ∧ HS V c (⟨T, Z, u, h, P9, L⟩ : RG) [0, 2, 12, 13, 14, 15, 16, 17, 18, 19, 20, 21, 22, 23] σ τ ∧ r = none)) (hob : OKB L) (hP : OKP P) (hp0 : YD σ c n st so va ln 0 fp) (hp1 : BR σ c n t) (hp2 : n ≤ 700) (hp3 : P.a ≤ n) (hp4 : MT so va s9 v9) (hp5 : st ≤ n) (hp6 : NR σ c np no sd) (hp7 : MR σ c P.n5 nm) (hp8 : KR σ c P.n5 md) (hp9 : FR σ c 8 1 P.n5 md) (hp10 : FR σ c 9 2 P.n5 md) (hp11 : QR σ c P.n7 lc) (hp12 : np ≤ 12) (hp13 : no ≤ 4) (hp14 : sd ≤ 1)  : ∀ (fuel : Nat) (a : Nat) (i : Nat) (P1 : NP) (τ : Mem), HS V c (⟨T, Z, u, h, P1, L⟩ : RG) [0, 2, 12, 13, 14, 15, 16, 17, 18, 19, 20, 21, 22, 23] σ τ → OKP P1 → RP P P1 → a = 4 + P1.n5 ∧ i ≤ 48 ∧ P1.n5 ≤ 3 ∧ P1.n5 + 1 ≤ P1.m5 ∧ RM τ c n (mkP P1.n0 P1.n2 (P1.n5 + 1) P1.n7 P1.m0 P1.m5 P1.w2 P1.w7 P1.kk P1.a P1.b0 P1.b1 P1.b2 P1.b3) (leaseS (tok t n) (st, s9, v9, P.a) P.n5 nm np P.n7 lc no sd md ln) → 48 - i < fuel → Wm V X 3 N τ 0 0 157 [(0, .ref c), (1, .int (nI a)), (2, .int (nI i))] [] := by
  intro fuel
  induction fuel with
  | zero => intros; rename_i hm; exact absurd hm (Nat.not_lt_zero _)
  | succ fuel ih =>
    intro a i P1 τ h1 hP1 hR1 hi hm
    have hPP := hP
    unfold OKP at hPP
    have hPP1 := hP1
    unfold OKP at hPP1
    unfold RP at hR1
    obtain ⟨i1, i2, i3, i4, hRM⟩ := hi
    refine m_iload_n F rfl e_X10_readLease_157 ?_
    refine m_bipush F (v := 48) (by decide) e_X10_readLease_158 ?_
    refine m_icmp_ge F e_X10_readLease_160 (fun q160 => ?_) (fun q160 => ?_)
    · have c160 : i ≥ 48 := (nI_leI (a := 48) (b := i) (by omega) (by omega)).mp q160
      refine m_aload_n F rfl e_X10_readLease_181 ?_
      refine m_iconst F (v := 0) (by decide) e_X10_readLease_182 ?_
      refine m_aload_n F rfl e_X10_readLease_183 ?_
      refine m_iconst F (v := 0) (by decide) e_X10_readLease_184 ?_
      refine r_callV F e_X10_readLease_185 (q_X10_reading0E (x_l X) V c T Z u h P1 L _ _   h1.1 (hob) hP1  ) cb_X10_reading ml_X10_157 im_X10_reading se_X10_reading h1 rfl rfl (rest := [.int 0, .ref c]) rfl (Nat.le_of_ble_eq_true rfl) ⟨Nat.le_of_ble_eq_true rfl, Nat.le_of_ble_eq_true rfl⟩ ⟨Nat.le_of_ble_eq_true rfl, Nat.le_of_ble_eq_true rfl⟩ (fun r σ13436 hp => ?_)
      obtain ⟨h13437, hp⟩ := hp
      have h13438 := HS.trans h1 h13437 (by decide)
      obtain rfl := hp
      refine m_iconst F (v := 1) (by decide) e_X10_readLease_188 ?_
      refine m_iadd F e_X10_readLease_189 ?_
      refine Wm.topE (w := nI (P1.n5 + 1)) (nI_add P1.n5 1) ?_
      refine r_callV F e_X10_readLease_190 (q_X10_reads0E (x_l X) V c T Z u h P1 L _ _ (P1.n5 + 1)  h13438.1 (hob) hP1 (by omega) (by omega)) cb_X10_reads ml_X10_170 im_X10_reads se_X10_reads h13438 rfl rfl (rest := []) rfl (Nat.le_of_ble_eq_true rfl) ⟨Nat.le_of_ble_eq_true rfl, Nat.le_of_ble_eq_true rfl⟩ ⟨Nat.le_of_ble_eq_true rfl, Nat.le_of_ble_eq_true rfl⟩ (fun r σ13439 hp => ?_)
      obtain ⟨h13440, hp⟩ := hp
      have h13441 := HS.trans h13438 h13440 (by decide)
      obtain ⟨ea13442, eb13443, rfl⟩ := hp
      obtain ⟨P13444, eP13444⟩ : ∃ P9, P9 = (mkP P1.n0 P1.n2 (P1.n5 + 1) P1.n7 P1.m0 P1.m5 P1.w2 P1.w7 P1.kk P1.a P1.b0 P1.b1 P1.b2 P1.b3) := ⟨_, rfl⟩
      rw [← eP13444] at h13441
      have fP13444 : P13444.n0 = P1.n0 ∧ P13444.n2 = P1.n2 ∧ P13444.n5 = P1.n5 + 1 ∧ P13444.n7 = P1.n7 ∧ P13444.m0 = P1.m0 ∧ P13444.m5 = P1.m5 ∧ P13444.w2 = P1.w2 ∧ P13444.w7 = P1.w7 ∧ P13444.kk = P1.kk ∧ P13444.a = P1.a ∧ P13444.b0 = P1.b0 ∧ P13444.b1 = P1.b1 ∧ P13444.b2 = P1.b2 ∧ P13444.b3 = P1.b3 := by rw [eP13444]; exact ⟨rfl, rfl, rfl, rfl, rfl, rfl, rfl, rfl, rfl, rfl, rfl, rfl, rfl, rfl⟩
      have oP13445 : OKP P13444 := by unfold OKP; omega
      exact m_vret F hQ e_X10_readLease_193 (⟨P13444, oP13445, (by unfold RP; omega), (RM.to hRM (fun j => (fld_eq (h13440.2 c (by rw [show kC c c = 1 from kC_at (k := 0) (by decide)]; decide))).trans (fld_eq (h13437.2 c (by rw [show kC c c = 1 from kC_at (k := 0) (by decide)]; decide)))) (fun i h5 _ => (eb13443 i h5).trans (elI_eq (h13437.2 (c + 2) (by rw [kC_at (k := 2) (by decide)]; decide)))) ((h13440.2 (c + 3) (by rw [kC_at (k := 3) (by decide)]; decide)).trans (h13437.2 (c + 3) (by rw [kC_at (k := 3) (by decide)]; decide))) ((h13440.2 (c + 7) (by rw [kC_at (k := 7) (by decide)]; decide)).trans (h13437.2 (c + 7) (by rw [kC_at (k := 7) (by decide)]; decide))) ((h13440.2 (c + 8) (by rw [kC_at (k := 8) (by decide)]; decide)).trans (h13437.2 (c + 8) (by rw [kC_at (k := 8) (by decide)]; decide))) ((h13440.2 (c + 9) (by rw [kC_at (k := 9) (by decide)]; decide)).trans (h13437.2 (c + 9) (by rw [kC_at (k := 9) (by decide)]; decide))) ((h13440.2 (c + 11) (by rw [kC_at (k := 11) (by decide)]; decide)).trans (h13437.2 (c + 11) (by rw [kC_at (k := 11) (by decide)]; decide))) (by show P13444.a = P1.a; omega) (by show P13444.n5 = P1.n5 + 1; omega) (by show P13444.n7 = P1.n7; omega)), h13441, rfl⟩)
    · have c160 : i < 48 := by have hh := mt (nI_leI (a := 48) (b := i) (by omega) (by omega)).mpr q160; omega
      refine m_aload_n F rfl e_X10_readLease_163 ?_
      refine r_get F e_X10_readLease_164 fl_X10_37 h1 rfl (fun v hv f13446 => ?_)
      obtain rfl : v = .ref (c + 10) := hv
      refine m_bipush F (v := 48) (by decide) e_X10_readLease_167 ?_
      refine m_iload_n F rfl e_X10_readLease_169 ?_
      refine m_imul F e_X10_readLease_170 ?_
      refine Wm.topE (w := nI (48 * a)) (pk_mul 48 a) ?_
      refine m_iload_n F rfl e_X10_readLease_171 ?_
      refine m_iadd F e_X10_readLease_172 ?_
      refine Wm.topE (w := nI ((48 * a) + i)) (nI_add (48 * a) i) ?_
      refine m_iconst F (v := 0) (by decide) e_X10_readLease_173 ?_
      refine r_iast F (g' := (⟨T, Z, u, h, P1, L⟩ : RG)) (len := 384) (j := (48 * a) + i) e_X10_readLease_174 h1 (fun _ h => h) (fun f h => ⟨f, rfl, h⟩) (by decide) (by decide) (nI_clamp (by omega)) (vp_in_nI (by omega) (by decide)) trivial (fun _ _ _ h => h) (fun _ _ _ h => h) (fun σ13447 h13448 g13449 f13450 g13451 => ?_)
      refine m_iinc F (v := nI (i + 1)) (lv' := [(2, .int (nI (i + 1))), (0, .ref c), (1, .int (nI a))]) e_X10_readLease_175 rfl (nI_add i 1) (by decide) rfl ?_
      refine m_goto F e_X10_readLease_178 ?_
      refine Wm.lvsub (lv' := [(0, .ref c), (1, .int (nI a)), (2, .int (nI (i + 1)))]) ?_ [1, 2, 0] rfl
      exact ih a (i + 1) P1 _ h13448 hP1 (by unfold RP; omega) ⟨by omega, by omega, by omega, by omega, RM.g hRM g13449 rfl rfl rfl⟩ (by omega)
set_option maxRecDepth 20000 in
theorem q_X10_readLeaseE (l : Launch) (V : VX) (c T Z u h : Nat) (P : NP) (L : Nat → LQ) (N : Nat) (σ : Mem) (n st : Nat) (so va : Int32) (ln : Nat) (fp : Int32) (t : Nat → Nat) (s9 v9 : Nat) (nm : Nat → Nat) (np lc no sd : Nat) (md : Nat → Nat → Bool) (h0 : HR V c ⟨T, Z, u, h, P, L⟩ σ) (hob : OKB L) (hP : OKP P) (hp0 : YD σ c n st so va ln 0 fp) (hp1 : BR σ c n t) (hp2 : n ≤ 700) (hp3 : P.a ≤ n) (hp4 : MT so va s9 v9) (hp5 : st ≤ n) (hp6 : NR σ c np no sd) (hp7 : MR σ c P.n5 nm) (hp8 : KR σ c P.n5 md) (hp9 : FR σ c 8 1 P.n5 md) (hp10 : FR σ c 9 2 P.n5 md) (hp11 : QR σ c P.n7 lc) (hp12 : np ≤ 12) (hp13 : no ≤ 4) (hp14 : sd ≤ 1) : Ct l V yX10_readLease cX10_readLease 3 none 8 0 0 N σ [.ref c] (fun r τ => ∃ P9 : NP, OKP P9 ∧ RP P P9 ∧ RM τ c n P9 (leaseS (tok t n) (st, s9, v9, P.a) P.n5 nm np P.n7 lc no sd md ln) ∧ HS V c (⟨T, Z, u, h, P9, L⟩ : RG) [0, 2, 12, 13, 14, 15, 16, 17, 18, 19, 20, 21, 22, 23] σ τ ∧ r = none) := by
  refine Ct.of (by decide) (Nat.le_of_ble_eq_true rfl) [(0, .ref c)] rfl (fun X hX F hQ => ?_)
  have hPP := hP
  unfold OKP at hPP
  have h1 : HS V c ⟨T, Z, u, h, P, L⟩ [0, 2, 12, 13, 14, 15, 16, 17, 18, 19, 20, 21, 22, 23] σ σ := HS.start h0
  have hyd13452 := hp0
  obtain ⟨yd13452, yd13453, yd13454, yd13455, yd13456, yd13457, yd13458⟩ := hyd13452
  have hn7 := hp2
  refine m_aload_n F rfl e_X10_readLease_0 ?_
  refine m_iconst F (v := 0) (by decide) e_X10_readLease_1 ?_
  refine r_callV F e_X10_readLease_2 (q_X10_reading0 (x_l X) V c T Z u h P L _ _  h1.1 (hob) hP ) cb_X10_reading ml_X10_157 im_X10_reading se_X10_reading h1 rfl rfl (rest := []) rfl (Nat.le_of_ble_eq_true rfl) ⟨Nat.le_of_ble_eq_true rfl, Nat.le_of_ble_eq_true rfl⟩ ⟨Nat.le_of_ble_eq_true rfl, Nat.le_of_ble_eq_true rfl⟩ (fun r σ13459 hp => ?_)
  obtain ⟨h13460, rfl⟩ := hp
  have h13461 := HS.trans h1 h13460 (by decide)
  have ga13462 := hp1.of (h13460.2 (c + 1) (by rw [kC_at (k := 1) (by decide)]; decide))
  have ga13463 := hp6.of (h13460.2 (c + 2) (by rw [kC_at (k := 2) (by decide)]; decide))
  have ga13464 := hp7.of (h13460.2 (c + 3) (by rw [kC_at (k := 3) (by decide)]; decide))
  have ga13465 := hp8.of (h13460.2 (c + 7) (by rw [kC_at (k := 7) (by decide)]; decide))
  have ga13466 := hp9.of (h13460.2 (c + 8) (by rw [kC_at (k := 8) (by decide)]; decide))
  have ga13467 := hp10.of (h13460.2 (c + 9) (by rw [kC_at (k := 9) (by decide)]; decide))
  have ga13468 := hp11.of (h13460.2 (c + 11) (by rw [kC_at (k := 11) (by decide)]; decide))
  refine Wm.topE (w := nI P.n5) (congrArg nI (by omega)) ?_
  refine m_iconst F (v := 4) (by decide) e_X10_readLease_5 ?_
  refine m_icmp_ne F e_X10_readLease_6 (fun q6 => ?_) (fun q6 => ?_)
  · have c6 : P.n5 ≠ 4 := by have hh := mt (nI_eq (a := P.n5) (b := 4) (by omega) (by omega)).mpr q6; omega
    refine m_aload_n F rfl e_X10_readLease_14 ?_
    refine r_callV F e_X10_readLease_15 (q_X10_goOnE (x_l X) V c T Z u h P L _ _  n st so va ln fp t h13461.1 (hob) hP  ⟨((fld_eq (h13460.2 c (by rw [show kC c c = 1 from kC_at (k := 0) (by decide)]; decide))).trans yd13452), ((fld_eq (h13460.2 c (by rw [show kC c c = 1 from kC_at (k := 0) (by decide)]; decide))).trans yd13453), ((fld_eq (h13460.2 c (by rw [show kC c c = 1 from kC_at (k := 0) (by decide)]; decide))).trans yd13454), ((fld_eq (h13460.2 c (by rw [show kC c c = 1 from kC_at (k := 0) (by decide)]; decide))).trans yd13455), ((fld_eq (h13460.2 c (by rw [show kC c c = 1 from kC_at (k := 0) (by decide)]; decide))).trans yd13456), ((fld_eq (h13460.2 c (by rw [show kC c c = 1 from kC_at (k := 0) (by decide)]; decide))).trans yd13457), ((fld_eq (h13460.2 c (by rw [show kC c c = 1 from kC_at (k := 0) (by decide)]; decide))).trans yd13458)⟩ ga13462 hn7 (by omega)) cb_X10_goOn ml_X10_154 im_X10_goOn se_X10_goOn h13461 rfl rfl (rest := []) rfl (Nat.le_of_ble_eq_true rfl) ⟨Nat.le_of_ble_eq_true rfl, Nat.le_of_ble_eq_true rfl⟩ ⟨Nat.le_of_ble_eq_true rfl, Nat.le_of_ble_eq_true rfl⟩ (fun r σ13469 hp => ?_)
    obtain ⟨P13472, oP13472, rP13472, pr13473, pr13474, h13470, hp⟩ := hp
    have h13471 := HS.trans h13461 h13470 (by decide)
    have xP13472 := oP13472
    unfold OKP at xP13472
    unfold RA at rP13472
    have ga13475 := ga13462.of (h13470.2 (c + 1) (by rw [kC_at (k := 1) (by decide)]; decide))
    have ga13476 := ga13463.of (h13470.2 (c + 2) (by rw [kC_at (k := 2) (by decide)]; decide))
    have ga13477 := ga13464.of (h13470.2 (c + 3) (by rw [kC_at (k := 3) (by decide)]; decide))
    have ga13478 := ga13465.of (h13470.2 (c + 7) (by rw [kC_at (k := 7) (by decide)]; decide))
    have ga13479 := ga13466.of (h13470.2 (c + 8) (by rw [kC_at (k := 8) (by decide)]; decide))
    have ga13480 := ga13467.of (h13470.2 (c + 9) (by rw [kC_at (k := 9) (by decide)]; decide))
    have ga13481 := ga13468.of (h13470.2 (c + 11) (by rw [kC_at (k := 11) (by decide)]; decide))
    obtain rfl := hp
    obtain ⟨so13482, va13483, mt13484, yd13485⟩ := pr13474
    generalize ek13486 : tok t n P.a = k13486 at pr13473 mt13484 yd13485
    have bk13486 := tok_ok (t := t) (n := n) P.a (by omega)
    rw [ek13486] at bk13486
    have hyd13487 := yd13485
    obtain ⟨yd13487, yd13488, yd13489, yd13490, yd13491, yd13492, yd13493⟩ := hyd13487
    refine m_aload_n F rfl e_X10_readLease_18 ?_
    refine r_getC F e_X10_readLease_19 fl_X10_141 h13471 (yd13492) ?_
    refine m_if_eq F e_X10_readLease_22 (fun _ => ?_) (fun q => absurd (by decide) q)
    refine m_aload_n F rfl e_X10_readLease_26 ?_
    by_cases hs13494 : k13486.2.1 = 2
    · obtain ⟨q13495, q13496, q13497⟩ := mt13484.w hs13494
      subst q13495
      subst q13496
      refine r_getC F e_X10_readLease_27 fl_X10_110 h13471 (yd13490) ?_
      refine m_iconst F (v := 1) (by decide) e_X10_readLease_30 ?_
      refine m_icmp_eq F e_X10_readLease_31 (fun _ => ?_) (fun q => absurd (by decide) q)
      refine m_aload_n F rfl e_X10_readLease_42 ?_
      refine m_iconst F (v := 4) (by decide) e_X10_readLease_43 ?_
      refine m_aload_n F rfl e_X10_readLease_44 ?_
      refine m_iconst F (v := 0) (by decide) e_X10_readLease_45 ?_
      refine r_callV F e_X10_readLease_46 (q_X10_reading0 (x_l X) V c T Z u h P13472 L _ _  h13471.1 (hob) oP13472 ) cb_X10_reading ml_X10_157 im_X10_reading se_X10_reading h13471 rfl rfl (rest := [.int 4, .ref c]) rfl (Nat.le_of_ble_eq_true rfl) ⟨Nat.le_of_ble_eq_true rfl, Nat.le_of_ble_eq_true rfl⟩ ⟨Nat.le_of_ble_eq_true rfl, Nat.le_of_ble_eq_true rfl⟩ (fun r σ13498 hp => ?_)
      obtain ⟨h13499, rfl⟩ := hp
      have h13500 := HS.trans h13471 h13499 (by decide)
      have ga13501 := ga13475.of (h13499.2 (c + 1) (by rw [kC_at (k := 1) (by decide)]; decide))
      have ga13502 := ga13476.of (h13499.2 (c + 2) (by rw [kC_at (k := 2) (by decide)]; decide))
      have ga13503 := ga13477.of (h13499.2 (c + 3) (by rw [kC_at (k := 3) (by decide)]; decide))
      have ga13504 := ga13478.of (h13499.2 (c + 7) (by rw [kC_at (k := 7) (by decide)]; decide))
      have ga13505 := ga13479.of (h13499.2 (c + 8) (by rw [kC_at (k := 8) (by decide)]; decide))
      have ga13506 := ga13480.of (h13499.2 (c + 9) (by rw [kC_at (k := 9) (by decide)]; decide))
      have ga13507 := ga13481.of (h13499.2 (c + 11) (by rw [kC_at (k := 11) (by decide)]; decide))
      refine Wm.topE (w := nI P.n5) (congrArg nI (by omega)) ?_
      refine m_aload_n F rfl e_X10_readLease_49 ?_
      refine r_getC F e_X10_readLease_50 fl_X10_120 h13500 ((fld_eq (h13499.2 c (by rw [show kC c c = 1 from kC_at (k := 0) (by decide)]; decide))).trans yd13491) ?_
      refine r_callV F e_X10_readLease_53 (q_X10_namedAtE (x_l X) V c T Z u h P13472 L _ _ P.n5 k13486.2.2.1 nm h13500.1 (hob) oP13472 (by omega) (by omega) ga13503) cb_X10_namedAt ml_X10_161 im_X10_namedAt se_X10_namedAt h13500 rfl rfl (rest := []) rfl (Nat.le_of_ble_eq_true rfl) ⟨Nat.le_of_ble_eq_true rfl, Nat.le_of_ble_eq_true rfl⟩ ⟨Nat.le_of_ble_eq_true rfl, Nat.le_of_ble_eq_true rfl⟩ (fun r σ13508 hp => ?_)
      obtain ⟨h13509, hp⟩ := hp
      have h13510 := HS.trans h13500 h13509 (by decide)
      have ga13511 := ga13501.of (h13509.2 (c + 1) (by rw [kC_at (k := 1) (by decide)]; decide))
      have ga13512 := ga13502.of (h13509.2 (c + 2) (by rw [kC_at (k := 2) (by decide)]; decide))
      have ga13513 := ga13503.of (h13509.2 (c + 3) (by rw [kC_at (k := 3) (by decide)]; decide))
      have ga13514 := ga13504.of (h13509.2 (c + 7) (by rw [kC_at (k := 7) (by decide)]; decide))
      have ga13515 := ga13505.of (h13509.2 (c + 8) (by rw [kC_at (k := 8) (by decide)]; decide))
      have ga13516 := ga13506.of (h13509.2 (c + 9) (by rw [kC_at (k := 9) (by decide)]; decide))
      have ga13517 := ga13507.of (h13509.2 (c + 11) (by rw [kC_at (k := 11) (by decide)]; decide))
      rcases hp with ⟨e13518, rfl⟩ | ⟨e13518, rfl⟩
      · refine m_iconst F (v := (-1)) (by decide) e_X10_readLease_56 ?_
        refine m_icmp_eq F e_X10_readLease_57 (fun q57 => ?_) (fun q57 => ?_)
        · exact absurd q57 (nI_nm1 (by omega))
        · refine m_aload_n F rfl e_X10_readLease_60 ?_
          refine m_iconst F (v := 3) (by decide) e_X10_readLease_61 ?_
          refine r_callV F e_X10_readLease_62 (q_X10_wrongE (x_l X) V c T Z u h P13472 L _ _ 3 n k13486.1 1 (nI k13486.2.2.1) ln fp h13510.1 (hob) oP13472 (by omega) ⟨((fld_eq (h13509.2 c (by rw [show kC c c = 1 from kC_at (k := 0) (by decide)]; decide))).trans ((fld_eq (h13499.2 c (by rw [show kC c c = 1 from kC_at (k := 0) (by decide)]; decide))).trans yd13487)), ((fld_eq (h13509.2 c (by rw [show kC c c = 1 from kC_at (k := 0) (by decide)]; decide))).trans ((fld_eq (h13499.2 c (by rw [show kC c c = 1 from kC_at (k := 0) (by decide)]; decide))).trans yd13488)), ((fld_eq (h13509.2 c (by rw [show kC c c = 1 from kC_at (k := 0) (by decide)]; decide))).trans ((fld_eq (h13499.2 c (by rw [show kC c c = 1 from kC_at (k := 0) (by decide)]; decide))).trans yd13489)), ((fld_eq (h13509.2 c (by rw [show kC c c = 1 from kC_at (k := 0) (by decide)]; decide))).trans ((fld_eq (h13499.2 c (by rw [show kC c c = 1 from kC_at (k := 0) (by decide)]; decide))).trans yd13490)), ((fld_eq (h13509.2 c (by rw [show kC c c = 1 from kC_at (k := 0) (by decide)]; decide))).trans ((fld_eq (h13499.2 c (by rw [show kC c c = 1 from kC_at (k := 0) (by decide)]; decide))).trans yd13491)), ((fld_eq (h13509.2 c (by rw [show kC c c = 1 from kC_at (k := 0) (by decide)]; decide))).trans ((fld_eq (h13499.2 c (by rw [show kC c c = 1 from kC_at (k := 0) (by decide)]; decide))).trans yd13492)), ((fld_eq (h13509.2 c (by rw [show kC c c = 1 from kC_at (k := 0) (by decide)]; decide))).trans ((fld_eq (h13499.2 c (by rw [show kC c c = 1 from kC_at (k := 0) (by decide)]; decide))).trans yd13493))⟩ (by decide)) cb_X10_wrong ml_X10_150 im_X10_wrong se_X10_wrong h13510 rfl rfl (rest := []) rfl (Nat.le_of_ble_eq_true rfl) ⟨Nat.le_of_ble_eq_true rfl, Nat.le_of_ble_eq_true rfl⟩ ⟨Nat.le_of_ble_eq_true rfl, Nat.le_of_ble_eq_true rfl⟩ (fun r σ13519 hp => ?_)
          obtain ⟨h13520, hp⟩ := hp
          have h13521 := HS.trans h13510 h13520 (by decide)
          have ga13522 := ga13511.of (h13520.2 (c + 1) (by rw [kC_at (k := 1) (by decide)]; decide))
          have ga13523 := ga13512.of (h13520.2 (c + 2) (by rw [kC_at (k := 2) (by decide)]; decide))
          have ga13524 := ga13513.of (h13520.2 (c + 3) (by rw [kC_at (k := 3) (by decide)]; decide))
          have ga13525 := ga13514.of (h13520.2 (c + 7) (by rw [kC_at (k := 7) (by decide)]; decide))
          have ga13526 := ga13515.of (h13520.2 (c + 8) (by rw [kC_at (k := 8) (by decide)]; decide))
          have ga13527 := ga13516.of (h13520.2 (c + 9) (by rw [kC_at (k := 9) (by decide)]; decide))
          have ga13528 := ga13517.of (h13520.2 (c + 11) (by rw [kC_at (k := 11) (by decide)]; decide))
          obtain ⟨hp, rfl⟩ := hp
          have hyd13529 := hp
          obtain ⟨yd13529, yd13530, yd13531, yd13532, yd13533, yd13534, yd13535⟩ := hyd13529
          refine m_aload_n F rfl e_X10_readLease_65 ?_
          refine r_getC F e_X10_readLease_66 fl_X10_141 h13521 (yd13534) ?_
          refine m_if_eq F e_X10_readLease_69 (fun q => absurd q (by decide)) (fun _ => ?_)
          have h13536 : HS V c _ [0, 2, 12, 13, 14, 15, 16, 17, 18, 19, 20, 21, 22, 23] _ _ := ⟨HR.mono (Z' := Z) (by intro e; first | rfl | assumption | omega) h13521.1, h13521.2⟩
          exact m_vret F hQ e_X10_readLease_72 (⟨P13472, oP13472, (by unfold RP; omega), (by unfold leaseS; dsimp only; rw [if_neg (by omega), ek13486, newK_3 hs13494 e13518]; exact RM.l (yd13534) (yd13535) (by decide) (by decide) (by omega)), h13536, rfl⟩)
      · refine m_iconst F (v := (-1)) (by decide) e_X10_readLease_56 ?_
        refine m_icmp_eq F e_X10_readLease_57 (fun _ => ?_) (fun q => absurd (by decide) q)
        refine m_aload_n F rfl e_X10_readLease_65 ?_
        refine r_getC F e_X10_readLease_66 fl_X10_141 h13510 ((fld_eq (h13509.2 c (by rw [show kC c c = 1 from kC_at (k := 0) (by decide)]; decide))).trans ((fld_eq (h13499.2 c (by rw [show kC c c = 1 from kC_at (k := 0) (by decide)]; decide))).trans yd13492)) ?_
        refine m_if_eq F e_X10_readLease_69 (fun _ => ?_) (fun q => absurd (by decide) q)
        refine m_iconst F (v := 4) (by decide) e_X10_readLease_73 ?_
        refine m_aload_n F rfl e_X10_readLease_74 ?_
        refine m_iconst F (v := 0) (by decide) e_X10_readLease_75 ?_
        refine r_callV F e_X10_readLease_76 (q_X10_reading0 (x_l X) V c T Z u h P13472 L _ _  h13510.1 (hob) oP13472 ) cb_X10_reading ml_X10_157 im_X10_reading se_X10_reading h13510 rfl rfl (rest := [.int 4]) rfl (Nat.le_of_ble_eq_true rfl) ⟨Nat.le_of_ble_eq_true rfl, Nat.le_of_ble_eq_true rfl⟩ ⟨Nat.le_of_ble_eq_true rfl, Nat.le_of_ble_eq_true rfl⟩ (fun r σ13537 hp => ?_)
        obtain ⟨h13538, rfl⟩ := hp
        have h13539 := HS.trans h13510 h13538 (by decide)
        have ga13540 := ga13511.of (h13538.2 (c + 1) (by rw [kC_at (k := 1) (by decide)]; decide))
        have ga13541 := ga13512.of (h13538.2 (c + 2) (by rw [kC_at (k := 2) (by decide)]; decide))
        have ga13542 := ga13513.of (h13538.2 (c + 3) (by rw [kC_at (k := 3) (by decide)]; decide))
        have ga13543 := ga13514.of (h13538.2 (c + 7) (by rw [kC_at (k := 7) (by decide)]; decide))
        have ga13544 := ga13515.of (h13538.2 (c + 8) (by rw [kC_at (k := 8) (by decide)]; decide))
        have ga13545 := ga13516.of (h13538.2 (c + 9) (by rw [kC_at (k := 9) (by decide)]; decide))
        have ga13546 := ga13517.of (h13538.2 (c + 11) (by rw [kC_at (k := 11) (by decide)]; decide))
        refine Wm.topE (w := nI P.n5) (congrArg nI (by omega)) ?_
        refine m_iadd F e_X10_readLease_79 ?_
        refine Wm.topE (w := nI (4 + P.n5)) (nI_add 4 P.n5) ?_
        refine m_istore_n F (lv' := [(1, .int (nI (4 + P.n5))), (0, .ref c)]) e_X10_readLease_80 (by decide) rfl ?_
        refine m_aload_n F rfl e_X10_readLease_81 ?_
        refine r_get F e_X10_readLease_82 fl_X10_16 h13539 rfl (fun v hv f13547 => ?_)
        obtain rfl : v = .ref (c + 3) := hv
        refine m_iload_n F rfl e_X10_readLease_85 ?_
        refine m_aload_n F rfl e_X10_readLease_86 ?_
        refine r_getC F e_X10_readLease_87 fl_X10_120 h13539 ((fld_eq (h13538.2 c (by rw [show kC c c = 1 from kC_at (k := 0) (by decide)]; decide))).trans ((fld_eq (h13509.2 c (by rw [show kC c c = 1 from kC_at (k := 0) (by decide)]; decide))).trans ((fld_eq (h13499.2 c (by rw [show kC c c = 1 from kC_at (k := 0) (by decide)]; decide))).trans yd13491))) ?_
        refine r_iast F (g' := (⟨T, Z, u, h, P13472, L⟩ : RG)) (len := 8) (j := 4 + P.n5) e_X10_readLease_90 h13539 (fun _ h => h) (fun f h => ⟨f, rfl, h⟩) (by decide) (by decide) (nI_clamp (by omega)) (vp_in_nI (by omega) (by decide)) (fun h4 => absurd (show 4 + P.n5 < 4 from h4) (by omega)) (fun _ _ _ h => h) (fun _ _ _ h => h) (fun σ13548 h13549 g13550 f13551 g13552 => ?_)
        have ga13553 := ga13540.of (g13550 _ (by omega))
        have ga13554 := ga13541.of (g13550 _ (by omega))
        have ga13555 := ga13543.of (g13550 _ (by omega))
        have ga13556 := ga13544.of (g13550 _ (by omega))
        have ga13557 := ga13545.of (g13550 _ (by omega))
        have ga13558 := ga13546.of (g13550 _ (by omega))
        have ga13559 := MR.put ga13542 (by omega) f13551 g13552
        refine m_aload_n F rfl e_X10_readLease_91 ?_
        refine r_callV F e_X10_readLease_92 (q_X10_tokenE (x_l X) V c T Z u h P13472 L _ _  n k13486.1 1 (nI k13486.2.2.1) ln 0 fp t h13549.1 (hob) oP13472  ⟨((fld_eq (g13550 _ (by omega))).trans ((fld_eq (h13538.2 c (by rw [show kC c c = 1 from kC_at (k := 0) (by decide)]; decide))).trans ((fld_eq (h13509.2 c (by rw [show kC c c = 1 from kC_at (k := 0) (by decide)]; decide))).trans ((fld_eq (h13499.2 c (by rw [show kC c c = 1 from kC_at (k := 0) (by decide)]; decide))).trans yd13487)))), ((fld_eq (g13550 _ (by omega))).trans ((fld_eq (h13538.2 c (by rw [show kC c c = 1 from kC_at (k := 0) (by decide)]; decide))).trans ((fld_eq (h13509.2 c (by rw [show kC c c = 1 from kC_at (k := 0) (by decide)]; decide))).trans ((fld_eq (h13499.2 c (by rw [show kC c c = 1 from kC_at (k := 0) (by decide)]; decide))).trans yd13488)))), ((fld_eq (g13550 _ (by omega))).trans ((fld_eq (h13538.2 c (by rw [show kC c c = 1 from kC_at (k := 0) (by decide)]; decide))).trans ((fld_eq (h13509.2 c (by rw [show kC c c = 1 from kC_at (k := 0) (by decide)]; decide))).trans ((fld_eq (h13499.2 c (by rw [show kC c c = 1 from kC_at (k := 0) (by decide)]; decide))).trans yd13489)))), ((fld_eq (g13550 _ (by omega))).trans ((fld_eq (h13538.2 c (by rw [show kC c c = 1 from kC_at (k := 0) (by decide)]; decide))).trans ((fld_eq (h13509.2 c (by rw [show kC c c = 1 from kC_at (k := 0) (by decide)]; decide))).trans ((fld_eq (h13499.2 c (by rw [show kC c c = 1 from kC_at (k := 0) (by decide)]; decide))).trans yd13490)))), ((fld_eq (g13550 _ (by omega))).trans ((fld_eq (h13538.2 c (by rw [show kC c c = 1 from kC_at (k := 0) (by decide)]; decide))).trans ((fld_eq (h13509.2 c (by rw [show kC c c = 1 from kC_at (k := 0) (by decide)]; decide))).trans ((fld_eq (h13499.2 c (by rw [show kC c c = 1 from kC_at (k := 0) (by decide)]; decide))).trans yd13491)))), ((fld_eq (g13550 _ (by omega))).trans ((fld_eq (h13538.2 c (by rw [show kC c c = 1 from kC_at (k := 0) (by decide)]; decide))).trans ((fld_eq (h13509.2 c (by rw [show kC c c = 1 from kC_at (k := 0) (by decide)]; decide))).trans ((fld_eq (h13499.2 c (by rw [show kC c c = 1 from kC_at (k := 0) (by decide)]; decide))).trans yd13492)))), ((fld_eq (g13550 _ (by omega))).trans ((fld_eq (h13538.2 c (by rw [show kC c c = 1 from kC_at (k := 0) (by decide)]; decide))).trans ((fld_eq (h13509.2 c (by rw [show kC c c = 1 from kC_at (k := 0) (by decide)]; decide))).trans ((fld_eq (h13499.2 c (by rw [show kC c c = 1 from kC_at (k := 0) (by decide)]; decide))).trans yd13493))))⟩ ga13553 hn7 (by omega)) cb_X10_token ml_X10_147 im_X10_token se_X10_token h13549 rfl rfl (rest := []) rfl (Nat.le_of_ble_eq_true rfl) ⟨Nat.le_of_ble_eq_true rfl, Nat.le_of_ble_eq_true rfl⟩ ⟨Nat.le_of_ble_eq_true rfl, Nat.le_of_ble_eq_true rfl⟩ (fun r σ13560 hp => ?_)
        obtain ⟨P13563, oP13563, rP13563, pr13564, pr13565, h13561, hp⟩ := hp
        have h13562 := HS.trans h13549 h13561 (by decide)
        have xP13563 := oP13563
        unfold OKP at xP13563
        unfold RA at rP13563
        have ga13566 := ga13553.of (h13561.2 (c + 1) (by rw [kC_at (k := 1) (by decide)]; decide))
        have ga13567 := ga13554.of (h13561.2 (c + 2) (by rw [kC_at (k := 2) (by decide)]; decide))
        have ga13568 := ga13555.of (h13561.2 (c + 7) (by rw [kC_at (k := 7) (by decide)]; decide))
        have ga13569 := ga13556.of (h13561.2 (c + 8) (by rw [kC_at (k := 8) (by decide)]; decide))
        have ga13570 := ga13557.of (h13561.2 (c + 9) (by rw [kC_at (k := 9) (by decide)]; decide))
        have ga13571 := ga13558.of (h13561.2 (c + 11) (by rw [kC_at (k := 11) (by decide)]; decide))
        have ga13572 := ga13559.of (h13561.2 (c + 3) (by rw [kC_at (k := 3) (by decide)]; decide))
        obtain rfl := hp
        obtain ⟨so13573, va13574, mt13575, yd13576⟩ := pr13565
        generalize ek13577 : tok t n P13472.a = k13577 at pr13564 mt13575 yd13576
        have bk13577 := tok_ok (t := t) (n := n) P13472.a (by omega)
        rw [ek13577] at bk13577
        rw [show P13472.a = k13486.2.2.2 by omega] at ek13577
        have hyd13578 := yd13576
        obtain ⟨yd13578, yd13579, yd13580, yd13581, yd13582, yd13583, yd13584⟩ := hyd13578
        refine m_aload_n F rfl e_X10_readLease_95 ?_
        refine r_get F e_X10_readLease_96 fl_X10_19 h13562 rfl (fun v hv f13585 => ?_)
        obtain rfl : v = .ref (c + 4) := hv
        refine m_iload_n F rfl e_X10_readLease_99 ?_
        refine m_aload_n F rfl e_X10_readLease_100 ?_
        refine m_iconst F (v := 0) (by decide) e_X10_readLease_101 ?_
        refine m_bipush F (v := 20) (by decide) e_X10_readLease_102 ?_
        refine r_callV F e_X10_readLease_104 (q_X10_numeralE (x_l X) V c T Z u h P13563 L _ _ 0 20 n k13577.1 so13573 va13574 ln fp t k13577.2.1 k13577.2.2.1 h13562.1 (hob) oP13563 (by omega) (by omega) ⟨(yd13578), (yd13579), (yd13580), (yd13581), (yd13582), (yd13583), (yd13584)⟩ ga13566 hn7 (by omega) mt13575) cb_X10_numeral ml_X10_165 im_X10_numeral se_X10_numeral h13562 rfl rfl (rest := [.int (nI (4 + P.n5)), .ref (c + 4)]) rfl (Nat.le_of_ble_eq_true rfl) ⟨Nat.le_of_ble_eq_true rfl, Nat.le_of_ble_eq_true rfl⟩ ⟨Nat.le_of_ble_eq_true rfl, Nat.le_of_ble_eq_true rfl⟩ (fun r σ13586 hp => ?_)
        obtain ⟨P13589, oP13589, rP13589, pr13590, h13587, hp⟩ := hp
        have h13588 := HS.trans h13562 h13587 (by decide)
        have xP13589 := oP13589
        unfold OKP at xP13589
        unfold RA at rP13589
        have ga13591 := ga13566.of (h13587.2 (c + 1) (by rw [kC_at (k := 1) (by decide)]; decide))
        have ga13592 := ga13567.of (h13587.2 (c + 2) (by rw [kC_at (k := 2) (by decide)]; decide))
        have ga13593 := ga13568.of (h13587.2 (c + 7) (by rw [kC_at (k := 7) (by decide)]; decide))
        have ga13594 := ga13569.of (h13587.2 (c + 8) (by rw [kC_at (k := 8) (by decide)]; decide))
        have ga13595 := ga13570.of (h13587.2 (c + 9) (by rw [kC_at (k := 9) (by decide)]; decide))
        have ga13596 := ga13571.of (h13587.2 (c + 11) (by rw [kC_at (k := 11) (by decide)]; decide))
        have ga13597 := ga13572.of (h13587.2 (c + 3) (by rw [kC_at (k := 3) (by decide)]; decide))
        rcases pr13590 with ⟨e13598, l13600, l13601, ea13602, ⟨so13603, va13604, mt13605, yd13606⟩, rfl⟩ | ⟨e13598, ⟨fa13607, fb13608⟩, rfl⟩ | ⟨e13598, e13599, ⟨fa13607, fb13608⟩, rfl⟩
        · have bk13609 := tok_ok (t := t) (n := n) P13563.a (by omega)
          generalize ek13609 : tok t n P13563.a = k13609 at ea13602 mt13605 yd13606 bk13609
          rw [show P13563.a = k13577.2.2.2 by omega] at ek13609
          have hyd13610 := yd13606
          obtain ⟨yd13610, yd13611, yd13612, yd13613, yd13614, yd13615, yd13616⟩ := hyd13610
          refine r_iast F (g' := (⟨T, Z, u, h, P13589, L⟩ : RG)) (len := 8) (j := 4 + P.n5) e_X10_readLease_107 h13588 (fun _ h => h) (fun f h => ⟨f, rfl, h⟩) (by decide) (by decide) (nI_clamp (by omega)) (vp_in_nI (by omega) (by decide)) trivial (fun _ _ _ h => h) (fun _ _ _ h => h) (fun σ13617 h13618 g13619 f13620 g13621 => ?_)
          have ga13622 := ga13591.of (g13619 _ (by omega))
          have ga13623 := ga13592.of (g13619 _ (by omega))
          have ga13624 := ga13593.of (g13619 _ (by omega))
          have ga13625 := ga13594.of (g13619 _ (by omega))
          have ga13626 := ga13595.of (g13619 _ (by omega))
          have ga13627 := ga13596.of (g13619 _ (by omega))
          have ga13628 := ga13597.of (g13619 _ (by omega))
          refine m_aload_n F rfl e_X10_readLease_108 ?_
          refine r_get F e_X10_readLease_109 fl_X10_22 h13618 rfl (fun v hv f13629 => ?_)
          obtain rfl : v = .ref (c + 5) := hv
          refine m_iload_n F rfl e_X10_readLease_112 ?_
          refine m_aload_n F rfl e_X10_readLease_113 ?_
          refine m_iconst F (v := 1) (by decide) e_X10_readLease_114 ?_
          refine m_bipush F (v := 48) (by decide) e_X10_readLease_115 ?_
          refine r_callV F e_X10_readLease_117 (q_X10_numeralE (x_l X) V c T Z u h P13589 L _ _ 1 48 n k13609.1 so13603 va13604 ln fp t k13609.2.1 k13609.2.2.1 h13618.1 (hob) oP13589 (by omega) (by omega) ⟨((fld_eq (g13619 _ (by omega))).trans yd13610), ((fld_eq (g13619 _ (by omega))).trans yd13611), ((fld_eq (g13619 _ (by omega))).trans yd13612), ((fld_eq (g13619 _ (by omega))).trans yd13613), ((fld_eq (g13619 _ (by omega))).trans yd13614), ((fld_eq (g13619 _ (by omega))).trans yd13615), ((fld_eq (g13619 _ (by omega))).trans yd13616)⟩ ga13622 hn7 (by omega) mt13605) cb_X10_numeral ml_X10_165 im_X10_numeral se_X10_numeral h13618 rfl rfl (rest := [.int (nI (4 + P.n5)), .ref (c + 5)]) rfl (Nat.le_of_ble_eq_true rfl) ⟨Nat.le_of_ble_eq_true rfl, Nat.le_of_ble_eq_true rfl⟩ ⟨Nat.le_of_ble_eq_true rfl, Nat.le_of_ble_eq_true rfl⟩ (fun r σ13630 hp => ?_)
          obtain ⟨P13633, oP13633, rP13633, pr13634, h13631, hp⟩ := hp
          have h13632 := HS.trans h13618 h13631 (by decide)
          have xP13633 := oP13633
          unfold OKP at xP13633
          unfold RA at rP13633
          have ga13635 := ga13622.of (h13631.2 (c + 1) (by rw [kC_at (k := 1) (by decide)]; decide))
          have ga13636 := ga13623.of (h13631.2 (c + 2) (by rw [kC_at (k := 2) (by decide)]; decide))
          have ga13637 := ga13624.of (h13631.2 (c + 7) (by rw [kC_at (k := 7) (by decide)]; decide))
          have ga13638 := ga13625.of (h13631.2 (c + 8) (by rw [kC_at (k := 8) (by decide)]; decide))
          have ga13639 := ga13626.of (h13631.2 (c + 9) (by rw [kC_at (k := 9) (by decide)]; decide))
          have ga13640 := ga13627.of (h13631.2 (c + 11) (by rw [kC_at (k := 11) (by decide)]; decide))
          have ga13641 := ga13628.of (h13631.2 (c + 3) (by rw [kC_at (k := 3) (by decide)]; decide))
          rcases pr13634 with ⟨e13642, l13644, l13645, ea13646, ⟨so13647, va13648, mt13649, yd13650⟩, rfl⟩ | ⟨e13642, ⟨fa13651, fb13652⟩, rfl⟩ | ⟨e13642, e13643, ⟨fa13651, fb13652⟩, rfl⟩
          · have bk13653 := tok_ok (t := t) (n := n) P13589.a (by omega)
            generalize ek13653 : tok t n P13589.a = k13653 at ea13646 mt13649 yd13650 bk13653
            rw [show P13589.a = k13609.2.2.2 by omega] at ek13653
            have hyd13654 := yd13650
            obtain ⟨yd13654, yd13655, yd13656, yd13657, yd13658, yd13659, yd13660⟩ := hyd13654
            refine r_iast F (g' := (⟨T, Z, u, h, (mkP P13633.n0 P13633.n2 P13633.n5 P13633.n7 P13633.m0 (P13633.n5 + 1) P13633.w2 P13633.w7 P13633.kk P13633.a P13633.b0 P13633.b1 P13633.b2 P13633.b3), L⟩ : RG)) (len := 8) (j := 4 + P.n5) e_X10_readLease_120 h13632 (fun _ h => h) (fun f h => ⟨f, rfl, h⟩) (by decide) (by decide) (nI_clamp (by omega)) (vp_in_nI (by omega) (by decide)) ⟨k13609.2.2.1, by omega, rfl, fun h7 _ => absurd h7 (by omega), fun _ _ => by omega⟩ (fun i hi y hy => by obtain ⟨n9, a9, b9, c9, d9⟩ := hy; exact ⟨n9, a9, b9, c9, fun h7 h8 => d9 h7 (show i < 4 + P13633.m5 by have h6 : i < 4 + (P13633.n5 + 1) := h8; omega)⟩) (CR.chg (by intro k hk i x h; unfold EI at h ⊢; split at h <;> first | exact h | exact absurd rfl hk | trivial) rfl rfl) (fun σ13661 h13662 g13663 f13664 g13665 => ?_)
            have ga13666 := ga13635.of (g13663 _ (by omega))
            have ga13667 := ga13636.of (g13663 _ (by omega))
            have ga13668 := ga13637.of (g13663 _ (by omega))
            have ga13669 := ga13638.of (g13663 _ (by omega))
            have ga13670 := ga13639.of (g13663 _ (by omega))
            have ga13671 := ga13640.of (g13663 _ (by omega))
            have ga13672 := ga13641.of (g13663 _ (by omega))
            obtain ⟨P13673, eP13673⟩ : ∃ P9, P9 = (mkP P13633.n0 P13633.n2 P13633.n5 P13633.n7 P13633.m0 (P13633.n5 + 1) P13633.w2 P13633.w7 P13633.kk P13633.a P13633.b0 P13633.b1 P13633.b2 P13633.b3) := ⟨_, rfl⟩
            rw [← eP13673] at h13662
            have fP13673 : P13673.n0 = P13633.n0 ∧ P13673.n2 = P13633.n2 ∧ P13673.n5 = P13633.n5 ∧ P13673.n7 = P13633.n7 ∧ P13673.m0 = P13633.m0 ∧ P13673.m5 = P13633.n5 + 1 ∧ P13673.w2 = P13633.w2 ∧ P13673.w7 = P13633.w7 ∧ P13673.kk = P13633.kk ∧ P13673.a = P13633.a ∧ P13673.b0 = P13633.b0 ∧ P13673.b1 = P13633.b1 ∧ P13673.b2 = P13633.b2 ∧ P13673.b3 = P13633.b3 := by rw [eP13673]; exact ⟨rfl, rfl, rfl, rfl, rfl, rfl, rfl, rfl, rfl, rfl, rfl, rfl, rfl, rfl⟩
            refine m_aload_n F rfl e_X10_readLease_121 ?_
            refine r_get F e_X10_readLease_122 fl_X10_25 h13662 rfl (fun v hv f13674 => ?_)
            obtain rfl : v = .ref (c + 6) := hv
            refine m_iload_n F rfl e_X10_readLease_125 ?_
            refine m_aload_n F rfl e_X10_readLease_126 ?_
            refine m_iconst F (v := 0) (by decide) e_X10_readLease_127 ?_
            refine m_ldc F kc_X10_169 e_X10_readLease_128 ?_
            have oP13678 : OKP P13673 := by unfold OKP; omega
            refine r_callV F e_X10_readLease_130 (q_X10_numeralE (x_l X) V c T Z u h P13673 L _ _ 0 200000 n k13653.1 so13647 va13648 ln fp t k13653.2.1 k13653.2.2.1 h13662.1 (hob) oP13678 (by omega) (by omega) ⟨((fld_eq (g13663 _ (by omega))).trans yd13654), ((fld_eq (g13663 _ (by omega))).trans yd13655), ((fld_eq (g13663 _ (by omega))).trans yd13656), ((fld_eq (g13663 _ (by omega))).trans yd13657), ((fld_eq (g13663 _ (by omega))).trans yd13658), ((fld_eq (g13663 _ (by omega))).trans yd13659), ((fld_eq (g13663 _ (by omega))).trans yd13660)⟩ ga13666 hn7 (by omega) mt13649) cb_X10_numeral ml_X10_165 im_X10_numeral se_X10_numeral h13662 rfl rfl (rest := [.int (nI (4 + P.n5)), .ref (c + 6)]) rfl (Nat.le_of_ble_eq_true rfl) ⟨Nat.le_of_ble_eq_true rfl, Nat.le_of_ble_eq_true rfl⟩ ⟨Nat.le_of_ble_eq_true rfl, Nat.le_of_ble_eq_true rfl⟩ (fun r σ13675 hp => ?_)
            obtain ⟨P13679, oP13679, rP13679, pr13680, h13676, hp⟩ := hp
            have h13677 := HS.trans h13662 h13676 (by decide)
            have xP13679 := oP13679
            unfold OKP at xP13679
            unfold RA at rP13679
            have ga13681 := ga13666.of (h13676.2 (c + 1) (by rw [kC_at (k := 1) (by decide)]; decide))
            have ga13682 := ga13667.of (h13676.2 (c + 2) (by rw [kC_at (k := 2) (by decide)]; decide))
            have ga13683 := ga13668.of (h13676.2 (c + 7) (by rw [kC_at (k := 7) (by decide)]; decide))
            have ga13684 := ga13669.of (h13676.2 (c + 8) (by rw [kC_at (k := 8) (by decide)]; decide))
            have ga13685 := ga13670.of (h13676.2 (c + 9) (by rw [kC_at (k := 9) (by decide)]; decide))
            have ga13686 := ga13671.of (h13676.2 (c + 11) (by rw [kC_at (k := 11) (by decide)]; decide))
            have ga13687 := ga13672.of (h13676.2 (c + 3) (by rw [kC_at (k := 3) (by decide)]; decide))
            rcases pr13680 with ⟨e13688, l13690, l13691, ea13692, ⟨so13693, va13694, mt13695, yd13696⟩, rfl⟩ | ⟨e13688, ⟨fa13697, fb13698⟩, rfl⟩ | ⟨e13688, e13689, ⟨fa13697, fb13698⟩, rfl⟩
            · have bk13699 := tok_ok (t := t) (n := n) P13673.a (by omega)
              generalize ek13699 : tok t n P13673.a = k13699 at ea13692 mt13695 yd13696 bk13699
              rw [show P13673.a = k13653.2.2.2 by omega] at ek13699
              have hyd13700 := yd13696
              obtain ⟨yd13700, yd13701, yd13702, yd13703, yd13704, yd13705, yd13706⟩ := hyd13700
              refine r_iast F (g' := (⟨T, Z, u, h, P13679, L⟩ : RG)) (len := 8) (j := 4 + P.n5) e_X10_readLease_133 h13677 (fun _ h => h) (fun f h => ⟨f, rfl, h⟩) (by decide) (by decide) (nI_clamp (by omega)) (vp_in_nI (by omega) (by decide)) ⟨k13653.2.2.1, by omega, rfl⟩ (fun _ _ _ h => h) (fun _ _ _ h => h) (fun σ13707 h13708 g13709 f13710 g13711 => ?_)
              have ga13712 := ga13681.of (g13709 _ (by omega))
              have ga13713 := ga13682.of (g13709 _ (by omega))
              have ga13714 := ga13683.of (g13709 _ (by omega))
              have ga13715 := ga13684.of (g13709 _ (by omega))
              have ga13716 := ga13685.of (g13709 _ (by omega))
              have ga13717 := ga13686.of (g13709 _ (by omega))
              have ga13718 := ga13687.of (g13709 _ (by omega))
              refine m_aload_n F rfl e_X10_readLease_134 ?_
              refine r_get F e_X10_readLease_135 fl_X10_28 h13708 rfl (fun v hv f13719 => ?_)
              obtain rfl : v = .ref (c + 7) := hv
              refine m_iload_n F rfl e_X10_readLease_138 ?_
              refine m_iconst F (v := 0) (by decide) e_X10_readLease_139 ?_
              refine r_iast F (g' := (⟨T, Z, u, h, P13679, L⟩ : RG)) (len := 8) (j := 4 + P.n5) e_X10_readLease_140 h13708 (fun _ h => h) (fun f h => ⟨f, rfl, h⟩) (by decide) (by decide) (nI_clamp (by omega)) (vp_in_nI (by omega) (by decide)) trivial (fun _ _ _ h => h) (fun _ _ _ h => h) (fun σ13720 h13721 g13722 f13723 g13724 => ?_)
              have ga13725 := ga13712.of (g13722 _ (by omega))
              have ga13726 := ga13713.of (g13722 _ (by omega))
              have ga13727 := ga13715.of (g13722 _ (by omega))
              have ga13728 := ga13716.of (g13722 _ (by omega))
              have ga13729 := ga13717.of (g13722 _ (by omega))
              have ga13730 := ga13718.of (g13722 _ (by omega))
              have ga13731 := KR.new ga13714 f13723 g13724
              refine m_aload_n F rfl e_X10_readLease_141 ?_
              refine r_get F e_X10_readLease_142 fl_X10_31 h13721 rfl (fun v hv f13732 => ?_)
              obtain rfl : v = .ref (c + 8) := hv
              refine m_iload_n F rfl e_X10_readLease_145 ?_
              refine m_iconst F (v := 0) (by decide) e_X10_readLease_146 ?_
              refine r_iast F (g' := (⟨T, Z, u, h, P13679, L⟩ : RG)) (len := 8) (j := 4 + P.n5) e_X10_readLease_147 h13721 (fun _ h => h) (fun f h => ⟨f, rfl, h⟩) (by decide) (by decide) (nI_clamp (by omega)) (vp_in_nI (by omega) (by decide)) trivial (fun _ _ _ h => h) (fun _ _ _ h => h) (fun σ13733 h13734 g13735 f13736 g13737 => ?_)
              have ga13738 := ga13725.of (g13735 _ (by omega))
              have ga13739 := ga13726.of (g13735 _ (by omega))
              have ga13740 := ga13728.of (g13735 _ (by omega))
              have ga13741 := ga13729.of (g13735 _ (by omega))
              have ga13742 := ga13730.of (g13735 _ (by omega))
              have ga13743 := ga13731.of (g13735 _ (by omega))
              have ga13744 := FR.new ga13727 f13736 g13737
              refine m_aload_n F rfl e_X10_readLease_148 ?_
              refine r_get F e_X10_readLease_149 fl_X10_34 h13734 rfl (fun v hv f13745 => ?_)
              obtain rfl : v = .ref (c + 9) := hv
              refine m_iload_n F rfl e_X10_readLease_152 ?_
              refine m_iconst F (v := 0) (by decide) e_X10_readLease_153 ?_
              refine r_iast F (g' := (⟨T, Z, u, h, P13679, L⟩ : RG)) (len := 8) (j := 4 + P.n5) e_X10_readLease_154 h13734 (fun _ h => h) (fun f h => ⟨f, rfl, h⟩) (by decide) (by decide) (nI_clamp (by omega)) (vp_in_nI (by omega) (by decide)) trivial (fun _ _ _ h => h) (fun _ _ _ h => h) (fun σ13746 h13747 g13748 f13749 g13750 => ?_)
              have ga13751 := ga13738.of (g13748 _ (by omega))
              have ga13752 := ga13739.of (g13748 _ (by omega))
              have ga13753 := ga13741.of (g13748 _ (by omega))
              have ga13754 := ga13742.of (g13748 _ (by omega))
              have ga13755 := ga13743.of (g13748 _ (by omega))
              have ga13756 := ga13744.of (g13748 _ (by omega))
              have ga13757 := FR.new ga13740 f13749 g13750
              refine m_iconst F (v := 0) (by decide) e_X10_readLease_155 ?_
              refine m_istore_n F (lv' := [(2, .int 0), (1, .int (nI (4 + P.n5))), (0, .ref c)]) e_X10_readLease_156 (by decide) rfl ?_
              refine Wm.lvsub (lv' := [(0, .ref c), (1, .int (nI (4 + P.n5))), (2, .int 0)]) ?_ [2, 1, 0] rfl
              exact lq_X10_readLeaseE_157 F hQ hob hP hp0 hp1 hp2 hp3 hp4 hp5 hp6 hp7 hp8 hp9 hp10 hp11 hp12 hp13 hp14 (48 - 0 + 1) (4 + P.n5) 0 P13679 _ h13747 oP13679 (by unfold RP; omega) ⟨by omega, by omega, by omega, by omega, (by unfold leaseS; dsimp only; rw [if_neg (by omega), ek13486, newK_ok hs13494 e13518, ek13577, numK_ok e13598 l13600 l13601, ek13609, numK_ok e13642 l13644 l13645, ek13653, numK_ok e13688 l13690 l13691, ek13699]; exact RM.r mt13695 ⟨((fld_eq (g13748 _ (by omega))).trans ((fld_eq (g13735 _ (by omega))).trans ((fld_eq (g13722 _ (by omega))).trans ((fld_eq (g13709 _ (by omega))).trans yd13700)))), ((fld_eq (g13748 _ (by omega))).trans ((fld_eq (g13735 _ (by omega))).trans ((fld_eq (g13722 _ (by omega))).trans ((fld_eq (g13709 _ (by omega))).trans yd13701)))), ((fld_eq (g13748 _ (by omega))).trans ((fld_eq (g13735 _ (by omega))).trans ((fld_eq (g13722 _ (by omega))).trans ((fld_eq (g13709 _ (by omega))).trans yd13702)))), ((fld_eq (g13748 _ (by omega))).trans ((fld_eq (g13735 _ (by omega))).trans ((fld_eq (g13722 _ (by omega))).trans ((fld_eq (g13709 _ (by omega))).trans yd13703)))), ((fld_eq (g13748 _ (by omega))).trans ((fld_eq (g13735 _ (by omega))).trans ((fld_eq (g13722 _ (by omega))).trans ((fld_eq (g13709 _ (by omega))).trans yd13704)))), ((fld_eq (g13748 _ (by omega))).trans ((fld_eq (g13735 _ (by omega))).trans ((fld_eq (g13722 _ (by omega))).trans ((fld_eq (g13709 _ (by omega))).trans yd13705)))), ((fld_eq (g13748 _ (by omega))).trans ((fld_eq (g13735 _ (by omega))).trans ((fld_eq (g13722 _ (by omega))).trans ((fld_eq (g13709 _ (by omega))).trans yd13706))))⟩ (by show P13679.a = _; omega) (by show P13679.n5 + 1 = P.n5 + 1; omega) (by show P13679.n7 = P.n7; omega) ga13752 ga13754 ga13755 ga13756 ga13757 ga13753 (by omega) (by omega) (by omega) (by omega) (by omega))⟩ (Nat.lt_succ_self _)
            · have hz9 : True := trivial
              refine r_iast F (g' := (⟨T, Z, u, h, P13679, L⟩ : RG)) (len := 8) (j := 4 + P.n5) e_X10_readLease_133 h13677 (fun _ h => h) (fun f h => ⟨f, rfl, h⟩) (by decide) (by decide) (nI_clamp (by omega)) (vp_in_nI (by omega) (by decide)) ⟨0, by omega, rfl⟩ (fun _ _ _ h => h) (fun _ _ _ h => h) (fun σ13758 h13759 g13760 f13761 g13762 => ?_)
              refine m_aload_n F rfl e_X10_readLease_134 ?_
              refine r_get F e_X10_readLease_135 fl_X10_28 h13759 rfl (fun v hv f13763 => ?_)
              obtain rfl : v = .ref (c + 7) := hv
              refine m_iload_n F rfl e_X10_readLease_138 ?_
              refine m_iconst F (v := 0) (by decide) e_X10_readLease_139 ?_
              refine r_iast F (g' := (⟨T, Z, u, h, P13679, L⟩ : RG)) (len := 8) (j := 4 + P.n5) e_X10_readLease_140 h13759 (fun _ h => h) (fun f h => ⟨f, rfl, h⟩) (by decide) (by decide) (nI_clamp (by omega)) (vp_in_nI (by omega) (by decide)) trivial (fun _ _ _ h => h) (fun _ _ _ h => h) (fun σ13764 h13765 g13766 f13767 g13768 => ?_)
              refine m_aload_n F rfl e_X10_readLease_141 ?_
              refine r_get F e_X10_readLease_142 fl_X10_31 h13765 rfl (fun v hv f13769 => ?_)
              obtain rfl : v = .ref (c + 8) := hv
              refine m_iload_n F rfl e_X10_readLease_145 ?_
              refine m_iconst F (v := 0) (by decide) e_X10_readLease_146 ?_
              refine r_iast F (g' := (⟨T, Z, u, h, P13679, L⟩ : RG)) (len := 8) (j := 4 + P.n5) e_X10_readLease_147 h13765 (fun _ h => h) (fun f h => ⟨f, rfl, h⟩) (by decide) (by decide) (nI_clamp (by omega)) (vp_in_nI (by omega) (by decide)) trivial (fun _ _ _ h => h) (fun _ _ _ h => h) (fun σ13770 h13771 g13772 f13773 g13774 => ?_)
              refine m_aload_n F rfl e_X10_readLease_148 ?_
              refine r_get F e_X10_readLease_149 fl_X10_34 h13771 rfl (fun v hv f13775 => ?_)
              obtain rfl : v = .ref (c + 9) := hv
              refine m_iload_n F rfl e_X10_readLease_152 ?_
              refine m_iconst F (v := 0) (by decide) e_X10_readLease_153 ?_
              refine r_iast F (g' := (⟨T, Z, u, h, P13679, L⟩ : RG)) (len := 8) (j := 4 + P.n5) e_X10_readLease_154 h13771 (fun _ h => h) (fun f h => ⟨f, rfl, h⟩) (by decide) (by decide) (nI_clamp (by omega)) (vp_in_nI (by omega) (by decide)) trivial (fun _ _ _ h => h) (fun _ _ _ h => h) (fun σ13776 h13777 g13778 f13779 g13780 => ?_)
              refine m_iconst F (v := 0) (by decide) e_X10_readLease_155 ?_
              refine m_istore_n F (lv' := [(2, .int 0), (1, .int (nI (4 + P.n5))), (0, .ref c)]) e_X10_readLease_156 (by decide) rfl ?_
              refine Wm.lvsub (lv' := [(0, .ref c), (1, .int (nI (4 + P.n5))), (2, .int 0)]) ?_ [2, 1, 0] rfl
              exact lq_X10_readLeaseE_157 F hQ hob hP hp0 hp1 hp2 hp3 hp4 hp5 hp6 hp7 hp8 hp9 hp10 hp11 hp12 hp13 hp14 (48 - 0 + 1) (4 + P.n5) 0 P13679 _ h13777 oP13679 (by unfold RP; omega) ⟨by omega, by omega, by omega, by omega, (by unfold leaseS; dsimp only; rw [if_neg (by omega), ek13486, newK_ok hs13494 e13518, ek13577, numK_ok e13598 l13600 l13601, ek13609, numK_ok e13642 l13644 l13645, ek13653, numK_1 e13688]; exact RM.l ((fld_eq (g13778 _ (by omega))).trans ((fld_eq (g13772 _ (by omega))).trans ((fld_eq (g13766 _ (by omega))).trans ((fld_eq (g13760 _ (by omega))).trans fa13697)))) ((fld_eq (g13778 _ (by omega))).trans ((fld_eq (g13772 _ (by omega))).trans ((fld_eq (g13766 _ (by omega))).trans ((fld_eq (g13760 _ (by omega))).trans fb13698)))) (by decide) (by decide) (by omega))⟩ (Nat.lt_succ_self _)
            · have hz9 : True := trivial
              refine r_iast F (g' := (⟨T, Z, u, h, P13679, L⟩ : RG)) (len := 8) (j := 4 + P.n5) e_X10_readLease_133 h13677 (fun _ h => h) (fun f h => ⟨f, rfl, h⟩) (by decide) (by decide) (nI_clamp (by omega)) (vp_in_nI (by omega) (by decide)) ⟨0, by omega, rfl⟩ (fun _ _ _ h => h) (fun _ _ _ h => h) (fun σ13781 h13782 g13783 f13784 g13785 => ?_)
              refine m_aload_n F rfl e_X10_readLease_134 ?_
              refine r_get F e_X10_readLease_135 fl_X10_28 h13782 rfl (fun v hv f13786 => ?_)
              obtain rfl : v = .ref (c + 7) := hv
              refine m_iload_n F rfl e_X10_readLease_138 ?_
              refine m_iconst F (v := 0) (by decide) e_X10_readLease_139 ?_
              refine r_iast F (g' := (⟨T, Z, u, h, P13679, L⟩ : RG)) (len := 8) (j := 4 + P.n5) e_X10_readLease_140 h13782 (fun _ h => h) (fun f h => ⟨f, rfl, h⟩) (by decide) (by decide) (nI_clamp (by omega)) (vp_in_nI (by omega) (by decide)) trivial (fun _ _ _ h => h) (fun _ _ _ h => h) (fun σ13787 h13788 g13789 f13790 g13791 => ?_)
              refine m_aload_n F rfl e_X10_readLease_141 ?_
              refine r_get F e_X10_readLease_142 fl_X10_31 h13788 rfl (fun v hv f13792 => ?_)
              obtain rfl : v = .ref (c + 8) := hv
              refine m_iload_n F rfl e_X10_readLease_145 ?_
              refine m_iconst F (v := 0) (by decide) e_X10_readLease_146 ?_
              refine r_iast F (g' := (⟨T, Z, u, h, P13679, L⟩ : RG)) (len := 8) (j := 4 + P.n5) e_X10_readLease_147 h13788 (fun _ h => h) (fun f h => ⟨f, rfl, h⟩) (by decide) (by decide) (nI_clamp (by omega)) (vp_in_nI (by omega) (by decide)) trivial (fun _ _ _ h => h) (fun _ _ _ h => h) (fun σ13793 h13794 g13795 f13796 g13797 => ?_)
              refine m_aload_n F rfl e_X10_readLease_148 ?_
              refine r_get F e_X10_readLease_149 fl_X10_34 h13794 rfl (fun v hv f13798 => ?_)
              obtain rfl : v = .ref (c + 9) := hv
              refine m_iload_n F rfl e_X10_readLease_152 ?_
              refine m_iconst F (v := 0) (by decide) e_X10_readLease_153 ?_
              refine r_iast F (g' := (⟨T, Z, u, h, P13679, L⟩ : RG)) (len := 8) (j := 4 + P.n5) e_X10_readLease_154 h13794 (fun _ h => h) (fun f h => ⟨f, rfl, h⟩) (by decide) (by decide) (nI_clamp (by omega)) (vp_in_nI (by omega) (by decide)) trivial (fun _ _ _ h => h) (fun _ _ _ h => h) (fun σ13799 h13800 g13801 f13802 g13803 => ?_)
              refine m_iconst F (v := 0) (by decide) e_X10_readLease_155 ?_
              refine m_istore_n F (lv' := [(2, .int 0), (1, .int (nI (4 + P.n5))), (0, .ref c)]) e_X10_readLease_156 (by decide) rfl ?_
              refine Wm.lvsub (lv' := [(0, .ref c), (1, .int (nI (4 + P.n5))), (2, .int 0)]) ?_ [2, 1, 0] rfl
              exact lq_X10_readLeaseE_157 F hQ hob hP hp0 hp1 hp2 hp3 hp4 hp5 hp6 hp7 hp8 hp9 hp10 hp11 hp12 hp13 hp14 (48 - 0 + 1) (4 + P.n5) 0 P13679 _ h13800 oP13679 (by unfold RP; omega) ⟨by omega, by omega, by omega, by omega, (by unfold leaseS; dsimp only; rw [if_neg (by omega), ek13486, newK_ok hs13494 e13518, ek13577, numK_ok e13598 l13600 l13601, ek13609, numK_ok e13642 l13644 l13645, ek13653, numK_2 e13688 e13689]; exact RM.l ((fld_eq (g13801 _ (by omega))).trans ((fld_eq (g13795 _ (by omega))).trans ((fld_eq (g13789 _ (by omega))).trans ((fld_eq (g13783 _ (by omega))).trans fa13697)))) ((fld_eq (g13801 _ (by omega))).trans ((fld_eq (g13795 _ (by omega))).trans ((fld_eq (g13789 _ (by omega))).trans ((fld_eq (g13783 _ (by omega))).trans fb13698)))) (by decide) (by decide) (by omega))⟩ (Nat.lt_succ_self _)
          · have hz9 : True := trivial
            refine r_iast F (g' := (⟨T, Z, u, h, (mkP P13633.n0 P13633.n2 P13633.n5 P13633.n7 P13633.m0 (P13633.n5 + 1) P13633.w2 P13633.w7 P13633.kk P13633.a P13633.b0 P13633.b1 P13633.b2 P13633.b3), L⟩ : RG)) (len := 8) (j := 4 + P.n5) e_X10_readLease_120 h13632 (fun _ h => h) (fun f h => ⟨f, rfl, h⟩) (by decide) (by decide) (nI_clamp (by omega)) (vp_in_nI (by omega) (by decide)) ⟨1, by omega, rfl, fun h7 _ => absurd h7 (by omega), fun _ _ => by omega⟩ (fun i hi y hy => by obtain ⟨n9, a9, b9, c9, d9⟩ := hy; exact ⟨n9, a9, b9, c9, fun h7 h8 => d9 h7 (show i < 4 + P13633.m5 by have h6 : i < 4 + (P13633.n5 + 1) := h8; omega)⟩) (CR.chg (by intro k hk i x h; unfold EI at h ⊢; split at h <;> first | exact h | exact absurd rfl hk | trivial) rfl rfl) (fun σ13804 h13805 g13806 f13807 g13808 => ?_)
            obtain ⟨P13809, eP13809⟩ : ∃ P9, P9 = (mkP P13633.n0 P13633.n2 P13633.n5 P13633.n7 P13633.m0 (P13633.n5 + 1) P13633.w2 P13633.w7 P13633.kk P13633.a P13633.b0 P13633.b1 P13633.b2 P13633.b3) := ⟨_, rfl⟩
            rw [← eP13809] at h13805
            have fP13809 : P13809.n0 = P13633.n0 ∧ P13809.n2 = P13633.n2 ∧ P13809.n5 = P13633.n5 ∧ P13809.n7 = P13633.n7 ∧ P13809.m0 = P13633.m0 ∧ P13809.m5 = P13633.n5 + 1 ∧ P13809.w2 = P13633.w2 ∧ P13809.w7 = P13633.w7 ∧ P13809.kk = P13633.kk ∧ P13809.a = P13633.a ∧ P13809.b0 = P13633.b0 ∧ P13809.b1 = P13633.b1 ∧ P13809.b2 = P13633.b2 ∧ P13809.b3 = P13633.b3 := by rw [eP13809]; exact ⟨rfl, rfl, rfl, rfl, rfl, rfl, rfl, rfl, rfl, rfl, rfl, rfl, rfl, rfl⟩
            refine m_aload_n F rfl e_X10_readLease_121 ?_
            refine r_get F e_X10_readLease_122 fl_X10_25 h13805 rfl (fun v hv f13810 => ?_)
            obtain rfl : v = .ref (c + 6) := hv
            refine m_iload_n F rfl e_X10_readLease_125 ?_
            refine m_aload_n F rfl e_X10_readLease_126 ?_
            refine m_iconst F (v := 0) (by decide) e_X10_readLease_127 ?_
            refine m_ldc F kc_X10_169 e_X10_readLease_128 ?_
            have oP13814 : OKP P13809 := by unfold OKP; omega
            refine r_callV F e_X10_readLease_130 (q_X10_numeralG (x_l X) V c T Z u h P13809 L _ _ 0 200000 1 h13805.1 (hob) oP13814 (by omega) (by omega) ((fld_eq (g13806 _ (by omega))).trans fa13651) (by decide)) cb_X10_numeral ml_X10_165 im_X10_numeral se_X10_numeral h13805 rfl rfl (rest := [.int (nI (4 + P.n5)), .ref (c + 6)]) rfl (Nat.le_of_ble_eq_true rfl) ⟨Nat.le_of_ble_eq_true rfl, Nat.le_of_ble_eq_true rfl⟩ ⟨Nat.le_of_ble_eq_true rfl, Nat.le_of_ble_eq_true rfl⟩ (fun r σ13811 hp => ?_)
            obtain ⟨h13812, hp⟩ := hp
            have h13813 := HS.trans h13805 h13812 (by decide)
            obtain ⟨rfl, rfl⟩ := hp
            refine r_iast F (g' := (⟨T, Z, u, h, P13809, L⟩ : RG)) (len := 8) (j := 4 + P.n5) e_X10_readLease_133 h13813 (fun _ h => h) (fun f h => ⟨f, rfl, h⟩) (by decide) (by decide) (nI_clamp (by omega)) (vp_in_nI (by omega) (by decide)) ⟨0, by omega, rfl⟩ (fun _ _ _ h => h) (fun _ _ _ h => h) (fun σ13815 h13816 g13817 f13818 g13819 => ?_)
            refine m_aload_n F rfl e_X10_readLease_134 ?_
            refine r_get F e_X10_readLease_135 fl_X10_28 h13816 rfl (fun v hv f13820 => ?_)
            obtain rfl : v = .ref (c + 7) := hv
            refine m_iload_n F rfl e_X10_readLease_138 ?_
            refine m_iconst F (v := 0) (by decide) e_X10_readLease_139 ?_
            refine r_iast F (g' := (⟨T, Z, u, h, P13809, L⟩ : RG)) (len := 8) (j := 4 + P.n5) e_X10_readLease_140 h13816 (fun _ h => h) (fun f h => ⟨f, rfl, h⟩) (by decide) (by decide) (nI_clamp (by omega)) (vp_in_nI (by omega) (by decide)) trivial (fun _ _ _ h => h) (fun _ _ _ h => h) (fun σ13821 h13822 g13823 f13824 g13825 => ?_)
            refine m_aload_n F rfl e_X10_readLease_141 ?_
            refine r_get F e_X10_readLease_142 fl_X10_31 h13822 rfl (fun v hv f13826 => ?_)
            obtain rfl : v = .ref (c + 8) := hv
            refine m_iload_n F rfl e_X10_readLease_145 ?_
            refine m_iconst F (v := 0) (by decide) e_X10_readLease_146 ?_
            refine r_iast F (g' := (⟨T, Z, u, h, P13809, L⟩ : RG)) (len := 8) (j := 4 + P.n5) e_X10_readLease_147 h13822 (fun _ h => h) (fun f h => ⟨f, rfl, h⟩) (by decide) (by decide) (nI_clamp (by omega)) (vp_in_nI (by omega) (by decide)) trivial (fun _ _ _ h => h) (fun _ _ _ h => h) (fun σ13827 h13828 g13829 f13830 g13831 => ?_)
            refine m_aload_n F rfl e_X10_readLease_148 ?_
            refine r_get F e_X10_readLease_149 fl_X10_34 h13828 rfl (fun v hv f13832 => ?_)
            obtain rfl : v = .ref (c + 9) := hv
            refine m_iload_n F rfl e_X10_readLease_152 ?_
            refine m_iconst F (v := 0) (by decide) e_X10_readLease_153 ?_
            refine r_iast F (g' := (⟨T, Z, u, h, P13809, L⟩ : RG)) (len := 8) (j := 4 + P.n5) e_X10_readLease_154 h13828 (fun _ h => h) (fun f h => ⟨f, rfl, h⟩) (by decide) (by decide) (nI_clamp (by omega)) (vp_in_nI (by omega) (by decide)) trivial (fun _ _ _ h => h) (fun _ _ _ h => h) (fun σ13833 h13834 g13835 f13836 g13837 => ?_)
            refine m_iconst F (v := 0) (by decide) e_X10_readLease_155 ?_
            refine m_istore_n F (lv' := [(2, .int 0), (1, .int (nI (4 + P.n5))), (0, .ref c)]) e_X10_readLease_156 (by decide) rfl ?_
            refine Wm.lvsub (lv' := [(0, .ref c), (1, .int (nI (4 + P.n5))), (2, .int 0)]) ?_ [2, 1, 0] rfl
            exact lq_X10_readLeaseE_157 F hQ hob hP hp0 hp1 hp2 hp3 hp4 hp5 hp6 hp7 hp8 hp9 hp10 hp11 hp12 hp13 hp14 (48 - 0 + 1) (4 + P.n5) 0 P13809 _ h13834 oP13814 (by unfold RP; omega) ⟨by omega, by omega, by omega, by omega, (by unfold leaseS; dsimp only; rw [if_neg (by omega), ek13486, newK_ok hs13494 e13518, ek13577, numK_ok e13598 l13600 l13601, ek13609, numK_1 e13642]; exact RM.l ((fld_eq (g13835 _ (by omega))).trans ((fld_eq (g13829 _ (by omega))).trans ((fld_eq (g13823 _ (by omega))).trans ((fld_eq (g13817 _ (by omega))).trans ((fld_eq (g13806 _ (by omega))).trans fa13651))))) ((fld_eq (g13835 _ (by omega))).trans ((fld_eq (g13829 _ (by omega))).trans ((fld_eq (g13823 _ (by omega))).trans ((fld_eq (g13817 _ (by omega))).trans ((fld_eq (g13806 _ (by omega))).trans fb13652))))) (by decide) (by decide) (by omega))⟩ (Nat.lt_succ_self _)
          · have hz9 : True := trivial
            refine r_iast F (g' := (⟨T, Z, u, h, (mkP P13633.n0 P13633.n2 P13633.n5 P13633.n7 P13633.m0 (P13633.n5 + 1) P13633.w2 P13633.w7 P13633.kk P13633.a P13633.b0 P13633.b1 P13633.b2 P13633.b3), L⟩ : RG)) (len := 8) (j := 4 + P.n5) e_X10_readLease_120 h13632 (fun _ h => h) (fun f h => ⟨f, rfl, h⟩) (by decide) (by decide) (nI_clamp (by omega)) (vp_in_nI (by omega) (by decide)) ⟨1, by omega, rfl, fun h7 _ => absurd h7 (by omega), fun _ _ => by omega⟩ (fun i hi y hy => by obtain ⟨n9, a9, b9, c9, d9⟩ := hy; exact ⟨n9, a9, b9, c9, fun h7 h8 => d9 h7 (show i < 4 + P13633.m5 by have h6 : i < 4 + (P13633.n5 + 1) := h8; omega)⟩) (CR.chg (by intro k hk i x h; unfold EI at h ⊢; split at h <;> first | exact h | exact absurd rfl hk | trivial) rfl rfl) (fun σ13838 h13839 g13840 f13841 g13842 => ?_)
            obtain ⟨P13843, eP13843⟩ : ∃ P9, P9 = (mkP P13633.n0 P13633.n2 P13633.n5 P13633.n7 P13633.m0 (P13633.n5 + 1) P13633.w2 P13633.w7 P13633.kk P13633.a P13633.b0 P13633.b1 P13633.b2 P13633.b3) := ⟨_, rfl⟩
            rw [← eP13843] at h13839
            have fP13843 : P13843.n0 = P13633.n0 ∧ P13843.n2 = P13633.n2 ∧ P13843.n5 = P13633.n5 ∧ P13843.n7 = P13633.n7 ∧ P13843.m0 = P13633.m0 ∧ P13843.m5 = P13633.n5 + 1 ∧ P13843.w2 = P13633.w2 ∧ P13843.w7 = P13633.w7 ∧ P13843.kk = P13633.kk ∧ P13843.a = P13633.a ∧ P13843.b0 = P13633.b0 ∧ P13843.b1 = P13633.b1 ∧ P13843.b2 = P13633.b2 ∧ P13843.b3 = P13633.b3 := by rw [eP13843]; exact ⟨rfl, rfl, rfl, rfl, rfl, rfl, rfl, rfl, rfl, rfl, rfl, rfl, rfl, rfl⟩
            refine m_aload_n F rfl e_X10_readLease_121 ?_
            refine r_get F e_X10_readLease_122 fl_X10_25 h13839 rfl (fun v hv f13844 => ?_)
            obtain rfl : v = .ref (c + 6) := hv
            refine m_iload_n F rfl e_X10_readLease_125 ?_
            refine m_aload_n F rfl e_X10_readLease_126 ?_
            refine m_iconst F (v := 0) (by decide) e_X10_readLease_127 ?_
            refine m_ldc F kc_X10_169 e_X10_readLease_128 ?_
            have oP13848 : OKP P13843 := by unfold OKP; omega
            refine r_callV F e_X10_readLease_130 (q_X10_numeralG (x_l X) V c T Z u h P13843 L _ _ 0 200000 2 h13839.1 (hob) oP13848 (by omega) (by omega) ((fld_eq (g13840 _ (by omega))).trans fa13651) (by decide)) cb_X10_numeral ml_X10_165 im_X10_numeral se_X10_numeral h13839 rfl rfl (rest := [.int (nI (4 + P.n5)), .ref (c + 6)]) rfl (Nat.le_of_ble_eq_true rfl) ⟨Nat.le_of_ble_eq_true rfl, Nat.le_of_ble_eq_true rfl⟩ ⟨Nat.le_of_ble_eq_true rfl, Nat.le_of_ble_eq_true rfl⟩ (fun r σ13845 hp => ?_)
            obtain ⟨h13846, hp⟩ := hp
            have h13847 := HS.trans h13839 h13846 (by decide)
            obtain ⟨rfl, rfl⟩ := hp
            refine r_iast F (g' := (⟨T, Z, u, h, P13843, L⟩ : RG)) (len := 8) (j := 4 + P.n5) e_X10_readLease_133 h13847 (fun _ h => h) (fun f h => ⟨f, rfl, h⟩) (by decide) (by decide) (nI_clamp (by omega)) (vp_in_nI (by omega) (by decide)) ⟨0, by omega, rfl⟩ (fun _ _ _ h => h) (fun _ _ _ h => h) (fun σ13849 h13850 g13851 f13852 g13853 => ?_)
            refine m_aload_n F rfl e_X10_readLease_134 ?_
            refine r_get F e_X10_readLease_135 fl_X10_28 h13850 rfl (fun v hv f13854 => ?_)
            obtain rfl : v = .ref (c + 7) := hv
            refine m_iload_n F rfl e_X10_readLease_138 ?_
            refine m_iconst F (v := 0) (by decide) e_X10_readLease_139 ?_
            refine r_iast F (g' := (⟨T, Z, u, h, P13843, L⟩ : RG)) (len := 8) (j := 4 + P.n5) e_X10_readLease_140 h13850 (fun _ h => h) (fun f h => ⟨f, rfl, h⟩) (by decide) (by decide) (nI_clamp (by omega)) (vp_in_nI (by omega) (by decide)) trivial (fun _ _ _ h => h) (fun _ _ _ h => h) (fun σ13855 h13856 g13857 f13858 g13859 => ?_)
            refine m_aload_n F rfl e_X10_readLease_141 ?_
            refine r_get F e_X10_readLease_142 fl_X10_31 h13856 rfl (fun v hv f13860 => ?_)
            obtain rfl : v = .ref (c + 8) := hv
            refine m_iload_n F rfl e_X10_readLease_145 ?_
            refine m_iconst F (v := 0) (by decide) e_X10_readLease_146 ?_
            refine r_iast F (g' := (⟨T, Z, u, h, P13843, L⟩ : RG)) (len := 8) (j := 4 + P.n5) e_X10_readLease_147 h13856 (fun _ h => h) (fun f h => ⟨f, rfl, h⟩) (by decide) (by decide) (nI_clamp (by omega)) (vp_in_nI (by omega) (by decide)) trivial (fun _ _ _ h => h) (fun _ _ _ h => h) (fun σ13861 h13862 g13863 f13864 g13865 => ?_)
            refine m_aload_n F rfl e_X10_readLease_148 ?_
            refine r_get F e_X10_readLease_149 fl_X10_34 h13862 rfl (fun v hv f13866 => ?_)
            obtain rfl : v = .ref (c + 9) := hv
            refine m_iload_n F rfl e_X10_readLease_152 ?_
            refine m_iconst F (v := 0) (by decide) e_X10_readLease_153 ?_
            refine r_iast F (g' := (⟨T, Z, u, h, P13843, L⟩ : RG)) (len := 8) (j := 4 + P.n5) e_X10_readLease_154 h13862 (fun _ h => h) (fun f h => ⟨f, rfl, h⟩) (by decide) (by decide) (nI_clamp (by omega)) (vp_in_nI (by omega) (by decide)) trivial (fun _ _ _ h => h) (fun _ _ _ h => h) (fun σ13867 h13868 g13869 f13870 g13871 => ?_)
            refine m_iconst F (v := 0) (by decide) e_X10_readLease_155 ?_
            refine m_istore_n F (lv' := [(2, .int 0), (1, .int (nI (4 + P.n5))), (0, .ref c)]) e_X10_readLease_156 (by decide) rfl ?_
            refine Wm.lvsub (lv' := [(0, .ref c), (1, .int (nI (4 + P.n5))), (2, .int 0)]) ?_ [2, 1, 0] rfl
            exact lq_X10_readLeaseE_157 F hQ hob hP hp0 hp1 hp2 hp3 hp4 hp5 hp6 hp7 hp8 hp9 hp10 hp11 hp12 hp13 hp14 (48 - 0 + 1) (4 + P.n5) 0 P13843 _ h13868 oP13848 (by unfold RP; omega) ⟨by omega, by omega, by omega, by omega, (by unfold leaseS; dsimp only; rw [if_neg (by omega), ek13486, newK_ok hs13494 e13518, ek13577, numK_ok e13598 l13600 l13601, ek13609, numK_2 e13642 e13643]; exact RM.l ((fld_eq (g13869 _ (by omega))).trans ((fld_eq (g13863 _ (by omega))).trans ((fld_eq (g13857 _ (by omega))).trans ((fld_eq (g13851 _ (by omega))).trans ((fld_eq (g13840 _ (by omega))).trans fa13651))))) ((fld_eq (g13869 _ (by omega))).trans ((fld_eq (g13863 _ (by omega))).trans ((fld_eq (g13857 _ (by omega))).trans ((fld_eq (g13851 _ (by omega))).trans ((fld_eq (g13840 _ (by omega))).trans fb13652))))) (by decide) (by decide) (by omega))⟩ (Nat.lt_succ_self _)
        · have hz9 : True := trivial
          refine r_iast F (g' := (⟨T, Z, u, h, P13589, L⟩ : RG)) (len := 8) (j := 4 + P.n5) e_X10_readLease_107 h13588 (fun _ h => h) (fun f h => ⟨f, rfl, h⟩) (by decide) (by decide) (nI_clamp (by omega)) (vp_in_nI (by omega) (by decide)) trivial (fun _ _ _ h => h) (fun _ _ _ h => h) (fun σ13872 h13873 g13874 f13875 g13876 => ?_)
          refine m_aload_n F rfl e_X10_readLease_108 ?_
          refine r_get F e_X10_readLease_109 fl_X10_22 h13873 rfl (fun v hv f13877 => ?_)
          obtain rfl : v = .ref (c + 5) := hv
          refine m_iload_n F rfl e_X10_readLease_112 ?_
          refine m_aload_n F rfl e_X10_readLease_113 ?_
          refine m_iconst F (v := 1) (by decide) e_X10_readLease_114 ?_
          refine m_bipush F (v := 48) (by decide) e_X10_readLease_115 ?_
          refine r_callV F e_X10_readLease_117 (q_X10_numeralG (x_l X) V c T Z u h P13589 L _ _ 1 48 1 h13873.1 (hob) oP13589 (by omega) (by omega) ((fld_eq (g13874 _ (by omega))).trans fa13607) (by decide)) cb_X10_numeral ml_X10_165 im_X10_numeral se_X10_numeral h13873 rfl rfl (rest := [.int (nI (4 + P.n5)), .ref (c + 5)]) rfl (Nat.le_of_ble_eq_true rfl) ⟨Nat.le_of_ble_eq_true rfl, Nat.le_of_ble_eq_true rfl⟩ ⟨Nat.le_of_ble_eq_true rfl, Nat.le_of_ble_eq_true rfl⟩ (fun r σ13878 hp => ?_)
          obtain ⟨h13879, hp⟩ := hp
          have h13880 := HS.trans h13873 h13879 (by decide)
          obtain ⟨rfl, rfl⟩ := hp
          refine r_iast F (g' := (⟨T, Z, u, h, (mkP P13589.n0 P13589.n2 P13589.n5 P13589.n7 P13589.m0 (P13589.n5 + 1) P13589.w2 P13589.w7 P13589.kk P13589.a P13589.b0 P13589.b1 P13589.b2 P13589.b3), L⟩ : RG)) (len := 8) (j := 4 + P.n5) e_X10_readLease_120 h13880 (fun _ h => h) (fun f h => ⟨f, rfl, h⟩) (by decide) (by decide) (nI_clamp (by omega)) (vp_in_nI (by omega) (by decide)) ⟨1, by omega, rfl, fun h7 _ => absurd h7 (by omega), fun _ _ => by omega⟩ (fun i hi y hy => by obtain ⟨n9, a9, b9, c9, d9⟩ := hy; exact ⟨n9, a9, b9, c9, fun h7 h8 => d9 h7 (show i < 4 + P13589.m5 by have h6 : i < 4 + (P13589.n5 + 1) := h8; omega)⟩) (CR.chg (by intro k hk i x h; unfold EI at h ⊢; split at h <;> first | exact h | exact absurd rfl hk | trivial) rfl rfl) (fun σ13881 h13882 g13883 f13884 g13885 => ?_)
          obtain ⟨P13886, eP13886⟩ : ∃ P9, P9 = (mkP P13589.n0 P13589.n2 P13589.n5 P13589.n7 P13589.m0 (P13589.n5 + 1) P13589.w2 P13589.w7 P13589.kk P13589.a P13589.b0 P13589.b1 P13589.b2 P13589.b3) := ⟨_, rfl⟩
          rw [← eP13886] at h13882
          have fP13886 : P13886.n0 = P13589.n0 ∧ P13886.n2 = P13589.n2 ∧ P13886.n5 = P13589.n5 ∧ P13886.n7 = P13589.n7 ∧ P13886.m0 = P13589.m0 ∧ P13886.m5 = P13589.n5 + 1 ∧ P13886.w2 = P13589.w2 ∧ P13886.w7 = P13589.w7 ∧ P13886.kk = P13589.kk ∧ P13886.a = P13589.a ∧ P13886.b0 = P13589.b0 ∧ P13886.b1 = P13589.b1 ∧ P13886.b2 = P13589.b2 ∧ P13886.b3 = P13589.b3 := by rw [eP13886]; exact ⟨rfl, rfl, rfl, rfl, rfl, rfl, rfl, rfl, rfl, rfl, rfl, rfl, rfl, rfl⟩
          refine m_aload_n F rfl e_X10_readLease_121 ?_
          refine r_get F e_X10_readLease_122 fl_X10_25 h13882 rfl (fun v hv f13887 => ?_)
          obtain rfl : v = .ref (c + 6) := hv
          refine m_iload_n F rfl e_X10_readLease_125 ?_
          refine m_aload_n F rfl e_X10_readLease_126 ?_
          refine m_iconst F (v := 0) (by decide) e_X10_readLease_127 ?_
          refine m_ldc F kc_X10_169 e_X10_readLease_128 ?_
          have oP13891 : OKP P13886 := by unfold OKP; omega
          refine r_callV F e_X10_readLease_130 (q_X10_numeralG (x_l X) V c T Z u h P13886 L _ _ 0 200000 1 h13882.1 (hob) oP13891 (by omega) (by omega) ((fld_eq (g13883 _ (by omega))).trans ((fld_eq (g13874 _ (by omega))).trans fa13607)) (by decide)) cb_X10_numeral ml_X10_165 im_X10_numeral se_X10_numeral h13882 rfl rfl (rest := [.int (nI (4 + P.n5)), .ref (c + 6)]) rfl (Nat.le_of_ble_eq_true rfl) ⟨Nat.le_of_ble_eq_true rfl, Nat.le_of_ble_eq_true rfl⟩ ⟨Nat.le_of_ble_eq_true rfl, Nat.le_of_ble_eq_true rfl⟩ (fun r σ13888 hp => ?_)
          obtain ⟨h13889, hp⟩ := hp
          have h13890 := HS.trans h13882 h13889 (by decide)
          obtain ⟨rfl, rfl⟩ := hp
          refine r_iast F (g' := (⟨T, Z, u, h, P13886, L⟩ : RG)) (len := 8) (j := 4 + P.n5) e_X10_readLease_133 h13890 (fun _ h => h) (fun f h => ⟨f, rfl, h⟩) (by decide) (by decide) (nI_clamp (by omega)) (vp_in_nI (by omega) (by decide)) ⟨0, by omega, rfl⟩ (fun _ _ _ h => h) (fun _ _ _ h => h) (fun σ13892 h13893 g13894 f13895 g13896 => ?_)
          refine m_aload_n F rfl e_X10_readLease_134 ?_
          refine r_get F e_X10_readLease_135 fl_X10_28 h13893 rfl (fun v hv f13897 => ?_)
          obtain rfl : v = .ref (c + 7) := hv
          refine m_iload_n F rfl e_X10_readLease_138 ?_
          refine m_iconst F (v := 0) (by decide) e_X10_readLease_139 ?_
          refine r_iast F (g' := (⟨T, Z, u, h, P13886, L⟩ : RG)) (len := 8) (j := 4 + P.n5) e_X10_readLease_140 h13893 (fun _ h => h) (fun f h => ⟨f, rfl, h⟩) (by decide) (by decide) (nI_clamp (by omega)) (vp_in_nI (by omega) (by decide)) trivial (fun _ _ _ h => h) (fun _ _ _ h => h) (fun σ13898 h13899 g13900 f13901 g13902 => ?_)
          refine m_aload_n F rfl e_X10_readLease_141 ?_
          refine r_get F e_X10_readLease_142 fl_X10_31 h13899 rfl (fun v hv f13903 => ?_)
          obtain rfl : v = .ref (c + 8) := hv
          refine m_iload_n F rfl e_X10_readLease_145 ?_
          refine m_iconst F (v := 0) (by decide) e_X10_readLease_146 ?_
          refine r_iast F (g' := (⟨T, Z, u, h, P13886, L⟩ : RG)) (len := 8) (j := 4 + P.n5) e_X10_readLease_147 h13899 (fun _ h => h) (fun f h => ⟨f, rfl, h⟩) (by decide) (by decide) (nI_clamp (by omega)) (vp_in_nI (by omega) (by decide)) trivial (fun _ _ _ h => h) (fun _ _ _ h => h) (fun σ13904 h13905 g13906 f13907 g13908 => ?_)
          refine m_aload_n F rfl e_X10_readLease_148 ?_
          refine r_get F e_X10_readLease_149 fl_X10_34 h13905 rfl (fun v hv f13909 => ?_)
          obtain rfl : v = .ref (c + 9) := hv
          refine m_iload_n F rfl e_X10_readLease_152 ?_
          refine m_iconst F (v := 0) (by decide) e_X10_readLease_153 ?_
          refine r_iast F (g' := (⟨T, Z, u, h, P13886, L⟩ : RG)) (len := 8) (j := 4 + P.n5) e_X10_readLease_154 h13905 (fun _ h => h) (fun f h => ⟨f, rfl, h⟩) (by decide) (by decide) (nI_clamp (by omega)) (vp_in_nI (by omega) (by decide)) trivial (fun _ _ _ h => h) (fun _ _ _ h => h) (fun σ13910 h13911 g13912 f13913 g13914 => ?_)
          refine m_iconst F (v := 0) (by decide) e_X10_readLease_155 ?_
          refine m_istore_n F (lv' := [(2, .int 0), (1, .int (nI (4 + P.n5))), (0, .ref c)]) e_X10_readLease_156 (by decide) rfl ?_
          refine Wm.lvsub (lv' := [(0, .ref c), (1, .int (nI (4 + P.n5))), (2, .int 0)]) ?_ [2, 1, 0] rfl
          exact lq_X10_readLeaseE_157 F hQ hob hP hp0 hp1 hp2 hp3 hp4 hp5 hp6 hp7 hp8 hp9 hp10 hp11 hp12 hp13 hp14 (48 - 0 + 1) (4 + P.n5) 0 P13886 _ h13911 oP13891 (by unfold RP; omega) ⟨by omega, by omega, by omega, by omega, (by unfold leaseS; dsimp only; rw [if_neg (by omega), ek13486, newK_ok hs13494 e13518, ek13577, numK_1 e13598]; exact RM.l ((fld_eq (g13912 _ (by omega))).trans ((fld_eq (g13906 _ (by omega))).trans ((fld_eq (g13900 _ (by omega))).trans ((fld_eq (g13894 _ (by omega))).trans ((fld_eq (g13883 _ (by omega))).trans ((fld_eq (g13874 _ (by omega))).trans fa13607)))))) ((fld_eq (g13912 _ (by omega))).trans ((fld_eq (g13906 _ (by omega))).trans ((fld_eq (g13900 _ (by omega))).trans ((fld_eq (g13894 _ (by omega))).trans ((fld_eq (g13883 _ (by omega))).trans ((fld_eq (g13874 _ (by omega))).trans fb13608)))))) (by decide) (by decide) (by omega))⟩ (Nat.lt_succ_self _)
        · have hz9 : True := trivial
          refine r_iast F (g' := (⟨T, Z, u, h, P13589, L⟩ : RG)) (len := 8) (j := 4 + P.n5) e_X10_readLease_107 h13588 (fun _ h => h) (fun f h => ⟨f, rfl, h⟩) (by decide) (by decide) (nI_clamp (by omega)) (vp_in_nI (by omega) (by decide)) trivial (fun _ _ _ h => h) (fun _ _ _ h => h) (fun σ13915 h13916 g13917 f13918 g13919 => ?_)
          refine m_aload_n F rfl e_X10_readLease_108 ?_
          refine r_get F e_X10_readLease_109 fl_X10_22 h13916 rfl (fun v hv f13920 => ?_)
          obtain rfl : v = .ref (c + 5) := hv
          refine m_iload_n F rfl e_X10_readLease_112 ?_
          refine m_aload_n F rfl e_X10_readLease_113 ?_
          refine m_iconst F (v := 1) (by decide) e_X10_readLease_114 ?_
          refine m_bipush F (v := 48) (by decide) e_X10_readLease_115 ?_
          refine r_callV F e_X10_readLease_117 (q_X10_numeralG (x_l X) V c T Z u h P13589 L _ _ 1 48 2 h13916.1 (hob) oP13589 (by omega) (by omega) ((fld_eq (g13917 _ (by omega))).trans fa13607) (by decide)) cb_X10_numeral ml_X10_165 im_X10_numeral se_X10_numeral h13916 rfl rfl (rest := [.int (nI (4 + P.n5)), .ref (c + 5)]) rfl (Nat.le_of_ble_eq_true rfl) ⟨Nat.le_of_ble_eq_true rfl, Nat.le_of_ble_eq_true rfl⟩ ⟨Nat.le_of_ble_eq_true rfl, Nat.le_of_ble_eq_true rfl⟩ (fun r σ13921 hp => ?_)
          obtain ⟨h13922, hp⟩ := hp
          have h13923 := HS.trans h13916 h13922 (by decide)
          obtain ⟨rfl, rfl⟩ := hp
          refine r_iast F (g' := (⟨T, Z, u, h, (mkP P13589.n0 P13589.n2 P13589.n5 P13589.n7 P13589.m0 (P13589.n5 + 1) P13589.w2 P13589.w7 P13589.kk P13589.a P13589.b0 P13589.b1 P13589.b2 P13589.b3), L⟩ : RG)) (len := 8) (j := 4 + P.n5) e_X10_readLease_120 h13923 (fun _ h => h) (fun f h => ⟨f, rfl, h⟩) (by decide) (by decide) (nI_clamp (by omega)) (vp_in_nI (by omega) (by decide)) ⟨1, by omega, rfl, fun h7 _ => absurd h7 (by omega), fun _ _ => by omega⟩ (fun i hi y hy => by obtain ⟨n9, a9, b9, c9, d9⟩ := hy; exact ⟨n9, a9, b9, c9, fun h7 h8 => d9 h7 (show i < 4 + P13589.m5 by have h6 : i < 4 + (P13589.n5 + 1) := h8; omega)⟩) (CR.chg (by intro k hk i x h; unfold EI at h ⊢; split at h <;> first | exact h | exact absurd rfl hk | trivial) rfl rfl) (fun σ13924 h13925 g13926 f13927 g13928 => ?_)
          obtain ⟨P13929, eP13929⟩ : ∃ P9, P9 = (mkP P13589.n0 P13589.n2 P13589.n5 P13589.n7 P13589.m0 (P13589.n5 + 1) P13589.w2 P13589.w7 P13589.kk P13589.a P13589.b0 P13589.b1 P13589.b2 P13589.b3) := ⟨_, rfl⟩
          rw [← eP13929] at h13925
          have fP13929 : P13929.n0 = P13589.n0 ∧ P13929.n2 = P13589.n2 ∧ P13929.n5 = P13589.n5 ∧ P13929.n7 = P13589.n7 ∧ P13929.m0 = P13589.m0 ∧ P13929.m5 = P13589.n5 + 1 ∧ P13929.w2 = P13589.w2 ∧ P13929.w7 = P13589.w7 ∧ P13929.kk = P13589.kk ∧ P13929.a = P13589.a ∧ P13929.b0 = P13589.b0 ∧ P13929.b1 = P13589.b1 ∧ P13929.b2 = P13589.b2 ∧ P13929.b3 = P13589.b3 := by rw [eP13929]; exact ⟨rfl, rfl, rfl, rfl, rfl, rfl, rfl, rfl, rfl, rfl, rfl, rfl, rfl, rfl⟩
          refine m_aload_n F rfl e_X10_readLease_121 ?_
          refine r_get F e_X10_readLease_122 fl_X10_25 h13925 rfl (fun v hv f13930 => ?_)
          obtain rfl : v = .ref (c + 6) := hv
          refine m_iload_n F rfl e_X10_readLease_125 ?_
          refine m_aload_n F rfl e_X10_readLease_126 ?_
          refine m_iconst F (v := 0) (by decide) e_X10_readLease_127 ?_
          refine m_ldc F kc_X10_169 e_X10_readLease_128 ?_
          have oP13934 : OKP P13929 := by unfold OKP; omega
          refine r_callV F e_X10_readLease_130 (q_X10_numeralG (x_l X) V c T Z u h P13929 L _ _ 0 200000 2 h13925.1 (hob) oP13934 (by omega) (by omega) ((fld_eq (g13926 _ (by omega))).trans ((fld_eq (g13917 _ (by omega))).trans fa13607)) (by decide)) cb_X10_numeral ml_X10_165 im_X10_numeral se_X10_numeral h13925 rfl rfl (rest := [.int (nI (4 + P.n5)), .ref (c + 6)]) rfl (Nat.le_of_ble_eq_true rfl) ⟨Nat.le_of_ble_eq_true rfl, Nat.le_of_ble_eq_true rfl⟩ ⟨Nat.le_of_ble_eq_true rfl, Nat.le_of_ble_eq_true rfl⟩ (fun r σ13931 hp => ?_)
          obtain ⟨h13932, hp⟩ := hp
          have h13933 := HS.trans h13925 h13932 (by decide)
          obtain ⟨rfl, rfl⟩ := hp
          refine r_iast F (g' := (⟨T, Z, u, h, P13929, L⟩ : RG)) (len := 8) (j := 4 + P.n5) e_X10_readLease_133 h13933 (fun _ h => h) (fun f h => ⟨f, rfl, h⟩) (by decide) (by decide) (nI_clamp (by omega)) (vp_in_nI (by omega) (by decide)) ⟨0, by omega, rfl⟩ (fun _ _ _ h => h) (fun _ _ _ h => h) (fun σ13935 h13936 g13937 f13938 g13939 => ?_)
          refine m_aload_n F rfl e_X10_readLease_134 ?_
          refine r_get F e_X10_readLease_135 fl_X10_28 h13936 rfl (fun v hv f13940 => ?_)
          obtain rfl : v = .ref (c + 7) := hv
          refine m_iload_n F rfl e_X10_readLease_138 ?_
          refine m_iconst F (v := 0) (by decide) e_X10_readLease_139 ?_
          refine r_iast F (g' := (⟨T, Z, u, h, P13929, L⟩ : RG)) (len := 8) (j := 4 + P.n5) e_X10_readLease_140 h13936 (fun _ h => h) (fun f h => ⟨f, rfl, h⟩) (by decide) (by decide) (nI_clamp (by omega)) (vp_in_nI (by omega) (by decide)) trivial (fun _ _ _ h => h) (fun _ _ _ h => h) (fun σ13941 h13942 g13943 f13944 g13945 => ?_)
          refine m_aload_n F rfl e_X10_readLease_141 ?_
          refine r_get F e_X10_readLease_142 fl_X10_31 h13942 rfl (fun v hv f13946 => ?_)
          obtain rfl : v = .ref (c + 8) := hv
          refine m_iload_n F rfl e_X10_readLease_145 ?_
          refine m_iconst F (v := 0) (by decide) e_X10_readLease_146 ?_
          refine r_iast F (g' := (⟨T, Z, u, h, P13929, L⟩ : RG)) (len := 8) (j := 4 + P.n5) e_X10_readLease_147 h13942 (fun _ h => h) (fun f h => ⟨f, rfl, h⟩) (by decide) (by decide) (nI_clamp (by omega)) (vp_in_nI (by omega) (by decide)) trivial (fun _ _ _ h => h) (fun _ _ _ h => h) (fun σ13947 h13948 g13949 f13950 g13951 => ?_)
          refine m_aload_n F rfl e_X10_readLease_148 ?_
          refine r_get F e_X10_readLease_149 fl_X10_34 h13948 rfl (fun v hv f13952 => ?_)
          obtain rfl : v = .ref (c + 9) := hv
          refine m_iload_n F rfl e_X10_readLease_152 ?_
          refine m_iconst F (v := 0) (by decide) e_X10_readLease_153 ?_
          refine r_iast F (g' := (⟨T, Z, u, h, P13929, L⟩ : RG)) (len := 8) (j := 4 + P.n5) e_X10_readLease_154 h13948 (fun _ h => h) (fun f h => ⟨f, rfl, h⟩) (by decide) (by decide) (nI_clamp (by omega)) (vp_in_nI (by omega) (by decide)) trivial (fun _ _ _ h => h) (fun _ _ _ h => h) (fun σ13953 h13954 g13955 f13956 g13957 => ?_)
          refine m_iconst F (v := 0) (by decide) e_X10_readLease_155 ?_
          refine m_istore_n F (lv' := [(2, .int 0), (1, .int (nI (4 + P.n5))), (0, .ref c)]) e_X10_readLease_156 (by decide) rfl ?_
          refine Wm.lvsub (lv' := [(0, .ref c), (1, .int (nI (4 + P.n5))), (2, .int 0)]) ?_ [2, 1, 0] rfl
          exact lq_X10_readLeaseE_157 F hQ hob hP hp0 hp1 hp2 hp3 hp4 hp5 hp6 hp7 hp8 hp9 hp10 hp11 hp12 hp13 hp14 (48 - 0 + 1) (4 + P.n5) 0 P13929 _ h13954 oP13934 (by unfold RP; omega) ⟨by omega, by omega, by omega, by omega, (by unfold leaseS; dsimp only; rw [if_neg (by omega), ek13486, newK_ok hs13494 e13518, ek13577, numK_2 e13598 e13599]; exact RM.l ((fld_eq (g13955 _ (by omega))).trans ((fld_eq (g13949 _ (by omega))).trans ((fld_eq (g13943 _ (by omega))).trans ((fld_eq (g13937 _ (by omega))).trans ((fld_eq (g13926 _ (by omega))).trans ((fld_eq (g13917 _ (by omega))).trans fa13607)))))) ((fld_eq (g13955 _ (by omega))).trans ((fld_eq (g13949 _ (by omega))).trans ((fld_eq (g13943 _ (by omega))).trans ((fld_eq (g13937 _ (by omega))).trans ((fld_eq (g13926 _ (by omega))).trans ((fld_eq (g13917 _ (by omega))).trans fb13608)))))) (by decide) (by decide) (by omega))⟩ (Nat.lt_succ_self _)
    · have hnw := mt13484.nw hs13494
      refine r_getC F e_X10_readLease_27 fl_X10_110 h13471 (yd13490) ?_
      refine m_iconst F (v := 1) (by decide) e_X10_readLease_30 ?_
      refine m_icmp_eq F e_X10_readLease_31 (fun q31 => ?_) (fun q31 => ?_)
      · exact absurd q31 hnw
      · refine m_aload_n F rfl e_X10_readLease_34 ?_
        refine m_iconst F (v := 1) (by decide) e_X10_readLease_35 ?_
        refine r_callV F e_X10_readLease_36 (q_X10_wrongE (x_l X) V c T Z u h P13472 L _ _ 1 n k13486.1 so13482 va13483 ln fp h13471.1 (hob) oP13472 (by omega) ⟨(yd13487), (yd13488), (yd13489), (yd13490), (yd13491), (yd13492), (yd13493)⟩ (by decide)) cb_X10_wrong ml_X10_150 im_X10_wrong se_X10_wrong h13471 rfl rfl (rest := []) rfl (Nat.le_of_ble_eq_true rfl) ⟨Nat.le_of_ble_eq_true rfl, Nat.le_of_ble_eq_true rfl⟩ ⟨Nat.le_of_ble_eq_true rfl, Nat.le_of_ble_eq_true rfl⟩ (fun r σ13958 hp => ?_)
        obtain ⟨h13959, hp⟩ := hp
        have h13960 := HS.trans h13471 h13959 (by decide)
        have ga13961 := ga13475.of (h13959.2 (c + 1) (by rw [kC_at (k := 1) (by decide)]; decide))
        have ga13962 := ga13476.of (h13959.2 (c + 2) (by rw [kC_at (k := 2) (by decide)]; decide))
        have ga13963 := ga13477.of (h13959.2 (c + 3) (by rw [kC_at (k := 3) (by decide)]; decide))
        have ga13964 := ga13478.of (h13959.2 (c + 7) (by rw [kC_at (k := 7) (by decide)]; decide))
        have ga13965 := ga13479.of (h13959.2 (c + 8) (by rw [kC_at (k := 8) (by decide)]; decide))
        have ga13966 := ga13480.of (h13959.2 (c + 9) (by rw [kC_at (k := 9) (by decide)]; decide))
        have ga13967 := ga13481.of (h13959.2 (c + 11) (by rw [kC_at (k := 11) (by decide)]; decide))
        obtain ⟨hp, rfl⟩ := hp
        have hyd13968 := hp
        obtain ⟨yd13968, yd13969, yd13970, yd13971, yd13972, yd13973, yd13974⟩ := hyd13968
        refine m_goto F e_X10_readLease_39 ?_
        refine m_aload_n F rfl e_X10_readLease_65 ?_
        refine r_getC F e_X10_readLease_66 fl_X10_141 h13960 (yd13973) ?_
        refine m_if_eq F e_X10_readLease_69 (fun q => absurd q (by decide)) (fun _ => ?_)
        have h13975 : HS V c _ [0, 2, 12, 13, 14, 15, 16, 17, 18, 19, 20, 21, 22, 23] _ _ := ⟨HR.mono (Z' := Z) (by intro e; first | rfl | assumption | omega) h13960.1, h13960.2⟩
        exact m_vret F hQ e_X10_readLease_72 (⟨P13472, oP13472, (by unfold RP; omega), (by unfold leaseS; dsimp only; rw [if_neg (by omega), ek13486, newK_1 hs13494]; exact RM.l (yd13973) (yd13974) (by decide) (by decide) (by omega)), h13975, rfl⟩)
  · have c6 : P.n5 = 4 := (nI_eq (a := P.n5) (b := 4) (by omega) (by omega)).mp q6
    refine m_aload_n F rfl e_X10_readLease_9 ?_
    refine m_iconst F (v := 2) (by decide) e_X10_readLease_10 ?_
    refine r_callV F e_X10_readLease_11 (q_X10_wrongE (x_l X) V c T Z u h P L _ _ 2 n st so va ln fp h13461.1 (hob) hP (by omega) ⟨((fld_eq (h13460.2 c (by rw [show kC c c = 1 from kC_at (k := 0) (by decide)]; decide))).trans yd13452), ((fld_eq (h13460.2 c (by rw [show kC c c = 1 from kC_at (k := 0) (by decide)]; decide))).trans yd13453), ((fld_eq (h13460.2 c (by rw [show kC c c = 1 from kC_at (k := 0) (by decide)]; decide))).trans yd13454), ((fld_eq (h13460.2 c (by rw [show kC c c = 1 from kC_at (k := 0) (by decide)]; decide))).trans yd13455), ((fld_eq (h13460.2 c (by rw [show kC c c = 1 from kC_at (k := 0) (by decide)]; decide))).trans yd13456), ((fld_eq (h13460.2 c (by rw [show kC c c = 1 from kC_at (k := 0) (by decide)]; decide))).trans yd13457), ((fld_eq (h13460.2 c (by rw [show kC c c = 1 from kC_at (k := 0) (by decide)]; decide))).trans yd13458)⟩ (by decide)) cb_X10_wrong ml_X10_150 im_X10_wrong se_X10_wrong h13461 rfl rfl (rest := []) rfl (Nat.le_of_ble_eq_true rfl) ⟨Nat.le_of_ble_eq_true rfl, Nat.le_of_ble_eq_true rfl⟩ ⟨Nat.le_of_ble_eq_true rfl, Nat.le_of_ble_eq_true rfl⟩ (fun r σ13976 hp => ?_)
    obtain ⟨h13977, hp⟩ := hp
    have h13978 := HS.trans h13461 h13977 (by decide)
    have ga13979 := ga13462.of (h13977.2 (c + 1) (by rw [kC_at (k := 1) (by decide)]; decide))
    have ga13980 := ga13463.of (h13977.2 (c + 2) (by rw [kC_at (k := 2) (by decide)]; decide))
    have ga13981 := ga13464.of (h13977.2 (c + 3) (by rw [kC_at (k := 3) (by decide)]; decide))
    have ga13982 := ga13465.of (h13977.2 (c + 7) (by rw [kC_at (k := 7) (by decide)]; decide))
    have ga13983 := ga13466.of (h13977.2 (c + 8) (by rw [kC_at (k := 8) (by decide)]; decide))
    have ga13984 := ga13467.of (h13977.2 (c + 9) (by rw [kC_at (k := 9) (by decide)]; decide))
    have ga13985 := ga13468.of (h13977.2 (c + 11) (by rw [kC_at (k := 11) (by decide)]; decide))
    obtain ⟨hp, rfl⟩ := hp
    have hyd13986 := hp
    obtain ⟨yd13986, yd13987, yd13988, yd13989, yd13990, yd13991, yd13992⟩ := hyd13986
    refine m_aload_n F rfl e_X10_readLease_14 ?_
    refine r_callV F e_X10_readLease_15 (q_X10_goOnG (x_l X) V c T 0 u h P L _ _  2 h13978.1 (hob) hP  (yd13991) (by decide)) cb_X10_goOn ml_X10_154 im_X10_goOn se_X10_goOn h13978 rfl rfl (rest := []) rfl (Nat.le_of_ble_eq_true rfl) ⟨Nat.le_of_ble_eq_true rfl, Nat.le_of_ble_eq_true rfl⟩ ⟨Nat.le_of_ble_eq_true rfl, Nat.le_of_ble_eq_true rfl⟩ (fun r σ13993 hp => ?_)
    obtain ⟨h13994, hp⟩ := hp
    have h13995 := HS.trans h13978 h13994 (by decide)
    have ga13996 := ga13979.of (h13994.2 (c + 1) (by rw [kC_at (k := 1) (by decide)]; decide))
    have ga13997 := ga13980.of (h13994.2 (c + 2) (by rw [kC_at (k := 2) (by decide)]; decide))
    have ga13998 := ga13981.of (h13994.2 (c + 3) (by rw [kC_at (k := 3) (by decide)]; decide))
    have ga13999 := ga13982.of (h13994.2 (c + 7) (by rw [kC_at (k := 7) (by decide)]; decide))
    have ga14000 := ga13983.of (h13994.2 (c + 8) (by rw [kC_at (k := 8) (by decide)]; decide))
    have ga14001 := ga13984.of (h13994.2 (c + 9) (by rw [kC_at (k := 9) (by decide)]; decide))
    have ga14002 := ga13985.of (h13994.2 (c + 11) (by rw [kC_at (k := 11) (by decide)]; decide))
    obtain ⟨rfl, rfl⟩ := hp
    refine m_aload_n F rfl e_X10_readLease_18 ?_
    refine r_getC F e_X10_readLease_19 fl_X10_141 h13995 (yd13991) ?_
    refine m_if_eq F e_X10_readLease_22 (fun q => absurd q (by decide)) (fun _ => ?_)
    have h14003 : HS V c _ [0, 2, 12, 13, 14, 15, 16, 17, 18, 19, 20, 21, 22, 23] _ _ := ⟨HR.mono (Z' := Z) (by intro e; first | rfl | assumption | omega) h13995.1, h13995.2⟩
    exact m_vret F hQ e_X10_readLease_25 (⟨P, hP, (by unfold RP; omega), (by unfold leaseS; dsimp only; rw [if_pos (by omega)]; exact RM.l (yd13991) (yd13992) (by decide) (by decide) (by omega)), h14003, rfl⟩)
