set_option maxRecDepth 20000 in
theorem lq_X10_readPayE_60 {V : VX} {X : MX} {N : Nat} {σ : Mem} {c T Z u h : Nat} {P : NP} {L : Nat → LQ}  {n st : Nat} {so va : Int32} {ln : Nat} {fp : Int32} {t : Nat → Nat} {s9 v9 : Nat} {nm : Nat → Nat} {np lc no sd : Nat} {md : Nat → Nat → Bool} (F : Fx V X yX10_readPay cX10_readPay 6 none (rmd 8 0 0)) (hQ : Rt V X 0 0 N (fun r τ => ∃ P9 : NP, OKP P9 ∧ RP P P9 ∧ RM τ c n P9 (payS (tok t n) (st, s9, v9, P.a) P.n5 nm np P.n7 lc no sd md ln) ∧ HS V c (⟨T, Z, u, h, P9, L⟩ : RG) [0, 2, 4, 5, 6, 7, 8, 9, 10, 12, 13, 14, 15, 16, 17, 18, 19, 20, 21, 22, 23] σ τ ∧ r = none)) (hob : OKB L) (hP : OKP P) (hp0 : YD σ c n st so va ln 0 fp) (hp1 : BR σ c n t) (hp2 : n ≤ 700) (hp3 : P.a ≤ n) (hp4 : MT so va s9 v9) (hp5 : st ≤ n) (hp6 : NR σ c np no sd) (hp7 : MR σ c P.n5 nm) (hp8 : KR σ c P.n5 md) (hp9 : FR σ c 8 1 P.n5 md) (hp10 : FR σ c 9 2 P.n5 md) (hp11 : QR σ c P.n7 lc) (hp12 : np ≤ 12) (hp13 : no ≤ 4) (hp14 : sd ≤ 1)  : ∀ (fuel : Nat) (a : Nat) (b : Nat) (m1 : Nat) (k : Nat) (kt : Tk) (P1 : NP) (τ : Mem), HS V c (⟨T, Z, u, h, P1, L⟩ : RG) [0, 2, 4, 5, 6, 7, 8, 9, 10, 12, 13, 14, 15, 16, 17, 18, 19, 20, 21, 22, 23] σ τ → OKP P1 → RP P P1 → a ≤ 7 ∧ 1 ≤ k ∧ k ≤ 49 ∧ b ≤ 48 ∧ RM τ c n P1 (.inr (kt, P.n5, nm, np, P.n7, lc, no, sd, md, ln)) ∧ (payS (tok t n) (st, s9, v9, P.a) P.n5 nm np P.n7 lc no sd md ln) = .inr (kt, P.n5, nm, np + 1, P.n7, lc, no, sd, md, ln) ∧ np < 12 → 49 - k < fuel → Wm V X 6 N τ 0 0 60 [(0, .ref c), (1, .int (nI a)), (3, .int (nI b)), (4, .int (nI m1)), (5, .int (nI k))] [] := by
  intro fuel
  induction fuel with
  | zero => intros; rename_i hm; exact absurd hm (Nat.not_lt_zero _)
  | succ fuel ih =>
    intro a b m1 k kt P1 τ h1 hP1 hR1 hi hm
    have hPP := hP
    unfold OKP at hPP
    have hPP1 := hP1
    unfold OKP at hPP1
    unfold RP at hR1
    obtain ⟨i1, i2, i3, i4, hRM, i6, i7⟩ := hi
    obtain ⟨so2, va2, fp2, mt2, yd2, ⟨pa2, p52, p72⟩, hN2, hM2, hK2, hF2, hG2, hQ2, c1, c2, c3, c4, c5⟩ := hRM
    have hn7 := hp2
    have hyd13212 := yd2
    obtain ⟨yd13212, yd13213, yd13214, yd13215, yd13216, yd13217, yd13218⟩ := hyd13212
    refine m_iload F rfl e_X10_readPay_60 ?_
    refine m_iload_n F rfl e_X10_readPay_62 ?_
    refine m_icmp_gt F e_X10_readPay_63 (fun q63 => ?_) (fun q63 => ?_)
    · have c63 : k > b := (nI_ltI (a := b) (b := k) (by omega) (by omega)).mp q63
      refine m_aload_n F rfl e_X10_readPay_91 ?_
      refine m_iconst F (v := 1) (by decide) e_X10_readPay_92 ?_
      refine m_aload_n F rfl e_X10_readPay_93 ?_
      refine m_iconst F (v := 1) (by decide) e_X10_readPay_94 ?_
      refine r_callV F e_X10_readPay_95 (q_X10_reading1E (x_l X) V c T Z u h P1 L _ _  np no sd h1.1 (hob) hP1  hN2) cb_X10_reading ml_X10_157 im_X10_reading se_X10_reading h1 rfl rfl (rest := [.int 1, .ref c]) rfl (Nat.le_of_ble_eq_true rfl) ⟨Nat.le_of_ble_eq_true rfl, Nat.le_of_ble_eq_true rfl⟩ ⟨Nat.le_of_ble_eq_true rfl, Nat.le_of_ble_eq_true rfl⟩ (fun r σ13219 hp => ?_)
      obtain ⟨h13220, hp⟩ := hp
      have h13221 := HS.trans h1 h13220 (by decide)
      have ga13222 := hN2.of (h13220.2 (c + 2) (by rw [kC_at (k := 2) (by decide)]; decide))
      have ga13223 := hM2.of (h13220.2 (c + 3) (by rw [kC_at (k := 3) (by decide)]; decide))
      have ga13224 := hK2.of (h13220.2 (c + 7) (by rw [kC_at (k := 7) (by decide)]; decide))
      have ga13225 := hF2.of (h13220.2 (c + 8) (by rw [kC_at (k := 8) (by decide)]; decide))
      have ga13226 := hG2.of (h13220.2 (c + 9) (by rw [kC_at (k := 9) (by decide)]; decide))
      have ga13227 := hQ2.of (h13220.2 (c + 11) (by rw [kC_at (k := 11) (by decide)]; decide))
      obtain rfl := hp
      refine m_iconst F (v := 1) (by decide) e_X10_readPay_98 ?_
      refine m_iadd F e_X10_readPay_99 ?_
      refine Wm.topE (w := nI (np + 1)) (nI_add np 1) ?_
      refine r_callV F e_X10_readPay_100 (q_X10_reads1E (x_l X) V c T Z u h P1 L _ _ (np + 1)  h13221.1 (hob) hP1 (by omega) ) cb_X10_reads ml_X10_170 im_X10_reads se_X10_reads h13221 rfl rfl (rest := []) rfl (Nat.le_of_ble_eq_true rfl) ⟨Nat.le_of_ble_eq_true rfl, Nat.le_of_ble_eq_true rfl⟩ ⟨Nat.le_of_ble_eq_true rfl, Nat.le_of_ble_eq_true rfl⟩ (fun r σ13228 hp => ?_)
      obtain ⟨h13229, hp⟩ := hp
      have h13230 := HS.trans h13221 h13229 (by decide)
      have ga13231 := ga13223.of (h13229.2 (c + 3) (by rw [kC_at (k := 3) (by decide)]; decide))
      have ga13232 := ga13224.of (h13229.2 (c + 7) (by rw [kC_at (k := 7) (by decide)]; decide))
      have ga13233 := ga13225.of (h13229.2 (c + 8) (by rw [kC_at (k := 8) (by decide)]; decide))
      have ga13234 := ga13226.of (h13229.2 (c + 9) (by rw [kC_at (k := 9) (by decide)]; decide))
      have ga13235 := ga13227.of (h13229.2 (c + 11) (by rw [kC_at (k := 11) (by decide)]; decide))
      obtain ⟨ea13236, eb13237, rfl⟩ := hp
      have ga13238 := NR.p ga13222 ea13236 eb13237
      exact m_vret F hQ e_X10_readPay_103 (⟨P1, hP1, (by unfold RP; omega), (by rw [i6]; exact RM.r mt2 ⟨((fld_eq (h13229.2 c (by rw [show kC c c = 1 from kC_at (k := 0) (by decide)]; decide))).trans ((fld_eq (h13220.2 c (by rw [show kC c c = 1 from kC_at (k := 0) (by decide)]; decide))).trans yd13212)), ((fld_eq (h13229.2 c (by rw [show kC c c = 1 from kC_at (k := 0) (by decide)]; decide))).trans ((fld_eq (h13220.2 c (by rw [show kC c c = 1 from kC_at (k := 0) (by decide)]; decide))).trans yd13213)), ((fld_eq (h13229.2 c (by rw [show kC c c = 1 from kC_at (k := 0) (by decide)]; decide))).trans ((fld_eq (h13220.2 c (by rw [show kC c c = 1 from kC_at (k := 0) (by decide)]; decide))).trans yd13214)), ((fld_eq (h13229.2 c (by rw [show kC c c = 1 from kC_at (k := 0) (by decide)]; decide))).trans ((fld_eq (h13220.2 c (by rw [show kC c c = 1 from kC_at (k := 0) (by decide)]; decide))).trans yd13215)), ((fld_eq (h13229.2 c (by rw [show kC c c = 1 from kC_at (k := 0) (by decide)]; decide))).trans ((fld_eq (h13220.2 c (by rw [show kC c c = 1 from kC_at (k := 0) (by decide)]; decide))).trans yd13216)), ((fld_eq (h13229.2 c (by rw [show kC c c = 1 from kC_at (k := 0) (by decide)]; decide))).trans ((fld_eq (h13220.2 c (by rw [show kC c c = 1 from kC_at (k := 0) (by decide)]; decide))).trans yd13217)), ((fld_eq (h13229.2 c (by rw [show kC c c = 1 from kC_at (k := 0) (by decide)]; decide))).trans ((fld_eq (h13220.2 c (by rw [show kC c c = 1 from kC_at (k := 0) (by decide)]; decide))).trans yd13218))⟩ (by omega) (by omega) (by omega) ga13238 ga13231 ga13232 ga13233 ga13234 ga13235 (by omega) (by omega) (by omega) (by omega) (by omega)), h13230, rfl⟩)
    · have c63 : k ≤ b := by have hh := mt (nI_ltI (a := b) (b := k) (by omega) (by omega)).mpr q63; omega
      refine m_aload_n F rfl e_X10_readPay_66 ?_
      refine r_get F e_X10_readPay_67 fl_X10_37 h1 rfl (fun v hv f13239 => ?_)
      obtain rfl : v = .ref (c + 10) := hv
      refine m_bipush F (v := 48) (by decide) e_X10_readPay_70 ?_
      refine m_iload_n F rfl e_X10_readPay_72 ?_
      refine m_imul F e_X10_readPay_73 ?_
      refine Wm.topE (w := nI (48 * a)) (pk_mul 48 a) ?_
      refine m_iload F rfl e_X10_readPay_74 ?_
      refine m_iadd F e_X10_readPay_76 ?_
      refine Wm.topE (w := nI ((48 * a) + k)) (nI_add (48 * a) k) ?_
      refine m_iconst F (v := 1) (by decide) e_X10_readPay_77 ?_
      refine m_isub F e_X10_readPay_78 ?_
      refine Wm.topE (w := nI (((48 * a) + k) - 1)) (pk_sub (a := (48 * a) + k) (b := 1) (by omega)) ?_
      refine m_dup2_11 F rfl rfl e_X10_readPay_79 ?_
      refine r_iald F (len := 384) (j := ((48 * a) + k) - 1) e_X10_readPay_80 h1 (fun _ h => h) (by decide) (nI_clamp (by omega)) (vp_in_nI (by omega) (by decide)) (fun x13240 h13241 f13242 => ?_)
      refine m_iload F rfl e_X10_readPay_81 ?_
      refine m_iadd F e_X10_readPay_83 ?_
      refine Wm.top (fun x13243 _ => ?_)
      refine r_iast F (g' := (⟨T, Z, u, h, P1, L⟩ : RG)) (len := 384) (j := ((48 * a) + k) - 1) e_X10_readPay_84 h1 (fun _ h => h) (fun f h => ⟨f, rfl, h⟩) (by decide) (by decide) (nI_clamp (by omega)) (vp_in_nI (by omega) (by decide)) trivial (fun _ _ _ h => h) (fun _ _ _ h => h) (fun σ13244 h13245 g13246 f13247 g13248 => ?_)
      have ga13249 := hN2.of (g13246 _ (by omega))
      have ga13250 := hM2.of (g13246 _ (by omega))
      have ga13251 := hK2.of (g13246 _ (by omega))
      have ga13252 := hF2.of (g13246 _ (by omega))
      have ga13253 := hG2.of (g13246 _ (by omega))
      have ga13254 := hQ2.of (g13246 _ (by omega))
      refine m_iinc F (v := nI (k + 1)) (lv' := [(5, .int (nI (k + 1))), (0, .ref c), (1, .int (nI a)), (3, .int (nI b)), (4, .int (nI m1))]) e_X10_readPay_85 rfl (nI_add k 1) (by decide) rfl ?_
      refine m_goto F e_X10_readPay_88 ?_
      refine Wm.lvsub (lv' := [(0, .ref c), (1, .int (nI a)), (3, .int (nI b)), (4, .int (nI m1)), (5, .int (nI (k + 1)))]) ?_ [1, 2, 3, 4, 0] rfl
      exact ih a b m1 (k + 1) kt P1 _ h13245 hP1 (by unfold RP; omega) ⟨by omega, by omega, by omega, by omega, RM.r mt2 ⟨((fld_eq (g13246 _ (by omega))).trans yd13212), ((fld_eq (g13246 _ (by omega))).trans yd13213), ((fld_eq (g13246 _ (by omega))).trans yd13214), ((fld_eq (g13246 _ (by omega))).trans yd13215), ((fld_eq (g13246 _ (by omega))).trans yd13216), ((fld_eq (g13246 _ (by omega))).trans yd13217), ((fld_eq (g13246 _ (by omega))).trans yd13218)⟩ (by omega) (by omega) (by omega) ga13249 ga13250 ga13251 ga13252 ga13253 ga13254 (by omega) (by omega) (by omega) (by omega) (by omega), i6, i7⟩ (by omega)
set_option maxRecDepth 20000 in
theorem q_X10_readPayE (l : Launch) (V : VX) (c T Z u h : Nat) (P : NP) (L : Nat → LQ) (N : Nat) (σ : Mem) (n st : Nat) (so va : Int32) (ln : Nat) (fp : Int32) (t : Nat → Nat) (s9 v9 : Nat) (nm : Nat → Nat) (np lc no sd : Nat) (md : Nat → Nat → Bool) (h0 : HR V c ⟨T, Z, u, h, P, L⟩ σ) (hob : OKB L) (hP : OKP P) (hp0 : YD σ c n st so va ln 0 fp) (hp1 : BR σ c n t) (hp2 : n ≤ 700) (hp3 : P.a ≤ n) (hp4 : MT so va s9 v9) (hp5 : st ≤ n) (hp6 : NR σ c np no sd) (hp7 : MR σ c P.n5 nm) (hp8 : KR σ c P.n5 md) (hp9 : FR σ c 8 1 P.n5 md) (hp10 : FR σ c 9 2 P.n5 md) (hp11 : QR σ c P.n7 lc) (hp12 : np ≤ 12) (hp13 : no ≤ 4) (hp14 : sd ≤ 1) : Ct l V yX10_readPay cX10_readPay 6 none 8 0 0 N σ [.ref c] (fun r τ => ∃ P9 : NP, OKP P9 ∧ RP P P9 ∧ RM τ c n P9 (payS (tok t n) (st, s9, v9, P.a) P.n5 nm np P.n7 lc no sd md ln) ∧ HS V c (⟨T, Z, u, h, P9, L⟩ : RG) [0, 2, 4, 5, 6, 7, 8, 9, 10, 12, 13, 14, 15, 16, 17, 18, 19, 20, 21, 22, 23] σ τ ∧ r = none) := by
  refine Ct.of (by decide) (Nat.le_of_ble_eq_true rfl) [(0, .ref c)] rfl (fun X hX F hQ => ?_)
  have hPP := hP
  unfold OKP at hPP
  have h1 : HS V c ⟨T, Z, u, h, P, L⟩ [0, 2, 4, 5, 6, 7, 8, 9, 10, 12, 13, 14, 15, 16, 17, 18, 19, 20, 21, 22, 23] σ σ := HS.start h0
  have hyd13255 := hp0
  obtain ⟨yd13255, yd13256, yd13257, yd13258, yd13259, yd13260, yd13261⟩ := hyd13255
  have hn7 := hp2
  refine m_aload_n F rfl e_X10_readPay_0 ?_
  refine m_iconst F (v := 1) (by decide) e_X10_readPay_1 ?_
  refine r_callV F e_X10_readPay_2 (q_X10_reading1E (x_l X) V c T Z u h P L _ _  np no sd h1.1 (hob) hP  hp6) cb_X10_reading ml_X10_157 im_X10_reading se_X10_reading h1 rfl rfl (rest := []) rfl (Nat.le_of_ble_eq_true rfl) ⟨Nat.le_of_ble_eq_true rfl, Nat.le_of_ble_eq_true rfl⟩ ⟨Nat.le_of_ble_eq_true rfl, Nat.le_of_ble_eq_true rfl⟩ (fun r σ13262 hp => ?_)
  obtain ⟨h13263, hp⟩ := hp
  have h13264 := HS.trans h1 h13263 (by decide)
  have ga13265 := hp1.of (h13263.2 (c + 1) (by rw [kC_at (k := 1) (by decide)]; decide))
  have ga13266 := hp6.of (h13263.2 (c + 2) (by rw [kC_at (k := 2) (by decide)]; decide))
  have ga13267 := hp7.of (h13263.2 (c + 3) (by rw [kC_at (k := 3) (by decide)]; decide))
  have ga13268 := hp8.of (h13263.2 (c + 7) (by rw [kC_at (k := 7) (by decide)]; decide))
  have ga13269 := hp9.of (h13263.2 (c + 8) (by rw [kC_at (k := 8) (by decide)]; decide))
  have ga13270 := hp10.of (h13263.2 (c + 9) (by rw [kC_at (k := 9) (by decide)]; decide))
  have ga13271 := hp11.of (h13263.2 (c + 11) (by rw [kC_at (k := 11) (by decide)]; decide))
  obtain rfl := hp
  refine m_bipush F (v := 12) (by decide) e_X10_readPay_5 ?_
  refine m_icmp_ne F e_X10_readPay_7 (fun q7 => ?_) (fun q7 => ?_)
  · have c7 : np ≠ 12 := by have hh := mt (nI_eq (a := np) (b := 12) (by omega) (by omega)).mpr q7; omega
    refine m_aload_n F rfl e_X10_readPay_15 ?_
    refine r_callV F e_X10_readPay_16 (q_X10_atHandE (x_l X) V c T Z u h P L _ _  n st so va ln fp t nm h13264.1 (hob) hP  ⟨((fld_eq (h13263.2 c (by rw [show kC c c = 1 from kC_at (k := 0) (by decide)]; decide))).trans yd13255), ((fld_eq (h13263.2 c (by rw [show kC c c = 1 from kC_at (k := 0) (by decide)]; decide))).trans yd13256), ((fld_eq (h13263.2 c (by rw [show kC c c = 1 from kC_at (k := 0) (by decide)]; decide))).trans yd13257), ((fld_eq (h13263.2 c (by rw [show kC c c = 1 from kC_at (k := 0) (by decide)]; decide))).trans yd13258), ((fld_eq (h13263.2 c (by rw [show kC c c = 1 from kC_at (k := 0) (by decide)]; decide))).trans yd13259), ((fld_eq (h13263.2 c (by rw [show kC c c = 1 from kC_at (k := 0) (by decide)]; decide))).trans yd13260), ((fld_eq (h13263.2 c (by rw [show kC c c = 1 from kC_at (k := 0) (by decide)]; decide))).trans yd13261)⟩ ga13265 hn7 (by omega) ga13267) cb_X10_atHand ml_X10_174 im_X10_atHand se_X10_atHand h13264 rfl rfl (rest := []) rfl (Nat.le_of_ble_eq_true rfl) ⟨Nat.le_of_ble_eq_true rfl, Nat.le_of_ble_eq_true rfl⟩ ⟨Nat.le_of_ble_eq_true rfl, Nat.le_of_ble_eq_true rfl⟩ (fun r σ13272 hp => ?_)
    obtain ⟨P13275, oP13275, rP13275, pr13276, h13273, hp⟩ := hp
    have h13274 := HS.trans h13264 h13273 (by decide)
    have xP13275 := oP13275
    unfold OKP at xP13275
    unfold RA at rP13275
    have ga13277 := ga13265.of (h13273.2 (c + 1) (by rw [kC_at (k := 1) (by decide)]; decide))
    have ga13278 := ga13266.of (h13273.2 (c + 2) (by rw [kC_at (k := 2) (by decide)]; decide))
    have ga13279 := ga13267.of (h13273.2 (c + 3) (by rw [kC_at (k := 3) (by decide)]; decide))
    have ga13280 := ga13268.of (h13273.2 (c + 7) (by rw [kC_at (k := 7) (by decide)]; decide))
    have ga13281 := ga13269.of (h13273.2 (c + 8) (by rw [kC_at (k := 8) (by decide)]; decide))
    have ga13282 := ga13270.of (h13273.2 (c + 9) (by rw [kC_at (k := 9) (by decide)]; decide))
    have ga13283 := ga13271.of (h13273.2 (c + 11) (by rw [kC_at (k := 11) (by decide)]; decide))
    have bk13293 := tok_ok (t := t) (n := n) P.a (by omega)
    generalize ek13293 : tok t n P.a = k13293 at pr13276 bk13293
    rcases pr13276 with ⟨e13284, e13285, ea13286, ⟨so13287, va13288, mt13289, yd13290⟩, rfl⟩ | ⟨e13284, ⟨fa13291, fb13292⟩, rfl⟩ | ⟨e13284, e13285, ⟨fa13291, fb13292⟩, rfl⟩
    · have hyd13294 := yd13290
      obtain ⟨yd13294, yd13295, yd13296, yd13297, yd13298, yd13299, yd13300⟩ := hyd13294
      refine m_istore_n F (lv' := [(1, .int (nI (4 + fx nm k13293.2.2.1 P.n5))), (0, .ref c)]) e_X10_readPay_19 (by decide) rfl ?_
      refine m_aload_n F rfl e_X10_readPay_20 ?_
      refine r_callV F e_X10_readPay_21 (q_X10_goOnE (x_l X) V c T Z u h P13275 L _ _  n k13293.1 so13287 va13288 ln fp t h13274.1 (hob) oP13275  ⟨(yd13294), (yd13295), (yd13296), (yd13297), (yd13298), (yd13299), (yd13300)⟩ ga13277 hn7 (by omega)) cb_X10_goOn ml_X10_154 im_X10_goOn se_X10_goOn h13274 rfl rfl (rest := []) rfl (Nat.le_of_ble_eq_true rfl) ⟨Nat.le_of_ble_eq_true rfl, Nat.le_of_ble_eq_true rfl⟩ ⟨Nat.le_of_ble_eq_true rfl, Nat.le_of_ble_eq_true rfl⟩ (fun r σ13301 hp => ?_)
      obtain ⟨P13304, oP13304, rP13304, pr13305, pr13306, h13302, hp⟩ := hp
      have h13303 := HS.trans h13274 h13302 (by decide)
      have xP13304 := oP13304
      unfold OKP at xP13304
      unfold RA at rP13304
      have ga13307 := ga13277.of (h13302.2 (c + 1) (by rw [kC_at (k := 1) (by decide)]; decide))
      have ga13308 := ga13278.of (h13302.2 (c + 2) (by rw [kC_at (k := 2) (by decide)]; decide))
      have ga13309 := ga13279.of (h13302.2 (c + 3) (by rw [kC_at (k := 3) (by decide)]; decide))
      have ga13310 := ga13280.of (h13302.2 (c + 7) (by rw [kC_at (k := 7) (by decide)]; decide))
      have ga13311 := ga13281.of (h13302.2 (c + 8) (by rw [kC_at (k := 8) (by decide)]; decide))
      have ga13312 := ga13282.of (h13302.2 (c + 9) (by rw [kC_at (k := 9) (by decide)]; decide))
      have ga13313 := ga13283.of (h13302.2 (c + 11) (by rw [kC_at (k := 11) (by decide)]; decide))
      obtain rfl := hp
      obtain ⟨so13314, va13315, mt13316, yd13317⟩ := pr13306
      generalize ek13318 : tok t n P13275.a = k13318 at pr13305 mt13316 yd13317
      have bk13318 := tok_ok (t := t) (n := n) P13275.a (by omega)
      rw [ek13318] at bk13318
      rw [show P13275.a = k13293.2.2.2 by omega] at ek13318
      have hyd13319 := yd13317
      obtain ⟨yd13319, yd13320, yd13321, yd13322, yd13323, yd13324, yd13325⟩ := hyd13319
      refine m_aload_n F rfl e_X10_readPay_24 ?_
      refine m_iconst F (v := 1) (by decide) e_X10_readPay_25 ?_
      refine m_bipush F (v := 48) (by decide) e_X10_readPay_26 ?_
      refine r_callV F e_X10_readPay_28 (q_X10_numeralE (x_l X) V c T Z u h P13304 L _ _ 1 48 n k13318.1 so13314 va13315 ln fp t k13318.2.1 k13318.2.2.1 h13303.1 (hob) oP13304 (by omega) (by omega) ⟨(yd13319), (yd13320), (yd13321), (yd13322), (yd13323), (yd13324), (yd13325)⟩ ga13307 hn7 (by omega) mt13316) cb_X10_numeral ml_X10_165 im_X10_numeral se_X10_numeral h13303 rfl rfl (rest := []) rfl (Nat.le_of_ble_eq_true rfl) ⟨Nat.le_of_ble_eq_true rfl, Nat.le_of_ble_eq_true rfl⟩ ⟨Nat.le_of_ble_eq_true rfl, Nat.le_of_ble_eq_true rfl⟩ (fun r σ13326 hp => ?_)
      obtain ⟨P13329, oP13329, rP13329, pr13330, h13327, hp⟩ := hp
      have h13328 := HS.trans h13303 h13327 (by decide)
      have xP13329 := oP13329
      unfold OKP at xP13329
      unfold RA at rP13329
      have ga13331 := ga13307.of (h13327.2 (c + 1) (by rw [kC_at (k := 1) (by decide)]; decide))
      have ga13332 := ga13308.of (h13327.2 (c + 2) (by rw [kC_at (k := 2) (by decide)]; decide))
      have ga13333 := ga13309.of (h13327.2 (c + 3) (by rw [kC_at (k := 3) (by decide)]; decide))
      have ga13334 := ga13310.of (h13327.2 (c + 7) (by rw [kC_at (k := 7) (by decide)]; decide))
      have ga13335 := ga13311.of (h13327.2 (c + 8) (by rw [kC_at (k := 8) (by decide)]; decide))
      have ga13336 := ga13312.of (h13327.2 (c + 9) (by rw [kC_at (k := 9) (by decide)]; decide))
      have ga13337 := ga13313.of (h13327.2 (c + 11) (by rw [kC_at (k := 11) (by decide)]; decide))
      rcases pr13330 with ⟨e13338, l13340, l13341, ea13342, ⟨so13343, va13344, mt13345, yd13346⟩, rfl⟩ | ⟨e13338, ⟨fa13347, fb13348⟩, rfl⟩ | ⟨e13338, e13339, ⟨fa13347, fb13348⟩, rfl⟩
      · have bk13349 := tok_ok (t := t) (n := n) P13304.a (by omega)
        generalize ek13349 : tok t n P13304.a = k13349 at ea13342 mt13345 yd13346 bk13349
        rw [show P13304.a = k13318.2.2.2 by omega] at ek13349
        have hyd13350 := yd13346
        obtain ⟨yd13350, yd13351, yd13352, yd13353, yd13354, yd13355, yd13356⟩ := hyd13350
        refine m_istore_n F (lv' := [(2, .int (nI k13318.2.2.1)), (1, .int (nI (4 + fx nm k13293.2.2.1 P.n5))), (0, .ref c)]) e_X10_readPay_31 (by decide) rfl ?_
        refine m_aload_n F rfl e_X10_readPay_32 ?_
        refine m_iload_n F rfl e_X10_readPay_33 ?_
        refine m_bipush F (v := 48) (by decide) e_X10_readPay_34 ?_
        refine r_callV F e_X10_readPay_36 (q_X10_numeralE (x_l X) V c T Z u h P13329 L _ _ k13318.2.2.1 48 n k13349.1 so13343 va13344 ln fp t k13349.2.1 k13349.2.2.1 h13328.1 (hob) oP13329 (by omega) (by omega) ⟨(yd13350), (yd13351), (yd13352), (yd13353), (yd13354), (yd13355), (yd13356)⟩ ga13331 hn7 (by omega) mt13345) cb_X10_numeral ml_X10_165 im_X10_numeral se_X10_numeral h13328 rfl rfl (rest := []) rfl (Nat.le_of_ble_eq_true rfl) ⟨Nat.le_of_ble_eq_true rfl, Nat.le_of_ble_eq_true rfl⟩ ⟨Nat.le_of_ble_eq_true rfl, Nat.le_of_ble_eq_true rfl⟩ (fun r σ13357 hp => ?_)
        obtain ⟨P13360, oP13360, rP13360, pr13361, h13358, hp⟩ := hp
        have h13359 := HS.trans h13328 h13358 (by decide)
        have xP13360 := oP13360
        unfold OKP at xP13360
        unfold RA at rP13360
        have ga13362 := ga13331.of (h13358.2 (c + 1) (by rw [kC_at (k := 1) (by decide)]; decide))
        have ga13363 := ga13332.of (h13358.2 (c + 2) (by rw [kC_at (k := 2) (by decide)]; decide))
        have ga13364 := ga13333.of (h13358.2 (c + 3) (by rw [kC_at (k := 3) (by decide)]; decide))
        have ga13365 := ga13334.of (h13358.2 (c + 7) (by rw [kC_at (k := 7) (by decide)]; decide))
        have ga13366 := ga13335.of (h13358.2 (c + 8) (by rw [kC_at (k := 8) (by decide)]; decide))
        have ga13367 := ga13336.of (h13358.2 (c + 9) (by rw [kC_at (k := 9) (by decide)]; decide))
        have ga13368 := ga13337.of (h13358.2 (c + 11) (by rw [kC_at (k := 11) (by decide)]; decide))
        rcases pr13361 with ⟨e13369, l13371, l13372, ea13373, ⟨so13374, va13375, mt13376, yd13377⟩, rfl⟩ | ⟨e13369, ⟨fa13378, fb13379⟩, rfl⟩ | ⟨e13369, e13370, ⟨fa13378, fb13379⟩, rfl⟩
        · have bk13380 := tok_ok (t := t) (n := n) P13329.a (by omega)
          generalize ek13380 : tok t n P13329.a = k13380 at ea13373 mt13376 yd13377 bk13380
          rw [show P13329.a = k13349.2.2.2 by omega] at ek13380
          have hyd13381 := yd13377
          obtain ⟨yd13381, yd13382, yd13383, yd13384, yd13385, yd13386, yd13387⟩ := hyd13381
          refine m_istore_n F (lv' := [(3, .int (nI k13349.2.2.1)), (2, .int (nI k13318.2.2.1)), (1, .int (nI (4 + fx nm k13293.2.2.1 P.n5))), (0, .ref c)]) e_X10_readPay_39 (by decide) rfl ?_
          refine m_aload_n F rfl e_X10_readPay_40 ?_
          refine m_iconst F (v := 0) (by decide) e_X10_readPay_41 ?_
          refine m_ldc F kc_X10_177 e_X10_readPay_42 ?_
          refine r_callV F e_X10_readPay_44 (q_X10_numeralE (x_l X) V c T Z u h P13360 L _ _ 0 99999 n k13380.1 so13374 va13375 ln fp t k13380.2.1 k13380.2.2.1 h13359.1 (hob) oP13360 (by omega) (by omega) ⟨(yd13381), (yd13382), (yd13383), (yd13384), (yd13385), (yd13386), (yd13387)⟩ ga13362 hn7 (by omega) mt13376) cb_X10_numeral ml_X10_165 im_X10_numeral se_X10_numeral h13359 rfl rfl (rest := []) rfl (Nat.le_of_ble_eq_true rfl) ⟨Nat.le_of_ble_eq_true rfl, Nat.le_of_ble_eq_true rfl⟩ ⟨Nat.le_of_ble_eq_true rfl, Nat.le_of_ble_eq_true rfl⟩ (fun r σ13388 hp => ?_)
          obtain ⟨P13391, oP13391, rP13391, pr13392, h13389, hp⟩ := hp
          have h13390 := HS.trans h13359 h13389 (by decide)
          have xP13391 := oP13391
          unfold OKP at xP13391
          unfold RA at rP13391
          have ga13393 := ga13362.of (h13389.2 (c + 1) (by rw [kC_at (k := 1) (by decide)]; decide))
          have ga13394 := ga13363.of (h13389.2 (c + 2) (by rw [kC_at (k := 2) (by decide)]; decide))
          have ga13395 := ga13364.of (h13389.2 (c + 3) (by rw [kC_at (k := 3) (by decide)]; decide))
          have ga13396 := ga13365.of (h13389.2 (c + 7) (by rw [kC_at (k := 7) (by decide)]; decide))
          have ga13397 := ga13366.of (h13389.2 (c + 8) (by rw [kC_at (k := 8) (by decide)]; decide))
          have ga13398 := ga13367.of (h13389.2 (c + 9) (by rw [kC_at (k := 9) (by decide)]; decide))
          have ga13399 := ga13368.of (h13389.2 (c + 11) (by rw [kC_at (k := 11) (by decide)]; decide))
          rcases pr13392 with ⟨e13400, l13402, l13403, ea13404, ⟨so13405, va13406, mt13407, yd13408⟩, rfl⟩ | ⟨e13400, ⟨fa13409, fb13410⟩, rfl⟩ | ⟨e13400, e13401, ⟨fa13409, fb13410⟩, rfl⟩
          · have bk13411 := tok_ok (t := t) (n := n) P13360.a (by omega)
            generalize ek13411 : tok t n P13360.a = k13411 at ea13404 mt13407 yd13408 bk13411
            rw [show P13360.a = k13380.2.2.2 by omega] at ek13411
            have hyd13412 := yd13408
            obtain ⟨yd13412, yd13413, yd13414, yd13415, yd13416, yd13417, yd13418⟩ := hyd13412
            refine m_istore F (lv' := [(4, .int (nI k13380.2.2.1)), (3, .int (nI k13349.2.2.1)), (2, .int (nI k13318.2.2.1)), (1, .int (nI (4 + fx nm k13293.2.2.1 P.n5))), (0, .ref c)]) e_X10_readPay_47 (by decide) rfl ?_
            refine m_aload_n F rfl e_X10_readPay_49 ?_
            refine r_getC F e_X10_readPay_50 fl_X10_141 h13390 (yd13417) ?_
            refine m_if_eq F e_X10_readPay_53 (fun _ => ?_) (fun q => absurd (by decide) q)
            refine m_iload_n F rfl e_X10_readPay_57 ?_
            refine m_istore F (lv' := [(5, .int (nI k13318.2.2.1)), (4, .int (nI k13380.2.2.1)), (3, .int (nI k13349.2.2.1)), (2, .int (nI k13318.2.2.1)), (1, .int (nI (4 + fx nm k13293.2.2.1 P.n5))), (0, .ref c)]) e_X10_readPay_58 (by decide) rfl ?_
            refine Wm.lvsub (lv' := [(0, .ref c), (1, .int (nI (4 + fx nm k13293.2.2.1 P.n5))), (3, .int (nI k13349.2.2.1)), (4, .int (nI k13380.2.2.1)), (5, .int (nI k13318.2.2.1))]) ?_ [5, 4, 2, 1, 0] rfl
            have hsp : (payS (tok t n) (st, s9, v9, P.a) P.n5 nm np P.n7 lc no sd md ln) = .inr (k13411, P.n5, nm, np + 1, P.n7, lc, no, sd, md, ln) := by unfold payS; dsimp only; rw [if_neg (by omega), ek13293, tolK_ok e13284 e13285, ek13318, numK_ok e13338 l13340 l13341, ek13349, numK_ok e13369 l13371 l13372, ek13380, numK_ok e13400 l13402 l13403, ek13411]
            exact lq_X10_readPayE_60 F hQ hob hP hp0 hp1 hp2 hp3 hp4 hp5 hp6 hp7 hp8 hp9 hp10 hp11 hp12 hp13 hp14 (49 - k13318.2.2.1 + 1) (4 + fx nm k13293.2.2.1 P.n5) k13349.2.2.1 k13380.2.2.1 k13318.2.2.1 k13411 P13391 _ h13390 oP13391 (by unfold RP; omega) ⟨by omega, by omega, by omega, by omega, RM.r mt13407 ⟨(yd13412), (yd13413), (yd13414), (yd13415), (yd13416), (yd13417), (yd13418)⟩ (by omega) (by omega) (by omega) ga13394 ga13395 ga13396 ga13397 ga13398 ga13399 (by omega) (by omega) (by omega) (by omega) (by omega), hsp, by omega⟩ (Nat.lt_succ_self _)
          · have hz9 : True := trivial
            refine m_istore F (lv' := [(4, .int (nI 0)), (3, .int (nI k13349.2.2.1)), (2, .int (nI k13318.2.2.1)), (1, .int (nI (4 + fx nm k13293.2.2.1 P.n5))), (0, .ref c)]) e_X10_readPay_47 (by decide) rfl ?_
            refine m_aload_n F rfl e_X10_readPay_49 ?_
            refine r_getC F e_X10_readPay_50 fl_X10_141 h13390 (fa13409) ?_
            refine m_if_eq F e_X10_readPay_53 (fun q => absurd q (by decide)) (fun _ => ?_)
            exact m_vret F hQ e_X10_readPay_56 (⟨P13391, oP13391, (by unfold RP; omega), (by unfold payS; dsimp only; rw [if_neg (by omega), ek13293, tolK_ok e13284 e13285, ek13318, numK_ok e13338 l13340 l13341, ek13349, numK_ok e13369 l13371 l13372, ek13380, numK_1 e13400]; exact RM.l (fa13409) (fb13410) (by decide) (by decide) (by omega)), h13390, rfl⟩)
          · have hz9 : True := trivial
            refine m_istore F (lv' := [(4, .int (nI 0)), (3, .int (nI k13349.2.2.1)), (2, .int (nI k13318.2.2.1)), (1, .int (nI (4 + fx nm k13293.2.2.1 P.n5))), (0, .ref c)]) e_X10_readPay_47 (by decide) rfl ?_
            refine m_aload_n F rfl e_X10_readPay_49 ?_
            refine r_getC F e_X10_readPay_50 fl_X10_141 h13390 (fa13409) ?_
            refine m_if_eq F e_X10_readPay_53 (fun q => absurd q (by decide)) (fun _ => ?_)
            exact m_vret F hQ e_X10_readPay_56 (⟨P13391, oP13391, (by unfold RP; omega), (by unfold payS; dsimp only; rw [if_neg (by omega), ek13293, tolK_ok e13284 e13285, ek13318, numK_ok e13338 l13340 l13341, ek13349, numK_ok e13369 l13371 l13372, ek13380, numK_2 e13400 e13401]; exact RM.l (fa13409) (fb13410) (by decide) (by decide) (by omega)), h13390, rfl⟩)
        · have hz9 : True := trivial
          refine m_istore_n F (lv' := [(3, .int (nI k13318.2.2.1)), (2, .int (nI k13318.2.2.1)), (1, .int (nI (4 + fx nm k13293.2.2.1 P.n5))), (0, .ref c)]) e_X10_readPay_39 (by decide) rfl ?_
          refine m_aload_n F rfl e_X10_readPay_40 ?_
          refine m_iconst F (v := 0) (by decide) e_X10_readPay_41 ?_
          refine m_ldc F kc_X10_177 e_X10_readPay_42 ?_
          refine r_callV F e_X10_readPay_44 (q_X10_numeralG (x_l X) V c T Z u h P13360 L _ _ 0 99999 1 h13359.1 (hob) oP13360 (by omega) (by omega) (fa13378) (by decide)) cb_X10_numeral ml_X10_165 im_X10_numeral se_X10_numeral h13359 rfl rfl (rest := []) rfl (Nat.le_of_ble_eq_true rfl) ⟨Nat.le_of_ble_eq_true rfl, Nat.le_of_ble_eq_true rfl⟩ ⟨Nat.le_of_ble_eq_true rfl, Nat.le_of_ble_eq_true rfl⟩ (fun r σ13419 hp => ?_)
          obtain ⟨h13420, hp⟩ := hp
          have h13421 := HS.trans h13359 h13420 (by decide)
          obtain ⟨rfl, rfl⟩ := hp
          refine m_istore F (lv' := [(4, .int (nI 0)), (3, .int (nI k13318.2.2.1)), (2, .int (nI k13318.2.2.1)), (1, .int (nI (4 + fx nm k13293.2.2.1 P.n5))), (0, .ref c)]) e_X10_readPay_47 (by decide) rfl ?_
          refine m_aload_n F rfl e_X10_readPay_49 ?_
          refine r_getC F e_X10_readPay_50 fl_X10_141 h13421 (fa13378) ?_
          refine m_if_eq F e_X10_readPay_53 (fun q => absurd q (by decide)) (fun _ => ?_)
          exact m_vret F hQ e_X10_readPay_56 (⟨P13360, oP13360, (by unfold RP; omega), (by unfold payS; dsimp only; rw [if_neg (by omega), ek13293, tolK_ok e13284 e13285, ek13318, numK_ok e13338 l13340 l13341, ek13349, numK_1 e13369]; exact RM.l (fa13378) (fb13379) (by decide) (by decide) (by omega)), h13421, rfl⟩)
        · have hz9 : True := trivial
          refine m_istore_n F (lv' := [(3, .int (nI k13318.2.2.1)), (2, .int (nI k13318.2.2.1)), (1, .int (nI (4 + fx nm k13293.2.2.1 P.n5))), (0, .ref c)]) e_X10_readPay_39 (by decide) rfl ?_
          refine m_aload_n F rfl e_X10_readPay_40 ?_
          refine m_iconst F (v := 0) (by decide) e_X10_readPay_41 ?_
          refine m_ldc F kc_X10_177 e_X10_readPay_42 ?_
          refine r_callV F e_X10_readPay_44 (q_X10_numeralG (x_l X) V c T Z u h P13360 L _ _ 0 99999 2 h13359.1 (hob) oP13360 (by omega) (by omega) (fa13378) (by decide)) cb_X10_numeral ml_X10_165 im_X10_numeral se_X10_numeral h13359 rfl rfl (rest := []) rfl (Nat.le_of_ble_eq_true rfl) ⟨Nat.le_of_ble_eq_true rfl, Nat.le_of_ble_eq_true rfl⟩ ⟨Nat.le_of_ble_eq_true rfl, Nat.le_of_ble_eq_true rfl⟩ (fun r σ13422 hp => ?_)
          obtain ⟨h13423, hp⟩ := hp
          have h13424 := HS.trans h13359 h13423 (by decide)
          obtain ⟨rfl, rfl⟩ := hp
          refine m_istore F (lv' := [(4, .int (nI 0)), (3, .int (nI k13318.2.2.1)), (2, .int (nI k13318.2.2.1)), (1, .int (nI (4 + fx nm k13293.2.2.1 P.n5))), (0, .ref c)]) e_X10_readPay_47 (by decide) rfl ?_
          refine m_aload_n F rfl e_X10_readPay_49 ?_
          refine r_getC F e_X10_readPay_50 fl_X10_141 h13424 (fa13378) ?_
          refine m_if_eq F e_X10_readPay_53 (fun q => absurd q (by decide)) (fun _ => ?_)
          exact m_vret F hQ e_X10_readPay_56 (⟨P13360, oP13360, (by unfold RP; omega), (by unfold payS; dsimp only; rw [if_neg (by omega), ek13293, tolK_ok e13284 e13285, ek13318, numK_ok e13338 l13340 l13341, ek13349, numK_2 e13369 e13370]; exact RM.l (fa13378) (fb13379) (by decide) (by decide) (by omega)), h13424, rfl⟩)
      · have hz9 : True := trivial
        refine m_istore_n F (lv' := [(2, .int (nI 1)), (1, .int (nI (4 + fx nm k13293.2.2.1 P.n5))), (0, .ref c)]) e_X10_readPay_31 (by decide) rfl ?_
        refine m_aload_n F rfl e_X10_readPay_32 ?_
        refine m_iload_n F rfl e_X10_readPay_33 ?_
        refine m_bipush F (v := 48) (by decide) e_X10_readPay_34 ?_
        refine r_callV F e_X10_readPay_36 (q_X10_numeralG (x_l X) V c T Z u h P13329 L _ _ 1 48 1 h13328.1 (hob) oP13329 (by omega) (by omega) (fa13347) (by decide)) cb_X10_numeral ml_X10_165 im_X10_numeral se_X10_numeral h13328 rfl rfl (rest := []) rfl (Nat.le_of_ble_eq_true rfl) ⟨Nat.le_of_ble_eq_true rfl, Nat.le_of_ble_eq_true rfl⟩ ⟨Nat.le_of_ble_eq_true rfl, Nat.le_of_ble_eq_true rfl⟩ (fun r σ13425 hp => ?_)
        obtain ⟨h13426, hp⟩ := hp
        have h13427 := HS.trans h13328 h13426 (by decide)
        obtain ⟨rfl, rfl⟩ := hp
        refine m_istore_n F (lv' := [(3, .int (nI 1)), (2, .int (nI 1)), (1, .int (nI (4 + fx nm k13293.2.2.1 P.n5))), (0, .ref c)]) e_X10_readPay_39 (by decide) rfl ?_
        refine m_aload_n F rfl e_X10_readPay_40 ?_
        refine m_iconst F (v := 0) (by decide) e_X10_readPay_41 ?_
        refine m_ldc F kc_X10_177 e_X10_readPay_42 ?_
        refine r_callV F e_X10_readPay_44 (q_X10_numeralG (x_l X) V c T Z u h P13329 L _ _ 0 99999 1 h13427.1 (hob) oP13329 (by omega) (by omega) (fa13347) (by decide)) cb_X10_numeral ml_X10_165 im_X10_numeral se_X10_numeral h13427 rfl rfl (rest := []) rfl (Nat.le_of_ble_eq_true rfl) ⟨Nat.le_of_ble_eq_true rfl, Nat.le_of_ble_eq_true rfl⟩ ⟨Nat.le_of_ble_eq_true rfl, Nat.le_of_ble_eq_true rfl⟩ (fun r σ13428 hp => ?_)
        obtain ⟨h13429, hp⟩ := hp
        have h13430 := HS.trans h13427 h13429 (by decide)
        obtain ⟨rfl, rfl⟩ := hp
        refine m_istore F (lv' := [(4, .int (nI 0)), (3, .int (nI 1)), (2, .int (nI 1)), (1, .int (nI (4 + fx nm k13293.2.2.1 P.n5))), (0, .ref c)]) e_X10_readPay_47 (by decide) rfl ?_
        refine m_aload_n F rfl e_X10_readPay_49 ?_
        refine r_getC F e_X10_readPay_50 fl_X10_141 h13430 (fa13347) ?_
        refine m_if_eq F e_X10_readPay_53 (fun q => absurd q (by decide)) (fun _ => ?_)
        exact m_vret F hQ e_X10_readPay_56 (⟨P13329, oP13329, (by unfold RP; omega), (by unfold payS; dsimp only; rw [if_neg (by omega), ek13293, tolK_ok e13284 e13285, ek13318, numK_1 e13338]; exact RM.l (fa13347) (fb13348) (by decide) (by decide) (by omega)), h13430, rfl⟩)
      · have hz9 : True := trivial
        refine m_istore_n F (lv' := [(2, .int (nI 1)), (1, .int (nI (4 + fx nm k13293.2.2.1 P.n5))), (0, .ref c)]) e_X10_readPay_31 (by decide) rfl ?_
        refine m_aload_n F rfl e_X10_readPay_32 ?_
        refine m_iload_n F rfl e_X10_readPay_33 ?_
        refine m_bipush F (v := 48) (by decide) e_X10_readPay_34 ?_
        refine r_callV F e_X10_readPay_36 (q_X10_numeralG (x_l X) V c T Z u h P13329 L _ _ 1 48 2 h13328.1 (hob) oP13329 (by omega) (by omega) (fa13347) (by decide)) cb_X10_numeral ml_X10_165 im_X10_numeral se_X10_numeral h13328 rfl rfl (rest := []) rfl (Nat.le_of_ble_eq_true rfl) ⟨Nat.le_of_ble_eq_true rfl, Nat.le_of_ble_eq_true rfl⟩ ⟨Nat.le_of_ble_eq_true rfl, Nat.le_of_ble_eq_true rfl⟩ (fun r σ13431 hp => ?_)
        obtain ⟨h13432, hp⟩ := hp
        have h13433 := HS.trans h13328 h13432 (by decide)
        obtain ⟨rfl, rfl⟩ := hp
        refine m_istore_n F (lv' := [(3, .int (nI 1)), (2, .int (nI 1)), (1, .int (nI (4 + fx nm k13293.2.2.1 P.n5))), (0, .ref c)]) e_X10_readPay_39 (by decide) rfl ?_
        refine m_aload_n F rfl e_X10_readPay_40 ?_
        refine m_iconst F (v := 0) (by decide) e_X10_readPay_41 ?_
        refine m_ldc F kc_X10_177 e_X10_readPay_42 ?_
        refine r_callV F e_X10_readPay_44 (q_X10_numeralG (x_l X) V c T Z u h P13329 L _ _ 0 99999 2 h13433.1 (hob) oP13329 (by omega) (by omega) (fa13347) (by decide)) cb_X10_numeral ml_X10_165 im_X10_numeral se_X10_numeral h13433 rfl rfl (rest := []) rfl (Nat.le_of_ble_eq_true rfl) ⟨Nat.le_of_ble_eq_true rfl, Nat.le_of_ble_eq_true rfl⟩ ⟨Nat.le_of_ble_eq_true rfl, Nat.le_of_ble_eq_true rfl⟩ (fun r σ13434 hp => ?_)
        obtain ⟨h13435, hp⟩ := hp
        have h13436 := HS.trans h13433 h13435 (by decide)
        obtain ⟨rfl, rfl⟩ := hp
        refine m_istore F (lv' := [(4, .int (nI 0)), (3, .int (nI 1)), (2, .int (nI 1)), (1, .int (nI (4 + fx nm k13293.2.2.1 P.n5))), (0, .ref c)]) e_X10_readPay_47 (by decide) rfl ?_
        refine m_aload_n F rfl e_X10_readPay_49 ?_
        refine r_getC F e_X10_readPay_50 fl_X10_141 h13436 (fa13347) ?_
        refine m_if_eq F e_X10_readPay_53 (fun q => absurd q (by decide)) (fun _ => ?_)
        exact m_vret F hQ e_X10_readPay_56 (⟨P13329, oP13329, (by unfold RP; omega), (by unfold payS; dsimp only; rw [if_neg (by omega), ek13293, tolK_ok e13284 e13285, ek13318, numK_2 e13338 e13339]; exact RM.l (fa13347) (fb13348) (by decide) (by decide) (by omega)), h13436, rfl⟩)
    · have hz9 : True := trivial
      refine m_istore_n F (lv' := [(1, .int (nI 4)), (0, .ref c)]) e_X10_readPay_19 (by decide) rfl ?_
      refine m_aload_n F rfl e_X10_readPay_20 ?_
      refine r_callV F e_X10_readPay_21 (q_X10_goOnG (x_l X) V c T Z u h P13275 L _ _  1 h13274.1 (hob) oP13275  (fa13291) (by decide)) cb_X10_goOn ml_X10_154 im_X10_goOn se_X10_goOn h13274 rfl rfl (rest := []) rfl (Nat.le_of_ble_eq_true rfl) ⟨Nat.le_of_ble_eq_true rfl, Nat.le_of_ble_eq_true rfl⟩ ⟨Nat.le_of_ble_eq_true rfl, Nat.le_of_ble_eq_true rfl⟩ (fun r σ13437 hp => ?_)
      obtain ⟨h13438, hp⟩ := hp
      have h13439 := HS.trans h13274 h13438 (by decide)
      obtain ⟨rfl, rfl⟩ := hp
      refine m_aload_n F rfl e_X10_readPay_24 ?_
      refine m_iconst F (v := 1) (by decide) e_X10_readPay_25 ?_
      refine m_bipush F (v := 48) (by decide) e_X10_readPay_26 ?_
      refine r_callV F e_X10_readPay_28 (q_X10_numeralG (x_l X) V c T Z u h P13275 L _ _ 1 48 1 h13439.1 (hob) oP13275 (by omega) (by omega) (fa13291) (by decide)) cb_X10_numeral ml_X10_165 im_X10_numeral se_X10_numeral h13439 rfl rfl (rest := []) rfl (Nat.le_of_ble_eq_true rfl) ⟨Nat.le_of_ble_eq_true rfl, Nat.le_of_ble_eq_true rfl⟩ ⟨Nat.le_of_ble_eq_true rfl, Nat.le_of_ble_eq_true rfl⟩ (fun r σ13440 hp => ?_)
      obtain ⟨h13441, hp⟩ := hp
      have h13442 := HS.trans h13439 h13441 (by decide)
      obtain ⟨rfl, rfl⟩ := hp
      refine m_istore_n F (lv' := [(2, .int (nI 1)), (1, .int (nI 4)), (0, .ref c)]) e_X10_readPay_31 (by decide) rfl ?_
      refine m_aload_n F rfl e_X10_readPay_32 ?_
      refine m_iload_n F rfl e_X10_readPay_33 ?_
      refine m_bipush F (v := 48) (by decide) e_X10_readPay_34 ?_
      refine r_callV F e_X10_readPay_36 (q_X10_numeralG (x_l X) V c T Z u h P13275 L _ _ 1 48 1 h13442.1 (hob) oP13275 (by omega) (by omega) (fa13291) (by decide)) cb_X10_numeral ml_X10_165 im_X10_numeral se_X10_numeral h13442 rfl rfl (rest := []) rfl (Nat.le_of_ble_eq_true rfl) ⟨Nat.le_of_ble_eq_true rfl, Nat.le_of_ble_eq_true rfl⟩ ⟨Nat.le_of_ble_eq_true rfl, Nat.le_of_ble_eq_true rfl⟩ (fun r σ13443 hp => ?_)
      obtain ⟨h13444, hp⟩ := hp
      have h13445 := HS.trans h13442 h13444 (by decide)
      obtain ⟨rfl, rfl⟩ := hp
      refine m_istore_n F (lv' := [(3, .int (nI 1)), (2, .int (nI 1)), (1, .int (nI 4)), (0, .ref c)]) e_X10_readPay_39 (by decide) rfl ?_
      refine m_aload_n F rfl e_X10_readPay_40 ?_
      refine m_iconst F (v := 0) (by decide) e_X10_readPay_41 ?_
      refine m_ldc F kc_X10_177 e_X10_readPay_42 ?_
      refine r_callV F e_X10_readPay_44 (q_X10_numeralG (x_l X) V c T Z u h P13275 L _ _ 0 99999 1 h13445.1 (hob) oP13275 (by omega) (by omega) (fa13291) (by decide)) cb_X10_numeral ml_X10_165 im_X10_numeral se_X10_numeral h13445 rfl rfl (rest := []) rfl (Nat.le_of_ble_eq_true rfl) ⟨Nat.le_of_ble_eq_true rfl, Nat.le_of_ble_eq_true rfl⟩ ⟨Nat.le_of_ble_eq_true rfl, Nat.le_of_ble_eq_true rfl⟩ (fun r σ13446 hp => ?_)
      obtain ⟨h13447, hp⟩ := hp
      have h13448 := HS.trans h13445 h13447 (by decide)
      obtain ⟨rfl, rfl⟩ := hp
      refine m_istore F (lv' := [(4, .int (nI 0)), (3, .int (nI 1)), (2, .int (nI 1)), (1, .int (nI 4)), (0, .ref c)]) e_X10_readPay_47 (by decide) rfl ?_
      refine m_aload_n F rfl e_X10_readPay_49 ?_
      refine r_getC F e_X10_readPay_50 fl_X10_141 h13448 (fa13291) ?_
      refine m_if_eq F e_X10_readPay_53 (fun q => absurd q (by decide)) (fun _ => ?_)
      exact m_vret F hQ e_X10_readPay_56 (⟨P13275, oP13275, (by unfold RP; omega), (by unfold payS; dsimp only; rw [if_neg (by omega), ek13293, tolK_1 e13284]; exact RM.l (fa13291) (fb13292) (by decide) (by decide) (by omega)), h13448, rfl⟩)
    · have hz9 : True := trivial
      refine m_istore_n F (lv' := [(1, .int (nI 4)), (0, .ref c)]) e_X10_readPay_19 (by decide) rfl ?_
      refine m_aload_n F rfl e_X10_readPay_20 ?_
      refine r_callV F e_X10_readPay_21 (q_X10_goOnG (x_l X) V c T Z u h P13275 L _ _  4 h13274.1 (hob) oP13275  (fa13291) (by decide)) cb_X10_goOn ml_X10_154 im_X10_goOn se_X10_goOn h13274 rfl rfl (rest := []) rfl (Nat.le_of_ble_eq_true rfl) ⟨Nat.le_of_ble_eq_true rfl, Nat.le_of_ble_eq_true rfl⟩ ⟨Nat.le_of_ble_eq_true rfl, Nat.le_of_ble_eq_true rfl⟩ (fun r σ13449 hp => ?_)
      obtain ⟨h13450, hp⟩ := hp
      have h13451 := HS.trans h13274 h13450 (by decide)
      obtain ⟨rfl, rfl⟩ := hp
      refine m_aload_n F rfl e_X10_readPay_24 ?_
      refine m_iconst F (v := 1) (by decide) e_X10_readPay_25 ?_
      refine m_bipush F (v := 48) (by decide) e_X10_readPay_26 ?_
      refine r_callV F e_X10_readPay_28 (q_X10_numeralG (x_l X) V c T Z u h P13275 L _ _ 1 48 4 h13451.1 (hob) oP13275 (by omega) (by omega) (fa13291) (by decide)) cb_X10_numeral ml_X10_165 im_X10_numeral se_X10_numeral h13451 rfl rfl (rest := []) rfl (Nat.le_of_ble_eq_true rfl) ⟨Nat.le_of_ble_eq_true rfl, Nat.le_of_ble_eq_true rfl⟩ ⟨Nat.le_of_ble_eq_true rfl, Nat.le_of_ble_eq_true rfl⟩ (fun r σ13452 hp => ?_)
      obtain ⟨h13453, hp⟩ := hp
      have h13454 := HS.trans h13451 h13453 (by decide)
      obtain ⟨rfl, rfl⟩ := hp
      refine m_istore_n F (lv' := [(2, .int (nI 1)), (1, .int (nI 4)), (0, .ref c)]) e_X10_readPay_31 (by decide) rfl ?_
      refine m_aload_n F rfl e_X10_readPay_32 ?_
      refine m_iload_n F rfl e_X10_readPay_33 ?_
      refine m_bipush F (v := 48) (by decide) e_X10_readPay_34 ?_
      refine r_callV F e_X10_readPay_36 (q_X10_numeralG (x_l X) V c T Z u h P13275 L _ _ 1 48 4 h13454.1 (hob) oP13275 (by omega) (by omega) (fa13291) (by decide)) cb_X10_numeral ml_X10_165 im_X10_numeral se_X10_numeral h13454 rfl rfl (rest := []) rfl (Nat.le_of_ble_eq_true rfl) ⟨Nat.le_of_ble_eq_true rfl, Nat.le_of_ble_eq_true rfl⟩ ⟨Nat.le_of_ble_eq_true rfl, Nat.le_of_ble_eq_true rfl⟩ (fun r σ13455 hp => ?_)
      obtain ⟨h13456, hp⟩ := hp
      have h13457 := HS.trans h13454 h13456 (by decide)
      obtain ⟨rfl, rfl⟩ := hp
      refine m_istore_n F (lv' := [(3, .int (nI 1)), (2, .int (nI 1)), (1, .int (nI 4)), (0, .ref c)]) e_X10_readPay_39 (by decide) rfl ?_
      refine m_aload_n F rfl e_X10_readPay_40 ?_
      refine m_iconst F (v := 0) (by decide) e_X10_readPay_41 ?_
      refine m_ldc F kc_X10_177 e_X10_readPay_42 ?_
      refine r_callV F e_X10_readPay_44 (q_X10_numeralG (x_l X) V c T Z u h P13275 L _ _ 0 99999 4 h13457.1 (hob) oP13275 (by omega) (by omega) (fa13291) (by decide)) cb_X10_numeral ml_X10_165 im_X10_numeral se_X10_numeral h13457 rfl rfl (rest := []) rfl (Nat.le_of_ble_eq_true rfl) ⟨Nat.le_of_ble_eq_true rfl, Nat.le_of_ble_eq_true rfl⟩ ⟨Nat.le_of_ble_eq_true rfl, Nat.le_of_ble_eq_true rfl⟩ (fun r σ13458 hp => ?_)
      obtain ⟨h13459, hp⟩ := hp
      have h13460 := HS.trans h13457 h13459 (by decide)
      obtain ⟨rfl, rfl⟩ := hp
      refine m_istore F (lv' := [(4, .int (nI 0)), (3, .int (nI 1)), (2, .int (nI 1)), (1, .int (nI 4)), (0, .ref c)]) e_X10_readPay_47 (by decide) rfl ?_
      refine m_aload_n F rfl e_X10_readPay_49 ?_
      refine r_getC F e_X10_readPay_50 fl_X10_141 h13460 (fa13291) ?_
      refine m_if_eq F e_X10_readPay_53 (fun q => absurd q (by decide)) (fun _ => ?_)
      exact m_vret F hQ e_X10_readPay_56 (⟨P13275, oP13275, (by unfold RP; omega), (by unfold payS; dsimp only; rw [if_neg (by omega), ek13293, tolK_4 e13284 e13285]; exact RM.l (fa13291) (fb13292) (by decide) (by decide) (by omega)), h13460, rfl⟩)
  · have c7 : np = 12 := (nI_eq (a := np) (b := 12) (by omega) (by omega)).mp q7
    refine m_aload_n F rfl e_X10_readPay_10 ?_
    refine m_iconst F (v := 2) (by decide) e_X10_readPay_11 ?_
    refine r_callV F e_X10_readPay_12 (q_X10_wrongE (x_l X) V c T Z u h P L _ _ 2 n st so va ln fp h13264.1 (hob) hP (by omega) ⟨((fld_eq (h13263.2 c (by rw [show kC c c = 1 from kC_at (k := 0) (by decide)]; decide))).trans yd13255), ((fld_eq (h13263.2 c (by rw [show kC c c = 1 from kC_at (k := 0) (by decide)]; decide))).trans yd13256), ((fld_eq (h13263.2 c (by rw [show kC c c = 1 from kC_at (k := 0) (by decide)]; decide))).trans yd13257), ((fld_eq (h13263.2 c (by rw [show kC c c = 1 from kC_at (k := 0) (by decide)]; decide))).trans yd13258), ((fld_eq (h13263.2 c (by rw [show kC c c = 1 from kC_at (k := 0) (by decide)]; decide))).trans yd13259), ((fld_eq (h13263.2 c (by rw [show kC c c = 1 from kC_at (k := 0) (by decide)]; decide))).trans yd13260), ((fld_eq (h13263.2 c (by rw [show kC c c = 1 from kC_at (k := 0) (by decide)]; decide))).trans yd13261)⟩ (by decide)) cb_X10_wrong ml_X10_150 im_X10_wrong se_X10_wrong h13264 rfl rfl (rest := []) rfl (Nat.le_of_ble_eq_true rfl) ⟨Nat.le_of_ble_eq_true rfl, Nat.le_of_ble_eq_true rfl⟩ ⟨Nat.le_of_ble_eq_true rfl, Nat.le_of_ble_eq_true rfl⟩ (fun r σ13461 hp => ?_)
    obtain ⟨h13462, hp⟩ := hp
    have h13463 := HS.trans h13264 h13462 (by decide)
    have ga13464 := ga13265.of (h13462.2 (c + 1) (by rw [kC_at (k := 1) (by decide)]; decide))
    have ga13465 := ga13266.of (h13462.2 (c + 2) (by rw [kC_at (k := 2) (by decide)]; decide))
    have ga13466 := ga13267.of (h13462.2 (c + 3) (by rw [kC_at (k := 3) (by decide)]; decide))
    have ga13467 := ga13268.of (h13462.2 (c + 7) (by rw [kC_at (k := 7) (by decide)]; decide))
    have ga13468 := ga13269.of (h13462.2 (c + 8) (by rw [kC_at (k := 8) (by decide)]; decide))
    have ga13469 := ga13270.of (h13462.2 (c + 9) (by rw [kC_at (k := 9) (by decide)]; decide))
    have ga13470 := ga13271.of (h13462.2 (c + 11) (by rw [kC_at (k := 11) (by decide)]; decide))
    obtain ⟨hp, rfl⟩ := hp
    have hyd13471 := hp
    obtain ⟨yd13471, yd13472, yd13473, yd13474, yd13475, yd13476, yd13477⟩ := hyd13471
    refine m_aload_n F rfl e_X10_readPay_15 ?_
    refine r_callV F e_X10_readPay_16 (q_X10_atHandG (x_l X) V c T 0 u h P L _ _  2 h13463.1 (hob) hP  (yd13476) (by decide)) cb_X10_atHand ml_X10_174 im_X10_atHand se_X10_atHand h13463 rfl rfl (rest := []) rfl (Nat.le_of_ble_eq_true rfl) ⟨Nat.le_of_ble_eq_true rfl, Nat.le_of_ble_eq_true rfl⟩ ⟨Nat.le_of_ble_eq_true rfl, Nat.le_of_ble_eq_true rfl⟩ (fun r σ13478 hp => ?_)
    obtain ⟨h13479, hp⟩ := hp
    have h13480 := HS.trans h13463 h13479 (by decide)
    have ga13481 := ga13464.of (h13479.2 (c + 1) (by rw [kC_at (k := 1) (by decide)]; decide))
    have ga13482 := ga13465.of (h13479.2 (c + 2) (by rw [kC_at (k := 2) (by decide)]; decide))
    have ga13483 := ga13466.of (h13479.2 (c + 3) (by rw [kC_at (k := 3) (by decide)]; decide))
    have ga13484 := ga13467.of (h13479.2 (c + 7) (by rw [kC_at (k := 7) (by decide)]; decide))
    have ga13485 := ga13468.of (h13479.2 (c + 8) (by rw [kC_at (k := 8) (by decide)]; decide))
    have ga13486 := ga13469.of (h13479.2 (c + 9) (by rw [kC_at (k := 9) (by decide)]; decide))
    have ga13487 := ga13470.of (h13479.2 (c + 11) (by rw [kC_at (k := 11) (by decide)]; decide))
    obtain ⟨rfl, rfl⟩ := hp
    refine m_istore_n F (lv' := [(1, .int (nI 4)), (0, .ref c)]) e_X10_readPay_19 (by decide) rfl ?_
    refine m_aload_n F rfl e_X10_readPay_20 ?_
    refine r_callV F e_X10_readPay_21 (q_X10_goOnG (x_l X) V c T 0 u h P L _ _  2 h13480.1 (hob) hP  (yd13476) (by decide)) cb_X10_goOn ml_X10_154 im_X10_goOn se_X10_goOn h13480 rfl rfl (rest := []) rfl (Nat.le_of_ble_eq_true rfl) ⟨Nat.le_of_ble_eq_true rfl, Nat.le_of_ble_eq_true rfl⟩ ⟨Nat.le_of_ble_eq_true rfl, Nat.le_of_ble_eq_true rfl⟩ (fun r σ13488 hp => ?_)
    obtain ⟨h13489, hp⟩ := hp
    have h13490 := HS.trans h13480 h13489 (by decide)
    have ga13491 := ga13464.of (h13489.2 (c + 1) (by rw [kC_at (k := 1) (by decide)]; decide))
    have ga13492 := ga13465.of (h13489.2 (c + 2) (by rw [kC_at (k := 2) (by decide)]; decide))
    have ga13493 := ga13466.of (h13489.2 (c + 3) (by rw [kC_at (k := 3) (by decide)]; decide))
    have ga13494 := ga13467.of (h13489.2 (c + 7) (by rw [kC_at (k := 7) (by decide)]; decide))
    have ga13495 := ga13468.of (h13489.2 (c + 8) (by rw [kC_at (k := 8) (by decide)]; decide))
    have ga13496 := ga13469.of (h13489.2 (c + 9) (by rw [kC_at (k := 9) (by decide)]; decide))
    have ga13497 := ga13470.of (h13489.2 (c + 11) (by rw [kC_at (k := 11) (by decide)]; decide))
    obtain ⟨rfl, rfl⟩ := hp
    refine m_aload_n F rfl e_X10_readPay_24 ?_
    refine m_iconst F (v := 1) (by decide) e_X10_readPay_25 ?_
    refine m_bipush F (v := 48) (by decide) e_X10_readPay_26 ?_
    refine r_callV F e_X10_readPay_28 (q_X10_numeralG (x_l X) V c T 0 u h P L _ _ 1 48 2 h13490.1 (hob) hP (by omega) (by omega) (yd13476) (by decide)) cb_X10_numeral ml_X10_165 im_X10_numeral se_X10_numeral h13490 rfl rfl (rest := []) rfl (Nat.le_of_ble_eq_true rfl) ⟨Nat.le_of_ble_eq_true rfl, Nat.le_of_ble_eq_true rfl⟩ ⟨Nat.le_of_ble_eq_true rfl, Nat.le_of_ble_eq_true rfl⟩ (fun r σ13498 hp => ?_)
    obtain ⟨h13499, hp⟩ := hp
    have h13500 := HS.trans h13490 h13499 (by decide)
    have ga13501 := ga13464.of (h13499.2 (c + 1) (by rw [kC_at (k := 1) (by decide)]; decide))
    have ga13502 := ga13465.of (h13499.2 (c + 2) (by rw [kC_at (k := 2) (by decide)]; decide))
    have ga13503 := ga13466.of (h13499.2 (c + 3) (by rw [kC_at (k := 3) (by decide)]; decide))
    have ga13504 := ga13467.of (h13499.2 (c + 7) (by rw [kC_at (k := 7) (by decide)]; decide))
    have ga13505 := ga13468.of (h13499.2 (c + 8) (by rw [kC_at (k := 8) (by decide)]; decide))
    have ga13506 := ga13469.of (h13499.2 (c + 9) (by rw [kC_at (k := 9) (by decide)]; decide))
    have ga13507 := ga13470.of (h13499.2 (c + 11) (by rw [kC_at (k := 11) (by decide)]; decide))
    obtain ⟨rfl, rfl⟩ := hp
    refine m_istore_n F (lv' := [(2, .int (nI 1)), (1, .int (nI 4)), (0, .ref c)]) e_X10_readPay_31 (by decide) rfl ?_
    refine m_aload_n F rfl e_X10_readPay_32 ?_
    refine m_iload_n F rfl e_X10_readPay_33 ?_
    refine m_bipush F (v := 48) (by decide) e_X10_readPay_34 ?_
    refine r_callV F e_X10_readPay_36 (q_X10_numeralG (x_l X) V c T 0 u h P L _ _ 1 48 2 h13500.1 (hob) hP (by omega) (by omega) (yd13476) (by decide)) cb_X10_numeral ml_X10_165 im_X10_numeral se_X10_numeral h13500 rfl rfl (rest := []) rfl (Nat.le_of_ble_eq_true rfl) ⟨Nat.le_of_ble_eq_true rfl, Nat.le_of_ble_eq_true rfl⟩ ⟨Nat.le_of_ble_eq_true rfl, Nat.le_of_ble_eq_true rfl⟩ (fun r σ13508 hp => ?_)
    obtain ⟨h13509, hp⟩ := hp
    have h13510 := HS.trans h13500 h13509 (by decide)
    have ga13511 := ga13464.of (h13509.2 (c + 1) (by rw [kC_at (k := 1) (by decide)]; decide))
    have ga13512 := ga13465.of (h13509.2 (c + 2) (by rw [kC_at (k := 2) (by decide)]; decide))
    have ga13513 := ga13466.of (h13509.2 (c + 3) (by rw [kC_at (k := 3) (by decide)]; decide))
    have ga13514 := ga13467.of (h13509.2 (c + 7) (by rw [kC_at (k := 7) (by decide)]; decide))
    have ga13515 := ga13468.of (h13509.2 (c + 8) (by rw [kC_at (k := 8) (by decide)]; decide))
    have ga13516 := ga13469.of (h13509.2 (c + 9) (by rw [kC_at (k := 9) (by decide)]; decide))
    have ga13517 := ga13470.of (h13509.2 (c + 11) (by rw [kC_at (k := 11) (by decide)]; decide))
    obtain ⟨rfl, rfl⟩ := hp
    refine m_istore_n F (lv' := [(3, .int (nI 1)), (2, .int (nI 1)), (1, .int (nI 4)), (0, .ref c)]) e_X10_readPay_39 (by decide) rfl ?_
    refine m_aload_n F rfl e_X10_readPay_40 ?_
    refine m_iconst F (v := 0) (by decide) e_X10_readPay_41 ?_
    refine m_ldc F kc_X10_177 e_X10_readPay_42 ?_
    refine r_callV F e_X10_readPay_44 (q_X10_numeralG (x_l X) V c T 0 u h P L _ _ 0 99999 2 h13510.1 (hob) hP (by omega) (by omega) (yd13476) (by decide)) cb_X10_numeral ml_X10_165 im_X10_numeral se_X10_numeral h13510 rfl rfl (rest := []) rfl (Nat.le_of_ble_eq_true rfl) ⟨Nat.le_of_ble_eq_true rfl, Nat.le_of_ble_eq_true rfl⟩ ⟨Nat.le_of_ble_eq_true rfl, Nat.le_of_ble_eq_true rfl⟩ (fun r σ13518 hp => ?_)
    obtain ⟨h13519, hp⟩ := hp
    have h13520 := HS.trans h13510 h13519 (by decide)
    have ga13521 := ga13464.of (h13519.2 (c + 1) (by rw [kC_at (k := 1) (by decide)]; decide))
    have ga13522 := ga13465.of (h13519.2 (c + 2) (by rw [kC_at (k := 2) (by decide)]; decide))
    have ga13523 := ga13466.of (h13519.2 (c + 3) (by rw [kC_at (k := 3) (by decide)]; decide))
    have ga13524 := ga13467.of (h13519.2 (c + 7) (by rw [kC_at (k := 7) (by decide)]; decide))
    have ga13525 := ga13468.of (h13519.2 (c + 8) (by rw [kC_at (k := 8) (by decide)]; decide))
    have ga13526 := ga13469.of (h13519.2 (c + 9) (by rw [kC_at (k := 9) (by decide)]; decide))
    have ga13527 := ga13470.of (h13519.2 (c + 11) (by rw [kC_at (k := 11) (by decide)]; decide))
    obtain ⟨rfl, rfl⟩ := hp
    refine m_istore F (lv' := [(4, .int (nI 0)), (3, .int (nI 1)), (2, .int (nI 1)), (1, .int (nI 4)), (0, .ref c)]) e_X10_readPay_47 (by decide) rfl ?_
    refine m_aload_n F rfl e_X10_readPay_49 ?_
    refine r_getC F e_X10_readPay_50 fl_X10_141 h13520 (yd13476) ?_
    refine m_if_eq F e_X10_readPay_53 (fun q => absurd q (by decide)) (fun _ => ?_)
    have h13528 : HS V c _ [0, 2, 4, 5, 6, 7, 8, 9, 10, 12, 13, 14, 15, 16, 17, 18, 19, 20, 21, 22, 23] _ _ := ⟨HR.mono (Z' := Z) (by intro e; first | rfl | assumption | omega) h13520.1, h13520.2⟩
    exact m_vret F hQ e_X10_readPay_56 (⟨P, hP, (by unfold RP; omega), (by unfold payS; dsimp only; rw [if_pos (by omega)]; exact RM.l (yd13476) (yd13477) (by decide) (by decide) (by omega)), h13528, rfl⟩)
