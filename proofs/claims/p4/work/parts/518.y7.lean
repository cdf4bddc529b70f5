set_option maxRecDepth 20000 in
theorem lq_X10_readPayE_60 {V : VX} {X : MX} {N : Nat} {σ : Mem} {c T Z u h : Nat} {P : NP} {L : Nat → LQ}  {n st : Nat} {so va : Int32} {ln : Nat} {fp : Int32} {t : Nat → Nat} {s9 v9 : Nat} {nm : Nat → Nat} {np lc no sd : Nat} {md : Nat → Nat → Bool} (F : Fx V X yX10_readPay cX10_readPay 6 none (rmd 8 0 0)) (hQ : Rt V X 0 0 N (fun r τ => ∃ P9 : NP, OKP P9 ∧ RP P P9 ∧ RM τ c n P9 (payS (tok t n) (st, s9, v9, P.a) P.n5 nm np P.n7 lc no sd md ln) ∧ HS V c (⟨T, Z, u, h, P9, L⟩ : RG) [0, 2, 4, 5, 6, 7, 8, 9, 10, 12, 13, 14, 15, 16, 17, 18, 19, 20, 21, 22, 23] σ τ ∧ r = none)) (hob : OKB L) (hP : OKP P) (hp0 : YD σ c n st so va ln 0 fp) (hp1 : BR σ c n t) (hp2 : n ≤ 700) (hp3 : P.a ≤ n) (hp4 : MT so va s9 v9) (hp5 : st ≤ n) (hp6 : NR σ c np no sd) (hp7 : MR σ c P.n5 nm) (hp8 : KR σ c P.n5 md) (hp9 : FR σ c 8 1 P.n5 md) (hp10 : FR σ c 9 2 P.n5 md) (hp11 : QR σ c P.n7 lc) (hp12 : np ≤ 12) (hp13 : no ≤ 4) (hp14 : sd ≤ 1)  : ∀ (fuel : Nat) (a : Nat) (b : Nat) (m1 : Nat) (k : Nat) (kt : Tk) (P1 : NP) (τ : Mem), HS V c (⟨T, Z, u, h, P1, L⟩ : RG) [0, 2, 4, 5, 6, 7, 8, 9, 10, 12, 13, 14, 15, 16, 17, 18, 19, 20, 21, 22, 23] σ τ → OKP P1 → RP P P1 → a ≤ 7 ∧ 1 ≤ k ∧ k ≤ 49 ∧ b ≤ 48 ∧ RM τ c n P1 (.inr (kt, P.n5, nm, np, P.n7, lc, no, sd, md, ln)) ∧ (payS (tok t n) (st, s9, v9, P.a) P.n5 nm np P.n7 lc no sd md ln) = .inr (kt, P.n5, nm, np + 1, P.n7, lc, no, sd, md, ln) ∧ np < 12 → 49 - k < fuel → Wm V X 6 N τ 0 0 60 [(0, .ref c), (1, .int (nI a)), (3, .int (nI b)), (4, .int (nI m1)), (5, .int (nI k))] [] := by
  intro fuel
  induction fuel with
  | zero => intros; rename_i hm; exact absurd hm (Nat.not_lt_zero _)
  | succ fuel ih =>
    intro a b m1 k kt P1 τ h1 hP1 hR1 hi hm
    have hPP := hP
    unfold OKP at hPP
    have hPP1 := hP1
    unfold OKP at hPP1
    unfold RP at hR1
    obtain ⟨i1, i2, i3, i4, hRM, i6, i7⟩ := hi
    obtain ⟨so2, va2, fp2, mt2, yd2, ⟨pa2, p52, p72⟩, hN2, hM2, hK2, hF2, hG2, hQ2, c1, c2, c3, c4, c5⟩ := hRM
    have hn7 := hp2
    have hyd13217 := yd2
    obtain ⟨yd13217, yd13218, yd13219, yd13220, yd13221, yd13222, yd13223⟩ := hyd13217
    refine m_iload F rfl e_X10_readPay_60 ?_
    refine m_iload_n F rfl e_X10_readPay_62 ?_
    refine m_icmp_gt F e_X10_readPay_63 (fun q63 => ?_) (fun q63 => ?_)
    · have c63 : k > b := (nI_ltI (a := b) (b := k) (by omega) (by omega)).mp q63
      refine m_aload_n F rfl e_X10_readPay_91 ?_
      refine m_iconst F (v := 1) (by decide) e_X10_readPay_92 ?_
      refine m_aload_n F rfl e_X10_readPay_93 ?_
      refine m_iconst F (v := 1) (by decide) e_X10_readPay_94 ?_
      refine r_callV F e_X10_readPay_95 (q_X10_reading1E (x_l X) V c T Z u h P1 L _ _  np no sd h1.1 (hob) hP1  hN2) cb_X10_reading ml_X10_157 im_X10_reading se_X10_reading h1 rfl rfl (rest := [.int 1, .ref c]) rfl (Nat.le_of_ble_eq_true rfl) ⟨Nat.le_of_ble_eq_true rfl, Nat.le_of_ble_eq_true rfl⟩ ⟨Nat.le_of_ble_eq_true rfl, Nat.le_of_ble_eq_true rfl⟩ (fun r σ13224 hp => ?_)
      obtain ⟨h13225, hp⟩ := hp
      have h13226 := HS.trans h1 h13225 (by decide)
      have ga13227 := hN2.of (h13225.2 (c + 2) (by rw [kC_at (k := 2) (by decide)]; decide))
      have ga13228 := hM2.of (h13225.2 (c + 3) (by rw [kC_at (k := 3) (by decide)]; decide))
      have ga13229 := hK2.of (h13225.2 (c + 7) (by rw [kC_at (k := 7) (by decide)]; decide))
      have ga13230 := hF2.of (h13225.2 (c + 8) (by rw [kC_at (k := 8) (by decide)]; decide))
      have ga13231 := hG2.of (h13225.2 (c + 9) (by rw [kC_at (k := 9) (by decide)]; decide))
      have ga13232 := hQ2.of (h13225.2 (c + 11) (by rw [kC_at (k := 11) (by decide)]; decide))
      obtain rfl := hp
      refine m_iconst F (v := 1) (by decide) e_X10_readPay_98 ?_
      refine m_iadd F e_X10_readPay_99 ?_
      refine Wm.topE (w := nI (np + 1)) (nI_add np 1) ?_
      refine r_callV F e_X10_readPay_100 (q_X10_reads1E (x_l X) V c T Z u h P1 L _ _ (np + 1)  h13226.1 (hob) hP1 (by omega) ) cb_X10_reads ml_X10_170 im_X10_reads se_X10_reads h13226 rfl rfl (rest := []) rfl (Nat.le_of_ble_eq_true rfl) ⟨Nat.le_of_ble_eq_true rfl, Nat.le_of_ble_eq_true rfl⟩ ⟨Nat.le_of_ble_eq_true rfl, Nat.le_of_ble_eq_true rfl⟩ (fun r σ13233 hp => ?_)
      obtain ⟨h13234, hp⟩ := hp
      have h13235 := HS.trans h13226 h13234 (by decide)
      have ga13236 := ga13228.of (h13234.2 (c + 3) (by rw [kC_at (k := 3) (by decide)]; decide))
      have ga13237 := ga13229.of (h13234.2 (c + 7) (by rw [kC_at (k := 7) (by decide)]; decide))
      have ga13238 := ga13230.of (h13234.2 (c + 8) (by rw [kC_at (k := 8) (by decide)]; decide))
      have ga13239 := ga13231.of (h13234.2 (c + 9) (by rw [kC_at (k := 9) (by decide)]; decide))
      have ga13240 := ga13232.of (h13234.2 (c + 11) (by rw [kC_at (k := 11) (by decide)]; decide))
      obtain ⟨ea13241, eb13242, rfl⟩ := hp
      have ga13243 := NR.p ga13227 ea13241 eb13242
      exact m_vret F hQ e_X10_readPay_103 (⟨P1, hP1, (by unfold RP; omega), (by rw [i6]; exact RM.r mt2 ⟨((fld_eq (h13234.2 c (by rw [show kC c c = 1 from kC_at (k := 0) (by decide)]; decide))).trans ((fld_eq (h13225.2 c (by rw [show kC c c = 1 from kC_at (k := 0) (by decide)]; decide))).trans yd13217)), ((fld_eq (h13234.2 c (by rw [show kC c c = 1 from kC_at (k := 0) (by decide)]; decide))).trans ((fld_eq (h13225.2 c (by rw [show kC c c = 1 from kC_at (k := 0) (by decide)]; decide))).trans yd13218)), ((fld_eq (h13234.2 c (by rw [show kC c c = 1 from kC_at (k := 0) (by decide)]; decide))).trans ((fld_eq (h13225.2 c (by rw [show kC c c = 1 from kC_at (k := 0) (by decide)]; decide))).trans yd13219)), ((fld_eq (h13234.2 c (by rw [show kC c c = 1 from kC_at (k := 0) (by decide)]; decide))).trans ((fld_eq (h13225.2 c (by rw [show kC c c = 1 from kC_at (k := 0) (by decide)]; decide))).trans yd13220)), ((fld_eq (h13234.2 c (by rw [show kC c c = 1 from kC_at (k := 0) (by decide)]; decide))).trans ((fld_eq (h13225.2 c (by rw [show kC c c = 1 from kC_at (k := 0) (by decide)]; decide))).trans yd13221)), ((fld_eq (h13234.2 c (by rw [show kC c c = 1 from kC_at (k := 0) (by decide)]; decide))).trans ((fld_eq (h13225.2 c (by rw [show kC c c = 1 from kC_at (k := 0) (by decide)]; decide))).trans yd13222)), ((fld_eq (h13234.2 c (by rw [show kC c c = 1 from kC_at (k := 0) (by decide)]; decide))).trans ((fld_eq (h13225.2 c (by rw [show kC c c = 1 from kC_at (k := 0) (by decide)]; decide))).trans yd13223))⟩ (by omega) (by omega) (by omega) ga13243 ga13236 ga13237 ga13238 ga13239 ga13240 (by omega) (by omega) (by omega) (by omega) (by omega)), h13235, rfl⟩)
    · have c63 : k ≤ b := by have hh := mt (nI_ltI (a := b) (b := k) (by omega) (by omega)).mpr q63; omega
      refine m_aload_n F rfl e_X10_readPay_66 ?_
      refine r_get F e_X10_readPay_67 fl_X10_37 h1 rfl (fun v hv f13244 => ?_)
      obtain rfl : v = .ref (c + 10) := hv
      refine m_bipush F (v := 48) (by decide) e_X10_readPay_70 ?_
      refine m_iload_n F rfl e_X10_readPay_72 ?_
      refine m_imul F e_X10_readPay_73 ?_
      refine Wm.topE (w := nI (48 * a)) (pk_mul 48 a) ?_
      refine m_iload F rfl e_X10_readPay_74 ?_
      refine m_iadd F e_X10_readPay_76 ?_
      refine Wm.topE (w := nI ((48 * a) + k)) (nI_add (48 * a) k) ?_
      refine m_iconst F (v := 1) (by decide) e_X10_readPay_77 ?_
      refine m_isub F e_X10_readPay_78 ?_
      refine Wm.topE (w := nI (((48 * a) + k) - 1)) (pk_sub (a := (48 * a) + k) (b := 1) (by omega)) ?_
      refine m_dup2_11 F rfl rfl e_X10_readPay_79 ?_
      refine r_iald F (len := 384) (j := ((48 * a) + k) - 1) e_X10_readPay_80 h1 (fun _ h => h) (by decide) (nI_clamp (by omega)) (vp_in_nI (by omega) (by decide)) (fun x13245 h13246 f13247 => ?_)
      refine m_iload F rfl e_X10_readPay_81 ?_
      refine m_iadd F e_X10_readPay_83 ?_
      refine Wm.top (fun x13248 _ => ?_)
      refine r_iast F (g' := (⟨T, Z, u, h, P1, L⟩ : RG)) (len := 384) (j := ((48 * a) + k) - 1) e_X10_readPay_84 h1 (fun _ h => h) (fun f h => ⟨f, rfl, h⟩) (by decide) (by decide) (nI_clamp (by omega)) (vp_in_nI (by omega) (by decide)) trivial (fun _ _ _ h => h) (fun _ _ _ h => h) (fun σ13249 h13250 g13251 f13252 g13253 => ?_)
      have ga13254 := hN2.of (g13251 _ (by omega))
      have ga13255 := hM2.of (g13251 _ (by omega))
      have ga13256 := hK2.of (g13251 _ (by omega))
      have ga13257 := hF2.of (g13251 _ (by omega))
      have ga13258 := hG2.of (g13251 _ (by omega))
      have ga13259 := hQ2.of (g13251 _ (by omega))
      refine m_iinc F (v := nI (k + 1)) (lv' := [(5, .int (nI (k + 1))), (0, .ref c), (1, .int (nI a)), (3, .int (nI b)), (4, .int (nI m1))]) e_X10_readPay_85 rfl (nI_add k 1) (by decide) rfl ?_
      refine m_goto F e_X10_readPay_88 ?_
      refine Wm.lvsub (lv' := [(0, .ref c), (1, .int (nI a)), (3, .int (nI b)), (4, .int (nI m1)), (5, .int (nI (k + 1)))]) ?_ [1, 2, 3, 4, 0] rfl
      exact ih a b m1 (k + 1) kt P1 _ h13250 hP1 (by unfold RP; omega) ⟨by omega, by omega, by omega, by omega, RM.r mt2 ⟨((fld_eq (g13251 _ (by omega))).trans yd13217), ((fld_eq (g13251 _ (by omega))).trans yd13218), ((fld_eq (g13251 _ (by omega))).trans yd13219), ((fld_eq (g13251 _ (by omega))).trans yd13220), ((fld_eq (g13251 _ (by omega))).trans yd13221), ((fld_eq (g13251 _ (by omega))).trans yd13222), ((fld_eq (g13251 _ (by omega))).trans yd13223)⟩ (by omega) (by omega) (by omega) ga13254 ga13255 ga13256 ga13257 ga13258 ga13259 (by omega) (by omega) (by omega) (by omega) (by omega), i6, i7⟩ (by omega)
set_option maxRecDepth 20000 in
theorem q_X10_readPayE (l : Launch) (V : VX) (c T Z u h : Nat) (P : NP) (L : Nat → LQ) (N : Nat) (σ : Mem) (n st : Nat) (so va : Int32) (ln : Nat) (fp : Int32) (t : Nat → Nat) (s9 v9 : Nat) (nm : Nat → Nat) (np lc no sd : Nat) (md : Nat → Nat → Bool) (h0 : HR V c ⟨T, Z, u, h, P, L⟩ σ) (hob : OKB L) (hP : OKP P) (hp0 : YD σ c n st so va ln 0 fp) (hp1 : BR σ c n t) (hp2 : n ≤ 700) (hp3 : P.a ≤ n) (hp4 : MT so va s9 v9) (hp5 : st ≤ n) (hp6 : NR σ c np no sd) (hp7 : MR σ c P.n5 nm) (hp8 : KR σ c P.n5 md) (hp9 : FR σ c 8 1 P.n5 md) (hp10 : FR σ c 9 2 P.n5 md) (hp11 : QR σ c P.n7 lc) (hp12 : np ≤ 12) (hp13 : no ≤ 4) (hp14 : sd ≤ 1) : Ct l V yX10_readPay cX10_readPay 6 none 8 0 0 N σ [.ref c] (fun r τ => ∃ P9 : NP, OKP P9 ∧ RP P P9 ∧ RM τ c n P9 (payS (tok t n) (st, s9, v9, P.a) P.n5 nm np P.n7 lc no sd md ln) ∧ HS V c (⟨T, Z, u, h, P9, L⟩ : RG) [0, 2, 4, 5, 6, 7, 8, 9, 10, 12, 13, 14, 15, 16, 17, 18, 19, 20, 21, 22, 23] σ τ ∧ r = none) := by
  refine Ct.of (by decide) (Nat.le_of_ble_eq_true rfl) [(0, .ref c)] rfl (fun X hX F hQ => ?_)
  have hPP := hP
  unfold OKP at hPP
  have h1 : HS V c ⟨T, Z, u, h, P, L⟩ [0, 2, 4, 5, 6, 7, 8, 9, 10, 12, 13, 14, 15, 16, 17, 18, 19, 20, 21, 22, 23] σ σ := HS.start h0
  have hyd13260 := hp0
  obtain ⟨yd13260, yd13261, yd13262, yd13263, yd13264, yd13265, yd13266⟩ := hyd13260
  have hn7 := hp2
  refine m_aload_n F rfl e_X10_readPay_0 ?_
  refine m_iconst F (v := 1) (by decide) e_X10_readPay_1 ?_
  refine r_callV F e_X10_readPay_2 (q_X10_reading1E (x_l X) V c T Z u h P L _ _  np no sd h1.1 (hob) hP  hp6) cb_X10_reading ml_X10_157 im_X10_reading se_X10_reading h1 rfl rfl (rest := []) rfl (Nat.le_of_ble_eq_true rfl) ⟨Nat.le_of_ble_eq_true rfl, Nat.le_of_ble_eq_true rfl⟩ ⟨Nat.le_of_ble_eq_true rfl, Nat.le_of_ble_eq_true rfl⟩ (fun r σ13267 hp => ?_)
  obtain ⟨h13268, hp⟩ := hp
  have h13269 := HS.trans h1 h13268 (by decide)
  have ga13270 := hp1.of (h13268.2 (c + 1) (by rw [kC_at (k := 1) (by decide)]; decide))
  have ga13271 := hp6.of (h13268.2 (c + 2) (by rw [kC_at (k := 2) (by decide)]; decide))
  have ga13272 := hp7.of (h13268.2 (c + 3) (by rw [kC_at (k := 3) (by decide)]; decide))
  have ga13273 := hp8.of (h13268.2 (c + 7) (by rw [kC_at (k := 7) (by decide)]; decide))
  have ga13274 := hp9.of (h13268.2 (c + 8) (by rw [kC_at (k := 8) (by decide)]; decide))
  have ga13275 := hp10.of (h13268.2 (c + 9) (by rw [kC_at (k := 9) (by decide)]; decide))
  have ga13276 := hp11.of (h13268.2 (c + 11) (by rw [kC_at (k := 11) (by decide)]; decide))
  obtain rfl := hp
  refine m_bipush F (v := 12) (by decide) e_X10_readPay_5 ?_
  refine m_icmp_ne F e_X10_readPay_7 (fun q7 => ?_) (fun q7 => ?_)
  · have c7 : np ≠ 12 := by have hh := mt (nI_eq (a := np) (b := 12) (by omega) (by omega)).mpr q7; omega
    refine m_aload_n F rfl e_X10_readPay_15 ?_
    refine r_callV F e_X10_readPay_16 (q_X10_atHandE (x_l X) V c T Z u h P L _ _  n st so va ln fp t nm h13269.1 (hob) hP  ⟨((fld_eq (h13268.2 c (by rw [show kC c c = 1 from kC_at (k := 0) (by decide)]; decide))).trans yd13260), ((fld_eq (h13268.2 c (by rw [show kC c c = 1 from kC_at (k := 0) (by decide)]; decide))).trans yd13261), ((fld_eq (h13268.2 c (by rw [show kC c c = 1 from kC_at (k := 0) (by decide)]; decide))).trans yd13262), ((fld_eq (h13268.2 c (by rw [show kC c c = 1 from kC_at (k := 0) (by decide)]; decide))).trans yd13263), ((fld_eq (h13268.2 c (by rw [show kC c c = 1 from kC_at (k := 0) (by decide)]; decide))).trans yd13264), ((fld_eq (h13268.2 c (by rw [show kC c c = 1 from kC_at (k := 0) (by decide)]; decide))).trans yd13265), ((fld_eq (h13268.2 c (by rw [show kC c c = 1 from kC_at (k := 0) (by decide)]; decide))).trans yd13266)⟩ ga13270 hn7 (by omega) ga13272) cb_X10_atHand ml_X10_174 im_X10_atHand se_X10_atHand h13269 rfl rfl (rest := []) rfl (Nat.le_of_ble_eq_true rfl) ⟨Nat.le_of_ble_eq_true rfl, Nat.le_of_ble_eq_true rfl⟩ ⟨Nat.le_of_ble_eq_true rfl, Nat.le_of_ble_eq_true rfl⟩ (fun r σ13277 hp => ?_)
    obtain ⟨P13280, oP13280, rP13280, pr13281, h13278, hp⟩ := hp
    have h13279 := HS.trans h13269 h13278 (by decide)
    have xP13280 := oP13280
    unfold OKP at xP13280
    unfold RA at rP13280
    have ga13282 := ga13270.of (h13278.2 (c + 1) (by rw [kC_at (k := 1) (by decide)]; decide))
    have ga13283 := ga13271.of (h13278.2 (c + 2) (by rw [kC_at (k := 2) (by decide)]; decide))
    have ga13284 := ga13272.of (h13278.2 (c + 3) (by rw [kC_at (k := 3) (by decide)]; decide))
    have ga13285 := ga13273.of (h13278.2 (c + 7) (by rw [kC_at (k := 7) (by decide)]; decide))
    have ga13286 := ga13274.of (h13278.2 (c + 8) (by rw [kC_at (k := 8) (by decide)]; decide))
    have ga13287 := ga13275.of (h13278.2 (c + 9) (by rw [kC_at (k := 9) (by decide)]; decide))
    have ga13288 := ga13276.of (h13278.2 (c + 11) (by rw [kC_at (k := 11) (by decide)]; decide))
    have bk13298 := tok_ok (t := t) (n := n) P.a (by omega)
    generalize ek13298 : tok t n P.a = k13298 at pr13281 bk13298
    rcases pr13281 with ⟨e13289, e13290, ea13291, ⟨so13292, va13293, mt13294, yd13295⟩, rfl⟩ | ⟨e13289, ⟨fa13296, fb13297⟩, rfl⟩ | ⟨e13289, e13290, ⟨fa13296, fb13297⟩, rfl⟩
    · have hyd13299 := yd13295
      obtain ⟨yd13299, yd13300, yd13301, yd13302, yd13303, yd13304, yd13305⟩ := hyd13299
      refine m_istore_n F (lv' := [(1, .int (nI (4 + fx nm k13298.2.2.1 P.n5))), (0, .ref c)]) e_X10_readPay_19 (by decide) rfl ?_
      refine m_aload_n F rfl e_X10_readPay_20 ?_
      refine r_callV F e_X10_readPay_21 (q_X10_goOnE (x_l X) V c T Z u h P13280 L _ _  n k13298.1 so13292 va13293 ln fp t h13279.1 (hob) oP13280  ⟨(yd13299), (yd13300), (yd13301), (yd13302), (yd13303), (yd13304), (yd13305)⟩ ga13282 hn7 (by omega)) cb_X10_goOn ml_X10_154 im_X10_goOn se_X10_goOn h13279 rfl rfl (rest := []) rfl (Nat.le_of_ble_eq_true rfl) ⟨Nat.le_of_ble_eq_true rfl, Nat.le_of_ble_eq_true rfl⟩ ⟨Nat.le_of_ble_eq_true rfl, Nat.le_of_ble_eq_true rfl⟩ (fun r σ13306 hp => ?_)
      obtain ⟨P13309, oP13309, rP13309, pr13310, pr13311, h13307, hp⟩ := hp
      have h13308 := HS.trans h13279 h13307 (by decide)
      have xP13309 := oP13309
      unfold OKP at xP13309
      unfold RA at rP13309
      have ga13312 := ga13282.of (h13307.2 (c + 1) (by rw [kC_at (k := 1) (by decide)]; decide))
      have ga13313 := ga13283.of (h13307.2 (c + 2) (by rw [kC_at (k := 2) (by decide)]; decide))
      have ga13314 := ga13284.of (h13307.2 (c + 3) (by rw [kC_at (k := 3) (by decide)]; decide))
      have ga13315 := ga13285.of (h13307.2 (c + 7) (by rw [kC_at (k := 7) (by decide)]; decide))
      have ga13316 := ga13286.of (h13307.2 (c + 8) (by rw [kC_at (k := 8) (by decide)]; decide))
      have ga13317 := ga13287.of (h13307.2 (c + 9) (by rw [kC_at (k := 9) (by decide)]; decide))
      have ga13318 := ga13288.of (h13307.2 (c + 11) (by rw [kC_at (k := 11) (by decide)]; decide))
      obtain rfl := hp
      obtain ⟨so13319, va13320, mt13321, yd13322⟩ := pr13311
      generalize ek13323 : tok t n P13280.a = k13323 at pr13310 mt13321 yd13322
      have bk13323 := tok_ok (t := t) (n := n) P13280.a (by omega)
      rw [ek13323] at bk13323
      rw [show P13280.a = k13298.2.2.2 by omega] at ek13323
      have hyd13324 := yd13322
      obtain ⟨yd13324, yd13325, yd13326, yd13327, yd13328, yd13329, yd13330⟩ := hyd13324
      refine m_aload_n F rfl e_X10_readPay_24 ?_
      refine m_iconst F (v := 1) (by decide) e_X10_readPay_25 ?_
      refine m_bipush F (v := 48) (by decide) e_X10_readPay_26 ?_
      refine r_callV F e_X10_readPay_28 (q_X10_numeralE (x_l X) V c T Z u h P13309 L _ _ 1 48 n k13323.1 so13319 va13320 ln fp t k13323.2.1 k13323.2.2.1 h13308.1 (hob) oP13309 (by omega) (by omega) ⟨(yd13324), (yd13325), (yd13326), (yd13327), (yd13328), (yd13329), (yd13330)⟩ ga13312 hn7 (by omega) mt13321) cb_X10_numeral ml_X10_165 im_X10_numeral se_X10_numeral h13308 rfl rfl (rest := []) rfl (Nat.le_of_ble_eq_true rfl) ⟨Nat.le_of_ble_eq_true rfl, Nat.le_of_ble_eq_true rfl⟩ ⟨Nat.le_of_ble_eq_true rfl, Nat.le_of_ble_eq_true rfl⟩ (fun r σ13331 hp => ?_)
      obtain ⟨P13334, oP13334, rP13334, pr13335, h13332, hp⟩ := hp
      have h13333 := HS.trans h13308 h13332 (by decide)
      have xP13334 := oP13334
      unfold OKP at xP13334
      unfold RA at rP13334
      have ga13336 := ga13312.of (h13332.2 (c + 1) (by rw [kC_at (k := 1) (by decide)]; decide))
      have ga13337 := ga13313.of (h13332.2 (c + 2) (by rw [kC_at (k := 2) (by decide)]; decide))
      have ga13338 := ga13314.of (h13332.2 (c + 3) (by rw [kC_at (k := 3) (by decide)]; decide))
      have ga13339 := ga13315.of (h13332.2 (c + 7) (by rw [kC_at (k := 7) (by decide)]; decide))
      have ga13340 := ga13316.of (h13332.2 (c + 8) (by rw [kC_at (k := 8) (by decide)]; decide))
      have ga13341 := ga13317.of (h13332.2 (c + 9) (by rw [kC_at (k := 9) (by decide)]; decide))
      have ga13342 := ga13318.of (h13332.2 (c + 11) (by rw [kC_at (k := 11) (by decide)]; decide))
      rcases pr13335 with ⟨e13343, l13345, l13346, ea13347, ⟨so13348, va13349, mt13350, yd13351⟩, rfl⟩ | ⟨e13343, ⟨fa13352, fb13353⟩, rfl⟩ | ⟨e13343, e13344, ⟨fa13352, fb13353⟩, rfl⟩
      · have bk13354 := tok_ok (t := t) (n := n) P13309.a (by omega)
        generalize ek13354 : tok t n P13309.a = k13354 at ea13347 mt13350 yd13351 bk13354
        rw [show P13309.a = k13323.2.2.2 by omega] at ek13354
        have hyd13355 := yd13351
        obtain ⟨yd13355, yd13356, yd13357, yd13358, yd13359, yd13360, yd13361⟩ := hyd13355
        refine m_istore_n F (lv' := [(2, .int (nI k13323.2.2.1)), (1, .int (nI (4 + fx nm k13298.2.2.1 P.n5))), (0, .ref c)]) e_X10_readPay_31 (by decide) rfl ?_
        refine m_aload_n F rfl e_X10_readPay_32 ?_
        refine m_iload_n F rfl e_X10_readPay_33 ?_
        refine m_bipush F (v := 48) (by decide) e_X10_readPay_34 ?_
        refine r_callV F e_X10_readPay_36 (q_X10_numeralE (x_l X) V c T Z u h P13334 L _ _ k13323.2.2.1 48 n k13354.1 so13348 va13349 ln fp t k13354.2.1 k13354.2.2.1 h13333.1 (hob) oP13334 (by omega) (by omega) ⟨(yd13355), (yd13356), (yd13357), (yd13358), (yd13359), (yd13360), (yd13361)⟩ ga13336 hn7 (by omega) mt13350) cb_X10_numeral ml_X10_165 im_X10_numeral se_X10_numeral h13333 rfl rfl (rest := []) rfl (Nat.le_of_ble_eq_true rfl) ⟨Nat.le_of_ble_eq_true rfl, Nat.le_of_ble_eq_true rfl⟩ ⟨Nat.le_of_ble_eq_true rfl, Nat.le_of_ble_eq_true rfl⟩ (fun r σ13362 hp => ?_)
        obtain ⟨P13365, oP13365, rP13365, pr13366, h13363, hp⟩ := hp
        have h13364 := HS.trans h13333 h13363 (by decide)
        have xP13365 := oP13365
        unfold OKP at xP13365
        unfold RA at rP13365
        have ga13367 := ga13336.of (h13363.2 (c + 1) (by rw [kC_at (k := 1) (by decide)]; decide))
        have ga13368 := ga13337.of (h13363.2 (c + 2) (by rw [kC_at (k := 2) (by decide)]; decide))
        have ga13369 := ga13338.of (h13363.2 (c + 3) (by rw [kC_at (k := 3) (by decide)]; decide))
        have ga13370 := ga13339.of (h13363.2 (c + 7) (by rw [kC_at (k := 7) (by decide)]; decide))
        have ga13371 := ga13340.of (h13363.2 (c + 8) (by rw [kC_at (k := 8) (by decide)]; decide))
        have ga13372 := ga13341.of (h13363.2 (c + 9) (by rw [kC_at (k := 9) (by decide)]; decide))
        have ga13373 := ga13342.of (h13363.2 (c + 11) (by rw [kC_at (k := 11) (by decide)]; decide))
        rcases pr13366 with ⟨e13374, l13376, l13377, ea13378, ⟨so13379, va13380, mt13381, yd13382⟩, rfl⟩ | ⟨e13374, ⟨fa13383, fb13384⟩, rfl⟩ | ⟨e13374, e13375, ⟨fa13383, fb13384⟩, rfl⟩
        · have bk13385 := tok_ok (t := t) (n := n) P13334.a (by omega)
          generalize ek13385 : tok t n P13334.a = k13385 at ea13378 mt13381 yd13382 bk13385
          rw [show P13334.a = k13354.2.2.2 by omega] at ek13385
          have hyd13386 := yd13382
          obtain ⟨yd13386, yd13387, yd13388, yd13389, yd13390, yd13391, yd13392⟩ := hyd13386
          refine m_istore_n F (lv' := [(3, .int (nI k13354.2.2.1)), (2, .int (nI k13323.2.2.1)), (1, .int (nI (4 + fx nm k13298.2.2.1 P.n5))), (0, .ref c)]) e_X10_readPay_39 (by decide) rfl ?_
          refine m_aload_n F rfl e_X10_readPay_40 ?_
          refine m_iconst F (v := 0) (by decide) e_X10_readPay_41 ?_
          refine m_ldc F kc_X10_177 e_X10_readPay_42 ?_
          refine r_callV F e_X10_readPay_44 (q_X10_numeralE (x_l X) V c T Z u h P13365 L _ _ 0 99999 n k13385.1 so13379 va13380 ln fp t k13385.2.1 k13385.2.2.1 h13364.1 (hob) oP13365 (by omega) (by omega) ⟨(yd13386), (yd13387), (yd13388), (yd13389), (yd13390), (yd13391), (yd13392)⟩ ga13367 hn7 (by omega) mt13381) cb_X10_numeral ml_X10_165 im_X10_numeral se_X10_numeral h13364 rfl rfl (rest := []) rfl (Nat.le_of_ble_eq_true rfl) ⟨Nat.le_of_ble_eq_true rfl, Nat.le_of_ble_eq_true rfl⟩ ⟨Nat.le_of_ble_eq_true rfl, Nat.le_of_ble_eq_true rfl⟩ (fun r σ13393 hp => ?_)
          obtain ⟨P13396, oP13396, rP13396, pr13397, h13394, hp⟩ := hp
          have h13395 := HS.trans h13364 h13394 (by decide)
          have xP13396 := oP13396
          unfold OKP at xP13396
          unfold RA at rP13396
          have ga13398 := ga13367.of (h13394.2 (c + 1) (by rw [kC_at (k := 1) (by decide)]; decide))
          have ga13399 := ga13368.of (h13394.2 (c + 2) (by rw [kC_at (k := 2) (by decide)]; decide))
          have ga13400 := ga13369.of (h13394.2 (c + 3) (by rw [kC_at (k := 3) (by decide)]; decide))
          have ga13401 := ga13370.of (h13394.2 (c + 7) (by rw [kC_at (k := 7) (by decide)]; decide))
          have ga13402 := ga13371.of (h13394.2 (c + 8) (by rw [kC_at (k := 8) (by decide)]; decide))
          have ga13403 := ga13372.of (h13394.2 (c + 9) (by rw [kC_at (k := 9) (by decide)]; decide))
          have ga13404 := ga13373.of (h13394.2 (c + 11) (by rw [kC_at (k := 11) (by decide)]; decide))
          rcases pr13397 with ⟨e13405, l13407, l13408, ea13409, ⟨so13410, va13411, mt13412, yd13413⟩, rfl⟩ | ⟨e13405, ⟨fa13414, fb13415⟩, rfl⟩ | ⟨e13405, e13406, ⟨fa13414, fb13415⟩, rfl⟩
          · have bk13416 := tok_ok (t := t) (n := n) P13365.a (by omega)
            generalize ek13416 : tok t n P13365.a = k13416 at ea13409 mt13412 yd13413 bk13416
            rw [show P13365.a = k13385.2.2.2 by omega] at ek13416
            have hyd13417 := yd13413
            obtain ⟨yd13417, yd13418, yd13419, yd13420, yd13421, yd13422, yd13423⟩ := hyd13417
            refine m_istore F (lv' := [(4, .int (nI k13385.2.2.1)), (3, .int (nI k13354.2.2.1)), (2, .int (nI k13323.2.2.1)), (1, .int (nI (4 + fx nm k13298.2.2.1 P.n5))), (0, .ref c)]) e_X10_readPay_47 (by decide) rfl ?_
            refine m_aload_n F rfl e_X10_readPay_49 ?_
            refine r_getC F e_X10_readPay_50 fl_X10_141 h13395 (yd13422) ?_
            refine m_if_eq F e_X10_readPay_53 (fun _ => ?_) (fun q => absurd (by decide) q)
            refine m_iload_n F rfl e_X10_readPay_57 ?_
            refine m_istore F (lv' := [(5, .int (nI k13323.2.2.1)), (4, .int (nI k13385.2.2.1)), (3, .int (nI k13354.2.2.1)), (2, .int (nI k13323.2.2.1)), (1, .int (nI (4 + fx nm k13298.2.2.1 P.n5))), (0, .ref c)]) e_X10_readPay_58 (by decide) rfl ?_
            refine Wm.lvsub (lv' := [(0, .ref c), (1, .int (nI (4 + fx nm k13298.2.2.1 P.n5))), (3, .int (nI k13354.2.2.1)), (4, .int (nI k13385.2.2.1)), (5, .int (nI k13323.2.2.1))]) ?_ [5, 4, 2, 1, 0] rfl
            have hsp : (payS (tok t n) (st, s9, v9, P.a) P.n5 nm np P.n7 lc no sd md ln) = .inr (k13416, P.n5, nm, np + 1, P.n7, lc, no, sd, md, ln) := by unfold payS; dsimp only; rw [if_neg (by omega), ek13298, tolK_ok e13289 e13290, ek13323, numK_ok e13343 l13345 l13346, ek13354, numK_ok e13374 l13376 l13377, ek13385, numK_ok e13405 l13407 l13408, ek13416]
            exact lq_X10_readPayE_60 F hQ hob hP hp0 hp1 hp2 hp3 hp4 hp5 hp6 hp7 hp8 hp9 hp10 hp11 hp12 hp13 hp14 (49 - k13323.2.2.1 + 1) (4 + fx nm k13298.2.2.1 P.n5) k13354.2.2.1 k13385.2.2.1 k13323.2.2.1 k13416 P13396 _ h13395 oP13396 (by unfold RP; omega) ⟨by omega, by omega, by omega, by omega, RM.r mt13412 ⟨(yd13417), (yd13418), (yd13419), (yd13420), (yd13421), (yd13422), (yd13423)⟩ (by omega) (by omega) (by omega) ga13399 ga13400 ga13401 ga13402 ga13403 ga13404 (by omega) (by omega) (by omega) (by omega) (by omega), hsp, by omega⟩ (Nat.lt_succ_self _)
          · have hz9 : True := trivial
            refine m_istore F (lv' := [(4, .int (nI 0)), (3, .int (nI k13354.2.2.1)), (2, .int (nI k13323.2.2.1)), (1, .int (nI (4 + fx nm k13298.2.2.1 P.n5))), (0, .ref c)]) e_X10_readPay_47 (by decide) rfl ?_
            refine m_aload_n F rfl e_X10_readPay_49 ?_
            refine r_getC F e_X10_readPay_50 fl_X10_141 h13395 (fa13414) ?_
            refine m_if_eq F e_X10_readPay_53 (fun q => absurd q (by decide)) (fun _ => ?_)
            exact m_vret F hQ e_X10_readPay_56 (⟨P13396, oP13396, (by unfold RP; omega), (by unfold payS; dsimp only; rw [if_neg (by omega), ek13298, tolK_ok e13289 e13290, ek13323, numK_ok e13343 l13345 l13346, ek13354, numK_ok e13374 l13376 l13377, ek13385, numK_1 e13405]; exact RM.l (fa13414) (fb13415) (by decide) (by decide) (by omega)), h13395, rfl⟩)
          · have hz9 : True := trivial
            refine m_istore F (lv' := [(4, .int (nI 0)), (3, .int (nI k13354.2.2.1)), (2, .int (nI k13323.2.2.1)), (1, .int (nI (4 + fx nm k13298.2.2.1 P.n5))), (0, .ref c)]) e_X10_readPay_47 (by decide) rfl ?_
            refine m_aload_n F rfl e_X10_readPay_49 ?_
            refine r_getC F e_X10_readPay_50 fl_X10_141 h13395 (fa13414) ?_
            refine m_if_eq F e_X10_readPay_53 (fun q => absurd q (by decide)) (fun _ => ?_)
            exact m_vret F hQ e_X10_readPay_56 (⟨P13396, oP13396, (by unfold RP; omega), (by unfold payS; dsimp only; rw [if_neg (by omega), ek13298, tolK_ok e13289 e13290, ek13323, numK_ok e13343 l13345 l13346, ek13354, numK_ok e13374 l13376 l13377, ek13385, numK_2 e13405 e13406]; exact RM.l (fa13414) (fb13415) (by decide) (by decide) (by omega)), h13395, rfl⟩)
        · have hz9 : True := trivial
          refine m_istore_n F (lv' := [(3, .int (nI k13323.2.2.1)), (2, .int (nI k13323.2.2.1)), (1, .int (nI (4 + fx nm k13298.2.2.1 P.n5))), (0, .ref c)]) e_X10_readPay_39 (by decide) rfl ?_
          refine m_aload_n F rfl e_X10_readPay_40 ?_
          refine m_iconst F (v := 0) (by decide) e_X10_readPay_41 ?_
          refine m_ldc F kc_X10_177 e_X10_readPay_42 ?_
          refine r_callV F e_X10_readPay_44 (q_X10_numeralG (x_l X) V c T Z u h P13365 L _ _ 0 99999 1 h13364.1 (hob) oP13365 (by omega) (by omega) (fa13383) (by decide)) cb_X10_numeral ml_X10_165 im_X10_numeral se_X10_numeral h13364 rfl rfl (rest := []) rfl (Nat.le_of_ble_eq_true rfl) ⟨Nat.le_of_ble_eq_true rfl, Nat.le_of_ble_eq_true rfl⟩ ⟨Nat.le_of_ble_eq_true rfl, Nat.le_of_ble_eq_true rfl⟩ (fun r σ13424 hp => ?_)
          obtain ⟨h13425, hp⟩ := hp
          have h13426 := HS.trans h13364 h13425 (by decide)
          obtain ⟨rfl, rfl⟩ := hp
          refine m_istore F (lv' := [(4, .int (nI 0)), (3, .int (nI k13323.2.2.1)), (2, .int (nI k13323.2.2.1)), (1, .int (nI (4 + fx nm k13298.2.2.1 P.n5))), (0, .ref c)]) e_X10_readPay_47 (by decide) rfl ?_
          refine m_aload_n F rfl e_X10_readPay_49 ?_
          refine r_getC F e_X10_readPay_50 fl_X10_141 h13426 (fa13383) ?_
          refine m_if_eq F e_X10_readPay_53 (fun q => absurd q (by decide)) (fun _ => ?_)
          exact m_vret F hQ e_X10_readPay_56 (⟨P13365, oP13365, (by unfold RP; omega), (by unfold payS; dsimp only; rw [if_neg (by omega), ek13298, tolK_ok e13289 e13290, ek13323, numK_ok e13343 l13345 l13346, ek13354, numK_1 e13374]; exact RM.l (fa13383) (fb13384) (by decide) (by decide) (by omega)), h13426, rfl⟩)
        · have hz9 : True := trivial
          refine m_istore_n F (lv' := [(3, .int (nI k13323.2.2.1)), (2, .int (nI k13323.2.2.1)), (1, .int (nI (4 + fx nm k13298.2.2.1 P.n5))), (0, .ref c)]) e_X10_readPay_39 (by decide) rfl ?_
          refine m_aload_n F rfl e_X10_readPay_40 ?_
          refine m_iconst F (v := 0) (by decide) e_X10_readPay_41 ?_
          refine m_ldc F kc_X10_177 e_X10_readPay_42 ?_
          refine r_callV F e_X10_readPay_44 (q_X10_numeralG (x_l X) V c T Z u h P13365 L _ _ 0 99999 2 h13364.1 (hob) oP13365 (by omega) (by omega) (fa13383) (by decide)) cb_X10_numeral ml_X10_165 im_X10_numeral se_X10_numeral h13364 rfl rfl (rest := []) rfl (Nat.le_of_ble_eq_true rfl) ⟨Nat.le_of_ble_eq_true rfl, Nat.le_of_ble_eq_true rfl⟩ ⟨Nat.le_of_ble_eq_true rfl, Nat.le_of_ble_eq_true rfl⟩ (fun r σ13427 hp => ?_)
          obtain ⟨h13428, hp⟩ := hp
          have h13429 := HS.trans h13364 h13428 (by decide)
          obtain ⟨rfl, rfl⟩ := hp
          refine m_istore F (lv' := [(4, .int (nI 0)), (3, .int (nI k13323.2.2.1)), (2, .int (nI k13323.2.2.1)), (1, .int (nI (4 + fx nm k13298.2.2.1 P.n5))), (0, .ref c)]) e_X10_readPay_47 (by decide) rfl ?_
          refine m_aload_n F rfl e_X10_readPay_49 ?_
          refine r_getC F e_X10_readPay_50 fl_X10_141 h13429 (fa13383) ?_
          refine m_if_eq F e_X10_readPay_53 (fun q => absurd q (by decide)) (fun _ => ?_)
          exact m_vret F hQ e_X10_readPay_56 (⟨P13365, oP13365, (by unfold RP; omega), (by unfold payS; dsimp only; rw [if_neg (by omega), ek13298, tolK_ok e13289 e13290, ek13323, numK_ok e13343 l13345 l13346, ek13354, numK_2 e13374 e13375]; exact RM.l (fa13383) (fb13384) (by decide) (by decide) (by omega)), h13429, rfl⟩)
      · have hz9 : True := trivial
        refine m_istore_n F (lv' := [(2, .int (nI 1)), (1, .int (nI (4 + fx nm k13298.2.2.1 P.n5))), (0, .ref c)]) e_X10_readPay_31 (by decide) rfl ?_
        refine m_aload_n F rfl e_X10_readPay_32 ?_
        refine m_iload_n F rfl e_X10_readPay_33 ?_
        refine m_bipush F (v := 48) (by decide) e_X10_readPay_34 ?_
        refine r_callV F e_X10_readPay_36 (q_X10_numeralG (x_l X) V c T Z u h P13334 L _ _ 1 48 1 h13333.1 (hob) oP13334 (by omega) (by omega) (fa13352) (by decide)) cb_X10_numeral ml_X10_165 im_X10_numeral se_X10_numeral h13333 rfl rfl (rest := []) rfl (Nat.le_of_ble_eq_true rfl) ⟨Nat.le_of_ble_eq_true rfl, Nat.le_of_ble_eq_true rfl⟩ ⟨Nat.le_of_ble_eq_true rfl, Nat.le_of_ble_eq_true rfl⟩ (fun r σ13430 hp => ?_)
        obtain ⟨h13431, hp⟩ := hp
        have h13432 := HS.trans h13333 h13431 (by decide)
        obtain ⟨rfl, rfl⟩ := hp
        refine m_istore_n F (lv' := [(3, .int (nI 1)), (2, .int (nI 1)), (1, .int (nI (4 + fx nm k13298.2.2.1 P.n5))), (0, .ref c)]) e_X10_readPay_39 (by decide) rfl ?_
        refine m_aload_n F rfl e_X10_readPay_40 ?_
        refine m_iconst F (v := 0) (by decide) e_X10_readPay_41 ?_
        refine m_ldc F kc_X10_177 e_X10_readPay_42 ?_
        refine r_callV F e_X10_readPay_44 (q_X10_numeralG (x_l X) V c T Z u h P13334 L _ _ 0 99999 1 h13432.1 (hob) oP13334 (by omega) (by omega) (fa13352) (by decide)) cb_X10_numeral ml_X10_165 im_X10_numeral se_X10_numeral h13432 rfl rfl (rest := []) rfl (Nat.le_of_ble_eq_true rfl) ⟨Nat.le_of_ble_eq_true rfl, Nat.le_of_ble_eq_true rfl⟩ ⟨Nat.le_of_ble_eq_true rfl, Nat.le_of_ble_eq_true rfl⟩ (fun r σ13433 hp => ?_)
        obtain ⟨h13434, hp⟩ := hp
        have h13435 := HS.trans h13432 h13434 (by decide)
        obtain ⟨rfl, rfl⟩ := hp
        refine m_istore F (lv' := [(4, .int (nI 0)), (3, .int (nI 1)), (2, .int (nI 1)), (1, .int (nI (4 + fx nm k13298.2.2.1 P.n5))), (0, .ref c)]) e_X10_readPay_47 (by decide) rfl ?_
        refine m_aload_n F rfl e_X10_readPay_49 ?_
        refine r_getC F e_X10_readPay_50 fl_X10_141 h13435 (fa13352) ?_
        refine m_if_eq F e_X10_readPay_53 (fun q => absurd q (by decide)) (fun _ => ?_)
        exact m_vret F hQ e_X10_readPay_56 (⟨P13334, oP13334, (by unfold RP; omega), (by unfold payS; dsimp only; rw [if_neg (by omega), ek13298, tolK_ok e13289 e13290, ek13323, numK_1 e13343]; exact RM.l (fa13352) (fb13353) (by decide) (by decide) (by omega)), h13435, rfl⟩)
      · have hz9 : True := trivial
        refine m_istore_n F (lv' := [(2, .int (nI 1)), (1, .int (nI (4 + fx nm k13298.2.2.1 P.n5))), (0, .ref c)]) e_X10_readPay_31 (by decide) rfl ?_
        refine m_aload_n F rfl e_X10_readPay_32 ?_
        refine m_iload_n F rfl e_X10_readPay_33 ?_
        refine m_bipush F (v := 48) (by decide) e_X10_readPay_34 ?_
        refine r_callV F e_X10_readPay_36 (q_X10_numeralG (x_l X) V c T Z u h P13334 L _ _ 1 48 2 h13333.1 (hob) oP13334 (by omega) (by omega) (fa13352) (by decide)) cb_X10_numeral ml_X10_165 im_X10_numeral se_X10_numeral h13333 rfl rfl (rest := []) rfl (Nat.le_of_ble_eq_true rfl) ⟨Nat.le_of_ble_eq_true rfl, Nat.le_of_ble_eq_true rfl⟩ ⟨Nat.le_of_ble_eq_true rfl, Nat.le_of_ble_eq_true rfl⟩ (fun r σ13436 hp => ?_)
        obtain ⟨h13437, hp⟩ := hp
        have h13438 := HS.trans h13333 h13437 (by decide)
        obtain ⟨rfl, rfl⟩ := hp
        refine m_istore_n F (lv' := [(3, .int (nI 1)), (2, .int (nI 1)), (1, .int (nI (4 + fx nm k13298.2.2.1 P.n5))), (0, .ref c)]) e_X10_readPay_39 (by decide) rfl ?_
        refine m_aload_n F rfl e_X10_readPay_40 ?_
        refine m_iconst F (v := 0) (by decide) e_X10_readPay_41 ?_
        refine m_ldc F kc_X10_177 e_X10_readPay_42 ?_
        refine r_callV F e_X10_readPay_44 (q_X10_numeralG (x_l X) V c T Z u h P13334 L _ _ 0 99999 2 h13438.1 (hob) oP13334 (by omega) (by omega) (fa13352) (by decide)) cb_X10_numeral ml_X10_165 im_X10_numeral se_X10_numeral h13438 rfl rfl (rest := []) rfl (Nat.le_of_ble_eq_true rfl) ⟨Nat.le_of_ble_eq_true rfl, Nat.le_of_ble_eq_true rfl⟩ ⟨Nat.le_of_ble_eq_true rfl, Nat.le_of_ble_eq_true rfl⟩ (fun r σ13439 hp => ?_)
        obtain ⟨h13440, hp⟩ := hp
        have h13441 := HS.trans h13438 h13440 (by decide)
        obtain ⟨rfl, rfl⟩ := hp
        refine m_istore F (lv' := [(4, .int (nI 0)), (3, .int (nI 1)), (2, .int (nI 1)), (1, .int (nI (4 + fx nm k13298.2.2.1 P.n5))), (0, .ref c)]) e_X10_readPay_47 (by decide) rfl ?_
        refine m_aload_n F rfl e_X10_readPay_49 ?_
        refine r_getC F e_X10_readPay_50 fl_X10_141 h13441 (fa13352) ?_
        refine m_if_eq F e_X10_readPay_53 (fun q => absurd q (by decide)) (fun _ => ?_)
        exact m_vret F hQ e_X10_readPay_56 (⟨P13334, oP13334, (by unfold RP; omega), (by unfold payS; dsimp only; rw [if_neg (by omega), ek13298, tolK_ok e13289 e13290, ek13323, numK_2 e13343 e13344]; exact RM.l (fa13352) (fb13353) (by decide) (by decide) (by omega)), h13441, rfl⟩)
    · have hz9 : True := trivial
      refine m_istore_n F (lv' := [(1, .int (nI 4)), (0, .ref c)]) e_X10_readPay_19 (by decide) rfl ?_
      refine m_aload_n F rfl e_X10_readPay_20 ?_
      refine r_callV F e_X10_readPay_21 (q_X10_goOnG (x_l X) V c T Z u h P13280 L _ _  1 h13279.1 (hob) oP13280  (fa13296) (by decide)) cb_X10_goOn ml_X10_154 im_X10_goOn se_X10_goOn h13279 rfl rfl (rest := []) rfl (Nat.le_of_ble_eq_true rfl) ⟨Nat.le_of_ble_eq_true rfl, Nat.le_of_ble_eq_true rfl⟩ ⟨Nat.le_of_ble_eq_true rfl, Nat.le_of_ble_eq_true rfl⟩ (fun r σ13442 hp => ?_)
      obtain ⟨h13443, hp⟩ := hp
      have h13444 := HS.trans h13279 h13443 (by decide)
      obtain ⟨rfl, rfl⟩ := hp
      refine m_aload_n F rfl e_X10_readPay_24 ?_
      refine m_iconst F (v := 1) (by decide) e_X10_readPay_25 ?_
      refine m_bipush F (v := 48) (by decide) e_X10_readPay_26 ?_
      refine r_callV F e_X10_readPay_28 (q_X10_numeralG (x_l X) V c T Z u h P13280 L _ _ 1 48 1 h13444.1 (hob) oP13280 (by omega) (by omega) (fa13296) (by decide)) cb_X10_numeral ml_X10_165 im_X10_numeral se_X10_numeral h13444 rfl rfl (rest := []) rfl (Nat.le_of_ble_eq_true rfl) ⟨Nat.le_of_ble_eq_true rfl, Nat.le_of_ble_eq_true rfl⟩ ⟨Nat.le_of_ble_eq_true rfl, Nat.le_of_ble_eq_true rfl⟩ (fun r σ13445 hp => ?_)
      obtain ⟨h13446, hp⟩ := hp
      have h13447 := HS.trans h13444 h13446 (by decide)
      obtain ⟨rfl, rfl⟩ := hp
      refine m_istore_n F (lv' := [(2, .int (nI 1)), (1, .int (nI 4)), (0, .ref c)]) e_X10_readPay_31 (by decide) rfl ?_
      refine m_aload_n F rfl e_X10_readPay_32 ?_
      refine m_iload_n F rfl e_X10_readPay_33 ?_
      refine m_bipush F (v := 48) (by decide) e_X10_readPay_34 ?_
      refine r_callV F e_X10_readPay_36 (q_X10_numeralG (x_l X) V c T Z u h P13280 L _ _ 1 48 1 h13447.1 (hob) oP13280 (by omega) (by omega) (fa13296) (by decide)) cb_X10_numeral ml_X10_165 im_X10_numeral se_X10_numeral h13447 rfl rfl (rest := []) rfl (Nat.le_of_ble_eq_true rfl) ⟨Nat.le_of_ble_eq_true rfl, Nat.le_of_ble_eq_true rfl⟩ ⟨Nat.le_of_ble_eq_true rfl, Nat.le_of_ble_eq_true rfl⟩ (fun r σ13448 hp => ?_)
      obtain ⟨h13449, hp⟩ := hp
      have h13450 := HS.trans h13447 h13449 (by decide)
      obtain ⟨rfl, rfl⟩ := hp
      refine m_istore_n F (lv' := [(3, .int (nI 1)), (2, .int (nI 1)), (1, .int (nI 4)), (0, .ref c)]) e_X10_readPay_39 (by decide) rfl ?_
      refine m_aload_n F rfl e_X10_readPay_40 ?_
      refine m_iconst F (v := 0) (by decide) e_X10_readPay_41 ?_
      refine m_ldc F kc_X10_177 e_X10_readPay_42 ?_
      refine r_callV F e_X10_readPay_44 (q_X10_numeralG (x_l X) V c T Z u h P13280 L _ _ 0 99999 1 h13450.1 (hob) oP13280 (by omega) (by omega) (fa13296) (by decide)) cb_X10_numeral ml_X10_165 im_X10_numeral se_X10_numeral h13450 rfl rfl (rest := []) rfl (Nat.le_of_ble_eq_true rfl) ⟨Nat.le_of_ble_eq_true rfl, Nat.le_of_ble_eq_true rfl⟩ ⟨Nat.le_of_ble_eq_true rfl, Nat.le_of_ble_eq_true rfl⟩ (fun r σ13451 hp => ?_)
      obtain ⟨h13452, hp⟩ := hp
      have h13453 := HS.trans h13450 h13452 (by decide)
      obtain ⟨rfl, rfl⟩ := hp
      refine m_istore F (lv' := [(4, .int (nI 0)), (3, .int (nI 1)), (2, .int (nI 1)), (1, .int (nI 4)), (0, .ref c)]) e_X10_readPay_47 (by decide) rfl ?_
      refine m_aload_n F rfl e_X10_readPay_49 ?_
      refine r_getC F e_X10_readPay_50 fl_X10_141 h13453 (fa13296) ?_
      refine m_if_eq F e_X10_readPay_53 (fun q => absurd q (by decide)) (fun _ => ?_)
      exact m_vret F hQ e_X10_readPay_56 (⟨P13280, oP13280, (by unfold RP; omega), (by unfold payS; dsimp only; rw [if_neg (by omega), ek13298, tolK_1 e13289]; exact RM.l (fa13296) (fb13297) (by decide) (by decide) (by omega)), h13453, rfl⟩)
    · have hz9 : True := trivial
      refine m_istore_n F (lv' := [(1, .int (nI 4)), (0, .ref c)]) e_X10_readPay_19 (by decide) rfl ?_
      refine m_aload_n F rfl e_X10_readPay_20 ?_
      refine r_callV F e_X10_readPay_21 (q_X10_goOnG (x_l X) V c T Z u h P13280 L _ _  4 h13279.1 (hob) oP13280  (fa13296) (by decide)) cb_X10_goOn ml_X10_154 im_X10_goOn se_X10_goOn h13279 rfl rfl (rest := []) rfl (Nat.le_of_ble_eq_true rfl) ⟨Nat.le_of_ble_eq_true rfl, Nat.le_of_ble_eq_true rfl⟩ ⟨Nat.le_of_ble_eq_true rfl, Nat.le_of_ble_eq_true rfl⟩ (fun r σ13454 hp => ?_)
      obtain ⟨h13455, hp⟩ := hp
      have h13456 := HS.trans h13279 h13455 (by decide)
      obtain ⟨rfl, rfl⟩ := hp
      refine m_aload_n F rfl e_X10_readPay_24 ?_
      refine m_iconst F (v := 1) (by decide) e_X10_readPay_25 ?_
      refine m_bipush F (v := 48) (by decide) e_X10_readPay_26 ?_
      refine r_callV F e_X10_readPay_28 (q_X10_numeralG (x_l X) V c T Z u h P13280 L _ _ 1 48 4 h13456.1 (hob) oP13280 (by omega) (by omega) (fa13296) (by decide)) cb_X10_numeral ml_X10_165 im_X10_numeral se_X10_numeral h13456 rfl rfl (rest := []) rfl (Nat.le_of_ble_eq_true rfl) ⟨Nat.le_of_ble_eq_true rfl, Nat.le_of_ble_eq_true rfl⟩ ⟨Nat.le_of_ble_eq_true rfl, Nat.le_of_ble_eq_true rfl⟩ (fun r σ13457 hp => ?_)
      obtain ⟨h13458, hp⟩ := hp
      have h13459 := HS.trans h13456 h13458 (by decide)
      obtain ⟨rfl, rfl⟩ := hp
      refine m_istore_n F (lv' := [(2, .int (nI 1)), (1, .int (nI 4)), (0, .ref c)]) e_X10_readPay_31 (by decide) rfl ?_
      refine m_aload_n F rfl e_X10_readPay_32 ?_
      refine m_iload_n F rfl e_X10_readPay_33 ?_
      refine m_bipush F (v := 48) (by decide) e_X10_readPay_34 ?_
      refine r_callV F e_X10_readPay_36 (q_X10_numeralG (x_l X) V c T Z u h P13280 L _ _ 1 48 4 h13459.1 (hob) oP13280 (by omega) (by omega) (fa13296) (by decide)) cb_X10_numeral ml_X10_165 im_X10_numeral se_X10_numeral h13459 rfl rfl (rest := []) rfl (Nat.le_of_ble_eq_true rfl) ⟨Nat.le_of_ble_eq_true rfl, Nat.le_of_ble_eq_true rfl⟩ ⟨Nat.le_of_ble_eq_true rfl, Nat.le_of_ble_eq_true rfl⟩ (fun r σ13460 hp => ?_)
      obtain ⟨h13461, hp⟩ := hp
      have h13462 := HS.trans h13459 h13461 (by decide)
      obtain ⟨rfl, rfl⟩ := hp
      refine m_istore_n F (lv' := [(3, .int (nI 1)), (2, .int (nI 1)), (1, .int (nI 4)), (0, .ref c)]) e_X10_readPay_39 (by decide) rfl ?_
      refine m_aload_n F rfl e_X10_readPay_40 ?_
      refine m_iconst F (v := 0) (by decide) e_X10_readPay_41 ?_
      refine m_ldc F kc_X10_177 e_X10_readPay_42 ?_
      refine r_callV F e_X10_readPay_44 (q_X10_numeralG (x_l X) V c T Z u h P13280 L _ _ 0 99999 4 h13462.1 (hob) oP13280 (by omega) (by omega) (fa13296) (by decide)) cb_X10_numeral ml_X10_165 im_X10_numeral se_X10_numeral h13462 rfl rfl (rest := []) rfl (Nat.le_of_ble_eq_true rfl) ⟨Nat.le_of_ble_eq_true rfl, Nat.le_of_ble_eq_true rfl⟩ ⟨Nat.le_of_ble_eq_true rfl, Nat.le_of_ble_eq_true rfl⟩ (fun r σ13463 hp => ?_)
      obtain ⟨h13464, hp⟩ := hp
      have h13465 := HS.trans h13462 h13464 (by decide)
      obtain ⟨rfl, rfl⟩ := hp
      refine m_istore F (lv' := [(4, .int (nI 0)), (3, .int (nI 1)), (2, .int (nI 1)), (1, .int (nI 4)), (0, .ref c)]) e_X10_readPay_47 (by decide) rfl ?_
      refine m_aload_n F rfl e_X10_readPay_49 ?_
      refine r_getC F e_X10_readPay_50 fl_X10_141 h13465 (fa13296) ?_
      refine m_if_eq F e_X10_readPay_53 (fun q => absurd q (by decide)) (fun _ => ?_)
      exact m_vret F hQ e_X10_readPay_56 (⟨P13280, oP13280, (by unfold RP; omega), (by unfold payS; dsimp only; rw [if_neg (by omega), ek13298, tolK_4 e13289 e13290]; exact RM.l (fa13296) (fb13297) (by decide) (by decide) (by omega)), h13465, rfl⟩)
  · have c7 : np = 12 := (nI_eq (a := np) (b := 12) (by omega) (by omega)).mp q7
    refine m_aload_n F rfl e_X10_readPay_10 ?_
    refine m_iconst F (v := 2) (by decide) e_X10_readPay_11 ?_
    refine r_callV F e_X10_readPay_12 (q_X10_wrongE (x_l X) V c T Z u h P L _ _ 2 n st so va ln fp h13269.1 (hob) hP (by omega) ⟨((fld_eq (h13268.2 c (by rw [show kC c c = 1 from kC_at (k := 0) (by decide)]; decide))).trans yd13260), ((fld_eq (h13268.2 c (by rw [show kC c c = 1 from kC_at (k := 0) (by decide)]; decide))).trans yd13261), ((fld_eq (h13268.2 c (by rw [show kC c c = 1 from kC_at (k := 0) (by decide)]; decide))).trans yd13262), ((fld_eq (h13268.2 c (by rw [show kC c c = 1 from kC_at (k := 0) (by decide)]; decide))).trans yd13263), ((fld_eq (h13268.2 c (by rw [show kC c c = 1 from kC_at (k := 0) (by decide)]; decide))).trans yd13264), ((fld_eq (h13268.2 c (by rw [show kC c c = 1 from kC_at (k := 0) (by decide)]; decide))).trans yd13265), ((fld_eq (h13268.2 c (by rw [show kC c c = 1 from kC_at (k := 0) (by decide)]; decide))).trans yd13266)⟩ (by decide)) cb_X10_wrong ml_X10_150 im_X10_wrong se_X10_wrong h13269 rfl rfl (rest := []) rfl (Nat.le_of_ble_eq_true rfl) ⟨Nat.le_of_ble_eq_true rfl, Nat.le_of_ble_eq_true rfl⟩ ⟨Nat.le_of_ble_eq_true rfl, Nat.le_of_ble_eq_true rfl⟩ (fun r σ13466 hp => ?_)
    obtain ⟨h13467, hp⟩ := hp
    have h13468 := HS.trans h13269 h13467 (by decide)
    have ga13469 := ga13270.of (h13467.2 (c + 1) (by rw [kC_at (k := 1) (by decide)]; decide))
    have ga13470 := ga13271.of (h13467.2 (c + 2) (by rw [kC_at (k := 2) (by decide)]; decide))
    have ga13471 := ga13272.of (h13467.2 (c + 3) (by rw [kC_at (k := 3) (by decide)]; decide))
    have ga13472 := ga13273.of (h13467.2 (c + 7) (by rw [kC_at (k := 7) (by decide)]; decide))
    have ga13473 := ga13274.of (h13467.2 (c + 8) (by rw [kC_at (k := 8) (by decide)]; decide))
    have ga13474 := ga13275.of (h13467.2 (c + 9) (by rw [kC_at (k := 9) (by decide)]; decide))
    have ga13475 := ga13276.of (h13467.2 (c + 11) (by rw [kC_at (k := 11) (by decide)]; decide))
    obtain ⟨hp, rfl⟩ := hp
    have hyd13476 := hp
    obtain ⟨yd13476, yd13477, yd13478, yd13479, yd13480, yd13481, yd13482⟩ := hyd13476
    refine m_aload_n F rfl e_X10_readPay_15 ?_
    refine r_callV F e_X10_readPay_16 (q_X10_atHandG (x_l X) V c T 0 u h P L _ _  2 h13468.1 (hob) hP  (yd13481) (by decide)) cb_X10_atHand ml_X10_174 im_X10_atHand se_X10_atHand h13468 rfl rfl (rest := []) rfl (Nat.le_of_ble_eq_true rfl) ⟨Nat.le_of_ble_eq_true rfl, Nat.le_of_ble_eq_true rfl⟩ ⟨Nat.le_of_ble_eq_true rfl, Nat.le_of_ble_eq_true rfl⟩ (fun r σ13483 hp => ?_)
    obtain ⟨h13484, hp⟩ := hp
    have h13485 := HS.trans h13468 h13484 (by decide)
    have ga13486 := ga13469.of (h13484.2 (c + 1) (by rw [kC_at (k := 1) (by decide)]; decide))
    have ga13487 := ga13470.of (h13484.2 (c + 2) (by rw [kC_at (k := 2) (by decide)]; decide))
    have ga13488 := ga13471.of (h13484.2 (c + 3) (by rw [kC_at (k := 3) (by decide)]; decide))
    have ga13489 := ga13472.of (h13484.2 (c + 7) (by rw [kC_at (k := 7) (by decide)]; decide))
    have ga13490 := ga13473.of (h13484.2 (c + 8) (by rw [kC_at (k := 8) (by decide)]; decide))
    have ga13491 := ga13474.of (h13484.2 (c + 9) (by rw [kC_at (k := 9) (by decide)]; decide))
    have ga13492 := ga13475.of (h13484.2 (c + 11) (by rw [kC_at (k := 11) (by decide)]; decide))
    obtain ⟨rfl, rfl⟩ := hp
    refine m_istore_n F (lv' := [(1, .int (nI 4)), (0, .ref c)]) e_X10_readPay_19 (by decide) rfl ?_
    refine m_aload_n F rfl e_X10_readPay_20 ?_
    refine r_callV F e_X10_readPay_21 (q_X10_goOnG (x_l X) V c T 0 u h P L _ _  2 h13485.1 (hob) hP  (yd13481) (by decide)) cb_X10_goOn ml_X10_154 im_X10_goOn se_X10_goOn h13485 rfl rfl (rest := []) rfl (Nat.le_of_ble_eq_true rfl) ⟨Nat.le_of_ble_eq_true rfl, Nat.le_of_ble_eq_true rfl⟩ ⟨Nat.le_of_ble_eq_true rfl, Nat.le_of_ble_eq_true rfl⟩ (fun r σ13493 hp => ?_)
    obtain ⟨h13494, hp⟩ := hp
    have h13495 := HS.trans h13485 h13494 (by decide)
    have ga13496 := ga13469.of (h13494.2 (c + 1) (by rw [kC_at (k := 1) (by decide)]; decide))
    have ga13497 := ga13470.of (h13494.2 (c + 2) (by rw [kC_at (k := 2) (by decide)]; decide))
    have ga13498 := ga13471.of (h13494.2 (c + 3) (by rw [kC_at (k := 3) (by decide)]; decide))
    have ga13499 := ga13472.of (h13494.2 (c + 7) (by rw [kC_at (k := 7) (by decide)]; decide))
    have ga13500 := ga13473.of (h13494.2 (c + 8) (by rw [kC_at (k := 8) (by decide)]; decide))
    have ga13501 := ga13474.of (h13494.2 (c + 9) (by rw [kC_at (k := 9) (by decide)]; decide))
    have ga13502 := ga13475.of (h13494.2 (c + 11) (by rw [kC_at (k := 11) (by decide)]; decide))
    obtain ⟨rfl, rfl⟩ := hp
    refine m_aload_n F rfl e_X10_readPay_24 ?_
    refine m_iconst F (v := 1) (by decide) e_X10_readPay_25 ?_
    refine m_bipush F (v := 48) (by decide) e_X10_readPay_26 ?_
    refine r_callV F e_X10_readPay_28 (q_X10_numeralG (x_l X) V c T 0 u h P L _ _ 1 48 2 h13495.1 (hob) hP (by omega) (by omega) (yd13481) (by decide)) cb_X10_numeral ml_X10_165 im_X10_numeral se_X10_numeral h13495 rfl rfl (rest := []) rfl (Nat.le_of_ble_eq_true rfl) ⟨Nat.le_of_ble_eq_true rfl, Nat.le_of_ble_eq_true rfl⟩ ⟨Nat.le_of_ble_eq_true rfl, Nat.le_of_ble_eq_true rfl⟩ (fun r σ13503 hp => ?_)
    obtain ⟨h13504, hp⟩ := hp
    have h13505 := HS.trans h13495 h13504 (by decide)
    have ga13506 := ga13469.of (h13504.2 (c + 1) (by rw [kC_at (k := 1) (by decide)]; decide))
    have ga13507 := ga13470.of (h13504.2 (c + 2) (by rw [kC_at (k := 2) (by decide)]; decide))
    have ga13508 := ga13471.of (h13504.2 (c + 3) (by rw [kC_at (k := 3) (by decide)]; decide))
    have ga13509 := ga13472.of (h13504.2 (c + 7) (by rw [kC_at (k := 7) (by decide)]; decide))
    have ga13510 := ga13473.of (h13504.2 (c + 8) (by rw [kC_at (k := 8) (by decide)]; decide))
    have ga13511 := ga13474.of (h13504.2 (c + 9) (by rw [kC_at (k := 9) (by decide)]; decide))
    have ga13512 := ga13475.of (h13504.2 (c + 11) (by rw [kC_at (k := 11) (by decide)]; decide))
    obtain ⟨rfl, rfl⟩ := hp
    refine m_istore_n F (lv' := [(2, .int (nI 1)), (1, .int (nI 4)), (0, .ref c)]) e_X10_readPay_31 (by decide) rfl ?_
    refine m_aload_n F rfl e_X10_readPay_32 ?_
    refine m_iload_n F rfl e_X10_readPay_33 ?_
    refine m_bipush F (v := 48) (by decide) e_X10_readPay_34 ?_
    refine r_callV F e_X10_readPay_36 (q_X10_numeralG (x_l X) V c T 0 u h P L _ _ 1 48 2 h13505.1 (hob) hP (by omega) (by omega) (yd13481) (by decide)) cb_X10_numeral ml_X10_165 im_X10_numeral se_X10_numeral h13505 rfl rfl (rest := []) rfl (Nat.le_of_ble_eq_true rfl) ⟨Nat.le_of_ble_eq_true rfl, Nat.le_of_ble_eq_true rfl⟩ ⟨Nat.le_of_ble_eq_true rfl, Nat.le_of_ble_eq_true rfl⟩ (fun r σ13513 hp => ?_)
    obtain ⟨h13514, hp⟩ := hp
    have h13515 := HS.trans h13505 h13514 (by decide)
    have ga13516 := ga13469.of (h13514.2 (c + 1) (by rw [kC_at (k := 1) (by decide)]; decide))
    have ga13517 := ga13470.of (h13514.2 (c + 2) (by rw [kC_at (k := 2) (by decide)]; decide))
    have ga13518 := ga13471.of (h13514.2 (c + 3) (by rw [kC_at (k := 3) (by decide)]; decide))
    have ga13519 := ga13472.of (h13514.2 (c + 7) (by rw [kC_at (k := 7) (by decide)]; decide))
    have ga13520 := ga13473.of (h13514.2 (c + 8) (by rw [kC_at (k := 8) (by decide)]; decide))
    have ga13521 := ga13474.of (h13514.2 (c + 9) (by rw [kC_at (k := 9) (by decide)]; decide))
    have ga13522 := ga13475.of (h13514.2 (c + 11) (by rw [kC_at (k := 11) (by decide)]; decide))
    obtain ⟨rfl, rfl⟩ := hp
    refine m_istore_n F (lv' := [(3, .int (nI 1)), (2, .int (nI 1)), (1, .int (nI 4)), (0, .ref c)]) e_X10_readPay_39 (by decide) rfl ?_
    refine m_aload_n F rfl e_X10_readPay_40 ?_
    refine m_iconst F (v := 0) (by decide) e_X10_readPay_41 ?_
    refine m_ldc F kc_X10_177 e_X10_readPay_42 ?_
    refine r_callV F e_X10_readPay_44 (q_X10_numeralG (x_l X) V c T 0 u h P L _ _ 0 99999 2 h13515.1 (hob) hP (by omega) (by omega) (yd13481) (by decide)) cb_X10_numeral ml_X10_165 im_X10_numeral se_X10_numeral h13515 rfl rfl (rest := []) rfl (Nat.le_of_ble_eq_true rfl) ⟨Nat.le_of_ble_eq_true rfl, Nat.le_of_ble_eq_true rfl⟩ ⟨Nat.le_of_ble_eq_true rfl, Nat.le_of_ble_eq_true rfl⟩ (fun r σ13523 hp => ?_)
    obtain ⟨h13524, hp⟩ := hp
    have h13525 := HS.trans h13515 h13524 (by decide)
    have ga13526 := ga13469.of (h13524.2 (c + 1) (by rw [kC_at (k := 1) (by decide)]; decide))
    have ga13527 := ga13470.of (h13524.2 (c + 2) (by rw [kC_at (k := 2) (by decide)]; decide))
    have ga13528 := ga13471.of (h13524.2 (c + 3) (by rw [kC_at (k := 3) (by decide)]; decide))
    have ga13529 := ga13472.of (h13524.2 (c + 7) (by rw [kC_at (k := 7) (by decide)]; decide))
    have ga13530 := ga13473.of (h13524.2 (c + 8) (by rw [kC_at (k := 8) (by decide)]; decide))
    have ga13531 := ga13474.of (h13524.2 (c + 9) (by rw [kC_at (k := 9) (by decide)]; decide))
    have ga13532 := ga13475.of (h13524.2 (c + 11) (by rw [kC_at (k := 11) (by decide)]; decide))
    obtain ⟨rfl, rfl⟩ := hp
    refine m_istore F (lv' := [(4, .int (nI 0)), (3, .int (nI 1)), (2, .int (nI 1)), (1, .int (nI 4)), (0, .ref c)]) e_X10_readPay_47 (by decide) rfl ?_
    refine m_aload_n F rfl e_X10_readPay_49 ?_
    refine r_getC F e_X10_readPay_50 fl_X10_141 h13525 (yd13481) ?_
    refine m_if_eq F e_X10_readPay_53 (fun q => absurd q (by decide)) (fun _ => ?_)
    have h13533 : HS V c _ [0, 2, 4, 5, 6, 7, 8, 9, 10, 12, 13, 14, 15, 16, 17, 18, 19, 20, 21, 22, 23] _ _ := ⟨HR.mono (Z' := Z) (by intro e; first | rfl | assumption | omega) h13525.1, h13525.2⟩
    exact m_vret F hQ e_X10_readPay_56 (⟨P, hP, (by unfold RP; omega), (by unfold payS; dsimp only; rw [if_pos (by omega)]; exact RM.l (yd13481) (yd13482) (by decide) (by decide) (by omega)), h13533, rfl⟩)
