theorem isL_b {x : Nat} (h : isL x = true) : 97 ≤ x ∧ x ≤ 122 := by unfold isL at h; simp at h; exact h
theorem isD_b {x : Nat} (h : isD x = true) : 48 ≤ x ∧ x ≤ 57 := by unfold isD at h; simp at h; exact h
theorem isB_n {x : Nat} (h : x ≠ 10) (h2 : x ≠ 32) : isB x = false := by unfold isB; simp; omega
theorem isB_y {x : Nat} (h : x = 10 ∨ x = 32) : isB x = true := by unfold isB; simp; omega
theorem nmcS {t : Nat → Nat} {p e i : Nat} : nmc t p e (i + 1) = nmc t p e i * 32 + (if p + i < e then t (p + i) - 96 else 0) := rfl
theorem nmc_lt {t : Nat → Nat} {p e i : Nat} (hl : ∀ j, p ≤ j → j < e → isL (t j) = true) (hi : i ≤ 5) : nmc t p e i < 33554432 := by
  have h1 := nmc_b (t := t) (p := p) (e := e) (fun j hj => by have h2 := isL_b (hl (p + j) (by omega) hj); omega) i
  have h2 := p32 hi
  have h3 : 32 ^ i ≤ 33554432 := h2
  omega
theorem isL_D {x : Nat} (h : isL x = false) : ¬ isL x = true := by rw [h]; decide
theorem isD_D {x : Nat} (h : isD x = false) : ¬ isD x = true := by rw [h]; decide
set_option maxRecDepth 20000 in
theorem lq_X10_nameHereE_7 {V : VX} {X : MX} {N : Nat} {σ : Mem} {c T Z u h : Nat} {P : NP} {L : Nat → LQ}  {n st : Nat} {so va : Int32} {ln : Nat} {ft fp : Int32} {t : Nat → Nat} (F : Fx V X yX10_nameHere cX10_nameHere 2 none (rmd 0 0 0)) (hQ : Rt V X 0 0 N (fun r τ => HS V c (⟨T, Z, u, h, P, L⟩ : RG) [0, 2, 3, 4, 5, 6, 7, 8, 9, 10, 11, 12, 13, 14, 15, 16, 17, 18, 19, 20, 21, 22, 23] σ τ ∧ YD τ c n st so (nI (nmc t st P.a 6)) ln ft fp ∧ r = none)) (hob : OKB L) (hP : OKP P) (hp0 : YD σ c n st so va ln ft fp) (hp1 : BR σ c n t) (hp2 : n ≤ 700) (hp3 : P.a - st ≤ 6) (hp4 : st ≤ P.a) (hp5 : P.a ≤ n) (hp6 : ∀ i, st ≤ i → i < P.a → isL (t i) = true)  : ∀ (fuel : Nat) (i : Nat) (τ : Mem), HS V c (⟨T, Z, u, h, P, L⟩ : RG) [0, 2, 3, 4, 5, 6, 7, 8, 9, 10, 11, 12, 13, 14, 15, 16, 17, 18, 19, 20, 21, 22, 23] σ τ → YD τ c n st so (nI (nmc t st P.a i)) ln ft fp ∧ i ≤ 6 → 6 - i < fuel → Wm V X 2 N τ 0 0 7 [(0, .ref c), (1, .int (nI i))] [] := by
  intro fuel
  induction fuel with
  | zero => intros; rename_i hm; exact absurd hm (Nat.not_lt_zero _)
  | succ fuel ih =>
    intro i τ h1 hi hm
    have hPP := hP
    unfold OKP at hPP
    have hB1 := hp1.of (h1.2 (c + 1) (by rw [kC_at (k := 1) (by decide)]; decide))
    have hn7 := hp2
    obtain ⟨hY1, i1⟩ := hi
    have hyd11252 := hY1
    obtain ⟨yd11252, yd11253, yd11254, yd11255, yd11256, yd11257, yd11258⟩ := hyd11252
    have hv5 : i ≤ 5 → nmc t st P.a i < 33554432 := fun q => nmc_lt hp6 q
    refine m_iload_n F rfl e_X10_nameHere_7 ?_
    refine m_bipush F (v := 6) (by decide) e_X10_nameHere_8 ?_
    refine m_icmp_ge F e_X10_nameHere_10 (fun q10 => ?_) (fun q10 => ?_)
    · have c10 : i ≥ 6 := (nI_leI (a := 6) (b := i) (by omega) (by omega)).mp q10
      have e6 : i = 6 := by omega
      subst e6
      exact m_vret F hQ e_X10_nameHere_63 (⟨h1, ⟨(yd11252), (yd11253), (yd11254), (yd11255), (yd11256), (yd11257), (yd11258)⟩, rfl⟩)
    · have c10 : i < 6 := by have hh := mt (nI_leI (a := 6) (b := i) (by omega) (by omega)).mpr q10; omega
      refine m_aload_n F rfl e_X10_nameHere_13 ?_
      refine m_aload_n F rfl e_X10_nameHere_14 ?_
      refine r_getC F e_X10_nameHere_15 fl_X10_120 h1 (yd11256) ?_
      refine m_iconst F (v := 5) (by decide) e_X10_nameHere_18 ?_
      refine m_ishl F e_X10_nameHere_19 ?_
      refine m_aload_n F rfl e_X10_nameHere_20 ?_
      refine r_getC F e_X10_nameHere_21 fl_X10_107 h1 (yd11254) ?_
      refine m_iload_n F rfl e_X10_nameHere_24 ?_
      refine m_iadd F e_X10_nameHere_25 ?_
      refine Wm.topE (w := nI (st + i)) (nI_add st i) ?_
      refine m_aload_n F rfl e_X10_nameHere_26 ?_
      refine r_get F e_X10_nameHere_27 fl_X10_97 h1 rfl (fun v hv f11259 => ?_)
      obtain rfl : v = .int (nI (P.a)) := hv
      refine m_icmp_ge F e_X10_nameHere_30 (fun q30 => ?_) (fun q30 => ?_)
      · have c30 : (st + i) ≥ P.a := (nI_leI (a := P.a) (b := (st + i)) (by omega) (by omega)).mp q30
        refine m_iconst F (v := 0) (by decide) e_X10_nameHere_52 ?_
        refine m_ior F e_X10_nameHere_53 ?_
        refine Wm.topE (w := nI (nmc t st P.a (i + 1))) ((yshl5 (d := 0) (hv5 (by omega)) (by omega)).trans (congrArg nI (by rw [nmcS, if_neg (by omega)]; try omega))) ?_
        refine r_put F (g' := (⟨T, Z, u, h, P, L⟩ : RG)) e_X10_nameHere_54 fp_X10_120 h1 (by decide) ⟨_, rfl⟩ (fun _ _ _ _ q => q) (fun _ _ _ q => q) rfl rfl (by decide) (fun σ11260 h11261 g11262 g11263 f11264 => ?_)
        have ga11265 := hB1.of (g11262 _ (by omega))
        refine m_iinc F (v := nI (i + 1)) (lv' := [(1, .int (nI (i + 1))), (0, .ref c)]) e_X10_nameHere_57 rfl (nI_add i 1) (by decide) rfl ?_
        refine m_goto F e_X10_nameHere_60 ?_
        refine Wm.lvsub (lv' := [(0, .ref c), (1, .int (nI (i + 1)))]) ?_ [1, 0] rfl
        exact ih (i + 1) _ h11261 ⟨⟨((g11263 17 (by decide)).trans yd11252), ((g11263 18 (by decide)).trans yd11253), ((g11263 20 (by decide)).trans yd11254), ((g11263 21 (by decide)).trans yd11255), (f11264), ((g11263 23 (by decide)).trans yd11257), ((g11263 24 (by decide)).trans yd11258)⟩, by omega⟩ (by omega)
      · have c30 : (st + i) < P.a := by have hh := mt (nI_leI (a := P.a) (b := (st + i)) (by omega) (by omega)).mpr q30; omega
        refine m_aload_n F rfl e_X10_nameHere_33 ?_
        refine r_get F e_X10_nameHere_34 fl_X10_7 h1 rfl (fun v hv f11266 => ?_)
        obtain rfl : v = .ref (c + 1) := hv
        refine m_aload_n F rfl e_X10_nameHere_37 ?_
        refine r_getC F e_X10_nameHere_38 fl_X10_107 h1 (yd11254) ?_
        refine m_iload_n F rfl e_X10_nameHere_41 ?_
        refine m_iadd F e_X10_nameHere_42 ?_
        refine Wm.topE (w := nI (st + i)) (nI_add st i) ?_
        have hb11267 := (hB1 (st + i) (by omega)).1
        refine r_iald F (len := 700) (j := st + i) e_X10_nameHere_43 h1 (fun _ h => h) (by decide) (nI_clamp (by omega)) (vp_in_nI (by omega) (by decide)) (fun x11268 h11269 f11270 => ?_)
        obtain rfl := Option.some.inj ((f11270).symm.trans ((hB1 (st + i) (by omega)).2))
        have hl9 := isL_b (hp6 (st + i) (by omega) (by omega))
        have hl9 := isL_b (hp6 (st + i) (by omega) (by omega))
        have hl9 := isL_b (hp6 (st + i) (by omega) (by omega))
        refine m_bipush F (v := 97) (by decide) e_X10_nameHere_44 ?_
        refine m_isub F e_X10_nameHere_46 ?_
        refine Wm.topE (w := nI ((t (st + i)) - 97)) (pk_sub (a := t (st + i)) (b := 97) (by omega)) ?_
        refine m_iconst F (v := 1) (by decide) e_X10_nameHere_47 ?_
        refine m_iadd F e_X10_nameHere_48 ?_
        refine Wm.topE (w := nI ((t (st + i)) - 97 + 1)) (nI_add ((t (st + i)) - 97) 1) ?_
        refine m_goto F e_X10_nameHere_49 ?_
        refine m_ior F e_X10_nameHere_53 ?_
        refine Wm.topE (w := nI (nmc t st P.a (i + 1))) ((yshl5 (d := (t (st + i)) - 97 + 1) (hv5 (by omega)) (by omega)).trans (congrArg nI (by rw [nmcS, if_pos (by omega)]; try omega))) ?_
        refine r_put F (g' := (⟨T, Z, u, h, P, L⟩ : RG)) e_X10_nameHere_54 fp_X10_120 h1 (by decide) ⟨_, rfl⟩ (fun _ _ _ _ q => q) (fun _ _ _ q => q) rfl rfl (by decide) (fun σ11271 h11272 g11273 g11274 f11275 => ?_)
        have ga11276 := hB1.of (g11273 _ (by omega))
        refine m_iinc F (v := nI (i + 1)) (lv' := [(1, .int (nI (i + 1))), (0, .ref c)]) e_X10_nameHere_57 rfl (nI_add i 1) (by decide) rfl ?_
        refine m_goto F e_X10_nameHere_60 ?_
        refine Wm.lvsub (lv' := [(0, .ref c), (1, .int (nI (i + 1)))]) ?_ [1, 0] rfl
        exact ih (i + 1) _ h11272 ⟨⟨((g11274 17 (by decide)).trans yd11252), ((g11274 18 (by decide)).trans yd11253), ((g11274 20 (by decide)).trans yd11254), ((g11274 21 (by decide)).trans yd11255), (f11275), ((g11274 23 (by decide)).trans yd11257), ((g11274 24 (by decide)).trans yd11258)⟩, by omega⟩ (by omega)
set_option maxRecDepth 20000 in
theorem q_X10_nameHereE (l : Launch) (V : VX) (c T Z u h : Nat) (P : NP) (L : Nat → LQ) (N : Nat) (σ : Mem) (n st : Nat) (so va : Int32) (ln : Nat) (ft fp : Int32) (t : Nat → Nat) (h0 : HR V c ⟨T, Z, u, h, P, L⟩ σ) (hob : OKB L) (hP : OKP P) (hp0 : YD σ c n st so va ln ft fp) (hp1 : BR σ c n t) (hp2 : n ≤ 700) (hp3 : P.a - st ≤ 6) (hp4 : st ≤ P.a) (hp5 : P.a ≤ n) (hp6 : ∀ i, st ≤ i → i < P.a → isL (t i) = true) : Ct l V yX10_nameHere cX10_nameHere 2 none 0 0 0 N σ [.ref c] (fun r τ => HS V c (⟨T, Z, u, h, P, L⟩ : RG) [0, 2, 3, 4, 5, 6, 7, 8, 9, 10, 11, 12, 13, 14, 15, 16, 17, 18, 19, 20, 21, 22, 23] σ τ ∧ YD τ c n st so (nI (nmc t st P.a 6)) ln ft fp ∧ r = none) := by
  refine Ct.of (by decide) (Nat.le_of_ble_eq_true rfl) [(0, .ref c)] rfl (fun X hX F hQ => ?_)
  have hPP := hP
  unfold OKP at hPP
  have h1 : HS V c ⟨T, Z, u, h, P, L⟩ [0, 2, 3, 4, 5, 6, 7, 8, 9, 10, 11, 12, 13, 14, 15, 16, 17, 18, 19, 20, 21, 22, 23] σ σ := HS.start h0
  have hyd11277 := hp0
  obtain ⟨yd11277, yd11278, yd11279, yd11280, yd11281, yd11282, yd11283⟩ := hyd11277
  have hn7 := hp2
  refine m_aload_n F rfl e_X10_nameHere_0 ?_
  refine m_iconst F (v := 0) (by decide) e_X10_nameHere_1 ?_
  refine r_put F (g' := (⟨T, Z, u, h, P, L⟩ : RG)) e_X10_nameHere_2 fp_X10_120 h1 (by decide) ⟨_, rfl⟩ (fun _ _ _ _ q => q) (fun _ _ _ q => q) rfl rfl (by decide) (fun σ11284 h11285 g11286 g11287 f11288 => ?_)
  have ga11289 := hp1.of (g11286 _ (by omega))
  refine m_iconst F (v := 0) (by decide) e_X10_nameHere_5 ?_
  refine m_istore_n F (lv' := [(1, .int 0), (0, .ref c)]) e_X10_nameHere_6 (by decide) rfl ?_
  refine Wm.lvsub (lv' := [(0, .ref c), (1, .int 0)]) ?_ [1, 0] rfl
  exact lq_X10_nameHereE_7 F hQ hob hP hp0 hp1 hp2 hp3 hp4 hp5 hp6 (6 - 0 + 1) 0 _ h11285 ⟨⟨((g11287 17 (by decide)).trans yd11277), ((g11287 18 (by decide)).trans yd11278), ((g11287 20 (by decide)).trans yd11279), ((g11287 21 (by decide)).trans yd11280), (f11288), ((g11287 23 (by decide)).trans yd11282), ((g11287 24 (by decide)).trans yd11283)⟩, by omega⟩ (Nat.lt_succ_self _)
set_option maxRecDepth 20000 in
theorem lq_X10_tokenE_162 {V : VX} {X : MX} {N : Nat} {σ : Mem} {c T Z u h : Nat} {P : NP} {L : Nat → LQ}  {n st : Nat} {so va : Int32} {ln : Nat} {ft fp : Int32} {t : Nat → Nat} (F : Fx V X yX10_token cX10_token 2 none (rmd 5 0 0)) (hQ : Rt V X 0 0 N (fun r τ => ∃ P9 : NP, OKP P9 ∧ RA P P9 ∧ P9.a = (tok t n P.a).2.2.2 ∧ (∃ so2 va2, MT so2 va2 (tok t n P.a).2.1 (tok t n P.a).2.2.1 ∧ YD τ c n (tok t n P.a).1 so2 va2 ln ft fp) ∧ HS V c (⟨T, Z, u, h, P9, L⟩ : RG) [0, 2, 3, 4, 5, 6, 7, 8, 9, 10, 11, 12, 13, 14, 15, 16, 17, 18, 19, 20, 21, 22, 23] σ τ ∧ r = none)) (hob : OKB L) (hP : OKP P) (hp0 : YD σ c n st so va ln ft fp) (hp1 : BR σ c n t) (hp2 : n ≤ 700) (hp3 : P.a ≤ n)  : ∀ (fuel : Nat) (p1 v1 : Nat) (P1 : NP) (τ : Mem), HS V c (⟨T, Z, u, h, P1, L⟩ : RG) [0, 2, 3, 4, 5, 6, 7, 8, 9, 10, 11, 12, 13, 14, 15, 16, 17, 18, 19, 20, 21, 22, 23] σ τ → OKP P1 → RA P P1 → YD τ c n p1 2 (nI v1) ln ft fp ∧ p1 = sc isB t n P.a ∧ p1 < n ∧ isL (t p1) = false ∧ isD (t p1) = true ∧ p1 ≤ P1.a ∧ P1.a ≤ n ∧ v1 ≤ 1000000000 ∧ min v1 10000000 = nuc t p1 (P1.a - p1) ∧ sc isD t n p1 = sc isD t n P1.a → 700 - P1.a < fuel → Wm V X 2 N τ 0 0 162 [(0, .ref c)] [] := by
  intro fuel
  induction fuel with
  | zero => intros; rename_i hm; exact absurd hm (Nat.not_lt_zero _)
  | succ fuel ih =>
    intro p1 v1 P1 τ h1 hP1 hR1 hi hm
    have hPP := hP
    unfold OKP at hPP
    have hPP1 := hP1
    unfold OKP at hPP1
    unfold RA at hR1
    have hB1 := hp1.of (h1.2 (c + 1) (by rw [kC_at (k := 1) (by decide)]; decide))
    have hn7 := hp2
    obtain ⟨hY1, i1, i2, i3, i4, i5, i6, i7, i8, i9⟩ := hi
    have hyd11290 := hY1
    obtain ⟨yd11290, yd11291, yd11292, yd11293, yd11294, yd11295, yd11296⟩ := hyd11290
    refine m_aload_n F rfl e_X10_token_162 ?_
    refine r_callV F e_X10_token_163 (q_X10_hereE (x_l X) V c T Z u h P1 L _ _  n t h1.1 (hob) hP1  (yd11291) hB1 hn7) cb_X10_here ml_X10_103 im_X10_here se_X10_here h1 rfl rfl (rest := []) rfl (Nat.le_of_ble_eq_true rfl) ⟨Nat.le_of_ble_eq_true rfl, Nat.le_of_ble_eq_true rfl⟩ ⟨Nat.le_of_ble_eq_true rfl, Nat.le_of_ble_eq_true rfl⟩ (fun r σ11297 hp => ?_)
    obtain ⟨h11298, hp⟩ := hp
    have h11299 := HS.trans h1 h11298 (by decide)
    have ga11300 := hB1.of (h11298.2 (c + 1) (by rw [kC_at (k := 1) (by decide)]; decide))
    rcases hp with ⟨he11301, rfl⟩ | ⟨he11301, hb11302, rfl⟩
    · refine m_callS F e_X10_token_166 (q_X10_isDigit2 (x_l X) V _ _ (-1)) cb_X10_isDigit ml_X10_126 sm_X10_isDigit rfl (rest := []) rfl (Nat.le_of_ble_eq_true rfl) ⟨Nat.le_of_ble_eq_true rfl, Nat.le_of_ble_eq_true rfl⟩ ⟨Nat.le_of_ble_eq_true rfl, Nat.le_of_ble_eq_true rfl⟩ (k' := 0) (z' := 0) (N' := N) rfl rfl rfl (fun r σ11303 hp => ?_)
      obtain ⟨rfl, hp⟩ := hp
      rcases hp with ⟨g11304, rfl⟩ | ⟨g11304, rfl⟩
      · refine m_if_eq F e_X10_token_169 (fun _ => ?_) (fun q => absurd (by decide) q)
        have e9 := i1.symm
        have eD : sc isD t n p1 = P1.a := i9.trans (sc_stop (Or.inl (by omega)))
        have et : tok t n P.a = (p1, 3, nuc t p1 (P1.a - p1), P1.a) := by unfold tok; simp only [e9, eD]; rw [if_neg (by omega), if_neg (isL_D i3), if_pos i4]
        exact m_vret F hQ e_X10_token_245 (⟨P1, hP1, (by unfold RA; omega), (by have e8 : (tok t n P.a).2.2.2 = P1.a := (by rw [et]); omega), ⟨2, (nI v1), by rw [et]; exact Or.inr (Or.inr (Or.inr (Or.inl ⟨rfl, rfl, v1, by omega, rfl, i8⟩))), by rw [et]; exact ⟨((fld_eq (h11298.2 c (by rw [show kC c c = 1 from kC_at (k := 0) (by decide)]; decide))).trans yd11290), ((fld_eq (h11298.2 c (by rw [show kC c c = 1 from kC_at (k := 0) (by decide)]; decide))).trans yd11291), ((fld_eq (h11298.2 c (by rw [show kC c c = 1 from kC_at (k := 0) (by decide)]; decide))).trans yd11292), ((fld_eq (h11298.2 c (by rw [show kC c c = 1 from kC_at (k := 0) (by decide)]; decide))).trans yd11293), ((fld_eq (h11298.2 c (by rw [show kC c c = 1 from kC_at (k := 0) (by decide)]; decide))).trans yd11294), ((fld_eq (h11298.2 c (by rw [show kC c c = 1 from kC_at (k := 0) (by decide)]; decide))).trans yd11295), ((fld_eq (h11298.2 c (by rw [show kC c c = 1 from kC_at (k := 0) (by decide)]; decide))).trans yd11296)⟩⟩, h11299, rfl⟩)
      · exact absurd g11304 (by decide)
    · refine m_callS F e_X10_token_166 (q_X10_isDigit2 (x_l X) V _ _ (nI (t P1.a))) cb_X10_isDigit ml_X10_126 sm_X10_isDigit rfl (rest := []) rfl (Nat.le_of_ble_eq_true rfl) ⟨Nat.le_of_ble_eq_true rfl, Nat.le_of_ble_eq_true rfl⟩ ⟨Nat.le_of_ble_eq_true rfl, Nat.le_of_ble_eq_true rfl⟩ (k' := 0) (z' := 0) (N' := N) rfl rfl rfl (fun r σ11305 hp => ?_)
      obtain ⟨rfl, hp⟩ := hp
      rcases hp with ⟨g11306, rfl⟩ | ⟨g11306, rfl⟩
      · have kg11306 : isD (t P1.a) = false := isD_f (by omega) g11306
        refine m_if_eq F e_X10_token_169 (fun _ => ?_) (fun q => absurd (by decide) q)
        have e9 := i1.symm
        have eD : sc isD t n p1 = P1.a := i9.trans (sc_stop (Or.inr kg11306))
        have et : tok t n P.a = (p1, 3, nuc t p1 (P1.a - p1), P1.a) := by unfold tok; simp only [e9, eD]; rw [if_neg (by omega), if_neg (isL_D i3), if_pos i4]
        exact m_vret F hQ e_X10_token_245 (⟨P1, hP1, (by unfold RA; omega), (by have e8 : (tok t n P.a).2.2.2 = P1.a := (by rw [et]); omega), ⟨2, (nI v1), by rw [et]; exact Or.inr (Or.inr (Or.inr (Or.inl ⟨rfl, rfl, v1, by omega, rfl, i8⟩))), by rw [et]; exact ⟨((fld_eq (h11298.2 c (by rw [show kC c c = 1 from kC_at (k := 0) (by decide)]; decide))).trans yd11290), ((fld_eq (h11298.2 c (by rw [show kC c c = 1 from kC_at (k := 0) (by decide)]; decide))).trans yd11291), ((fld_eq (h11298.2 c (by rw [show kC c c = 1 from kC_at (k := 0) (by decide)]; decide))).trans yd11292), ((fld_eq (h11298.2 c (by rw [show kC c c = 1 from kC_at (k := 0) (by decide)]; decide))).trans yd11293), ((fld_eq (h11298.2 c (by rw [show kC c c = 1 from kC_at (k := 0) (by decide)]; decide))).trans yd11294), ((fld_eq (h11298.2 c (by rw [show kC c c = 1 from kC_at (k := 0) (by decide)]; decide))).trans yd11295), ((fld_eq (h11298.2 c (by rw [show kC c c = 1 from kC_at (k := 0) (by decide)]; decide))).trans yd11296)⟩⟩, h11299, rfl⟩)
      · have kg11306 : isD (t P1.a) = true := isD_t (by omega) g11306
        refine m_if_eq F e_X10_token_169 (fun q => absurd q (by decide)) (fun _ => ?_)
        refine m_aload_n F rfl e_X10_token_172 ?_
        refine m_aload_n F rfl e_X10_token_173 ?_
        refine r_getC F e_X10_token_174 fl_X10_120 h11299 ((fld_eq (h11298.2 c (by rw [show kC c c = 1 from kC_at (k := 0) (by decide)]; decide))).trans yd11294) ?_
        refine m_ldc F kc_X10_129 e_X10_token_177 ?_
        refine m_icmp_le F e_X10_token_179 (fun q179 => ?_) (fun q179 => ?_)
        · have c179 : v1 ≤ 9999999 := (nI_leI (a := v1) (b := 9999999) (by omega) (by omega)).mp q179
          refine m_bipush F (v := 10) (by decide) e_X10_token_189 ?_
          refine m_aload_n F rfl e_X10_token_191 ?_
          refine r_getC F e_X10_token_192 fl_X10_120 h11299 ((fld_eq (h11298.2 c (by rw [show kC c c = 1 from kC_at (k := 0) (by decide)]; decide))).trans yd11294) ?_
          refine m_imul F e_X10_token_195 ?_
          refine Wm.topE (w := nI (10 * v1)) (pk_mul 10 v1) ?_
          refine m_aload_n F rfl e_X10_token_196 ?_
          refine r_callV F e_X10_token_197 (q_X10_hereE (x_l X) V c T Z u h P1 L _ _  n t h11299.1 (hob) hP1  ((fld_eq (h11298.2 c (by rw [show kC c c = 1 from kC_at (k := 0) (by decide)]; decide))).trans yd11291) ga11300 hn7) cb_X10_here ml_X10_103 im_X10_here se_X10_here h11299 rfl rfl (rest := [.int (nI (10 * v1)), .ref c]) rfl (Nat.le_of_ble_eq_true rfl) ⟨Nat.le_of_ble_eq_true rfl, Nat.le_of_ble_eq_true rfl⟩ ⟨Nat.le_of_ble_eq_true rfl, Nat.le_of_ble_eq_true rfl⟩ (fun r σ11307 hp => ?_)
          obtain ⟨h11308, hp⟩ := hp
          have h11309 := HS.trans h11299 h11308 (by decide)
          have ga11310 := ga11300.of (h11308.2 (c + 1) (by rw [kC_at (k := 1) (by decide)]; decide))
          rcases hp with ⟨he11311, rfl⟩ | ⟨he11311, hb11312, rfl⟩
          · exfalso; omega
          · refine m_iadd F e_X10_token_200 ?_
            refine Wm.topE (w := nI ((10 * v1) + (t P1.a))) (nI_add (10 * v1) (t P1.a)) ?_
            have hd8 := isD_b kg11306
            have hd8 := isD_b kg11306
            have hd8 := isD_b kg11306
            refine m_bipush F (v := 48) (by decide) e_X10_token_201 ?_
            refine m_isub F e_X10_token_203 ?_
            refine Wm.topE (w := nI (((10 * v1) + (t P1.a)) - 48)) (pk_sub (a := (10 * v1) + (t P1.a)) (b := 48) (by omega)) ?_
            refine r_put F (g' := (⟨T, Z, u, h, P1, L⟩ : RG)) e_X10_token_204 fp_X10_120 h11309 (by decide) ⟨_, rfl⟩ (fun _ _ _ _ q => q) (fun _ _ _ q => q) rfl rfl (by decide) (fun σ11313 h11314 g11315 g11316 f11317 => ?_)
            have ga11318 := ga11310.of (g11315 _ (by omega))
            refine m_aload_n F rfl e_X10_token_207 ?_
            refine m_dup F rfl e_X10_token_208 ?_
            refine r_get F e_X10_token_209 fl_X10_97 h11314 rfl (fun v hv f11319 => ?_)
            obtain rfl : v = .int (nI (P1.a)) := hv
            refine m_iconst F (v := 1) (by decide) e_X10_token_212 ?_
            refine m_iadd F e_X10_token_213 ?_
            refine Wm.topE (w := nI (P1.a + 1)) (nI_add P1.a 1) ?_
            refine r_put F (g' := (⟨T, Z, u, h, (mkP P1.n0 P1.n2 P1.n5 P1.n7 P1.m0 P1.m5 P1.w2 P1.w7 P1.kk (P1.a + 1)), L⟩ : RG)) e_X10_token_214 fp_X10_97 h11314 (by decide) rfl ctl_a CR.setA rfl rfl (by decide) (fun σ11320 h11321 g11322 g11323 f11324 => ?_)
            have ga11325 := ga11318.of (g11322 _ (by omega))
            obtain ⟨P11326, eP11326⟩ : ∃ P9, P9 = (mkP P1.n0 P1.n2 P1.n5 P1.n7 P1.m0 P1.m5 P1.w2 P1.w7 P1.kk (P1.a + 1)) := ⟨_, rfl⟩
            rw [← eP11326] at h11321
            have fP11326 : P11326.n0 = P1.n0 ∧ P11326.n2 = P1.n2 ∧ P11326.n5 = P1.n5 ∧ P11326.n7 = P1.n7 ∧ P11326.m0 = P1.m0 ∧ P11326.m5 = P1.m5 ∧ P11326.w2 = P1.w2 ∧ P11326.w7 = P1.w7 ∧ P11326.kk = P1.kk ∧ P11326.a = P1.a + 1 := by rw [eP11326]; exact ⟨rfl, rfl, rfl, rfl, rfl, rfl, rfl, rfl, rfl, rfl⟩
            refine m_goto F e_X10_token_217 ?_
            have oP11327 : OKP P11326 := by unfold OKP; omega
            have hd9 := isD_b kg11306
            exact ih p1 (((10 * v1) + (t P1.a)) - 48) P11326 _ h11321 oP11327 (by unfold RA; omega) ⟨⟨((g11323 17 (by decide)).trans ((g11316 17 (by decide)).trans ((fld_eq (h11308.2 c (by rw [show kC c c = 1 from kC_at (k := 0) (by decide)]; decide))).trans ((fld_eq (h11298.2 c (by rw [show kC c c = 1 from kC_at (k := 0) (by decide)]; decide))).trans yd11290)))), ((g11323 18 (by decide)).trans ((g11316 18 (by decide)).trans ((fld_eq (h11308.2 c (by rw [show kC c c = 1 from kC_at (k := 0) (by decide)]; decide))).trans ((fld_eq (h11298.2 c (by rw [show kC c c = 1 from kC_at (k := 0) (by decide)]; decide))).trans yd11291)))), ((g11323 20 (by decide)).trans ((g11316 20 (by decide)).trans ((fld_eq (h11308.2 c (by rw [show kC c c = 1 from kC_at (k := 0) (by decide)]; decide))).trans ((fld_eq (h11298.2 c (by rw [show kC c c = 1 from kC_at (k := 0) (by decide)]; decide))).trans yd11292)))), ((g11323 21 (by decide)).trans ((g11316 21 (by decide)).trans ((fld_eq (h11308.2 c (by rw [show kC c c = 1 from kC_at (k := 0) (by decide)]; decide))).trans ((fld_eq (h11298.2 c (by rw [show kC c c = 1 from kC_at (k := 0) (by decide)]; decide))).trans yd11293)))), ((g11323 22 (by decide)).trans f11317), ((g11323 23 (by decide)).trans ((g11316 23 (by decide)).trans ((fld_eq (h11308.2 c (by rw [show kC c c = 1 from kC_at (k := 0) (by decide)]; decide))).trans ((fld_eq (h11298.2 c (by rw [show kC c c = 1 from kC_at (k := 0) (by decide)]; decide))).trans yd11295)))), ((g11323 24 (by decide)).trans ((g11316 24 (by decide)).trans ((fld_eq (h11308.2 c (by rw [show kC c c = 1 from kC_at (k := 0) (by decide)]; decide))).trans ((fld_eq (h11298.2 c (by rw [show kC c c = 1 from kC_at (k := 0) (by decide)]; decide))).trans yd11296))))⟩, i1, i2, i3, i4, by omega, by omega, by omega, by rw [show P11326.a - p1 = (P1.a - p1) + 1 by omega]; show _ = min (nuc t p1 (P1.a - p1) * 10 + (t (p1 + (P1.a - p1)) - 48)) 10000000; rw [show p1 + (P1.a - p1) = P1.a by omega]; omega, by rw [i9, show P11326.a = P1.a + 1 by omega]; exact sc_go (by omega) kg11306⟩ (by omega)
        · have c179 : v1 > 9999999 := by have hh := mt (nI_leI (a := v1) (b := 9999999) (by omega) (by omega)).mpr q179; omega
          refine m_aload_n F rfl e_X10_token_182 ?_
          refine r_getC F e_X10_token_183 fl_X10_120 h11299 ((fld_eq (h11298.2 c (by rw [show kC c c = 1 from kC_at (k := 0) (by decide)]; decide))).trans yd11294) ?_
          refine m_goto F e_X10_token_186 ?_
          refine r_put F (g' := (⟨T, Z, u, h, P1, L⟩ : RG)) e_X10_token_204 fp_X10_120 h11299 (by decide) ⟨_, rfl⟩ (fun _ _ _ _ q => q) (fun _ _ _ q => q) rfl rfl (by decide) (fun σ11328 h11329 g11330 g11331 f11332 => ?_)
          have ga11333 := ga11300.of (g11330 _ (by omega))
          refine m_aload_n F rfl e_X10_token_207 ?_
          refine m_dup F rfl e_X10_token_208 ?_
          refine r_get F e_X10_token_209 fl_X10_97 h11329 rfl (fun v hv f11334 => ?_)
          obtain rfl : v = .int (nI (P1.a)) := hv
          refine m_iconst F (v := 1) (by decide) e_X10_token_212 ?_
          refine m_iadd F e_X10_token_213 ?_
          refine Wm.topE (w := nI (P1.a + 1)) (nI_add P1.a 1) ?_
          refine r_put F (g' := (⟨T, Z, u, h, (mkP P1.n0 P1.n2 P1.n5 P1.n7 P1.m0 P1.m5 P1.w2 P1.w7 P1.kk (P1.a + 1)), L⟩ : RG)) e_X10_token_214 fp_X10_97 h11329 (by decide) rfl ctl_a CR.setA rfl rfl (by decide) (fun σ11335 h11336 g11337 g11338 f11339 => ?_)
          have ga11340 := ga11333.of (g11337 _ (by omega))
          obtain ⟨P11341, eP11341⟩ : ∃ P9, P9 = (mkP P1.n0 P1.n2 P1.n5 P1.n7 P1.m0 P1.m5 P1.w2 P1.w7 P1.kk (P1.a + 1)) := ⟨_, rfl⟩
          rw [← eP11341] at h11336
          have fP11341 : P11341.n0 = P1.n0 ∧ P11341.n2 = P1.n2 ∧ P11341.n5 = P1.n5 ∧ P11341.n7 = P1.n7 ∧ P11341.m0 = P1.m0 ∧ P11341.m5 = P1.m5 ∧ P11341.w2 = P1.w2 ∧ P11341.w7 = P1.w7 ∧ P11341.kk = P1.kk ∧ P11341.a = P1.a + 1 := by rw [eP11341]; exact ⟨rfl, rfl, rfl, rfl, rfl, rfl, rfl, rfl, rfl, rfl⟩
          refine m_goto F e_X10_token_217 ?_
          have oP11342 : OKP P11341 := by unfold OKP; omega
          have hd9 := isD_b kg11306
          exact ih p1 v1 P11341 _ h11336 oP11342 (by unfold RA; omega) ⟨⟨((g11338 17 (by decide)).trans ((g11331 17 (by decide)).trans ((fld_eq (h11298.2 c (by rw [show kC c c = 1 from kC_at (k := 0) (by decide)]; decide))).trans yd11290))), ((g11338 18 (by decide)).trans ((g11331 18 (by decide)).trans ((fld_eq (h11298.2 c (by rw [show kC c c = 1 from kC_at (k := 0) (by decide)]; decide))).trans yd11291))), ((g11338 20 (by decide)).trans ((g11331 20 (by decide)).trans ((fld_eq (h11298.2 c (by rw [show kC c c = 1 from kC_at (k := 0) (by decide)]; decide))).trans yd11292))), ((g11338 21 (by decide)).trans ((g11331 21 (by decide)).trans ((fld_eq (h11298.2 c (by rw [show kC c c = 1 from kC_at (k := 0) (by decide)]; decide))).trans yd11293))), ((g11338 22 (by decide)).trans f11332), ((g11338 23 (by decide)).trans ((g11331 23 (by decide)).trans ((fld_eq (h11298.2 c (by rw [show kC c c = 1 from kC_at (k := 0) (by decide)]; decide))).trans yd11295))), ((g11338 24 (by decide)).trans ((g11331 24 (by decide)).trans ((fld_eq (h11298.2 c (by rw [show kC c c = 1 from kC_at (k := 0) (by decide)]; decide))).trans yd11296)))⟩, i1, i2, i3, i4, by omega, by omega, by omega, by rw [show P11341.a - p1 = (P1.a - p1) + 1 by omega]; show _ = min (nuc t p1 (P1.a - p1) * 10 + (t (p1 + (P1.a - p1)) - 48)) 10000000; rw [show p1 + (P1.a - p1) = P1.a by omega]; omega, by rw [i9, show P11341.a = P1.a + 1 by omega]; exact sc_go (by omega) kg11306⟩ (by omega)
set_option maxRecDepth 20000 in
theorem lq_X10_tokenE_64 {V : VX} {X : MX} {N : Nat} {σ : Mem} {c T Z u h : Nat} {P : NP} {L : Nat → LQ}  {n st : Nat} {so va : Int32} {ln : Nat} {ft fp : Int32} {t : Nat → Nat} (F : Fx V X yX10_token cX10_token 2 none (rmd 5 0 0)) (hQ : Rt V X 0 0 N (fun r τ => ∃ P9 : NP, OKP P9 ∧ RA P P9 ∧ P9.a = (tok t n P.a).2.2.2 ∧ (∃ so2 va2, MT so2 va2 (tok t n P.a).2.1 (tok t n P.a).2.2.1 ∧ YD τ c n (tok t n P.a).1 so2 va2 ln ft fp) ∧ HS V c (⟨T, Z, u, h, P9, L⟩ : RG) [0, 2, 3, 4, 5, 6, 7, 8, 9, 10, 11, 12, 13, 14, 15, 16, 17, 18, 19, 20, 21, 22, 23] σ τ ∧ r = none)) (hob : OKB L) (hP : OKP P) (hp0 : YD σ c n st so va ln ft fp) (hp1 : BR σ c n t) (hp2 : n ≤ 700) (hp3 : P.a ≤ n)  : ∀ (fuel : Nat) (p1 : Nat) (P1 : NP) (τ : Mem), HS V c (⟨T, Z, u, h, P1, L⟩ : RG) [0, 2, 3, 4, 5, 6, 7, 8, 9, 10, 11, 12, 13, 14, 15, 16, 17, 18, 19, 20, 21, 22, 23] σ τ → OKP P1 → RA P P1 → YD τ c n p1 so va ln ft fp ∧ p1 = sc isB t n P.a ∧ p1 < n ∧ isL (t p1) = true ∧ p1 ≤ P1.a ∧ P1.a ≤ n ∧ sc isL t n p1 = sc isL t n P1.a → 700 - P1.a < fuel → Wm V X 2 N τ 0 0 64 [(0, .ref c)] [] := by
  intro fuel
  induction fuel with
  | zero => intros; rename_i hm; exact absurd hm (Nat.not_lt_zero _)
  | succ fuel ih =>
    intro p1 P1 τ h1 hP1 hR1 hi hm
    have hPP := hP
    unfold OKP at hPP
    have hPP1 := hP1
    unfold OKP at hPP1
    unfold RA at hR1
    have hB1 := hp1.of (h1.2 (c + 1) (by rw [kC_at (k := 1) (by decide)]; decide))
    have hn7 := hp2
    obtain ⟨hY1, i1, i2, i3, i4, i5, i6⟩ := hi
    have hyd11343 := hY1
    obtain ⟨yd11343, yd11344, yd11345, yd11346, yd11347, yd11348, yd11349⟩ := hyd11343
    refine m_aload_n F rfl e_X10_token_64 ?_
    refine r_callV F e_X10_token_65 (q_X10_hereE (x_l X) V c T Z u h P1 L _ _  n t h1.1 (hob) hP1  (yd11344) hB1 hn7) cb_X10_here ml_X10_103 im_X10_here se_X10_here h1 rfl rfl (rest := []) rfl (Nat.le_of_ble_eq_true rfl) ⟨Nat.le_of_ble_eq_true rfl, Nat.le_of_ble_eq_true rfl⟩ ⟨Nat.le_of_ble_eq_true rfl, Nat.le_of_ble_eq_true rfl⟩ (fun r σ11350 hp => ?_)
    obtain ⟨h11351, hp⟩ := hp
    have h11352 := HS.trans h1 h11351 (by decide)
    have ga11353 := hB1.of (h11351.2 (c + 1) (by rw [kC_at (k := 1) (by decide)]; decide))
    rcases hp with ⟨he11354, rfl⟩ | ⟨he11354, hb11355, rfl⟩
    · refine m_callS F e_X10_token_68 (q_X10_isSmall2 (x_l X) V _ _ (-1)) cb_X10_isSmall ml_X10_113 sm_X10_isSmall rfl (rest := []) rfl (Nat.le_of_ble_eq_true rfl) ⟨Nat.le_of_ble_eq_true rfl, Nat.le_of_ble_eq_true rfl⟩ ⟨Nat.le_of_ble_eq_true rfl, Nat.le_of_ble_eq_true rfl⟩ (k' := 0) (z' := 0) (N' := N) rfl rfl rfl (fun r σ11356 hp => ?_)
      obtain ⟨rfl, hp⟩ := hp
      rcases hp with ⟨g11357, rfl⟩ | ⟨g11357, rfl⟩
      · refine m_if_eq F e_X10_token_71 (fun _ => ?_) (fun q => absurd (by decide) q)
        refine m_aload_n F rfl e_X10_token_87 ?_
        have eL : sc isL t n p1 = P1.a := i6.trans (sc_stop (Or.inl (by omega)))
        have hL1 : p1 < P1.a := by have h8 := sc_go (p := isL) (t := t) i2 i3; have h9 := sc_in (p := isL) (t := t) (n := n) (a := p1 + 1) (by omega); omega
        have hll : ∀ i, p1 ≤ i → i < P1.a → isL (t i) = true := fun i a1 a2 => scan_all (n - p1) p1 i a1 (by show i < sc isL t n p1; omega)
        have eL : sc isL t n p1 = P1.a := i6.trans (sc_stop (Or.inl (by omega)))
        have hL1 : p1 < P1.a := by have h8 := sc_go (p := isL) (t := t) i2 i3; have h9 := sc_in (p := isL) (t := t) (n := n) (a := p1 + 1) (by omega); omega
        have hll : ∀ i, p1 ≤ i → i < P1.a → isL (t i) = true := fun i a1 a2 => scan_all (n - p1) p1 i a1 (by show i < sc isL t n p1; omega)
        have eL : sc isL t n p1 = P1.a := i6.trans (sc_stop (Or.inl (by omega)))
        have hL1 : p1 < P1.a := by have h8 := sc_go (p := isL) (t := t) i2 i3; have h9 := sc_in (p := isL) (t := t) (n := n) (a := p1 + 1) (by omega); omega
        have hll : ∀ i, p1 ≤ i → i < P1.a → isL (t i) = true := fun i a1 a2 => scan_all (n - p1) p1 i a1 (by show i < sc isL t n p1; omega)
        refine m_aload_n F rfl e_X10_token_88 ?_
        refine r_callV F e_X10_token_89 (q_X10_wordHereE (x_l X) V c T Z u h P1 L _ _  n p1 t h11352.1 (hob) hP1  ((fld_eq (h11351.2 c (by rw [show kC c c = 1 from kC_at (k := 0) (by decide)]; decide))).trans yd11345) ga11353 hn7 hL1 (by omega) hll) cb_X10_wordHere ml_X10_117 im_X10_wordHere se_X10_wordHere h11352 rfl rfl (rest := [.ref c]) rfl (Nat.le_of_ble_eq_true rfl) ⟨Nat.le_of_ble_eq_true rfl, Nat.le_of_ble_eq_true rfl⟩ ⟨Nat.le_of_ble_eq_true rfl, Nat.le_of_ble_eq_true rfl⟩ (fun r σ11358 hp => ?_)
        obtain ⟨h11359, hp⟩ := hp
        have h11360 := HS.trans h11352 h11359 (by decide)
        have ga11361 := ga11353.of (h11359.2 (c + 1) (by rw [kC_at (k := 1) (by decide)]; decide))
        rcases hp with ⟨hk1, hk2, rfl⟩ | ⟨hk1, rfl⟩
        · refine r_put F (g' := (⟨T, Z, u, h, P1, L⟩ : RG)) e_X10_token_92 fp_X10_120 h11360 (by decide) ⟨_, rfl⟩ (fun _ _ _ _ q => q) (fun _ _ _ q => q) rfl rfl (by decide) (fun σ11362 h11363 g11364 g11365 f11366 => ?_)
          have ga11367 := ga11361.of (g11364 _ (by omega))
          refine m_aload_n F rfl e_X10_token_95 ?_
          refine m_aload_n F rfl e_X10_token_96 ?_
          refine r_getC F e_X10_token_97 fl_X10_120 h11363 (f11366) ?_
          refine m_iconst F (v := (-1)) (by decide) e_X10_token_100 ?_
          refine m_icmp_eq F e_X10_token_101 (fun q101 => ?_) (fun q101 => ?_)
          · exact absurd q101 (nI_nm1 (by omega))
          · refine m_iconst F (v := 0) (by decide) e_X10_token_104 ?_
            refine m_goto F e_X10_token_105 ?_
            refine r_put F (g' := (⟨T, Z, u, h, P1, L⟩ : RG)) e_X10_token_127 fp_X10_110 h11363 (by decide) ⟨_, rfl⟩ (fun _ _ _ _ q => q) (fun _ _ _ q => q) rfl rfl (by decide) (fun σ11368 h11369 g11370 g11371 f11372 => ?_)
            have ga11373 := ga11367.of (g11370 _ (by omega))
            refine m_aload_n F rfl e_X10_token_130 ?_
            refine r_getC F e_X10_token_131 fl_X10_110 h11369 (f11372) ?_
            refine m_iconst F (v := 1) (by decide) e_X10_token_134 ?_
            refine m_icmp_ne F e_X10_token_135 (fun _ => ?_) (fun q => absurd q (by decide))
            have e9 := i1.symm
            have et : tok t n P.a = (p1, 1, kix (nmc t p1 P1.a 6), P1.a) := by unfold tok; simp only [e9, eL]; rw [if_neg (by omega), if_pos i3, if_pos hk1, if_pos hk2]
            exact m_vret F hQ e_X10_token_245 (⟨P1, hP1, (by unfold RA; omega), (by have e8 : (tok t n P.a).2.2.2 = P1.a := (by rw [et]); omega), ⟨0, (nI (kix (nmc t p1 P1.a 6))), by rw [et]; exact Or.inr (Or.inl ⟨rfl, rfl, rfl, hk2⟩), by rw [et]; exact ⟨((g11371 17 (by decide)).trans ((g11365 17 (by decide)).trans ((fld_eq (h11359.2 c (by rw [show kC c c = 1 from kC_at (k := 0) (by decide)]; decide))).trans ((fld_eq (h11351.2 c (by rw [show kC c c = 1 from kC_at (k := 0) (by decide)]; decide))).trans yd11343)))), ((g11371 18 (by decide)).trans ((g11365 18 (by decide)).trans ((fld_eq (h11359.2 c (by rw [show kC c c = 1 from kC_at (k := 0) (by decide)]; decide))).trans ((fld_eq (h11351.2 c (by rw [show kC c c = 1 from kC_at (k := 0) (by decide)]; decide))).trans yd11344)))), ((g11371 20 (by decide)).trans ((g11365 20 (by decide)).trans ((fld_eq (h11359.2 c (by rw [show kC c c = 1 from kC_at (k := 0) (by decide)]; decide))).trans ((fld_eq (h11351.2 c (by rw [show kC c c = 1 from kC_at (k := 0) (by decide)]; decide))).trans yd11345)))), (f11372), ((g11371 22 (by decide)).trans f11366), ((g11371 23 (by decide)).trans ((g11365 23 (by decide)).trans ((fld_eq (h11359.2 c (by rw [show kC c c = 1 from kC_at (k := 0) (by decide)]; decide))).trans ((fld_eq (h11351.2 c (by rw [show kC c c = 1 from kC_at (k := 0) (by decide)]; decide))).trans yd11348)))), ((g11371 24 (by decide)).trans ((g11365 24 (by decide)).trans ((fld_eq (h11359.2 c (by rw [show kC c c = 1 from kC_at (k := 0) (by decide)]; decide))).trans ((fld_eq (h11351.2 c (by rw [show kC c c = 1 from kC_at (k := 0) (by decide)]; decide))).trans yd11349))))⟩⟩, h11369, rfl⟩)
        · refine r_put F (g' := (⟨T, Z, u, h, P1, L⟩ : RG)) e_X10_token_92 fp_X10_120 h11360 (by decide) ⟨_, rfl⟩ (fun _ _ _ _ q => q) (fun _ _ _ q => q) rfl rfl (by decide) (fun σ11374 h11375 g11376 g11377 f11378 => ?_)
          have ga11379 := ga11361.of (g11376 _ (by omega))
          refine m_aload_n F rfl e_X10_token_95 ?_
          refine m_aload_n F rfl e_X10_token_96 ?_
          refine r_getC F e_X10_token_97 fl_X10_120 h11375 (f11378) ?_
          refine m_iconst F (v := (-1)) (by decide) e_X10_token_100 ?_
          refine m_icmp_eq F e_X10_token_101 (fun _ => ?_) (fun q => absurd (by decide) q)
          refine m_aload_n F rfl e_X10_token_108 ?_
          refine r_get F e_X10_token_109 fl_X10_97 h11375 rfl (fun v hv f11380 => ?_)
          obtain rfl : v = .int (nI (P1.a)) := hv
          refine m_aload_n F rfl e_X10_token_112 ?_
          refine r_getC F e_X10_token_113 fl_X10_107 h11375 ((g11377 20 (by decide)).trans ((fld_eq (h11359.2 c (by rw [show kC c c = 1 from kC_at (k := 0) (by decide)]; decide))).trans ((fld_eq (h11351.2 c (by rw [show kC c c = 1 from kC_at (k := 0) (by decide)]; decide))).trans yd11345))) ?_
          refine m_isub F e_X10_token_116 ?_
          refine Wm.topE (w := nI (P1.a - p1)) (pk_sub (a := P1.a) (b := p1) (by omega)) ?_
          refine m_bipush F (v := 6) (by decide) e_X10_token_117 ?_
          refine m_icmp_le F e_X10_token_119 (fun q119 => ?_) (fun q119 => ?_)
          · have c119 : (P1.a - p1) ≤ 6 := (nI_leI (a := (P1.a - p1)) (b := 6) (by omega) (by omega)).mp q119
            refine m_iconst F (v := 1) (by decide) e_X10_token_126 ?_
            refine r_put F (g' := (⟨T, Z, u, h, P1, L⟩ : RG)) e_X10_token_127 fp_X10_110 h11375 (by decide) ⟨_, rfl⟩ (fun _ _ _ _ q => q) (fun _ _ _ q => q) rfl rfl (by decide) (fun σ11381 h11382 g11383 g11384 f11385 => ?_)
            have ga11386 := ga11379.of (g11383 _ (by omega))
            refine m_aload_n F rfl e_X10_token_130 ?_
            refine r_getC F e_X10_token_131 fl_X10_110 h11382 (f11385) ?_
            refine m_iconst F (v := 1) (by decide) e_X10_token_134 ?_
            refine m_icmp_ne F e_X10_token_135 (fun q => absurd (by decide) q) (fun _ => ?_)
            refine m_aload_n F rfl e_X10_token_138 ?_
            refine r_callV F e_X10_token_139 (q_X10_nameHereE (x_l X) V c T Z u h P1 L _ _  n p1 1 (-1) ln ft fp t h11382.1 (hob) hP1  ⟨((g11384 17 (by decide)).trans ((g11377 17 (by decide)).trans ((fld_eq (h11359.2 c (by rw [show kC c c = 1 from kC_at (k := 0) (by decide)]; decide))).trans ((fld_eq (h11351.2 c (by rw [show kC c c = 1 from kC_at (k := 0) (by decide)]; decide))).trans yd11343)))), ((g11384 18 (by decide)).trans ((g11377 18 (by decide)).trans ((fld_eq (h11359.2 c (by rw [show kC c c = 1 from kC_at (k := 0) (by decide)]; decide))).trans ((fld_eq (h11351.2 c (by rw [show kC c c = 1 from kC_at (k := 0) (by decide)]; decide))).trans yd11344)))), ((g11384 20 (by decide)).trans ((g11377 20 (by decide)).trans ((fld_eq (h11359.2 c (by rw [show kC c c = 1 from kC_at (k := 0) (by decide)]; decide))).trans ((fld_eq (h11351.2 c (by rw [show kC c c = 1 from kC_at (k := 0) (by decide)]; decide))).trans yd11345)))), (f11385), ((g11384 22 (by decide)).trans f11378), ((g11384 23 (by decide)).trans ((g11377 23 (by decide)).trans ((fld_eq (h11359.2 c (by rw [show kC c c = 1 from kC_at (k := 0) (by decide)]; decide))).trans ((fld_eq (h11351.2 c (by rw [show kC c c = 1 from kC_at (k := 0) (by decide)]; decide))).trans yd11348)))), ((g11384 24 (by decide)).trans ((g11377 24 (by decide)).trans ((fld_eq (h11359.2 c (by rw [show kC c c = 1 from kC_at (k := 0) (by decide)]; decide))).trans ((fld_eq (h11351.2 c (by rw [show kC c c = 1 from kC_at (k := 0) (by decide)]; decide))).trans yd11349))))⟩ ga11386 hn7 (by omega) (by omega) (by omega) hll) cb_X10_nameHere ml_X10_123 im_X10_nameHere se_X10_nameHere h11382 rfl rfl (rest := []) rfl (Nat.le_of_ble_eq_true rfl) ⟨Nat.le_of_ble_eq_true rfl, Nat.le_of_ble_eq_true rfl⟩ ⟨Nat.le_of_ble_eq_true rfl, Nat.le_of_ble_eq_true rfl⟩ (fun r σ11387 hp => ?_)
            obtain ⟨h11388, hp⟩ := hp
            have h11389 := HS.trans h11382 h11388 (by decide)
            have ga11390 := ga11386.of (h11388.2 (c + 1) (by rw [kC_at (k := 1) (by decide)]; decide))
            obtain ⟨hp, rfl⟩ := hp
            have hyd11391 := hp
            obtain ⟨yd11391, yd11392, yd11393, yd11394, yd11395, yd11396, yd11397⟩ := hyd11391
            refine m_goto F e_X10_token_142 ?_
            have e9 := i1.symm
            have et : tok t n P.a = (p1, 2, nmc t p1 P1.a 6, P1.a) := by unfold tok; simp only [e9, eL]; rw [if_neg (by omega), if_pos i3, if_pos (by omega), if_neg (fun q => hk1 ⟨by omega, q⟩)]
            exact m_vret F hQ e_X10_token_245 (⟨P1, hP1, (by unfold RA; omega), (by have e8 : (tok t n P.a).2.2.2 = P1.a := (by rw [et]); omega), ⟨1, (nI (nmc t p1 P1.a 6)), by rw [et]; exact Or.inr (Or.inr (Or.inl ⟨rfl, rfl, rfl, nmc_b (fun j hj => by have h2 := isL_b (hll (p1 + j) (by omega) hj); omega) 6⟩)), by rw [et]; exact ⟨(yd11391), (yd11392), (yd11393), (yd11394), (yd11395), (yd11396), (yd11397)⟩⟩, h11389, rfl⟩)
          · have c119 : (P1.a - p1) > 6 := by have hh := mt (nI_leI (a := (P1.a - p1)) (b := 6) (by omega) (by omega)).mpr q119; omega
            refine m_iconst F (v := 5) (by decide) e_X10_token_122 ?_
            refine m_goto F e_X10_token_123 ?_
            refine r_put F (g' := (⟨T, Z, u, h, P1, L⟩ : RG)) e_X10_token_127 fp_X10_110 h11375 (by decide) ⟨_, rfl⟩ (fun _ _ _ _ q => q) (fun _ _ _ q => q) rfl rfl (by decide) (fun σ11398 h11399 g11400 g11401 f11402 => ?_)
            have ga11403 := ga11379.of (g11400 _ (by omega))
            refine m_aload_n F rfl e_X10_token_130 ?_
            refine r_getC F e_X10_token_131 fl_X10_110 h11399 (f11402) ?_
            refine m_iconst F (v := 1) (by decide) e_X10_token_134 ?_
            refine m_icmp_ne F e_X10_token_135 (fun _ => ?_) (fun q => absurd q (by decide))
            have e9 := i1.symm
            have et : tok t n P.a = (p1, 5, 0, P1.a) := by unfold tok; simp only [e9, eL]; rw [if_neg (by omega), if_pos i3, if_neg (by omega)]
            exact m_vret F hQ e_X10_token_245 (⟨P1, hP1, (by unfold RA; omega), (by have e8 : (tok t n P.a).2.2.2 = P1.a := (by rw [et]); omega), ⟨5, (-1), by rw [et]; exact Or.inr (Or.inr (Or.inr (Or.inr (Or.inr ⟨rfl, rfl⟩)))), by rw [et]; exact ⟨((g11401 17 (by decide)).trans ((g11377 17 (by decide)).trans ((fld_eq (h11359.2 c (by rw [show kC c c = 1 from kC_at (k := 0) (by decide)]; decide))).trans ((fld_eq (h11351.2 c (by rw [show kC c c = 1 from kC_at (k := 0) (by decide)]; decide))).trans yd11343)))), ((g11401 18 (by decide)).trans ((g11377 18 (by decide)).trans ((fld_eq (h11359.2 c (by rw [show kC c c = 1 from kC_at (k := 0) (by decide)]; decide))).trans ((fld_eq (h11351.2 c (by rw [show kC c c = 1 from kC_at (k := 0) (by decide)]; decide))).trans yd11344)))), ((g11401 20 (by decide)).trans ((g11377 20 (by decide)).trans ((fld_eq (h11359.2 c (by rw [show kC c c = 1 from kC_at (k := 0) (by decide)]; decide))).trans ((fld_eq (h11351.2 c (by rw [show kC c c = 1 from kC_at (k := 0) (by decide)]; decide))).trans yd11345)))), (f11402), ((g11401 22 (by decide)).trans f11378), ((g11401 23 (by decide)).trans ((g11377 23 (by decide)).trans ((fld_eq (h11359.2 c (by rw [show kC c c = 1 from kC_at (k := 0) (by decide)]; decide))).trans ((fld_eq (h11351.2 c (by rw [show kC c c = 1 from kC_at (k := 0) (by decide)]; decide))).trans yd11348)))), ((g11401 24 (by decide)).trans ((g11377 24 (by decide)).trans ((fld_eq (h11359.2 c (by rw [show kC c c = 1 from kC_at (k := 0) (by decide)]; decide))).trans ((fld_eq (h11351.2 c (by rw [show kC c c = 1 from kC_at (k := 0) (by decide)]; decide))).trans yd11349))))⟩⟩, h11399, rfl⟩)
      · exact absurd g11357 (by decide)
    · refine m_callS F e_X10_token_68 (q_X10_isSmall2 (x_l X) V _ _ (nI (t P1.a))) cb_X10_isSmall ml_X10_113 sm_X10_isSmall rfl (rest := []) rfl (Nat.le_of_ble_eq_true rfl) ⟨Nat.le_of_ble_eq_true rfl, Nat.le_of_ble_eq_true rfl⟩ ⟨Nat.le_of_ble_eq_true rfl, Nat.le_of_ble_eq_true rfl⟩ (k' := 0) (z' := 0) (N' := N) rfl rfl rfl (fun r σ11404 hp => ?_)
      obtain ⟨rfl, hp⟩ := hp
      rcases hp with ⟨g11405, rfl⟩ | ⟨g11405, rfl⟩
      · have kg11405 : isL (t P1.a) = false := isL_f (by omega) g11405
        refine m_if_eq F e_X10_token_71 (fun _ => ?_) (fun q => absurd (by decide) q)
        refine m_aload_n F rfl e_X10_token_87 ?_
        have eL : sc isL t n p1 = P1.a := i6.trans (sc_stop (Or.inr kg11405))
        have hL1 : p1 < P1.a := by have h8 := sc_go (p := isL) (t := t) i2 i3; have h9 := sc_in (p := isL) (t := t) (n := n) (a := p1 + 1) (by omega); omega
        have hll : ∀ i, p1 ≤ i → i < P1.a → isL (t i) = true := fun i a1 a2 => scan_all (n - p1) p1 i a1 (by show i < sc isL t n p1; omega)
        have eL : sc isL t n p1 = P1.a := i6.trans (sc_stop (Or.inr kg11405))
        have hL1 : p1 < P1.a := by have h8 := sc_go (p := isL) (t := t) i2 i3; have h9 := sc_in (p := isL) (t := t) (n := n) (a := p1 + 1) (by omega); omega
        have hll : ∀ i, p1 ≤ i → i < P1.a → isL (t i) = true := fun i a1 a2 => scan_all (n - p1) p1 i a1 (by show i < sc isL t n p1; omega)
        have eL : sc isL t n p1 = P1.a := i6.trans (sc_stop (Or.inr kg11405))
        have hL1 : p1 < P1.a := by have h8 := sc_go (p := isL) (t := t) i2 i3; have h9 := sc_in (p := isL) (t := t) (n := n) (a := p1 + 1) (by omega); omega
        have hll : ∀ i, p1 ≤ i → i < P1.a → isL (t i) = true := fun i a1 a2 => scan_all (n - p1) p1 i a1 (by show i < sc isL t n p1; omega)
        refine m_aload_n F rfl e_X10_token_88 ?_
        refine r_callV F e_X10_token_89 (q_X10_wordHereE (x_l X) V c T Z u h P1 L _ _  n p1 t h11352.1 (hob) hP1  ((fld_eq (h11351.2 c (by rw [show kC c c = 1 from kC_at (k := 0) (by decide)]; decide))).trans yd11345) ga11353 hn7 hL1 (by omega) hll) cb_X10_wordHere ml_X10_117 im_X10_wordHere se_X10_wordHere h11352 rfl rfl (rest := [.ref c]) rfl (Nat.le_of_ble_eq_true rfl) ⟨Nat.le_of_ble_eq_true rfl, Nat.le_of_ble_eq_true rfl⟩ ⟨Nat.le_of_ble_eq_true rfl, Nat.le_of_ble_eq_true rfl⟩ (fun r σ11406 hp => ?_)
        obtain ⟨h11407, hp⟩ := hp
        have h11408 := HS.trans h11352 h11407 (by decide)
        have ga11409 := ga11353.of (h11407.2 (c + 1) (by rw [kC_at (k := 1) (by decide)]; decide))
        rcases hp with ⟨hk1, hk2, rfl⟩ | ⟨hk1, rfl⟩
        · refine r_put F (g' := (⟨T, Z, u, h, P1, L⟩ : RG)) e_X10_token_92 fp_X10_120 h11408 (by decide) ⟨_, rfl⟩ (fun _ _ _ _ q => q) (fun _ _ _ q => q) rfl rfl (by decide) (fun σ11410 h11411 g11412 g11413 f11414 => ?_)
          have ga11415 := ga11409.of (g11412 _ (by omega))
          refine m_aload_n F rfl e_X10_token_95 ?_
          refine m_aload_n F rfl e_X10_token_96 ?_
          refine r_getC F e_X10_token_97 fl_X10_120 h11411 (f11414) ?_
          refine m_iconst F (v := (-1)) (by decide) e_X10_token_100 ?_
          refine m_icmp_eq F e_X10_token_101 (fun q101 => ?_) (fun q101 => ?_)
          · exact absurd q101 (nI_nm1 (by omega))
          · refine m_iconst F (v := 0) (by decide) e_X10_token_104 ?_
            refine m_goto F e_X10_token_105 ?_
            refine r_put F (g' := (⟨T, Z, u, h, P1, L⟩ : RG)) e_X10_token_127 fp_X10_110 h11411 (by decide) ⟨_, rfl⟩ (fun _ _ _ _ q => q) (fun _ _ _ q => q) rfl rfl (by decide) (fun σ11416 h11417 g11418 g11419 f11420 => ?_)
            have ga11421 := ga11415.of (g11418 _ (by omega))
            refine m_aload_n F rfl e_X10_token_130 ?_
            refine r_getC F e_X10_token_131 fl_X10_110 h11417 (f11420) ?_
            refine m_iconst F (v := 1) (by decide) e_X10_token_134 ?_
            refine m_icmp_ne F e_X10_token_135 (fun _ => ?_) (fun q => absurd q (by decide))
            have e9 := i1.symm
            have et : tok t n P.a = (p1, 1, kix (nmc t p1 P1.a 6), P1.a) := by unfold tok; simp only [e9, eL]; rw [if_neg (by omega), if_pos i3, if_pos hk1, if_pos hk2]
            exact m_vret F hQ e_X10_token_245 (⟨P1, hP1, (by unfold RA; omega), (by have e8 : (tok t n P.a).2.2.2 = P1.a := (by rw [et]); omega), ⟨0, (nI (kix (nmc t p1 P1.a 6))), by rw [et]; exact Or.inr (Or.inl ⟨rfl, rfl, rfl, hk2⟩), by rw [et]; exact ⟨((g11419 17 (by decide)).trans ((g11413 17 (by decide)).trans ((fld_eq (h11407.2 c (by rw [show kC c c = 1 from kC_at (k := 0) (by decide)]; decide))).trans ((fld_eq (h11351.2 c (by rw [show kC c c = 1 from kC_at (k := 0) (by decide)]; decide))).trans yd11343)))), ((g11419 18 (by decide)).trans ((g11413 18 (by decide)).trans ((fld_eq (h11407.2 c (by rw [show kC c c = 1 from kC_at (k := 0) (by decide)]; decide))).trans ((fld_eq (h11351.2 c (by rw [show kC c c = 1 from kC_at (k := 0) (by decide)]; decide))).trans yd11344)))), ((g11419 20 (by decide)).trans ((g11413 20 (by decide)).trans ((fld_eq (h11407.2 c (by rw [show kC c c = 1 from kC_at (k := 0) (by decide)]; decide))).trans ((fld_eq (h11351.2 c (by rw [show kC c c = 1 from kC_at (k := 0) (by decide)]; decide))).trans yd11345)))), (f11420), ((g11419 22 (by decide)).trans f11414), ((g11419 23 (by decide)).trans ((g11413 23 (by decide)).trans ((fld_eq (h11407.2 c (by rw [show kC c c = 1 from kC_at (k := 0) (by decide)]; decide))).trans ((fld_eq (h11351.2 c (by rw [show kC c c = 1 from kC_at (k := 0) (by decide)]; decide))).trans yd11348)))), ((g11419 24 (by decide)).trans ((g11413 24 (by decide)).trans ((fld_eq (h11407.2 c (by rw [show kC c c = 1 from kC_at (k := 0) (by decide)]; decide))).trans ((fld_eq (h11351.2 c (by rw [show kC c c = 1 from kC_at (k := 0) (by decide)]; decide))).trans yd11349))))⟩⟩, h11417, rfl⟩)
        · refine r_put F (g' := (⟨T, Z, u, h, P1, L⟩ : RG)) e_X10_token_92 fp_X10_120 h11408 (by decide) ⟨_, rfl⟩ (fun _ _ _ _ q => q) (fun _ _ _ q => q) rfl rfl (by decide) (fun σ11422 h11423 g11424 g11425 f11426 => ?_)
          have ga11427 := ga11409.of (g11424 _ (by omega))
          refine m_aload_n F rfl e_X10_token_95 ?_
          refine m_aload_n F rfl e_X10_token_96 ?_
          refine r_getC F e_X10_token_97 fl_X10_120 h11423 (f11426) ?_
          refine m_iconst F (v := (-1)) (by decide) e_X10_token_100 ?_
          refine m_icmp_eq F e_X10_token_101 (fun _ => ?_) (fun q => absurd (by decide) q)
          refine m_aload_n F rfl e_X10_token_108 ?_
          refine r_get F e_X10_token_109 fl_X10_97 h11423 rfl (fun v hv f11428 => ?_)
          obtain rfl : v = .int (nI (P1.a)) := hv
          refine m_aload_n F rfl e_X10_token_112 ?_
          refine r_getC F e_X10_token_113 fl_X10_107 h11423 ((g11425 20 (by decide)).trans ((fld_eq (h11407.2 c (by rw [show kC c c = 1 from kC_at (k := 0) (by decide)]; decide))).trans ((fld_eq (h11351.2 c (by rw [show kC c c = 1 from kC_at (k := 0) (by decide)]; decide))).trans yd11345))) ?_
          refine m_isub F e_X10_token_116 ?_
          refine Wm.topE (w := nI (P1.a - p1)) (pk_sub (a := P1.a) (b := p1) (by omega)) ?_
          refine m_bipush F (v := 6) (by decide) e_X10_token_117 ?_
          refine m_icmp_le F e_X10_token_119 (fun q119 => ?_) (fun q119 => ?_)
          · have c119 : (P1.a - p1) ≤ 6 := (nI_leI (a := (P1.a - p1)) (b := 6) (by omega) (by omega)).mp q119
            refine m_iconst F (v := 1) (by decide) e_X10_token_126 ?_
            refine r_put F (g' := (⟨T, Z, u, h, P1, L⟩ : RG)) e_X10_token_127 fp_X10_110 h11423 (by decide) ⟨_, rfl⟩ (fun _ _ _ _ q => q) (fun _ _ _ q => q) rfl rfl (by decide) (fun σ11429 h11430 g11431 g11432 f11433 => ?_)
            have ga11434 := ga11427.of (g11431 _ (by omega))
            refine m_aload_n F rfl e_X10_token_130 ?_
            refine r_getC F e_X10_token_131 fl_X10_110 h11430 (f11433) ?_
            refine m_iconst F (v := 1) (by decide) e_X10_token_134 ?_
            refine m_icmp_ne F e_X10_token_135 (fun q => absurd (by decide) q) (fun _ => ?_)
            refine m_aload_n F rfl e_X10_token_138 ?_
            refine r_callV F e_X10_token_139 (q_X10_nameHereE (x_l X) V c T Z u h P1 L _ _  n p1 1 (-1) ln ft fp t h11430.1 (hob) hP1  ⟨((g11432 17 (by decide)).trans ((g11425 17 (by decide)).trans ((fld_eq (h11407.2 c (by rw [show kC c c = 1 from kC_at (k := 0) (by decide)]; decide))).trans ((fld_eq (h11351.2 c (by rw [show kC c c = 1 from kC_at (k := 0) (by decide)]; decide))).trans yd11343)))), ((g11432 18 (by decide)).trans ((g11425 18 (by decide)).trans ((fld_eq (h11407.2 c (by rw [show kC c c = 1 from kC_at (k := 0) (by decide)]; decide))).trans ((fld_eq (h11351.2 c (by rw [show kC c c = 1 from kC_at (k := 0) (by decide)]; decide))).trans yd11344)))), ((g11432 20 (by decide)).trans ((g11425 20 (by decide)).trans ((fld_eq (h11407.2 c (by rw [show kC c c = 1 from kC_at (k := 0) (by decide)]; decide))).trans ((fld_eq (h11351.2 c (by rw [show kC c c = 1 from kC_at (k := 0) (by decide)]; decide))).trans yd11345)))), (f11433), ((g11432 22 (by decide)).trans f11426), ((g11432 23 (by decide)).trans ((g11425 23 (by decide)).trans ((fld_eq (h11407.2 c (by rw [show kC c c = 1 from kC_at (k := 0) (by decide)]; decide))).trans ((fld_eq (h11351.2 c (by rw [show kC c c = 1 from kC_at (k := 0) (by decide)]; decide))).trans yd11348)))), ((g11432 24 (by decide)).trans ((g11425 24 (by decide)).trans ((fld_eq (h11407.2 c (by rw [show kC c c = 1 from kC_at (k := 0) (by decide)]; decide))).trans ((fld_eq (h11351.2 c (by rw [show kC c c = 1 from kC_at (k := 0) (by decide)]; decide))).trans yd11349))))⟩ ga11434 hn7 (by omega) (by omega) (by omega) hll) cb_X10_nameHere ml_X10_123 im_X10_nameHere se_X10_nameHere h11430 rfl rfl (rest := []) rfl (Nat.le_of_ble_eq_true rfl) ⟨Nat.le_of_ble_eq_true rfl, Nat.le_of_ble_eq_true rfl⟩ ⟨Nat.le_of_ble_eq_true rfl, Nat.le_of_ble_eq_true rfl⟩ (fun r σ11435 hp => ?_)
            obtain ⟨h11436, hp⟩ := hp
            have h11437 := HS.trans h11430 h11436 (by decide)
            have ga11438 := ga11434.of (h11436.2 (c + 1) (by rw [kC_at (k := 1) (by decide)]; decide))
            obtain ⟨hp, rfl⟩ := hp
            have hyd11439 := hp
            obtain ⟨yd11439, yd11440, yd11441, yd11442, yd11443, yd11444, yd11445⟩ := hyd11439
            refine m_goto F e_X10_token_142 ?_
            have e9 := i1.symm
            have et : tok t n P.a = (p1, 2, nmc t p1 P1.a 6, P1.a) := by unfold tok; simp only [e9, eL]; rw [if_neg (by omega), if_pos i3, if_pos (by omega), if_neg (fun q => hk1 ⟨by omega, q⟩)]
            exact m_vret F hQ e_X10_token_245 (⟨P1, hP1, (by unfold RA; omega), (by have e8 : (tok t n P.a).2.2.2 = P1.a := (by rw [et]); omega), ⟨1, (nI (nmc t p1 P1.a 6)), by rw [et]; exact Or.inr (Or.inr (Or.inl ⟨rfl, rfl, rfl, nmc_b (fun j hj => by have h2 := isL_b (hll (p1 + j) (by omega) hj); omega) 6⟩)), by rw [et]; exact ⟨(yd11439), (yd11440), (yd11441), (yd11442), (yd11443), (yd11444), (yd11445)⟩⟩, h11437, rfl⟩)
          · have c119 : (P1.a - p1) > 6 := by have hh := mt (nI_leI (a := (P1.a - p1)) (b := 6) (by omega) (by omega)).mpr q119; omega
            refine m_iconst F (v := 5) (by decide) e_X10_token_122 ?_
            refine m_goto F e_X10_token_123 ?_
            refine r_put F (g' := (⟨T, Z, u, h, P1, L⟩ : RG)) e_X10_token_127 fp_X10_110 h11423 (by decide) ⟨_, rfl⟩ (fun _ _ _ _ q => q) (fun _ _ _ q => q) rfl rfl (by decide) (fun σ11446 h11447 g11448 g11449 f11450 => ?_)
            have ga11451 := ga11427.of (g11448 _ (by omega))
            refine m_aload_n F rfl e_X10_token_130 ?_
            refine r_getC F e_X10_token_131 fl_X10_110 h11447 (f11450) ?_
            refine m_iconst F (v := 1) (by decide) e_X10_token_134 ?_
            refine m_icmp_ne F e_X10_token_135 (fun _ => ?_) (fun q => absurd q (by decide))
            have e9 := i1.symm
            have et : tok t n P.a = (p1, 5, 0, P1.a) := by unfold tok; simp only [e9, eL]; rw [if_neg (by omega), if_pos i3, if_neg (by omega)]
            exact m_vret F hQ e_X10_token_245 (⟨P1, hP1, (by unfold RA; omega), (by have e8 : (tok t n P.a).2.2.2 = P1.a := (by rw [et]); omega), ⟨5, (-1), by rw [et]; exact Or.inr (Or.inr (Or.inr (Or.inr (Or.inr ⟨rfl, rfl⟩)))), by rw [et]; exact ⟨((g11449 17 (by decide)).trans ((g11425 17 (by decide)).trans ((fld_eq (h11407.2 c (by rw [show kC c c = 1 from kC_at (k := 0) (by decide)]; decide))).trans ((fld_eq (h11351.2 c (by rw [show kC c c = 1 from kC_at (k := 0) (by decide)]; decide))).trans yd11343)))), ((g11449 18 (by decide)).trans ((g11425 18 (by decide)).trans ((fld_eq (h11407.2 c (by rw [show kC c c = 1 from kC_at (k := 0) (by decide)]; decide))).trans ((fld_eq (h11351.2 c (by rw [show kC c c = 1 from kC_at (k := 0) (by decide)]; decide))).trans yd11344)))), ((g11449 20 (by decide)).trans ((g11425 20 (by decide)).trans ((fld_eq (h11407.2 c (by rw [show kC c c = 1 from kC_at (k := 0) (by decide)]; decide))).trans ((fld_eq (h11351.2 c (by rw [show kC c c = 1 from kC_at (k := 0) (by decide)]; decide))).trans yd11345)))), (f11450), ((g11449 22 (by decide)).trans f11426), ((g11449 23 (by decide)).trans ((g11425 23 (by decide)).trans ((fld_eq (h11407.2 c (by rw [show kC c c = 1 from kC_at (k := 0) (by decide)]; decide))).trans ((fld_eq (h11351.2 c (by rw [show kC c c = 1 from kC_at (k := 0) (by decide)]; decide))).trans yd11348)))), ((g11449 24 (by decide)).trans ((g11425 24 (by decide)).trans ((fld_eq (h11407.2 c (by rw [show kC c c = 1 from kC_at (k := 0) (by decide)]; decide))).trans ((fld_eq (h11351.2 c (by rw [show kC c c = 1 from kC_at (k := 0) (by decide)]; decide))).trans yd11349))))⟩⟩, h11447, rfl⟩)
      · have kg11405 : isL (t P1.a) = true := isL_t (by omega) g11405
        refine m_if_eq F e_X10_token_71 (fun q => absurd q (by decide)) (fun _ => ?_)
        refine m_aload_n F rfl e_X10_token_74 ?_
        refine m_dup F rfl e_X10_token_75 ?_
        refine r_get F e_X10_token_76 fl_X10_97 h11352 rfl (fun v hv f11452 => ?_)
        obtain rfl : v = .int (nI (P1.a)) := hv
        refine m_iconst F (v := 1) (by decide) e_X10_token_79 ?_
        refine m_iadd F e_X10_token_80 ?_
        refine Wm.topE (w := nI (P1.a + 1)) (nI_add P1.a 1) ?_
        refine r_put F (g' := (⟨T, Z, u, h, (mkP P1.n0 P1.n2 P1.n5 P1.n7 P1.m0 P1.m5 P1.w2 P1.w7 P1.kk (P1.a + 1)), L⟩ : RG)) e_X10_token_81 fp_X10_97 h11352 (by decide) rfl ctl_a CR.setA rfl rfl (by decide) (fun σ11453 h11454 g11455 g11456 f11457 => ?_)
        have ga11458 := ga11353.of (g11455 _ (by omega))
        obtain ⟨P11459, eP11459⟩ : ∃ P9, P9 = (mkP P1.n0 P1.n2 P1.n5 P1.n7 P1.m0 P1.m5 P1.w2 P1.w7 P1.kk (P1.a + 1)) := ⟨_, rfl⟩
        rw [← eP11459] at h11454
        have fP11459 : P11459.n0 = P1.n0 ∧ P11459.n2 = P1.n2 ∧ P11459.n5 = P1.n5 ∧ P11459.n7 = P1.n7 ∧ P11459.m0 = P1.m0 ∧ P11459.m5 = P1.m5 ∧ P11459.w2 = P1.w2 ∧ P11459.w7 = P1.w7 ∧ P11459.kk = P1.kk ∧ P11459.a = P1.a + 1 := by rw [eP11459]; exact ⟨rfl, rfl, rfl, rfl, rfl, rfl, rfl, rfl, rfl, rfl⟩
        refine m_goto F e_X10_token_84 ?_
        have oP11460 : OKP P11459 := by unfold OKP; omega
        exact ih p1 P11459 _ h11454 oP11460 (by unfold RA; omega) ⟨⟨((g11456 17 (by decide)).trans ((fld_eq (h11351.2 c (by rw [show kC c c = 1 from kC_at (k := 0) (by decide)]; decide))).trans yd11343)), ((g11456 18 (by decide)).trans ((fld_eq (h11351.2 c (by rw [show kC c c = 1 from kC_at (k := 0) (by decide)]; decide))).trans yd11344)), ((g11456 20 (by decide)).trans ((fld_eq (h11351.2 c (by rw [show kC c c = 1 from kC_at (k := 0) (by decide)]; decide))).trans yd11345)), ((g11456 21 (by decide)).trans ((fld_eq (h11351.2 c (by rw [show kC c c = 1 from kC_at (k := 0) (by decide)]; decide))).trans yd11346)), ((g11456 22 (by decide)).trans ((fld_eq (h11351.2 c (by rw [show kC c c = 1 from kC_at (k := 0) (by decide)]; decide))).trans yd11347)), ((g11456 23 (by decide)).trans ((fld_eq (h11351.2 c (by rw [show kC c c = 1 from kC_at (k := 0) (by decide)]; decide))).trans yd11348)), ((g11456 24 (by decide)).trans ((fld_eq (h11351.2 c (by rw [show kC c c = 1 from kC_at (k := 0) (by decide)]; decide))).trans yd11349))⟩, i1, i2, i3, by omega, by omega, by rw [i6, show P11459.a = P1.a + 1 by omega]; exact sc_go (by omega) kg11405⟩ (by omega)
set_option maxRecDepth 20000 in
theorem lq_X10_tokenE_0 {V : VX} {X : MX} {N : Nat} {σ : Mem} {c T Z u h : Nat} {P : NP} {L : Nat → LQ}  {n st : Nat} {so va : Int32} {ln : Nat} {ft fp : Int32} {t : Nat → Nat} (F : Fx V X yX10_token cX10_token 2 none (rmd 5 0 0)) (hQ : Rt V X 0 0 N (fun r τ => ∃ P9 : NP, OKP P9 ∧ RA P P9 ∧ P9.a = (tok t n P.a).2.2.2 ∧ (∃ so2 va2, MT so2 va2 (tok t n P.a).2.1 (tok t n P.a).2.2.1 ∧ YD τ c n (tok t n P.a).1 so2 va2 ln ft fp) ∧ HS V c (⟨T, Z, u, h, P9, L⟩ : RG) [0, 2, 3, 4, 5, 6, 7, 8, 9, 10, 11, 12, 13, 14, 15, 16, 17, 18, 19, 20, 21, 22, 23] σ τ ∧ r = none)) (hob : OKB L) (hP : OKP P) (hp0 : YD σ c n st so va ln ft fp) (hp1 : BR σ c n t) (hp2 : n ≤ 700) (hp3 : P.a ≤ n)  : ∀ (fuel : Nat)  (P1 : NP) (τ : Mem), HS V c (⟨T, Z, u, h, P1, L⟩ : RG) [0, 2, 3, 4, 5, 6, 7, 8, 9, 10, 11, 12, 13, 14, 15, 16, 17, 18, 19, 20, 21, 22, 23] σ τ → OKP P1 → RA P P1 → YD τ c n st so va ln ft fp ∧ sc isB t n P.a = sc isB t n P1.a ∧ P1.a ≤ n → 700 - P1.a < fuel → Wm V X 2 N τ 0 0 0 [(0, .ref c)] [] := by
  intro fuel
  induction fuel with
  | zero => intros; rename_i hm; exact absurd hm (Nat.not_lt_zero _)
  | succ fuel ih =>
    intro  P1 τ h1 hP1 hR1 hi hm
    have hPP := hP
    unfold OKP at hPP
    have hPP1 := hP1
    unfold OKP at hPP1
    unfold RA at hR1
    have hB1 := hp1.of (h1.2 (c + 1) (by rw [kC_at (k := 1) (by decide)]; decide))
    have hn7 := hp2
    obtain ⟨hY1, i1, i2⟩ := hi
    have hyd11461 := hY1
    obtain ⟨yd11461, yd11462, yd11463, yd11464, yd11465, yd11466, yd11467⟩ := hyd11461
    refine m_aload_n F rfl e_X10_token_0 ?_
    refine r_callV F e_X10_token_1 (q_X10_hereE (x_l X) V c T Z u h P1 L _ _  n t h1.1 (hob) hP1  (yd11462) hB1 hn7) cb_X10_here ml_X10_103 im_X10_here se_X10_here h1 rfl rfl (rest := []) rfl (Nat.le_of_ble_eq_true rfl) ⟨Nat.le_of_ble_eq_true rfl, Nat.le_of_ble_eq_true rfl⟩ ⟨Nat.le_of_ble_eq_true rfl, Nat.le_of_ble_eq_true rfl⟩ (fun r σ11468 hp => ?_)
    obtain ⟨h11469, hp⟩ := hp
    have h11470 := HS.trans h1 h11469 (by decide)
    have ga11471 := hB1.of (h11469.2 (c + 1) (by rw [kC_at (k := 1) (by decide)]; decide))
    rcases hp with ⟨he11472, rfl⟩ | ⟨he11472, hb11473, rfl⟩
    · refine m_bipush F (v := 10) (by decide) e_X10_token_4 ?_
      refine m_icmp_eq F e_X10_token_6 (fun q => absurd q (by decide)) (fun _ => ?_)
      refine m_aload_n F rfl e_X10_token_9 ?_
      refine r_callV F e_X10_token_10 (q_X10_hereE (x_l X) V c T Z u h P1 L _ _  n t h11470.1 (hob) hP1  ((fld_eq (h11469.2 c (by rw [show kC c c = 1 from kC_at (k := 0) (by decide)]; decide))).trans yd11462) ga11471 hn7) cb_X10_here ml_X10_103 im_X10_here se_X10_here h11470 rfl rfl (rest := []) rfl (Nat.le_of_ble_eq_true rfl) ⟨Nat.le_of_ble_eq_true rfl, Nat.le_of_ble_eq_true rfl⟩ ⟨Nat.le_of_ble_eq_true rfl, Nat.le_of_ble_eq_true rfl⟩ (fun r σ11474 hp => ?_)
      obtain ⟨h11475, hp⟩ := hp
      have h11476 := HS.trans h11470 h11475 (by decide)
      have ga11477 := ga11471.of (h11475.2 (c + 1) (by rw [kC_at (k := 1) (by decide)]; decide))
      rcases hp with ⟨he11478, rfl⟩ | ⟨he11478, hb11479, rfl⟩
      · refine m_bipush F (v := 32) (by decide) e_X10_token_13 ?_
        refine m_icmp_ne F e_X10_token_15 (fun _ => ?_) (fun q => absurd q (by decide))
        refine m_aload_n F rfl e_X10_token_31 ?_
        refine m_aload_n F rfl e_X10_token_32 ?_
        refine r_get F e_X10_token_33 fl_X10_97 h11476 rfl (fun v hv f11480 => ?_)
        obtain rfl : v = .int (nI (P1.a)) := hv
        have e9 : sc isB t n P.a = P1.a := i1.trans (sc_stop (Or.inl (by omega)))
        refine r_put F (g' := (⟨T, Z, u, h, P1, L⟩ : RG)) e_X10_token_36 fp_X10_107 h11476 (by decide) ⟨P1.a, (show P1.a ≤ 700 by omega), rfl⟩ (fun _ _ _ _ q => q) (fun _ _ _ q => q) rfl rfl (by decide) (fun σ11481 h11482 g11483 g11484 f11485 => ?_)
        have ga11486 := ga11477.of (g11483 _ (by omega))
        refine m_aload_n F rfl e_X10_token_39 ?_
        refine r_callV F e_X10_token_40 (q_X10_hereE (x_l X) V c T Z u h P1 L _ _  n t h11482.1 (hob) hP1  ((g11484 18 (by decide)).trans ((fld_eq (h11475.2 c (by rw [show kC c c = 1 from kC_at (k := 0) (by decide)]; decide))).trans ((fld_eq (h11469.2 c (by rw [show kC c c = 1 from kC_at (k := 0) (by decide)]; decide))).trans yd11462))) ga11486 hn7) cb_X10_here ml_X10_103 im_X10_here se_X10_here h11482 rfl rfl (rest := []) rfl (Nat.le_of_ble_eq_true rfl) ⟨Nat.le_of_ble_eq_true rfl, Nat.le_of_ble_eq_true rfl⟩ ⟨Nat.le_of_ble_eq_true rfl, Nat.le_of_ble_eq_true rfl⟩ (fun r σ11487 hp => ?_)
        obtain ⟨h11488, hp⟩ := hp
        have h11489 := HS.trans h11482 h11488 (by decide)
        have ga11490 := ga11486.of (h11488.2 (c + 1) (by rw [kC_at (k := 1) (by decide)]; decide))
        rcases hp with ⟨he11491, rfl⟩ | ⟨he11491, hb11492, rfl⟩
        · refine m_istore_n F (lv' := [(1, .int (-1)), (0, .ref c)]) e_X10_token_43 (by decide) rfl ?_
          refine m_iload_n F rfl e_X10_token_44 ?_
          refine m_iconst F (v := (-1)) (by decide) e_X10_token_45 ?_
          refine m_icmp_ne F e_X10_token_46 (fun q => absurd (by decide) q) (fun _ => ?_)
          refine m_aload_n F rfl e_X10_token_49 ?_
          refine m_iconst F (v := 4) (by decide) e_X10_token_50 ?_
          refine r_put F (g' := (⟨T, Z, u, h, P1, L⟩ : RG)) e_X10_token_51 fp_X10_110 h11489 (by decide) ⟨_, rfl⟩ (fun _ _ _ _ q => q) (fun _ _ _ q => q) rfl rfl (by decide) (fun σ11493 h11494 g11495 g11496 f11497 => ?_)
          have ga11498 := ga11490.of (g11495 _ (by omega))
          refine m_goto F e_X10_token_54 ?_
          have et : tok t n P.a = (P1.a, 0, 0, P1.a) := by unfold tok; simp only [e9]; rw [if_pos (by omega)]
          exact m_vret F hQ e_X10_token_245 (⟨P1, hP1, (by unfold RA; omega), (by have e8 : (tok t n P.a).2.2.2 = P1.a := (by rw [et]); omega), ⟨4, va, by rw [et]; exact Or.inl ⟨rfl, rfl⟩, by rw [et]; exact ⟨((g11496 17 (by decide)).trans ((fld_eq (h11488.2 c (by rw [show kC c c = 1 from kC_at (k := 0) (by decide)]; decide))).trans ((g11484 17 (by decide)).trans ((fld_eq (h11475.2 c (by rw [show kC c c = 1 from kC_at (k := 0) (by decide)]; decide))).trans ((fld_eq (h11469.2 c (by rw [show kC c c = 1 from kC_at (k := 0) (by decide)]; decide))).trans yd11461))))), ((g11496 18 (by decide)).trans ((fld_eq (h11488.2 c (by rw [show kC c c = 1 from kC_at (k := 0) (by decide)]; decide))).trans ((g11484 18 (by decide)).trans ((fld_eq (h11475.2 c (by rw [show kC c c = 1 from kC_at (k := 0) (by decide)]; decide))).trans ((fld_eq (h11469.2 c (by rw [show kC c c = 1 from kC_at (k := 0) (by decide)]; decide))).trans yd11462))))), ((g11496 20 (by decide)).trans ((fld_eq (h11488.2 c (by rw [show kC c c = 1 from kC_at (k := 0) (by decide)]; decide))).trans f11485)), (f11497), ((g11496 22 (by decide)).trans ((fld_eq (h11488.2 c (by rw [show kC c c = 1 from kC_at (k := 0) (by decide)]; decide))).trans ((g11484 22 (by decide)).trans ((fld_eq (h11475.2 c (by rw [show kC c c = 1 from kC_at (k := 0) (by decide)]; decide))).trans ((fld_eq (h11469.2 c (by rw [show kC c c = 1 from kC_at (k := 0) (by decide)]; decide))).trans yd11465))))), ((g11496 23 (by decide)).trans ((fld_eq (h11488.2 c (by rw [show kC c c = 1 from kC_at (k := 0) (by decide)]; decide))).trans ((g11484 23 (by decide)).trans ((fld_eq (h11475.2 c (by rw [show kC c c = 1 from kC_at (k := 0) (by decide)]; decide))).trans ((fld_eq (h11469.2 c (by rw [show kC c c = 1 from kC_at (k := 0) (by decide)]; decide))).trans yd11466))))), ((g11496 24 (by decide)).trans ((fld_eq (h11488.2 c (by rw [show kC c c = 1 from kC_at (k := 0) (by decide)]; decide))).trans ((g11484 24 (by decide)).trans ((fld_eq (h11475.2 c (by rw [show kC c c = 1 from kC_at (k := 0) (by decide)]; decide))).trans ((fld_eq (h11469.2 c (by rw [show kC c c = 1 from kC_at (k := 0) (by decide)]; decide))).trans yd11467)))))⟩⟩, h11494, rfl⟩)
        · exfalso; omega
      · exfalso; omega
    · refine m_bipush F (v := 10) (by decide) e_X10_token_4 ?_
      refine m_icmp_eq F e_X10_token_6 (fun q6 => ?_) (fun q6 => ?_)
      · have c6 : (t P1.a) = 10 := (nI_eq (a := (t P1.a)) (b := 10) (by omega) (by omega)).mp q6
        refine m_aload_n F rfl e_X10_token_18 ?_
        refine m_dup F rfl e_X10_token_19 ?_
        refine r_get F e_X10_token_20 fl_X10_97 h11470 rfl (fun v hv f11499 => ?_)
        obtain rfl : v = .int (nI (P1.a)) := hv
        refine m_iconst F (v := 1) (by decide) e_X10_token_23 ?_
        refine m_iadd F e_X10_token_24 ?_
        refine Wm.topE (w := nI (P1.a + 1)) (nI_add P1.a 1) ?_
        refine r_put F (g' := (⟨T, Z, u, h, (mkP P1.n0 P1.n2 P1.n5 P1.n7 P1.m0 P1.m5 P1.w2 P1.w7 P1.kk (P1.a + 1)), L⟩ : RG)) e_X10_token_25 fp_X10_97 h11470 (by decide) rfl ctl_a CR.setA rfl rfl (by decide) (fun σ11500 h11501 g11502 g11503 f11504 => ?_)
        have ga11505 := ga11471.of (g11502 _ (by omega))
        obtain ⟨P11506, eP11506⟩ : ∃ P9, P9 = (mkP P1.n0 P1.n2 P1.n5 P1.n7 P1.m0 P1.m5 P1.w2 P1.w7 P1.kk (P1.a + 1)) := ⟨_, rfl⟩
        rw [← eP11506] at h11501
        have fP11506 : P11506.n0 = P1.n0 ∧ P11506.n2 = P1.n2 ∧ P11506.n5 = P1.n5 ∧ P11506.n7 = P1.n7 ∧ P11506.m0 = P1.m0 ∧ P11506.m5 = P1.m5 ∧ P11506.w2 = P1.w2 ∧ P11506.w7 = P1.w7 ∧ P11506.kk = P1.kk ∧ P11506.a = P1.a + 1 := by rw [eP11506]; exact ⟨rfl, rfl, rfl, rfl, rfl, rfl, rfl, rfl, rfl, rfl⟩
        refine m_goto F e_X10_token_28 ?_
        have oP11507 : OKP P11506 := by unfold OKP; omega
        exact ih  P11506 _ h11501 oP11507 (by unfold RA; omega) ⟨⟨((g11503 17 (by decide)).trans ((fld_eq (h11469.2 c (by rw [show kC c c = 1 from kC_at (k := 0) (by decide)]; decide))).trans yd11461)), ((g11503 18 (by decide)).trans ((fld_eq (h11469.2 c (by rw [show kC c c = 1 from kC_at (k := 0) (by decide)]; decide))).trans yd11462)), ((g11503 20 (by decide)).trans ((fld_eq (h11469.2 c (by rw [show kC c c = 1 from kC_at (k := 0) (by decide)]; decide))).trans yd11463)), ((g11503 21 (by decide)).trans ((fld_eq (h11469.2 c (by rw [show kC c c = 1 from kC_at (k := 0) (by decide)]; decide))).trans yd11464)), ((g11503 22 (by decide)).trans ((fld_eq (h11469.2 c (by rw [show kC c c = 1 from kC_at (k := 0) (by decide)]; decide))).trans yd11465)), ((g11503 23 (by decide)).trans ((fld_eq (h11469.2 c (by rw [show kC c c = 1 from kC_at (k := 0) (by decide)]; decide))).trans yd11466)), ((g11503 24 (by decide)).trans ((fld_eq (h11469.2 c (by rw [show kC c c = 1 from kC_at (k := 0) (by decide)]; decide))).trans yd11467))⟩, by rw [i1, show P11506.a = P1.a + 1 by omega]; exact sc_go (by omega) (isB_y (by omega)), by omega⟩ (by omega)
      · have c6 : (t P1.a) ≠ 10 := by have hh := mt (nI_eq (a := (t P1.a)) (b := 10) (by omega) (by omega)).mpr q6; omega
        refine m_aload_n F rfl e_X10_token_9 ?_
        refine r_callV F e_X10_token_10 (q_X10_hereE (x_l X) V c T Z u h P1 L _ _  n t h11470.1 (hob) hP1  ((fld_eq (h11469.2 c (by rw [show kC c c = 1 from kC_at (k := 0) (by decide)]; decide))).trans yd11462) ga11471 hn7) cb_X10_here ml_X10_103 im_X10_here se_X10_here h11470 rfl rfl (rest := []) rfl (Nat.le_of_ble_eq_true rfl) ⟨Nat.le_of_ble_eq_true rfl, Nat.le_of_ble_eq_true rfl⟩ ⟨Nat.le_of_ble_eq_true rfl, Nat.le_of_ble_eq_true rfl⟩ (fun r σ11508 hp => ?_)
        obtain ⟨h11509, hp⟩ := hp
        have h11510 := HS.trans h11470 h11509 (by decide)
        have ga11511 := ga11471.of (h11509.2 (c + 1) (by rw [kC_at (k := 1) (by decide)]; decide))
        rcases hp with ⟨he11512, rfl⟩ | ⟨he11512, hb11513, rfl⟩
        · exfalso; omega
        · refine m_bipush F (v := 32) (by decide) e_X10_token_13 ?_
          refine m_icmp_ne F e_X10_token_15 (fun q15 => ?_) (fun q15 => ?_)
          · have c15 : (t P1.a) ≠ 32 := by have hh := mt (nI_eq (a := (t P1.a)) (b := 32) (by omega) (by omega)).mpr q15; omega
            refine m_aload_n F rfl e_X10_token_31 ?_
            refine m_aload_n F rfl e_X10_token_32 ?_
            refine r_get F e_X10_token_33 fl_X10_97 h11510 rfl (fun v hv f11514 => ?_)
            obtain rfl : v = .int (nI (P1.a)) := hv
            have e9 : sc isB t n P.a = P1.a := i1.trans (sc_stop (Or.inr (isB_n (by omega) (by omega))))
            refine r_put F (g' := (⟨T, Z, u, h, P1, L⟩ : RG)) e_X10_token_36 fp_X10_107 h11510 (by decide) ⟨P1.a, (show P1.a ≤ 700 by omega), rfl⟩ (fun _ _ _ _ q => q) (fun _ _ _ q => q) rfl rfl (by decide) (fun σ11515 h11516 g11517 g11518 f11519 => ?_)
            have ga11520 := ga11511.of (g11517 _ (by omega))
            refine m_aload_n F rfl e_X10_token_39 ?_
            refine r_callV F e_X10_token_40 (q_X10_hereE (x_l X) V c T Z u h P1 L _ _  n t h11516.1 (hob) hP1  ((g11518 18 (by decide)).trans ((fld_eq (h11509.2 c (by rw [show kC c c = 1 from kC_at (k := 0) (by decide)]; decide))).trans ((fld_eq (h11469.2 c (by rw [show kC c c = 1 from kC_at (k := 0) (by decide)]; decide))).trans yd11462))) ga11520 hn7) cb_X10_here ml_X10_103 im_X10_here se_X10_here h11516 rfl rfl (rest := []) rfl (Nat.le_of_ble_eq_true rfl) ⟨Nat.le_of_ble_eq_true rfl, Nat.le_of_ble_eq_true rfl⟩ ⟨Nat.le_of_ble_eq_true rfl, Nat.le_of_ble_eq_true rfl⟩ (fun r σ11521 hp => ?_)
            obtain ⟨h11522, hp⟩ := hp
            have h11523 := HS.trans h11516 h11522 (by decide)
            have ga11524 := ga11520.of (h11522.2 (c + 1) (by rw [kC_at (k := 1) (by decide)]; decide))
            rcases hp with ⟨he11525, rfl⟩ | ⟨he11525, hb11526, rfl⟩
            · exfalso; omega
            · refine m_istore_n F (lv' := [(1, .int (nI (t P1.a))), (0, .ref c)]) e_X10_token_43 (by decide) rfl ?_
              refine m_iload_n F rfl e_X10_token_44 ?_
              refine m_iconst F (v := (-1)) (by decide) e_X10_token_45 ?_
              refine m_icmp_ne F e_X10_token_46 (fun q46 => ?_) (fun q46 => ?_)
              · refine m_iload_n F rfl e_X10_token_57 ?_
                refine m_callS F e_X10_token_58 (q_X10_isSmall2 (x_l X) V _ _ (nI (t P1.a))) cb_X10_isSmall ml_X10_113 sm_X10_isSmall rfl (rest := []) rfl (Nat.le_of_ble_eq_true rfl) ⟨Nat.le_of_ble_eq_true rfl, Nat.le_of_ble_eq_true rfl⟩ ⟨Nat.le_of_ble_eq_true rfl, Nat.le_of_ble_eq_true rfl⟩ (k' := 0) (z' := 0) (N' := N) rfl rfl rfl (fun r σ11527 hp => ?_)
                obtain ⟨rfl, hp⟩ := hp
                rcases hp with ⟨g11528, rfl⟩ | ⟨g11528, rfl⟩
                · have kg11528 : isL (t P1.a) = false := isL_f (by omega) g11528
                  refine m_if_eq F e_X10_token_61 (fun _ => ?_) (fun q => absurd (by decide) q)
                  refine m_iload_n F rfl e_X10_token_145 ?_
                  refine m_callS F e_X10_token_146 (q_X10_isDigit2 (x_l X) V _ _ (nI (t P1.a))) cb_X10_isDigit ml_X10_126 sm_X10_isDigit rfl (rest := []) rfl (Nat.le_of_ble_eq_true rfl) ⟨Nat.le_of_ble_eq_true rfl, Nat.le_of_ble_eq_true rfl⟩ ⟨Nat.le_of_ble_eq_true rfl, Nat.le_of_ble_eq_true rfl⟩ (k' := 0) (z' := 0) (N' := N) rfl rfl rfl (fun r σ11529 hp => ?_)
                  obtain ⟨rfl, hp⟩ := hp
                  rcases hp with ⟨g11530, rfl⟩ | ⟨g11530, rfl⟩
                  · have kg11530 : isD (t P1.a) = false := isD_f (by omega) g11530
                    refine m_if_eq F e_X10_token_149 (fun _ => ?_) (fun q => absurd (by decide) q)
                    refine m_aload_n F rfl e_X10_token_220 ?_
                    refine m_iload_n F rfl e_X10_token_221 ?_
                    refine m_bipush F (v := 59) (by decide) e_X10_token_222 ?_
                    refine m_icmp_ne F e_X10_token_224 (fun q224 => ?_) (fun q224 => ?_)
                    · have c224 : (t P1.a) ≠ 59 := by have hh := mt (nI_eq (a := (t P1.a)) (b := 59) (by omega) (by omega)).mpr q224; omega
                      refine m_iconst F (v := 5) (by decide) e_X10_token_231 ?_
                      refine r_put F (g' := (⟨T, Z, u, h, P1, L⟩ : RG)) e_X10_token_232 fp_X10_110 h11523 (by decide) ⟨_, rfl⟩ (fun _ _ _ _ q => q) (fun _ _ _ q => q) rfl rfl (by decide) (fun σ11531 h11532 g11533 g11534 f11535 => ?_)
                      have ga11536 := ga11524.of (g11533 _ (by omega))
                      refine m_aload_n F rfl e_X10_token_235 ?_
                      refine m_dup F rfl e_X10_token_236 ?_
                      refine r_getC F e_X10_token_237 fl_X10_97 h11532 ((g11534 19 (by decide)).trans ((fld_eq (h11522.2 c (by rw [show kC c c = 1 from kC_at (k := 0) (by decide)]; decide))).trans ((g11518 19 (by decide)).trans f11514))) ?_
                      refine m_iconst F (v := 1) (by decide) e_X10_token_240 ?_
                      refine m_iadd F e_X10_token_241 ?_
                      refine Wm.topE (w := nI (P1.a + 1)) (nI_add P1.a 1) ?_
                      refine r_put F (g' := (⟨T, Z, u, h, (mkP P1.n0 P1.n2 P1.n5 P1.n7 P1.m0 P1.m5 P1.w2 P1.w7 P1.kk (P1.a + 1)), L⟩ : RG)) e_X10_token_242 fp_X10_97 h11532 (by decide) rfl ctl_a CR.setA rfl rfl (by decide) (fun σ11537 h11538 g11539 g11540 f11541 => ?_)
                      have ga11542 := ga11536.of (g11539 _ (by omega))
                      obtain ⟨P11543, eP11543⟩ : ∃ P9, P9 = (mkP P1.n0 P1.n2 P1.n5 P1.n7 P1.m0 P1.m5 P1.w2 P1.w7 P1.kk (P1.a + 1)) := ⟨_, rfl⟩
                      rw [← eP11543] at h11538
                      have fP11543 : P11543.n0 = P1.n0 ∧ P11543.n2 = P1.n2 ∧ P11543.n5 = P1.n5 ∧ P11543.n7 = P1.n7 ∧ P11543.m0 = P1.m0 ∧ P11543.m5 = P1.m5 ∧ P11543.w2 = P1.w2 ∧ P11543.w7 = P1.w7 ∧ P11543.kk = P1.kk ∧ P11543.a = P1.a + 1 := by rw [eP11543]; exact ⟨rfl, rfl, rfl, rfl, rfl, rfl, rfl, rfl, rfl, rfl⟩
                      have oP11544 : OKP P11543 := by unfold OKP; omega
                      have et : tok t n P.a = (P1.a, 5, 0, P1.a + 1) := by unfold tok; simp only [e9]; rw [if_neg (by omega), if_neg (isL_D kg11528), if_neg (isD_D kg11530), if_neg (by omega)]
                      exact m_vret F hQ e_X10_token_245 (⟨P11543, oP11544, (by unfold RA; omega), (by have e8 : (tok t n P.a).2.2.2 = P1.a + 1 := (by rw [et]); omega), ⟨5, va, by rw [et]; exact Or.inr (Or.inr (Or.inr (Or.inr (Or.inr ⟨rfl, rfl⟩)))), by rw [et]; exact ⟨((g11540 17 (by decide)).trans ((g11534 17 (by decide)).trans ((fld_eq (h11522.2 c (by rw [show kC c c = 1 from kC_at (k := 0) (by decide)]; decide))).trans ((g11518 17 (by decide)).trans ((fld_eq (h11509.2 c (by rw [show kC c c = 1 from kC_at (k := 0) (by decide)]; decide))).trans ((fld_eq (h11469.2 c (by rw [show kC c c = 1 from kC_at (k := 0) (by decide)]; decide))).trans yd11461)))))), ((g11540 18 (by decide)).trans ((g11534 18 (by decide)).trans ((fld_eq (h11522.2 c (by rw [show kC c c = 1 from kC_at (k := 0) (by decide)]; decide))).trans ((g11518 18 (by decide)).trans ((fld_eq (h11509.2 c (by rw [show kC c c = 1 from kC_at (k := 0) (by decide)]; decide))).trans ((fld_eq (h11469.2 c (by rw [show kC c c = 1 from kC_at (k := 0) (by decide)]; decide))).trans yd11462)))))), ((g11540 20 (by decide)).trans ((g11534 20 (by decide)).trans ((fld_eq (h11522.2 c (by rw [show kC c c = 1 from kC_at (k := 0) (by decide)]; decide))).trans f11519))), ((g11540 21 (by decide)).trans f11535), ((g11540 22 (by decide)).trans ((g11534 22 (by decide)).trans ((fld_eq (h11522.2 c (by rw [show kC c c = 1 from kC_at (k := 0) (by decide)]; decide))).trans ((g11518 22 (by decide)).trans ((fld_eq (h11509.2 c (by rw [show kC c c = 1 from kC_at (k := 0) (by decide)]; decide))).trans ((fld_eq (h11469.2 c (by rw [show kC c c = 1 from kC_at (k := 0) (by decide)]; decide))).trans yd11465)))))), ((g11540 23 (by decide)).trans ((g11534 23 (by decide)).trans ((fld_eq (h11522.2 c (by rw [show kC c c = 1 from kC_at (k := 0) (by decide)]; decide))).trans ((g11518 23 (by decide)).trans ((fld_eq (h11509.2 c (by rw [show kC c c = 1 from kC_at (k := 0) (by decide)]; decide))).trans ((fld_eq (h11469.2 c (by rw [show kC c c = 1 from kC_at (k := 0) (by decide)]; decide))).trans yd11466)))))), ((g11540 24 (by decide)).trans ((g11534 24 (by decide)).trans ((fld_eq (h11522.2 c (by rw [show kC c c = 1 from kC_at (k := 0) (by decide)]; decide))).trans ((g11518 24 (by decide)).trans ((fld_eq (h11509.2 c (by rw [show kC c c = 1 from kC_at (k := 0) (by decide)]; decide))).trans ((fld_eq (h11469.2 c (by rw [show kC c c = 1 from kC_at (k := 0) (by decide)]; decide))).trans yd11467))))))⟩⟩, h11538, rfl⟩)
                    · have c224 : (t P1.a) = 59 := (nI_eq (a := (t P1.a)) (b := 59) (by omega) (by omega)).mp q224
                      refine m_iconst F (v := 3) (by decide) e_X10_token_227 ?_
                      refine m_goto F e_X10_token_228 ?_
                      refine r_put F (g' := (⟨T, Z, u, h, P1, L⟩ : RG)) e_X10_token_232 fp_X10_110 h11523 (by decide) ⟨_, rfl⟩ (fun _ _ _ _ q => q) (fun _ _ _ q => q) rfl rfl (by decide) (fun σ11545 h11546 g11547 g11548 f11549 => ?_)
                      have ga11550 := ga11524.of (g11547 _ (by omega))
                      refine m_aload_n F rfl e_X10_token_235 ?_
                      refine m_dup F rfl e_X10_token_236 ?_
                      refine r_getC F e_X10_token_237 fl_X10_97 h11546 ((g11548 19 (by decide)).trans ((fld_eq (h11522.2 c (by rw [show kC c c = 1 from kC_at (k := 0) (by decide)]; decide))).trans ((g11518 19 (by decide)).trans f11514))) ?_
                      refine m_iconst F (v := 1) (by decide) e_X10_token_240 ?_
                      refine m_iadd F e_X10_token_241 ?_
                      refine Wm.topE (w := nI (P1.a + 1)) (nI_add P1.a 1) ?_
                      refine r_put F (g' := (⟨T, Z, u, h, (mkP P1.n0 P1.n2 P1.n5 P1.n7 P1.m0 P1.m5 P1.w2 P1.w7 P1.kk (P1.a + 1)), L⟩ : RG)) e_X10_token_242 fp_X10_97 h11546 (by decide) rfl ctl_a CR.setA rfl rfl (by decide) (fun σ11551 h11552 g11553 g11554 f11555 => ?_)
                      have ga11556 := ga11550.of (g11553 _ (by omega))
                      obtain ⟨P11557, eP11557⟩ : ∃ P9, P9 = (mkP P1.n0 P1.n2 P1.n5 P1.n7 P1.m0 P1.m5 P1.w2 P1.w7 P1.kk (P1.a + 1)) := ⟨_, rfl⟩
                      rw [← eP11557] at h11552
                      have fP11557 : P11557.n0 = P1.n0 ∧ P11557.n2 = P1.n2 ∧ P11557.n5 = P1.n5 ∧ P11557.n7 = P1.n7 ∧ P11557.m0 = P1.m0 ∧ P11557.m5 = P1.m5 ∧ P11557.w2 = P1.w2 ∧ P11557.w7 = P1.w7 ∧ P11557.kk = P1.kk ∧ P11557.a = P1.a + 1 := by rw [eP11557]; exact ⟨rfl, rfl, rfl, rfl, rfl, rfl, rfl, rfl, rfl, rfl⟩
                      have oP11558 : OKP P11557 := by unfold OKP; omega
                      have et : tok t n P.a = (P1.a, 4, 0, P1.a + 1) := by unfold tok; simp only [e9]; rw [if_neg (by omega), if_neg (isL_D kg11528), if_neg (isD_D kg11530), if_pos (by omega)]
                      exact m_vret F hQ e_X10_token_245 (⟨P11557, oP11558, (by unfold RA; omega), (by have e8 : (tok t n P.a).2.2.2 = P1.a + 1 := (by rw [et]); omega), ⟨3, va, by rw [et]; exact Or.inr (Or.inr (Or.inr (Or.inr (Or.inl ⟨rfl, rfl⟩)))), by rw [et]; exact ⟨((g11554 17 (by decide)).trans ((g11548 17 (by decide)).trans ((fld_eq (h11522.2 c (by rw [show kC c c = 1 from kC_at (k := 0) (by decide)]; decide))).trans ((g11518 17 (by decide)).trans ((fld_eq (h11509.2 c (by rw [show kC c c = 1 from kC_at (k := 0) (by decide)]; decide))).trans ((fld_eq (h11469.2 c (by rw [show kC c c = 1 from kC_at (k := 0) (by decide)]; decide))).trans yd11461)))))), ((g11554 18 (by decide)).trans ((g11548 18 (by decide)).trans ((fld_eq (h11522.2 c (by rw [show kC c c = 1 from kC_at (k := 0) (by decide)]; decide))).trans ((g11518 18 (by decide)).trans ((fld_eq (h11509.2 c (by rw [show kC c c = 1 from kC_at (k := 0) (by decide)]; decide))).trans ((fld_eq (h11469.2 c (by rw [show kC c c = 1 from kC_at (k := 0) (by decide)]; decide))).trans yd11462)))))), ((g11554 20 (by decide)).trans ((g11548 20 (by decide)).trans ((fld_eq (h11522.2 c (by rw [show kC c c = 1 from kC_at (k := 0) (by decide)]; decide))).trans f11519))), ((g11554 21 (by decide)).trans f11549), ((g11554 22 (by decide)).trans ((g11548 22 (by decide)).trans ((fld_eq (h11522.2 c (by rw [show kC c c = 1 from kC_at (k := 0) (by decide)]; decide))).trans ((g11518 22 (by decide)).trans ((fld_eq (h11509.2 c (by rw [show kC c c = 1 from kC_at (k := 0) (by decide)]; decide))).trans ((fld_eq (h11469.2 c (by rw [show kC c c = 1 from kC_at (k := 0) (by decide)]; decide))).trans yd11465)))))), ((g11554 23 (by decide)).trans ((g11548 23 (by decide)).trans ((fld_eq (h11522.2 c (by rw [show kC c c = 1 from kC_at (k := 0) (by decide)]; decide))).trans ((g11518 23 (by decide)).trans ((fld_eq (h11509.2 c (by rw [show kC c c = 1 from kC_at (k := 0) (by decide)]; decide))).trans ((fld_eq (h11469.2 c (by rw [show kC c c = 1 from kC_at (k := 0) (by decide)]; decide))).trans yd11466)))))), ((g11554 24 (by decide)).trans ((g11548 24 (by decide)).trans ((fld_eq (h11522.2 c (by rw [show kC c c = 1 from kC_at (k := 0) (by decide)]; decide))).trans ((g11518 24 (by decide)).trans ((fld_eq (h11509.2 c (by rw [show kC c c = 1 from kC_at (k := 0) (by decide)]; decide))).trans ((fld_eq (h11469.2 c (by rw [show kC c c = 1 from kC_at (k := 0) (by decide)]; decide))).trans yd11467))))))⟩⟩, h11552, rfl⟩)
                  · have kg11530 : isD (t P1.a) = true := isD_t (by omega) g11530
                    refine m_if_eq F e_X10_token_149 (fun q => absurd q (by decide)) (fun _ => ?_)
                    refine m_aload_n F rfl e_X10_token_152 ?_
                    refine m_iconst F (v := 2) (by decide) e_X10_token_153 ?_
                    refine r_put F (g' := (⟨T, Z, u, h, P1, L⟩ : RG)) e_X10_token_154 fp_X10_110 h11523 (by decide) ⟨_, rfl⟩ (fun _ _ _ _ q => q) (fun _ _ _ q => q) rfl rfl (by decide) (fun σ11559 h11560 g11561 g11562 f11563 => ?_)
                    have ga11564 := ga11524.of (g11561 _ (by omega))
                    refine m_aload_n F rfl e_X10_token_157 ?_
                    refine m_iconst F (v := 0) (by decide) e_X10_token_158 ?_
                    refine r_put F (g' := (⟨T, Z, u, h, P1, L⟩ : RG)) e_X10_token_159 fp_X10_120 h11560 (by decide) ⟨_, rfl⟩ (fun _ _ _ _ q => q) (fun _ _ _ q => q) rfl rfl (by decide) (fun σ11565 h11566 g11567 g11568 f11569 => ?_)
                    have ga11570 := ga11564.of (g11567 _ (by omega))
                    refine Wm.lvsub (lv' := [(0, .ref c)]) ?_ [1] rfl
                    exact lq_X10_tokenE_162 F hQ hob hP hp0 hp1 hp2 hp3 (700 - P1.a + 1) P1.a 0 P1 _ h11566 hP1 (by unfold RA; omega) ⟨⟨((g11568 17 (by decide)).trans ((g11562 17 (by decide)).trans ((fld_eq (h11522.2 c (by rw [show kC c c = 1 from kC_at (k := 0) (by decide)]; decide))).trans ((g11518 17 (by decide)).trans ((fld_eq (h11509.2 c (by rw [show kC c c = 1 from kC_at (k := 0) (by decide)]; decide))).trans ((fld_eq (h11469.2 c (by rw [show kC c c = 1 from kC_at (k := 0) (by decide)]; decide))).trans yd11461)))))), ((g11568 18 (by decide)).trans ((g11562 18 (by decide)).trans ((fld_eq (h11522.2 c (by rw [show kC c c = 1 from kC_at (k := 0) (by decide)]; decide))).trans ((g11518 18 (by decide)).trans ((fld_eq (h11509.2 c (by rw [show kC c c = 1 from kC_at (k := 0) (by decide)]; decide))).trans ((fld_eq (h11469.2 c (by rw [show kC c c = 1 from kC_at (k := 0) (by decide)]; decide))).trans yd11462)))))), ((g11568 20 (by decide)).trans ((g11562 20 (by decide)).trans ((fld_eq (h11522.2 c (by rw [show kC c c = 1 from kC_at (k := 0) (by decide)]; decide))).trans f11519))), ((g11568 21 (by decide)).trans f11563), (f11569), ((g11568 23 (by decide)).trans ((g11562 23 (by decide)).trans ((fld_eq (h11522.2 c (by rw [show kC c c = 1 from kC_at (k := 0) (by decide)]; decide))).trans ((g11518 23 (by decide)).trans ((fld_eq (h11509.2 c (by rw [show kC c c = 1 from kC_at (k := 0) (by decide)]; decide))).trans ((fld_eq (h11469.2 c (by rw [show kC c c = 1 from kC_at (k := 0) (by decide)]; decide))).trans yd11466)))))), ((g11568 24 (by decide)).trans ((g11562 24 (by decide)).trans ((fld_eq (h11522.2 c (by rw [show kC c c = 1 from kC_at (k := 0) (by decide)]; decide))).trans ((g11518 24 (by decide)).trans ((fld_eq (h11509.2 c (by rw [show kC c c = 1 from kC_at (k := 0) (by decide)]; decide))).trans ((fld_eq (h11469.2 c (by rw [show kC c c = 1 from kC_at (k := 0) (by decide)]; decide))).trans yd11467))))))⟩, e9.symm, by omega, kg11528, kg11530, by omega, by omega, by omega, by rw [Nat.sub_self]; rfl, rfl⟩ (Nat.lt_succ_self _)
                · have kg11528 : isL (t P1.a) = true := isL_t (by omega) g11528
                  refine m_if_eq F e_X10_token_61 (fun q => absurd q (by decide)) (fun _ => ?_)
                  refine Wm.lvsub (lv' := [(0, .ref c)]) ?_ [1] rfl
                  exact lq_X10_tokenE_64 F hQ hob hP hp0 hp1 hp2 hp3 (700 - P1.a + 1) P1.a P1 _ h11523 hP1 (by unfold RA; omega) ⟨⟨((fld_eq (h11522.2 c (by rw [show kC c c = 1 from kC_at (k := 0) (by decide)]; decide))).trans ((g11518 17 (by decide)).trans ((fld_eq (h11509.2 c (by rw [show kC c c = 1 from kC_at (k := 0) (by decide)]; decide))).trans ((fld_eq (h11469.2 c (by rw [show kC c c = 1 from kC_at (k := 0) (by decide)]; decide))).trans yd11461)))), ((fld_eq (h11522.2 c (by rw [show kC c c = 1 from kC_at (k := 0) (by decide)]; decide))).trans ((g11518 18 (by decide)).trans ((fld_eq (h11509.2 c (by rw [show kC c c = 1 from kC_at (k := 0) (by decide)]; decide))).trans ((fld_eq (h11469.2 c (by rw [show kC c c = 1 from kC_at (k := 0) (by decide)]; decide))).trans yd11462)))), ((fld_eq (h11522.2 c (by rw [show kC c c = 1 from kC_at (k := 0) (by decide)]; decide))).trans f11519), ((fld_eq (h11522.2 c (by rw [show kC c c = 1 from kC_at (k := 0) (by decide)]; decide))).trans ((g11518 21 (by decide)).trans ((fld_eq (h11509.2 c (by rw [show kC c c = 1 from kC_at (k := 0) (by decide)]; decide))).trans ((fld_eq (h11469.2 c (by rw [show kC c c = 1 from kC_at (k := 0) (by decide)]; decide))).trans yd11464)))), ((fld_eq (h11522.2 c (by rw [show kC c c = 1 from kC_at (k := 0) (by decide)]; decide))).trans ((g11518 22 (by decide)).trans ((fld_eq (h11509.2 c (by rw [show kC c c = 1 from kC_at (k := 0) (by decide)]; decide))).trans ((fld_eq (h11469.2 c (by rw [show kC c c = 1 from kC_at (k := 0) (by decide)]; decide))).trans yd11465)))), ((fld_eq (h11522.2 c (by rw [show kC c c = 1 from kC_at (k := 0) (by decide)]; decide))).trans ((g11518 23 (by decide)).trans ((fld_eq (h11509.2 c (by rw [show kC c c = 1 from kC_at (k := 0) (by decide)]; decide))).trans ((fld_eq (h11469.2 c (by rw [show kC c c = 1 from kC_at (k := 0) (by decide)]; decide))).trans yd11466)))), ((fld_eq (h11522.2 c (by rw [show kC c c = 1 from kC_at (k := 0) (by decide)]; decide))).trans ((g11518 24 (by decide)).trans ((fld_eq (h11509.2 c (by rw [show kC c c = 1 from kC_at (k := 0) (by decide)]; decide))).trans ((fld_eq (h11469.2 c (by rw [show kC c c = 1 from kC_at (k := 0) (by decide)]; decide))).trans yd11467))))⟩, e9.symm, by omega, kg11528, by omega, by omega, rfl⟩ (Nat.lt_succ_self _)
              · exact absurd q46 (nI_nm1 (by omega))
          · have c15 : (t P1.a) = 32 := (nI_eq (a := (t P1.a)) (b := 32) (by omega) (by omega)).mp q15
            refine m_aload_n F rfl e_X10_token_18 ?_
            refine m_dup F rfl e_X10_token_19 ?_
            refine r_get F e_X10_token_20 fl_X10_97 h11510 rfl (fun v hv f11571 => ?_)
            obtain rfl : v = .int (nI (P1.a)) := hv
            refine m_iconst F (v := 1) (by decide) e_X10_token_23 ?_
            refine m_iadd F e_X10_token_24 ?_
            refine Wm.topE (w := nI (P1.a + 1)) (nI_add P1.a 1) ?_
            refine r_put F (g' := (⟨T, Z, u, h, (mkP P1.n0 P1.n2 P1.n5 P1.n7 P1.m0 P1.m5 P1.w2 P1.w7 P1.kk (P1.a + 1)), L⟩ : RG)) e_X10_token_25 fp_X10_97 h11510 (by decide) rfl ctl_a CR.setA rfl rfl (by decide) (fun σ11572 h11573 g11574 g11575 f11576 => ?_)
            have ga11577 := ga11511.of (g11574 _ (by omega))
            obtain ⟨P11578, eP11578⟩ : ∃ P9, P9 = (mkP P1.n0 P1.n2 P1.n5 P1.n7 P1.m0 P1.m5 P1.w2 P1.w7 P1.kk (P1.a + 1)) := ⟨_, rfl⟩
            rw [← eP11578] at h11573
            have fP11578 : P11578.n0 = P1.n0 ∧ P11578.n2 = P1.n2 ∧ P11578.n5 = P1.n5 ∧ P11578.n7 = P1.n7 ∧ P11578.m0 = P1.m0 ∧ P11578.m5 = P1.m5 ∧ P11578.w2 = P1.w2 ∧ P11578.w7 = P1.w7 ∧ P11578.kk = P1.kk ∧ P11578.a = P1.a + 1 := by rw [eP11578]; exact ⟨rfl, rfl, rfl, rfl, rfl, rfl, rfl, rfl, rfl, rfl⟩
            refine m_goto F e_X10_token_28 ?_
            have oP11579 : OKP P11578 := by unfold OKP; omega
            exact ih  P11578 _ h11573 oP11579 (by unfold RA; omega) ⟨⟨((g11575 17 (by decide)).trans ((fld_eq (h11509.2 c (by rw [show kC c c = 1 from kC_at (k := 0) (by decide)]; decide))).trans ((fld_eq (h11469.2 c (by rw [show kC c c = 1 from kC_at (k := 0) (by decide)]; decide))).trans yd11461))), ((g11575 18 (by decide)).trans ((fld_eq (h11509.2 c (by rw [show kC c c = 1 from kC_at (k := 0) (by decide)]; decide))).trans ((fld_eq (h11469.2 c (by rw [show kC c c = 1 from kC_at (k := 0) (by decide)]; decide))).trans yd11462))), ((g11575 20 (by decide)).trans ((fld_eq (h11509.2 c (by rw [show kC c c = 1 from kC_at (k := 0) (by decide)]; decide))).trans ((fld_eq (h11469.2 c (by rw [show kC c c = 1 from kC_at (k := 0) (by decide)]; decide))).trans yd11463))), ((g11575 21 (by decide)).trans ((fld_eq (h11509.2 c (by rw [show kC c c = 1 from kC_at (k := 0) (by decide)]; decide))).trans ((fld_eq (h11469.2 c (by rw [show kC c c = 1 from kC_at (k := 0) (by decide)]; decide))).trans yd11464))), ((g11575 22 (by decide)).trans ((fld_eq (h11509.2 c (by rw [show kC c c = 1 from kC_at (k := 0) (by decide)]; decide))).trans ((fld_eq (h11469.2 c (by rw [show kC c c = 1 from kC_at (k := 0) (by decide)]; decide))).trans yd11465))), ((g11575 23 (by decide)).trans ((fld_eq (h11509.2 c (by rw [show kC c c = 1 from kC_at (k := 0) (by decide)]; decide))).trans ((fld_eq (h11469.2 c (by rw [show kC c c = 1 from kC_at (k := 0) (by decide)]; decide))).trans yd11466))), ((g11575 24 (by decide)).trans ((fld_eq (h11509.2 c (by rw [show kC c c = 1 from kC_at (k := 0) (by decide)]; decide))).trans ((fld_eq (h11469.2 c (by rw [show kC c c = 1 from kC_at (k := 0) (by decide)]; decide))).trans yd11467)))⟩, by rw [i1, show P11578.a = P1.a + 1 by omega]; exact sc_go (by omega) (isB_y (by omega)), by omega⟩ (by omega)
set_option maxRecDepth 20000 in
theorem q_X10_tokenE (l : Launch) (V : VX) (c T Z u h : Nat) (P : NP) (L : Nat → LQ) (N : Nat) (σ : Mem) (n st : Nat) (so va : Int32) (ln : Nat) (ft fp : Int32) (t : Nat → Nat) (h0 : HR V c ⟨T, Z, u, h, P, L⟩ σ) (hob : OKB L) (hP : OKP P) (hp0 : YD σ c n st so va ln ft fp) (hp1 : BR σ c n t) (hp2 : n ≤ 700) (hp3 : P.a ≤ n) : Ct l V yX10_token cX10_token 2 none 5 0 0 N σ [.ref c] (fun r τ => ∃ P9 : NP, OKP P9 ∧ RA P P9 ∧ P9.a = (tok t n P.a).2.2.2 ∧ (∃ so2 va2, MT so2 va2 (tok t n P.a).2.1 (tok t n P.a).2.2.1 ∧ YD τ c n (tok t n P.a).1 so2 va2 ln ft fp) ∧ HS V c (⟨T, Z, u, h, P9, L⟩ : RG) [0, 2, 3, 4, 5, 6, 7, 8, 9, 10, 11, 12, 13, 14, 15, 16, 17, 18, 19, 20, 21, 22, 23] σ τ ∧ r = none) := by
  refine Ct.of (by decide) (Nat.le_of_ble_eq_true rfl) [(0, .ref c)] rfl (fun X hX F hQ => ?_)
  have hPP := hP
  unfold OKP at hPP
  have h1 : HS V c ⟨T, Z, u, h, P, L⟩ [0, 2, 3, 4, 5, 6, 7, 8, 9, 10, 11, 12, 13, 14, 15, 16, 17, 18, 19, 20, 21, 22, 23] σ σ := HS.start h0
  have hyd11580 := hp0
  obtain ⟨yd11580, yd11581, yd11582, yd11583, yd11584, yd11585, yd11586⟩ := hyd11580
  have hn7 := hp2
  exact lq_X10_tokenE_0 F hQ hob hP hp0 hp1 hp2 hp3 (700 - P.a + 1)  P _ h1 hP (by unfold RA; omega) ⟨⟨(yd11580), (yd11581), (yd11582), (yd11583), (yd11584), (yd11585), (yd11586)⟩, rfl, hp3⟩ (Nat.lt_succ_self _)
