theorem isL_b {x : Nat} (h : isL x = true) : 97 ≤ x ∧ x ≤ 122 := by unfold isL at h; simp at h; exact h
theorem isD_b {x : Nat} (h : isD x = true) : 48 ≤ x ∧ x ≤ 57 := by unfold isD at h; simp at h; exact h
theorem isB_n {x : Nat} (h : x ≠ 10) (h2 : x ≠ 32) : isB x = false := by unfold isB; simp; omega
theorem isB_y {x : Nat} (h : x = 10 ∨ x = 32) : isB x = true := by unfold isB; simp; omega
theorem nmcS {t : Nat → Nat} {p e i : Nat} : nmc t p e (i + 1) = nmc t p e i * 32 + (if p + i < e then t (p + i) - 96 else 0) := rfl
theorem nmc_lt {t : Nat → Nat} {p e i : Nat} (hl : ∀ j, p ≤ j → j < e → isL (t j) = true) (hi : i ≤ 5) : nmc t p e i < 33554432 := by
  have h1 := nmc_b (t := t) (p := p) (e := e) (fun j hj => by have h2 := isL_b (hl (p + j) (by omega) hj); omega) i
  have h2 := p32 hi
  have h3 : 32 ^ i ≤ 33554432 := h2
  omega
theorem isL_D {x : Nat} (h : isL x = false) : ¬ isL x = true := by rw [h]; decide
theorem isD_D {x : Nat} (h : isD x = false) : ¬ isD x = true := by rw [h]; decide
set_option maxRecDepth 20000 in
theorem lq_X10_nameHereE_7 {V : VX} {X : MX} {N : Nat} {σ : Mem} {c T Z u h : Nat} {P : NP} {L : Nat → LQ}  {n st : Nat} {so va : Int32} {ln : Nat} {ft fp : Int32} {t : Nat → Nat} (F : Fx V X yX10_nameHere cX10_nameHere 2 none (rmd 0 0 0)) (hQ : Rt V X 0 0 N (fun r τ => HS V c (⟨T, Z, u, h, P, L⟩ : RG) [0, 2, 3, 4, 5, 6, 7, 8, 9, 10, 11, 12, 13, 14, 15, 16, 17, 18, 19, 20, 21, 22, 23] σ τ ∧ YD τ c n st so (nI (nmc t st P.a 6)) ln ft fp ∧ r = none)) (hob : OKB L) (hP : OKP P) (hp0 : YD σ c n st so va ln ft fp) (hp1 : BR σ c n t) (hp2 : n ≤ 700) (hp3 : P.a - st ≤ 6) (hp4 : st ≤ P.a) (hp5 : P.a ≤ n) (hp6 : ∀ i, st ≤ i → i < P.a → isL (t i) = true)  : ∀ (fuel : Nat) (i : Nat) (τ : Mem), HS V c (⟨T, Z, u, h, P, L⟩ : RG) [0, 2, 3, 4, 5, 6, 7, 8, 9, 10, 11, 12, 13, 14, 15, 16, 17, 18, 19, 20, 21, 22, 23] σ τ → YD τ c n st so (nI (nmc t st P.a i)) ln ft fp ∧ i ≤ 6 → 6 - i < fuel → Wm V X 2 N τ 0 0 7 [(0, .ref c), (1, .int (nI i))] [] := by
  intro fuel
  induction fuel with
  | zero => intros; rename_i hm; exact absurd hm (Nat.not_lt_zero _)
  | succ fuel ih =>
    intro i τ h1 hi hm
    have hPP := hP
    unfold OKP at hPP
    have hB1 := hp1.of (h1.2 (c + 1) (by rw [kC_at (k := 1) (by decide)]; decide))
    have hn7 := hp2
    obtain ⟨hY1, i1⟩ := hi
    have hyd11257 := hY1
    obtain ⟨yd11257, yd11258, yd11259, yd11260, yd11261, yd11262, yd11263⟩ := hyd11257
    have hv5 : i ≤ 5 → nmc t st P.a i < 33554432 := fun q => nmc_lt hp6 q
    refine m_iload_n F rfl e_X10_nameHere_7 ?_
    refine m_bipush F (v := 6) (by decide) e_X10_nameHere_8 ?_
    refine m_icmp_ge F e_X10_nameHere_10 (fun q10 => ?_) (fun q10 => ?_)
    · have c10 : i ≥ 6 := (nI_leI (a := 6) (b := i) (by omega) (by omega)).mp q10
      have e6 : i = 6 := by omega
      subst e6
      exact m_vret F hQ e_X10_nameHere_63 (⟨h1, ⟨(yd11257), (yd11258), (yd11259), (yd11260), (yd11261), (yd11262), (yd11263)⟩, rfl⟩)
    · have c10 : i < 6 := by have hh := mt (nI_leI (a := 6) (b := i) (by omega) (by omega)).mpr q10; omega
      refine m_aload_n F rfl e_X10_nameHere_13 ?_
      refine m_aload_n F rfl e_X10_nameHere_14 ?_
      refine r_getC F e_X10_nameHere_15 fl_X10_120 h1 (yd11261) ?_
      refine m_iconst F (v := 5) (by decide) e_X10_nameHere_18 ?_
      refine m_ishl F e_X10_nameHere_19 ?_
      refine m_aload_n F rfl e_X10_nameHere_20 ?_
      refine r_getC F e_X10_nameHere_21 fl_X10_107 h1 (yd11259) ?_
      refine m_iload_n F rfl e_X10_nameHere_24 ?_
      refine m_iadd F e_X10_nameHere_25 ?_
      refine Wm.topE (w := nI (st + i)) (nI_add st i) ?_
      refine m_aload_n F rfl e_X10_nameHere_26 ?_
      refine r_get F e_X10_nameHere_27 fl_X10_97 h1 rfl (fun v hv f11264 => ?_)
      obtain rfl : v = .int (nI (P.a)) := hv
      refine m_icmp_ge F e_X10_nameHere_30 (fun q30 => ?_) (fun q30 => ?_)
      · have c30 : (st + i) ≥ P.a := (nI_leI (a := P.a) (b := (st + i)) (by omega) (by omega)).mp q30
        refine m_iconst F (v := 0) (by decide) e_X10_nameHere_52 ?_
        refine m_ior F e_X10_nameHere_53 ?_
        refine Wm.topE (w := nI (nmc t st P.a (i + 1))) ((yshl5 (d := 0) (hv5 (by omega)) (by omega)).trans (congrArg nI (by rw [nmcS, if_neg (by omega)]; try omega))) ?_
        refine r_put F (g' := (⟨T, Z, u, h, P, L⟩ : RG)) e_X10_nameHere_54 fp_X10_120 h1 (by decide) ⟨_, rfl⟩ (fun _ _ _ _ q => q) (fun _ _ _ q => q) rfl rfl (by decide) (fun σ11265 h11266 g11267 g11268 f11269 => ?_)
        have ga11270 := hB1.of (g11267 _ (by omega))
        refine m_iinc F (v := nI (i + 1)) (lv' := [(1, .int (nI (i + 1))), (0, .ref c)]) e_X10_nameHere_57 rfl (nI_add i 1) (by decide) rfl ?_
        refine m_goto F e_X10_nameHere_60 ?_
        refine Wm.lvsub (lv' := [(0, .ref c), (1, .int (nI (i + 1)))]) ?_ [1, 0] rfl
        exact ih (i + 1) _ h11266 ⟨⟨((g11268 17 (by decide)).trans yd11257), ((g11268 18 (by decide)).trans yd11258), ((g11268 20 (by decide)).trans yd11259), ((g11268 21 (by decide)).trans yd11260), (f11269), ((g11268 23 (by decide)).trans yd11262), ((g11268 24 (by decide)).trans yd11263)⟩, by omega⟩ (by omega)
      · have c30 : (st + i) < P.a := by have hh := mt (nI_leI (a := P.a) (b := (st + i)) (by omega) (by omega)).mpr q30; omega
        refine m_aload_n F rfl e_X10_nameHere_33 ?_
        refine r_get F e_X10_nameHere_34 fl_X10_7 h1 rfl (fun v hv f11271 => ?_)
        obtain rfl : v = .ref (c + 1) := hv
        refine m_aload_n F rfl e_X10_nameHere_37 ?_
        refine r_getC F e_X10_nameHere_38 fl_X10_107 h1 (yd11259) ?_
        refine m_iload_n F rfl e_X10_nameHere_41 ?_
        refine m_iadd F e_X10_nameHere_42 ?_
        refine Wm.topE (w := nI (st + i)) (nI_add st i) ?_
        have hb11272 := (hB1 (st + i) (by omega)).1
        refine r_iald F (len := 700) (j := st + i) e_X10_nameHere_43 h1 (fun _ h => h) (by decide) (nI_clamp (by omega)) (vp_in_nI (by omega) (by decide)) (fun x11273 h11274 f11275 => ?_)
        obtain rfl := Option.some.inj ((f11275).symm.trans ((hB1 (st + i) (by omega)).2))
        have hl9 := isL_b (hp6 (st + i) (by omega) (by omega))
        have hl9 := isL_b (hp6 (st + i) (by omega) (by omega))
        have hl9 := isL_b (hp6 (st + i) (by omega) (by omega))
        refine m_bipush F (v := 97) (by decide) e_X10_nameHere_44 ?_
        refine m_isub F e_X10_nameHere_46 ?_
        refine Wm.topE (w := nI ((t (st + i)) - 97)) (pk_sub (a := t (st + i)) (b := 97) (by omega)) ?_
        refine m_iconst F (v := 1) (by decide) e_X10_nameHere_47 ?_
        refine m_iadd F e_X10_nameHere_48 ?_
        refine Wm.topE (w := nI ((t (st + i)) - 97 + 1)) (nI_add ((t (st + i)) - 97) 1) ?_
        refine m_goto F e_X10_nameHere_49 ?_
        refine m_ior F e_X10_nameHere_53 ?_
        refine Wm.topE (w := nI (nmc t st P.a (i + 1))) ((yshl5 (d := (t (st + i)) - 97 + 1) (hv5 (by omega)) (by omega)).trans (congrArg nI (by rw [nmcS, if_pos (by omega)]; try omega))) ?_
        refine r_put F (g' := (⟨T, Z, u, h, P, L⟩ : RG)) e_X10_nameHere_54 fp_X10_120 h1 (by decide) ⟨_, rfl⟩ (fun _ _ _ _ q => q) (fun _ _ _ q => q) rfl rfl (by decide) (fun σ11276 h11277 g11278 g11279 f11280 => ?_)
        have ga11281 := hB1.of (g11278 _ (by omega))
        refine m_iinc F (v := nI (i + 1)) (lv' := [(1, .int (nI (i + 1))), (0, .ref c)]) e_X10_nameHere_57 rfl (nI_add i 1) (by decide) rfl ?_
        refine m_goto F e_X10_nameHere_60 ?_
        refine Wm.lvsub (lv' := [(0, .ref c), (1, .int (nI (i + 1)))]) ?_ [1, 0] rfl
        exact ih (i + 1) _ h11277 ⟨⟨((g11279 17 (by decide)).trans yd11257), ((g11279 18 (by decide)).trans yd11258), ((g11279 20 (by decide)).trans yd11259), ((g11279 21 (by decide)).trans yd11260), (f11280), ((g11279 23 (by decide)).trans yd11262), ((g11279 24 (by decide)).trans yd11263)⟩, by omega⟩ (by omega)
set_option maxRecDepth 20000 in
theorem q_X10_nameHereE (l : Launch) (V : VX) (c T Z u h : Nat) (P : NP) (L : Nat → LQ) (N : Nat) (σ : Mem) (n st : Nat) (so va : Int32) (ln : Nat) (ft fp : Int32) (t : Nat → Nat) (h0 : HR V c ⟨T, Z, u, h, P, L⟩ σ) (hob : OKB L) (hP : OKP P) (hp0 : YD σ c n st so va ln ft fp) (hp1 : BR σ c n t) (hp2 : n ≤ 700) (hp3 : P.a - st ≤ 6) (hp4 : st ≤ P.a) (hp5 : P.a ≤ n) (hp6 : ∀ i, st ≤ i → i < P.a → isL (t i) = true) : Ct l V yX10_nameHere cX10_nameHere 2 none 0 0 0 N σ [.ref c] (fun r τ => HS V c (⟨T, Z, u, h, P, L⟩ : RG) [0, 2, 3, 4, 5, 6, 7, 8, 9, 10, 11, 12, 13, 14, 15, 16, 17, 18, 19, 20, 21, 22, 23] σ τ ∧ YD τ c n st so (nI (nmc t st P.a 6)) ln ft fp ∧ r = none) := by
  refine Ct.of (by decide) (Nat.le_of_ble_eq_true rfl) [(0, .ref c)] rfl (fun X hX F hQ => ?_)
  have hPP := hP
  unfold OKP at hPP
  have h1 : HS V c ⟨T, Z, u, h, P, L⟩ [0, 2, 3, 4, 5, 6, 7, 8, 9, 10, 11, 12, 13, 14, 15, 16, 17, 18, 19, 20, 21, 22, 23] σ σ := HS.start h0
  have hyd11282 := hp0
  obtain ⟨yd11282, yd11283, yd11284, yd11285, yd11286, yd11287, yd11288⟩ := hyd11282
  have hn7 := hp2
  refine m_aload_n F rfl e_X10_nameHere_0 ?_
  refine m_iconst F (v := 0) (by decide) e_X10_nameHere_1 ?_
  refine r_put F (g' := (⟨T, Z, u, h, P, L⟩ : RG)) e_X10_nameHere_2 fp_X10_120 h1 (by decide) ⟨_, rfl⟩ (fun _ _ _ _ q => q) (fun _ _ _ q => q) rfl rfl (by decide) (fun σ11289 h11290 g11291 g11292 f11293 => ?_)
  have ga11294 := hp1.of (g11291 _ (by omega))
  refine m_iconst F (v := 0) (by decide) e_X10_nameHere_5 ?_
  refine m_istore_n F (lv' := [(1, .int 0), (0, .ref c)]) e_X10_nameHere_6 (by decide) rfl ?_
  refine Wm.lvsub (lv' := [(0, .ref c), (1, .int 0)]) ?_ [1, 0] rfl
  exact lq_X10_nameHereE_7 F hQ hob hP hp0 hp1 hp2 hp3 hp4 hp5 hp6 (6 - 0 + 1) 0 _ h11290 ⟨⟨((g11292 17 (by decide)).trans yd11282), ((g11292 18 (by decide)).trans yd11283), ((g11292 20 (by decide)).trans yd11284), ((g11292 21 (by decide)).trans yd11285), (f11293), ((g11292 23 (by decide)).trans yd11287), ((g11292 24 (by decide)).trans yd11288)⟩, by omega⟩ (Nat.lt_succ_self _)
set_option maxRecDepth 20000 in
theorem lq_X10_tokenE_162 {V : VX} {X : MX} {N : Nat} {σ : Mem} {c T Z u h : Nat} {P : NP} {L : Nat → LQ}  {n st : Nat} {so va : Int32} {ln : Nat} {ft fp : Int32} {t : Nat → Nat} (F : Fx V X yX10_token cX10_token 2 none (rmd 5 0 0)) (hQ : Rt V X 0 0 N (fun r τ => ∃ P9 : NP, OKP P9 ∧ RA P P9 ∧ P9.a = (tok t n P.a).2.2.2 ∧ (∃ so2 va2, MT so2 va2 (tok t n P.a).2.1 (tok t n P.a).2.2.1 ∧ YD τ c n (tok t n P.a).1 so2 va2 ln ft fp) ∧ HS V c (⟨T, Z, u, h, P9, L⟩ : RG) [0, 2, 3, 4, 5, 6, 7, 8, 9, 10, 11, 12, 13, 14, 15, 16, 17, 18, 19, 20, 21, 22, 23] σ τ ∧ r = none)) (hob : OKB L) (hP : OKP P) (hp0 : YD σ c n st so va ln ft fp) (hp1 : BR σ c n t) (hp2 : n ≤ 700) (hp3 : P.a ≤ n)  : ∀ (fuel : Nat) (p1 v1 : Nat) (P1 : NP) (τ : Mem), HS V c (⟨T, Z, u, h, P1, L⟩ : RG) [0, 2, 3, 4, 5, 6, 7, 8, 9, 10, 11, 12, 13, 14, 15, 16, 17, 18, 19, 20, 21, 22, 23] σ τ → OKP P1 → RA P P1 → YD τ c n p1 2 (nI v1) ln ft fp ∧ p1 = sc isB t n P.a ∧ p1 < n ∧ isL (t p1) = false ∧ isD (t p1) = true ∧ p1 ≤ P1.a ∧ P1.a ≤ n ∧ v1 ≤ 1000000000 ∧ min v1 10000000 = nuc t p1 (P1.a - p1) ∧ sc isD t n p1 = sc isD t n P1.a → 700 - P1.a < fuel → Wm V X 2 N τ 0 0 162 [(0, .ref c)] [] := by
  intro fuel
  induction fuel with
  | zero => intros; rename_i hm; exact absurd hm (Nat.not_lt_zero _)
  | succ fuel ih =>
    intro p1 v1 P1 τ h1 hP1 hR1 hi hm
    have hPP := hP
    unfold OKP at hPP
    have hPP1 := hP1
    unfold OKP at hPP1
    unfold RA at hR1
    have hB1 := hp1.of (h1.2 (c + 1) (by rw [kC_at (k := 1) (by decide)]; decide))
    have hn7 := hp2
    obtain ⟨hY1, i1, i2, i3, i4, i5, i6, i7, i8, i9⟩ := hi
    have hyd11295 := hY1
    obtain ⟨yd11295, yd11296, yd11297, yd11298, yd11299, yd11300, yd11301⟩ := hyd11295
    refine m_aload_n F rfl e_X10_token_162 ?_
    refine r_callV F e_X10_token_163 (q_X10_hereE (x_l X) V c T Z u h P1 L _ _  n t h1.1 (hob) hP1  (yd11296) hB1 hn7) cb_X10_here ml_X10_103 im_X10_here se_X10_here h1 rfl rfl (rest := []) rfl (Nat.le_of_ble_eq_true rfl) ⟨Nat.le_of_ble_eq_true rfl, Nat.le_of_ble_eq_true rfl⟩ ⟨Nat.le_of_ble_eq_true rfl, Nat.le_of_ble_eq_true rfl⟩ (fun r σ11302 hp => ?_)
    obtain ⟨h11303, hp⟩ := hp
    have h11304 := HS.trans h1 h11303 (by decide)
    have ga11305 := hB1.of (h11303.2 (c + 1) (by rw [kC_at (k := 1) (by decide)]; decide))
    rcases hp with ⟨he11306, rfl⟩ | ⟨he11306, hb11307, rfl⟩
    · refine m_callS F e_X10_token_166 (q_X10_isDigit2 (x_l X) V _ _ (-1)) cb_X10_isDigit ml_X10_126 sm_X10_isDigit rfl (rest := []) rfl (Nat.le_of_ble_eq_true rfl) ⟨Nat.le_of_ble_eq_true rfl, Nat.le_of_ble_eq_true rfl⟩ ⟨Nat.le_of_ble_eq_true rfl, Nat.le_of_ble_eq_true rfl⟩ (k' := 0) (z' := 0) (N' := N) rfl rfl rfl (fun r σ11308 hp => ?_)
      obtain ⟨rfl, hp⟩ := hp
      rcases hp with ⟨g11309, rfl⟩ | ⟨g11309, rfl⟩
      · refine m_if_eq F e_X10_token_169 (fun _ => ?_) (fun q => absurd (by decide) q)
        have e9 := i1.symm
        have eD : sc isD t n p1 = P1.a := i9.trans (sc_stop (Or.inl (by omega)))
        have et : tok t n P.a = (p1, 3, nuc t p1 (P1.a - p1), P1.a) := by unfold tok; simp only [e9, eD]; rw [if_neg (by omega), if_neg (isL_D i3), if_pos i4]
        exact m_vret F hQ e_X10_token_245 (⟨P1, hP1, (by unfold RA; omega), (by have e8 : (tok t n P.a).2.2.2 = P1.a := (by rw [et]); omega), ⟨2, (nI v1), by rw [et]; exact Or.inr (Or.inr (Or.inr (Or.inl ⟨rfl, rfl, v1, by omega, rfl, i8⟩))), by rw [et]; exact ⟨((fld_eq (h11303.2 c (by rw [show kC c c = 1 from kC_at (k := 0) (by decide)]; decide))).trans yd11295), ((fld_eq (h11303.2 c (by rw [show kC c c = 1 from kC_at (k := 0) (by decide)]; decide))).trans yd11296), ((fld_eq (h11303.2 c (by rw [show kC c c = 1 from kC_at (k := 0) (by decide)]; decide))).trans yd11297), ((fld_eq (h11303.2 c (by rw [show kC c c = 1 from kC_at (k := 0) (by decide)]; decide))).trans yd11298), ((fld_eq (h11303.2 c (by rw [show kC c c = 1 from kC_at (k := 0) (by decide)]; decide))).trans yd11299), ((fld_eq (h11303.2 c (by rw [show kC c c = 1 from kC_at (k := 0) (by decide)]; decide))).trans yd11300), ((fld_eq (h11303.2 c (by rw [show kC c c = 1 from kC_at (k := 0) (by decide)]; decide))).trans yd11301)⟩⟩, h11304, rfl⟩)
      · exact absurd g11309 (by decide)
    · refine m_callS F e_X10_token_166 (q_X10_isDigit2 (x_l X) V _ _ (nI (t P1.a))) cb_X10_isDigit ml_X10_126 sm_X10_isDigit rfl (rest := []) rfl (Nat.le_of_ble_eq_true rfl) ⟨Nat.le_of_ble_eq_true rfl, Nat.le_of_ble_eq_true rfl⟩ ⟨Nat.le_of_ble_eq_true rfl, Nat.le_of_ble_eq_true rfl⟩ (k' := 0) (z' := 0) (N' := N) rfl rfl rfl (fun r σ11310 hp => ?_)
      obtain ⟨rfl, hp⟩ := hp
      rcases hp with ⟨g11311, rfl⟩ | ⟨g11311, rfl⟩
      · have kg11311 : isD (t P1.a) = false := isD_f (by omega) g11311
        refine m_if_eq F e_X10_token_169 (fun _ => ?_) (fun q => absurd (by decide) q)
        have e9 := i1.symm
        have eD : sc isD t n p1 = P1.a := i9.trans (sc_stop (Or.inr kg11311))
        have et : tok t n P.a = (p1, 3, nuc t p1 (P1.a - p1), P1.a) := by unfold tok; simp only [e9, eD]; rw [if_neg (by omega), if_neg (isL_D i3), if_pos i4]
        exact m_vret F hQ e_X10_token_245 (⟨P1, hP1, (by unfold RA; omega), (by have e8 : (tok t n P.a).2.2.2 = P1.a := (by rw [et]); omega), ⟨2, (nI v1), by rw [et]; exact Or.inr (Or.inr (Or.inr (Or.inl ⟨rfl, rfl, v1, by omega, rfl, i8⟩))), by rw [et]; exact ⟨((fld_eq (h11303.2 c (by rw [show kC c c = 1 from kC_at (k := 0) (by decide)]; decide))).trans yd11295), ((fld_eq (h11303.2 c (by rw [show kC c c = 1 from kC_at (k := 0) (by decide)]; decide))).trans yd11296), ((fld_eq (h11303.2 c (by rw [show kC c c = 1 from kC_at (k := 0) (by decide)]; decide))).trans yd11297), ((fld_eq (h11303.2 c (by rw [show kC c c = 1 from kC_at (k := 0) (by decide)]; decide))).trans yd11298), ((fld_eq (h11303.2 c (by rw [show kC c c = 1 from kC_at (k := 0) (by decide)]; decide))).trans yd11299), ((fld_eq (h11303.2 c (by rw [show kC c c = 1 from kC_at (k := 0) (by decide)]; decide))).trans yd11300), ((fld_eq (h11303.2 c (by rw [show kC c c = 1 from kC_at (k := 0) (by decide)]; decide))).trans yd11301)⟩⟩, h11304, rfl⟩)
      · have kg11311 : isD (t P1.a) = true := isD_t (by omega) g11311
        refine m_if_eq F e_X10_token_169 (fun q => absurd q (by decide)) (fun _ => ?_)
        refine m_aload_n F rfl e_X10_token_172 ?_
        refine m_aload_n F rfl e_X10_token_173 ?_
        refine r_getC F e_X10_token_174 fl_X10_120 h11304 ((fld_eq (h11303.2 c (by rw [show kC c c = 1 from kC_at (k := 0) (by decide)]; decide))).trans yd11299) ?_
        refine m_ldc F kc_X10_129 e_X10_token_177 ?_
        refine m_icmp_le F e_X10_token_179 (fun q179 => ?_) (fun q179 => ?_)
        · have c179 : v1 ≤ 9999999 := (nI_leI (a := v1) (b := 9999999) (by omega) (by omega)).mp q179
          refine m_bipush F (v := 10) (by decide) e_X10_token_189 ?_
          refine m_aload_n F rfl e_X10_token_191 ?_
          refine r_getC F e_X10_token_192 fl_X10_120 h11304 ((fld_eq (h11303.2 c (by rw [show kC c c = 1 from kC_at (k := 0) (by decide)]; decide))).trans yd11299) ?_
          refine m_imul F e_X10_token_195 ?_
          refine Wm.topE (w := nI (10 * v1)) (pk_mul 10 v1) ?_
          refine m_aload_n F rfl e_X10_token_196 ?_
          refine r_callV F e_X10_token_197 (q_X10_hereE (x_l X) V c T Z u h P1 L _ _  n t h11304.1 (hob) hP1  ((fld_eq (h11303.2 c (by rw [show kC c c = 1 from kC_at (k := 0) (by decide)]; decide))).trans yd11296) ga11305 hn7) cb_X10_here ml_X10_103 im_X10_here se_X10_here h11304 rfl rfl (rest := [.int (nI (10 * v1)), .ref c]) rfl (Nat.le_of_ble_eq_true rfl) ⟨Nat.le_of_ble_eq_true rfl, Nat.le_of_ble_eq_true rfl⟩ ⟨Nat.le_of_ble_eq_true rfl, Nat.le_of_ble_eq_true rfl⟩ (fun r σ11312 hp => ?_)
          obtain ⟨h11313, hp⟩ := hp
          have h11314 := HS.trans h11304 h11313 (by decide)
          have ga11315 := ga11305.of (h11313.2 (c + 1) (by rw [kC_at (k := 1) (by decide)]; decide))
          rcases hp with ⟨he11316, rfl⟩ | ⟨he11316, hb11317, rfl⟩
          · exfalso; omega
          · refine m_iadd F e_X10_token_200 ?_
            refine Wm.topE (w := nI ((10 * v1) + (t P1.a))) (nI_add (10 * v1) (t P1.a)) ?_
            have hd8 := isD_b kg11311
            have hd8 := isD_b kg11311
            have hd8 := isD_b kg11311
            refine m_bipush F (v := 48) (by decide) e_X10_token_201 ?_
            refine m_isub F e_X10_token_203 ?_
            refine Wm.topE (w := nI (((10 * v1) + (t P1.a)) - 48)) (pk_sub (a := (10 * v1) + (t P1.a)) (b := 48) (by omega)) ?_
            refine r_put F (g' := (⟨T, Z, u, h, P1, L⟩ : RG)) e_X10_token_204 fp_X10_120 h11314 (by decide) ⟨_, rfl⟩ (fun _ _ _ _ q => q) (fun _ _ _ q => q) rfl rfl (by decide) (fun σ11318 h11319 g11320 g11321 f11322 => ?_)
            have ga11323 := ga11315.of (g11320 _ (by omega))
            refine m_aload_n F rfl e_X10_token_207 ?_
            refine m_dup F rfl e_X10_token_208 ?_
            refine r_get F e_X10_token_209 fl_X10_97 h11319 rfl (fun v hv f11324 => ?_)
            obtain rfl : v = .int (nI (P1.a)) := hv
            refine m_iconst F (v := 1) (by decide) e_X10_token_212 ?_
            refine m_iadd F e_X10_token_213 ?_
            refine Wm.topE (w := nI (P1.a + 1)) (nI_add P1.a 1) ?_
            refine r_put F (g' := (⟨T, Z, u, h, (mkP P1.n0 P1.n2 P1.n5 P1.n7 P1.m0 P1.m5 P1.w2 P1.w7 P1.kk (P1.a + 1) P1.f P1.p), L⟩ : RG)) e_X10_token_214 fp_X10_97 h11319 (by decide) rfl ctl_a CR.setA rfl rfl (by decide) (fun σ11325 h11326 g11327 g11328 f11329 => ?_)
            have ga11330 := ga11323.of (g11327 _ (by omega))
            obtain ⟨P11331, eP11331⟩ : ∃ P9, P9 = (mkP P1.n0 P1.n2 P1.n5 P1.n7 P1.m0 P1.m5 P1.w2 P1.w7 P1.kk (P1.a + 1) P1.f P1.p) := ⟨_, rfl⟩
            rw [← eP11331] at h11326
            have fP11331 : P11331.n0 = P1.n0 ∧ P11331.n2 = P1.n2 ∧ P11331.n5 = P1.n5 ∧ P11331.n7 = P1.n7 ∧ P11331.m0 = P1.m0 ∧ P11331.m5 = P1.m5 ∧ P11331.w2 = P1.w2 ∧ P11331.w7 = P1.w7 ∧ P11331.kk = P1.kk ∧ P11331.a = P1.a + 1 ∧ P11331.f = P1.f ∧ P11331.p = P1.p := by rw [eP11331]; exact ⟨rfl, rfl, rfl, rfl, rfl, rfl, rfl, rfl, rfl, rfl, rfl, rfl⟩
            refine m_goto F e_X10_token_217 ?_
            have oP11332 : OKP P11331 := by unfold OKP; omega
            have hd9 := isD_b kg11311
            exact ih p1 (((10 * v1) + (t P1.a)) - 48) P11331 _ h11326 oP11332 (by unfold RA; omega) ⟨⟨((g11328 17 (by decide)).trans ((g11321 17 (by decide)).trans ((fld_eq (h11313.2 c (by rw [show kC c c = 1 from kC_at (k := 0) (by decide)]; decide))).trans ((fld_eq (h11303.2 c (by rw [show kC c c = 1 from kC_at (k := 0) (by decide)]; decide))).trans yd11295)))), ((g11328 18 (by decide)).trans ((g11321 18 (by decide)).trans ((fld_eq (h11313.2 c (by rw [show kC c c = 1 from kC_at (k := 0) (by decide)]; decide))).trans ((fld_eq (h11303.2 c (by rw [show kC c c = 1 from kC_at (k := 0) (by decide)]; decide))).trans yd11296)))), ((g11328 20 (by decide)).trans ((g11321 20 (by decide)).trans ((fld_eq (h11313.2 c (by rw [show kC c c = 1 from kC_at (k := 0) (by decide)]; decide))).trans ((fld_eq (h11303.2 c (by rw [show kC c c = 1 from kC_at (k := 0) (by decide)]; decide))).trans yd11297)))), ((g11328 21 (by decide)).trans ((g11321 21 (by decide)).trans ((fld_eq (h11313.2 c (by rw [show kC c c = 1 from kC_at (k := 0) (by decide)]; decide))).trans ((fld_eq (h11303.2 c (by rw [show kC c c = 1 from kC_at (k := 0) (by decide)]; decide))).trans yd11298)))), ((g11328 22 (by decide)).trans f11322), ((g11328 23 (by decide)).trans ((g11321 23 (by decide)).trans ((fld_eq (h11313.2 c (by rw [show kC c c = 1 from kC_at (k := 0) (by decide)]; decide))).trans ((fld_eq (h11303.2 c (by rw [show kC c c = 1 from kC_at (k := 0) (by decide)]; decide))).trans yd11300)))), ((g11328 24 (by decide)).trans ((g11321 24 (by decide)).trans ((fld_eq (h11313.2 c (by rw [show kC c c = 1 from kC_at (k := 0) (by decide)]; decide))).trans ((fld_eq (h11303.2 c (by rw [show kC c c = 1 from kC_at (k := 0) (by decide)]; decide))).trans yd11301))))⟩, i1, i2, i3, i4, by omega, by omega, by omega, by rw [show P11331.a - p1 = (P1.a - p1) + 1 by omega]; show _ = min (nuc t p1 (P1.a - p1) * 10 + (t (p1 + (P1.a - p1)) - 48)) 10000000; rw [show p1 + (P1.a - p1) = P1.a by omega]; omega, by rw [i9, show P11331.a = P1.a + 1 by omega]; exact sc_go (by omega) kg11311⟩ (by omega)
        · have c179 : v1 > 9999999 := by have hh := mt (nI_leI (a := v1) (b := 9999999) (by omega) (by omega)).mpr q179; omega
          refine m_aload_n F rfl e_X10_token_182 ?_
          refine r_getC F e_X10_token_183 fl_X10_120 h11304 ((fld_eq (h11303.2 c (by rw [show kC c c = 1 from kC_at (k := 0) (by decide)]; decide))).trans yd11299) ?_
          refine m_goto F e_X10_token_186 ?_
          refine r_put F (g' := (⟨T, Z, u, h, P1, L⟩ : RG)) e_X10_token_204 fp_X10_120 h11304 (by decide) ⟨_, rfl⟩ (fun _ _ _ _ q => q) (fun _ _ _ q => q) rfl rfl (by decide) (fun σ11333 h11334 g11335 g11336 f11337 => ?_)
          have ga11338 := ga11305.of (g11335 _ (by omega))
          refine m_aload_n F rfl e_X10_token_207 ?_
          refine m_dup F rfl e_X10_token_208 ?_
          refine r_get F e_X10_token_209 fl_X10_97 h11334 rfl (fun v hv f11339 => ?_)
          obtain rfl : v = .int (nI (P1.a)) := hv
          refine m_iconst F (v := 1) (by decide) e_X10_token_212 ?_
          refine m_iadd F e_X10_token_213 ?_
          refine Wm.topE (w := nI (P1.a + 1)) (nI_add P1.a 1) ?_
          refine r_put F (g' := (⟨T, Z, u, h, (mkP P1.n0 P1.n2 P1.n5 P1.n7 P1.m0 P1.m5 P1.w2 P1.w7 P1.kk (P1.a + 1) P1.f P1.p), L⟩ : RG)) e_X10_token_214 fp_X10_97 h11334 (by decide) rfl ctl_a CR.setA rfl rfl (by decide) (fun σ11340 h11341 g11342 g11343 f11344 => ?_)
          have ga11345 := ga11338.of (g11342 _ (by omega))
          obtain ⟨P11346, eP11346⟩ : ∃ P9, P9 = (mkP P1.n0 P1.n2 P1.n5 P1.n7 P1.m0 P1.m5 P1.w2 P1.w7 P1.kk (P1.a + 1) P1.f P1.p) := ⟨_, rfl⟩
          rw [← eP11346] at h11341
          have fP11346 : P11346.n0 = P1.n0 ∧ P11346.n2 = P1.n2 ∧ P11346.n5 = P1.n5 ∧ P11346.n7 = P1.n7 ∧ P11346.m0 = P1.m0 ∧ P11346.m5 = P1.m5 ∧ P11346.w2 = P1.w2 ∧ P11346.w7 = P1.w7 ∧ P11346.kk = P1.kk ∧ P11346.a = P1.a + 1 ∧ P11346.f = P1.f ∧ P11346.p = P1.p := by rw [eP11346]; exact ⟨rfl, rfl, rfl, rfl, rfl, rfl, rfl, rfl, rfl, rfl, rfl, rfl⟩
          refine m_goto F e_X10_token_217 ?_
          have oP11347 : OKP P11346 := by unfold OKP; omega
          have hd9 := isD_b kg11311
          exact ih p1 v1 P11346 _ h11341 oP11347 (by unfold RA; omega) ⟨⟨((g11343 17 (by decide)).trans ((g11336 17 (by decide)).trans ((fld_eq (h11303.2 c (by rw [show kC c c = 1 from kC_at (k := 0) (by decide)]; decide))).trans yd11295))), ((g11343 18 (by decide)).trans ((g11336 18 (by decide)).trans ((fld_eq (h11303.2 c (by rw [show kC c c = 1 from kC_at (k := 0) (by decide)]; decide))).trans yd11296))), ((g11343 20 (by decide)).trans ((g11336 20 (by decide)).trans ((fld_eq (h11303.2 c (by rw [show kC c c = 1 from kC_at (k := 0) (by decide)]; decide))).trans yd11297))), ((g11343 21 (by decide)).trans ((g11336 21 (by decide)).trans ((fld_eq (h11303.2 c (by rw [show kC c c = 1 from kC_at (k := 0) (by decide)]; decide))).trans yd11298))), ((g11343 22 (by decide)).trans f11337), ((g11343 23 (by decide)).trans ((g11336 23 (by decide)).trans ((fld_eq (h11303.2 c (by rw [show kC c c = 1 from kC_at (k := 0) (by decide)]; decide))).trans yd11300))), ((g11343 24 (by decide)).trans ((g11336 24 (by decide)).trans ((fld_eq (h11303.2 c (by rw [show kC c c = 1 from kC_at (k := 0) (by decide)]; decide))).trans yd11301)))⟩, i1, i2, i3, i4, by omega, by omega, by omega, by rw [show P11346.a - p1 = (P1.a - p1) + 1 by omega]; show _ = min (nuc t p1 (P1.a - p1) * 10 + (t (p1 + (P1.a - p1)) - 48)) 10000000; rw [show p1 + (P1.a - p1) = P1.a by omega]; omega, by rw [i9, show P11346.a = P1.a + 1 by omega]; exact sc_go (by omega) kg11311⟩ (by omega)
set_option maxRecDepth 20000 in
theorem lq_X10_tokenE_64 {V : VX} {X : MX} {N : Nat} {σ : Mem} {c T Z u h : Nat} {P : NP} {L : Nat → LQ}  {n st : Nat} {so va : Int32} {ln : Nat} {ft fp : Int32} {t : Nat → Nat} (F : Fx V X yX10_token cX10_token 2 none (rmd 5 0 0)) (hQ : Rt V X 0 0 N (fun r τ => ∃ P9 : NP, OKP P9 ∧ RA P P9 ∧ P9.a = (tok t n P.a).2.2.2 ∧ (∃ so2 va2, MT so2 va2 (tok t n P.a).2.1 (tok t n P.a).2.2.1 ∧ YD τ c n (tok t n P.a).1 so2 va2 ln ft fp) ∧ HS V c (⟨T, Z, u, h, P9, L⟩ : RG) [0, 2, 3, 4, 5, 6, 7, 8, 9, 10, 11, 12, 13, 14, 15, 16, 17, 18, 19, 20, 21, 22, 23] σ τ ∧ r = none)) (hob : OKB L) (hP : OKP P) (hp0 : YD σ c n st so va ln ft fp) (hp1 : BR σ c n t) (hp2 : n ≤ 700) (hp3 : P.a ≤ n)  : ∀ (fuel : Nat) (p1 : Nat) (P1 : NP) (τ : Mem), HS V c (⟨T, Z, u, h, P1, L⟩ : RG) [0, 2, 3, 4, 5, 6, 7, 8, 9, 10, 11, 12, 13, 14, 15, 16, 17, 18, 19, 20, 21, 22, 23] σ τ → OKP P1 → RA P P1 → YD τ c n p1 so va ln ft fp ∧ p1 = sc isB t n P.a ∧ p1 < n ∧ isL (t p1) = true ∧ p1 ≤ P1.a ∧ P1.a ≤ n ∧ sc isL t n p1 = sc isL t n P1.a → 700 - P1.a < fuel → Wm V X 2 N τ 0 0 64 [(0, .ref c)] [] := by
  intro fuel
  induction fuel with
  | zero => intros; rename_i hm; exact absurd hm (Nat.not_lt_zero _)
  | succ fuel ih =>
    intro p1 P1 τ h1 hP1 hR1 hi hm
    have hPP := hP
    unfold OKP at hPP
    have hPP1 := hP1
    unfold OKP at hPP1
    unfold RA at hR1
    have hB1 := hp1.of (h1.2 (c + 1) (by rw [kC_at (k := 1) (by decide)]; decide))
    have hn7 := hp2
    obtain ⟨hY1, i1, i2, i3, i4, i5, i6⟩ := hi
    have hyd11348 := hY1
    obtain ⟨yd11348, yd11349, yd11350, yd11351, yd11352, yd11353, yd11354⟩ := hyd11348
    refine m_aload_n F rfl e_X10_token_64 ?_
    refine r_callV F e_X10_token_65 (q_X10_hereE (x_l X) V c T Z u h P1 L _ _  n t h1.1 (hob) hP1  (yd11349) hB1 hn7) cb_X10_here ml_X10_103 im_X10_here se_X10_here h1 rfl rfl (rest := []) rfl (Nat.le_of_ble_eq_true rfl) ⟨Nat.le_of_ble_eq_true rfl, Nat.le_of_ble_eq_true rfl⟩ ⟨Nat.le_of_ble_eq_true rfl, Nat.le_of_ble_eq_true rfl⟩ (fun r σ11355 hp => ?_)
    obtain ⟨h11356, hp⟩ := hp
    have h11357 := HS.trans h1 h11356 (by decide)
    have ga11358 := hB1.of (h11356.2 (c + 1) (by rw [kC_at (k := 1) (by decide)]; decide))
    rcases hp with ⟨he11359, rfl⟩ | ⟨he11359, hb11360, rfl⟩
    · refine m_callS F e_X10_token_68 (q_X10_isSmall2 (x_l X) V _ _ (-1)) cb_X10_isSmall ml_X10_113 sm_X10_isSmall rfl (rest := []) rfl (Nat.le_of_ble_eq_true rfl) ⟨Nat.le_of_ble_eq_true rfl, Nat.le_of_ble_eq_true rfl⟩ ⟨Nat.le_of_ble_eq_true rfl, Nat.le_of_ble_eq_true rfl⟩ (k' := 0) (z' := 0) (N' := N) rfl rfl rfl (fun r σ11361 hp => ?_)
      obtain ⟨rfl, hp⟩ := hp
      rcases hp with ⟨g11362, rfl⟩ | ⟨g11362, rfl⟩
      · refine m_if_eq F e_X10_token_71 (fun _ => ?_) (fun q => absurd (by decide) q)
        refine m_aload_n F rfl e_X10_token_87 ?_
        have eL : sc isL t n p1 = P1.a := i6.trans (sc_stop (Or.inl (by omega)))
        have hL1 : p1 < P1.a := by have h8 := sc_go (p := isL) (t := t) i2 i3; have h9 := sc_in (p := isL) (t := t) (n := n) (a := p1 + 1) (by omega); omega
        have hll : ∀ i, p1 ≤ i → i < P1.a → isL (t i) = true := fun i a1 a2 => scan_all (n - p1) p1 i a1 (by show i < sc isL t n p1; omega)
        have eL : sc isL t n p1 = P1.a := i6.trans (sc_stop (Or.inl (by omega)))
        have hL1 : p1 < P1.a := by have h8 := sc_go (p := isL) (t := t) i2 i3; have h9 := sc_in (p := isL) (t := t) (n := n) (a := p1 + 1) (by omega); omega
        have hll : ∀ i, p1 ≤ i → i < P1.a → isL (t i) = true := fun i a1 a2 => scan_all (n - p1) p1 i a1 (by show i < sc isL t n p1; omega)
        have eL : sc isL t n p1 = P1.a := i6.trans (sc_stop (Or.inl (by omega)))
        have hL1 : p1 < P1.a := by have h8 := sc_go (p := isL) (t := t) i2 i3; have h9 := sc_in (p := isL) (t := t) (n := n) (a := p1 + 1) (by omega); omega
        have hll : ∀ i, p1 ≤ i → i < P1.a → isL (t i) = true := fun i a1 a2 => scan_all (n - p1) p1 i a1 (by show i < sc isL t n p1; omega)
        refine m_aload_n F rfl e_X10_token_88 ?_
        refine r_callV F e_X10_token_89 (q_X10_wordHereE (x_l X) V c T Z u h P1 L _ _  n p1 t h11357.1 (hob) hP1  ((fld_eq (h11356.2 c (by rw [show kC c c = 1 from kC_at (k := 0) (by decide)]; decide))).trans yd11350) ga11358 hn7 hL1 (by omega) hll) cb_X10_wordHere ml_X10_117 im_X10_wordHere se_X10_wordHere h11357 rfl rfl (rest := [.ref c]) rfl (Nat.le_of_ble_eq_true rfl) ⟨Nat.le_of_ble_eq_true rfl, Nat.le_of_ble_eq_true rfl⟩ ⟨Nat.le_of_ble_eq_true rfl, Nat.le_of_ble_eq_true rfl⟩ (fun r σ11363 hp => ?_)
        obtain ⟨h11364, hp⟩ := hp
        have h11365 := HS.trans h11357 h11364 (by decide)
        have ga11366 := ga11358.of (h11364.2 (c + 1) (by rw [kC_at (k := 1) (by decide)]; decide))
        rcases hp with ⟨hk1, hk2, rfl⟩ | ⟨hk1, rfl⟩
        · refine r_put F (g' := (⟨T, Z, u, h, P1, L⟩ : RG)) e_X10_token_92 fp_X10_120 h11365 (by decide) ⟨_, rfl⟩ (fun _ _ _ _ q => q) (fun _ _ _ q => q) rfl rfl (by decide) (fun σ11367 h11368 g11369 g11370 f11371 => ?_)
          have ga11372 := ga11366.of (g11369 _ (by omega))
          refine m_aload_n F rfl e_X10_token_95 ?_
          refine m_aload_n F rfl e_X10_token_96 ?_
          refine r_getC F e_X10_token_97 fl_X10_120 h11368 (f11371) ?_
          refine m_iconst F (v := (-1)) (by decide) e_X10_token_100 ?_
          refine m_icmp_eq F e_X10_token_101 (fun q101 => ?_) (fun q101 => ?_)
          · exact absurd q101 (nI_nm1 (by omega))
          · refine m_iconst F (v := 0) (by decide) e_X10_token_104 ?_
            refine m_goto F e_X10_token_105 ?_
            refine r_put F (g' := (⟨T, Z, u, h, P1, L⟩ : RG)) e_X10_token_127 fp_X10_110 h11368 (by decide) ⟨_, rfl⟩ (fun _ _ _ _ q => q) (fun _ _ _ q => q) rfl rfl (by decide) (fun σ11373 h11374 g11375 g11376 f11377 => ?_)
            have ga11378 := ga11372.of (g11375 _ (by omega))
            refine m_aload_n F rfl e_X10_token_130 ?_
            refine r_getC F e_X10_token_131 fl_X10_110 h11374 (f11377) ?_
            refine m_iconst F (v := 1) (by decide) e_X10_token_134 ?_
            refine m_icmp_ne F e_X10_token_135 (fun _ => ?_) (fun q => absurd q (by decide))
            have e9 := i1.symm
            have et : tok t n P.a = (p1, 1, kix (nmc t p1 P1.a 6), P1.a) := by unfold tok; simp only [e9, eL]; rw [if_neg (by omega), if_pos i3, if_pos hk1, if_pos hk2]
            exact m_vret F hQ e_X10_token_245 (⟨P1, hP1, (by unfold RA; omega), (by have e8 : (tok t n P.a).2.2.2 = P1.a := (by rw [et]); omega), ⟨0, (nI (kix (nmc t p1 P1.a 6))), by rw [et]; exact Or.inr (Or.inl ⟨rfl, rfl, rfl, hk2⟩), by rw [et]; exact ⟨((g11376 17 (by decide)).trans ((g11370 17 (by decide)).trans ((fld_eq (h11364.2 c (by rw [show kC c c = 1 from kC_at (k := 0) (by decide)]; decide))).trans ((fld_eq (h11356.2 c (by rw [show kC c c = 1 from kC_at (k := 0) (by decide)]; decide))).trans yd11348)))), ((g11376 18 (by decide)).trans ((g11370 18 (by decide)).trans ((fld_eq (h11364.2 c (by rw [show kC c c = 1 from kC_at (k := 0) (by decide)]; decide))).trans ((fld_eq (h11356.2 c (by rw [show kC c c = 1 from kC_at (k := 0) (by decide)]; decide))).trans yd11349)))), ((g11376 20 (by decide)).trans ((g11370 20 (by decide)).trans ((fld_eq (h11364.2 c (by rw [show kC c c = 1 from kC_at (k := 0) (by decide)]; decide))).trans ((fld_eq (h11356.2 c (by rw [show kC c c = 1 from kC_at (k := 0) (by decide)]; decide))).trans yd11350)))), (f11377), ((g11376 22 (by decide)).trans f11371), ((g11376 23 (by decide)).trans ((g11370 23 (by decide)).trans ((fld_eq (h11364.2 c (by rw [show kC c c = 1 from kC_at (k := 0) (by decide)]; decide))).trans ((fld_eq (h11356.2 c (by rw [show kC c c = 1 from kC_at (k := 0) (by decide)]; decide))).trans yd11353)))), ((g11376 24 (by decide)).trans ((g11370 24 (by decide)).trans ((fld_eq (h11364.2 c (by rw [show kC c c = 1 from kC_at (k := 0) (by decide)]; decide))).trans ((fld_eq (h11356.2 c (by rw [show kC c c = 1 from kC_at (k := 0) (by decide)]; decide))).trans yd11354))))⟩⟩, h11374, rfl⟩)
        · refine r_put F (g' := (⟨T, Z, u, h, P1, L⟩ : RG)) e_X10_token_92 fp_X10_120 h11365 (by decide) ⟨_, rfl⟩ (fun _ _ _ _ q => q) (fun _ _ _ q => q) rfl rfl (by decide) (fun σ11379 h11380 g11381 g11382 f11383 => ?_)
          have ga11384 := ga11366.of (g11381 _ (by omega))
          refine m_aload_n F rfl e_X10_token_95 ?_
          refine m_aload_n F rfl e_X10_token_96 ?_
          refine r_getC F e_X10_token_97 fl_X10_120 h11380 (f11383) ?_
          refine m_iconst F (v := (-1)) (by decide) e_X10_token_100 ?_
          refine m_icmp_eq F e_X10_token_101 (fun _ => ?_) (fun q => absurd (by decide) q)
          refine m_aload_n F rfl e_X10_token_108 ?_
          refine r_get F e_X10_token_109 fl_X10_97 h11380 rfl (fun v hv f11385 => ?_)
          obtain rfl : v = .int (nI (P1.a)) := hv
          refine m_aload_n F rfl e_X10_token_112 ?_
          refine r_getC F e_X10_token_113 fl_X10_107 h11380 ((g11382 20 (by decide)).trans ((fld_eq (h11364.2 c (by rw [show kC c c = 1 from kC_at (k := 0) (by decide)]; decide))).trans ((fld_eq (h11356.2 c (by rw [show kC c c = 1 from kC_at (k := 0) (by decide)]; decide))).trans yd11350))) ?_
          refine m_isub F e_X10_token_116 ?_
          refine Wm.topE (w := nI (P1.a - p1)) (pk_sub (a := P1.a) (b := p1) (by omega)) ?_
          refine m_bipush F (v := 6) (by decide) e_X10_token_117 ?_
          refine m_icmp_le F e_X10_token_119 (fun q119 => ?_) (fun q119 => ?_)
          · have c119 : (P1.a - p1) ≤ 6 := (nI_leI (a := (P1.a - p1)) (b := 6) (by omega) (by omega)).mp q119
            refine m_iconst F (v := 1) (by decide) e_X10_token_126 ?_
            refine r_put F (g' := (⟨T, Z, u, h, P1, L⟩ : RG)) e_X10_token_127 fp_X10_110 h11380 (by decide) ⟨_, rfl⟩ (fun _ _ _ _ q => q) (fun _ _ _ q => q) rfl rfl (by decide) (fun σ11386 h11387 g11388 g11389 f11390 => ?_)
            have ga11391 := ga11384.of (g11388 _ (by omega))
            refine m_aload_n F rfl e_X10_token_130 ?_
            refine r_getC F e_X10_token_131 fl_X10_110 h11387 (f11390) ?_
            refine m_iconst F (v := 1) (by decide) e_X10_token_134 ?_
            refine m_icmp_ne F e_X10_token_135 (fun q => absurd (by decide) q) (fun _ => ?_)
            refine m_aload_n F rfl e_X10_token_138 ?_
            refine r_callV F e_X10_token_139 (q_X10_nameHereE (x_l X) V c T Z u h P1 L _ _  n p1 1 (-1) ln ft fp t h11387.1 (hob) hP1  ⟨((g11389 17 (by decide)).trans ((g11382 17 (by decide)).trans ((fld_eq (h11364.2 c (by rw [show kC c c = 1 from kC_at (k := 0) (by decide)]; decide))).trans ((fld_eq (h11356.2 c (by rw [show kC c c = 1 from kC_at (k := 0) (by decide)]; decide))).trans yd11348)))), ((g11389 18 (by decide)).trans ((g11382 18 (by decide)).trans ((fld_eq (h11364.2 c (by rw [show kC c c = 1 from kC_at (k := 0) (by decide)]; decide))).trans ((fld_eq (h11356.2 c (by rw [show kC c c = 1 from kC_at (k := 0) (by decide)]; decide))).trans yd11349)))), ((g11389 20 (by decide)).trans ((g11382 20 (by decide)).trans ((fld_eq (h11364.2 c (by rw [show kC c c = 1 from kC_at (k := 0) (by decide)]; decide))).trans ((fld_eq (h11356.2 c (by rw [show kC c c = 1 from kC_at (k := 0) (by decide)]; decide))).trans yd11350)))), (f11390), ((g11389 22 (by decide)).trans f11383), ((g11389 23 (by decide)).trans ((g11382 23 (by decide)).trans ((fld_eq (h11364.2 c (by rw [show kC c c = 1 from kC_at (k := 0) (by decide)]; decide))).trans ((fld_eq (h11356.2 c (by rw [show kC c c = 1 from kC_at (k := 0) (by decide)]; decide))).trans yd11353)))), ((g11389 24 (by decide)).trans ((g11382 24 (by decide)).trans ((fld_eq (h11364.2 c (by rw [show kC c c = 1 from kC_at (k := 0) (by decide)]; decide))).trans ((fld_eq (h11356.2 c (by rw [show kC c c = 1 from kC_at (k := 0) (by decide)]; decide))).trans yd11354))))⟩ ga11391 hn7 (by omega) (by omega) (by omega) hll) cb_X10_nameHere ml_X10_123 im_X10_nameHere se_X10_nameHere h11387 rfl rfl (rest := []) rfl (Nat.le_of_ble_eq_true rfl) ⟨Nat.le_of_ble_eq_true rfl, Nat.le_of_ble_eq_true rfl⟩ ⟨Nat.le_of_ble_eq_true rfl, Nat.le_of_ble_eq_true rfl⟩ (fun r σ11392 hp => ?_)
            obtain ⟨h11393, hp⟩ := hp
            have h11394 := HS.trans h11387 h11393 (by decide)
            have ga11395 := ga11391.of (h11393.2 (c + 1) (by rw [kC_at (k := 1) (by decide)]; decide))
            obtain ⟨hp, rfl⟩ := hp
            have hyd11396 := hp
            obtain ⟨yd11396, yd11397, yd11398, yd11399, yd11400, yd11401, yd11402⟩ := hyd11396
            refine m_goto F e_X10_token_142 ?_
            have e9 := i1.symm
            have et : tok t n P.a = (p1, 2, nmc t p1 P1.a 6, P1.a) := by unfold tok; simp only [e9, eL]; rw [if_neg (by omega), if_pos i3, if_pos (by omega), if_neg (fun q => hk1 ⟨by omega, q⟩)]
            exact m_vret F hQ e_X10_token_245 (⟨P1, hP1, (by unfold RA; omega), (by have e8 : (tok t n P.a).2.2.2 = P1.a := (by rw [et]); omega), ⟨1, (nI (nmc t p1 P1.a 6)), by rw [et]; exact Or.inr (Or.inr (Or.inl ⟨rfl, rfl, rfl, nmc_b (fun j hj => by have h2 := isL_b (hll (p1 + j) (by omega) hj); omega) 6⟩)), by rw [et]; exact ⟨(yd11396), (yd11397), (yd11398), (yd11399), (yd11400), (yd11401), (yd11402)⟩⟩, h11394, rfl⟩)
          · have c119 : (P1.a - p1) > 6 := by have hh := mt (nI_leI (a := (P1.a - p1)) (b := 6) (by omega) (by omega)).mpr q119; omega
            refine m_iconst F (v := 5) (by decide) e_X10_token_122 ?_
            refine m_goto F e_X10_token_123 ?_
            refine r_put F (g' := (⟨T, Z, u, h, P1, L⟩ : RG)) e_X10_token_127 fp_X10_110 h11380 (by decide) ⟨_, rfl⟩ (fun _ _ _ _ q => q) (fun _ _ _ q => q) rfl rfl (by decide) (fun σ11403 h11404 g11405 g11406 f11407 => ?_)
            have ga11408 := ga11384.of (g11405 _ (by omega))
            refine m_aload_n F rfl e_X10_token_130 ?_
            refine r_getC F e_X10_token_131 fl_X10_110 h11404 (f11407) ?_
            refine m_iconst F (v := 1) (by decide) e_X10_token_134 ?_
            refine m_icmp_ne F e_X10_token_135 (fun _ => ?_) (fun q => absurd q (by decide))
            have e9 := i1.symm
            have et : tok t n P.a = (p1, 5, 0, P1.a) := by unfold tok; simp only [e9, eL]; rw [if_neg (by omega), if_pos i3, if_neg (by omega)]
            exact m_vret F hQ e_X10_token_245 (⟨P1, hP1, (by unfold RA; omega), (by have e8 : (tok t n P.a).2.2.2 = P1.a := (by rw [et]); omega), ⟨5, (-1), by rw [et]; exact Or.inr (Or.inr (Or.inr (Or.inr (Or.inr ⟨rfl, rfl⟩)))), by rw [et]; exact ⟨((g11406 17 (by decide)).trans ((g11382 17 (by decide)).trans ((fld_eq (h11364.2 c (by rw [show kC c c = 1 from kC_at (k := 0) (by decide)]; decide))).trans ((fld_eq (h11356.2 c (by rw [show kC c c = 1 from kC_at (k := 0) (by decide)]; decide))).trans yd11348)))), ((g11406 18 (by decide)).trans ((g11382 18 (by decide)).trans ((fld_eq (h11364.2 c (by rw [show kC c c = 1 from kC_at (k := 0) (by decide)]; decide))).trans ((fld_eq (h11356.2 c (by rw [show kC c c = 1 from kC_at (k := 0) (by decide)]; decide))).trans yd11349)))), ((g11406 20 (by decide)).trans ((g11382 20 (by decide)).trans ((fld_eq (h11364.2 c (by rw [show kC c c = 1 from kC_at (k := 0) (by decide)]; decide))).trans ((fld_eq (h11356.2 c (by rw [show kC c c = 1 from kC_at (k := 0) (by decide)]; decide))).trans yd11350)))), (f11407), ((g11406 22 (by decide)).trans f11383), ((g11406 23 (by decide)).trans ((g11382 23 (by decide)).trans ((fld_eq (h11364.2 c (by rw [show kC c c = 1 from kC_at (k := 0) (by decide)]; decide))).trans ((fld_eq (h11356.2 c (by rw [show kC c c = 1 from kC_at (k := 0) (by decide)]; decide))).trans yd11353)))), ((g11406 24 (by decide)).trans ((g11382 24 (by decide)).trans ((fld_eq (h11364.2 c (by rw [show kC c c = 1 from kC_at (k := 0) (by decide)]; decide))).trans ((fld_eq (h11356.2 c (by rw [show kC c c = 1 from kC_at (k := 0) (by decide)]; decide))).trans yd11354))))⟩⟩, h11404, rfl⟩)
      · exact absurd g11362 (by decide)
    · refine m_callS F e_X10_token_68 (q_X10_isSmall2 (x_l X) V _ _ (nI (t P1.a))) cb_X10_isSmall ml_X10_113 sm_X10_isSmall rfl (rest := []) rfl (Nat.le_of_ble_eq_true rfl) ⟨Nat.le_of_ble_eq_true rfl, Nat.le_of_ble_eq_true rfl⟩ ⟨Nat.le_of_ble_eq_true rfl, Nat.le_of_ble_eq_true rfl⟩ (k' := 0) (z' := 0) (N' := N) rfl rfl rfl (fun r σ11409 hp => ?_)
      obtain ⟨rfl, hp⟩ := hp
      rcases hp with ⟨g11410, rfl⟩ | ⟨g11410, rfl⟩
      · have kg11410 : isL (t P1.a) = false := isL_f (by omega) g11410
        refine m_if_eq F e_X10_token_71 (fun _ => ?_) (fun q => absurd (by decide) q)
        refine m_aload_n F rfl e_X10_token_87 ?_
        have eL : sc isL t n p1 = P1.a := i6.trans (sc_stop (Or.inr kg11410))
        have hL1 : p1 < P1.a := by have h8 := sc_go (p := isL) (t := t) i2 i3; have h9 := sc_in (p := isL) (t := t) (n := n) (a := p1 + 1) (by omega); omega
        have hll : ∀ i, p1 ≤ i → i < P1.a → isL (t i) = true := fun i a1 a2 => scan_all (n - p1) p1 i a1 (by show i < sc isL t n p1; omega)
        have eL : sc isL t n p1 = P1.a := i6.trans (sc_stop (Or.inr kg11410))
        have hL1 : p1 < P1.a := by have h8 := sc_go (p := isL) (t := t) i2 i3; have h9 := sc_in (p := isL) (t := t) (n := n) (a := p1 + 1) (by omega); omega
        have hll : ∀ i, p1 ≤ i → i < P1.a → isL (t i) = true := fun i a1 a2 => scan_all (n - p1) p1 i a1 (by show i < sc isL t n p1; omega)
        have eL : sc isL t n p1 = P1.a := i6.trans (sc_stop (Or.inr kg11410))
        have hL1 : p1 < P1.a := by have h8 := sc_go (p := isL) (t := t) i2 i3; have h9 := sc_in (p := isL) (t := t) (n := n) (a := p1 + 1) (by omega); omega
        have hll : ∀ i, p1 ≤ i → i < P1.a → isL (t i) = true := fun i a1 a2 => scan_all (n - p1) p1 i a1 (by show i < sc isL t n p1; omega)
        refine m_aload_n F rfl e_X10_token_88 ?_
        refine r_callV F e_X10_token_89 (q_X10_wordHereE (x_l X) V c T Z u h P1 L _ _  n p1 t h11357.1 (hob) hP1  ((fld_eq (h11356.2 c (by rw [show kC c c = 1 from kC_at (k := 0) (by decide)]; decide))).trans yd11350) ga11358 hn7 hL1 (by omega) hll) cb_X10_wordHere ml_X10_117 im_X10_wordHere se_X10_wordHere h11357 rfl rfl (rest := [.ref c]) rfl (Nat.le_of_ble_eq_true rfl) ⟨Nat.le_of_ble_eq_true rfl, Nat.le_of_ble_eq_true rfl⟩ ⟨Nat.le_of_ble_eq_true rfl, Nat.le_of_ble_eq_true rfl⟩ (fun r σ11411 hp => ?_)
        obtain ⟨h11412, hp⟩ := hp
        have h11413 := HS.trans h11357 h11412 (by decide)
        have ga11414 := ga11358.of (h11412.2 (c + 1) (by rw [kC_at (k := 1) (by decide)]; decide))
        rcases hp with ⟨hk1, hk2, rfl⟩ | ⟨hk1, rfl⟩
        · refine r_put F (g' := (⟨T, Z, u, h, P1, L⟩ : RG)) e_X10_token_92 fp_X10_120 h11413 (by decide) ⟨_, rfl⟩ (fun _ _ _ _ q => q) (fun _ _ _ q => q) rfl rfl (by decide) (fun σ11415 h11416 g11417 g11418 f11419 => ?_)
          have ga11420 := ga11414.of (g11417 _ (by omega))
          refine m_aload_n F rfl e_X10_token_95 ?_
          refine m_aload_n F rfl e_X10_token_96 ?_
          refine r_getC F e_X10_token_97 fl_X10_120 h11416 (f11419) ?_
          refine m_iconst F (v := (-1)) (by decide) e_X10_token_100 ?_
          refine m_icmp_eq F e_X10_token_101 (fun q101 => ?_) (fun q101 => ?_)
          · exact absurd q101 (nI_nm1 (by omega))
          · refine m_iconst F (v := 0) (by decide) e_X10_token_104 ?_
            refine m_goto F e_X10_token_105 ?_
            refine r_put F (g' := (⟨T, Z, u, h, P1, L⟩ : RG)) e_X10_token_127 fp_X10_110 h11416 (by decide) ⟨_, rfl⟩ (fun _ _ _ _ q => q) (fun _ _ _ q => q) rfl rfl (by decide) (fun σ11421 h11422 g11423 g11424 f11425 => ?_)
            have ga11426 := ga11420.of (g11423 _ (by omega))
            refine m_aload_n F rfl e_X10_token_130 ?_
            refine r_getC F e_X10_token_131 fl_X10_110 h11422 (f11425) ?_
            refine m_iconst F (v := 1) (by decide) e_X10_token_134 ?_
            refine m_icmp_ne F e_X10_token_135 (fun _ => ?_) (fun q => absurd q (by decide))
            have e9 := i1.symm
            have et : tok t n P.a = (p1, 1, kix (nmc t p1 P1.a 6), P1.a) := by unfold tok; simp only [e9, eL]; rw [if_neg (by omega), if_pos i3, if_pos hk1, if_pos hk2]
            exact m_vret F hQ e_X10_token_245 (⟨P1, hP1, (by unfold RA; omega), (by have e8 : (tok t n P.a).2.2.2 = P1.a := (by rw [et]); omega), ⟨0, (nI (kix (nmc t p1 P1.a 6))), by rw [et]; exact Or.inr (Or.inl ⟨rfl, rfl, rfl, hk2⟩), by rw [et]; exact ⟨((g11424 17 (by decide)).trans ((g11418 17 (by decide)).trans ((fld_eq (h11412.2 c (by rw [show kC c c = 1 from kC_at (k := 0) (by decide)]; decide))).trans ((fld_eq (h11356.2 c (by rw [show kC c c = 1 from kC_at (k := 0) (by decide)]; decide))).trans yd11348)))), ((g11424 18 (by decide)).trans ((g11418 18 (by decide)).trans ((fld_eq (h11412.2 c (by rw [show kC c c = 1 from kC_at (k := 0) (by decide)]; decide))).trans ((fld_eq (h11356.2 c (by rw [show kC c c = 1 from kC_at (k := 0) (by decide)]; decide))).trans yd11349)))), ((g11424 20 (by decide)).trans ((g11418 20 (by decide)).trans ((fld_eq (h11412.2 c (by rw [show kC c c = 1 from kC_at (k := 0) (by decide)]; decide))).trans ((fld_eq (h11356.2 c (by rw [show kC c c = 1 from kC_at (k := 0) (by decide)]; decide))).trans yd11350)))), (f11425), ((g11424 22 (by decide)).trans f11419), ((g11424 23 (by decide)).trans ((g11418 23 (by decide)).trans ((fld_eq (h11412.2 c (by rw [show kC c c = 1 from kC_at (k := 0) (by decide)]; decide))).trans ((fld_eq (h11356.2 c (by rw [show kC c c = 1 from kC_at (k := 0) (by decide)]; decide))).trans yd11353)))), ((g11424 24 (by decide)).trans ((g11418 24 (by decide)).trans ((fld_eq (h11412.2 c (by rw [show kC c c = 1 from kC_at (k := 0) (by decide)]; decide))).trans ((fld_eq (h11356.2 c (by rw [show kC c c = 1 from kC_at (k := 0) (by decide)]; decide))).trans yd11354))))⟩⟩, h11422, rfl⟩)
        · refine r_put F (g' := (⟨T, Z, u, h, P1, L⟩ : RG)) e_X10_token_92 fp_X10_120 h11413 (by decide) ⟨_, rfl⟩ (fun _ _ _ _ q => q) (fun _ _ _ q => q) rfl rfl (by decide) (fun σ11427 h11428 g11429 g11430 f11431 => ?_)
          have ga11432 := ga11414.of (g11429 _ (by omega))
          refine m_aload_n F rfl e_X10_token_95 ?_
          refine m_aload_n F rfl e_X10_token_96 ?_
          refine r_getC F e_X10_token_97 fl_X10_120 h11428 (f11431) ?_
          refine m_iconst F (v := (-1)) (by decide) e_X10_token_100 ?_
          refine m_icmp_eq F e_X10_token_101 (fun _ => ?_) (fun q => absurd (by decide) q)
          refine m_aload_n F rfl e_X10_token_108 ?_
          refine r_get F e_X10_token_109 fl_X10_97 h11428 rfl (fun v hv f11433 => ?_)
          obtain rfl : v = .int (nI (P1.a)) := hv
          refine m_aload_n F rfl e_X10_token_112 ?_
          refine r_getC F e_X10_token_113 fl_X10_107 h11428 ((g11430 20 (by decide)).trans ((fld_eq (h11412.2 c (by rw [show kC c c = 1 from kC_at (k := 0) (by decide)]; decide))).trans ((fld_eq (h11356.2 c (by rw [show kC c c = 1 from kC_at (k := 0) (by decide)]; decide))).trans yd11350))) ?_
          refine m_isub F e_X10_token_116 ?_
          refine Wm.topE (w := nI (P1.a - p1)) (pk_sub (a := P1.a) (b := p1) (by omega)) ?_
          refine m_bipush F (v := 6) (by decide) e_X10_token_117 ?_
          refine m_icmp_le F e_X10_token_119 (fun q119 => ?_) (fun q119 => ?_)
          · have c119 : (P1.a - p1) ≤ 6 := (nI_leI (a := (P1.a - p1)) (b := 6) (by omega) (by omega)).mp q119
            refine m_iconst F (v := 1) (by decide) e_X10_token_126 ?_
            refine r_put F (g' := (⟨T, Z, u, h, P1, L⟩ : RG)) e_X10_token_127 fp_X10_110 h11428 (by decide) ⟨_, rfl⟩ (fun _ _ _ _ q => q) (fun _ _ _ q => q) rfl rfl (by decide) (fun σ11434 h11435 g11436 g11437 f11438 => ?_)
            have ga11439 := ga11432.of (g11436 _ (by omega))
            refine m_aload_n F rfl e_X10_token_130 ?_
            refine r_getC F e_X10_token_131 fl_X10_110 h11435 (f11438) ?_
            refine m_iconst F (v := 1) (by decide) e_X10_token_134 ?_
            refine m_icmp_ne F e_X10_token_135 (fun q => absurd (by decide) q) (fun _ => ?_)
            refine m_aload_n F rfl e_X10_token_138 ?_
            refine r_callV F e_X10_token_139 (q_X10_nameHereE (x_l X) V c T Z u h P1 L _ _  n p1 1 (-1) ln ft fp t h11435.1 (hob) hP1  ⟨((g11437 17 (by decide)).trans ((g11430 17 (by decide)).trans ((fld_eq (h11412.2 c (by rw [show kC c c = 1 from kC_at (k := 0) (by decide)]; decide))).trans ((fld_eq (h11356.2 c (by rw [show kC c c = 1 from kC_at (k := 0) (by decide)]; decide))).trans yd11348)))), ((g11437 18 (by decide)).trans ((g11430 18 (by decide)).trans ((fld_eq (h11412.2 c (by rw [show kC c c = 1 from kC_at (k := 0) (by decide)]; decide))).trans ((fld_eq (h11356.2 c (by rw [show kC c c = 1 from kC_at (k := 0) (by decide)]; decide))).trans yd11349)))), ((g11437 20 (by decide)).trans ((g11430 20 (by decide)).trans ((fld_eq (h11412.2 c (by rw [show kC c c = 1 from kC_at (k := 0) (by decide)]; decide))).trans ((fld_eq (h11356.2 c (by rw [show kC c c = 1 from kC_at (k := 0) (by decide)]; decide))).trans yd11350)))), (f11438), ((g11437 22 (by decide)).trans f11431), ((g11437 23 (by decide)).trans ((g11430 23 (by decide)).trans ((fld_eq (h11412.2 c (by rw [show kC c c = 1 from kC_at (k := 0) (by decide)]; decide))).trans ((fld_eq (h11356.2 c (by rw [show kC c c = 1 from kC_at (k := 0) (by decide)]; decide))).trans yd11353)))), ((g11437 24 (by decide)).trans ((g11430 24 (by decide)).trans ((fld_eq (h11412.2 c (by rw [show kC c c = 1 from kC_at (k := 0) (by decide)]; decide))).trans ((fld_eq (h11356.2 c (by rw [show kC c c = 1 from kC_at (k := 0) (by decide)]; decide))).trans yd11354))))⟩ ga11439 hn7 (by omega) (by omega) (by omega) hll) cb_X10_nameHere ml_X10_123 im_X10_nameHere se_X10_nameHere h11435 rfl rfl (rest := []) rfl (Nat.le_of_ble_eq_true rfl) ⟨Nat.le_of_ble_eq_true rfl, Nat.le_of_ble_eq_true rfl⟩ ⟨Nat.le_of_ble_eq_true rfl, Nat.le_of_ble_eq_true rfl⟩ (fun r σ11440 hp => ?_)
            obtain ⟨h11441, hp⟩ := hp
            have h11442 := HS.trans h11435 h11441 (by decide)
            have ga11443 := ga11439.of (h11441.2 (c + 1) (by rw [kC_at (k := 1) (by decide)]; decide))
            obtain ⟨hp, rfl⟩ := hp
            have hyd11444 := hp
            obtain ⟨yd11444, yd11445, yd11446, yd11447, yd11448, yd11449, yd11450⟩ := hyd11444
            refine m_goto F e_X10_token_142 ?_
            have e9 := i1.symm
            have et : tok t n P.a = (p1, 2, nmc t p1 P1.a 6, P1.a) := by unfold tok; simp only [e9, eL]; rw [if_neg (by omega), if_pos i3, if_pos (by omega), if_neg (fun q => hk1 ⟨by omega, q⟩)]
            exact m_vret F hQ e_X10_token_245 (⟨P1, hP1, (by unfold RA; omega), (by have e8 : (tok t n P.a).2.2.2 = P1.a := (by rw [et]); omega), ⟨1, (nI (nmc t p1 P1.a 6)), by rw [et]; exact Or.inr (Or.inr (Or.inl ⟨rfl, rfl, rfl, nmc_b (fun j hj => by have h2 := isL_b (hll (p1 + j) (by omega) hj); omega) 6⟩)), by rw [et]; exact ⟨(yd11444), (yd11445), (yd11446), (yd11447), (yd11448), (yd11449), (yd11450)⟩⟩, h11442, rfl⟩)
          · have c119 : (P1.a - p1) > 6 := by have hh := mt (nI_leI (a := (P1.a - p1)) (b := 6) (by omega) (by omega)).mpr q119; omega
            refine m_iconst F (v := 5) (by decide) e_X10_token_122 ?_
            refine m_goto F e_X10_token_123 ?_
            refine r_put F (g' := (⟨T, Z, u, h, P1, L⟩ : RG)) e_X10_token_127 fp_X10_110 h11428 (by decide) ⟨_, rfl⟩ (fun _ _ _ _ q => q) (fun _ _ _ q => q) rfl rfl (by decide) (fun σ11451 h11452 g11453 g11454 f11455 => ?_)
            have ga11456 := ga11432.of (g11453 _ (by omega))
            refine m_aload_n F rfl e_X10_token_130 ?_
            refine r_getC F e_X10_token_131 fl_X10_110 h11452 (f11455) ?_
            refine m_iconst F (v := 1) (by decide) e_X10_token_134 ?_
            refine m_icmp_ne F e_X10_token_135 (fun _ => ?_) (fun q => absurd q (by decide))
            have e9 := i1.symm
            have et : tok t n P.a = (p1, 5, 0, P1.a) := by unfold tok; simp only [e9, eL]; rw [if_neg (by omega), if_pos i3, if_neg (by omega)]
            exact m_vret F hQ e_X10_token_245 (⟨P1, hP1, (by unfold RA; omega), (by have e8 : (tok t n P.a).2.2.2 = P1.a := (by rw [et]); omega), ⟨5, (-1), by rw [et]; exact Or.inr (Or.inr (Or.inr (Or.inr (Or.inr ⟨rfl, rfl⟩)))), by rw [et]; exact ⟨((g11454 17 (by decide)).trans ((g11430 17 (by decide)).trans ((fld_eq (h11412.2 c (by rw [show kC c c = 1 from kC_at (k := 0) (by decide)]; decide))).trans ((fld_eq (h11356.2 c (by rw [show kC c c = 1 from kC_at (k := 0) (by decide)]; decide))).trans yd11348)))), ((g11454 18 (by decide)).trans ((g11430 18 (by decide)).trans ((fld_eq (h11412.2 c (by rw [show kC c c = 1 from kC_at (k := 0) (by decide)]; decide))).trans ((fld_eq (h11356.2 c (by rw [show kC c c = 1 from kC_at (k := 0) (by decide)]; decide))).trans yd11349)))), ((g11454 20 (by decide)).trans ((g11430 20 (by decide)).trans ((fld_eq (h11412.2 c (by rw [show kC c c = 1 from kC_at (k := 0) (by decide)]; decide))).trans ((fld_eq (h11356.2 c (by rw [show kC c c = 1 from kC_at (k := 0) (by decide)]; decide))).trans yd11350)))), (f11455), ((g11454 22 (by decide)).trans f11431), ((g11454 23 (by decide)).trans ((g11430 23 (by decide)).trans ((fld_eq (h11412.2 c (by rw [show kC c c = 1 from kC_at (k := 0) (by decide)]; decide))).trans ((fld_eq (h11356.2 c (by rw [show kC c c = 1 from kC_at (k := 0) (by decide)]; decide))).trans yd11353)))), ((g11454 24 (by decide)).trans ((g11430 24 (by decide)).trans ((fld_eq (h11412.2 c (by rw [show kC c c = 1 from kC_at (k := 0) (by decide)]; decide))).trans ((fld_eq (h11356.2 c (by rw [show kC c c = 1 from kC_at (k := 0) (by decide)]; decide))).trans yd11354))))⟩⟩, h11452, rfl⟩)
      · have kg11410 : isL (t P1.a) = true := isL_t (by omega) g11410
        refine m_if_eq F e_X10_token_71 (fun q => absurd q (by decide)) (fun _ => ?_)
        refine m_aload_n F rfl e_X10_token_74 ?_
        refine m_dup F rfl e_X10_token_75 ?_
        refine r_get F e_X10_token_76 fl_X10_97 h11357 rfl (fun v hv f11457 => ?_)
        obtain rfl : v = .int (nI (P1.a)) := hv
        refine m_iconst F (v := 1) (by decide) e_X10_token_79 ?_
        refine m_iadd F e_X10_token_80 ?_
        refine Wm.topE (w := nI (P1.a + 1)) (nI_add P1.a 1) ?_
        refine r_put F (g' := (⟨T, Z, u, h, (mkP P1.n0 P1.n2 P1.n5 P1.n7 P1.m0 P1.m5 P1.w2 P1.w7 P1.kk (P1.a + 1) P1.f P1.p), L⟩ : RG)) e_X10_token_81 fp_X10_97 h11357 (by decide) rfl ctl_a CR.setA rfl rfl (by decide) (fun σ11458 h11459 g11460 g11461 f11462 => ?_)
        have ga11463 := ga11358.of (g11460 _ (by omega))
        obtain ⟨P11464, eP11464⟩ : ∃ P9, P9 = (mkP P1.n0 P1.n2 P1.n5 P1.n7 P1.m0 P1.m5 P1.w2 P1.w7 P1.kk (P1.a + 1) P1.f P1.p) := ⟨_, rfl⟩
        rw [← eP11464] at h11459
        have fP11464 : P11464.n0 = P1.n0 ∧ P11464.n2 = P1.n2 ∧ P11464.n5 = P1.n5 ∧ P11464.n7 = P1.n7 ∧ P11464.m0 = P1.m0 ∧ P11464.m5 = P1.m5 ∧ P11464.w2 = P1.w2 ∧ P11464.w7 = P1.w7 ∧ P11464.kk = P1.kk ∧ P11464.a = P1.a + 1 ∧ P11464.f = P1.f ∧ P11464.p = P1.p := by rw [eP11464]; exact ⟨rfl, rfl, rfl, rfl, rfl, rfl, rfl, rfl, rfl, rfl, rfl, rfl⟩
        refine m_goto F e_X10_token_84 ?_
        have oP11465 : OKP P11464 := by unfold OKP; omega
        exact ih p1 P11464 _ h11459 oP11465 (by unfold RA; omega) ⟨⟨((g11461 17 (by decide)).trans ((fld_eq (h11356.2 c (by rw [show kC c c = 1 from kC_at (k := 0) (by decide)]; decide))).trans yd11348)), ((g11461 18 (by decide)).trans ((fld_eq (h11356.2 c (by rw [show kC c c = 1 from kC_at (k := 0) (by decide)]; decide))).trans yd11349)), ((g11461 20 (by decide)).trans ((fld_eq (h11356.2 c (by rw [show kC c c = 1 from kC_at (k := 0) (by decide)]; decide))).trans yd11350)), ((g11461 21 (by decide)).trans ((fld_eq (h11356.2 c (by rw [show kC c c = 1 from kC_at (k := 0) (by decide)]; decide))).trans yd11351)), ((g11461 22 (by decide)).trans ((fld_eq (h11356.2 c (by rw [show kC c c = 1 from kC_at (k := 0) (by decide)]; decide))).trans yd11352)), ((g11461 23 (by decide)).trans ((fld_eq (h11356.2 c (by rw [show kC c c = 1 from kC_at (k := 0) (by decide)]; decide))).trans yd11353)), ((g11461 24 (by decide)).trans ((fld_eq (h11356.2 c (by rw [show kC c c = 1 from kC_at (k := 0) (by decide)]; decide))).trans yd11354))⟩, i1, i2, i3, by omega, by omega, by rw [i6, show P11464.a = P1.a + 1 by omega]; exact sc_go (by omega) kg11410⟩ (by omega)
set_option maxRecDepth 20000 in
theorem lq_X10_tokenE_0 {V : VX} {X : MX} {N : Nat} {σ : Mem} {c T Z u h : Nat} {P : NP} {L : Nat → LQ}  {n st : Nat} {so va : Int32} {ln : Nat} {ft fp : Int32} {t : Nat → Nat} (F : Fx V X yX10_token cX10_token 2 none (rmd 5 0 0)) (hQ : Rt V X 0 0 N (fun r τ => ∃ P9 : NP, OKP P9 ∧ RA P P9 ∧ P9.a = (tok t n P.a).2.2.2 ∧ (∃ so2 va2, MT so2 va2 (tok t n P.a).2.1 (tok t n P.a).2.2.1 ∧ YD τ c n (tok t n P.a).1 so2 va2 ln ft fp) ∧ HS V c (⟨T, Z, u, h, P9, L⟩ : RG) [0, 2, 3, 4, 5, 6, 7, 8, 9, 10, 11, 12, 13, 14, 15, 16, 17, 18, 19, 20, 21, 22, 23] σ τ ∧ r = none)) (hob : OKB L) (hP : OKP P) (hp0 : YD σ c n st so va ln ft fp) (hp1 : BR σ c n t) (hp2 : n ≤ 700) (hp3 : P.a ≤ n)  : ∀ (fuel : Nat)  (P1 : NP) (τ : Mem), HS V c (⟨T, Z, u, h, P1, L⟩ : RG) [0, 2, 3, 4, 5, 6, 7, 8, 9, 10, 11, 12, 13, 14, 15, 16, 17, 18, 19, 20, 21, 22, 23] σ τ → OKP P1 → RA P P1 → YD τ c n st so va ln ft fp ∧ sc isB t n P.a = sc isB t n P1.a ∧ P1.a ≤ n → 700 - P1.a < fuel → Wm V X 2 N τ 0 0 0 [(0, .ref c)] [] := by
  intro fuel
  induction fuel with
  | zero => intros; rename_i hm; exact absurd hm (Nat.not_lt_zero _)
  | succ fuel ih =>
    intro  P1 τ h1 hP1 hR1 hi hm
    have hPP := hP
    unfold OKP at hPP
    have hPP1 := hP1
    unfold OKP at hPP1
    unfold RA at hR1
    have hB1 := hp1.of (h1.2 (c + 1) (by rw [kC_at (k := 1) (by decide)]; decide))
    have hn7 := hp2
    obtain ⟨hY1, i1, i2⟩ := hi
    have hyd11466 := hY1
    obtain ⟨yd11466, yd11467, yd11468, yd11469, yd11470, yd11471, yd11472⟩ := hyd11466
    refine m_aload_n F rfl e_X10_token_0 ?_
    refine r_callV F e_X10_token_1 (q_X10_hereE (x_l X) V c T Z u h P1 L _ _  n t h1.1 (hob) hP1  (yd11467) hB1 hn7) cb_X10_here ml_X10_103 im_X10_here se_X10_here h1 rfl rfl (rest := []) rfl (Nat.le_of_ble_eq_true rfl) ⟨Nat.le_of_ble_eq_true rfl, Nat.le_of_ble_eq_true rfl⟩ ⟨Nat.le_of_ble_eq_true rfl, Nat.le_of_ble_eq_true rfl⟩ (fun r σ11473 hp => ?_)
    obtain ⟨h11474, hp⟩ := hp
    have h11475 := HS.trans h1 h11474 (by decide)
    have ga11476 := hB1.of (h11474.2 (c + 1) (by rw [kC_at (k := 1) (by decide)]; decide))
    rcases hp with ⟨he11477, rfl⟩ | ⟨he11477, hb11478, rfl⟩
    · refine m_bipush F (v := 10) (by decide) e_X10_token_4 ?_
      refine m_icmp_eq F e_X10_token_6 (fun q => absurd q (by decide)) (fun _ => ?_)
      refine m_aload_n F rfl e_X10_token_9 ?_
      refine r_callV F e_X10_token_10 (q_X10_hereE (x_l X) V c T Z u h P1 L _ _  n t h11475.1 (hob) hP1  ((fld_eq (h11474.2 c (by rw [show kC c c = 1 from kC_at (k := 0) (by decide)]; decide))).trans yd11467) ga11476 hn7) cb_X10_here ml_X10_103 im_X10_here se_X10_here h11475 rfl rfl (rest := []) rfl (Nat.le_of_ble_eq_true rfl) ⟨Nat.le_of_ble_eq_true rfl, Nat.le_of_ble_eq_true rfl⟩ ⟨Nat.le_of_ble_eq_true rfl, Nat.le_of_ble_eq_true rfl⟩ (fun r σ11479 hp => ?_)
      obtain ⟨h11480, hp⟩ := hp
      have h11481 := HS.trans h11475 h11480 (by decide)
      have ga11482 := ga11476.of (h11480.2 (c + 1) (by rw [kC_at (k := 1) (by decide)]; decide))
      rcases hp with ⟨he11483, rfl⟩ | ⟨he11483, hb11484, rfl⟩
      · refine m_bipush F (v := 32) (by decide) e_X10_token_13 ?_
        refine m_icmp_ne F e_X10_token_15 (fun _ => ?_) (fun q => absurd q (by decide))
        refine m_aload_n F rfl e_X10_token_31 ?_
        refine m_aload_n F rfl e_X10_token_32 ?_
        refine r_get F e_X10_token_33 fl_X10_97 h11481 rfl (fun v hv f11485 => ?_)
        obtain rfl : v = .int (nI (P1.a)) := hv
        have e9 : sc isB t n P.a = P1.a := i1.trans (sc_stop (Or.inl (by omega)))
        refine r_put F (g' := (⟨T, Z, u, h, P1, L⟩ : RG)) e_X10_token_36 fp_X10_107 h11481 (by decide) ⟨P1.a, (show P1.a ≤ 700 by omega), rfl⟩ (fun _ _ _ _ q => q) (fun _ _ _ q => q) rfl rfl (by decide) (fun σ11486 h11487 g11488 g11489 f11490 => ?_)
        have ga11491 := ga11482.of (g11488 _ (by omega))
        refine m_aload_n F rfl e_X10_token_39 ?_
        refine r_callV F e_X10_token_40 (q_X10_hereE (x_l X) V c T Z u h P1 L _ _  n t h11487.1 (hob) hP1  ((g11489 18 (by decide)).trans ((fld_eq (h11480.2 c (by rw [show kC c c = 1 from kC_at (k := 0) (by decide)]; decide))).trans ((fld_eq (h11474.2 c (by rw [show kC c c = 1 from kC_at (k := 0) (by decide)]; decide))).trans yd11467))) ga11491 hn7) cb_X10_here ml_X10_103 im_X10_here se_X10_here h11487 rfl rfl (rest := []) rfl (Nat.le_of_ble_eq_true rfl) ⟨Nat.le_of_ble_eq_true rfl, Nat.le_of_ble_eq_true rfl⟩ ⟨Nat.le_of_ble_eq_true rfl, Nat.le_of_ble_eq_true rfl⟩ (fun r σ11492 hp => ?_)
        obtain ⟨h11493, hp⟩ := hp
        have h11494 := HS.trans h11487 h11493 (by decide)
        have ga11495 := ga11491.of (h11493.2 (c + 1) (by rw [kC_at (k := 1) (by decide)]; decide))
        rcases hp with ⟨he11496, rfl⟩ | ⟨he11496, hb11497, rfl⟩
        · refine m_istore_n F (lv' := [(1, .int (-1)), (0, .ref c)]) e_X10_token_43 (by decide) rfl ?_
          refine m_iload_n F rfl e_X10_token_44 ?_
          refine m_iconst F (v := (-1)) (by decide) e_X10_token_45 ?_
          refine m_icmp_ne F e_X10_token_46 (fun q => absurd (by decide) q) (fun _ => ?_)
          refine m_aload_n F rfl e_X10_token_49 ?_
          refine m_iconst F (v := 4) (by decide) e_X10_token_50 ?_
          refine r_put F (g' := (⟨T, Z, u, h, P1, L⟩ : RG)) e_X10_token_51 fp_X10_110 h11494 (by decide) ⟨_, rfl⟩ (fun _ _ _ _ q => q) (fun _ _ _ q => q) rfl rfl (by decide) (fun σ11498 h11499 g11500 g11501 f11502 => ?_)
          have ga11503 := ga11495.of (g11500 _ (by omega))
          refine m_goto F e_X10_token_54 ?_
          have et : tok t n P.a = (P1.a, 0, 0, P1.a) := by unfold tok; simp only [e9]; rw [if_pos (by omega)]
          exact m_vret F hQ e_X10_token_245 (⟨P1, hP1, (by unfold RA; omega), (by have e8 : (tok t n P.a).2.2.2 = P1.a := (by rw [et]); omega), ⟨4, va, by rw [et]; exact Or.inl ⟨rfl, rfl⟩, by rw [et]; exact ⟨((g11501 17 (by decide)).trans ((fld_eq (h11493.2 c (by rw [show kC c c = 1 from kC_at (k := 0) (by decide)]; decide))).trans ((g11489 17 (by decide)).trans ((fld_eq (h11480.2 c (by rw [show kC c c = 1 from kC_at (k := 0) (by decide)]; decide))).trans ((fld_eq (h11474.2 c (by rw [show kC c c = 1 from kC_at (k := 0) (by decide)]; decide))).trans yd11466))))), ((g11501 18 (by decide)).trans ((fld_eq (h11493.2 c (by rw [show kC c c = 1 from kC_at (k := 0) (by decide)]; decide))).trans ((g11489 18 (by decide)).trans ((fld_eq (h11480.2 c (by rw [show kC c c = 1 from kC_at (k := 0) (by decide)]; decide))).trans ((fld_eq (h11474.2 c (by rw [show kC c c = 1 from kC_at (k := 0) (by decide)]; decide))).trans yd11467))))), ((g11501 20 (by decide)).trans ((fld_eq (h11493.2 c (by rw [show kC c c = 1 from kC_at (k := 0) (by decide)]; decide))).trans f11490)), (f11502), ((g11501 22 (by decide)).trans ((fld_eq (h11493.2 c (by rw [show kC c c = 1 from kC_at (k := 0) (by decide)]; decide))).trans ((g11489 22 (by decide)).trans ((fld_eq (h11480.2 c (by rw [show kC c c = 1 from kC_at (k := 0) (by decide)]; decide))).trans ((fld_eq (h11474.2 c (by rw [show kC c c = 1 from kC_at (k := 0) (by decide)]; decide))).trans yd11470))))), ((g11501 23 (by decide)).trans ((fld_eq (h11493.2 c (by rw [show kC c c = 1 from kC_at (k := 0) (by decide)]; decide))).trans ((g11489 23 (by decide)).trans ((fld_eq (h11480.2 c (by rw [show kC c c = 1 from kC_at (k := 0) (by decide)]; decide))).trans ((fld_eq (h11474.2 c (by rw [show kC c c = 1 from kC_at (k := 0) (by decide)]; decide))).trans yd11471))))), ((g11501 24 (by decide)).trans ((fld_eq (h11493.2 c (by rw [show kC c c = 1 from kC_at (k := 0) (by decide)]; decide))).trans ((g11489 24 (by decide)).trans ((fld_eq (h11480.2 c (by rw [show kC c c = 1 from kC_at (k := 0) (by decide)]; decide))).trans ((fld_eq (h11474.2 c (by rw [show kC c c = 1 from kC_at (k := 0) (by decide)]; decide))).trans yd11472)))))⟩⟩, h11499, rfl⟩)
        · exfalso; omega
      · exfalso; omega
    · refine m_bipush F (v := 10) (by decide) e_X10_token_4 ?_
      refine m_icmp_eq F e_X10_token_6 (fun q6 => ?_) (fun q6 => ?_)
      · have c6 : (t P1.a) = 10 := (nI_eq (a := (t P1.a)) (b := 10) (by omega) (by omega)).mp q6
        refine m_aload_n F rfl e_X10_token_18 ?_
        refine m_dup F rfl e_X10_token_19 ?_
        refine r_get F e_X10_token_20 fl_X10_97 h11475 rfl (fun v hv f11504 => ?_)
        obtain rfl : v = .int (nI (P1.a)) := hv
        refine m_iconst F (v := 1) (by decide) e_X10_token_23 ?_
        refine m_iadd F e_X10_token_24 ?_
        refine Wm.topE (w := nI (P1.a + 1)) (nI_add P1.a 1) ?_
        refine r_put F (g' := (⟨T, Z, u, h, (mkP P1.n0 P1.n2 P1.n5 P1.n7 P1.m0 P1.m5 P1.w2 P1.w7 P1.kk (P1.a + 1) P1.f P1.p), L⟩ : RG)) e_X10_token_25 fp_X10_97 h11475 (by decide) rfl ctl_a CR.setA rfl rfl (by decide) (fun σ11505 h11506 g11507 g11508 f11509 => ?_)
        have ga11510 := ga11476.of (g11507 _ (by omega))
        obtain ⟨P11511, eP11511⟩ : ∃ P9, P9 = (mkP P1.n0 P1.n2 P1.n5 P1.n7 P1.m0 P1.m5 P1.w2 P1.w7 P1.kk (P1.a + 1) P1.f P1.p) := ⟨_, rfl⟩
        rw [← eP11511] at h11506
        have fP11511 : P11511.n0 = P1.n0 ∧ P11511.n2 = P1.n2 ∧ P11511.n5 = P1.n5 ∧ P11511.n7 = P1.n7 ∧ P11511.m0 = P1.m0 ∧ P11511.m5 = P1.m5 ∧ P11511.w2 = P1.w2 ∧ P11511.w7 = P1.w7 ∧ P11511.kk = P1.kk ∧ P11511.a = P1.a + 1 ∧ P11511.f = P1.f ∧ P11511.p = P1.p := by rw [eP11511]; exact ⟨rfl, rfl, rfl, rfl, rfl, rfl, rfl, rfl, rfl, rfl, rfl, rfl⟩
        refine m_goto F e_X10_token_28 ?_
        have oP11512 : OKP P11511 := by unfold OKP; omega
        exact ih  P11511 _ h11506 oP11512 (by unfold RA; omega) ⟨⟨((g11508 17 (by decide)).trans ((fld_eq (h11474.2 c (by rw [show kC c c = 1 from kC_at (k := 0) (by decide)]; decide))).trans yd11466)), ((g11508 18 (by decide)).trans ((fld_eq (h11474.2 c (by rw [show kC c c = 1 from kC_at (k := 0) (by decide)]; decide))).trans yd11467)), ((g11508 20 (by decide)).trans ((fld_eq (h11474.2 c (by rw [show kC c c = 1 from kC_at (k := 0) (by decide)]; decide))).trans yd11468)), ((g11508 21 (by decide)).trans ((fld_eq (h11474.2 c (by rw [show kC c c = 1 from kC_at (k := 0) (by decide)]; decide))).trans yd11469)), ((g11508 22 (by decide)).trans ((fld_eq (h11474.2 c (by rw [show kC c c = 1 from kC_at (k := 0) (by decide)]; decide))).trans yd11470)), ((g11508 23 (by decide)).trans ((fld_eq (h11474.2 c (by rw [show kC c c = 1 from kC_at (k := 0) (by decide)]; decide))).trans yd11471)), ((g11508 24 (by decide)).trans ((fld_eq (h11474.2 c (by rw [show kC c c = 1 from kC_at (k := 0) (by decide)]; decide))).trans yd11472))⟩, by rw [i1, show P11511.a = P1.a + 1 by omega]; exact sc_go (by omega) (isB_y (by omega)), by omega⟩ (by omega)
      · have c6 : (t P1.a) ≠ 10 := by have hh := mt (nI_eq (a := (t P1.a)) (b := 10) (by omega) (by omega)).mpr q6; omega
        refine m_aload_n F rfl e_X10_token_9 ?_
        refine r_callV F e_X10_token_10 (q_X10_hereE (x_l X) V c T Z u h P1 L _ _  n t h11475.1 (hob) hP1  ((fld_eq (h11474.2 c (by rw [show kC c c = 1 from kC_at (k := 0) (by decide)]; decide))).trans yd11467) ga11476 hn7) cb_X10_here ml_X10_103 im_X10_here se_X10_here h11475 rfl rfl (rest := []) rfl (Nat.le_of_ble_eq_true rfl) ⟨Nat.le_of_ble_eq_true rfl, Nat.le_of_ble_eq_true rfl⟩ ⟨Nat.le_of_ble_eq_true rfl, Nat.le_of_ble_eq_true rfl⟩ (fun r σ11513 hp => ?_)
        obtain ⟨h11514, hp⟩ := hp
        have h11515 := HS.trans h11475 h11514 (by decide)
        have ga11516 := ga11476.of (h11514.2 (c + 1) (by rw [kC_at (k := 1) (by decide)]; decide))
        rcases hp with ⟨he11517, rfl⟩ | ⟨he11517, hb11518, rfl⟩
        · exfalso; omega
        · refine m_bipush F (v := 32) (by decide) e_X10_token_13 ?_
          refine m_icmp_ne F e_X10_token_15 (fun q15 => ?_) (fun q15 => ?_)
          · have c15 : (t P1.a) ≠ 32 := by have hh := mt (nI_eq (a := (t P1.a)) (b := 32) (by omega) (by omega)).mpr q15; omega
            refine m_aload_n F rfl e_X10_token_31 ?_
            refine m_aload_n F rfl e_X10_token_32 ?_
            refine r_get F e_X10_token_33 fl_X10_97 h11515 rfl (fun v hv f11519 => ?_)
            obtain rfl : v = .int (nI (P1.a)) := hv
            have e9 : sc isB t n P.a = P1.a := i1.trans (sc_stop (Or.inr (isB_n (by omega) (by omega))))
            refine r_put F (g' := (⟨T, Z, u, h, P1, L⟩ : RG)) e_X10_token_36 fp_X10_107 h11515 (by decide) ⟨P1.a, (show P1.a ≤ 700 by omega), rfl⟩ (fun _ _ _ _ q => q) (fun _ _ _ q => q) rfl rfl (by decide) (fun σ11520 h11521 g11522 g11523 f11524 => ?_)
            have ga11525 := ga11516.of (g11522 _ (by omega))
            refine m_aload_n F rfl e_X10_token_39 ?_
            refine r_callV F e_X10_token_40 (q_X10_hereE (x_l X) V c T Z u h P1 L _ _  n t h11521.1 (hob) hP1  ((g11523 18 (by decide)).trans ((fld_eq (h11514.2 c (by rw [show kC c c = 1 from kC_at (k := 0) (by decide)]; decide))).trans ((fld_eq (h11474.2 c (by rw [show kC c c = 1 from kC_at (k := 0) (by decide)]; decide))).trans yd11467))) ga11525 hn7) cb_X10_here ml_X10_103 im_X10_here se_X10_here h11521 rfl rfl (rest := []) rfl (Nat.le_of_ble_eq_true rfl) ⟨Nat.le_of_ble_eq_true rfl, Nat.le_of_ble_eq_true rfl⟩ ⟨Nat.le_of_ble_eq_true rfl, Nat.le_of_ble_eq_true rfl⟩ (fun r σ11526 hp => ?_)
            obtain ⟨h11527, hp⟩ := hp
            have h11528 := HS.trans h11521 h11527 (by decide)
            have ga11529 := ga11525.of (h11527.2 (c + 1) (by rw [kC_at (k := 1) (by decide)]; decide))
            rcases hp with ⟨he11530, rfl⟩ | ⟨he11530, hb11531, rfl⟩
            · exfalso; omega
            · refine m_istore_n F (lv' := [(1, .int (nI (t P1.a))), (0, .ref c)]) e_X10_token_43 (by decide) rfl ?_
              refine m_iload_n F rfl e_X10_token_44 ?_
              refine m_iconst F (v := (-1)) (by decide) e_X10_token_45 ?_
              refine m_icmp_ne F e_X10_token_46 (fun q46 => ?_) (fun q46 => ?_)
              · refine m_iload_n F rfl e_X10_token_57 ?_
                refine m_callS F e_X10_token_58 (q_X10_isSmall2 (x_l X) V _ _ (nI (t P1.a))) cb_X10_isSmall ml_X10_113 sm_X10_isSmall rfl (rest := []) rfl (Nat.le_of_ble_eq_true rfl) ⟨Nat.le_of_ble_eq_true rfl, Nat.le_of_ble_eq_true rfl⟩ ⟨Nat.le_of_ble_eq_true rfl, Nat.le_of_ble_eq_true rfl⟩ (k' := 0) (z' := 0) (N' := N) rfl rfl rfl (fun r σ11532 hp => ?_)
                obtain ⟨rfl, hp⟩ := hp
                rcases hp with ⟨g11533, rfl⟩ | ⟨g11533, rfl⟩
                · have kg11533 : isL (t P1.a) = false := isL_f (by omega) g11533
                  refine m_if_eq F e_X10_token_61 (fun _ => ?_) (fun q => absurd (by decide) q)
                  refine m_iload_n F rfl e_X10_token_145 ?_
                  refine m_callS F e_X10_token_146 (q_X10_isDigit2 (x_l X) V _ _ (nI (t P1.a))) cb_X10_isDigit ml_X10_126 sm_X10_isDigit rfl (rest := []) rfl (Nat.le_of_ble_eq_true rfl) ⟨Nat.le_of_ble_eq_true rfl, Nat.le_of_ble_eq_true rfl⟩ ⟨Nat.le_of_ble_eq_true rfl, Nat.le_of_ble_eq_true rfl⟩ (k' := 0) (z' := 0) (N' := N) rfl rfl rfl (fun r σ11534 hp => ?_)
                  obtain ⟨rfl, hp⟩ := hp
                  rcases hp with ⟨g11535, rfl⟩ | ⟨g11535, rfl⟩
                  · have kg11535 : isD (t P1.a) = false := isD_f (by omega) g11535
                    refine m_if_eq F e_X10_token_149 (fun _ => ?_) (fun q => absurd (by decide) q)
                    refine m_aload_n F rfl e_X10_token_220 ?_
                    refine m_iload_n F rfl e_X10_token_221 ?_
                    refine m_bipush F (v := 59) (by decide) e_X10_token_222 ?_
                    refine m_icmp_ne F e_X10_token_224 (fun q224 => ?_) (fun q224 => ?_)
                    · have c224 : (t P1.a) ≠ 59 := by have hh := mt (nI_eq (a := (t P1.a)) (b := 59) (by omega) (by omega)).mpr q224; omega
                      refine m_iconst F (v := 5) (by decide) e_X10_token_231 ?_
                      refine r_put F (g' := (⟨T, Z, u, h, P1, L⟩ : RG)) e_X10_token_232 fp_X10_110 h11528 (by decide) ⟨_, rfl⟩ (fun _ _ _ _ q => q) (fun _ _ _ q => q) rfl rfl (by decide) (fun σ11536 h11537 g11538 g11539 f11540 => ?_)
                      have ga11541 := ga11529.of (g11538 _ (by omega))
                      refine m_aload_n F rfl e_X10_token_235 ?_
                      refine m_dup F rfl e_X10_token_236 ?_
                      refine r_getC F e_X10_token_237 fl_X10_97 h11537 ((g11539 19 (by decide)).trans ((fld_eq (h11527.2 c (by rw [show kC c c = 1 from kC_at (k := 0) (by decide)]; decide))).trans ((g11523 19 (by decide)).trans f11519))) ?_
                      refine m_iconst F (v := 1) (by decide) e_X10_token_240 ?_
                      refine m_iadd F e_X10_token_241 ?_
                      refine Wm.topE (w := nI (P1.a + 1)) (nI_add P1.a 1) ?_
                      refine r_put F (g' := (⟨T, Z, u, h, (mkP P1.n0 P1.n2 P1.n5 P1.n7 P1.m0 P1.m5 P1.w2 P1.w7 P1.kk (P1.a + 1) P1.f P1.p), L⟩ : RG)) e_X10_token_242 fp_X10_97 h11537 (by decide) rfl ctl_a CR.setA rfl rfl (by decide) (fun σ11542 h11543 g11544 g11545 f11546 => ?_)
                      have ga11547 := ga11541.of (g11544 _ (by omega))
                      obtain ⟨P11548, eP11548⟩ : ∃ P9, P9 = (mkP P1.n0 P1.n2 P1.n5 P1.n7 P1.m0 P1.m5 P1.w2 P1.w7 P1.kk (P1.a + 1) P1.f P1.p) := ⟨_, rfl⟩
                      rw [← eP11548] at h11543
                      have fP11548 : P11548.n0 = P1.n0 ∧ P11548.n2 = P1.n2 ∧ P11548.n5 = P1.n5 ∧ P11548.n7 = P1.n7 ∧ P11548.m0 = P1.m0 ∧ P11548.m5 = P1.m5 ∧ P11548.w2 = P1.w2 ∧ P11548.w7 = P1.w7 ∧ P11548.kk = P1.kk ∧ P11548.a = P1.a + 1 ∧ P11548.f = P1.f ∧ P11548.p = P1.p := by rw [eP11548]; exact ⟨rfl, rfl, rfl, rfl, rfl, rfl, rfl, rfl, rfl, rfl, rfl, rfl⟩
                      have oP11549 : OKP P11548 := by unfold OKP; omega
                      have et : tok t n P.a = (P1.a, 5, 0, P1.a + 1) := by unfold tok; simp only [e9]; rw [if_neg (by omega), if_neg (isL_D kg11533), if_neg (isD_D kg11535), if_neg (by omega)]
                      exact m_vret F hQ e_X10_token_245 (⟨P11548, oP11549, (by unfold RA; omega), (by have e8 : (tok t n P.a).2.2.2 = P1.a + 1 := (by rw [et]); omega), ⟨5, va, by rw [et]; exact Or.inr (Or.inr (Or.inr (Or.inr (Or.inr ⟨rfl, rfl⟩)))), by rw [et]; exact ⟨((g11545 17 (by decide)).trans ((g11539 17 (by decide)).trans ((fld_eq (h11527.2 c (by rw [show kC c c = 1 from kC_at (k := 0) (by decide)]; decide))).trans ((g11523 17 (by decide)).trans ((fld_eq (h11514.2 c (by rw [show kC c c = 1 from kC_at (k := 0) (by decide)]; decide))).trans ((fld_eq (h11474.2 c (by rw [show kC c c = 1 from kC_at (k := 0) (by decide)]; decide))).trans yd11466)))))), ((g11545 18 (by decide)).trans ((g11539 18 (by decide)).trans ((fld_eq (h11527.2 c (by rw [show kC c c = 1 from kC_at (k := 0) (by decide)]; decide))).trans ((g11523 18 (by decide)).trans ((fld_eq (h11514.2 c (by rw [show kC c c = 1 from kC_at (k := 0) (by decide)]; decide))).trans ((fld_eq (h11474.2 c (by rw [show kC c c = 1 from kC_at (k := 0) (by decide)]; decide))).trans yd11467)))))), ((g11545 20 (by decide)).trans ((g11539 20 (by decide)).trans ((fld_eq (h11527.2 c (by rw [show kC c c = 1 from kC_at (k := 0) (by decide)]; decide))).trans f11524))), ((g11545 21 (by decide)).trans f11540), ((g11545 22 (by decide)).trans ((g11539 22 (by decide)).trans ((fld_eq (h11527.2 c (by rw [show kC c c = 1 from kC_at (k := 0) (by decide)]; decide))).trans ((g11523 22 (by decide)).trans ((fld_eq (h11514.2 c (by rw [show kC c c = 1 from kC_at (k := 0) (by decide)]; decide))).trans ((fld_eq (h11474.2 c (by rw [show kC c c = 1 from kC_at (k := 0) (by decide)]; decide))).trans yd11470)))))), ((g11545 23 (by decide)).trans ((g11539 23 (by decide)).trans ((fld_eq (h11527.2 c (by rw [show kC c c = 1 from kC_at (k := 0) (by decide)]; decide))).trans ((g11523 23 (by decide)).trans ((fld_eq (h11514.2 c (by rw [show kC c c = 1 from kC_at (k := 0) (by decide)]; decide))).trans ((fld_eq (h11474.2 c (by rw [show kC c c = 1 from kC_at (k := 0) (by decide)]; decide))).trans yd11471)))))), ((g11545 24 (by decide)).trans ((g11539 24 (by decide)).trans ((fld_eq (h11527.2 c (by rw [show kC c c = 1 from kC_at (k := 0) (by decide)]; decide))).trans ((g11523 24 (by decide)).trans ((fld_eq (h11514.2 c (by rw [show kC c c = 1 from kC_at (k := 0) (by decide)]; decide))).trans ((fld_eq (h11474.2 c (by rw [show kC c c = 1 from kC_at (k := 0) (by decide)]; decide))).trans yd11472))))))⟩⟩, h11543, rfl⟩)
                    · have c224 : (t P1.a) = 59 := (nI_eq (a := (t P1.a)) (b := 59) (by omega) (by omega)).mp q224
                      refine m_iconst F (v := 3) (by decide) e_X10_token_227 ?_
                      refine m_goto F e_X10_token_228 ?_
                      refine r_put F (g' := (⟨T, Z, u, h, P1, L⟩ : RG)) e_X10_token_232 fp_X10_110 h11528 (by decide) ⟨_, rfl⟩ (fun _ _ _ _ q => q) (fun _ _ _ q => q) rfl rfl (by decide) (fun σ11550 h11551 g11552 g11553 f11554 => ?_)
                      have ga11555 := ga11529.of (g11552 _ (by omega))
                      refine m_aload_n F rfl e_X10_token_235 ?_
                      refine m_dup F rfl e_X10_token_236 ?_
                      refine r_getC F e_X10_token_237 fl_X10_97 h11551 ((g11553 19 (by decide)).trans ((fld_eq (h11527.2 c (by rw [show kC c c = 1 from kC_at (k := 0) (by decide)]; decide))).trans ((g11523 19 (by decide)).trans f11519))) ?_
                      refine m_iconst F (v := 1) (by decide) e_X10_token_240 ?_
                      refine m_iadd F e_X10_token_241 ?_
                      refine Wm.topE (w := nI (P1.a + 1)) (nI_add P1.a 1) ?_
                      refine r_put F (g' := (⟨T, Z, u, h, (mkP P1.n0 P1.n2 P1.n5 P1.n7 P1.m0 P1.m5 P1.w2 P1.w7 P1.kk (P1.a + 1) P1.f P1.p), L⟩ : RG)) e_X10_token_242 fp_X10_97 h11551 (by decide) rfl ctl_a CR.setA rfl rfl (by decide) (fun σ11556 h11557 g11558 g11559 f11560 => ?_)
                      have ga11561 := ga11555.of (g11558 _ (by omega))
                      obtain ⟨P11562, eP11562⟩ : ∃ P9, P9 = (mkP P1.n0 P1.n2 P1.n5 P1.n7 P1.m0 P1.m5 P1.w2 P1.w7 P1.kk (P1.a + 1) P1.f P1.p) := ⟨_, rfl⟩
                      rw [← eP11562] at h11557
                      have fP11562 : P11562.n0 = P1.n0 ∧ P11562.n2 = P1.n2 ∧ P11562.n5 = P1.n5 ∧ P11562.n7 = P1.n7 ∧ P11562.m0 = P1.m0 ∧ P11562.m5 = P1.m5 ∧ P11562.w2 = P1.w2 ∧ P11562.w7 = P1.w7 ∧ P11562.kk = P1.kk ∧ P11562.a = P1.a + 1 ∧ P11562.f = P1.f ∧ P11562.p = P1.p := by rw [eP11562]; exact ⟨rfl, rfl, rfl, rfl, rfl, rfl, rfl, rfl, rfl, rfl, rfl, rfl⟩
                      have oP11563 : OKP P11562 := by unfold OKP; omega
                      have et : tok t n P.a = (P1.a, 4, 0, P1.a + 1) := by unfold tok; simp only [e9]; rw [if_neg (by omega), if_neg (isL_D kg11533), if_neg (isD_D kg11535), if_pos (by omega)]
                      exact m_vret F hQ e_X10_token_245 (⟨P11562, oP11563, (by unfold RA; omega), (by have e8 : (tok t n P.a).2.2.2 = P1.a + 1 := (by rw [et]); omega), ⟨3, va, by rw [et]; exact Or.inr (Or.inr (Or.inr (Or.inr (Or.inl ⟨rfl, rfl⟩)))), by rw [et]; exact ⟨((g11559 17 (by decide)).trans ((g11553 17 (by decide)).trans ((fld_eq (h11527.2 c (by rw [show kC c c = 1 from kC_at (k := 0) (by decide)]; decide))).trans ((g11523 17 (by decide)).trans ((fld_eq (h11514.2 c (by rw [show kC c c = 1 from kC_at (k := 0) (by decide)]; decide))).trans ((fld_eq (h11474.2 c (by rw [show kC c c = 1 from kC_at (k := 0) (by decide)]; decide))).trans yd11466)))))), ((g11559 18 (by decide)).trans ((g11553 18 (by decide)).trans ((fld_eq (h11527.2 c (by rw [show kC c c = 1 from kC_at (k := 0) (by decide)]; decide))).trans ((g11523 18 (by decide)).trans ((fld_eq (h11514.2 c (by rw [show kC c c = 1 from kC_at (k := 0) (by decide)]; decide))).trans ((fld_eq (h11474.2 c (by rw [show kC c c = 1 from kC_at (k := 0) (by decide)]; decide))).trans yd11467)))))), ((g11559 20 (by decide)).trans ((g11553 20 (by decide)).trans ((fld_eq (h11527.2 c (by rw [show kC c c = 1 from kC_at (k := 0) (by decide)]; decide))).trans f11524))), ((g11559 21 (by decide)).trans f11554), ((g11559 22 (by decide)).trans ((g11553 22 (by decide)).trans ((fld_eq (h11527.2 c (by rw [show kC c c = 1 from kC_at (k := 0) (by decide)]; decide))).trans ((g11523 22 (by decide)).trans ((fld_eq (h11514.2 c (by rw [show kC c c = 1 from kC_at (k := 0) (by decide)]; decide))).trans ((fld_eq (h11474.2 c (by rw [show kC c c = 1 from kC_at (k := 0) (by decide)]; decide))).trans yd11470)))))), ((g11559 23 (by decide)).trans ((g11553 23 (by decide)).trans ((fld_eq (h11527.2 c (by rw [show kC c c = 1 from kC_at (k := 0) (by decide)]; decide))).trans ((g11523 23 (by decide)).trans ((fld_eq (h11514.2 c (by rw [show kC c c = 1 from kC_at (k := 0) (by decide)]; decide))).trans ((fld_eq (h11474.2 c (by rw [show kC c c = 1 from kC_at (k := 0) (by decide)]; decide))).trans yd11471)))))), ((g11559 24 (by decide)).trans ((g11553 24 (by decide)).trans ((fld_eq (h11527.2 c (by rw [show kC c c = 1 from kC_at (k := 0) (by decide)]; decide))).trans ((g11523 24 (by decide)).trans ((fld_eq (h11514.2 c (by rw [show kC c c = 1 from kC_at (k := 0) (by decide)]; decide))).trans ((fld_eq (h11474.2 c (by rw [show kC c c = 1 from kC_at (k := 0) (by decide)]; decide))).trans yd11472))))))⟩⟩, h11557, rfl⟩)
                  · have kg11535 : isD (t P1.a) = true := isD_t (by omega) g11535
                    refine m_if_eq F e_X10_token_149 (fun q => absurd q (by decide)) (fun _ => ?_)
                    refine m_aload_n F rfl e_X10_token_152 ?_
                    refine m_iconst F (v := 2) (by decide) e_X10_token_153 ?_
                    refine r_put F (g' := (⟨T, Z, u, h, P1, L⟩ : RG)) e_X10_token_154 fp_X10_110 h11528 (by decide) ⟨_, rfl⟩ (fun _ _ _ _ q => q) (fun _ _ _ q => q) rfl rfl (by decide) (fun σ11564 h11565 g11566 g11567 f11568 => ?_)
                    have ga11569 := ga11529.of (g11566 _ (by omega))
                    refine m_aload_n F rfl e_X10_token_157 ?_
                    refine m_iconst F (v := 0) (by decide) e_X10_token_158 ?_
                    refine r_put F (g' := (⟨T, Z, u, h, P1, L⟩ : RG)) e_X10_token_159 fp_X10_120 h11565 (by decide) ⟨_, rfl⟩ (fun _ _ _ _ q => q) (fun _ _ _ q => q) rfl rfl (by decide) (fun σ11570 h11571 g11572 g11573 f11574 => ?_)
                    have ga11575 := ga11569.of (g11572 _ (by omega))
                    refine Wm.lvsub (lv' := [(0, .ref c)]) ?_ [1] rfl
                    exact lq_X10_tokenE_162 F hQ hob hP hp0 hp1 hp2 hp3 (700 - P1.a + 1) P1.a 0 P1 _ h11571 hP1 (by unfold RA; omega) ⟨⟨((g11573 17 (by decide)).trans ((g11567 17 (by decide)).trans ((fld_eq (h11527.2 c (by rw [show kC c c = 1 from kC_at (k := 0) (by decide)]; decide))).trans ((g11523 17 (by decide)).trans ((fld_eq (h11514.2 c (by rw [show kC c c = 1 from kC_at (k := 0) (by decide)]; decide))).trans ((fld_eq (h11474.2 c (by rw [show kC c c = 1 from kC_at (k := 0) (by decide)]; decide))).trans yd11466)))))), ((g11573 18 (by decide)).trans ((g11567 18 (by decide)).trans ((fld_eq (h11527.2 c (by rw [show kC c c = 1 from kC_at (k := 0) (by decide)]; decide))).trans ((g11523 18 (by decide)).trans ((fld_eq (h11514.2 c (by rw [show kC c c = 1 from kC_at (k := 0) (by decide)]; decide))).trans ((fld_eq (h11474.2 c (by rw [show kC c c = 1 from kC_at (k := 0) (by decide)]; decide))).trans yd11467)))))), ((g11573 20 (by decide)).trans ((g11567 20 (by decide)).trans ((fld_eq (h11527.2 c (by rw [show kC c c = 1 from kC_at (k := 0) (by decide)]; decide))).trans f11524))), ((g11573 21 (by decide)).trans f11568), (f11574), ((g11573 23 (by decide)).trans ((g11567 23 (by decide)).trans ((fld_eq (h11527.2 c (by rw [show kC c c = 1 from kC_at (k := 0) (by decide)]; decide))).trans ((g11523 23 (by decide)).trans ((fld_eq (h11514.2 c (by rw [show kC c c = 1 from kC_at (k := 0) (by decide)]; decide))).trans ((fld_eq (h11474.2 c (by rw [show kC c c = 1 from kC_at (k := 0) (by decide)]; decide))).trans yd11471)))))), ((g11573 24 (by decide)).trans ((g11567 24 (by decide)).trans ((fld_eq (h11527.2 c (by rw [show kC c c = 1 from kC_at (k := 0) (by decide)]; decide))).trans ((g11523 24 (by decide)).trans ((fld_eq (h11514.2 c (by rw [show kC c c = 1 from kC_at (k := 0) (by decide)]; decide))).trans ((fld_eq (h11474.2 c (by rw [show kC c c = 1 from kC_at (k := 0) (by decide)]; decide))).trans yd11472))))))⟩, e9.symm, by omega, kg11533, kg11535, by omega, by omega, by omega, by rw [Nat.sub_self]; rfl, rfl⟩ (Nat.lt_succ_self _)
                · have kg11533 : isL (t P1.a) = true := isL_t (by omega) g11533
                  refine m_if_eq F e_X10_token_61 (fun q => absurd q (by decide)) (fun _ => ?_)
                  refine Wm.lvsub (lv' := [(0, .ref c)]) ?_ [1] rfl
                  exact lq_X10_tokenE_64 F hQ hob hP hp0 hp1 hp2 hp3 (700 - P1.a + 1) P1.a P1 _ h11528 hP1 (by unfold RA; omega) ⟨⟨((fld_eq (h11527.2 c (by rw [show kC c c = 1 from kC_at (k := 0) (by decide)]; decide))).trans ((g11523 17 (by decide)).trans ((fld_eq (h11514.2 c (by rw [show kC c c = 1 from kC_at (k := 0) (by decide)]; decide))).trans ((fld_eq (h11474.2 c (by rw [show kC c c = 1 from kC_at (k := 0) (by decide)]; decide))).trans yd11466)))), ((fld_eq (h11527.2 c (by rw [show kC c c = 1 from kC_at (k := 0) (by decide)]; decide))).trans ((g11523 18 (by decide)).trans ((fld_eq (h11514.2 c (by rw [show kC c c = 1 from kC_at (k := 0) (by decide)]; decide))).trans ((fld_eq (h11474.2 c (by rw [show kC c c = 1 from kC_at (k := 0) (by decide)]; decide))).trans yd11467)))), ((fld_eq (h11527.2 c (by rw [show kC c c = 1 from kC_at (k := 0) (by decide)]; decide))).trans f11524), ((fld_eq (h11527.2 c (by rw [show kC c c = 1 from kC_at (k := 0) (by decide)]; decide))).trans ((g11523 21 (by decide)).trans ((fld_eq (h11514.2 c (by rw [show kC c c = 1 from kC_at (k := 0) (by decide)]; decide))).trans ((fld_eq (h11474.2 c (by rw [show kC c c = 1 from kC_at (k := 0) (by decide)]; decide))).trans yd11469)))), ((fld_eq (h11527.2 c (by rw [show kC c c = 1 from kC_at (k := 0) (by decide)]; decide))).trans ((g11523 22 (by decide)).trans ((fld_eq (h11514.2 c (by rw [show kC c c = 1 from kC_at (k := 0) (by decide)]; decide))).trans ((fld_eq (h11474.2 c (by rw [show kC c c = 1 from kC_at (k := 0) (by decide)]; decide))).trans yd11470)))), ((fld_eq (h11527.2 c (by rw [show kC c c = 1 from kC_at (k := 0) (by decide)]; decide))).trans ((g11523 23 (by decide)).trans ((fld_eq (h11514.2 c (by rw [show kC c c = 1 from kC_at (k := 0) (by decide)]; decide))).trans ((fld_eq (h11474.2 c (by rw [show kC c c = 1 from kC_at (k := 0) (by decide)]; decide))).trans yd11471)))), ((fld_eq (h11527.2 c (by rw [show kC c c = 1 from kC_at (k := 0) (by decide)]; decide))).trans ((g11523 24 (by decide)).trans ((fld_eq (h11514.2 c (by rw [show kC c c = 1 from kC_at (k := 0) (by decide)]; decide))).trans ((fld_eq (h11474.2 c (by rw [show kC c c = 1 from kC_at (k := 0) (by decide)]; decide))).trans yd11472))))⟩, e9.symm, by omega, kg11533, by omega, by omega, rfl⟩ (Nat.lt_succ_self _)
              · exact absurd q46 (nI_nm1 (by omega))
          · have c15 : (t P1.a) = 32 := (nI_eq (a := (t P1.a)) (b := 32) (by omega) (by omega)).mp q15
            refine m_aload_n F rfl e_X10_token_18 ?_
            refine m_dup F rfl e_X10_token_19 ?_
            refine r_get F e_X10_token_20 fl_X10_97 h11515 rfl (fun v hv f11576 => ?_)
            obtain rfl : v = .int (nI (P1.a)) := hv
            refine m_iconst F (v := 1) (by decide) e_X10_token_23 ?_
            refine m_iadd F e_X10_token_24 ?_
            refine Wm.topE (w := nI (P1.a + 1)) (nI_add P1.a 1) ?_
            refine r_put F (g' := (⟨T, Z, u, h, (mkP P1.n0 P1.n2 P1.n5 P1.n7 P1.m0 P1.m5 P1.w2 P1.w7 P1.kk (P1.a + 1) P1.f P1.p), L⟩ : RG)) e_X10_token_25 fp_X10_97 h11515 (by decide) rfl ctl_a CR.setA rfl rfl (by decide) (fun σ11577 h11578 g11579 g11580 f11581 => ?_)
            have ga11582 := ga11516.of (g11579 _ (by omega))
            obtain ⟨P11583, eP11583⟩ : ∃ P9, P9 = (mkP P1.n0 P1.n2 P1.n5 P1.n7 P1.m0 P1.m5 P1.w2 P1.w7 P1.kk (P1.a + 1) P1.f P1.p) := ⟨_, rfl⟩
            rw [← eP11583] at h11578
            have fP11583 : P11583.n0 = P1.n0 ∧ P11583.n2 = P1.n2 ∧ P11583.n5 = P1.n5 ∧ P11583.n7 = P1.n7 ∧ P11583.m0 = P1.m0 ∧ P11583.m5 = P1.m5 ∧ P11583.w2 = P1.w2 ∧ P11583.w7 = P1.w7 ∧ P11583.kk = P1.kk ∧ P11583.a = P1.a + 1 ∧ P11583.f = P1.f ∧ P11583.p = P1.p := by rw [eP11583]; exact ⟨rfl, rfl, rfl, rfl, rfl, rfl, rfl, rfl, rfl, rfl, rfl, rfl⟩
            refine m_goto F e_X10_token_28 ?_
            have oP11584 : OKP P11583 := by unfold OKP; omega
            exact ih  P11583 _ h11578 oP11584 (by unfold RA; omega) ⟨⟨((g11580 17 (by decide)).trans ((fld_eq (h11514.2 c (by rw [show kC c c = 1 from kC_at (k := 0) (by decide)]; decide))).trans ((fld_eq (h11474.2 c (by rw [show kC c c = 1 from kC_at (k := 0) (by decide)]; decide))).trans yd11466))), ((g11580 18 (by decide)).trans ((fld_eq (h11514.2 c (by rw [show kC c c = 1 from kC_at (k := 0) (by decide)]; decide))).trans ((fld_eq (h11474.2 c (by rw [show kC c c = 1 from kC_at (k := 0) (by decide)]; decide))).trans yd11467))), ((g11580 20 (by decide)).trans ((fld_eq (h11514.2 c (by rw [show kC c c = 1 from kC_at (k := 0) (by decide)]; decide))).trans ((fld_eq (h11474.2 c (by rw [show kC c c = 1 from kC_at (k := 0) (by decide)]; decide))).trans yd11468))), ((g11580 21 (by decide)).trans ((fld_eq (h11514.2 c (by rw [show kC c c = 1 from kC_at (k := 0) (by decide)]; decide))).trans ((fld_eq (h11474.2 c (by rw [show kC c c = 1 from kC_at (k := 0) (by decide)]; decide))).trans yd11469))), ((g11580 22 (by decide)).trans ((fld_eq (h11514.2 c (by rw [show kC c c = 1 from kC_at (k := 0) (by decide)]; decide))).trans ((fld_eq (h11474.2 c (by rw [show kC c c = 1 from kC_at (k := 0) (by decide)]; decide))).trans yd11470))), ((g11580 23 (by decide)).trans ((fld_eq (h11514.2 c (by rw [show kC c c = 1 from kC_at (k := 0) (by decide)]; decide))).trans ((fld_eq (h11474.2 c (by rw [show kC c c = 1 from kC_at (k := 0) (by decide)]; decide))).trans yd11471))), ((g11580 24 (by decide)).trans ((fld_eq (h11514.2 c (by rw [show kC c c = 1 from kC_at (k := 0) (by decide)]; decide))).trans ((fld_eq (h11474.2 c (by rw [show kC c c = 1 from kC_at (k := 0) (by decide)]; decide))).trans yd11472)))⟩, by rw [i1, show P11583.a = P1.a + 1 by omega]; exact sc_go (by omega) (isB_y (by omega)), by omega⟩ (by omega)
set_option maxRecDepth 20000 in
theorem q_X10_tokenE (l : Launch) (V : VX) (c T Z u h : Nat) (P : NP) (L : Nat → LQ) (N : Nat) (σ : Mem) (n st : Nat) (so va : Int32) (ln : Nat) (ft fp : Int32) (t : Nat → Nat) (h0 : HR V c ⟨T, Z, u, h, P, L⟩ σ) (hob : OKB L) (hP : OKP P) (hp0 : YD σ c n st so va ln ft fp) (hp1 : BR σ c n t) (hp2 : n ≤ 700) (hp3 : P.a ≤ n) : Ct l V yX10_token cX10_token 2 none 5 0 0 N σ [.ref c] (fun r τ => ∃ P9 : NP, OKP P9 ∧ RA P P9 ∧ P9.a = (tok t n P.a).2.2.2 ∧ (∃ so2 va2, MT so2 va2 (tok t n P.a).2.1 (tok t n P.a).2.2.1 ∧ YD τ c n (tok t n P.a).1 so2 va2 ln ft fp) ∧ HS V c (⟨T, Z, u, h, P9, L⟩ : RG) [0, 2, 3, 4, 5, 6, 7, 8, 9, 10, 11, 12, 13, 14, 15, 16, 17, 18, 19, 20, 21, 22, 23] σ τ ∧ r = none) := by
  refine Ct.of (by decide) (Nat.le_of_ble_eq_true rfl) [(0, .ref c)] rfl (fun X hX F hQ => ?_)
  have hPP := hP
  unfold OKP at hPP
  have h1 : HS V c ⟨T, Z, u, h, P, L⟩ [0, 2, 3, 4, 5, 6, 7, 8, 9, 10, 11, 12, 13, 14, 15, 16, 17, 18, 19, 20, 21, 22, 23] σ σ := HS.start h0
  have hyd11585 := hp0
  obtain ⟨yd11585, yd11586, yd11587, yd11588, yd11589, yd11590, yd11591⟩ := hyd11585
  have hn7 := hp2
  exact lq_X10_tokenE_0 F hQ hob hP hp0 hp1 hp2 hp3 (700 - P.a + 1)  P _ h1 hP (by unfold RA; omega) ⟨⟨(yd11585), (yd11586), (yd11587), (yd11588), (yd11589), (yd11590), (yd11591)⟩, rfl, hp3⟩ (Nat.lt_succ_self _)
