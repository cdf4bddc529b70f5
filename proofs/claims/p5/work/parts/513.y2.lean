theorem isL_b {x : Nat} (h : isL x = true) : 97 ≤ x ∧ x ≤ 122 := by unfold isL at h; simp at h; exact h
theorem isD_b {x : Nat} (h : isD x = true) : 48 ≤ x ∧ x ≤ 57 := by unfold isD at h; simp at h; exact h
theorem isB_n {x : Nat} (h : x ≠ 10) (h2 : x ≠ 32) : isB x = false := by unfold isB; simp; omega
theorem isB_y {x : Nat} (h : x = 10 ∨ x = 32) : isB x = true := by unfold isB; simp; omega
theorem nmcS {t : Nat → Nat} {p e i : Nat} : nmc t p e (i + 1) = nmc t p e i * 32 + (if p + i < e then t (p + i) - 96 else 0) := rfl
theorem nmc_lt {t : Nat → Nat} {p e i : Nat} (hl : ∀ j, p ≤ j → j < e → isL (t j) = true) (hi : i ≤ 5) : nmc t p e i < 33554432 := by
  have h1 := nmc_b (t := t) (p := p) (e := e) (fun j hj => by have h2 := isL_b (hl (p + j) (by omega) hj); omega) i
  have h2 := p32 hi
  have h3 : 32 ^ i ≤ 33554432 := h2
  omega
theorem isL_D {x : Nat} (h : isL x = false) : ¬ isL x = true := by rw [h]; decide
theorem isD_D {x : Nat} (h : isD x = false) : ¬ isD x = true := by rw [h]; decide
set_option maxRecDepth 20000 in
theorem lq_X10_nameHereE_7 {V : VX} {X : MX} {N : Nat} {σ : Mem} {c T Z u h : Nat} {P : NP} {L : Nat → LQ}  {n st : Nat} {so va : Int32} {ln : Nat} {ft fp : Int32} {t : Nat → Nat} (F : Fx V X yX10_nameHere cX10_nameHere 2 none (rmd 0 0 0)) (hQ : Rt V X 0 0 N (fun r τ => HS V c (⟨T, Z, u, h, P, L⟩ : RG) [0, 2, 3, 4, 5, 6, 7, 8, 9, 10, 11, 12, 13, 14, 15, 16, 17, 18, 19, 20, 21, 22, 23] σ τ ∧ YD τ c n st so (nI (nmc t st P.a 6)) ln ft fp ∧ r = none)) (hob : OKB L) (hP : OKP P) (hp0 : YD σ c n st so va ln ft fp) (hp1 : BR σ c n t) (hp2 : n ≤ 700) (hp3 : P.a - st ≤ 6) (hp4 : st ≤ P.a) (hp5 : P.a ≤ n) (hp6 : ∀ i, st ≤ i → i < P.a → isL (t i) = true)  : ∀ (fuel : Nat) (i : Nat) (τ : Mem), HS V c (⟨T, Z, u, h, P, L⟩ : RG) [0, 2, 3, 4, 5, 6, 7, 8, 9, 10, 11, 12, 13, 14, 15, 16, 17, 18, 19, 20, 21, 22, 23] σ τ → YD τ c n st so (nI (nmc t st P.a i)) ln ft fp ∧ i ≤ 6 → 6 - i < fuel → Wm V X 2 N τ 0 0 7 [(0, .ref c), (1, .int (nI i))] [] := by
  intro fuel
  induction fuel with
  | zero => intros; rename_i hm; exact absurd hm (Nat.not_lt_zero _)
  | succ fuel ih =>
    intro i τ h1 hi hm
    have hPP := hP
    unfold OKP at hPP
    have hB1 := hp1.of (h1.2 (c + 1) (by rw [kC_at (k := 1) (by decide)]; decide))
    have hn7 := hp2
    obtain ⟨hY1, i1⟩ := hi
    have hyd11155 := hY1
    obtain ⟨yd11155, yd11156, yd11157, yd11158, yd11159, yd11160, yd11161⟩ := hyd11155
    have hv5 : i ≤ 5 → nmc t st P.a i < 33554432 := fun q => nmc_lt hp6 q
    refine m_iload_n F rfl e_X10_nameHere_7 ?_
    refine m_bipush F (v := 6) (by decide) e_X10_nameHere_8 ?_
    refine m_icmp_ge F e_X10_nameHere_10 (fun q10 => ?_) (fun q10 => ?_)
    · have c10 : i ≥ 6 := (nI_leI (a := 6) (b := i) (by omega) (by omega)).mp q10
      have e6 : i = 6 := by omega
      subst e6
      exact m_vret F hQ e_X10_nameHere_63 (⟨h1, ⟨(yd11155), (yd11156), (yd11157), (yd11158), (yd11159), (yd11160), (yd11161)⟩, rfl⟩)
    · have c10 : i < 6 := by have hh := mt (nI_leI (a := 6) (b := i) (by omega) (by omega)).mpr q10; omega
      refine m_aload_n F rfl e_X10_nameHere_13 ?_
      refine m_aload_n F rfl e_X10_nameHere_14 ?_
      refine r_getC F e_X10_nameHere_15 fl_X10_120 h1 (yd11159) ?_
      refine m_iconst F (v := 5) (by decide) e_X10_nameHere_18 ?_
      refine m_ishl F e_X10_nameHere_19 ?_
      refine m_aload_n F rfl e_X10_nameHere_20 ?_
      refine r_getC F e_X10_nameHere_21 fl_X10_107 h1 (yd11157) ?_
      refine m_iload_n F rfl e_X10_nameHere_24 ?_
      refine m_iadd F e_X10_nameHere_25 ?_
      refine Wm.topE (w := nI (st + i)) (nI_add st i) ?_
      refine m_aload_n F rfl e_X10_nameHere_26 ?_
      refine r_get F e_X10_nameHere_27 fl_X10_97 h1 rfl (fun v hv f11162 => ?_)
      obtain rfl : v = .int (nI (P.a)) := hv
      refine m_icmp_ge F e_X10_nameHere_30 (fun q30 => ?_) (fun q30 => ?_)
      · have c30 : (st + i) ≥ P.a := (nI_leI (a := P.a) (b := (st + i)) (by omega) (by omega)).mp q30
        refine m_iconst F (v := 0) (by decide) e_X10_nameHere_52 ?_
        refine m_ior F e_X10_nameHere_53 ?_
        refine Wm.topE (w := nI (nmc t st P.a (i + 1))) ((yshl5 (d := 0) (hv5 (by omega)) (by omega)).trans (congrArg nI (by rw [nmcS, if_neg (by omega)]; try omega))) ?_
        refine r_put F (g' := (⟨T, Z, u, h, P, L⟩ : RG)) e_X10_nameHere_54 fp_X10_120 h1 (by decide) ⟨_, rfl⟩ (fun _ _ _ _ q => q) (fun _ _ _ q => q) rfl rfl (by decide) (fun σ11163 h11164 g11165 g11166 f11167 => ?_)
        have ga11168 := hB1.of (g11165 _ (by omega))
        refine m_iinc F (v := nI (i + 1)) (lv' := [(1, .int (nI (i + 1))), (0, .ref c)]) e_X10_nameHere_57 rfl (nI_add i 1) (by decide) rfl ?_
        refine m_goto F e_X10_nameHere_60 ?_
        refine Wm.lvsub (lv' := [(0, .ref c), (1, .int (nI (i + 1)))]) ?_ [1, 0] rfl
        exact ih (i + 1) _ h11164 ⟨⟨((g11166 17 (by decide)).trans yd11155), ((g11166 18 (by decide)).trans yd11156), ((g11166 20 (by decide)).trans yd11157), ((g11166 21 (by decide)).trans yd11158), (f11167), ((g11166 23 (by decide)).trans yd11160), ((g11166 24 (by decide)).trans yd11161)⟩, by omega⟩ (by omega)
      · have c30 : (st + i) < P.a := by have hh := mt (nI_leI (a := P.a) (b := (st + i)) (by omega) (by omega)).mpr q30; omega
        refine m_aload_n F rfl e_X10_nameHere_33 ?_
        refine r_get F e_X10_nameHere_34 fl_X10_7 h1 rfl (fun v hv f11169 => ?_)
        obtain rfl : v = .ref (c + 1) := hv
        refine m_aload_n F rfl e_X10_nameHere_37 ?_
        refine r_getC F e_X10_nameHere_38 fl_X10_107 h1 (yd11157) ?_
        refine m_iload_n F rfl e_X10_nameHere_41 ?_
        refine m_iadd F e_X10_nameHere_42 ?_
        refine Wm.topE (w := nI (st + i)) (nI_add st i) ?_
        have hb11170 := (hB1 (st + i) (by omega)).1
        refine r_iald F (len := 700) (j := st + i) e_X10_nameHere_43 h1 (fun _ h => h) (by decide) (nI_clamp (by omega)) (vp_in_nI (by omega) (by decide)) (fun x11171 h11172 f11173 => ?_)
        obtain rfl := Option.some.inj ((f11173).symm.trans ((hB1 (st + i) (by omega)).2))
        have hl9 := isL_b (hp6 (st + i) (by omega) (by omega))
        have hl9 := isL_b (hp6 (st + i) (by omega) (by omega))
        have hl9 := isL_b (hp6 (st + i) (by omega) (by omega))
        refine m_bipush F (v := 97) (by decide) e_X10_nameHere_44 ?_
        refine m_isub F e_X10_nameHere_46 ?_
        refine Wm.topE (w := nI ((t (st + i)) - 97)) (pk_sub (a := t (st + i)) (b := 97) (by omega)) ?_
        refine m_iconst F (v := 1) (by decide) e_X10_nameHere_47 ?_
        refine m_iadd F e_X10_nameHere_48 ?_
        refine Wm.topE (w := nI ((t (st + i)) - 97 + 1)) (nI_add ((t (st + i)) - 97) 1) ?_
        refine m_goto F e_X10_nameHere_49 ?_
        refine m_ior F e_X10_nameHere_53 ?_
        refine Wm.topE (w := nI (nmc t st P.a (i + 1))) ((yshl5 (d := (t (st + i)) - 97 + 1) (hv5 (by omega)) (by omega)).trans (congrArg nI (by rw [nmcS, if_pos (by omega)]; try omega))) ?_
        refine r_put F (g' := (⟨T, Z, u, h, P, L⟩ : RG)) e_X10_nameHere_54 fp_X10_120 h1 (by decide) ⟨_, rfl⟩ (fun _ _ _ _ q => q) (fun _ _ _ q => q) rfl rfl (by decide) (fun σ11174 h11175 g11176 g11177 f11178 => ?_)
        have ga11179 := hB1.of (g11176 _ (by omega))
        refine m_iinc F (v := nI (i + 1)) (lv' := [(1, .int (nI (i + 1))), (0, .ref c)]) e_X10_nameHere_57 rfl (nI_add i 1) (by decide) rfl ?_
        refine m_goto F e_X10_nameHere_60 ?_
        refine Wm.lvsub (lv' := [(0, .ref c), (1, .int (nI (i + 1)))]) ?_ [1, 0] rfl
        exact ih (i + 1) _ h11175 ⟨⟨((g11177 17 (by decide)).trans yd11155), ((g11177 18 (by decide)).trans yd11156), ((g11177 20 (by decide)).trans yd11157), ((g11177 21 (by decide)).trans yd11158), (f11178), ((g11177 23 (by decide)).trans yd11160), ((g11177 24 (by decide)).trans yd11161)⟩, by omega⟩ (by omega)
set_option maxRecDepth 20000 in
theorem q_X10_nameHereE (l : Launch) (V : VX) (c T Z u h : Nat) (P : NP) (L : Nat → LQ) (N : Nat) (σ : Mem) (n st : Nat) (so va : Int32) (ln : Nat) (ft fp : Int32) (t : Nat → Nat) (h0 : HR V c ⟨T, Z, u, h, P, L⟩ σ) (hob : OKB L) (hP : OKP P) (hp0 : YD σ c n st so va ln ft fp) (hp1 : BR σ c n t) (hp2 : n ≤ 700) (hp3 : P.a - st ≤ 6) (hp4 : st ≤ P.a) (hp5 : P.a ≤ n) (hp6 : ∀ i, st ≤ i → i < P.a → isL (t i) = true) : Ct l V yX10_nameHere cX10_nameHere 2 none 0 0 0 N σ [.ref c] (fun r τ => HS V c (⟨T, Z, u, h, P, L⟩ : RG) [0, 2, 3, 4, 5, 6, 7, 8, 9, 10, 11, 12, 13, 14, 15, 16, 17, 18, 19, 20, 21, 22, 23] σ τ ∧ YD τ c n st so (nI (nmc t st P.a 6)) ln ft fp ∧ r = none) := by
  refine Ct.of (by decide) (Nat.le_of_ble_eq_true rfl) [(0, .ref c)] rfl (fun X hX F hQ => ?_)
  have hPP := hP
  unfold OKP at hPP
  have h1 : HS V c ⟨T, Z, u, h, P, L⟩ [0, 2, 3, 4, 5, 6, 7, 8, 9, 10, 11, 12, 13, 14, 15, 16, 17, 18, 19, 20, 21, 22, 23] σ σ := HS.start h0
  have hyd11180 := hp0
  obtain ⟨yd11180, yd11181, yd11182, yd11183, yd11184, yd11185, yd11186⟩ := hyd11180
  have hn7 := hp2
  refine m_aload_n F rfl e_X10_nameHere_0 ?_
  refine m_iconst F (v := 0) (by decide) e_X10_nameHere_1 ?_
  refine r_put F (g' := (⟨T, Z, u, h, P, L⟩ : RG)) e_X10_nameHere_2 fp_X10_120 h1 (by decide) ⟨_, rfl⟩ (fun _ _ _ _ q => q) (fun _ _ _ q => q) rfl rfl (by decide) (fun σ11187 h11188 g11189 g11190 f11191 => ?_)
  have ga11192 := hp1.of (g11189 _ (by omega))
  refine m_iconst F (v := 0) (by decide) e_X10_nameHere_5 ?_
  refine m_istore_n F (lv' := [(1, .int 0), (0, .ref c)]) e_X10_nameHere_6 (by decide) rfl ?_
  refine Wm.lvsub (lv' := [(0, .ref c), (1, .int 0)]) ?_ [1, 0] rfl
  exact lq_X10_nameHereE_7 F hQ hob hP hp0 hp1 hp2 hp3 hp4 hp5 hp6 (6 - 0 + 1) 0 _ h11188 ⟨⟨((g11190 17 (by decide)).trans yd11180), ((g11190 18 (by decide)).trans yd11181), ((g11190 20 (by decide)).trans yd11182), ((g11190 21 (by decide)).trans yd11183), (f11191), ((g11190 23 (by decide)).trans yd11185), ((g11190 24 (by decide)).trans yd11186)⟩, by omega⟩ (Nat.lt_succ_self _)
set_option maxRecDepth 20000 in
theorem lq_X10_tokenE_162 {V : VX} {X : MX} {N : Nat} {σ : Mem} {c T Z u h : Nat} {P : NP} {L : Nat → LQ}  {n st : Nat} {so va : Int32} {ln : Nat} {ft fp : Int32} {t : Nat → Nat} (F : Fx V X yX10_token cX10_token 2 none (rmd 5 0 0)) (hQ : Rt V X 0 0 N (fun r τ => ∃ P9 : NP, OKP P9 ∧ RA P P9 ∧ P9.a = (tok t n P.a).2.2.2 ∧ (∃ so2 va2, MT so2 va2 (tok t n P.a).2.1 (tok t n P.a).2.2.1 ∧ YD τ c n (tok t n P.a).1 so2 va2 ln ft fp) ∧ HS V c (⟨T, Z, u, h, P9, L⟩ : RG) [0, 2, 3, 4, 5, 6, 7, 8, 9, 10, 11, 12, 13, 14, 15, 16, 17, 18, 19, 20, 21, 22, 23] σ τ ∧ r = none)) (hob : OKB L) (hP : OKP P) (hp0 : YD σ c n st so va ln ft fp) (hp1 : BR σ c n t) (hp2 : n ≤ 700) (hp3 : P.a ≤ n)  : ∀ (fuel : Nat) (p1 v1 : Nat) (P1 : NP) (τ : Mem), HS V c (⟨T, Z, u, h, P1, L⟩ : RG) [0, 2, 3, 4, 5, 6, 7, 8, 9, 10, 11, 12, 13, 14, 15, 16, 17, 18, 19, 20, 21, 22, 23] σ τ → OKP P1 → RA P P1 → YD τ c n p1 2 (nI v1) ln ft fp ∧ p1 = sc isB t n P.a ∧ p1 < n ∧ isL (t p1) = false ∧ isD (t p1) = true ∧ p1 ≤ P1.a ∧ P1.a ≤ n ∧ v1 ≤ 1000000000 ∧ min v1 10000000 = nuc t p1 (P1.a - p1) ∧ sc isD t n p1 = sc isD t n P1.a → 700 - P1.a < fuel → Wm V X 2 N τ 0 0 162 [(0, .ref c)] [] := by
  intro fuel
  induction fuel with
  | zero => intros; rename_i hm; exact absurd hm (Nat.not_lt_zero _)
  | succ fuel ih =>
    intro p1 v1 P1 τ h1 hP1 hR1 hi hm
    have hPP := hP
    unfold OKP at hPP
    have hPP1 := hP1
    unfold OKP at hPP1
    unfold RA at hR1
    have hB1 := hp1.of (h1.2 (c + 1) (by rw [kC_at (k := 1) (by decide)]; decide))
    have hn7 := hp2
    obtain ⟨hY1, i1, i2, i3, i4, i5, i6, i7, i8, i9⟩ := hi
    have hyd11193 := hY1
    obtain ⟨yd11193, yd11194, yd11195, yd11196, yd11197, yd11198, yd11199⟩ := hyd11193
    refine m_aload_n F rfl e_X10_token_162 ?_
    refine r_callV F e_X10_token_163 (q_X10_hereE (x_l X) V c T Z u h P1 L _ _  n t h1.1 (hob) hP1  (yd11194) hB1 hn7) cb_X10_here ml_X10_103 im_X10_here se_X10_here h1 rfl rfl (rest := []) rfl (Nat.le_of_ble_eq_true rfl) ⟨Nat.le_of_ble_eq_true rfl, Nat.le_of_ble_eq_true rfl⟩ ⟨Nat.le_of_ble_eq_true rfl, Nat.le_of_ble_eq_true rfl⟩ (fun r σ11200 hp => ?_)
    obtain ⟨h11201, hp⟩ := hp
    have h11202 := HS.trans h1 h11201 (by decide)
    have ga11203 := hB1.of (h11201.2 (c + 1) (by rw [kC_at (k := 1) (by decide)]; decide))
    rcases hp with ⟨he11204, rfl⟩ | ⟨he11204, hb11205, rfl⟩
    · refine m_callS F e_X10_token_166 (q_X10_isDigit2 (x_l X) V _ _ (-1)) cb_X10_isDigit ml_X10_126 sm_X10_isDigit rfl (rest := []) rfl (Nat.le_of_ble_eq_true rfl) ⟨Nat.le_of_ble_eq_true rfl, Nat.le_of_ble_eq_true rfl⟩ ⟨Nat.le_of_ble_eq_true rfl, Nat.le_of_ble_eq_true rfl⟩ (k' := 0) (z' := 0) (N' := N) rfl rfl rfl (fun r σ11206 hp => ?_)
      obtain ⟨rfl, hp⟩ := hp
      rcases hp with ⟨g11207, rfl⟩ | ⟨g11207, rfl⟩
      · refine m_if_eq F e_X10_token_169 (fun _ => ?_) (fun q => absurd (by decide) q)
        have e9 := i1.symm
        have eD : sc isD t n p1 = P1.a := i9.trans (sc_stop (Or.inl (by omega)))
        have et : tok t n P.a = (p1, 3, nuc t p1 (P1.a - p1), P1.a) := by unfold tok; simp only [e9, eD]; rw [if_neg (by omega), if_neg (isL_D i3), if_pos i4]
        exact m_vret F hQ e_X10_token_245 (⟨P1, hP1, (by unfold RA; omega), (by have e8 : (tok t n P.a).2.2.2 = P1.a := (by rw [et]); omega), ⟨2, (nI v1), by rw [et]; exact Or.inr (Or.inr (Or.inr (Or.inl ⟨rfl, rfl, v1, by omega, rfl, i8⟩))), by rw [et]; exact ⟨((fld_eq (h11201.2 c (by rw [show kC c c = 1 from kC_at (k := 0) (by decide)]; decide))).trans yd11193), ((fld_eq (h11201.2 c (by rw [show kC c c = 1 from kC_at (k := 0) (by decide)]; decide))).trans yd11194), ((fld_eq (h11201.2 c (by rw [show kC c c = 1 from kC_at (k := 0) (by decide)]; decide))).trans yd11195), ((fld_eq (h11201.2 c (by rw [show kC c c = 1 from kC_at (k := 0) (by decide)]; decide))).trans yd11196), ((fld_eq (h11201.2 c (by rw [show kC c c = 1 from kC_at (k := 0) (by decide)]; decide))).trans yd11197), ((fld_eq (h11201.2 c (by rw [show kC c c = 1 from kC_at (k := 0) (by decide)]; decide))).trans yd11198), ((fld_eq (h11201.2 c (by rw [show kC c c = 1 from kC_at (k := 0) (by decide)]; decide))).trans yd11199)⟩⟩, h11202, rfl⟩)
      · exact absurd g11207 (by decide)
    · refine m_callS F e_X10_token_166 (q_X10_isDigit2 (x_l X) V _ _ (nI (t P1.a))) cb_X10_isDigit ml_X10_126 sm_X10_isDigit rfl (rest := []) rfl (Nat.le_of_ble_eq_true rfl) ⟨Nat.le_of_ble_eq_true rfl, Nat.le_of_ble_eq_true rfl⟩ ⟨Nat.le_of_ble_eq_true rfl, Nat.le_of_ble_eq_true rfl⟩ (k' := 0) (z' := 0) (N' := N) rfl rfl rfl (fun r σ11208 hp => ?_)
      obtain ⟨rfl, hp⟩ := hp
      rcases hp with ⟨g11209, rfl⟩ | ⟨g11209, rfl⟩
      · have kg11209 : isD (t P1.a) = false := isD_f (by omega) g11209
        refine m_if_eq F e_X10_token_169 (fun _ => ?_) (fun q => absurd (by decide) q)
        have e9 := i1.symm
        have eD : sc isD t n p1 = P1.a := i9.trans (sc_stop (Or.inr kg11209))
        have et : tok t n P.a = (p1, 3, nuc t p1 (P1.a - p1), P1.a) := by unfold tok; simp only [e9, eD]; rw [if_neg (by omega), if_neg (isL_D i3), if_pos i4]
        exact m_vret F hQ e_X10_token_245 (⟨P1, hP1, (by unfold RA; omega), (by have e8 : (tok t n P.a).2.2.2 = P1.a := (by rw [et]); omega), ⟨2, (nI v1), by rw [et]; exact Or.inr (Or.inr (Or.inr (Or.inl ⟨rfl, rfl, v1, by omega, rfl, i8⟩))), by rw [et]; exact ⟨((fld_eq (h11201.2 c (by rw [show kC c c = 1 from kC_at (k := 0) (by decide)]; decide))).trans yd11193), ((fld_eq (h11201.2 c (by rw [show kC c c = 1 from kC_at (k := 0) (by decide)]; decide))).trans yd11194), ((fld_eq (h11201.2 c (by rw [show kC c c = 1 from kC_at (k := 0) (by decide)]; decide))).trans yd11195), ((fld_eq (h11201.2 c (by rw [show kC c c = 1 from kC_at (k := 0) (by decide)]; decide))).trans yd11196), ((fld_eq (h11201.2 c (by rw [show kC c c = 1 from kC_at (k := 0) (by decide)]; decide))).trans yd11197), ((fld_eq (h11201.2 c (by rw [show kC c c = 1 from kC_at (k := 0) (by decide)]; decide))).trans yd11198), ((fld_eq (h11201.2 c (by rw [show kC c c = 1 from kC_at (k := 0) (by decide)]; decide))).trans yd11199)⟩⟩, h11202, rfl⟩)
      · have kg11209 : isD (t P1.a) = true := isD_t (by omega) g11209
        refine m_if_eq F e_X10_token_169 (fun q => absurd q (by decide)) (fun _ => ?_)
        refine m_aload_n F rfl e_X10_token_172 ?_
        refine m_aload_n F rfl e_X10_token_173 ?_
        refine r_getC F e_X10_token_174 fl_X10_120 h11202 ((fld_eq (h11201.2 c (by rw [show kC c c = 1 from kC_at (k := 0) (by decide)]; decide))).trans yd11197) ?_
        refine m_ldc F kc_X10_129 e_X10_token_177 ?_
        refine m_icmp_le F e_X10_token_179 (fun q179 => ?_) (fun q179 => ?_)
        · have c179 : v1 ≤ 9999999 := (nI_leI (a := v1) (b := 9999999) (by omega) (by omega)).mp q179
          refine m_bipush F (v := 10) (by decide) e_X10_token_189 ?_
          refine m_aload_n F rfl e_X10_token_191 ?_
          refine r_getC F e_X10_token_192 fl_X10_120 h11202 ((fld_eq (h11201.2 c (by rw [show kC c c = 1 from kC_at (k := 0) (by decide)]; decide))).trans yd11197) ?_
          refine m_imul F e_X10_token_195 ?_
          refine Wm.topE (w := nI (10 * v1)) (pk_mul 10 v1) ?_
          refine m_aload_n F rfl e_X10_token_196 ?_
          refine r_callV F e_X10_token_197 (q_X10_hereE (x_l X) V c T Z u h P1 L _ _  n t h11202.1 (hob) hP1  ((fld_eq (h11201.2 c (by rw [show kC c c = 1 from kC_at (k := 0) (by decide)]; decide))).trans yd11194) ga11203 hn7) cb_X10_here ml_X10_103 im_X10_here se_X10_here h11202 rfl rfl (rest := [.int (nI (10 * v1)), .ref c]) rfl (Nat.le_of_ble_eq_true rfl) ⟨Nat.le_of_ble_eq_true rfl, Nat.le_of_ble_eq_true rfl⟩ ⟨Nat.le_of_ble_eq_true rfl, Nat.le_of_ble_eq_true rfl⟩ (fun r σ11210 hp => ?_)
          obtain ⟨h11211, hp⟩ := hp
          have h11212 := HS.trans h11202 h11211 (by decide)
          have ga11213 := ga11203.of (h11211.2 (c + 1) (by rw [kC_at (k := 1) (by decide)]; decide))
          rcases hp with ⟨he11214, rfl⟩ | ⟨he11214, hb11215, rfl⟩
          · exfalso; omega
          · refine m_iadd F e_X10_token_200 ?_
            refine Wm.topE (w := nI ((10 * v1) + (t P1.a))) (nI_add (10 * v1) (t P1.a)) ?_
            have hd8 := isD_b kg11209
            have hd8 := isD_b kg11209
            have hd8 := isD_b kg11209
            refine m_bipush F (v := 48) (by decide) e_X10_token_201 ?_
            refine m_isub F e_X10_token_203 ?_
            refine Wm.topE (w := nI (((10 * v1) + (t P1.a)) - 48)) (pk_sub (a := (10 * v1) + (t P1.a)) (b := 48) (by omega)) ?_
            refine r_put F (g' := (⟨T, Z, u, h, P1, L⟩ : RG)) e_X10_token_204 fp_X10_120 h11212 (by decide) ⟨_, rfl⟩ (fun _ _ _ _ q => q) (fun _ _ _ q => q) rfl rfl (by decide) (fun σ11216 h11217 g11218 g11219 f11220 => ?_)
            have ga11221 := ga11213.of (g11218 _ (by omega))
            refine m_aload_n F rfl e_X10_token_207 ?_
            refine m_dup F rfl e_X10_token_208 ?_
            refine r_get F e_X10_token_209 fl_X10_97 h11217 rfl (fun v hv f11222 => ?_)
            obtain rfl : v = .int (nI (P1.a)) := hv
            refine m_iconst F (v := 1) (by decide) e_X10_token_212 ?_
            refine m_iadd F e_X10_token_213 ?_
            refine Wm.topE (w := nI (P1.a + 1)) (nI_add P1.a 1) ?_
            refine r_put F (g' := (⟨T, Z, u, h, (mkP P1.n0 P1.n2 P1.n5 P1.n7 P1.m0 P1.m5 P1.w2 P1.w7 P1.kk (P1.a + 1) P1.b0 P1.b1 P1.b2 P1.b3), L⟩ : RG)) e_X10_token_214 fp_X10_97 h11217 (by decide) rfl ctl_a CR.setA rfl rfl (by decide) (fun σ11223 h11224 g11225 g11226 f11227 => ?_)
            have ga11228 := ga11221.of (g11225 _ (by omega))
            obtain ⟨P11229, eP11229⟩ : ∃ P9, P9 = (mkP P1.n0 P1.n2 P1.n5 P1.n7 P1.m0 P1.m5 P1.w2 P1.w7 P1.kk (P1.a + 1) P1.b0 P1.b1 P1.b2 P1.b3) := ⟨_, rfl⟩
            rw [← eP11229] at h11224
            have fP11229 : P11229.n0 = P1.n0 ∧ P11229.n2 = P1.n2 ∧ P11229.n5 = P1.n5 ∧ P11229.n7 = P1.n7 ∧ P11229.m0 = P1.m0 ∧ P11229.m5 = P1.m5 ∧ P11229.w2 = P1.w2 ∧ P11229.w7 = P1.w7 ∧ P11229.kk = P1.kk ∧ P11229.a = P1.a + 1 ∧ P11229.b0 = P1.b0 ∧ P11229.b1 = P1.b1 ∧ P11229.b2 = P1.b2 ∧ P11229.b3 = P1.b3 := by rw [eP11229]; exact ⟨rfl, rfl, rfl, rfl, rfl, rfl, rfl, rfl, rfl, rfl, rfl, rfl, rfl, rfl⟩
            refine m_goto F e_X10_token_217 ?_
            have oP11230 : OKP P11229 := by unfold OKP; omega
            have hd9 := isD_b kg11209
            exact ih p1 (((10 * v1) + (t P1.a)) - 48) P11229 _ h11224 oP11230 (by unfold RA; omega) ⟨⟨((g11226 17 (by decide)).trans ((g11219 17 (by decide)).trans ((fld_eq (h11211.2 c (by rw [show kC c c = 1 from kC_at (k := 0) (by decide)]; decide))).trans ((fld_eq (h11201.2 c (by rw [show kC c c = 1 from kC_at (k := 0) (by decide)]; decide))).trans yd11193)))), ((g11226 18 (by decide)).trans ((g11219 18 (by decide)).trans ((fld_eq (h11211.2 c (by rw [show kC c c = 1 from kC_at (k := 0) (by decide)]; decide))).trans ((fld_eq (h11201.2 c (by rw [show kC c c = 1 from kC_at (k := 0) (by decide)]; decide))).trans yd11194)))), ((g11226 20 (by decide)).trans ((g11219 20 (by decide)).trans ((fld_eq (h11211.2 c (by rw [show kC c c = 1 from kC_at (k := 0) (by decide)]; decide))).trans ((fld_eq (h11201.2 c (by rw [show kC c c = 1 from kC_at (k := 0) (by decide)]; decide))).trans yd11195)))), ((g11226 21 (by decide)).trans ((g11219 21 (by decide)).trans ((fld_eq (h11211.2 c (by rw [show kC c c = 1 from kC_at (k := 0) (by decide)]; decide))).trans ((fld_eq (h11201.2 c (by rw [show kC c c = 1 from kC_at (k := 0) (by decide)]; decide))).trans yd11196)))), ((g11226 22 (by decide)).trans f11220), ((g11226 23 (by decide)).trans ((g11219 23 (by decide)).trans ((fld_eq (h11211.2 c (by rw [show kC c c = 1 from kC_at (k := 0) (by decide)]; decide))).trans ((fld_eq (h11201.2 c (by rw [show kC c c = 1 from kC_at (k := 0) (by decide)]; decide))).trans yd11198)))), ((g11226 24 (by decide)).trans ((g11219 24 (by decide)).trans ((fld_eq (h11211.2 c (by rw [show kC c c = 1 from kC_at (k := 0) (by decide)]; decide))).trans ((fld_eq (h11201.2 c (by rw [show kC c c = 1 from kC_at (k := 0) (by decide)]; decide))).trans yd11199))))⟩, i1, i2, i3, i4, by omega, by omega, by omega, by rw [show P11229.a - p1 = (P1.a - p1) + 1 by omega]; show _ = min (nuc t p1 (P1.a - p1) * 10 + (t (p1 + (P1.a - p1)) - 48)) 10000000; rw [show p1 + (P1.a - p1) = P1.a by omega]; omega, by rw [i9, show P11229.a = P1.a + 1 by omega]; exact sc_go (by omega) kg11209⟩ (by omega)
        · have c179 : v1 > 9999999 := by have hh := mt (nI_leI (a := v1) (b := 9999999) (by omega) (by omega)).mpr q179; omega
          refine m_aload_n F rfl e_X10_token_182 ?_
          refine r_getC F e_X10_token_183 fl_X10_120 h11202 ((fld_eq (h11201.2 c (by rw [show kC c c = 1 from kC_at (k := 0) (by decide)]; decide))).trans yd11197) ?_
          refine m_goto F e_X10_token_186 ?_
          refine r_put F (g' := (⟨T, Z, u, h, P1, L⟩ : RG)) e_X10_token_204 fp_X10_120 h11202 (by decide) ⟨_, rfl⟩ (fun _ _ _ _ q => q) (fun _ _ _ q => q) rfl rfl (by decide) (fun σ11231 h11232 g11233 g11234 f11235 => ?_)
          have ga11236 := ga11203.of (g11233 _ (by omega))
          refine m_aload_n F rfl e_X10_token_207 ?_
          refine m_dup F rfl e_X10_token_208 ?_
          refine r_get F e_X10_token_209 fl_X10_97 h11232 rfl (fun v hv f11237 => ?_)
          obtain rfl : v = .int (nI (P1.a)) := hv
          refine m_iconst F (v := 1) (by decide) e_X10_token_212 ?_
          refine m_iadd F e_X10_token_213 ?_
          refine Wm.topE (w := nI (P1.a + 1)) (nI_add P1.a 1) ?_
          refine r_put F (g' := (⟨T, Z, u, h, (mkP P1.n0 P1.n2 P1.n5 P1.n7 P1.m0 P1.m5 P1.w2 P1.w7 P1.kk (P1.a + 1) P1.b0 P1.b1 P1.b2 P1.b3), L⟩ : RG)) e_X10_token_214 fp_X10_97 h11232 (by decide) rfl ctl_a CR.setA rfl rfl (by decide) (fun σ11238 h11239 g11240 g11241 f11242 => ?_)
          have ga11243 := ga11236.of (g11240 _ (by omega))
          obtain ⟨P11244, eP11244⟩ : ∃ P9, P9 = (mkP P1.n0 P1.n2 P1.n5 P1.n7 P1.m0 P1.m5 P1.w2 P1.w7 P1.kk (P1.a + 1) P1.b0 P1.b1 P1.b2 P1.b3) := ⟨_, rfl⟩
          rw [← eP11244] at h11239
          have fP11244 : P11244.n0 = P1.n0 ∧ P11244.n2 = P1.n2 ∧ P11244.n5 = P1.n5 ∧ P11244.n7 = P1.n7 ∧ P11244.m0 = P1.m0 ∧ P11244.m5 = P1.m5 ∧ P11244.w2 = P1.w2 ∧ P11244.w7 = P1.w7 ∧ P11244.kk = P1.kk ∧ P11244.a = P1.a + 1 ∧ P11244.b0 = P1.b0 ∧ P11244.b1 = P1.b1 ∧ P11244.b2 = P1.b2 ∧ P11244.b3 = P1.b3 := by rw [eP11244]; exact ⟨rfl, rfl, rfl, rfl, rfl, rfl, rfl, rfl, rfl, rfl, rfl, rfl, rfl, rfl⟩
          refine m_goto F e_X10_token_217 ?_
          have oP11245 : OKP P11244 := by unfold OKP; omega
          have hd9 := isD_b kg11209
          exact ih p1 v1 P11244 _ h11239 oP11245 (by unfold RA; omega) ⟨⟨((g11241 17 (by decide)).trans ((g11234 17 (by decide)).trans ((fld_eq (h11201.2 c (by rw [show kC c c = 1 from kC_at (k := 0) (by decide)]; decide))).trans yd11193))), ((g11241 18 (by decide)).trans ((g11234 18 (by decide)).trans ((fld_eq (h11201.2 c (by rw [show kC c c = 1 from kC_at (k := 0) (by decide)]; decide))).trans yd11194))), ((g11241 20 (by decide)).trans ((g11234 20 (by decide)).trans ((fld_eq (h11201.2 c (by rw [show kC c c = 1 from kC_at (k := 0) (by decide)]; decide))).trans yd11195))), ((g11241 21 (by decide)).trans ((g11234 21 (by decide)).trans ((fld_eq (h11201.2 c (by rw [show kC c c = 1 from kC_at (k := 0) (by decide)]; decide))).trans yd11196))), ((g11241 22 (by decide)).trans f11235), ((g11241 23 (by decide)).trans ((g11234 23 (by decide)).trans ((fld_eq (h11201.2 c (by rw [show kC c c = 1 from kC_at (k := 0) (by decide)]; decide))).trans yd11198))), ((g11241 24 (by decide)).trans ((g11234 24 (by decide)).trans ((fld_eq (h11201.2 c (by rw [show kC c c = 1 from kC_at (k := 0) (by decide)]; decide))).trans yd11199)))⟩, i1, i2, i3, i4, by omega, by omega, by omega, by rw [show P11244.a - p1 = (P1.a - p1) + 1 by omega]; show _ = min (nuc t p1 (P1.a - p1) * 10 + (t (p1 + (P1.a - p1)) - 48)) 10000000; rw [show p1 + (P1.a - p1) = P1.a by omega]; omega, by rw [i9, show P11244.a = P1.a + 1 by omega]; exact sc_go (by omega) kg11209⟩ (by omega)
set_option maxRecDepth 20000 in
theorem lq_X10_tokenE_64 {V : VX} {X : MX} {N : Nat} {σ : Mem} {c T Z u h : Nat} {P : NP} {L : Nat → LQ}  {n st : Nat} {so va : Int32} {ln : Nat} {ft fp : Int32} {t : Nat → Nat} (F : Fx V X yX10_token cX10_token 2 none (rmd 5 0 0)) (hQ : Rt V X 0 0 N (fun r τ => ∃ P9 : NP, OKP P9 ∧ RA P P9 ∧ P9.a = (tok t n P.a).2.2.2 ∧ (∃ so2 va2, MT so2 va2 (tok t n P.a).2.1 (tok t n P.a).2.2.1 ∧ YD τ c n (tok t n P.a).1 so2 va2 ln ft fp) ∧ HS V c (⟨T, Z, u, h, P9, L⟩ : RG) [0, 2, 3, 4, 5, 6, 7, 8, 9, 10, 11, 12, 13, 14, 15, 16, 17, 18, 19, 20, 21, 22, 23] σ τ ∧ r = none)) (hob : OKB L) (hP : OKP P) (hp0 : YD σ c n st so va ln ft fp) (hp1 : BR σ c n t) (hp2 : n ≤ 700) (hp3 : P.a ≤ n)  : ∀ (fuel : Nat) (p1 : Nat) (P1 : NP) (τ : Mem), HS V c (⟨T, Z, u, h, P1, L⟩ : RG) [0, 2, 3, 4, 5, 6, 7, 8, 9, 10, 11, 12, 13, 14, 15, 16, 17, 18, 19, 20, 21, 22, 23] σ τ → OKP P1 → RA P P1 → YD τ c n p1 so va ln ft fp ∧ p1 = sc isB t n P.a ∧ p1 < n ∧ isL (t p1) = true ∧ p1 ≤ P1.a ∧ P1.a ≤ n ∧ sc isL t n p1 = sc isL t n P1.a → 700 - P1.a < fuel → Wm V X 2 N τ 0 0 64 [(0, .ref c)] [] := by
  intro fuel
  induction fuel with
  | zero => intros; rename_i hm; exact absurd hm (Nat.not_lt_zero _)
  | succ fuel ih =>
    intro p1 P1 τ h1 hP1 hR1 hi hm
    have hPP := hP
    unfold OKP at hPP
    have hPP1 := hP1
    unfold OKP at hPP1
    unfold RA at hR1
    have hB1 := hp1.of (h1.2 (c + 1) (by rw [kC_at (k := 1) (by decide)]; decide))
    have hn7 := hp2
    obtain ⟨hY1, i1, i2, i3, i4, i5, i6⟩ := hi
    have hyd11246 := hY1
    obtain ⟨yd11246, yd11247, yd11248, yd11249, yd11250, yd11251, yd11252⟩ := hyd11246
    refine m_aload_n F rfl e_X10_token_64 ?_
    refine r_callV F e_X10_token_65 (q_X10_hereE (x_l X) V c T Z u h P1 L _ _  n t h1.1 (hob) hP1  (yd11247) hB1 hn7) cb_X10_here ml_X10_103 im_X10_here se_X10_here h1 rfl rfl (rest := []) rfl (Nat.le_of_ble_eq_true rfl) ⟨Nat.le_of_ble_eq_true rfl, Nat.le_of_ble_eq_true rfl⟩ ⟨Nat.le_of_ble_eq_true rfl, Nat.le_of_ble_eq_true rfl⟩ (fun r σ11253 hp => ?_)
    obtain ⟨h11254, hp⟩ := hp
    have h11255 := HS.trans h1 h11254 (by decide)
    have ga11256 := hB1.of (h11254.2 (c + 1) (by rw [kC_at (k := 1) (by decide)]; decide))
    rcases hp with ⟨he11257, rfl⟩ | ⟨he11257, hb11258, rfl⟩
    · refine m_callS F e_X10_token_68 (q_X10_isSmall2 (x_l X) V _ _ (-1)) cb_X10_isSmall ml_X10_113 sm_X10_isSmall rfl (rest := []) rfl (Nat.le_of_ble_eq_true rfl) ⟨Nat.le_of_ble_eq_true rfl, Nat.le_of_ble_eq_true rfl⟩ ⟨Nat.le_of_ble_eq_true rfl, Nat.le_of_ble_eq_true rfl⟩ (k' := 0) (z' := 0) (N' := N) rfl rfl rfl (fun r σ11259 hp => ?_)
      obtain ⟨rfl, hp⟩ := hp
      rcases hp with ⟨g11260, rfl⟩ | ⟨g11260, rfl⟩
      · refine m_if_eq F e_X10_token_71 (fun _ => ?_) (fun q => absurd (by decide) q)
        refine m_aload_n F rfl e_X10_token_87 ?_
        have eL : sc isL t n p1 = P1.a := i6.trans (sc_stop (Or.inl (by omega)))
        have hL1 : p1 < P1.a := by have h8 := sc_go (p := isL) (t := t) i2 i3; have h9 := sc_in (p := isL) (t := t) (n := n) (a := p1 + 1) (by omega); omega
        have hll : ∀ i, p1 ≤ i → i < P1.a → isL (t i) = true := fun i a1 a2 => scan_all (n - p1) p1 i a1 (by show i < sc isL t n p1; omega)
        have eL : sc isL t n p1 = P1.a := i6.trans (sc_stop (Or.inl (by omega)))
        have hL1 : p1 < P1.a := by have h8 := sc_go (p := isL) (t := t) i2 i3; have h9 := sc_in (p := isL) (t := t) (n := n) (a := p1 + 1) (by omega); omega
        have hll : ∀ i, p1 ≤ i → i < P1.a → isL (t i) = true := fun i a1 a2 => scan_all (n - p1) p1 i a1 (by show i < sc isL t n p1; omega)
        have eL : sc isL t n p1 = P1.a := i6.trans (sc_stop (Or.inl (by omega)))
        have hL1 : p1 < P1.a := by have h8 := sc_go (p := isL) (t := t) i2 i3; have h9 := sc_in (p := isL) (t := t) (n := n) (a := p1 + 1) (by omega); omega
        have hll : ∀ i, p1 ≤ i → i < P1.a → isL (t i) = true := fun i a1 a2 => scan_all (n - p1) p1 i a1 (by show i < sc isL t n p1; omega)
        refine m_aload_n F rfl e_X10_token_88 ?_
        refine r_callV F e_X10_token_89 (q_X10_wordHereE (x_l X) V c T Z u h P1 L _ _  n p1 t h11255.1 (hob) hP1  ((fld_eq (h11254.2 c (by rw [show kC c c = 1 from kC_at (k := 0) (by decide)]; decide))).trans yd11248) ga11256 hn7 hL1 (by omega) hll) cb_X10_wordHere ml_X10_117 im_X10_wordHere se_X10_wordHere h11255 rfl rfl (rest := [.ref c]) rfl (Nat.le_of_ble_eq_true rfl) ⟨Nat.le_of_ble_eq_true rfl, Nat.le_of_ble_eq_true rfl⟩ ⟨Nat.le_of_ble_eq_true rfl, Nat.le_of_ble_eq_true rfl⟩ (fun r σ11261 hp => ?_)
        obtain ⟨h11262, hp⟩ := hp
        have h11263 := HS.trans h11255 h11262 (by decide)
        have ga11264 := ga11256.of (h11262.2 (c + 1) (by rw [kC_at (k := 1) (by decide)]; decide))
        rcases hp with ⟨hk1, hk2, rfl⟩ | ⟨hk1, rfl⟩
        · refine r_put F (g' := (⟨T, Z, u, h, P1, L⟩ : RG)) e_X10_token_92 fp_X10_120 h11263 (by decide) ⟨_, rfl⟩ (fun _ _ _ _ q => q) (fun _ _ _ q => q) rfl rfl (by decide) (fun σ11265 h11266 g11267 g11268 f11269 => ?_)
          have ga11270 := ga11264.of (g11267 _ (by omega))
          refine m_aload_n F rfl e_X10_token_95 ?_
          refine m_aload_n F rfl e_X10_token_96 ?_
          refine r_getC F e_X10_token_97 fl_X10_120 h11266 (f11269) ?_
          refine m_iconst F (v := (-1)) (by decide) e_X10_token_100 ?_
          refine m_icmp_eq F e_X10_token_101 (fun q101 => ?_) (fun q101 => ?_)
          · exact absurd q101 (nI_nm1 (by omega))
          · refine m_iconst F (v := 0) (by decide) e_X10_token_104 ?_
            refine m_goto F e_X10_token_105 ?_
            refine r_put F (g' := (⟨T, Z, u, h, P1, L⟩ : RG)) e_X10_token_127 fp_X10_110 h11266 (by decide) ⟨_, rfl⟩ (fun _ _ _ _ q => q) (fun _ _ _ q => q) rfl rfl (by decide) (fun σ11271 h11272 g11273 g11274 f11275 => ?_)
            have ga11276 := ga11270.of (g11273 _ (by omega))
            refine m_aload_n F rfl e_X10_token_130 ?_
            refine r_getC F e_X10_token_131 fl_X10_110 h11272 (f11275) ?_
            refine m_iconst F (v := 1) (by decide) e_X10_token_134 ?_
            refine m_icmp_ne F e_X10_token_135 (fun _ => ?_) (fun q => absurd q (by decide))
            have e9 := i1.symm
            have et : tok t n P.a = (p1, 1, kix (nmc t p1 P1.a 6), P1.a) := by unfold tok; simp only [e9, eL]; rw [if_neg (by omega), if_pos i3, if_pos hk1, if_pos hk2]
            exact m_vret F hQ e_X10_token_245 (⟨P1, hP1, (by unfold RA; omega), (by have e8 : (tok t n P.a).2.2.2 = P1.a := (by rw [et]); omega), ⟨0, (nI (kix (nmc t p1 P1.a 6))), by rw [et]; exact Or.inr (Or.inl ⟨rfl, rfl, rfl, hk2⟩), by rw [et]; exact ⟨((g11274 17 (by decide)).trans ((g11268 17 (by decide)).trans ((fld_eq (h11262.2 c (by rw [show kC c c = 1 from kC_at (k := 0) (by decide)]; decide))).trans ((fld_eq (h11254.2 c (by rw [show kC c c = 1 from kC_at (k := 0) (by decide)]; decide))).trans yd11246)))), ((g11274 18 (by decide)).trans ((g11268 18 (by decide)).trans ((fld_eq (h11262.2 c (by rw [show kC c c = 1 from kC_at (k := 0) (by decide)]; decide))).trans ((fld_eq (h11254.2 c (by rw [show kC c c = 1 from kC_at (k := 0) (by decide)]; decide))).trans yd11247)))), ((g11274 20 (by decide)).trans ((g11268 20 (by decide)).trans ((fld_eq (h11262.2 c (by rw [show kC c c = 1 from kC_at (k := 0) (by decide)]; decide))).trans ((fld_eq (h11254.2 c (by rw [show kC c c = 1 from kC_at (k := 0) (by decide)]; decide))).trans yd11248)))), (f11275), ((g11274 22 (by decide)).trans f11269), ((g11274 23 (by decide)).trans ((g11268 23 (by decide)).trans ((fld_eq (h11262.2 c (by rw [show kC c c = 1 from kC_at (k := 0) (by decide)]; decide))).trans ((fld_eq (h11254.2 c (by rw [show kC c c = 1 from kC_at (k := 0) (by decide)]; decide))).trans yd11251)))), ((g11274 24 (by decide)).trans ((g11268 24 (by decide)).trans ((fld_eq (h11262.2 c (by rw [show kC c c = 1 from kC_at (k := 0) (by decide)]; decide))).trans ((fld_eq (h11254.2 c (by rw [show kC c c = 1 from kC_at (k := 0) (by decide)]; decide))).trans yd11252))))⟩⟩, h11272, rfl⟩)
        · refine r_put F (g' := (⟨T, Z, u, h, P1, L⟩ : RG)) e_X10_token_92 fp_X10_120 h11263 (by decide) ⟨_, rfl⟩ (fun _ _ _ _ q => q) (fun _ _ _ q => q) rfl rfl (by decide) (fun σ11277 h11278 g11279 g11280 f11281 => ?_)
          have ga11282 := ga11264.of (g11279 _ (by omega))
          refine m_aload_n F rfl e_X10_token_95 ?_
          refine m_aload_n F rfl e_X10_token_96 ?_
          refine r_getC F e_X10_token_97 fl_X10_120 h11278 (f11281) ?_
          refine m_iconst F (v := (-1)) (by decide) e_X10_token_100 ?_
          refine m_icmp_eq F e_X10_token_101 (fun _ => ?_) (fun q => absurd (by decide) q)
          refine m_aload_n F rfl e_X10_token_108 ?_
          refine r_get F e_X10_token_109 fl_X10_97 h11278 rfl (fun v hv f11283 => ?_)
          obtain rfl : v = .int (nI (P1.a)) := hv
          refine m_aload_n F rfl e_X10_token_112 ?_
          refine r_getC F e_X10_token_113 fl_X10_107 h11278 ((g11280 20 (by decide)).trans ((fld_eq (h11262.2 c (by rw [show kC c c = 1 from kC_at (k := 0) (by decide)]; decide))).trans ((fld_eq (h11254.2 c (by rw [show kC c c = 1 from kC_at (k := 0) (by decide)]; decide))).trans yd11248))) ?_
          refine m_isub F e_X10_token_116 ?_
          refine Wm.topE (w := nI (P1.a - p1)) (pk_sub (a := P1.a) (b := p1) (by omega)) ?_
          refine m_bipush F (v := 6) (by decide) e_X10_token_117 ?_
          refine m_icmp_le F e_X10_token_119 (fun q119 => ?_) (fun q119 => ?_)
          · have c119 : (P1.a - p1) ≤ 6 := (nI_leI (a := (P1.a - p1)) (b := 6) (by omega) (by omega)).mp q119
            refine m_iconst F (v := 1) (by decide) e_X10_token_126 ?_
            refine r_put F (g' := (⟨T, Z, u, h, P1, L⟩ : RG)) e_X10_token_127 fp_X10_110 h11278 (by decide) ⟨_, rfl⟩ (fun _ _ _ _ q => q) (fun _ _ _ q => q) rfl rfl (by decide) (fun σ11284 h11285 g11286 g11287 f11288 => ?_)
            have ga11289 := ga11282.of (g11286 _ (by omega))
            refine m_aload_n F rfl e_X10_token_130 ?_
            refine r_getC F e_X10_token_131 fl_X10_110 h11285 (f11288) ?_
            refine m_iconst F (v := 1) (by decide) e_X10_token_134 ?_
            refine m_icmp_ne F e_X10_token_135 (fun q => absurd (by decide) q) (fun _ => ?_)
            refine m_aload_n F rfl e_X10_token_138 ?_
            refine r_callV F e_X10_token_139 (q_X10_nameHereE (x_l X) V c T Z u h P1 L _ _  n p1 1 (-1) ln ft fp t h11285.1 (hob) hP1  ⟨((g11287 17 (by decide)).trans ((g11280 17 (by decide)).trans ((fld_eq (h11262.2 c (by rw [show kC c c = 1 from kC_at (k := 0) (by decide)]; decide))).trans ((fld_eq (h11254.2 c (by rw [show kC c c = 1 from kC_at (k := 0) (by decide)]; decide))).trans yd11246)))), ((g11287 18 (by decide)).trans ((g11280 18 (by decide)).trans ((fld_eq (h11262.2 c (by rw [show kC c c = 1 from kC_at (k := 0) (by decide)]; decide))).trans ((fld_eq (h11254.2 c (by rw [show kC c c = 1 from kC_at (k := 0) (by decide)]; decide))).trans yd11247)))), ((g11287 20 (by decide)).trans ((g11280 20 (by decide)).trans ((fld_eq (h11262.2 c (by rw [show kC c c = 1 from kC_at (k := 0) (by decide)]; decide))).trans ((fld_eq (h11254.2 c (by rw [show kC c c = 1 from kC_at (k := 0) (by decide)]; decide))).trans yd11248)))), (f11288), ((g11287 22 (by decide)).trans f11281), ((g11287 23 (by decide)).trans ((g11280 23 (by decide)).trans ((fld_eq (h11262.2 c (by rw [show kC c c = 1 from kC_at (k := 0) (by decide)]; decide))).trans ((fld_eq (h11254.2 c (by rw [show kC c c = 1 from kC_at (k := 0) (by decide)]; decide))).trans yd11251)))), ((g11287 24 (by decide)).trans ((g11280 24 (by decide)).trans ((fld_eq (h11262.2 c (by rw [show kC c c = 1 from kC_at (k := 0) (by decide)]; decide))).trans ((fld_eq (h11254.2 c (by rw [show kC c c = 1 from kC_at (k := 0) (by decide)]; decide))).trans yd11252))))⟩ ga11289 hn7 (by omega) (by omega) (by omega) hll) cb_X10_nameHere ml_X10_123 im_X10_nameHere se_X10_nameHere h11285 rfl rfl (rest := []) rfl (Nat.le_of_ble_eq_true rfl) ⟨Nat.le_of_ble_eq_true rfl, Nat.le_of_ble_eq_true rfl⟩ ⟨Nat.le_of_ble_eq_true rfl, Nat.le_of_ble_eq_true rfl⟩ (fun r σ11290 hp => ?_)
            obtain ⟨h11291, hp⟩ := hp
            have h11292 := HS.trans h11285 h11291 (by decide)
            have ga11293 := ga11289.of (h11291.2 (c + 1) (by rw [kC_at (k := 1) (by decide)]; decide))
            obtain ⟨hp, rfl⟩ := hp
            have hyd11294 := hp
            obtain ⟨yd11294, yd11295, yd11296, yd11297, yd11298, yd11299, yd11300⟩ := hyd11294
            refine m_goto F e_X10_token_142 ?_
            have e9 := i1.symm
            have et : tok t n P.a = (p1, 2, nmc t p1 P1.a 6, P1.a) := by unfold tok; simp only [e9, eL]; rw [if_neg (by omega), if_pos i3, if_pos (by omega), if_neg (fun q => hk1 ⟨by omega, q⟩)]
            exact m_vret F hQ e_X10_token_245 (⟨P1, hP1, (by unfold RA; omega), (by have e8 : (tok t n P.a).2.2.2 = P1.a := (by rw [et]); omega), ⟨1, (nI (nmc t p1 P1.a 6)), by rw [et]; exact Or.inr (Or.inr (Or.inl ⟨rfl, rfl, rfl, nmc_b (fun j hj => by have h2 := isL_b (hll (p1 + j) (by omega) hj); omega) 6⟩)), by rw [et]; exact ⟨(yd11294), (yd11295), (yd11296), (yd11297), (yd11298), (yd11299), (yd11300)⟩⟩, h11292, rfl⟩)
          · have c119 : (P1.a - p1) > 6 := by have hh := mt (nI_leI (a := (P1.a - p1)) (b := 6) (by omega) (by omega)).mpr q119; omega
            refine m_iconst F (v := 5) (by decide) e_X10_token_122 ?_
            refine m_goto F e_X10_token_123 ?_
            refine r_put F (g' := (⟨T, Z, u, h, P1, L⟩ : RG)) e_X10_token_127 fp_X10_110 h11278 (by decide) ⟨_, rfl⟩ (fun _ _ _ _ q => q) (fun _ _ _ q => q) rfl rfl (by decide) (fun σ11301 h11302 g11303 g11304 f11305 => ?_)
            have ga11306 := ga11282.of (g11303 _ (by omega))
            refine m_aload_n F rfl e_X10_token_130 ?_
            refine r_getC F e_X10_token_131 fl_X10_110 h11302 (f11305) ?_
            refine m_iconst F (v := 1) (by decide) e_X10_token_134 ?_
            refine m_icmp_ne F e_X10_token_135 (fun _ => ?_) (fun q => absurd q (by decide))
            have e9 := i1.symm
            have et : tok t n P.a = (p1, 5, 0, P1.a) := by unfold tok; simp only [e9, eL]; rw [if_neg (by omega), if_pos i3, if_neg (by omega)]
            exact m_vret F hQ e_X10_token_245 (⟨P1, hP1, (by unfold RA; omega), (by have e8 : (tok t n P.a).2.2.2 = P1.a := (by rw [et]); omega), ⟨5, (-1), by rw [et]; exact Or.inr (Or.inr (Or.inr (Or.inr (Or.inr ⟨rfl, rfl⟩)))), by rw [et]; exact ⟨((g11304 17 (by decide)).trans ((g11280 17 (by decide)).trans ((fld_eq (h11262.2 c (by rw [show kC c c = 1 from kC_at (k := 0) (by decide)]; decide))).trans ((fld_eq (h11254.2 c (by rw [show kC c c = 1 from kC_at (k := 0) (by decide)]; decide))).trans yd11246)))), ((g11304 18 (by decide)).trans ((g11280 18 (by decide)).trans ((fld_eq (h11262.2 c (by rw [show kC c c = 1 from kC_at (k := 0) (by decide)]; decide))).trans ((fld_eq (h11254.2 c (by rw [show kC c c = 1 from kC_at (k := 0) (by decide)]; decide))).trans yd11247)))), ((g11304 20 (by decide)).trans ((g11280 20 (by decide)).trans ((fld_eq (h11262.2 c (by rw [show kC c c = 1 from kC_at (k := 0) (by decide)]; decide))).trans ((fld_eq (h11254.2 c (by rw [show kC c c = 1 from kC_at (k := 0) (by decide)]; decide))).trans yd11248)))), (f11305), ((g11304 22 (by decide)).trans f11281), ((g11304 23 (by decide)).trans ((g11280 23 (by decide)).trans ((fld_eq (h11262.2 c (by rw [show kC c c = 1 from kC_at (k := 0) (by decide)]; decide))).trans ((fld_eq (h11254.2 c (by rw [show kC c c = 1 from kC_at (k := 0) (by decide)]; decide))).trans yd11251)))), ((g11304 24 (by decide)).trans ((g11280 24 (by decide)).trans ((fld_eq (h11262.2 c (by rw [show kC c c = 1 from kC_at (k := 0) (by decide)]; decide))).trans ((fld_eq (h11254.2 c (by rw [show kC c c = 1 from kC_at (k := 0) (by decide)]; decide))).trans yd11252))))⟩⟩, h11302, rfl⟩)
      · exact absurd g11260 (by decide)
    · refine m_callS F e_X10_token_68 (q_X10_isSmall2 (x_l X) V _ _ (nI (t P1.a))) cb_X10_isSmall ml_X10_113 sm_X10_isSmall rfl (rest := []) rfl (Nat.le_of_ble_eq_true rfl) ⟨Nat.le_of_ble_eq_true rfl, Nat.le_of_ble_eq_true rfl⟩ ⟨Nat.le_of_ble_eq_true rfl, Nat.le_of_ble_eq_true rfl⟩ (k' := 0) (z' := 0) (N' := N) rfl rfl rfl (fun r σ11307 hp => ?_)
      obtain ⟨rfl, hp⟩ := hp
      rcases hp with ⟨g11308, rfl⟩ | ⟨g11308, rfl⟩
      · have kg11308 : isL (t P1.a) = false := isL_f (by omega) g11308
        refine m_if_eq F e_X10_token_71 (fun _ => ?_) (fun q => absurd (by decide) q)
        refine m_aload_n F rfl e_X10_token_87 ?_
        have eL : sc isL t n p1 = P1.a := i6.trans (sc_stop (Or.inr kg11308))
        have hL1 : p1 < P1.a := by have h8 := sc_go (p := isL) (t := t) i2 i3; have h9 := sc_in (p := isL) (t := t) (n := n) (a := p1 + 1) (by omega); omega
        have hll : ∀ i, p1 ≤ i → i < P1.a → isL (t i) = true := fun i a1 a2 => scan_all (n - p1) p1 i a1 (by show i < sc isL t n p1; omega)
        have eL : sc isL t n p1 = P1.a := i6.trans (sc_stop (Or.inr kg11308))
        have hL1 : p1 < P1.a := by have h8 := sc_go (p := isL) (t := t) i2 i3; have h9 := sc_in (p := isL) (t := t) (n := n) (a := p1 + 1) (by omega); omega
        have hll : ∀ i, p1 ≤ i → i < P1.a → isL (t i) = true := fun i a1 a2 => scan_all (n - p1) p1 i a1 (by show i < sc isL t n p1; omega)
        have eL : sc isL t n p1 = P1.a := i6.trans (sc_stop (Or.inr kg11308))
        have hL1 : p1 < P1.a := by have h8 := sc_go (p := isL) (t := t) i2 i3; have h9 := sc_in (p := isL) (t := t) (n := n) (a := p1 + 1) (by omega); omega
        have hll : ∀ i, p1 ≤ i → i < P1.a → isL (t i) = true := fun i a1 a2 => scan_all (n - p1) p1 i a1 (by show i < sc isL t n p1; omega)
        refine m_aload_n F rfl e_X10_token_88 ?_
        refine r_callV F e_X10_token_89 (q_X10_wordHereE (x_l X) V c T Z u h P1 L _ _  n p1 t h11255.1 (hob) hP1  ((fld_eq (h11254.2 c (by rw [show kC c c = 1 from kC_at (k := 0) (by decide)]; decide))).trans yd11248) ga11256 hn7 hL1 (by omega) hll) cb_X10_wordHere ml_X10_117 im_X10_wordHere se_X10_wordHere h11255 rfl rfl (rest := [.ref c]) rfl (Nat.le_of_ble_eq_true rfl) ⟨Nat.le_of_ble_eq_true rfl, Nat.le_of_ble_eq_true rfl⟩ ⟨Nat.le_of_ble_eq_true rfl, Nat.le_of_ble_eq_true rfl⟩ (fun r σ11309 hp => ?_)
        obtain ⟨h11310, hp⟩ := hp
        have h11311 := HS.trans h11255 h11310 (by decide)
        have ga11312 := ga11256.of (h11310.2 (c + 1) (by rw [kC_at (k := 1) (by decide)]; decide))
        rcases hp with ⟨hk1, hk2, rfl⟩ | ⟨hk1, rfl⟩
        · refine r_put F (g' := (⟨T, Z, u, h, P1, L⟩ : RG)) e_X10_token_92 fp_X10_120 h11311 (by decide) ⟨_, rfl⟩ (fun _ _ _ _ q => q) (fun _ _ _ q => q) rfl rfl (by decide) (fun σ11313 h11314 g11315 g11316 f11317 => ?_)
          have ga11318 := ga11312.of (g11315 _ (by omega))
          refine m_aload_n F rfl e_X10_token_95 ?_
          refine m_aload_n F rfl e_X10_token_96 ?_
          refine r_getC F e_X10_token_97 fl_X10_120 h11314 (f11317) ?_
          refine m_iconst F (v := (-1)) (by decide) e_X10_token_100 ?_
          refine m_icmp_eq F e_X10_token_101 (fun q101 => ?_) (fun q101 => ?_)
          · exact absurd q101 (nI_nm1 (by omega))
          · refine m_iconst F (v := 0) (by decide) e_X10_token_104 ?_
            refine m_goto F e_X10_token_105 ?_
            refine r_put F (g' := (⟨T, Z, u, h, P1, L⟩ : RG)) e_X10_token_127 fp_X10_110 h11314 (by decide) ⟨_, rfl⟩ (fun _ _ _ _ q => q) (fun _ _ _ q => q) rfl rfl (by decide) (fun σ11319 h11320 g11321 g11322 f11323 => ?_)
            have ga11324 := ga11318.of (g11321 _ (by omega))
            refine m_aload_n F rfl e_X10_token_130 ?_
            refine r_getC F e_X10_token_131 fl_X10_110 h11320 (f11323) ?_
            refine m_iconst F (v := 1) (by decide) e_X10_token_134 ?_
            refine m_icmp_ne F e_X10_token_135 (fun _ => ?_) (fun q => absurd q (by decide))
            have e9 := i1.symm
            have et : tok t n P.a = (p1, 1, kix (nmc t p1 P1.a 6), P1.a) := by unfold tok; simp only [e9, eL]; rw [if_neg (by omega), if_pos i3, if_pos hk1, if_pos hk2]
            exact m_vret F hQ e_X10_token_245 (⟨P1, hP1, (by unfold RA; omega), (by have e8 : (tok t n P.a).2.2.2 = P1.a := (by rw [et]); omega), ⟨0, (nI (kix (nmc t p1 P1.a 6))), by rw [et]; exact Or.inr (Or.inl ⟨rfl, rfl, rfl, hk2⟩), by rw [et]; exact ⟨((g11322 17 (by decide)).trans ((g11316 17 (by decide)).trans ((fld_eq (h11310.2 c (by rw [show kC c c = 1 from kC_at (k := 0) (by decide)]; decide))).trans ((fld_eq (h11254.2 c (by rw [show kC c c = 1 from kC_at (k := 0) (by decide)]; decide))).trans yd11246)))), ((g11322 18 (by decide)).trans ((g11316 18 (by decide)).trans ((fld_eq (h11310.2 c (by rw [show kC c c = 1 from kC_at (k := 0) (by decide)]; decide))).trans ((fld_eq (h11254.2 c (by rw [show kC c c = 1 from kC_at (k := 0) (by decide)]; decide))).trans yd11247)))), ((g11322 20 (by decide)).trans ((g11316 20 (by decide)).trans ((fld_eq (h11310.2 c (by rw [show kC c c = 1 from kC_at (k := 0) (by decide)]; decide))).trans ((fld_eq (h11254.2 c (by rw [show kC c c = 1 from kC_at (k := 0) (by decide)]; decide))).trans yd11248)))), (f11323), ((g11322 22 (by decide)).trans f11317), ((g11322 23 (by decide)).trans ((g11316 23 (by decide)).trans ((fld_eq (h11310.2 c (by rw [show kC c c = 1 from kC_at (k := 0) (by decide)]; decide))).trans ((fld_eq (h11254.2 c (by rw [show kC c c = 1 from kC_at (k := 0) (by decide)]; decide))).trans yd11251)))), ((g11322 24 (by decide)).trans ((g11316 24 (by decide)).trans ((fld_eq (h11310.2 c (by rw [show kC c c = 1 from kC_at (k := 0) (by decide)]; decide))).trans ((fld_eq (h11254.2 c (by rw [show kC c c = 1 from kC_at (k := 0) (by decide)]; decide))).trans yd11252))))⟩⟩, h11320, rfl⟩)
        · refine r_put F (g' := (⟨T, Z, u, h, P1, L⟩ : RG)) e_X10_token_92 fp_X10_120 h11311 (by decide) ⟨_, rfl⟩ (fun _ _ _ _ q => q) (fun _ _ _ q => q) rfl rfl (by decide) (fun σ11325 h11326 g11327 g11328 f11329 => ?_)
          have ga11330 := ga11312.of (g11327 _ (by omega))
          refine m_aload_n F rfl e_X10_token_95 ?_
          refine m_aload_n F rfl e_X10_token_96 ?_
          refine r_getC F e_X10_token_97 fl_X10_120 h11326 (f11329) ?_
          refine m_iconst F (v := (-1)) (by decide) e_X10_token_100 ?_
          refine m_icmp_eq F e_X10_token_101 (fun _ => ?_) (fun q => absurd (by decide) q)
          refine m_aload_n F rfl e_X10_token_108 ?_
          refine r_get F e_X10_token_109 fl_X10_97 h11326 rfl (fun v hv f11331 => ?_)
          obtain rfl : v = .int (nI (P1.a)) := hv
          refine m_aload_n F rfl e_X10_token_112 ?_
          refine r_getC F e_X10_token_113 fl_X10_107 h11326 ((g11328 20 (by decide)).trans ((fld_eq (h11310.2 c (by rw [show kC c c = 1 from kC_at (k := 0) (by decide)]; decide))).trans ((fld_eq (h11254.2 c (by rw [show kC c c = 1 from kC_at (k := 0) (by decide)]; decide))).trans yd11248))) ?_
          refine m_isub F e_X10_token_116 ?_
          refine Wm.topE (w := nI (P1.a - p1)) (pk_sub (a := P1.a) (b := p1) (by omega)) ?_
          refine m_bipush F (v := 6) (by decide) e_X10_token_117 ?_
          refine m_icmp_le F e_X10_token_119 (fun q119 => ?_) (fun q119 => ?_)
          · have c119 : (P1.a - p1) ≤ 6 := (nI_leI (a := (P1.a - p1)) (b := 6) (by omega) (by omega)).mp q119
            refine m_iconst F (v := 1) (by decide) e_X10_token_126 ?_
            refine r_put F (g' := (⟨T, Z, u, h, P1, L⟩ : RG)) e_X10_token_127 fp_X10_110 h11326 (by decide) ⟨_, rfl⟩ (fun _ _ _ _ q => q) (fun _ _ _ q => q) rfl rfl (by decide) (fun σ11332 h11333 g11334 g11335 f11336 => ?_)
            have ga11337 := ga11330.of (g11334 _ (by omega))
            refine m_aload_n F rfl e_X10_token_130 ?_
            refine r_getC F e_X10_token_131 fl_X10_110 h11333 (f11336) ?_
            refine m_iconst F (v := 1) (by decide) e_X10_token_134 ?_
            refine m_icmp_ne F e_X10_token_135 (fun q => absurd (by decide) q) (fun _ => ?_)
            refine m_aload_n F rfl e_X10_token_138 ?_
            refine r_callV F e_X10_token_139 (q_X10_nameHereE (x_l X) V c T Z u h P1 L _ _  n p1 1 (-1) ln ft fp t h11333.1 (hob) hP1  ⟨((g11335 17 (by decide)).trans ((g11328 17 (by decide)).trans ((fld_eq (h11310.2 c (by rw [show kC c c = 1 from kC_at (k := 0) (by decide)]; decide))).trans ((fld_eq (h11254.2 c (by rw [show kC c c = 1 from kC_at (k := 0) (by decide)]; decide))).trans yd11246)))), ((g11335 18 (by decide)).trans ((g11328 18 (by decide)).trans ((fld_eq (h11310.2 c (by rw [show kC c c = 1 from kC_at (k := 0) (by decide)]; decide))).trans ((fld_eq (h11254.2 c (by rw [show kC c c = 1 from kC_at (k := 0) (by decide)]; decide))).trans yd11247)))), ((g11335 20 (by decide)).trans ((g11328 20 (by decide)).trans ((fld_eq (h11310.2 c (by rw [show kC c c = 1 from kC_at (k := 0) (by decide)]; decide))).trans ((fld_eq (h11254.2 c (by rw [show kC c c = 1 from kC_at (k := 0) (by decide)]; decide))).trans yd11248)))), (f11336), ((g11335 22 (by decide)).trans f11329), ((g11335 23 (by decide)).trans ((g11328 23 (by decide)).trans ((fld_eq (h11310.2 c (by rw [show kC c c = 1 from kC_at (k := 0) (by decide)]; decide))).trans ((fld_eq (h11254.2 c (by rw [show kC c c = 1 from kC_at (k := 0) (by decide)]; decide))).trans yd11251)))), ((g11335 24 (by decide)).trans ((g11328 24 (by decide)).trans ((fld_eq (h11310.2 c (by rw [show kC c c = 1 from kC_at (k := 0) (by decide)]; decide))).trans ((fld_eq (h11254.2 c (by rw [show kC c c = 1 from kC_at (k := 0) (by decide)]; decide))).trans yd11252))))⟩ ga11337 hn7 (by omega) (by omega) (by omega) hll) cb_X10_nameHere ml_X10_123 im_X10_nameHere se_X10_nameHere h11333 rfl rfl (rest := []) rfl (Nat.le_of_ble_eq_true rfl) ⟨Nat.le_of_ble_eq_true rfl, Nat.le_of_ble_eq_true rfl⟩ ⟨Nat.le_of_ble_eq_true rfl, Nat.le_of_ble_eq_true rfl⟩ (fun r σ11338 hp => ?_)
            obtain ⟨h11339, hp⟩ := hp
            have h11340 := HS.trans h11333 h11339 (by decide)
            have ga11341 := ga11337.of (h11339.2 (c + 1) (by rw [kC_at (k := 1) (by decide)]; decide))
            obtain ⟨hp, rfl⟩ := hp
            have hyd11342 := hp
            obtain ⟨yd11342, yd11343, yd11344, yd11345, yd11346, yd11347, yd11348⟩ := hyd11342
            refine m_goto F e_X10_token_142 ?_
            have e9 := i1.symm
            have et : tok t n P.a = (p1, 2, nmc t p1 P1.a 6, P1.a) := by unfold tok; simp only [e9, eL]; rw [if_neg (by omega), if_pos i3, if_pos (by omega), if_neg (fun q => hk1 ⟨by omega, q⟩)]
            exact m_vret F hQ e_X10_token_245 (⟨P1, hP1, (by unfold RA; omega), (by have e8 : (tok t n P.a).2.2.2 = P1.a := (by rw [et]); omega), ⟨1, (nI (nmc t p1 P1.a 6)), by rw [et]; exact Or.inr (Or.inr (Or.inl ⟨rfl, rfl, rfl, nmc_b (fun j hj => by have h2 := isL_b (hll (p1 + j) (by omega) hj); omega) 6⟩)), by rw [et]; exact ⟨(yd11342), (yd11343), (yd11344), (yd11345), (yd11346), (yd11347), (yd11348)⟩⟩, h11340, rfl⟩)
          · have c119 : (P1.a - p1) > 6 := by have hh := mt (nI_leI (a := (P1.a - p1)) (b := 6) (by omega) (by omega)).mpr q119; omega
            refine m_iconst F (v := 5) (by decide) e_X10_token_122 ?_
            refine m_goto F e_X10_token_123 ?_
            refine r_put F (g' := (⟨T, Z, u, h, P1, L⟩ : RG)) e_X10_token_127 fp_X10_110 h11326 (by decide) ⟨_, rfl⟩ (fun _ _ _ _ q => q) (fun _ _ _ q => q) rfl rfl (by decide) (fun σ11349 h11350 g11351 g11352 f11353 => ?_)
            have ga11354 := ga11330.of (g11351 _ (by omega))
            refine m_aload_n F rfl e_X10_token_130 ?_
            refine r_getC F e_X10_token_131 fl_X10_110 h11350 (f11353) ?_
            refine m_iconst F (v := 1) (by decide) e_X10_token_134 ?_
            refine m_icmp_ne F e_X10_token_135 (fun _ => ?_) (fun q => absurd q (by decide))
            have e9 := i1.symm
            have et : tok t n P.a = (p1, 5, 0, P1.a) := by unfold tok; simp only [e9, eL]; rw [if_neg (by omega), if_pos i3, if_neg (by omega)]
            exact m_vret F hQ e_X10_token_245 (⟨P1, hP1, (by unfold RA; omega), (by have e8 : (tok t n P.a).2.2.2 = P1.a := (by rw [et]); omega), ⟨5, (-1), by rw [et]; exact Or.inr (Or.inr (Or.inr (Or.inr (Or.inr ⟨rfl, rfl⟩)))), by rw [et]; exact ⟨((g11352 17 (by decide)).trans ((g11328 17 (by decide)).trans ((fld_eq (h11310.2 c (by rw [show kC c c = 1 from kC_at (k := 0) (by decide)]; decide))).trans ((fld_eq (h11254.2 c (by rw [show kC c c = 1 from kC_at (k := 0) (by decide)]; decide))).trans yd11246)))), ((g11352 18 (by decide)).trans ((g11328 18 (by decide)).trans ((fld_eq (h11310.2 c (by rw [show kC c c = 1 from kC_at (k := 0) (by decide)]; decide))).trans ((fld_eq (h11254.2 c (by rw [show kC c c = 1 from kC_at (k := 0) (by decide)]; decide))).trans yd11247)))), ((g11352 20 (by decide)).trans ((g11328 20 (by decide)).trans ((fld_eq (h11310.2 c (by rw [show kC c c = 1 from kC_at (k := 0) (by decide)]; decide))).trans ((fld_eq (h11254.2 c (by rw [show kC c c = 1 from kC_at (k := 0) (by decide)]; decide))).trans yd11248)))), (f11353), ((g11352 22 (by decide)).trans f11329), ((g11352 23 (by decide)).trans ((g11328 23 (by decide)).trans ((fld_eq (h11310.2 c (by rw [show kC c c = 1 from kC_at (k := 0) (by decide)]; decide))).trans ((fld_eq (h11254.2 c (by rw [show kC c c = 1 from kC_at (k := 0) (by decide)]; decide))).trans yd11251)))), ((g11352 24 (by decide)).trans ((g11328 24 (by decide)).trans ((fld_eq (h11310.2 c (by rw [show kC c c = 1 from kC_at (k := 0) (by decide)]; decide))).trans ((fld_eq (h11254.2 c (by rw [show kC c c = 1 from kC_at (k := 0) (by decide)]; decide))).trans yd11252))))⟩⟩, h11350, rfl⟩)
      · have kg11308 : isL (t P1.a) = true := isL_t (by omega) g11308
        refine m_if_eq F e_X10_token_71 (fun q => absurd q (by decide)) (fun _ => ?_)
        refine m_aload_n F rfl e_X10_token_74 ?_
        refine m_dup F rfl e_X10_token_75 ?_
        refine r_get F e_X10_token_76 fl_X10_97 h11255 rfl (fun v hv f11355 => ?_)
        obtain rfl : v = .int (nI (P1.a)) := hv
        refine m_iconst F (v := 1) (by decide) e_X10_token_79 ?_
        refine m_iadd F e_X10_token_80 ?_
        refine Wm.topE (w := nI (P1.a + 1)) (nI_add P1.a 1) ?_
        refine r_put F (g' := (⟨T, Z, u, h, (mkP P1.n0 P1.n2 P1.n5 P1.n7 P1.m0 P1.m5 P1.w2 P1.w7 P1.kk (P1.a + 1) P1.b0 P1.b1 P1.b2 P1.b3), L⟩ : RG)) e_X10_token_81 fp_X10_97 h11255 (by decide) rfl ctl_a CR.setA rfl rfl (by decide) (fun σ11356 h11357 g11358 g11359 f11360 => ?_)
        have ga11361 := ga11256.of (g11358 _ (by omega))
        obtain ⟨P11362, eP11362⟩ : ∃ P9, P9 = (mkP P1.n0 P1.n2 P1.n5 P1.n7 P1.m0 P1.m5 P1.w2 P1.w7 P1.kk (P1.a + 1) P1.b0 P1.b1 P1.b2 P1.b3) := ⟨_, rfl⟩
        rw [← eP11362] at h11357
        have fP11362 : P11362.n0 = P1.n0 ∧ P11362.n2 = P1.n2 ∧ P11362.n5 = P1.n5 ∧ P11362.n7 = P1.n7 ∧ P11362.m0 = P1.m0 ∧ P11362.m5 = P1.m5 ∧ P11362.w2 = P1.w2 ∧ P11362.w7 = P1.w7 ∧ P11362.kk = P1.kk ∧ P11362.a = P1.a + 1 ∧ P11362.b0 = P1.b0 ∧ P11362.b1 = P1.b1 ∧ P11362.b2 = P1.b2 ∧ P11362.b3 = P1.b3 := by rw [eP11362]; exact ⟨rfl, rfl, rfl, rfl, rfl, rfl, rfl, rfl, rfl, rfl, rfl, rfl, rfl, rfl⟩
        refine m_goto F e_X10_token_84 ?_
        have oP11363 : OKP P11362 := by unfold OKP; omega
        exact ih p1 P11362 _ h11357 oP11363 (by unfold RA; omega) ⟨⟨((g11359 17 (by decide)).trans ((fld_eq (h11254.2 c (by rw [show kC c c = 1 from kC_at (k := 0) (by decide)]; decide))).trans yd11246)), ((g11359 18 (by decide)).trans ((fld_eq (h11254.2 c (by rw [show kC c c = 1 from kC_at (k := 0) (by decide)]; decide))).trans yd11247)), ((g11359 20 (by decide)).trans ((fld_eq (h11254.2 c (by rw [show kC c c = 1 from kC_at (k := 0) (by decide)]; decide))).trans yd11248)), ((g11359 21 (by decide)).trans ((fld_eq (h11254.2 c (by rw [show kC c c = 1 from kC_at (k := 0) (by decide)]; decide))).trans yd11249)), ((g11359 22 (by decide)).trans ((fld_eq (h11254.2 c (by rw [show kC c c = 1 from kC_at (k := 0) (by decide)]; decide))).trans yd11250)), ((g11359 23 (by decide)).trans ((fld_eq (h11254.2 c (by rw [show kC c c = 1 from kC_at (k := 0) (by decide)]; decide))).trans yd11251)), ((g11359 24 (by decide)).trans ((fld_eq (h11254.2 c (by rw [show kC c c = 1 from kC_at (k := 0) (by decide)]; decide))).trans yd11252))⟩, i1, i2, i3, by omega, by omega, by rw [i6, show P11362.a = P1.a + 1 by omega]; exact sc_go (by omega) kg11308⟩ (by omega)
set_option maxRecDepth 20000 in
theorem lq_X10_tokenE_0 {V : VX} {X : MX} {N : Nat} {σ : Mem} {c T Z u h : Nat} {P : NP} {L : Nat → LQ}  {n st : Nat} {so va : Int32} {ln : Nat} {ft fp : Int32} {t : Nat → Nat} (F : Fx V X yX10_token cX10_token 2 none (rmd 5 0 0)) (hQ : Rt V X 0 0 N (fun r τ => ∃ P9 : NP, OKP P9 ∧ RA P P9 ∧ P9.a = (tok t n P.a).2.2.2 ∧ (∃ so2 va2, MT so2 va2 (tok t n P.a).2.1 (tok t n P.a).2.2.1 ∧ YD τ c n (tok t n P.a).1 so2 va2 ln ft fp) ∧ HS V c (⟨T, Z, u, h, P9, L⟩ : RG) [0, 2, 3, 4, 5, 6, 7, 8, 9, 10, 11, 12, 13, 14, 15, 16, 17, 18, 19, 20, 21, 22, 23] σ τ ∧ r = none)) (hob : OKB L) (hP : OKP P) (hp0 : YD σ c n st so va ln ft fp) (hp1 : BR σ c n t) (hp2 : n ≤ 700) (hp3 : P.a ≤ n)  : ∀ (fuel : Nat)  (P1 : NP) (τ : Mem), HS V c (⟨T, Z, u, h, P1, L⟩ : RG) [0, 2, 3, 4, 5, 6, 7, 8, 9, 10, 11, 12, 13, 14, 15, 16, 17, 18, 19, 20, 21, 22, 23] σ τ → OKP P1 → RA P P1 → YD τ c n st so va ln ft fp ∧ sc isB t n P.a = sc isB t n P1.a ∧ P1.a ≤ n → 700 - P1.a < fuel → Wm V X 2 N τ 0 0 0 [(0, .ref c)] [] := by
  intro fuel
  induction fuel with
  | zero => intros; rename_i hm; exact absurd hm (Nat.not_lt_zero _)
  | succ fuel ih =>
    intro  P1 τ h1 hP1 hR1 hi hm
    have hPP := hP
    unfold OKP at hPP
    have hPP1 := hP1
    unfold OKP at hPP1
    unfold RA at hR1
    have hB1 := hp1.of (h1.2 (c + 1) (by rw [kC_at (k := 1) (by decide)]; decide))
    have hn7 := hp2
    obtain ⟨hY1, i1, i2⟩ := hi
    have hyd11364 := hY1
    obtain ⟨yd11364, yd11365, yd11366, yd11367, yd11368, yd11369, yd11370⟩ := hyd11364
    refine m_aload_n F rfl e_X10_token_0 ?_
    refine r_callV F e_X10_token_1 (q_X10_hereE (x_l X) V c T Z u h P1 L _ _  n t h1.1 (hob) hP1  (yd11365) hB1 hn7) cb_X10_here ml_X10_103 im_X10_here se_X10_here h1 rfl rfl (rest := []) rfl (Nat.le_of_ble_eq_true rfl) ⟨Nat.le_of_ble_eq_true rfl, Nat.le_of_ble_eq_true rfl⟩ ⟨Nat.le_of_ble_eq_true rfl, Nat.le_of_ble_eq_true rfl⟩ (fun r σ11371 hp => ?_)
    obtain ⟨h11372, hp⟩ := hp
    have h11373 := HS.trans h1 h11372 (by decide)
    have ga11374 := hB1.of (h11372.2 (c + 1) (by rw [kC_at (k := 1) (by decide)]; decide))
    rcases hp with ⟨he11375, rfl⟩ | ⟨he11375, hb11376, rfl⟩
    · refine m_bipush F (v := 10) (by decide) e_X10_token_4 ?_
      refine m_icmp_eq F e_X10_token_6 (fun q => absurd q (by decide)) (fun _ => ?_)
      refine m_aload_n F rfl e_X10_token_9 ?_
      refine r_callV F e_X10_token_10 (q_X10_hereE (x_l X) V c T Z u h P1 L _ _  n t h11373.1 (hob) hP1  ((fld_eq (h11372.2 c (by rw [show kC c c = 1 from kC_at (k := 0) (by decide)]; decide))).trans yd11365) ga11374 hn7) cb_X10_here ml_X10_103 im_X10_here se_X10_here h11373 rfl rfl (rest := []) rfl (Nat.le_of_ble_eq_true rfl) ⟨Nat.le_of_ble_eq_true rfl, Nat.le_of_ble_eq_true rfl⟩ ⟨Nat.le_of_ble_eq_true rfl, Nat.le_of_ble_eq_true rfl⟩ (fun r σ11377 hp => ?_)
      obtain ⟨h11378, hp⟩ := hp
      have h11379 := HS.trans h11373 h11378 (by decide)
      have ga11380 := ga11374.of (h11378.2 (c + 1) (by rw [kC_at (k := 1) (by decide)]; decide))
      rcases hp with ⟨he11381, rfl⟩ | ⟨he11381, hb11382, rfl⟩
      · refine m_bipush F (v := 32) (by decide) e_X10_token_13 ?_
        refine m_icmp_ne F e_X10_token_15 (fun _ => ?_) (fun q => absurd q (by decide))
        refine m_aload_n F rfl e_X10_token_31 ?_
        refine m_aload_n F rfl e_X10_token_32 ?_
        refine r_get F e_X10_token_33 fl_X10_97 h11379 rfl (fun v hv f11383 => ?_)
        obtain rfl : v = .int (nI (P1.a)) := hv
        have e9 : sc isB t n P.a = P1.a := i1.trans (sc_stop (Or.inl (by omega)))
        refine r_put F (g' := (⟨T, Z, u, h, P1, L⟩ : RG)) e_X10_token_36 fp_X10_107 h11379 (by decide) ⟨P1.a, (show P1.a ≤ 700 by omega), rfl⟩ (fun _ _ _ _ q => q) (fun _ _ _ q => q) rfl rfl (by decide) (fun σ11384 h11385 g11386 g11387 f11388 => ?_)
        have ga11389 := ga11380.of (g11386 _ (by omega))
        refine m_aload_n F rfl e_X10_token_39 ?_
        refine r_callV F e_X10_token_40 (q_X10_hereE (x_l X) V c T Z u h P1 L _ _  n t h11385.1 (hob) hP1  ((g11387 18 (by decide)).trans ((fld_eq (h11378.2 c (by rw [show kC c c = 1 from kC_at (k := 0) (by decide)]; decide))).trans ((fld_eq (h11372.2 c (by rw [show kC c c = 1 from kC_at (k := 0) (by decide)]; decide))).trans yd11365))) ga11389 hn7) cb_X10_here ml_X10_103 im_X10_here se_X10_here h11385 rfl rfl (rest := []) rfl (Nat.le_of_ble_eq_true rfl) ⟨Nat.le_of_ble_eq_true rfl, Nat.le_of_ble_eq_true rfl⟩ ⟨Nat.le_of_ble_eq_true rfl, Nat.le_of_ble_eq_true rfl⟩ (fun r σ11390 hp => ?_)
        obtain ⟨h11391, hp⟩ := hp
        have h11392 := HS.trans h11385 h11391 (by decide)
        have ga11393 := ga11389.of (h11391.2 (c + 1) (by rw [kC_at (k := 1) (by decide)]; decide))
        rcases hp with ⟨he11394, rfl⟩ | ⟨he11394, hb11395, rfl⟩
        · refine m_istore_n F (lv' := [(1, .int (-1)), (0, .ref c)]) e_X10_token_43 (by decide) rfl ?_
          refine m_iload_n F rfl e_X10_token_44 ?_
          refine m_iconst F (v := (-1)) (by decide) e_X10_token_45 ?_
          refine m_icmp_ne F e_X10_token_46 (fun q => absurd (by decide) q) (fun _ => ?_)
          refine m_aload_n F rfl e_X10_token_49 ?_
          refine m_iconst F (v := 4) (by decide) e_X10_token_50 ?_
          refine r_put F (g' := (⟨T, Z, u, h, P1, L⟩ : RG)) e_X10_token_51 fp_X10_110 h11392 (by decide) ⟨_, rfl⟩ (fun _ _ _ _ q => q) (fun _ _ _ q => q) rfl rfl (by decide) (fun σ11396 h11397 g11398 g11399 f11400 => ?_)
          have ga11401 := ga11393.of (g11398 _ (by omega))
          refine m_goto F e_X10_token_54 ?_
          have et : tok t n P.a = (P1.a, 0, 0, P1.a) := by unfold tok; simp only [e9]; rw [if_pos (by omega)]
          exact m_vret F hQ e_X10_token_245 (⟨P1, hP1, (by unfold RA; omega), (by have e8 : (tok t n P.a).2.2.2 = P1.a := (by rw [et]); omega), ⟨4, va, by rw [et]; exact Or.inl ⟨rfl, rfl⟩, by rw [et]; exact ⟨((g11399 17 (by decide)).trans ((fld_eq (h11391.2 c (by rw [show kC c c = 1 from kC_at (k := 0) (by decide)]; decide))).trans ((g11387 17 (by decide)).trans ((fld_eq (h11378.2 c (by rw [show kC c c = 1 from kC_at (k := 0) (by decide)]; decide))).trans ((fld_eq (h11372.2 c (by rw [show kC c c = 1 from kC_at (k := 0) (by decide)]; decide))).trans yd11364))))), ((g11399 18 (by decide)).trans ((fld_eq (h11391.2 c (by rw [show kC c c = 1 from kC_at (k := 0) (by decide)]; decide))).trans ((g11387 18 (by decide)).trans ((fld_eq (h11378.2 c (by rw [show kC c c = 1 from kC_at (k := 0) (by decide)]; decide))).trans ((fld_eq (h11372.2 c (by rw [show kC c c = 1 from kC_at (k := 0) (by decide)]; decide))).trans yd11365))))), ((g11399 20 (by decide)).trans ((fld_eq (h11391.2 c (by rw [show kC c c = 1 from kC_at (k := 0) (by decide)]; decide))).trans f11388)), (f11400), ((g11399 22 (by decide)).trans ((fld_eq (h11391.2 c (by rw [show kC c c = 1 from kC_at (k := 0) (by decide)]; decide))).trans ((g11387 22 (by decide)).trans ((fld_eq (h11378.2 c (by rw [show kC c c = 1 from kC_at (k := 0) (by decide)]; decide))).trans ((fld_eq (h11372.2 c (by rw [show kC c c = 1 from kC_at (k := 0) (by decide)]; decide))).trans yd11368))))), ((g11399 23 (by decide)).trans ((fld_eq (h11391.2 c (by rw [show kC c c = 1 from kC_at (k := 0) (by decide)]; decide))).trans ((g11387 23 (by decide)).trans ((fld_eq (h11378.2 c (by rw [show kC c c = 1 from kC_at (k := 0) (by decide)]; decide))).trans ((fld_eq (h11372.2 c (by rw [show kC c c = 1 from kC_at (k := 0) (by decide)]; decide))).trans yd11369))))), ((g11399 24 (by decide)).trans ((fld_eq (h11391.2 c (by rw [show kC c c = 1 from kC_at (k := 0) (by decide)]; decide))).trans ((g11387 24 (by decide)).trans ((fld_eq (h11378.2 c (by rw [show kC c c = 1 from kC_at (k := 0) (by decide)]; decide))).trans ((fld_eq (h11372.2 c (by rw [show kC c c = 1 from kC_at (k := 0) (by decide)]; decide))).trans yd11370)))))⟩⟩, h11397, rfl⟩)
        · exfalso; omega
      · exfalso; omega
    · refine m_bipush F (v := 10) (by decide) e_X10_token_4 ?_
      refine m_icmp_eq F e_X10_token_6 (fun q6 => ?_) (fun q6 => ?_)
      · have c6 : (t P1.a) = 10 := (nI_eq (a := (t P1.a)) (b := 10) (by omega) (by omega)).mp q6
        refine m_aload_n F rfl e_X10_token_18 ?_
        refine m_dup F rfl e_X10_token_19 ?_
        refine r_get F e_X10_token_20 fl_X10_97 h11373 rfl (fun v hv f11402 => ?_)
        obtain rfl : v = .int (nI (P1.a)) := hv
        refine m_iconst F (v := 1) (by decide) e_X10_token_23 ?_
        refine m_iadd F e_X10_token_24 ?_
        refine Wm.topE (w := nI (P1.a + 1)) (nI_add P1.a 1) ?_
        refine r_put F (g' := (⟨T, Z, u, h, (mkP P1.n0 P1.n2 P1.n5 P1.n7 P1.m0 P1.m5 P1.w2 P1.w7 P1.kk (P1.a + 1) P1.b0 P1.b1 P1.b2 P1.b3), L⟩ : RG)) e_X10_token_25 fp_X10_97 h11373 (by decide) rfl ctl_a CR.setA rfl rfl (by decide) (fun σ11403 h11404 g11405 g11406 f11407 => ?_)
        have ga11408 := ga11374.of (g11405 _ (by omega))
        obtain ⟨P11409, eP11409⟩ : ∃ P9, P9 = (mkP P1.n0 P1.n2 P1.n5 P1.n7 P1.m0 P1.m5 P1.w2 P1.w7 P1.kk (P1.a + 1) P1.b0 P1.b1 P1.b2 P1.b3) := ⟨_, rfl⟩
        rw [← eP11409] at h11404
        have fP11409 : P11409.n0 = P1.n0 ∧ P11409.n2 = P1.n2 ∧ P11409.n5 = P1.n5 ∧ P11409.n7 = P1.n7 ∧ P11409.m0 = P1.m0 ∧ P11409.m5 = P1.m5 ∧ P11409.w2 = P1.w2 ∧ P11409.w7 = P1.w7 ∧ P11409.kk = P1.kk ∧ P11409.a = P1.a + 1 ∧ P11409.b0 = P1.b0 ∧ P11409.b1 = P1.b1 ∧ P11409.b2 = P1.b2 ∧ P11409.b3 = P1.b3 := by rw [eP11409]; exact ⟨rfl, rfl, rfl, rfl, rfl, rfl, rfl, rfl, rfl, rfl, rfl, rfl, rfl, rfl⟩
        refine m_goto F e_X10_token_28 ?_
        have oP11410 : OKP P11409 := by unfold OKP; omega
        exact ih  P11409 _ h11404 oP11410 (by unfold RA; omega) ⟨⟨((g11406 17 (by decide)).trans ((fld_eq (h11372.2 c (by rw [show kC c c = 1 from kC_at (k := 0) (by decide)]; decide))).trans yd11364)), ((g11406 18 (by decide)).trans ((fld_eq (h11372.2 c (by rw [show kC c c = 1 from kC_at (k := 0) (by decide)]; decide))).trans yd11365)), ((g11406 20 (by decide)).trans ((fld_eq (h11372.2 c (by rw [show kC c c = 1 from kC_at (k := 0) (by decide)]; decide))).trans yd11366)), ((g11406 21 (by decide)).trans ((fld_eq (h11372.2 c (by rw [show kC c c = 1 from kC_at (k := 0) (by decide)]; decide))).trans yd11367)), ((g11406 22 (by decide)).trans ((fld_eq (h11372.2 c (by rw [show kC c c = 1 from kC_at (k := 0) (by decide)]; decide))).trans yd11368)), ((g11406 23 (by decide)).trans ((fld_eq (h11372.2 c (by rw [show kC c c = 1 from kC_at (k := 0) (by decide)]; decide))).trans yd11369)), ((g11406 24 (by decide)).trans ((fld_eq (h11372.2 c (by rw [show kC c c = 1 from kC_at (k := 0) (by decide)]; decide))).trans yd11370))⟩, by rw [i1, show P11409.a = P1.a + 1 by omega]; exact sc_go (by omega) (isB_y (by omega)), by omega⟩ (by omega)
      · have c6 : (t P1.a) ≠ 10 := by have hh := mt (nI_eq (a := (t P1.a)) (b := 10) (by omega) (by omega)).mpr q6; omega
        refine m_aload_n F rfl e_X10_token_9 ?_
        refine r_callV F e_X10_token_10 (q_X10_hereE (x_l X) V c T Z u h P1 L _ _  n t h11373.1 (hob) hP1  ((fld_eq (h11372.2 c (by rw [show kC c c = 1 from kC_at (k := 0) (by decide)]; decide))).trans yd11365) ga11374 hn7) cb_X10_here ml_X10_103 im_X10_here se_X10_here h11373 rfl rfl (rest := []) rfl (Nat.le_of_ble_eq_true rfl) ⟨Nat.le_of_ble_eq_true rfl, Nat.le_of_ble_eq_true rfl⟩ ⟨Nat.le_of_ble_eq_true rfl, Nat.le_of_ble_eq_true rfl⟩ (fun r σ11411 hp => ?_)
        obtain ⟨h11412, hp⟩ := hp
        have h11413 := HS.trans h11373 h11412 (by decide)
        have ga11414 := ga11374.of (h11412.2 (c + 1) (by rw [kC_at (k := 1) (by decide)]; decide))
        rcases hp with ⟨he11415, rfl⟩ | ⟨he11415, hb11416, rfl⟩
        · exfalso; omega
        · refine m_bipush F (v := 32) (by decide) e_X10_token_13 ?_
          refine m_icmp_ne F e_X10_token_15 (fun q15 => ?_) (fun q15 => ?_)
          · have c15 : (t P1.a) ≠ 32 := by have hh := mt (nI_eq (a := (t P1.a)) (b := 32) (by omega) (by omega)).mpr q15; omega
            refine m_aload_n F rfl e_X10_token_31 ?_
            refine m_aload_n F rfl e_X10_token_32 ?_
            refine r_get F e_X10_token_33 fl_X10_97 h11413 rfl (fun v hv f11417 => ?_)
            obtain rfl : v = .int (nI (P1.a)) := hv
            have e9 : sc isB t n P.a = P1.a := i1.trans (sc_stop (Or.inr (isB_n (by omega) (by omega))))
            refine r_put F (g' := (⟨T, Z, u, h, P1, L⟩ : RG)) e_X10_token_36 fp_X10_107 h11413 (by decide) ⟨P1.a, (show P1.a ≤ 700 by omega), rfl⟩ (fun _ _ _ _ q => q) (fun _ _ _ q => q) rfl rfl (by decide) (fun σ11418 h11419 g11420 g11421 f11422 => ?_)
            have ga11423 := ga11414.of (g11420 _ (by omega))
            refine m_aload_n F rfl e_X10_token_39 ?_
            refine r_callV F e_X10_token_40 (q_X10_hereE (x_l X) V c T Z u h P1 L _ _  n t h11419.1 (hob) hP1  ((g11421 18 (by decide)).trans ((fld_eq (h11412.2 c (by rw [show kC c c = 1 from kC_at (k := 0) (by decide)]; decide))).trans ((fld_eq (h11372.2 c (by rw [show kC c c = 1 from kC_at (k := 0) (by decide)]; decide))).trans yd11365))) ga11423 hn7) cb_X10_here ml_X10_103 im_X10_here se_X10_here h11419 rfl rfl (rest := []) rfl (Nat.le_of_ble_eq_true rfl) ⟨Nat.le_of_ble_eq_true rfl, Nat.le_of_ble_eq_true rfl⟩ ⟨Nat.le_of_ble_eq_true rfl, Nat.le_of_ble_eq_true rfl⟩ (fun r σ11424 hp => ?_)
            obtain ⟨h11425, hp⟩ := hp
            have h11426 := HS.trans h11419 h11425 (by decide)
            have ga11427 := ga11423.of (h11425.2 (c + 1) (by rw [kC_at (k := 1) (by decide)]; decide))
            rcases hp with ⟨he11428, rfl⟩ | ⟨he11428, hb11429, rfl⟩
            · exfalso; omega
            · refine m_istore_n F (lv' := [(1, .int (nI (t P1.a))), (0, .ref c)]) e_X10_token_43 (by decide) rfl ?_
              refine m_iload_n F rfl e_X10_token_44 ?_
              refine m_iconst F (v := (-1)) (by decide) e_X10_token_45 ?_
              refine m_icmp_ne F e_X10_token_46 (fun q46 => ?_) (fun q46 => ?_)
              · refine m_iload_n F rfl e_X10_token_57 ?_
                refine m_callS F e_X10_token_58 (q_X10_isSmall2 (x_l X) V _ _ (nI (t P1.a))) cb_X10_isSmall ml_X10_113 sm_X10_isSmall rfl (rest := []) rfl (Nat.le_of_ble_eq_true rfl) ⟨Nat.le_of_ble_eq_true rfl, Nat.le_of_ble_eq_true rfl⟩ ⟨Nat.le_of_ble_eq_true rfl, Nat.le_of_ble_eq_true rfl⟩ (k' := 0) (z' := 0) (N' := N) rfl rfl rfl (fun r σ11430 hp => ?_)
                obtain ⟨rfl, hp⟩ := hp
                rcases hp with ⟨g11431, rfl⟩ | ⟨g11431, rfl⟩
                · have kg11431 : isL (t P1.a) = false := isL_f (by omega) g11431
                  refine m_if_eq F e_X10_token_61 (fun _ => ?_) (fun q => absurd (by decide) q)
                  refine m_iload_n F rfl e_X10_token_145 ?_
                  refine m_callS F e_X10_token_146 (q_X10_isDigit2 (x_l X) V _ _ (nI (t P1.a))) cb_X10_isDigit ml_X10_126 sm_X10_isDigit rfl (rest := []) rfl (Nat.le_of_ble_eq_true rfl) ⟨Nat.le_of_ble_eq_true rfl, Nat.le_of_ble_eq_true rfl⟩ ⟨Nat.le_of_ble_eq_true rfl, Nat.le_of_ble_eq_true rfl⟩ (k' := 0) (z' := 0) (N' := N) rfl rfl rfl (fun r σ11432 hp => ?_)
                  obtain ⟨rfl, hp⟩ := hp
                  rcases hp with ⟨g11433, rfl⟩ | ⟨g11433, rfl⟩
                  · have kg11433 : isD (t P1.a) = false := isD_f (by omega) g11433
                    refine m_if_eq F e_X10_token_149 (fun _ => ?_) (fun q => absurd (by decide) q)
                    refine m_aload_n F rfl e_X10_token_220 ?_
                    refine m_iload_n F rfl e_X10_token_221 ?_
                    refine m_bipush F (v := 59) (by decide) e_X10_token_222 ?_
                    refine m_icmp_ne F e_X10_token_224 (fun q224 => ?_) (fun q224 => ?_)
                    · have c224 : (t P1.a) ≠ 59 := by have hh := mt (nI_eq (a := (t P1.a)) (b := 59) (by omega) (by omega)).mpr q224; omega
                      refine m_iconst F (v := 5) (by decide) e_X10_token_231 ?_
                      refine r_put F (g' := (⟨T, Z, u, h, P1, L⟩ : RG)) e_X10_token_232 fp_X10_110 h11426 (by decide) ⟨_, rfl⟩ (fun _ _ _ _ q => q) (fun _ _ _ q => q) rfl rfl (by decide) (fun σ11434 h11435 g11436 g11437 f11438 => ?_)
                      have ga11439 := ga11427.of (g11436 _ (by omega))
                      refine m_aload_n F rfl e_X10_token_235 ?_
                      refine m_dup F rfl e_X10_token_236 ?_
                      refine r_getC F e_X10_token_237 fl_X10_97 h11435 ((g11437 19 (by decide)).trans ((fld_eq (h11425.2 c (by rw [show kC c c = 1 from kC_at (k := 0) (by decide)]; decide))).trans ((g11421 19 (by decide)).trans f11417))) ?_
                      refine m_iconst F (v := 1) (by decide) e_X10_token_240 ?_
                      refine m_iadd F e_X10_token_241 ?_
                      refine Wm.topE (w := nI (P1.a + 1)) (nI_add P1.a 1) ?_
                      refine r_put F (g' := (⟨T, Z, u, h, (mkP P1.n0 P1.n2 P1.n5 P1.n7 P1.m0 P1.m5 P1.w2 P1.w7 P1.kk (P1.a + 1) P1.b0 P1.b1 P1.b2 P1.b3), L⟩ : RG)) e_X10_token_242 fp_X10_97 h11435 (by decide) rfl ctl_a CR.setA rfl rfl (by decide) (fun σ11440 h11441 g11442 g11443 f11444 => ?_)
                      have ga11445 := ga11439.of (g11442 _ (by omega))
                      obtain ⟨P11446, eP11446⟩ : ∃ P9, P9 = (mkP P1.n0 P1.n2 P1.n5 P1.n7 P1.m0 P1.m5 P1.w2 P1.w7 P1.kk (P1.a + 1) P1.b0 P1.b1 P1.b2 P1.b3) := ⟨_, rfl⟩
                      rw [← eP11446] at h11441
                      have fP11446 : P11446.n0 = P1.n0 ∧ P11446.n2 = P1.n2 ∧ P11446.n5 = P1.n5 ∧ P11446.n7 = P1.n7 ∧ P11446.m0 = P1.m0 ∧ P11446.m5 = P1.m5 ∧ P11446.w2 = P1.w2 ∧ P11446.w7 = P1.w7 ∧ P11446.kk = P1.kk ∧ P11446.a = P1.a + 1 ∧ P11446.b0 = P1.b0 ∧ P11446.b1 = P1.b1 ∧ P11446.b2 = P1.b2 ∧ P11446.b3 = P1.b3 := by rw [eP11446]; exact ⟨rfl, rfl, rfl, rfl, rfl, rfl, rfl, rfl, rfl, rfl, rfl, rfl, rfl, rfl⟩
                      have oP11447 : OKP P11446 := by unfold OKP; omega
                      have et : tok t n P.a = (P1.a, 5, 0, P1.a + 1) := by unfold tok; simp only [e9]; rw [if_neg (by omega), if_neg (isL_D kg11431), if_neg (isD_D kg11433), if_neg (by omega)]
                      exact m_vret F hQ e_X10_token_245 (⟨P11446, oP11447, (by unfold RA; omega), (by have e8 : (tok t n P.a).2.2.2 = P1.a + 1 := (by rw [et]); omega), ⟨5, va, by rw [et]; exact Or.inr (Or.inr (Or.inr (Or.inr (Or.inr ⟨rfl, rfl⟩)))), by rw [et]; exact ⟨((g11443 17 (by decide)).trans ((g11437 17 (by decide)).trans ((fld_eq (h11425.2 c (by rw [show kC c c = 1 from kC_at (k := 0) (by decide)]; decide))).trans ((g11421 17 (by decide)).trans ((fld_eq (h11412.2 c (by rw [show kC c c = 1 from kC_at (k := 0) (by decide)]; decide))).trans ((fld_eq (h11372.2 c (by rw [show kC c c = 1 from kC_at (k := 0) (by decide)]; decide))).trans yd11364)))))), ((g11443 18 (by decide)).trans ((g11437 18 (by decide)).trans ((fld_eq (h11425.2 c (by rw [show kC c c = 1 from kC_at (k := 0) (by decide)]; decide))).trans ((g11421 18 (by decide)).trans ((fld_eq (h11412.2 c (by rw [show kC c c = 1 from kC_at (k := 0) (by decide)]; decide))).trans ((fld_eq (h11372.2 c (by rw [show kC c c = 1 from kC_at (k := 0) (by decide)]; decide))).trans yd11365)))))), ((g11443 20 (by decide)).trans ((g11437 20 (by decide)).trans ((fld_eq (h11425.2 c (by rw [show kC c c = 1 from kC_at (k := 0) (by decide)]; decide))).trans f11422))), ((g11443 21 (by decide)).trans f11438), ((g11443 22 (by decide)).trans ((g11437 22 (by decide)).trans ((fld_eq (h11425.2 c (by rw [show kC c c = 1 from kC_at (k := 0) (by decide)]; decide))).trans ((g11421 22 (by decide)).trans ((fld_eq (h11412.2 c (by rw [show kC c c = 1 from kC_at (k := 0) (by decide)]; decide))).trans ((fld_eq (h11372.2 c (by rw [show kC c c = 1 from kC_at (k := 0) (by decide)]; decide))).trans yd11368)))))), ((g11443 23 (by decide)).trans ((g11437 23 (by decide)).trans ((fld_eq (h11425.2 c (by rw [show kC c c = 1 from kC_at (k := 0) (by decide)]; decide))).trans ((g11421 23 (by decide)).trans ((fld_eq (h11412.2 c (by rw [show kC c c = 1 from kC_at (k := 0) (by decide)]; decide))).trans ((fld_eq (h11372.2 c (by rw [show kC c c = 1 from kC_at (k := 0) (by decide)]; decide))).trans yd11369)))))), ((g11443 24 (by decide)).trans ((g11437 24 (by decide)).trans ((fld_eq (h11425.2 c (by rw [show kC c c = 1 from kC_at (k := 0) (by decide)]; decide))).trans ((g11421 24 (by decide)).trans ((fld_eq (h11412.2 c (by rw [show kC c c = 1 from kC_at (k := 0) (by decide)]; decide))).trans ((fld_eq (h11372.2 c (by rw [show kC c c = 1 from kC_at (k := 0) (by decide)]; decide))).trans yd11370))))))⟩⟩, h11441, rfl⟩)
                    · have c224 : (t P1.a) = 59 := (nI_eq (a := (t P1.a)) (b := 59) (by omega) (by omega)).mp q224
                      refine m_iconst F (v := 3) (by decide) e_X10_token_227 ?_
                      refine m_goto F e_X10_token_228 ?_
                      refine r_put F (g' := (⟨T, Z, u, h, P1, L⟩ : RG)) e_X10_token_232 fp_X10_110 h11426 (by decide) ⟨_, rfl⟩ (fun _ _ _ _ q => q) (fun _ _ _ q => q) rfl rfl (by decide) (fun σ11448 h11449 g11450 g11451 f11452 => ?_)
                      have ga11453 := ga11427.of (g11450 _ (by omega))
                      refine m_aload_n F rfl e_X10_token_235 ?_
                      refine m_dup F rfl e_X10_token_236 ?_
                      refine r_getC F e_X10_token_237 fl_X10_97 h11449 ((g11451 19 (by decide)).trans ((fld_eq (h11425.2 c (by rw [show kC c c = 1 from kC_at (k := 0) (by decide)]; decide))).trans ((g11421 19 (by decide)).trans f11417))) ?_
                      refine m_iconst F (v := 1) (by decide) e_X10_token_240 ?_
                      refine m_iadd F e_X10_token_241 ?_
                      refine Wm.topE (w := nI (P1.a + 1)) (nI_add P1.a 1) ?_
                      refine r_put F (g' := (⟨T, Z, u, h, (mkP P1.n0 P1.n2 P1.n5 P1.n7 P1.m0 P1.m5 P1.w2 P1.w7 P1.kk (P1.a + 1) P1.b0 P1.b1 P1.b2 P1.b3), L⟩ : RG)) e_X10_token_242 fp_X10_97 h11449 (by decide) rfl ctl_a CR.setA rfl rfl (by decide) (fun σ11454 h11455 g11456 g11457 f11458 => ?_)
                      have ga11459 := ga11453.of (g11456 _ (by omega))
                      obtain ⟨P11460, eP11460⟩ : ∃ P9, P9 = (mkP P1.n0 P1.n2 P1.n5 P1.n7 P1.m0 P1.m5 P1.w2 P1.w7 P1.kk (P1.a + 1) P1.b0 P1.b1 P1.b2 P1.b3) := ⟨_, rfl⟩
                      rw [← eP11460] at h11455
                      have fP11460 : P11460.n0 = P1.n0 ∧ P11460.n2 = P1.n2 ∧ P11460.n5 = P1.n5 ∧ P11460.n7 = P1.n7 ∧ P11460.m0 = P1.m0 ∧ P11460.m5 = P1.m5 ∧ P11460.w2 = P1.w2 ∧ P11460.w7 = P1.w7 ∧ P11460.kk = P1.kk ∧ P11460.a = P1.a + 1 ∧ P11460.b0 = P1.b0 ∧ P11460.b1 = P1.b1 ∧ P11460.b2 = P1.b2 ∧ P11460.b3 = P1.b3 := by rw [eP11460]; exact ⟨rfl, rfl, rfl, rfl, rfl, rfl, rfl, rfl, rfl, rfl, rfl, rfl, rfl, rfl⟩
                      have oP11461 : OKP P11460 := by unfold OKP; omega
                      have et : tok t n P.a = (P1.a, 4, 0, P1.a + 1) := by unfold tok; simp only [e9]; rw [if_neg (by omega), if_neg (isL_D kg11431), if_neg (isD_D kg11433), if_pos (by omega)]
                      exact m_vret F hQ e_X10_token_245 (⟨P11460, oP11461, (by unfold RA; omega), (by have e8 : (tok t n P.a).2.2.2 = P1.a + 1 := (by rw [et]); omega), ⟨3, va, by rw [et]; exact Or.inr (Or.inr (Or.inr (Or.inr (Or.inl ⟨rfl, rfl⟩)))), by rw [et]; exact ⟨((g11457 17 (by decide)).trans ((g11451 17 (by decide)).trans ((fld_eq (h11425.2 c (by rw [show kC c c = 1 from kC_at (k := 0) (by decide)]; decide))).trans ((g11421 17 (by decide)).trans ((fld_eq (h11412.2 c (by rw [show kC c c = 1 from kC_at (k := 0) (by decide)]; decide))).trans ((fld_eq (h11372.2 c (by rw [show kC c c = 1 from kC_at (k := 0) (by decide)]; decide))).trans yd11364)))))), ((g11457 18 (by decide)).trans ((g11451 18 (by decide)).trans ((fld_eq (h11425.2 c (by rw [show kC c c = 1 from kC_at (k := 0) (by decide)]; decide))).trans ((g11421 18 (by decide)).trans ((fld_eq (h11412.2 c (by rw [show kC c c = 1 from kC_at (k := 0) (by decide)]; decide))).trans ((fld_eq (h11372.2 c (by rw [show kC c c = 1 from kC_at (k := 0) (by decide)]; decide))).trans yd11365)))))), ((g11457 20 (by decide)).trans ((g11451 20 (by decide)).trans ((fld_eq (h11425.2 c (by rw [show kC c c = 1 from kC_at (k := 0) (by decide)]; decide))).trans f11422))), ((g11457 21 (by decide)).trans f11452), ((g11457 22 (by decide)).trans ((g11451 22 (by decide)).trans ((fld_eq (h11425.2 c (by rw [show kC c c = 1 from kC_at (k := 0) (by decide)]; decide))).trans ((g11421 22 (by decide)).trans ((fld_eq (h11412.2 c (by rw [show kC c c = 1 from kC_at (k := 0) (by decide)]; decide))).trans ((fld_eq (h11372.2 c (by rw [show kC c c = 1 from kC_at (k := 0) (by decide)]; decide))).trans yd11368)))))), ((g11457 23 (by decide)).trans ((g11451 23 (by decide)).trans ((fld_eq (h11425.2 c (by rw [show kC c c = 1 from kC_at (k := 0) (by decide)]; decide))).trans ((g11421 23 (by decide)).trans ((fld_eq (h11412.2 c (by rw [show kC c c = 1 from kC_at (k := 0) (by decide)]; decide))).trans ((fld_eq (h11372.2 c (by rw [show kC c c = 1 from kC_at (k := 0) (by decide)]; decide))).trans yd11369)))))), ((g11457 24 (by decide)).trans ((g11451 24 (by decide)).trans ((fld_eq (h11425.2 c (by rw [show kC c c = 1 from kC_at (k := 0) (by decide)]; decide))).trans ((g11421 24 (by decide)).trans ((fld_eq (h11412.2 c (by rw [show kC c c = 1 from kC_at (k := 0) (by decide)]; decide))).trans ((fld_eq (h11372.2 c (by rw [show kC c c = 1 from kC_at (k := 0) (by decide)]; decide))).trans yd11370))))))⟩⟩, h11455, rfl⟩)
                  · have kg11433 : isD (t P1.a) = true := isD_t (by omega) g11433
                    refine m_if_eq F e_X10_token_149 (fun q => absurd q (by decide)) (fun _ => ?_)
                    refine m_aload_n F rfl e_X10_token_152 ?_
                    refine m_iconst F (v := 2) (by decide) e_X10_token_153 ?_
                    refine r_put F (g' := (⟨T, Z, u, h, P1, L⟩ : RG)) e_X10_token_154 fp_X10_110 h11426 (by decide) ⟨_, rfl⟩ (fun _ _ _ _ q => q) (fun _ _ _ q => q) rfl rfl (by decide) (fun σ11462 h11463 g11464 g11465 f11466 => ?_)
                    have ga11467 := ga11427.of (g11464 _ (by omega))
                    refine m_aload_n F rfl e_X10_token_157 ?_
                    refine m_iconst F (v := 0) (by decide) e_X10_token_158 ?_
                    refine r_put F (g' := (⟨T, Z, u, h, P1, L⟩ : RG)) e_X10_token_159 fp_X10_120 h11463 (by decide) ⟨_, rfl⟩ (fun _ _ _ _ q => q) (fun _ _ _ q => q) rfl rfl (by decide) (fun σ11468 h11469 g11470 g11471 f11472 => ?_)
                    have ga11473 := ga11467.of (g11470 _ (by omega))
                    refine Wm.lvsub (lv' := [(0, .ref c)]) ?_ [1] rfl
                    exact lq_X10_tokenE_162 F hQ hob hP hp0 hp1 hp2 hp3 (700 - P1.a + 1) P1.a 0 P1 _ h11469 hP1 (by unfold RA; omega) ⟨⟨((g11471 17 (by decide)).trans ((g11465 17 (by decide)).trans ((fld_eq (h11425.2 c (by rw [show kC c c = 1 from kC_at (k := 0) (by decide)]; decide))).trans ((g11421 17 (by decide)).trans ((fld_eq (h11412.2 c (by rw [show kC c c = 1 from kC_at (k := 0) (by decide)]; decide))).trans ((fld_eq (h11372.2 c (by rw [show kC c c = 1 from kC_at (k := 0) (by decide)]; decide))).trans yd11364)))))), ((g11471 18 (by decide)).trans ((g11465 18 (by decide)).trans ((fld_eq (h11425.2 c (by rw [show kC c c = 1 from kC_at (k := 0) (by decide)]; decide))).trans ((g11421 18 (by decide)).trans ((fld_eq (h11412.2 c (by rw [show kC c c = 1 from kC_at (k := 0) (by decide)]; decide))).trans ((fld_eq (h11372.2 c (by rw [show kC c c = 1 from kC_at (k := 0) (by decide)]; decide))).trans yd11365)))))), ((g11471 20 (by decide)).trans ((g11465 20 (by decide)).trans ((fld_eq (h11425.2 c (by rw [show kC c c = 1 from kC_at (k := 0) (by decide)]; decide))).trans f11422))), ((g11471 21 (by decide)).trans f11466), (f11472), ((g11471 23 (by decide)).trans ((g11465 23 (by decide)).trans ((fld_eq (h11425.2 c (by rw [show kC c c = 1 from kC_at (k := 0) (by decide)]; decide))).trans ((g11421 23 (by decide)).trans ((fld_eq (h11412.2 c (by rw [show kC c c = 1 from kC_at (k := 0) (by decide)]; decide))).trans ((fld_eq (h11372.2 c (by rw [show kC c c = 1 from kC_at (k := 0) (by decide)]; decide))).trans yd11369)))))), ((g11471 24 (by decide)).trans ((g11465 24 (by decide)).trans ((fld_eq (h11425.2 c (by rw [show kC c c = 1 from kC_at (k := 0) (by decide)]; decide))).trans ((g11421 24 (by decide)).trans ((fld_eq (h11412.2 c (by rw [show kC c c = 1 from kC_at (k := 0) (by decide)]; decide))).trans ((fld_eq (h11372.2 c (by rw [show kC c c = 1 from kC_at (k := 0) (by decide)]; decide))).trans yd11370))))))⟩, e9.symm, by omega, kg11431, kg11433, by omega, by omega, by omega, by rw [Nat.sub_self]; rfl, rfl⟩ (Nat.lt_succ_self _)
                · have kg11431 : isL (t P1.a) = true := isL_t (by omega) g11431
                  refine m_if_eq F e_X10_token_61 (fun q => absurd q (by decide)) (fun _ => ?_)
                  refine Wm.lvsub (lv' := [(0, .ref c)]) ?_ [1] rfl
                  exact lq_X10_tokenE_64 F hQ hob hP hp0 hp1 hp2 hp3 (700 - P1.a + 1) P1.a P1 _ h11426 hP1 (by unfold RA; omega) ⟨⟨((fld_eq (h11425.2 c (by rw [show kC c c = 1 from kC_at (k := 0) (by decide)]; decide))).trans ((g11421 17 (by decide)).trans ((fld_eq (h11412.2 c (by rw [show kC c c = 1 from kC_at (k := 0) (by decide)]; decide))).trans ((fld_eq (h11372.2 c (by rw [show kC c c = 1 from kC_at (k := 0) (by decide)]; decide))).trans yd11364)))), ((fld_eq (h11425.2 c (by rw [show kC c c = 1 from kC_at (k := 0) (by decide)]; decide))).trans ((g11421 18 (by decide)).trans ((fld_eq (h11412.2 c (by rw [show kC c c = 1 from kC_at (k := 0) (by decide)]; decide))).trans ((fld_eq (h11372.2 c (by rw [show kC c c = 1 from kC_at (k := 0) (by decide)]; decide))).trans yd11365)))), ((fld_eq (h11425.2 c (by rw [show kC c c = 1 from kC_at (k := 0) (by decide)]; decide))).trans f11422), ((fld_eq (h11425.2 c (by rw [show kC c c = 1 from kC_at (k := 0) (by decide)]; decide))).trans ((g11421 21 (by decide)).trans ((fld_eq (h11412.2 c (by rw [show kC c c = 1 from kC_at (k := 0) (by decide)]; decide))).trans ((fld_eq (h11372.2 c (by rw [show kC c c = 1 from kC_at (k := 0) (by decide)]; decide))).trans yd11367)))), ((fld_eq (h11425.2 c (by rw [show kC c c = 1 from kC_at (k := 0) (by decide)]; decide))).trans ((g11421 22 (by decide)).trans ((fld_eq (h11412.2 c (by rw [show kC c c = 1 from kC_at (k := 0) (by decide)]; decide))).trans ((fld_eq (h11372.2 c (by rw [show kC c c = 1 from kC_at (k := 0) (by decide)]; decide))).trans yd11368)))), ((fld_eq (h11425.2 c (by rw [show kC c c = 1 from kC_at (k := 0) (by decide)]; decide))).trans ((g11421 23 (by decide)).trans ((fld_eq (h11412.2 c (by rw [show kC c c = 1 from kC_at (k := 0) (by decide)]; decide))).trans ((fld_eq (h11372.2 c (by rw [show kC c c = 1 from kC_at (k := 0) (by decide)]; decide))).trans yd11369)))), ((fld_eq (h11425.2 c (by rw [show kC c c = 1 from kC_at (k := 0) (by decide)]; decide))).trans ((g11421 24 (by decide)).trans ((fld_eq (h11412.2 c (by rw [show kC c c = 1 from kC_at (k := 0) (by decide)]; decide))).trans ((fld_eq (h11372.2 c (by rw [show kC c c = 1 from kC_at (k := 0) (by decide)]; decide))).trans yd11370))))⟩, e9.symm, by omega, kg11431, by omega, by omega, rfl⟩ (Nat.lt_succ_self _)
              · exact absurd q46 (nI_nm1 (by omega))
          · have c15 : (t P1.a) = 32 := (nI_eq (a := (t P1.a)) (b := 32) (by omega) (by omega)).mp q15
            refine m_aload_n F rfl e_X10_token_18 ?_
            refine m_dup F rfl e_X10_token_19 ?_
            refine r_get F e_X10_token_20 fl_X10_97 h11413 rfl (fun v hv f11474 => ?_)
            obtain rfl : v = .int (nI (P1.a)) := hv
            refine m_iconst F (v := 1) (by decide) e_X10_token_23 ?_
            refine m_iadd F e_X10_token_24 ?_
            refine Wm.topE (w := nI (P1.a + 1)) (nI_add P1.a 1) ?_
            refine r_put F (g' := (⟨T, Z, u, h, (mkP P1.n0 P1.n2 P1.n5 P1.n7 P1.m0 P1.m5 P1.w2 P1.w7 P1.kk (P1.a + 1) P1.b0 P1.b1 P1.b2 P1.b3), L⟩ : RG)) e_X10_token_25 fp_X10_97 h11413 (by decide) rfl ctl_a CR.setA rfl rfl (by decide) (fun σ11475 h11476 g11477 g11478 f11479 => ?_)
            have ga11480 := ga11414.of (g11477 _ (by omega))
            obtain ⟨P11481, eP11481⟩ : ∃ P9, P9 = (mkP P1.n0 P1.n2 P1.n5 P1.n7 P1.m0 P1.m5 P1.w2 P1.w7 P1.kk (P1.a + 1) P1.b0 P1.b1 P1.b2 P1.b3) := ⟨_, rfl⟩
            rw [← eP11481] at h11476
            have fP11481 : P11481.n0 = P1.n0 ∧ P11481.n2 = P1.n2 ∧ P11481.n5 = P1.n5 ∧ P11481.n7 = P1.n7 ∧ P11481.m0 = P1.m0 ∧ P11481.m5 = P1.m5 ∧ P11481.w2 = P1.w2 ∧ P11481.w7 = P1.w7 ∧ P11481.kk = P1.kk ∧ P11481.a = P1.a + 1 ∧ P11481.b0 = P1.b0 ∧ P11481.b1 = P1.b1 ∧ P11481.b2 = P1.b2 ∧ P11481.b3 = P1.b3 := by rw [eP11481]; exact ⟨rfl, rfl, rfl, rfl, rfl, rfl, rfl, rfl, rfl, rfl, rfl, rfl, rfl, rfl⟩
            refine m_goto F e_X10_token_28 ?_
            have oP11482 : OKP P11481 := by unfold OKP; omega
            exact ih  P11481 _ h11476 oP11482 (by unfold RA; omega) ⟨⟨((g11478 17 (by decide)).trans ((fld_eq (h11412.2 c (by rw [show kC c c = 1 from kC_at (k := 0) (by decide)]; decide))).trans ((fld_eq (h11372.2 c (by rw [show kC c c = 1 from kC_at (k := 0) (by decide)]; decide))).trans yd11364))), ((g11478 18 (by decide)).trans ((fld_eq (h11412.2 c (by rw [show kC c c = 1 from kC_at (k := 0) (by decide)]; decide))).trans ((fld_eq (h11372.2 c (by rw [show kC c c = 1 from kC_at (k := 0) (by decide)]; decide))).trans yd11365))), ((g11478 20 (by decide)).trans ((fld_eq (h11412.2 c (by rw [show kC c c = 1 from kC_at (k := 0) (by decide)]; decide))).trans ((fld_eq (h11372.2 c (by rw [show kC c c = 1 from kC_at (k := 0) (by decide)]; decide))).trans yd11366))), ((g11478 21 (by decide)).trans ((fld_eq (h11412.2 c (by rw [show kC c c = 1 from kC_at (k := 0) (by decide)]; decide))).trans ((fld_eq (h11372.2 c (by rw [show kC c c = 1 from kC_at (k := 0) (by decide)]; decide))).trans yd11367))), ((g11478 22 (by decide)).trans ((fld_eq (h11412.2 c (by rw [show kC c c = 1 from kC_at (k := 0) (by decide)]; decide))).trans ((fld_eq (h11372.2 c (by rw [show kC c c = 1 from kC_at (k := 0) (by decide)]; decide))).trans yd11368))), ((g11478 23 (by decide)).trans ((fld_eq (h11412.2 c (by rw [show kC c c = 1 from kC_at (k := 0) (by decide)]; decide))).trans ((fld_eq (h11372.2 c (by rw [show kC c c = 1 from kC_at (k := 0) (by decide)]; decide))).trans yd11369))), ((g11478 24 (by decide)).trans ((fld_eq (h11412.2 c (by rw [show kC c c = 1 from kC_at (k := 0) (by decide)]; decide))).trans ((fld_eq (h11372.2 c (by rw [show kC c c = 1 from kC_at (k := 0) (by decide)]; decide))).trans yd11370)))⟩, by rw [i1, show P11481.a = P1.a + 1 by omega]; exact sc_go (by omega) (isB_y (by omega)), by omega⟩ (by omega)
set_option maxRecDepth 20000 in
theorem q_X10_tokenE (l : Launch) (V : VX) (c T Z u h : Nat) (P : NP) (L : Nat → LQ) (N : Nat) (σ : Mem) (n st : Nat) (so va : Int32) (ln : Nat) (ft fp : Int32) (t : Nat → Nat) (h0 : HR V c ⟨T, Z, u, h, P, L⟩ σ) (hob : OKB L) (hP : OKP P) (hp0 : YD σ c n st so va ln ft fp) (hp1 : BR σ c n t) (hp2 : n ≤ 700) (hp3 : P.a ≤ n) : Ct l V yX10_token cX10_token 2 none 5 0 0 N σ [.ref c] (fun r τ => ∃ P9 : NP, OKP P9 ∧ RA P P9 ∧ P9.a = (tok t n P.a).2.2.2 ∧ (∃ so2 va2, MT so2 va2 (tok t n P.a).2.1 (tok t n P.a).2.2.1 ∧ YD τ c n (tok t n P.a).1 so2 va2 ln ft fp) ∧ HS V c (⟨T, Z, u, h, P9, L⟩ : RG) [0, 2, 3, 4, 5, 6, 7, 8, 9, 10, 11, 12, 13, 14, 15, 16, 17, 18, 19, 20, 21, 22, 23] σ τ ∧ r = none) := by
  refine Ct.of (by decide) (Nat.le_of_ble_eq_true rfl) [(0, .ref c)] rfl (fun X hX F hQ => ?_)
  have hPP := hP
  unfold OKP at hPP
  have h1 : HS V c ⟨T, Z, u, h, P, L⟩ [0, 2, 3, 4, 5, 6, 7, 8, 9, 10, 11, 12, 13, 14, 15, 16, 17, 18, 19, 20, 21, 22, 23] σ σ := HS.start h0
  have hyd11483 := hp0
  obtain ⟨yd11483, yd11484, yd11485, yd11486, yd11487, yd11488, yd11489⟩ := hyd11483
  have hn7 := hp2
  exact lq_X10_tokenE_0 F hQ hob hP hp0 hp1 hp2 hp3 (700 - P.a + 1)  P _ h1 hP (by unfold RA; omega) ⟨⟨(yd11483), (yd11484), (yd11485), (yd11486), (yd11487), (yd11488), (yd11489)⟩, rfl, hp3⟩ (Nat.lt_succ_self _)
