/-! a text taken: what may be forgotten, what begins anew -/
theorem HR.forget {V : VX} {c T Z u h : Nat} {P : NP} {L : Nat → LQ} {σ : Mem} (hh : HR V c ⟨T, Z, u, h, P, L⟩ σ) : HR V c ⟨T, Z, u, h, mkP P.n0 P.n2 P.n5 P.n7 0 P.m5 0 P.w7 P.kk P.a, L⟩ σ := by
  intro a
  have h1 := hh a
  by_cases h6 : kC c a = 6
  · rw [h6] at h1 ⊢
    obtain ⟨f, e, q⟩ := h1
    refine ⟨f, e, fun i hi => ?_⟩
    obtain ⟨n, a1, a2, a3, a4⟩ := q i hi
    exact ⟨n, a1, a2, fun _ h9 => absurd h9 (Nat.not_lt_zero _), a4⟩
  · by_cases h13 : kC c a = 13
    · rw [h13] at h1 ⊢
      obtain ⟨f, e, q⟩ := h1
      refine ⟨f, e, fun i hi => ?_⟩
      obtain ⟨n, a1, a2, a3, a4⟩ := q i hi
      exact ⟨n, a1, a2, fun _ h9 => absurd h9 (Nat.not_lt_zero _), a4⟩
    · revert h1
      generalize kC c a = i at h6 h13
      generalize σ a = x
      intro hx
      unfold CR at hx ⊢
      split at hx <;> first | exact hx | exact absurd rfl h6 | exact absurd rfl h13 | skip
      all_goals first | exact hx | (obtain ⟨f, e, q⟩ := hx; refine ⟨f, e, fun i hi => ?_⟩; have h9 := q i hi; unfold EI at h9 ⊢; split at h9 <;> first | exact h9 | trivial | contradiction | (exfalso; omega))
theorem HR.kk0 {V : VX} {c T Z : Nat} {P : NP} {L : Nat → LQ} {σ : Mem} {k : Nat} (hh : HR V c ⟨T, Z, 0, 0, P, L⟩ σ) : HR V c ⟨T, Z, 0, 0, mkP P.n0 P.n2 P.n5 P.n7 P.m0 P.m5 P.w2 P.w7 k P.a, L⟩ σ := by
  intro a
  have h1 := hh a
  by_cases h20 : kC c a = 20
  · rw [h20] at h1 ⊢
    obtain ⟨f, e, q⟩ := h1
    exact ⟨f, e, fun h9 => absurd h9 (by show ¬ (0 : Nat) = 1; decide)⟩
  · by_cases h21 : kC c a = 21
    · rw [h21] at h1 ⊢
      obtain ⟨f, e, q⟩ := h1
      exact ⟨f, e, fun j hj => absurd hj (Nat.not_lt_zero _)⟩
    · revert h1
      generalize kC c a = i at h20 h21
      generalize σ a = x
      intro hx
      unfold CR at hx ⊢
      split at hx <;> first | exact hx | exact absurd rfl h20 | exact absurd rfl h21
def RT (P Q : NP) : Prop := Q.n0 = P.n5 ∧ Q.kk = P.kk ∧ Q.n0 ≤ Q.m0 ∧ Q.n2 ≤ Q.w2
theorem OKL.updS {n : Nat} {L L' : Nat → LQ} (h : OKL n L) (hl4 : n < 4) (ho : ∀ i, i ≠ n → L' i = L i) (hl : (L' n).1 ≤ 2 ∧ (L' n).2.1 ≤ 72 ∧ (L' n).2.2.1 ≤ 2000 ∧ (L' n).2.2.2 ≤ 72 ∧ ((L' n).1 = 1 → (L' n).2.2.2 < (L' n).2.1 ∧ 1 ≤ (L' n).2.2.1) ∧ ((L' n).1 = 0 → (L' n).2.2.2 = 0) ∧ 1 ≤ (L' n).2.1) : OKL (n + 1) L' := by
  refine ⟨by rw [ho 4 (by omega)]; exact h.1, fun i hi => ?_⟩
  by_cases e : i = n
  · subst e; exact ⟨hl.1, hl.2.1, hl.2.2.1, hl.2.2.2.1, hl.2.2.2.2.1, hl.2.2.2.2.2.1, fun _ => hl.2.2.2.2.2.2⟩
  · have h9 := h.2 i hi
    rw [ho i e]; exact ⟨h9.1, h9.2.1, h9.2.2.1, h9.2.2.2.1, h9.2.2.2.2.1, h9.2.2.2.2.2.1, fun h8 => h9.2.2.2.2.2.2 (by omega)⟩
def L0 : Nat → LQ := fun _ => (0, 0, 0, 0)
theorem OKL.zero : OKL 0 L0 := ⟨by show (0 : Nat) ≤ 99; omega, fun l _ => ⟨by show (0 : Nat) ≤ 2; omega, by show (0 : Nat) ≤ 72; omega, by show (0 : Nat) ≤ 2000; omega, by show (0 : Nat) ≤ 72; omega, fun e => absurd e (by show ¬ (0 : Nat) = 1; omega), fun _ => rfl, fun e => absurd e (Nat.not_lt_zero _)⟩⟩
/-- s while it is made anew: 0 up to k -/
def ZF (k : Nat) (f : Nat → Int64) : Prop := ∀ i, i < k → f i = 0
/-- .. 0 all over, but for the INDEX of the periods up to p -/
def PZ (p : Nat) (f : Nat → Int64) : Prop := (∀ i, i < 1113 → (i < 644 ∨ 744 ≤ i) → f i = 0) ∧ ∀ i, 644 ≤ i → i < 644 + p → ∃ n : Nat, 1 ≤ n ∧ n ≤ 2000 ∧ f i = lN n
theorem PZ.zero {f : Nat → Int64} (h : ZF 1113 f) : PZ 0 f := ⟨fun i hi _ => h i hi, fun i h1 h2 => by omega⟩
theorem PZ.put {p m : Nat} {f : Nat → Int64} (h : PZ p f) (hp : p < 100) (hm : 1 ≤ m ∧ m ≤ 2000) : PZ (p + 1) (vp_updL f (644 + p) (lN m)) := by
  refine ⟨fun i hi h1 => ?_, fun i h1 h2 => ?_⟩
  · unfold vp_updL; rw [if_neg (by omega)]; exact h.1 i hi h1
  · unfold vp_updL
    by_cases e : i = 644 + p
    · rw [if_pos e]; exact ⟨m, hm.1, hm.2, rfl⟩
    · rw [if_neg e]; exact h.2 i h1 (by omega)
theorem PZ.put2 {p m : Nat} {f : Nat → Int64} (h : PZ (p + 1) f) (hp : p < 100) (hm : 1 ≤ m ∧ m ≤ 2000) : PZ (p + 1) (vp_updL f (644 + p) (lN m)) := by
  refine ⟨fun i hi h1 => ?_, fun i h1 h2 => ?_⟩
  · unfold vp_updL; rw [if_neg (by omega)]; exact h.1 i hi h1
  · unfold vp_updL
    by_cases e : i = 644 + p
    · rw [if_pos e]; exact ⟨m, hm.1, hm.2, rfl⟩
    · rw [if_neg e]; exact h.2 i h1 (by omega)
theorem ZF.put {k : Nat} {f : Nat → Int64} (h : ZF k f) : ZF (k + 1) (vp_updL f k 0) := by
  intro i hi
  unfold vp_updL
  by_cases e : i = k
  · rw [if_pos e]
  · rw [if_neg e]; exact h i (by omega)
theorem PZ.typed {f : Nat → Int64} (h : PZ 100 f) : ∀ i, i < 1113 → EJ L0 i (f i) := by
  intro i hi
  have h0 : (i < 644 ∨ 744 ≤ i) → f i = lN 0 := fun q => h.1 i hi q
  unfold EJ
  by_cases h1 : i < 640
  · rw [if_pos h1, h0 (by omega)]
    unfold EL
    split <;> first | rfl | exact ⟨0, by omega, rfl⟩ | trivial
  · rw [if_neg h1]
    by_cases h2 : i < 644
    · rw [if_pos h2]; trivial
    · rw [if_neg h2]
      by_cases h3 : i < 744
      · rw [if_pos h3]; exact h.2 i (by omega) (by omega)
      · rw [if_neg h3]
        by_cases h4 : i = 744
        · rw [if_pos h4, h0 (by omega)]; rfl
        · rw [if_neg h4]
          by_cases h5 : i = 751
          · rw [if_pos h5, h0 (by omega)]; exact ⟨0, by omega, rfl⟩
          · rw [if_neg h5]; trivial
set_option maxRecDepth 20000 in
theorem lq_X10_readText_28 {V : VX} {X : MX} {N : Nat} {σ : Mem} {c T Z u h : Nat} {P : NP} {L : Nat → LQ}  {n901 : Nat} (F : Fx V X yX10_readText cX10_readText 2 none (rmd 10 0 0)) (hQ : Rt V X 0 0 N (fun r τ => ∃ P9 : NP, OKP P9 ∧ RQ P P9 ∧ HS V c (⟨T, 1, u, h, P9, L⟩ : RG) [0, 2, 17, 18, 19, 20, 21, 22, 23] σ τ ∧ r = none)) (hob : OKB L) (hP : OKP P) (hn901 : n901 ≤ 700)  : ∀ (fuel : Nat) (x1 y1 : Int32) (P1 : NP) (τ : Mem), HS V c (⟨T, 1, u, h, P1, L⟩ : RG) [0, 2, 17, 18, 19, 20, 21, 22, 23] σ τ → OKP P1 → RQ P P1 → fld τ c 23 = some (.int x1) ∧ fld τ c 21 = some (.int y1) → (if x1 = 0 ∧ y1 ≠ 4 then 701 - P1.a else 0) < fuel → Wm V X 2 N τ 0 0 28 [(0, .ref c)] [] := by
  intro fuel
  induction fuel with
  | zero => intros; rename_i hm; exact absurd hm (Nat.not_lt_zero _)
  | succ fuel ih =>
    intro x1 y1 P1 τ h1 hP1 hR1 hi hm
    have hPP := hP
    unfold OKP at hPP
    have hPP1 := hP1
    unfold OKP at hPP1
    unfold RQ at hR1
    refine m_aload_n F rfl e_X10_readText_28 ?_
    refine r_getC F e_X10_readText_29 fl_X10_141 h1 (hi.1) ?_
    refine m_if_ne F e_X10_readText_32 (fun q32 => ?_) (fun q32 => ?_)
    · exact m_vret F hQ e_X10_readText_50 (⟨P1, hP1, (by unfold RQ; omega), h1, rfl⟩)
    · subst q32
      refine m_aload_n F rfl e_X10_readText_35 ?_
      refine r_getC F e_X10_readText_36 fl_X10_110 h1 (hi.2) ?_
      refine m_iconst F (v := 4) (by decide) e_X10_readText_39 ?_
      refine m_icmp_eq F e_X10_readText_40 (fun q40 => ?_) (fun q40 => ?_)
      · subst q40
        exact m_vret F hQ e_X10_readText_50 (⟨P1, hP1, (by unfold RQ; omega), h1, rfl⟩)
      · refine m_aload_n F rfl e_X10_readText_43 ?_
        refine r_callV F e_X10_readText_44 (q_X10_readLine (x_l X) V c T 1 u h P1 L _ _  h1.1 (hob) hP1 ) cb_X10_readLine ml_X10_205 im_X10_readLine se_X10_readLine h1 rfl rfl (rest := []) rfl (Nat.le_of_ble_eq_true rfl) ⟨Nat.le_of_ble_eq_true rfl, Nat.le_of_ble_eq_true rfl⟩ ⟨Nat.le_of_ble_eq_true rfl, Nat.le_of_ble_eq_true rfl⟩ (fun r σ10353 hp => ?_)
        obtain ⟨P10356, oP10356, rP10356, pr10357, h10354, rfl⟩ := hp
        have h10355 := HS.trans h1 h10354 (by decide)
        have xP10356 := oP10356
        unfold OKP at xP10356
        unfold RP at rP10356
        refine m_goto F e_X10_readText_47 ?_
        obtain ⟨x9, y9, e9, e8, d9⟩ := pr10357
        have hmm : (if x9 = 0 ∧ y9 ≠ (4 : Int32) then 701 - P10356.a else 0) < fuel := by
          rw [if_pos ⟨rfl, q40⟩] at hm
          by_cases hc : x9 = 0 ∧ y9 ≠ (4 : Int32)
          · rw [if_pos hc]
            rcases d9 with d | d | d
            · exact absurd hc.1 d
            · exact absurd d hc.2
            · omega
          · rw [if_neg hc]; omega
        exact ih x9 y9 P10356 _ h10355 oP10356 (by unfold RQ; omega) ⟨e9, e8⟩ hmm
set_option maxRecDepth 20000 in
theorem q_X10_readText (l : Launch) (V : VX) (c T Z u h : Nat) (P : NP) (L : Nat → LQ) (N : Nat) (σ : Mem) (n901 : Nat) (h0 : HR V c ⟨T, Z, u, h, P, L⟩ σ) (hob : OKB L) (hP : OKP P) (hn901 : n901 ≤ 700) : Ct l V yX10_readText cX10_readText 2 none 10 0 0 N σ [.ref c, .int (nI n901)] (fun r τ => ∃ P9 : NP, OKP P9 ∧ RQ P P9 ∧ HS V c (⟨T, 1, u, h, P9, L⟩ : RG) [0, 2, 17, 18, 19, 20, 21, 22, 23] σ τ ∧ r = none) := by
  refine Ct.of (by decide) (Nat.le_of_ble_eq_true rfl) [(0, .ref c), (1, .int (nI n901))] rfl (fun X hX F hQ => ?_)
  have hPP := hP
  unfold OKP at hPP
  have h1 : HS V c ⟨T, Z, u, h, P, L⟩ [0, 2, 17, 18, 19, 20, 21, 22, 23] σ σ := HS.start h0
  refine m_aload_n F rfl e_X10_readText_0 ?_
  refine m_iload_n F rfl e_X10_readText_1 ?_
  refine r_put F (g' := (⟨T, Z, u, h, P, L⟩ : RG)) e_X10_readText_2 fp_X10_100 h1 (by decide) ⟨n901, (show n901 ≤ 700 by omega), rfl⟩ (fun _ _ _ _ q => q) (fun _ _ _ q => q) rfl rfl (by decide) (fun σ10358 h10359 g10360 g10361 f10362 => ?_)
  refine m_aload_n F rfl e_X10_readText_5 ?_
  refine m_iconst F (v := 0) (by decide) e_X10_readText_6 ?_
  refine r_put F (g' := (⟨T, Z, u, h, (mkP P.n0 P.n2 P.n5 P.n7 P.m0 P.m5 P.w2 P.w7 P.kk 0), L⟩ : RG)) e_X10_readText_7 fp_X10_97 h10359 (by decide) rfl ctl_a CR.setA rfl rfl (by decide) (fun σ10363 h10364 g10365 g10366 f10367 => ?_)
  obtain ⟨P10368, eP10368⟩ : ∃ P9, P9 = (mkP P.n0 P.n2 P.n5 P.n7 P.m0 P.m5 P.w2 P.w7 P.kk 0) := ⟨_, rfl⟩
  rw [← eP10368] at h10364
  have fP10368 : P10368.n0 = P.n0 ∧ P10368.n2 = P.n2 ∧ P10368.n5 = P.n5 ∧ P10368.n7 = P.n7 ∧ P10368.m0 = P.m0 ∧ P10368.m5 = P.m5 ∧ P10368.w2 = P.w2 ∧ P10368.w7 = P.w7 ∧ P10368.kk = P.kk ∧ P10368.a = 0 := by rw [eP10368]; exact ⟨rfl, rfl, rfl, rfl, rfl, rfl, rfl, rfl, rfl, rfl⟩
  refine m_aload_n F rfl e_X10_readText_10 ?_
  refine m_iconst F (v := 0) (by decide) e_X10_readText_11 ?_
  refine r_put F (g' := (⟨T, 1, u, h, P10368, L⟩ : RG)) e_X10_readText_12 fp_X10_141 h10364 (by decide) ⟨_, (fun e => absurd e (show ¬ (1 : Nat) = 0 by decide)), rfl⟩ ctl_Z CR.ctl rfl rfl (by decide) (fun σ10369 h10370 g10371 g10372 f10373 => ?_)
  refine m_aload_n F rfl e_X10_readText_15 ?_
  refine m_iconst F (v := 0) (by decide) e_X10_readText_16 ?_
  refine r_put F (g' := (⟨T, 1, u, h, P10368, L⟩ : RG)) e_X10_readText_17 fp_X10_202 h10370 (by decide) ⟨_, rfl⟩ (fun _ _ _ _ q => q) (fun _ _ _ q => q) rfl rfl (by decide) (fun σ10374 h10375 g10376 g10377 f10378 => ?_)
  refine m_aload_n F rfl e_X10_readText_20 ?_
  have oP10382 : OKP P10368 := by unfold OKP; omega
  refine r_callV F e_X10_readText_21 (q_X10_freshText (x_l X) V c T 1 u h P10368 L _ _  h10375.1 (hob) oP10382 ) cb_X10_freshText ml_X10_82 im_X10_freshText se_X10_freshText h10375 rfl rfl (rest := []) rfl (Nat.le_of_ble_eq_true rfl) ⟨Nat.le_of_ble_eq_true rfl, Nat.le_of_ble_eq_true rfl⟩ ⟨Nat.le_of_ble_eq_true rfl, Nat.le_of_ble_eq_true rfl⟩ (fun r σ10379 hp => ?_)
  obtain ⟨P10383, oP10383, rP10383, h10380, rfl⟩ := hp
  have h10381 := HS.trans h10375 h10380 (by decide)
  have xP10383 := oP10383
  unfold OKP at xP10383
  unfold RP at rP10383
  refine m_aload_n F rfl e_X10_readText_24 ?_
  refine r_callV F e_X10_readText_25 (q_X10_token (x_l X) V c T 1 u h P10383 L _ _  h10381.1 (hob) oP10383 ) cb_X10_token ml_X10_147 im_X10_token se_X10_token h10381 rfl rfl (rest := []) rfl (Nat.le_of_ble_eq_true rfl) ⟨Nat.le_of_ble_eq_true rfl, Nat.le_of_ble_eq_true rfl⟩ ⟨Nat.le_of_ble_eq_true rfl, Nat.le_of_ble_eq_true rfl⟩ (fun r σ10384 hp => ?_)
  obtain ⟨P10387, oP10387, rP10387, pr10388, h10385, rfl⟩ := hp
  have h10386 := HS.trans h10381 h10385 (by decide)
  have xP10387 := oP10387
  unfold OKP at xP10387
  unfold RA at rP10387
  refine Wm.lvsub (lv' := [(0, .ref c)]) ?_ [0] rfl
  obtain ⟨y9, e8⟩ := h10386.1.f21
  obtain ⟨x9, e9⟩ := h10386.1.f23
  exact lq_X10_readText_28 (Z := Z) F hQ hob hP hn901 ((if x9 = 0 ∧ y9 ≠ 4 then 701 - P10387.a else 0) + 1) x9 y9 P10387 _ h10386 oP10387 (by unfold RQ; omega) ⟨e9, e8⟩ (Nat.lt_succ_self _)
def RT3 (P Q : NP) : Prop := Q.n0 = P.n5 ∧ Q.n2 = P.n7 ∧ Q.kk = P.kk ∧ Q.n0 ≤ Q.m0 ∧ Q.w7 = P.w7 ∧ Q.w2 = 0
set_option maxRecDepth 20000 in
theorem lq_X10_takeText_179 {V : VX} {X : MX} {N : Nat} {σ : Mem} {c T Z u h : Nat} {P : NP} {L : Nat → LQ}   (F : Fx V X yX10_takeText cX10_takeText 2 none (rmd 1 0 0)) (hQ : Rt V X 0 0 N (fun r τ => ∃ P9 : NP, OKP P9 ∧ RT P P9 ∧ HS V c (⟨T, Z, u, h, P9, L⟩ : RG) [0, 1, 2, 17, 18, 19, 20, 21, 22, 23] σ τ ∧ r = none)) (hob : OKB L) (hP : OKP P)   : ∀ (fuel : Nat) (i : Nat) (P1 : NP) (τ : Mem), HS V c (⟨T, Z, u, h, P1, L⟩ : RG) [0, 1, 2, 17, 18, 19, 20, 21, 22, 23] σ τ → OKP P1 → RT3 P P1 → i ≤ 192 → 192 - i < fuel → Wm V X 2 N τ 0 0 179 [(0, .ref c), (1, .int (nI i))] [] := by
  intro fuel
  induction fuel with
  | zero => intros; rename_i hm; exact absurd hm (Nat.not_lt_zero _)
  | succ fuel ih =>
    intro i P1 τ h1 hP1 hR1 hi hm
    have hPP := hP
    unfold OKP at hPP
    have hPP1 := hP1
    unfold OKP at hPP1
    unfold RT3 at hR1
    refine m_iload_n F rfl e_X10_takeText_179 ?_
    refine m_sipush F (v := 192) (by decide) e_X10_takeText_180 ?_
    refine m_icmp_ge F e_X10_takeText_183 (fun q183 => ?_) (fun q183 => ?_)
    · have c183 : i ≥ 192 := (nI_leI (a := 192) (b := i) (by omega) (by omega)).mp q183
      refine m_iconst F (v := 0) (by decide) e_X10_takeText_208 ?_
      refine m_istore_n F (lv' := [(1, .int 0), (0, .ref c)]) e_X10_takeText_209 (by decide) rfl ?_
      refine m_iload_n F rfl e_X10_takeText_210 ?_
      refine m_bipush F (v := 8) (by decide) e_X10_takeText_211 ?_
      refine m_icmp_ge F e_X10_takeText_213 (fun q => absurd q (by decide)) (fun _ => ?_)
      refine m_aload_n F rfl e_X10_takeText_216 ?_
      refine r_get F e_X10_takeText_217 fl_X10_40 h1 rfl (fun v hv f10389 => ?_)
      obtain rfl : v = .ref (c + 11) := hv
      refine m_iload_n F rfl e_X10_takeText_220 ?_
      refine m_aload_n F rfl e_X10_takeText_221 ?_
      refine r_getC F e_X10_takeText_222 fl_X10_40 h1 (f10389) ?_
      refine m_bipush F (v := 8) (by decide) e_X10_takeText_225 ?_
      refine m_iload_n F rfl e_X10_takeText_227 ?_
      refine m_iadd F e_X10_takeText_228 ?_
      refine Wm.topE (w := 8) (by decide) ?_
      refine r_iald F (len := 16) (j := 8) e_X10_takeText_229 h1 (fun _ h => h) (by decide) (by decide) (by unfold vp_in; decide) (fun x10390 h10391 f10392 => ?_)
      obtain ⟨n10393, hn10393, rfl⟩ := h10391
      refine r_iast F (g' := (⟨T, Z, u, h, P1, L⟩ : RG)) (len := 16) (j := 0) e_X10_takeText_230 h1 (fun _ h => h) (fun f h => ⟨f, rfl, h⟩) (by decide) (by decide) (by decide) (by unfold vp_in; decide) ⟨n10393, by omega, rfl⟩ (fun _ _ _ h => h) (fun _ _ _ h => h) (fun σ10394 h10395 g10396 f10397 g10398 => ?_)
      refine m_aload_n F rfl e_X10_takeText_231 ?_
      refine r_get F e_X10_takeText_232 fl_X10_43 h10395 rfl (fun v hv f10399 => ?_)
      obtain rfl : v = .ref (c + 12) := hv
      refine m_iload_n F rfl e_X10_takeText_235 ?_
      refine m_aload_n F rfl e_X10_takeText_236 ?_
      refine r_getC F e_X10_takeText_237 fl_X10_43 h10395 (f10399) ?_
      refine m_bipush F (v := 8) (by decide) e_X10_takeText_240 ?_
      refine m_iload_n F rfl e_X10_takeText_242 ?_
      refine m_iadd F e_X10_takeText_243 ?_
      refine Wm.topE (w := 8) (by decide) ?_
      refine r_iald F (len := 16) (j := 8) e_X10_takeText_244 h10395 (fun _ h => h) (by decide) (by decide) (by unfold vp_in; decide) (fun x10400 h10401 f10402 => ?_)
      obtain ⟨n10403, hn10403, rfl, pn10403, rn10403⟩ := h10401
      refine r_iast F (g' := (⟨T, Z, u, h, (mkP P1.n0 P1.n2 P1.n5 P1.n7 P1.m0 P1.m5 (min 1 P1.w7) P1.w7 P1.kk P1.a), L⟩ : RG)) (len := 16) (j := 0) e_X10_takeText_245 h10395 (fun _ h => h) (fun f h => ⟨f, rfl, h⟩) (by decide) (by decide) (by decide) (by unfold vp_in; decide) ⟨n10403, by omega, rfl, fun _ h8 => rn10403 (by omega) (show 8 < 8 + P1.w7 by have h6 : 0 < min 1 P1.w7 := h8; omega), fun h7 _ => absurd h7 (by omega)⟩ (fun i hi y hy => by obtain ⟨n9, a9, b9, c9, d9⟩ := hy; exact ⟨n9, a9, b9, fun h7 h8 => c9 h7 (show i < P1.w2 by have h6 : i < min 1 P1.w7 := h8; omega), d9⟩) (CR.chg (by intro k hk i x h; unfold EI at h ⊢; split at h <;> first | exact h | exact absurd rfl hk | trivial) rfl rfl) (fun σ10404 h10405 g10406 f10407 g10408 => ?_)
      obtain ⟨P10409, eP10409⟩ : ∃ P9, P9 = (mkP P1.n0 P1.n2 P1.n5 P1.n7 P1.m0 P1.m5 (min 1 P1.w7) P1.w7 P1.kk P1.a) := ⟨_, rfl⟩
      rw [← eP10409] at h10405
      have fP10409 : P10409.n0 = P1.n0 ∧ P10409.n2 = P1.n2 ∧ P10409.n5 = P1.n5 ∧ P10409.n7 = P1.n7 ∧ P10409.m0 = P1.m0 ∧ P10409.m5 = P1.m5 ∧ P10409.w2 = min 1 P1.w7 ∧ P10409.w7 = P1.w7 ∧ P10409.kk = P1.kk ∧ P10409.a = P1.a := by rw [eP10409]; exact ⟨rfl, rfl, rfl, rfl, rfl, rfl, rfl, rfl, rfl, rfl⟩
      refine m_iinc F (v := 1) (lv' := [(1, .int 1), (0, .ref c)]) e_X10_takeText_246 rfl (by decide) (by decide) rfl ?_
      refine m_goto F e_X10_takeText_249 ?_
      refine m_iload_n F rfl e_X10_takeText_210 ?_
      refine m_bipush F (v := 8) (by decide) e_X10_takeText_211 ?_
      refine m_icmp_ge F e_X10_takeText_213 (fun q => absurd q (by decide)) (fun _ => ?_)
      refine m_aload_n F rfl e_X10_takeText_216 ?_
      refine r_getC F e_X10_takeText_217 fl_X10_40 h10405 ((fld_eq (g10406 _ (by omega))).trans ((fld_eq (g10396 _ (by omega))).trans f10389)) ?_
      refine m_iload_n F rfl e_X10_takeText_220 ?_
      refine m_aload_n F rfl e_X10_takeText_221 ?_
      refine r_getC F e_X10_takeText_222 fl_X10_40 h10405 ((fld_eq (g10406 _ (by omega))).trans ((fld_eq (g10396 _ (by omega))).trans f10389)) ?_
      refine m_bipush F (v := 8) (by decide) e_X10_takeText_225 ?_
      refine m_iload_n F rfl e_X10_takeText_227 ?_
      refine m_iadd F e_X10_takeText_228 ?_
      refine Wm.topE (w := 9) (by decide) ?_
      refine r_iald F (len := 16) (j := 9) e_X10_takeText_229 h10405 (fun _ h => h) (by decide) (by decide) (by unfold vp_in; decide) (fun x10410 h10411 f10412 => ?_)
      obtain ⟨n10413, hn10413, rfl⟩ := h10411
      refine r_iast F (g' := (⟨T, Z, u, h, P10409, L⟩ : RG)) (len := 16) (j := 1) e_X10_takeText_230 h10405 (fun _ h => h) (fun f h => ⟨f, rfl, h⟩) (by decide) (by decide) (by decide) (by unfold vp_in; decide) ⟨n10413, by omega, rfl⟩ (fun _ _ _ h => h) (fun _ _ _ h => h) (fun σ10414 h10415 g10416 f10417 g10418 => ?_)
      refine m_aload_n F rfl e_X10_takeText_231 ?_
      refine r_getC F e_X10_takeText_232 fl_X10_43 h10415 ((fld_eq (g10416 _ (by omega))).trans ((fld_eq (g10406 _ (by omega))).trans f10399)) ?_
      refine m_iload_n F rfl e_X10_takeText_235 ?_
      refine m_aload_n F rfl e_X10_takeText_236 ?_
      refine r_getC F e_X10_takeText_237 fl_X10_43 h10415 ((fld_eq (g10416 _ (by omega))).trans ((fld_eq (g10406 _ (by omega))).trans f10399)) ?_
      refine m_bipush F (v := 8) (by decide) e_X10_takeText_240 ?_
      refine m_iload_n F rfl e_X10_takeText_242 ?_
      refine m_iadd F e_X10_takeText_243 ?_
      refine Wm.topE (w := 9) (by decide) ?_
      refine r_iald F (len := 16) (j := 9) e_X10_takeText_244 h10415 (fun _ h => h) (by decide) (by decide) (by unfold vp_in; decide) (fun x10419 h10420 f10421 => ?_)
      obtain ⟨n10422, hn10422, rfl, pn10422, rn10422⟩ := h10420
      refine r_iast F (g' := (⟨T, Z, u, h, (mkP P10409.n0 P10409.n2 P10409.n5 P10409.n7 P10409.m0 P10409.m5 (min 2 P10409.w7) P10409.w7 P10409.kk P10409.a), L⟩ : RG)) (len := 16) (j := 1) e_X10_takeText_245 h10415 (fun _ h => h) (fun f h => ⟨f, rfl, h⟩) (by decide) (by decide) (by decide) (by unfold vp_in; decide) ⟨n10422, by omega, rfl, fun _ h8 => rn10422 (by omega) (show 9 < 8 + P10409.w7 by have h6 : 1 < min 2 P10409.w7 := h8; omega), fun h7 _ => absurd h7 (by omega)⟩ (fun i hi y hy => by obtain ⟨n9, a9, b9, c9, d9⟩ := hy; exact ⟨n9, a9, b9, fun h7 h8 => c9 h7 (show i < P10409.w2 by have h6 : i < min 2 P10409.w7 := h8; omega), d9⟩) (CR.chg (by intro k hk i x h; unfold EI at h ⊢; split at h <;> first | exact h | exact absurd rfl hk | trivial) rfl rfl) (fun σ10423 h10424 g10425 f10426 g10427 => ?_)
      obtain ⟨P10428, eP10428⟩ : ∃ P9, P9 = (mkP P10409.n0 P10409.n2 P10409.n5 P10409.n7 P10409.m0 P10409.m5 (min 2 P10409.w7) P10409.w7 P10409.kk P10409.a) := ⟨_, rfl⟩
      rw [← eP10428] at h10424
      have fP10428 : P10428.n0 = P10409.n0 ∧ P10428.n2 = P10409.n2 ∧ P10428.n5 = P10409.n5 ∧ P10428.n7 = P10409.n7 ∧ P10428.m0 = P10409.m0 ∧ P10428.m5 = P10409.m5 ∧ P10428.w2 = min 2 P10409.w7 ∧ P10428.w7 = P10409.w7 ∧ P10428.kk = P10409.kk ∧ P10428.a = P10409.a := by rw [eP10428]; exact ⟨rfl, rfl, rfl, rfl, rfl, rfl, rfl, rfl, rfl, rfl⟩
      refine m_iinc F (v := 2) (lv' := [(1, .int 2), (0, .ref c)]) e_X10_takeText_246 rfl (by decide) (by decide) rfl ?_
      refine m_goto F e_X10_takeText_249 ?_
      refine m_iload_n F rfl e_X10_takeText_210 ?_
      refine m_bipush F (v := 8) (by decide) e_X10_takeText_211 ?_
      refine m_icmp_ge F e_X10_takeText_213 (fun q => absurd q (by decide)) (fun _ => ?_)
      refine m_aload_n F rfl e_X10_takeText_216 ?_
      refine r_getC F e_X10_takeText_217 fl_X10_40 h10424 ((fld_eq (g10425 _ (by omega))).trans ((fld_eq (g10416 _ (by omega))).trans ((fld_eq (g10406 _ (by omega))).trans ((fld_eq (g10396 _ (by omega))).trans f10389)))) ?_
      refine m_iload_n F rfl e_X10_takeText_220 ?_
      refine m_aload_n F rfl e_X10_takeText_221 ?_
      refine r_getC F e_X10_takeText_222 fl_X10_40 h10424 ((fld_eq (g10425 _ (by omega))).trans ((fld_eq (g10416 _ (by omega))).trans ((fld_eq (g10406 _ (by omega))).trans ((fld_eq (g10396 _ (by omega))).trans f10389)))) ?_
      refine m_bipush F (v := 8) (by decide) e_X10_takeText_225 ?_
      refine m_iload_n F rfl e_X10_takeText_227 ?_
      refine m_iadd F e_X10_takeText_228 ?_
      refine Wm.topE (w := 10) (by decide) ?_
      refine r_iald F (len := 16) (j := 10) e_X10_takeText_229 h10424 (fun _ h => h) (by decide) (by decide) (by unfold vp_in; decide) (fun x10429 h10430 f10431 => ?_)
      obtain ⟨n10432, hn10432, rfl⟩ := h10430
      refine r_iast F (g' := (⟨T, Z, u, h, P10428, L⟩ : RG)) (len := 16) (j := 2) e_X10_takeText_230 h10424 (fun _ h => h) (fun f h => ⟨f, rfl, h⟩) (by decide) (by decide) (by decide) (by unfold vp_in; decide) ⟨n10432, by omega, rfl⟩ (fun _ _ _ h => h) (fun _ _ _ h => h) (fun σ10433 h10434 g10435 f10436 g10437 => ?_)
      refine m_aload_n F rfl e_X10_takeText_231 ?_
      refine r_getC F e_X10_takeText_232 fl_X10_43 h10434 ((fld_eq (g10435 _ (by omega))).trans ((fld_eq (g10425 _ (by omega))).trans ((fld_eq (g10416 _ (by omega))).trans ((fld_eq (g10406 _ (by omega))).trans f10399)))) ?_
      refine m_iload_n F rfl e_X10_takeText_235 ?_
      refine m_aload_n F rfl e_X10_takeText_236 ?_
      refine r_getC F e_X10_takeText_237 fl_X10_43 h10434 ((fld_eq (g10435 _ (by omega))).trans ((fld_eq (g10425 _ (by omega))).trans ((fld_eq (g10416 _ (by omega))).trans ((fld_eq (g10406 _ (by omega))).trans f10399)))) ?_
      refine m_bipush F (v := 8) (by decide) e_X10_takeText_240 ?_
      refine m_iload_n F rfl e_X10_takeText_242 ?_
      refine m_iadd F e_X10_takeText_243 ?_
      refine Wm.topE (w := 10) (by decide) ?_
      refine r_iald F (len := 16) (j := 10) e_X10_takeText_244 h10434 (fun _ h => h) (by decide) (by decide) (by unfold vp_in; decide) (fun x10438 h10439 f10440 => ?_)
      obtain ⟨n10441, hn10441, rfl, pn10441, rn10441⟩ := h10439
      refine r_iast F (g' := (⟨T, Z, u, h, (mkP P10428.n0 P10428.n2 P10428.n5 P10428.n7 P10428.m0 P10428.m5 (min 3 P10428.w7) P10428.w7 P10428.kk P10428.a), L⟩ : RG)) (len := 16) (j := 2) e_X10_takeText_245 h10434 (fun _ h => h) (fun f h => ⟨f, rfl, h⟩) (by decide) (by decide) (by decide) (by unfold vp_in; decide) ⟨n10441, by omega, rfl, fun _ h8 => rn10441 (by omega) (show 10 < 8 + P10428.w7 by have h6 : 2 < min 3 P10428.w7 := h8; omega), fun h7 _ => absurd h7 (by omega)⟩ (fun i hi y hy => by obtain ⟨n9, a9, b9, c9, d9⟩ := hy; exact ⟨n9, a9, b9, fun h7 h8 => c9 h7 (show i < P10428.w2 by have h6 : i < min 3 P10428.w7 := h8; omega), d9⟩) (CR.chg (by intro k hk i x h; unfold EI at h ⊢; split at h <;> first | exact h | exact absurd rfl hk | trivial) rfl rfl) (fun σ10442 h10443 g10444 f10445 g10446 => ?_)
      obtain ⟨P10447, eP10447⟩ : ∃ P9, P9 = (mkP P10428.n0 P10428.n2 P10428.n5 P10428.n7 P10428.m0 P10428.m5 (min 3 P10428.w7) P10428.w7 P10428.kk P10428.a) := ⟨_, rfl⟩
      rw [← eP10447] at h10443
      have fP10447 : P10447.n0 = P10428.n0 ∧ P10447.n2 = P10428.n2 ∧ P10447.n5 = P10428.n5 ∧ P10447.n7 = P10428.n7 ∧ P10447.m0 = P10428.m0 ∧ P10447.m5 = P10428.m5 ∧ P10447.w2 = min 3 P10428.w7 ∧ P10447.w7 = P10428.w7 ∧ P10447.kk = P10428.kk ∧ P10447.a = P10428.a := by rw [eP10447]; exact ⟨rfl, rfl, rfl, rfl, rfl, rfl, rfl, rfl, rfl, rfl⟩
      refine m_iinc F (v := 3) (lv' := [(1, .int 3), (0, .ref c)]) e_X10_takeText_246 rfl (by decide) (by decide) rfl ?_
      refine m_goto F e_X10_takeText_249 ?_
      refine m_iload_n F rfl e_X10_takeText_210 ?_
      refine m_bipush F (v := 8) (by decide) e_X10_takeText_211 ?_
      refine m_icmp_ge F e_X10_takeText_213 (fun q => absurd q (by decide)) (fun _ => ?_)
      refine m_aload_n F rfl e_X10_takeText_216 ?_
      refine r_getC F e_X10_takeText_217 fl_X10_40 h10443 ((fld_eq (g10444 _ (by omega))).trans ((fld_eq (g10435 _ (by omega))).trans ((fld_eq (g10425 _ (by omega))).trans ((fld_eq (g10416 _ (by omega))).trans ((fld_eq (g10406 _ (by omega))).trans ((fld_eq (g10396 _ (by omega))).trans f10389)))))) ?_
      refine m_iload_n F rfl e_X10_takeText_220 ?_
      refine m_aload_n F rfl e_X10_takeText_221 ?_
      refine r_getC F e_X10_takeText_222 fl_X10_40 h10443 ((fld_eq (g10444 _ (by omega))).trans ((fld_eq (g10435 _ (by omega))).trans ((fld_eq (g10425 _ (by omega))).trans ((fld_eq (g10416 _ (by omega))).trans ((fld_eq (g10406 _ (by omega))).trans ((fld_eq (g10396 _ (by omega))).trans f10389)))))) ?_
      refine m_bipush F (v := 8) (by decide) e_X10_takeText_225 ?_
      refine m_iload_n F rfl e_X10_takeText_227 ?_
      refine m_iadd F e_X10_takeText_228 ?_
      refine Wm.topE (w := 11) (by decide) ?_
      refine r_iald F (len := 16) (j := 11) e_X10_takeText_229 h10443 (fun _ h => h) (by decide) (by decide) (by unfold vp_in; decide) (fun x10448 h10449 f10450 => ?_)
      obtain ⟨n10451, hn10451, rfl⟩ := h10449
      refine r_iast F (g' := (⟨T, Z, u, h, P10447, L⟩ : RG)) (len := 16) (j := 3) e_X10_takeText_230 h10443 (fun _ h => h) (fun f h => ⟨f, rfl, h⟩) (by decide) (by decide) (by decide) (by unfold vp_in; decide) ⟨n10451, by omega, rfl⟩ (fun _ _ _ h => h) (fun _ _ _ h => h) (fun σ10452 h10453 g10454 f10455 g10456 => ?_)
      refine m_aload_n F rfl e_X10_takeText_231 ?_
      refine r_getC F e_X10_takeText_232 fl_X10_43 h10453 ((fld_eq (g10454 _ (by omega))).trans ((fld_eq (g10444 _ (by omega))).trans ((fld_eq (g10435 _ (by omega))).trans ((fld_eq (g10425 _ (by omega))).trans ((fld_eq (g10416 _ (by omega))).trans ((fld_eq (g10406 _ (by omega))).trans f10399)))))) ?_
      refine m_iload_n F rfl e_X10_takeText_235 ?_
      refine m_aload_n F rfl e_X10_takeText_236 ?_
      refine r_getC F e_X10_takeText_237 fl_X10_43 h10453 ((fld_eq (g10454 _ (by omega))).trans ((fld_eq (g10444 _ (by omega))).trans ((fld_eq (g10435 _ (by omega))).trans ((fld_eq (g10425 _ (by omega))).trans ((fld_eq (g10416 _ (by omega))).trans ((fld_eq (g10406 _ (by omega))).trans f10399)))))) ?_
      refine m_bipush F (v := 8) (by decide) e_X10_takeText_240 ?_
      refine m_iload_n F rfl e_X10_takeText_242 ?_
      refine m_iadd F e_X10_takeText_243 ?_
      refine Wm.topE (w := 11) (by decide) ?_
      refine r_iald F (len := 16) (j := 11) e_X10_takeText_244 h10453 (fun _ h => h) (by decide) (by decide) (by unfold vp_in; decide) (fun x10457 h10458 f10459 => ?_)
      obtain ⟨n10460, hn10460, rfl, pn10460, rn10460⟩ := h10458
      refine r_iast F (g' := (⟨T, Z, u, h, (mkP P10447.n0 P10447.n2 P10447.n5 P10447.n7 P10447.m0 P10447.m5 (min 4 P10447.w7) P10447.w7 P10447.kk P10447.a), L⟩ : RG)) (len := 16) (j := 3) e_X10_takeText_245 h10453 (fun _ h => h) (fun f h => ⟨f, rfl, h⟩) (by decide) (by decide) (by decide) (by unfold vp_in; decide) ⟨n10460, by omega, rfl, fun _ h8 => rn10460 (by omega) (show 11 < 8 + P10447.w7 by have h6 : 3 < min 4 P10447.w7 := h8; omega), fun h7 _ => absurd h7 (by omega)⟩ (fun i hi y hy => by obtain ⟨n9, a9, b9, c9, d9⟩ := hy; exact ⟨n9, a9, b9, fun h7 h8 => c9 h7 (show i < P10447.w2 by have h6 : i < min 4 P10447.w7 := h8; omega), d9⟩) (CR.chg (by intro k hk i x h; unfold EI at h ⊢; split at h <;> first | exact h | exact absurd rfl hk | trivial) rfl rfl) (fun σ10461 h10462 g10463 f10464 g10465 => ?_)
      obtain ⟨P10466, eP10466⟩ : ∃ P9, P9 = (mkP P10447.n0 P10447.n2 P10447.n5 P10447.n7 P10447.m0 P10447.m5 (min 4 P10447.w7) P10447.w7 P10447.kk P10447.a) := ⟨_, rfl⟩
      rw [← eP10466] at h10462
      have fP10466 : P10466.n0 = P10447.n0 ∧ P10466.n2 = P10447.n2 ∧ P10466.n5 = P10447.n5 ∧ P10466.n7 = P10447.n7 ∧ P10466.m0 = P10447.m0 ∧ P10466.m5 = P10447.m5 ∧ P10466.w2 = min 4 P10447.w7 ∧ P10466.w7 = P10447.w7 ∧ P10466.kk = P10447.kk ∧ P10466.a = P10447.a := by rw [eP10466]; exact ⟨rfl, rfl, rfl, rfl, rfl, rfl, rfl, rfl, rfl, rfl⟩
      refine m_iinc F (v := 4) (lv' := [(1, .int 4), (0, .ref c)]) e_X10_takeText_246 rfl (by decide) (by decide) rfl ?_
      refine m_goto F e_X10_takeText_249 ?_
      refine m_iload_n F rfl e_X10_takeText_210 ?_
      refine m_bipush F (v := 8) (by decide) e_X10_takeText_211 ?_
      refine m_icmp_ge F e_X10_takeText_213 (fun q => absurd q (by decide)) (fun _ => ?_)
      refine m_aload_n F rfl e_X10_takeText_216 ?_
      refine r_getC F e_X10_takeText_217 fl_X10_40 h10462 ((fld_eq (g10463 _ (by omega))).trans ((fld_eq (g10454 _ (by omega))).trans ((fld_eq (g10444 _ (by omega))).trans ((fld_eq (g10435 _ (by omega))).trans ((fld_eq (g10425 _ (by omega))).trans ((fld_eq (g10416 _ (by omega))).trans ((fld_eq (g10406 _ (by omega))).trans ((fld_eq (g10396 _ (by omega))).trans f10389)))))))) ?_
      refine m_iload_n F rfl e_X10_takeText_220 ?_
      refine m_aload_n F rfl e_X10_takeText_221 ?_
      refine r_getC F e_X10_takeText_222 fl_X10_40 h10462 ((fld_eq (g10463 _ (by omega))).trans ((fld_eq (g10454 _ (by omega))).trans ((fld_eq (g10444 _ (by omega))).trans ((fld_eq (g10435 _ (by omega))).trans ((fld_eq (g10425 _ (by omega))).trans ((fld_eq (g10416 _ (by omega))).trans ((fld_eq (g10406 _ (by omega))).trans ((fld_eq (g10396 _ (by omega))).trans f10389)))))))) ?_
      refine m_bipush F (v := 8) (by decide) e_X10_takeText_225 ?_
      refine m_iload_n F rfl e_X10_takeText_227 ?_
      refine m_iadd F e_X10_takeText_228 ?_
      refine Wm.topE (w := 12) (by decide) ?_
      refine r_iald F (len := 16) (j := 12) e_X10_takeText_229 h10462 (fun _ h => h) (by decide) (by decide) (by unfold vp_in; decide) (fun x10467 h10468 f10469 => ?_)
      obtain ⟨n10470, hn10470, rfl⟩ := h10468
      refine r_iast F (g' := (⟨T, Z, u, h, P10466, L⟩ : RG)) (len := 16) (j := 4) e_X10_takeText_230 h10462 (fun _ h => h) (fun f h => ⟨f, rfl, h⟩) (by decide) (by decide) (by decide) (by unfold vp_in; decide) ⟨n10470, by omega, rfl⟩ (fun _ _ _ h => h) (fun _ _ _ h => h) (fun σ10471 h10472 g10473 f10474 g10475 => ?_)
      refine m_aload_n F rfl e_X10_takeText_231 ?_
      refine r_getC F e_X10_takeText_232 fl_X10_43 h10472 ((fld_eq (g10473 _ (by omega))).trans ((fld_eq (g10463 _ (by omega))).trans ((fld_eq (g10454 _ (by omega))).trans ((fld_eq (g10444 _ (by omega))).trans ((fld_eq (g10435 _ (by omega))).trans ((fld_eq (g10425 _ (by omega))).trans ((fld_eq (g10416 _ (by omega))).trans ((fld_eq (g10406 _ (by omega))).trans f10399)))))))) ?_
      refine m_iload_n F rfl e_X10_takeText_235 ?_
      refine m_aload_n F rfl e_X10_takeText_236 ?_
      refine r_getC F e_X10_takeText_237 fl_X10_43 h10472 ((fld_eq (g10473 _ (by omega))).trans ((fld_eq (g10463 _ (by omega))).trans ((fld_eq (g10454 _ (by omega))).trans ((fld_eq (g10444 _ (by omega))).trans ((fld_eq (g10435 _ (by omega))).trans ((fld_eq (g10425 _ (by omega))).trans ((fld_eq (g10416 _ (by omega))).trans ((fld_eq (g10406 _ (by omega))).trans f10399)))))))) ?_
      refine m_bipush F (v := 8) (by decide) e_X10_takeText_240 ?_
      refine m_iload_n F rfl e_X10_takeText_242 ?_
      refine m_iadd F e_X10_takeText_243 ?_
      refine Wm.topE (w := 12) (by decide) ?_
      refine r_iald F (len := 16) (j := 12) e_X10_takeText_244 h10472 (fun _ h => h) (by decide) (by decide) (by unfold vp_in; decide) (fun x10476 h10477 f10478 => ?_)
      obtain ⟨n10479, hn10479, rfl, pn10479, rn10479⟩ := h10477
      refine r_iast F (g' := (⟨T, Z, u, h, (mkP P10466.n0 P10466.n2 P10466.n5 P10466.n7 P10466.m0 P10466.m5 (min 5 P10466.w7) P10466.w7 P10466.kk P10466.a), L⟩ : RG)) (len := 16) (j := 4) e_X10_takeText_245 h10472 (fun _ h => h) (fun f h => ⟨f, rfl, h⟩) (by decide) (by decide) (by decide) (by unfold vp_in; decide) ⟨n10479, by omega, rfl, fun _ h8 => rn10479 (by omega) (show 12 < 8 + P10466.w7 by have h6 : 4 < min 5 P10466.w7 := h8; omega), fun h7 _ => absurd h7 (by omega)⟩ (fun i hi y hy => by obtain ⟨n9, a9, b9, c9, d9⟩ := hy; exact ⟨n9, a9, b9, fun h7 h8 => c9 h7 (show i < P10466.w2 by have h6 : i < min 5 P10466.w7 := h8; omega), d9⟩) (CR.chg (by intro k hk i x h; unfold EI at h ⊢; split at h <;> first | exact h | exact absurd rfl hk | trivial) rfl rfl) (fun σ10480 h10481 g10482 f10483 g10484 => ?_)
      obtain ⟨P10485, eP10485⟩ : ∃ P9, P9 = (mkP P10466.n0 P10466.n2 P10466.n5 P10466.n7 P10466.m0 P10466.m5 (min 5 P10466.w7) P10466.w7 P10466.kk P10466.a) := ⟨_, rfl⟩
      rw [← eP10485] at h10481
      have fP10485 : P10485.n0 = P10466.n0 ∧ P10485.n2 = P10466.n2 ∧ P10485.n5 = P10466.n5 ∧ P10485.n7 = P10466.n7 ∧ P10485.m0 = P10466.m0 ∧ P10485.m5 = P10466.m5 ∧ P10485.w2 = min 5 P10466.w7 ∧ P10485.w7 = P10466.w7 ∧ P10485.kk = P10466.kk ∧ P10485.a = P10466.a := by rw [eP10485]; exact ⟨rfl, rfl, rfl, rfl, rfl, rfl, rfl, rfl, rfl, rfl⟩
      refine m_iinc F (v := 5) (lv' := [(1, .int 5), (0, .ref c)]) e_X10_takeText_246 rfl (by decide) (by decide) rfl ?_
      refine m_goto F e_X10_takeText_249 ?_
      refine m_iload_n F rfl e_X10_takeText_210 ?_
      refine m_bipush F (v := 8) (by decide) e_X10_takeText_211 ?_
      refine m_icmp_ge F e_X10_takeText_213 (fun q => absurd q (by decide)) (fun _ => ?_)
      refine m_aload_n F rfl e_X10_takeText_216 ?_
      refine r_getC F e_X10_takeText_217 fl_X10_40 h10481 ((fld_eq (g10482 _ (by omega))).trans ((fld_eq (g10473 _ (by omega))).trans ((fld_eq (g10463 _ (by omega))).trans ((fld_eq (g10454 _ (by omega))).trans ((fld_eq (g10444 _ (by omega))).trans ((fld_eq (g10435 _ (by omega))).trans ((fld_eq (g10425 _ (by omega))).trans ((fld_eq (g10416 _ (by omega))).trans ((fld_eq (g10406 _ (by omega))).trans ((fld_eq (g10396 _ (by omega))).trans f10389)))))))))) ?_
      refine m_iload_n F rfl e_X10_takeText_220 ?_
      refine m_aload_n F rfl e_X10_takeText_221 ?_
      refine r_getC F e_X10_takeText_222 fl_X10_40 h10481 ((fld_eq (g10482 _ (by omega))).trans ((fld_eq (g10473 _ (by omega))).trans ((fld_eq (g10463 _ (by omega))).trans ((fld_eq (g10454 _ (by omega))).trans ((fld_eq (g10444 _ (by omega))).trans ((fld_eq (g10435 _ (by omega))).trans ((fld_eq (g10425 _ (by omega))).trans ((fld_eq (g10416 _ (by omega))).trans ((fld_eq (g10406 _ (by omega))).trans ((fld_eq (g10396 _ (by omega))).trans f10389)))))))))) ?_
      refine m_bipush F (v := 8) (by decide) e_X10_takeText_225 ?_
      refine m_iload_n F rfl e_X10_takeText_227 ?_
      refine m_iadd F e_X10_takeText_228 ?_
      refine Wm.topE (w := 13) (by decide) ?_
      refine r_iald F (len := 16) (j := 13) e_X10_takeText_229 h10481 (fun _ h => h) (by decide) (by decide) (by unfold vp_in; decide) (fun x10486 h10487 f10488 => ?_)
      obtain ⟨n10489, hn10489, rfl⟩ := h10487
      refine r_iast F (g' := (⟨T, Z, u, h, P10485, L⟩ : RG)) (len := 16) (j := 5) e_X10_takeText_230 h10481 (fun _ h => h) (fun f h => ⟨f, rfl, h⟩) (by decide) (by decide) (by decide) (by unfold vp_in; decide) ⟨n10489, by omega, rfl⟩ (fun _ _ _ h => h) (fun _ _ _ h => h) (fun σ10490 h10491 g10492 f10493 g10494 => ?_)
      refine m_aload_n F rfl e_X10_takeText_231 ?_
      refine r_getC F e_X10_takeText_232 fl_X10_43 h10491 ((fld_eq (g10492 _ (by omega))).trans ((fld_eq (g10482 _ (by omega))).trans ((fld_eq (g10473 _ (by omega))).trans ((fld_eq (g10463 _ (by omega))).trans ((fld_eq (g10454 _ (by omega))).trans ((fld_eq (g10444 _ (by omega))).trans ((fld_eq (g10435 _ (by omega))).trans ((fld_eq (g10425 _ (by omega))).trans ((fld_eq (g10416 _ (by omega))).trans ((fld_eq (g10406 _ (by omega))).trans f10399)))))))))) ?_
      refine m_iload_n F rfl e_X10_takeText_235 ?_
      refine m_aload_n F rfl e_X10_takeText_236 ?_
      refine r_getC F e_X10_takeText_237 fl_X10_43 h10491 ((fld_eq (g10492 _ (by omega))).trans ((fld_eq (g10482 _ (by omega))).trans ((fld_eq (g10473 _ (by omega))).trans ((fld_eq (g10463 _ (by omega))).trans ((fld_eq (g10454 _ (by omega))).trans ((fld_eq (g10444 _ (by omega))).trans ((fld_eq (g10435 _ (by omega))).trans ((fld_eq (g10425 _ (by omega))).trans ((fld_eq (g10416 _ (by omega))).trans ((fld_eq (g10406 _ (by omega))).trans f10399)))))))))) ?_
      refine m_bipush F (v := 8) (by decide) e_X10_takeText_240 ?_
      refine m_iload_n F rfl e_X10_takeText_242 ?_
      refine m_iadd F e_X10_takeText_243 ?_
      refine Wm.topE (w := 13) (by decide) ?_
      refine r_iald F (len := 16) (j := 13) e_X10_takeText_244 h10491 (fun _ h => h) (by decide) (by decide) (by unfold vp_in; decide) (fun x10495 h10496 f10497 => ?_)
      obtain ⟨n10498, hn10498, rfl, pn10498, rn10498⟩ := h10496
      refine r_iast F (g' := (⟨T, Z, u, h, (mkP P10485.n0 P10485.n2 P10485.n5 P10485.n7 P10485.m0 P10485.m5 (min 6 P10485.w7) P10485.w7 P10485.kk P10485.a), L⟩ : RG)) (len := 16) (j := 5) e_X10_takeText_245 h10491 (fun _ h => h) (fun f h => ⟨f, rfl, h⟩) (by decide) (by decide) (by decide) (by unfold vp_in; decide) ⟨n10498, by omega, rfl, fun _ h8 => rn10498 (by omega) (show 13 < 8 + P10485.w7 by have h6 : 5 < min 6 P10485.w7 := h8; omega), fun h7 _ => absurd h7 (by omega)⟩ (fun i hi y hy => by obtain ⟨n9, a9, b9, c9, d9⟩ := hy; exact ⟨n9, a9, b9, fun h7 h8 => c9 h7 (show i < P10485.w2 by have h6 : i < min 6 P10485.w7 := h8; omega), d9⟩) (CR.chg (by intro k hk i x h; unfold EI at h ⊢; split at h <;> first | exact h | exact absurd rfl hk | trivial) rfl rfl) (fun σ10499 h10500 g10501 f10502 g10503 => ?_)
      obtain ⟨P10504, eP10504⟩ : ∃ P9, P9 = (mkP P10485.n0 P10485.n2 P10485.n5 P10485.n7 P10485.m0 P10485.m5 (min 6 P10485.w7) P10485.w7 P10485.kk P10485.a) := ⟨_, rfl⟩
      rw [← eP10504] at h10500
      have fP10504 : P10504.n0 = P10485.n0 ∧ P10504.n2 = P10485.n2 ∧ P10504.n5 = P10485.n5 ∧ P10504.n7 = P10485.n7 ∧ P10504.m0 = P10485.m0 ∧ P10504.m5 = P10485.m5 ∧ P10504.w2 = min 6 P10485.w7 ∧ P10504.w7 = P10485.w7 ∧ P10504.kk = P10485.kk ∧ P10504.a = P10485.a := by rw [eP10504]; exact ⟨rfl, rfl, rfl, rfl, rfl, rfl, rfl, rfl, rfl, rfl⟩
      refine m_iinc F (v := 6) (lv' := [(1, .int 6), (0, .ref c)]) e_X10_takeText_246 rfl (by decide) (by decide) rfl ?_
      refine m_goto F e_X10_takeText_249 ?_
      refine m_iload_n F rfl e_X10_takeText_210 ?_
      refine m_bipush F (v := 8) (by decide) e_X10_takeText_211 ?_
      refine m_icmp_ge F e_X10_takeText_213 (fun q => absurd q (by decide)) (fun _ => ?_)
      refine m_aload_n F rfl e_X10_takeText_216 ?_
      refine r_getC F e_X10_takeText_217 fl_X10_40 h10500 ((fld_eq (g10501 _ (by omega))).trans ((fld_eq (g10492 _ (by omega))).trans ((fld_eq (g10482 _ (by omega))).trans ((fld_eq (g10473 _ (by omega))).trans ((fld_eq (g10463 _ (by omega))).trans ((fld_eq (g10454 _ (by omega))).trans ((fld_eq (g10444 _ (by omega))).trans ((fld_eq (g10435 _ (by omega))).trans ((fld_eq (g10425 _ (by omega))).trans ((fld_eq (g10416 _ (by omega))).trans ((fld_eq (g10406 _ (by omega))).trans ((fld_eq (g10396 _ (by omega))).trans f10389)))))))))))) ?_
      refine m_iload_n F rfl e_X10_takeText_220 ?_
      refine m_aload_n F rfl e_X10_takeText_221 ?_
      refine r_getC F e_X10_takeText_222 fl_X10_40 h10500 ((fld_eq (g10501 _ (by omega))).trans ((fld_eq (g10492 _ (by omega))).trans ((fld_eq (g10482 _ (by omega))).trans ((fld_eq (g10473 _ (by omega))).trans ((fld_eq (g10463 _ (by omega))).trans ((fld_eq (g10454 _ (by omega))).trans ((fld_eq (g10444 _ (by omega))).trans ((fld_eq (g10435 _ (by omega))).trans ((fld_eq (g10425 _ (by omega))).trans ((fld_eq (g10416 _ (by omega))).trans ((fld_eq (g10406 _ (by omega))).trans ((fld_eq (g10396 _ (by omega))).trans f10389)))))))))))) ?_
      refine m_bipush F (v := 8) (by decide) e_X10_takeText_225 ?_
      refine m_iload_n F rfl e_X10_takeText_227 ?_
      refine m_iadd F e_X10_takeText_228 ?_
      refine Wm.topE (w := 14) (by decide) ?_
      refine r_iald F (len := 16) (j := 14) e_X10_takeText_229 h10500 (fun _ h => h) (by decide) (by decide) (by unfold vp_in; decide) (fun x10505 h10506 f10507 => ?_)
      obtain ⟨n10508, hn10508, rfl⟩ := h10506
      refine r_iast F (g' := (⟨T, Z, u, h, P10504, L⟩ : RG)) (len := 16) (j := 6) e_X10_takeText_230 h10500 (fun _ h => h) (fun f h => ⟨f, rfl, h⟩) (by decide) (by decide) (by decide) (by unfold vp_in; decide) ⟨n10508, by omega, rfl⟩ (fun _ _ _ h => h) (fun _ _ _ h => h) (fun σ10509 h10510 g10511 f10512 g10513 => ?_)
      refine m_aload_n F rfl e_X10_takeText_231 ?_
      refine r_getC F e_X10_takeText_232 fl_X10_43 h10510 ((fld_eq (g10511 _ (by omega))).trans ((fld_eq (g10501 _ (by omega))).trans ((fld_eq (g10492 _ (by omega))).trans ((fld_eq (g10482 _ (by omega))).trans ((fld_eq (g10473 _ (by omega))).trans ((fld_eq (g10463 _ (by omega))).trans ((fld_eq (g10454 _ (by omega))).trans ((fld_eq (g10444 _ (by omega))).trans ((fld_eq (g10435 _ (by omega))).trans ((fld_eq (g10425 _ (by omega))).trans ((fld_eq (g10416 _ (by omega))).trans ((fld_eq (g10406 _ (by omega))).trans f10399)))))))))))) ?_
      refine m_iload_n F rfl e_X10_takeText_235 ?_
      refine m_aload_n F rfl e_X10_takeText_236 ?_
      refine r_getC F e_X10_takeText_237 fl_X10_43 h10510 ((fld_eq (g10511 _ (by omega))).trans ((fld_eq (g10501 _ (by omega))).trans ((fld_eq (g10492 _ (by omega))).trans ((fld_eq (g10482 _ (by omega))).trans ((fld_eq (g10473 _ (by omega))).trans ((fld_eq (g10463 _ (by omega))).trans ((fld_eq (g10454 _ (by omega))).trans ((fld_eq (g10444 _ (by omega))).trans ((fld_eq (g10435 _ (by omega))).trans ((fld_eq (g10425 _ (by omega))).trans ((fld_eq (g10416 _ (by omega))).trans ((fld_eq (g10406 _ (by omega))).trans f10399)))))))))))) ?_
      refine m_bipush F (v := 8) (by decide) e_X10_takeText_240 ?_
      refine m_iload_n F rfl e_X10_takeText_242 ?_
      refine m_iadd F e_X10_takeText_243 ?_
      refine Wm.topE (w := 14) (by decide) ?_
      refine r_iald F (len := 16) (j := 14) e_X10_takeText_244 h10510 (fun _ h => h) (by decide) (by decide) (by unfold vp_in; decide) (fun x10514 h10515 f10516 => ?_)
      obtain ⟨n10517, hn10517, rfl, pn10517, rn10517⟩ := h10515
      refine r_iast F (g' := (⟨T, Z, u, h, (mkP P10504.n0 P10504.n2 P10504.n5 P10504.n7 P10504.m0 P10504.m5 (min 7 P10504.w7) P10504.w7 P10504.kk P10504.a), L⟩ : RG)) (len := 16) (j := 6) e_X10_takeText_245 h10510 (fun _ h => h) (fun f h => ⟨f, rfl, h⟩) (by decide) (by decide) (by decide) (by unfold vp_in; decide) ⟨n10517, by omega, rfl, fun _ h8 => rn10517 (by omega) (show 14 < 8 + P10504.w7 by have h6 : 6 < min 7 P10504.w7 := h8; omega), fun h7 _ => absurd h7 (by omega)⟩ (fun i hi y hy => by obtain ⟨n9, a9, b9, c9, d9⟩ := hy; exact ⟨n9, a9, b9, fun h7 h8 => c9 h7 (show i < P10504.w2 by have h6 : i < min 7 P10504.w7 := h8; omega), d9⟩) (CR.chg (by intro k hk i x h; unfold EI at h ⊢; split at h <;> first | exact h | exact absurd rfl hk | trivial) rfl rfl) (fun σ10518 h10519 g10520 f10521 g10522 => ?_)
      obtain ⟨P10523, eP10523⟩ : ∃ P9, P9 = (mkP P10504.n0 P10504.n2 P10504.n5 P10504.n7 P10504.m0 P10504.m5 (min 7 P10504.w7) P10504.w7 P10504.kk P10504.a) := ⟨_, rfl⟩
      rw [← eP10523] at h10519
      have fP10523 : P10523.n0 = P10504.n0 ∧ P10523.n2 = P10504.n2 ∧ P10523.n5 = P10504.n5 ∧ P10523.n7 = P10504.n7 ∧ P10523.m0 = P10504.m0 ∧ P10523.m5 = P10504.m5 ∧ P10523.w2 = min 7 P10504.w7 ∧ P10523.w7 = P10504.w7 ∧ P10523.kk = P10504.kk ∧ P10523.a = P10504.a := by rw [eP10523]; exact ⟨rfl, rfl, rfl, rfl, rfl, rfl, rfl, rfl, rfl, rfl⟩
      refine m_iinc F (v := 7) (lv' := [(1, .int 7), (0, .ref c)]) e_X10_takeText_246 rfl (by decide) (by decide) rfl ?_
      refine m_goto F e_X10_takeText_249 ?_
      refine m_iload_n F rfl e_X10_takeText_210 ?_
      refine m_bipush F (v := 8) (by decide) e_X10_takeText_211 ?_
      refine m_icmp_ge F e_X10_takeText_213 (fun q => absurd q (by decide)) (fun _ => ?_)
      refine m_aload_n F rfl e_X10_takeText_216 ?_
      refine r_getC F e_X10_takeText_217 fl_X10_40 h10519 ((fld_eq (g10520 _ (by omega))).trans ((fld_eq (g10511 _ (by omega))).trans ((fld_eq (g10501 _ (by omega))).trans ((fld_eq (g10492 _ (by omega))).trans ((fld_eq (g10482 _ (by omega))).trans ((fld_eq (g10473 _ (by omega))).trans ((fld_eq (g10463 _ (by omega))).trans ((fld_eq (g10454 _ (by omega))).trans ((fld_eq (g10444 _ (by omega))).trans ((fld_eq (g10435 _ (by omega))).trans ((fld_eq (g10425 _ (by omega))).trans ((fld_eq (g10416 _ (by omega))).trans ((fld_eq (g10406 _ (by omega))).trans ((fld_eq (g10396 _ (by omega))).trans f10389)))))))))))))) ?_
      refine m_iload_n F rfl e_X10_takeText_220 ?_
      refine m_aload_n F rfl e_X10_takeText_221 ?_
      refine r_getC F e_X10_takeText_222 fl_X10_40 h10519 ((fld_eq (g10520 _ (by omega))).trans ((fld_eq (g10511 _ (by omega))).trans ((fld_eq (g10501 _ (by omega))).trans ((fld_eq (g10492 _ (by omega))).trans ((fld_eq (g10482 _ (by omega))).trans ((fld_eq (g10473 _ (by omega))).trans ((fld_eq (g10463 _ (by omega))).trans ((fld_eq (g10454 _ (by omega))).trans ((fld_eq (g10444 _ (by omega))).trans ((fld_eq (g10435 _ (by omega))).trans ((fld_eq (g10425 _ (by omega))).trans ((fld_eq (g10416 _ (by omega))).trans ((fld_eq (g10406 _ (by omega))).trans ((fld_eq (g10396 _ (by omega))).trans f10389)))))))))))))) ?_
      refine m_bipush F (v := 8) (by decide) e_X10_takeText_225 ?_
      refine m_iload_n F rfl e_X10_takeText_227 ?_
      refine m_iadd F e_X10_takeText_228 ?_
      refine Wm.topE (w := 15) (by decide) ?_
      refine r_iald F (len := 16) (j := 15) e_X10_takeText_229 h10519 (fun _ h => h) (by decide) (by decide) (by unfold vp_in; decide) (fun x10524 h10525 f10526 => ?_)
      obtain ⟨n10527, hn10527, rfl⟩ := h10525
      refine r_iast F (g' := (⟨T, Z, u, h, P10523, L⟩ : RG)) (len := 16) (j := 7) e_X10_takeText_230 h10519 (fun _ h => h) (fun f h => ⟨f, rfl, h⟩) (by decide) (by decide) (by decide) (by unfold vp_in; decide) ⟨n10527, by omega, rfl⟩ (fun _ _ _ h => h) (fun _ _ _ h => h) (fun σ10528 h10529 g10530 f10531 g10532 => ?_)
      refine m_aload_n F rfl e_X10_takeText_231 ?_
      refine r_getC F e_X10_takeText_232 fl_X10_43 h10529 ((fld_eq (g10530 _ (by omega))).trans ((fld_eq (g10520 _ (by omega))).trans ((fld_eq (g10511 _ (by omega))).trans ((fld_eq (g10501 _ (by omega))).trans ((fld_eq (g10492 _ (by omega))).trans ((fld_eq (g10482 _ (by omega))).trans ((fld_eq (g10473 _ (by omega))).trans ((fld_eq (g10463 _ (by omega))).trans ((fld_eq (g10454 _ (by omega))).trans ((fld_eq (g10444 _ (by omega))).trans ((fld_eq (g10435 _ (by omega))).trans ((fld_eq (g10425 _ (by omega))).trans ((fld_eq (g10416 _ (by omega))).trans ((fld_eq (g10406 _ (by omega))).trans f10399)))))))))))))) ?_
      refine m_iload_n F rfl e_X10_takeText_235 ?_
      refine m_aload_n F rfl e_X10_takeText_236 ?_
      refine r_getC F e_X10_takeText_237 fl_X10_43 h10529 ((fld_eq (g10530 _ (by omega))).trans ((fld_eq (g10520 _ (by omega))).trans ((fld_eq (g10511 _ (by omega))).trans ((fld_eq (g10501 _ (by omega))).trans ((fld_eq (g10492 _ (by omega))).trans ((fld_eq (g10482 _ (by omega))).trans ((fld_eq (g10473 _ (by omega))).trans ((fld_eq (g10463 _ (by omega))).trans ((fld_eq (g10454 _ (by omega))).trans ((fld_eq (g10444 _ (by omega))).trans ((fld_eq (g10435 _ (by omega))).trans ((fld_eq (g10425 _ (by omega))).trans ((fld_eq (g10416 _ (by omega))).trans ((fld_eq (g10406 _ (by omega))).trans f10399)))))))))))))) ?_
      refine m_bipush F (v := 8) (by decide) e_X10_takeText_240 ?_
      refine m_iload_n F rfl e_X10_takeText_242 ?_
      refine m_iadd F e_X10_takeText_243 ?_
      refine Wm.topE (w := 15) (by decide) ?_
      refine r_iald F (len := 16) (j := 15) e_X10_takeText_244 h10529 (fun _ h => h) (by decide) (by decide) (by unfold vp_in; decide) (fun x10533 h10534 f10535 => ?_)
      obtain ⟨n10536, hn10536, rfl, pn10536, rn10536⟩ := h10534
      refine r_iast F (g' := (⟨T, Z, u, h, (mkP P10523.n0 P10523.n2 P10523.n5 P10523.n7 P10523.m0 P10523.m5 (min 8 P10523.w7) P10523.w7 P10523.kk P10523.a), L⟩ : RG)) (len := 16) (j := 7) e_X10_takeText_245 h10529 (fun _ h => h) (fun f h => ⟨f, rfl, h⟩) (by decide) (by decide) (by decide) (by unfold vp_in; decide) ⟨n10536, by omega, rfl, fun _ h8 => rn10536 (by omega) (show 15 < 8 + P10523.w7 by have h6 : 7 < min 8 P10523.w7 := h8; omega), fun h7 _ => absurd h7 (by omega)⟩ (fun i hi y hy => by obtain ⟨n9, a9, b9, c9, d9⟩ := hy; exact ⟨n9, a9, b9, fun h7 h8 => c9 h7 (show i < P10523.w2 by have h6 : i < min 8 P10523.w7 := h8; omega), d9⟩) (CR.chg (by intro k hk i x h; unfold EI at h ⊢; split at h <;> first | exact h | exact absurd rfl hk | trivial) rfl rfl) (fun σ10537 h10538 g10539 f10540 g10541 => ?_)
      obtain ⟨P10542, eP10542⟩ : ∃ P9, P9 = (mkP P10523.n0 P10523.n2 P10523.n5 P10523.n7 P10523.m0 P10523.m5 (min 8 P10523.w7) P10523.w7 P10523.kk P10523.a) := ⟨_, rfl⟩
      rw [← eP10542] at h10538
      have fP10542 : P10542.n0 = P10523.n0 ∧ P10542.n2 = P10523.n2 ∧ P10542.n5 = P10523.n5 ∧ P10542.n7 = P10523.n7 ∧ P10542.m0 = P10523.m0 ∧ P10542.m5 = P10523.m5 ∧ P10542.w2 = min 8 P10523.w7 ∧ P10542.w7 = P10523.w7 ∧ P10542.kk = P10523.kk ∧ P10542.a = P10523.a := by rw [eP10542]; exact ⟨rfl, rfl, rfl, rfl, rfl, rfl, rfl, rfl, rfl, rfl⟩
      refine m_iinc F (v := 8) (lv' := [(1, .int 8), (0, .ref c)]) e_X10_takeText_246 rfl (by decide) (by decide) rfl ?_
      refine m_goto F e_X10_takeText_249 ?_
      refine m_iload_n F rfl e_X10_takeText_210 ?_
      refine m_bipush F (v := 8) (by decide) e_X10_takeText_211 ?_
      refine m_icmp_ge F e_X10_takeText_213 (fun _ => ?_) (fun q => absurd (by decide) q)
      have oP10543 : OKP P10542 := by unfold OKP; omega
      exact m_vret F hQ e_X10_takeText_252 (⟨P10542, oP10543, (by unfold RT; omega), h10538, rfl⟩)
    · have c183 : i < 192 := by have hh := mt (nI_leI (a := 192) (b := i) (by omega) (by omega)).mpr q183; omega
      refine m_aload_n F rfl e_X10_takeText_186 ?_
      refine r_get F e_X10_takeText_187 fl_X10_37 h1 rfl (fun v hv f10544 => ?_)
      obtain rfl : v = .ref (c + 10) := hv
      refine m_iload_n F rfl e_X10_takeText_190 ?_
      refine m_aload_n F rfl e_X10_takeText_191 ?_
      refine r_getC F e_X10_takeText_192 fl_X10_37 h1 (f10544) ?_
      refine m_sipush F (v := 192) (by decide) e_X10_takeText_195 ?_
      refine m_iload_n F rfl e_X10_takeText_198 ?_
      refine m_iadd F e_X10_takeText_199 ?_
      refine Wm.topE (w := nI (192 + i)) (nI_add 192 i) ?_
      refine r_iald F (len := 384) (j := 192 + i) e_X10_takeText_200 h1 (fun _ h => h) (by decide) (nI_clamp (by omega)) (vp_in_nI (by omega) (by decide)) (fun x10545 h10546 f10547 => ?_)
      refine r_iast F (g' := (⟨T, Z, u, h, P1, L⟩ : RG)) (len := 384) (j := i) e_X10_takeText_201 h1 (fun _ h => h) (fun f h => ⟨f, rfl, h⟩) (by decide) (by decide) (nI_clamp (by omega)) (vp_in_nI (by omega) (by decide)) trivial (fun _ _ _ h => h) (fun _ _ _ h => h) (fun σ10548 h10549 g10550 f10551 g10552 => ?_)
      refine m_iinc F (v := nI (i + 1)) (lv' := [(1, .int (nI (i + 1))), (0, .ref c)]) e_X10_takeText_202 rfl (nI_add i 1) (by decide) rfl ?_
      refine m_goto F e_X10_takeText_205 ?_
      refine Wm.lvsub (lv' := [(0, .ref c), (1, .int (nI (i + 1)))]) ?_ [1, 0] rfl
      exact ih (i + 1) P1 _ h10549 hP1 (by unfold RT3; omega) (by omega) (by omega)
set_option maxRecDepth 20000 in
theorem q_X10_takeText (l : Launch) (V : VX) (c T Z u h : Nat) (P : NP) (L : Nat → LQ) (N : Nat) (σ : Mem)  (h0 : HR V c ⟨T, Z, u, h, P, L⟩ σ) (hob : OKB L) (hP : OKP P)  : Ct l V yX10_takeText cX10_takeText 2 none 1 0 0 N σ [.ref c] (fun r τ => ∃ P9 : NP, OKP P9 ∧ RT P P9 ∧ HS V c (⟨T, Z, u, h, P9, L⟩ : RG) [0, 1, 2, 17, 18, 19, 20, 21, 22, 23] σ τ ∧ r = none) := by
  refine Ct.of (by decide) (Nat.le_of_ble_eq_true rfl) [(0, .ref c)] rfl (fun X hX F hQ => ?_)
  have hPP := hP
  unfold OKP at hPP
  have h1 : HS V c ⟨T, Z, u, h, P, L⟩ [0, 1, 2, 17, 18, 19, 20, 21, 22, 23] σ σ := HS.start h0
  have h2 : HS V c (⟨T, Z, u, h, (mkP P.n0 P.n2 P.n5 P.n7 0 P.m5 0 P.w7 P.kk P.a), L⟩ : RG) [0, 1, 2, 17, 18, 19, 20, 21, 22, 23] σ σ := HS.start (HR.forget h0)
  obtain ⟨P10553, eP10553⟩ : ∃ P9, P9 = (mkP P.n0 P.n2 P.n5 P.n7 0 P.m5 0 P.w7 P.kk P.a) := ⟨_, rfl⟩
  rw [← eP10553] at h2
  have fP10553 : P10553.n0 = P.n0 ∧ P10553.n2 = P.n2 ∧ P10553.n5 = P.n5 ∧ P10553.n7 = P.n7 ∧ P10553.m0 = 0 ∧ P10553.m5 = P.m5 ∧ P10553.w2 = 0 ∧ P10553.w7 = P.w7 ∧ P10553.kk = P.kk ∧ P10553.a = P.a := by rw [eP10553]; exact ⟨rfl, rfl, rfl, rfl, rfl, rfl, rfl, rfl, rfl, rfl⟩
  refine m_iconst F (v := 0) (by decide) e_X10_takeText_0 ?_
  refine m_istore_n F (lv' := [(1, .int 0), (0, .ref c)]) e_X10_takeText_1 (by decide) rfl ?_
  refine m_iload_n F rfl e_X10_takeText_2 ?_
  refine m_iconst F (v := 5) (by decide) e_X10_takeText_3 ?_
  refine m_icmp_ge F e_X10_takeText_4 (fun q => absurd q (by decide)) (fun _ => ?_)
  refine m_aload_n F rfl e_X10_takeText_7 ?_
  refine r_get F e_X10_takeText_8 fl_X10_13 h2 rfl (fun v hv f10554 => ?_)
  obtain rfl : v = .ref (c + 2) := hv
  refine m_iload_n F rfl e_X10_takeText_11 ?_
  refine m_aload_n F rfl e_X10_takeText_12 ?_
  refine m_iload_n F rfl e_X10_takeText_13 ?_
  have oP10558 : OKP P10553 := by unfold OKP; omega
  refine r_callV F e_X10_takeText_14 (q_X10_reading0 (x_l X) V c T Z u h P10553 L _ _  h2.1 (hob) oP10558 ) cb_X10_reading ml_X10_157 im_X10_reading se_X10_reading h2 rfl rfl (rest := [.int 0, .ref (c + 2)]) rfl (Nat.le_of_ble_eq_true rfl) ⟨Nat.le_of_ble_eq_true rfl, Nat.le_of_ble_eq_true rfl⟩ ⟨Nat.le_of_ble_eq_true rfl, Nat.le_of_ble_eq_true rfl⟩ (fun r σ10555 hp => ?_)
  obtain ⟨h10556, rfl⟩ := hp
  have h10557 := HS.trans h2 h10556 (by decide)
  refine r_iast F (g' := (⟨T, Z, u, h, (mkP P10553.n5 P10553.n2 P10553.n5 P10553.n7 P10553.m0 P10553.m5 P10553.w2 P10553.w7 P10553.kk P10553.a), L⟩ : RG)) (len := 10) (j := 0) e_X10_takeText_17 h10557 (fun _ h => h) (fun f h => ⟨f, rfl, h⟩) (by decide) (by decide) (by decide) (by unfold vp_in; decide) (by refine ⟨?_, ?_, ?_, ?_, ?_, ?_⟩ <;> intro e <;> first | exact absurd e (by decide) | rfl | exact ⟨_, by omega, rfl⟩) (fun i hi y hy => ⟨fun e => absurd e hi, hy.2.1, hy.2.2.1, hy.2.2.2.1, hy.2.2.2.2.1, hy.2.2.2.2.2⟩) (CR.chg (by intro k hk i x h; unfold EI at h ⊢; split at h <;> first | exact h | exact absurd rfl hk | trivial) rfl rfl) (fun σ10559 h10560 g10561 f10562 g10563 => ?_)
  obtain ⟨P10564, eP10564⟩ : ∃ P9, P9 = (mkP P10553.n5 P10553.n2 P10553.n5 P10553.n7 P10553.m0 P10553.m5 P10553.w2 P10553.w7 P10553.kk P10553.a) := ⟨_, rfl⟩
  rw [← eP10564] at h10560
  have fP10564 : P10564.n0 = P10553.n5 ∧ P10564.n2 = P10553.n2 ∧ P10564.n5 = P10553.n5 ∧ P10564.n7 = P10553.n7 ∧ P10564.m0 = P10553.m0 ∧ P10564.m5 = P10553.m5 ∧ P10564.w2 = P10553.w2 ∧ P10564.w7 = P10553.w7 ∧ P10564.kk = P10553.kk ∧ P10564.a = P10553.a := by rw [eP10564]; exact ⟨rfl, rfl, rfl, rfl, rfl, rfl, rfl, rfl, rfl, rfl⟩
  refine m_iinc F (v := 1) (lv' := [(1, .int 1), (0, .ref c)]) e_X10_takeText_18 rfl (by decide) (by decide) rfl ?_
  refine m_goto F e_X10_takeText_21 ?_
  refine m_iload_n F rfl e_X10_takeText_2 ?_
  refine m_iconst F (v := 5) (by decide) e_X10_takeText_3 ?_
  refine m_icmp_ge F e_X10_takeText_4 (fun q => absurd q (by decide)) (fun _ => ?_)
  refine m_aload_n F rfl e_X10_takeText_7 ?_
  refine r_getC F e_X10_takeText_8 fl_X10_13 h10560 ((fld_eq (g10561 _ (by omega))).trans ((fld_eq (h10556.2 c (by rw [show kC c c = 1 from kC_at (k := 0) (by decide)]; decide))).trans f10554)) ?_
  refine m_iload_n F rfl e_X10_takeText_11 ?_
  refine m_aload_n F rfl e_X10_takeText_12 ?_
  refine m_iload_n F rfl e_X10_takeText_13 ?_
  have oP10568 : OKP P10564 := by unfold OKP; omega
  refine r_callV F e_X10_takeText_14 (q_X10_reading1 (x_l X) V c T Z u h P10564 L _ _  h10560.1 (hob) oP10568 ) cb_X10_reading ml_X10_157 im_X10_reading se_X10_reading h10560 rfl rfl (rest := [.int 1, .ref (c + 2)]) rfl (Nat.le_of_ble_eq_true rfl) ⟨Nat.le_of_ble_eq_true rfl, Nat.le_of_ble_eq_true rfl⟩ ⟨Nat.le_of_ble_eq_true rfl, Nat.le_of_ble_eq_true rfl⟩ (fun r σ10565 hp => ?_)
  obtain ⟨h10566, x10569, rfl⟩ := hp
  have h10567 := HS.trans h10560 h10566 (by decide)
  refine r_iast F (g' := (⟨T, Z, u, h, P10564, L⟩ : RG)) (len := 10) (j := 1) e_X10_takeText_17 h10567 (fun _ h => h) (fun f h => ⟨f, rfl, h⟩) (by decide) (by decide) (by decide) (by unfold vp_in; decide) (by refine ⟨?_, ?_, ?_, ?_, ?_, ?_⟩ <;> intro e <;> first | exact absurd e (by decide) | rfl | exact ⟨_, by omega, rfl⟩) (fun _ _ _ h => h) (fun _ _ _ h => h) (fun σ10570 h10571 g10572 f10573 g10574 => ?_)
  refine m_iinc F (v := 2) (lv' := [(1, .int 2), (0, .ref c)]) e_X10_takeText_18 rfl (by decide) (by decide) rfl ?_
  refine m_goto F e_X10_takeText_21 ?_
  refine m_iload_n F rfl e_X10_takeText_2 ?_
  refine m_iconst F (v := 5) (by decide) e_X10_takeText_3 ?_
  refine m_icmp_ge F e_X10_takeText_4 (fun q => absurd q (by decide)) (fun _ => ?_)
  refine m_aload_n F rfl e_X10_takeText_7 ?_
  refine r_getC F e_X10_takeText_8 fl_X10_13 h10571 ((fld_eq (g10572 _ (by omega))).trans ((fld_eq (h10566.2 c (by rw [show kC c c = 1 from kC_at (k := 0) (by decide)]; decide))).trans ((fld_eq (g10561 _ (by omega))).trans ((fld_eq (h10556.2 c (by rw [show kC c c = 1 from kC_at (k := 0) (by decide)]; decide))).trans f10554)))) ?_
  refine m_iload_n F rfl e_X10_takeText_11 ?_
  refine m_aload_n F rfl e_X10_takeText_12 ?_
  refine m_iload_n F rfl e_X10_takeText_13 ?_
  refine r_callV F e_X10_takeText_14 (q_X10_reading2 (x_l X) V c T Z u h P10564 L _ _  h10571.1 (hob) oP10568 ) cb_X10_reading ml_X10_157 im_X10_reading se_X10_reading h10571 rfl rfl (rest := [.int 2, .ref (c + 2)]) rfl (Nat.le_of_ble_eq_true rfl) ⟨Nat.le_of_ble_eq_true rfl, Nat.le_of_ble_eq_true rfl⟩ ⟨Nat.le_of_ble_eq_true rfl, Nat.le_of_ble_eq_true rfl⟩ (fun r σ10575 hp => ?_)
  obtain ⟨h10576, rfl⟩ := hp
  have h10577 := HS.trans h10571 h10576 (by decide)
  refine r_iast F (g' := (⟨T, Z, u, h, (mkP P10564.n0 P10564.n7 P10564.n5 P10564.n7 P10564.m0 P10564.m5 P10564.w2 P10564.w7 P10564.kk P10564.a), L⟩ : RG)) (len := 10) (j := 2) e_X10_takeText_17 h10577 (fun _ h => h) (fun f h => ⟨f, rfl, h⟩) (by decide) (by decide) (by decide) (by unfold vp_in; decide) (by refine ⟨?_, ?_, ?_, ?_, ?_, ?_⟩ <;> intro e <;> first | exact absurd e (by decide) | rfl | exact ⟨_, by omega, rfl⟩) (fun i hi y hy => ⟨hy.1, fun e => absurd e hi, hy.2.2.1, hy.2.2.2.1, hy.2.2.2.2.1, hy.2.2.2.2.2⟩) (CR.chg (by intro k hk i x h; unfold EI at h ⊢; split at h <;> first | exact h | exact absurd rfl hk | trivial) rfl rfl) (fun σ10578 h10579 g10580 f10581 g10582 => ?_)
  obtain ⟨P10583, eP10583⟩ : ∃ P9, P9 = (mkP P10564.n0 P10564.n7 P10564.n5 P10564.n7 P10564.m0 P10564.m5 P10564.w2 P10564.w7 P10564.kk P10564.a) := ⟨_, rfl⟩
  rw [← eP10583] at h10579
  have fP10583 : P10583.n0 = P10564.n0 ∧ P10583.n2 = P10564.n7 ∧ P10583.n5 = P10564.n5 ∧ P10583.n7 = P10564.n7 ∧ P10583.m0 = P10564.m0 ∧ P10583.m5 = P10564.m5 ∧ P10583.w2 = P10564.w2 ∧ P10583.w7 = P10564.w7 ∧ P10583.kk = P10564.kk ∧ P10583.a = P10564.a := by rw [eP10583]; exact ⟨rfl, rfl, rfl, rfl, rfl, rfl, rfl, rfl, rfl, rfl⟩
  refine m_iinc F (v := 3) (lv' := [(1, .int 3), (0, .ref c)]) e_X10_takeText_18 rfl (by decide) (by decide) rfl ?_
  refine m_goto F e_X10_takeText_21 ?_
  refine m_iload_n F rfl e_X10_takeText_2 ?_
  refine m_iconst F (v := 5) (by decide) e_X10_takeText_3 ?_
  refine m_icmp_ge F e_X10_takeText_4 (fun q => absurd q (by decide)) (fun _ => ?_)
  refine m_aload_n F rfl e_X10_takeText_7 ?_
  refine r_getC F e_X10_takeText_8 fl_X10_13 h10579 ((fld_eq (g10580 _ (by omega))).trans ((fld_eq (h10576.2 c (by rw [show kC c c = 1 from kC_at (k := 0) (by decide)]; decide))).trans ((fld_eq (g10572 _ (by omega))).trans ((fld_eq (h10566.2 c (by rw [show kC c c = 1 from kC_at (k := 0) (by decide)]; decide))).trans ((fld_eq (g10561 _ (by omega))).trans ((fld_eq (h10556.2 c (by rw [show kC c c = 1 from kC_at (k := 0) (by decide)]; decide))).trans f10554)))))) ?_
  refine m_iload_n F rfl e_X10_takeText_11 ?_
  refine m_aload_n F rfl e_X10_takeText_12 ?_
  refine m_iload_n F rfl e_X10_takeText_13 ?_
  have oP10587 : OKP P10583 := by unfold OKP; omega
  refine r_callV F e_X10_takeText_14 (q_X10_reading3 (x_l X) V c T Z u h P10583 L _ _  h10579.1 (hob) oP10587 ) cb_X10_reading ml_X10_157 im_X10_reading se_X10_reading h10579 rfl rfl (rest := [.int 3, .ref (c + 2)]) rfl (Nat.le_of_ble_eq_true rfl) ⟨Nat.le_of_ble_eq_true rfl, Nat.le_of_ble_eq_true rfl⟩ ⟨Nat.le_of_ble_eq_true rfl, Nat.le_of_ble_eq_true rfl⟩ (fun r σ10584 hp => ?_)
  obtain ⟨h10585, n10588, hn10588, f10589, rfl⟩ := hp
  have h10586 := HS.trans h10579 h10585 (by decide)
  refine r_iast F (g' := (⟨T, Z, u, h, P10583, L⟩ : RG)) (len := 10) (j := 3) e_X10_takeText_17 h10586 (fun _ h => h) (fun f h => ⟨f, rfl, h⟩) (by decide) (by decide) (by decide) (by unfold vp_in; decide) (by refine ⟨?_, ?_, ?_, ?_, ?_, ?_⟩ <;> intro e <;> first | exact absurd e (by decide) | rfl | exact ⟨_, by omega, rfl⟩) (fun _ _ _ h => h) (fun _ _ _ h => h) (fun σ10590 h10591 g10592 f10593 g10594 => ?_)
  refine m_iinc F (v := 4) (lv' := [(1, .int 4), (0, .ref c)]) e_X10_takeText_18 rfl (by decide) (by decide) rfl ?_
  refine m_goto F e_X10_takeText_21 ?_
  refine m_iload_n F rfl e_X10_takeText_2 ?_
  refine m_iconst F (v := 5) (by decide) e_X10_takeText_3 ?_
  refine m_icmp_ge F e_X10_takeText_4 (fun q => absurd q (by decide)) (fun _ => ?_)
  refine m_aload_n F rfl e_X10_takeText_7 ?_
  refine r_getC F e_X10_takeText_8 fl_X10_13 h10591 ((fld_eq (g10592 _ (by omega))).trans ((fld_eq (h10585.2 c (by rw [show kC c c = 1 from kC_at (k := 0) (by decide)]; decide))).trans ((fld_eq (g10580 _ (by omega))).trans ((fld_eq (h10576.2 c (by rw [show kC c c = 1 from kC_at (k := 0) (by decide)]; decide))).trans ((fld_eq (g10572 _ (by omega))).trans ((fld_eq (h10566.2 c (by rw [show kC c c = 1 from kC_at (k := 0) (by decide)]; decide))).trans ((fld_eq (g10561 _ (by omega))).trans ((fld_eq (h10556.2 c (by rw [show kC c c = 1 from kC_at (k := 0) (by decide)]; decide))).trans f10554)))))))) ?_
  refine m_iload_n F rfl e_X10_takeText_11 ?_
  refine m_aload_n F rfl e_X10_takeText_12 ?_
  refine m_iload_n F rfl e_X10_takeText_13 ?_
  refine r_callV F e_X10_takeText_14 (q_X10_reading4 (x_l X) V c T Z u h P10583 L _ _  h10591.1 (hob) oP10587 ) cb_X10_reading ml_X10_157 im_X10_reading se_X10_reading h10591 rfl rfl (rest := [.int 4, .ref (c + 2)]) rfl (Nat.le_of_ble_eq_true rfl) ⟨Nat.le_of_ble_eq_true rfl, Nat.le_of_ble_eq_true rfl⟩ ⟨Nat.le_of_ble_eq_true rfl, Nat.le_of_ble_eq_true rfl⟩ (fun r σ10595 hp => ?_)
  obtain ⟨h10596, x10598, rfl⟩ := hp
  have h10597 := HS.trans h10591 h10596 (by decide)
  refine r_iast F (g' := (⟨T, Z, u, h, P10583, L⟩ : RG)) (len := 10) (j := 4) e_X10_takeText_17 h10597 (fun _ h => h) (fun f h => ⟨f, rfl, h⟩) (by decide) (by decide) (by decide) (by unfold vp_in; decide) (by refine ⟨?_, ?_, ?_, ?_, ?_, ?_⟩ <;> intro e <;> first | exact absurd e (by decide) | rfl | exact ⟨_, by omega, rfl⟩) (fun _ _ _ h => h) (fun _ _ _ h => h) (fun σ10599 h10600 g10601 f10602 g10603 => ?_)
  refine m_iinc F (v := 5) (lv' := [(1, .int 5), (0, .ref c)]) e_X10_takeText_18 rfl (by decide) (by decide) rfl ?_
  refine m_goto F e_X10_takeText_21 ?_
  refine m_iload_n F rfl e_X10_takeText_2 ?_
  refine m_iconst F (v := 5) (by decide) e_X10_takeText_3 ?_
  refine m_icmp_ge F e_X10_takeText_4 (fun _ => ?_) (fun q => absurd (by decide) q)
  refine m_iconst F (v := 0) (by decide) e_X10_takeText_24 ?_
  refine m_istore_n F (lv' := [(1, .int 0), (0, .ref c)]) e_X10_takeText_25 (by decide) rfl ?_
  refine m_iload_n F rfl e_X10_takeText_26 ?_
  refine m_iconst F (v := 4) (by decide) e_X10_takeText_27 ?_
  refine m_icmp_ge F e_X10_takeText_28 (fun q => absurd q (by decide)) (fun _ => ?_)
  refine m_aload_n F rfl e_X10_takeText_31 ?_
  refine r_get F e_X10_takeText_32 fl_X10_16 h10600 rfl (fun v hv f10604 => ?_)
  obtain rfl : v = .ref (c + 3) := hv
  refine m_iload_n F rfl e_X10_takeText_35 ?_
  refine m_aload_n F rfl e_X10_takeText_36 ?_
  refine r_getC F e_X10_takeText_37 fl_X10_16 h10600 (f10604) ?_
  refine m_iconst F (v := 4) (by decide) e_X10_takeText_40 ?_
  refine m_iload_n F rfl e_X10_takeText_41 ?_
  refine m_iadd F e_X10_takeText_42 ?_
  refine Wm.topE (w := 4) (by decide) ?_
  refine r_iald F (len := 8) (j := 4) e_X10_takeText_43 h10600 (fun _ h => h) (by decide) (by decide) (by unfold vp_in; decide) (fun x10605 h10606 f10607 => ?_)
  refine r_iast F (g' := (⟨T, Z, u, h, P10583, L⟩ : RG)) (len := 8) (j := 0) e_X10_takeText_44 h10600 (fun _ h => h) (fun f h => ⟨f, rfl, h⟩) (by decide) (by decide) (by decide) (by unfold vp_in; decide) trivial (fun _ _ _ h => h) (fun _ _ _ h => h) (fun σ10608 h10609 g10610 f10611 g10612 => ?_)
  refine m_aload_n F rfl e_X10_takeText_45 ?_
  refine r_get F e_X10_takeText_46 fl_X10_19 h10609 rfl (fun v hv f10613 => ?_)
  obtain rfl : v = .ref (c + 4) := hv
  refine m_iload_n F rfl e_X10_takeText_49 ?_
  refine m_aload_n F rfl e_X10_takeText_50 ?_
  refine r_getC F e_X10_takeText_51 fl_X10_19 h10609 (f10613) ?_
  refine m_iconst F (v := 4) (by decide) e_X10_takeText_54 ?_
  refine m_iload_n F rfl e_X10_takeText_55 ?_
  refine m_iadd F e_X10_takeText_56 ?_
  refine Wm.topE (w := 4) (by decide) ?_
  refine r_iald F (len := 8) (j := 4) e_X10_takeText_57 h10609 (fun _ h => h) (by decide) (by decide) (by unfold vp_in; decide) (fun x10614 h10615 f10616 => ?_)
  refine r_iast F (g' := (⟨T, Z, u, h, P10583, L⟩ : RG)) (len := 8) (j := 0) e_X10_takeText_58 h10609 (fun _ h => h) (fun f h => ⟨f, rfl, h⟩) (by decide) (by decide) (by decide) (by unfold vp_in; decide) trivial (fun _ _ _ h => h) (fun _ _ _ h => h) (fun σ10617 h10618 g10619 f10620 g10621 => ?_)
  refine m_aload_n F rfl e_X10_takeText_59 ?_
  refine r_get F e_X10_takeText_60 fl_X10_22 h10618 rfl (fun v hv f10622 => ?_)
  obtain rfl : v = .ref (c + 5) := hv
  refine m_iload_n F rfl e_X10_takeText_63 ?_
  refine m_aload_n F rfl e_X10_takeText_64 ?_
  refine r_getC F e_X10_takeText_65 fl_X10_22 h10618 (f10622) ?_
  refine m_iconst F (v := 4) (by decide) e_X10_takeText_68 ?_
  refine m_iload_n F rfl e_X10_takeText_69 ?_
  refine m_iadd F e_X10_takeText_70 ?_
  refine Wm.topE (w := 4) (by decide) ?_
  refine r_iald F (len := 8) (j := 4) e_X10_takeText_71 h10618 (fun _ h => h) (by decide) (by decide) (by unfold vp_in; decide) (fun x10623 h10624 f10625 => ?_)
  obtain ⟨n10626, hn10626, rfl, pn10626, rn10626⟩ := h10624
  refine r_iast F (g' := (⟨T, Z, u, h, (mkP P10583.n0 P10583.n2 P10583.n5 P10583.n7 (min 1 P10583.m5) P10583.m5 P10583.w2 P10583.w7 P10583.kk P10583.a), L⟩ : RG)) (len := 8) (j := 0) e_X10_takeText_72 h10618 (fun _ h => h) (fun f h => ⟨f, rfl, h⟩) (by decide) (by decide) (by decide) (by unfold vp_in; decide) ⟨n10626, by omega, rfl, fun _ h8 => rn10626 (by omega) (show 4 < 4 + P10583.m5 by have h6 : 0 < min 1 P10583.m5 := h8; omega), fun h7 _ => absurd h7 (by omega)⟩ (fun i hi y hy => by obtain ⟨n9, a9, b9, c9, d9⟩ := hy; exact ⟨n9, a9, b9, fun h7 h8 => c9 h7 (show i < P10583.m0 by have h6 : i < min 1 P10583.m5 := h8; omega), d9⟩) (CR.chg (by intro k hk i x h; unfold EI at h ⊢; split at h <;> first | exact h | exact absurd rfl hk | trivial) rfl rfl) (fun σ10627 h10628 g10629 f10630 g10631 => ?_)
  obtain ⟨P10632, eP10632⟩ : ∃ P9, P9 = (mkP P10583.n0 P10583.n2 P10583.n5 P10583.n7 (min 1 P10583.m5) P10583.m5 P10583.w2 P10583.w7 P10583.kk P10583.a) := ⟨_, rfl⟩
  rw [← eP10632] at h10628
  have fP10632 : P10632.n0 = P10583.n0 ∧ P10632.n2 = P10583.n2 ∧ P10632.n5 = P10583.n5 ∧ P10632.n7 = P10583.n7 ∧ P10632.m0 = min 1 P10583.m5 ∧ P10632.m5 = P10583.m5 ∧ P10632.w2 = P10583.w2 ∧ P10632.w7 = P10583.w7 ∧ P10632.kk = P10583.kk ∧ P10632.a = P10583.a := by rw [eP10632]; exact ⟨rfl, rfl, rfl, rfl, rfl, rfl, rfl, rfl, rfl, rfl⟩
  refine m_aload_n F rfl e_X10_takeText_73 ?_
  refine r_get F e_X10_takeText_74 fl_X10_25 h10628 rfl (fun v hv f10633 => ?_)
  obtain rfl : v = .ref (c + 6) := hv
  refine m_iload_n F rfl e_X10_takeText_77 ?_
  refine m_aload_n F rfl e_X10_takeText_78 ?_
  refine r_getC F e_X10_takeText_79 fl_X10_25 h10628 (f10633) ?_
  refine m_iconst F (v := 4) (by decide) e_X10_takeText_82 ?_
  refine m_iload_n F rfl e_X10_takeText_83 ?_
  refine m_iadd F e_X10_takeText_84 ?_
  refine Wm.topE (w := 4) (by decide) ?_
  refine r_iald F (len := 8) (j := 4) e_X10_takeText_85 h10628 (fun _ h => h) (by decide) (by decide) (by unfold vp_in; decide) (fun x10634 h10635 f10636 => ?_)
  obtain ⟨n10637, hn10637, rfl⟩ := h10635
  refine r_iast F (g' := (⟨T, Z, u, h, P10632, L⟩ : RG)) (len := 8) (j := 0) e_X10_takeText_86 h10628 (fun _ h => h) (fun f h => ⟨f, rfl, h⟩) (by decide) (by decide) (by decide) (by unfold vp_in; decide) ⟨n10637, by omega, rfl⟩ (fun _ _ _ h => h) (fun _ _ _ h => h) (fun σ10638 h10639 g10640 f10641 g10642 => ?_)
  refine m_aload_n F rfl e_X10_takeText_87 ?_
  refine r_get F e_X10_takeText_88 fl_X10_28 h10639 rfl (fun v hv f10643 => ?_)
  obtain rfl : v = .ref (c + 7) := hv
  refine m_iload_n F rfl e_X10_takeText_91 ?_
  refine m_aload_n F rfl e_X10_takeText_92 ?_
  refine r_getC F e_X10_takeText_93 fl_X10_28 h10639 (f10643) ?_
  refine m_iconst F (v := 4) (by decide) e_X10_takeText_96 ?_
  refine m_iload_n F rfl e_X10_takeText_97 ?_
  refine m_iadd F e_X10_takeText_98 ?_
  refine Wm.topE (w := 4) (by decide) ?_
  refine r_iald F (len := 8) (j := 4) e_X10_takeText_99 h10639 (fun _ h => h) (by decide) (by decide) (by unfold vp_in; decide) (fun x10644 h10645 f10646 => ?_)
  refine r_iast F (g' := (⟨T, Z, u, h, P10632, L⟩ : RG)) (len := 8) (j := 0) e_X10_takeText_100 h10639 (fun _ h => h) (fun f h => ⟨f, rfl, h⟩) (by decide) (by decide) (by decide) (by unfold vp_in; decide) trivial (fun _ _ _ h => h) (fun _ _ _ h => h) (fun σ10647 h10648 g10649 f10650 g10651 => ?_)
  refine m_aload_n F rfl e_X10_takeText_101 ?_
  refine r_get F e_X10_takeText_102 fl_X10_31 h10648 rfl (fun v hv f10652 => ?_)
  obtain rfl : v = .ref (c + 8) := hv
  refine m_iload_n F rfl e_X10_takeText_105 ?_
  refine m_aload_n F rfl e_X10_takeText_106 ?_
  refine r_getC F e_X10_takeText_107 fl_X10_31 h10648 (f10652) ?_
  refine m_iconst F (v := 4) (by decide) e_X10_takeText_110 ?_
  refine m_iload_n F rfl e_X10_takeText_111 ?_
  refine m_iadd F e_X10_takeText_112 ?_
  refine Wm.topE (w := 4) (by decide) ?_
  refine r_iald F (len := 8) (j := 4) e_X10_takeText_113 h10648 (fun _ h => h) (by decide) (by decide) (by unfold vp_in; decide) (fun x10653 h10654 f10655 => ?_)
  refine r_iast F (g' := (⟨T, Z, u, h, P10632, L⟩ : RG)) (len := 8) (j := 0) e_X10_takeText_114 h10648 (fun _ h => h) (fun f h => ⟨f, rfl, h⟩) (by decide) (by decide) (by decide) (by unfold vp_in; decide) trivial (fun _ _ _ h => h) (fun _ _ _ h => h) (fun σ10656 h10657 g10658 f10659 g10660 => ?_)
  refine m_aload_n F rfl e_X10_takeText_115 ?_
  refine r_get F e_X10_takeText_116 fl_X10_34 h10657 rfl (fun v hv f10661 => ?_)
  obtain rfl : v = .ref (c + 9) := hv
  refine m_iload_n F rfl e_X10_takeText_119 ?_
  refine m_aload_n F rfl e_X10_takeText_120 ?_
  refine r_getC F e_X10_takeText_121 fl_X10_34 h10657 (f10661) ?_
  refine m_iconst F (v := 4) (by decide) e_X10_takeText_124 ?_
  refine m_iload_n F rfl e_X10_takeText_125 ?_
  refine m_iadd F e_X10_takeText_126 ?_
  refine Wm.topE (w := 4) (by decide) ?_
  refine r_iald F (len := 8) (j := 4) e_X10_takeText_127 h10657 (fun _ h => h) (by decide) (by decide) (by unfold vp_in; decide) (fun x10662 h10663 f10664 => ?_)
  refine r_iast F (g' := (⟨T, Z, u, h, P10632, L⟩ : RG)) (len := 8) (j := 0) e_X10_takeText_128 h10657 (fun _ h => h) (fun f h => ⟨f, rfl, h⟩) (by decide) (by decide) (by decide) (by unfold vp_in; decide) trivial (fun _ _ _ h => h) (fun _ _ _ h => h) (fun σ10665 h10666 g10667 f10668 g10669 => ?_)
  refine m_aload_n F rfl e_X10_takeText_129 ?_
  refine r_get F e_X10_takeText_130 fl_X10_46 h10666 rfl (fun v hv f10670 => ?_)
  obtain rfl : v = .ref (c + 13) := hv
  refine m_iload_n F rfl e_X10_takeText_133 ?_
  refine m_aload_n F rfl e_X10_takeText_134 ?_
  refine r_getC F e_X10_takeText_135 fl_X10_46 h10666 (f10670) ?_
  refine m_iconst F (v := 4) (by decide) e_X10_takeText_138 ?_
  refine m_iload_n F rfl e_X10_takeText_139 ?_
  refine m_iadd F e_X10_takeText_140 ?_
  refine Wm.topE (w := 4) (by decide) ?_
  refine r_iald F (len := 8) (j := 4) e_X10_takeText_141 h10666 (fun _ h => h) (by decide) (by decide) (by unfold vp_in; decide) (fun x10671 h10672 f10673 => ?_)
  obtain ⟨n10674, hn10674, rfl⟩ := h10672
  refine r_iast F (g' := (⟨T, Z, u, h, P10632, L⟩ : RG)) (len := 8) (j := 0) e_X10_takeText_142 h10666 (fun _ h => h) (fun f h => ⟨f, rfl, h⟩) (by decide) (by decide) (by decide) (by unfold vp_in; decide) ⟨n10674, by omega, rfl⟩ (fun _ _ _ h => h) (fun _ _ _ h => h) (fun σ10675 h10676 g10677 f10678 g10679 => ?_)
  refine m_aload_n F rfl e_X10_takeText_143 ?_
  refine r_get F e_X10_takeText_144 fl_X10_49 h10676 rfl (fun v hv f10680 => ?_)
  obtain rfl : v = .ref (c + 14) := hv
  refine m_iload_n F rfl e_X10_takeText_147 ?_
  refine m_aload_n F rfl e_X10_takeText_148 ?_
  refine r_getC F e_X10_takeText_149 fl_X10_49 h10676 (f10680) ?_
  refine m_iconst F (v := 4) (by decide) e_X10_takeText_152 ?_
  refine m_iload_n F rfl e_X10_takeText_153 ?_
  refine m_iadd F e_X10_takeText_154 ?_
  refine Wm.topE (w := 4) (by decide) ?_
  refine r_iald F (len := 8) (j := 4) e_X10_takeText_155 h10676 (fun _ h => h) (by decide) (by decide) (by unfold vp_in; decide) (fun x10681 h10682 f10683 => ?_)
  obtain ⟨n10684, hn10684, rfl⟩ := h10682
  refine r_iast F (g' := (⟨T, Z, u, h, P10632, L⟩ : RG)) (len := 8) (j := 0) e_X10_takeText_156 h10676 (fun _ h => h) (fun f h => ⟨f, rfl, h⟩) (by decide) (by decide) (by decide) (by unfold vp_in; decide) ⟨n10684, by omega, rfl⟩ (fun _ _ _ h => h) (fun _ _ _ h => h) (fun σ10685 h10686 g10687 f10688 g10689 => ?_)
  refine m_aload_n F rfl e_X10_takeText_157 ?_
  refine r_get F e_X10_takeText_158 fl_X10_52 h10686 rfl (fun v hv f10690 => ?_)
  obtain rfl : v = .ref (c + 15) := hv
  refine m_iload_n F rfl e_X10_takeText_161 ?_
  refine m_aload_n F rfl e_X10_takeText_162 ?_
  refine r_getC F e_X10_takeText_163 fl_X10_52 h10686 (f10690) ?_
  refine m_iconst F (v := 4) (by decide) e_X10_takeText_166 ?_
  refine m_iload_n F rfl e_X10_takeText_167 ?_
  refine m_iadd F e_X10_takeText_168 ?_
  refine Wm.topE (w := 4) (by decide) ?_
  refine r_iald F (len := 8) (j := 4) e_X10_takeText_169 h10686 (fun _ h => h) (by decide) (by decide) (by unfold vp_in; decide) (fun x10691 h10692 f10693 => ?_)
  refine r_iast F (g' := (⟨T, Z, u, h, P10632, L⟩ : RG)) (len := 8) (j := 0) e_X10_takeText_170 h10686 (fun _ h => h) (fun f h => ⟨f, rfl, h⟩) (by decide) (by decide) (by decide) (by unfold vp_in; decide) trivial (fun _ _ _ h => h) (fun _ _ _ h => h) (fun σ10694 h10695 g10696 f10697 g10698 => ?_)
  refine m_iinc F (v := 1) (lv' := [(1, .int 1), (0, .ref c)]) e_X10_takeText_171 rfl (by decide) (by decide) rfl ?_
  refine m_goto F e_X10_takeText_174 ?_
  refine m_iload_n F rfl e_X10_takeText_26 ?_
  refine m_iconst F (v := 4) (by decide) e_X10_takeText_27 ?_
  refine m_icmp_ge F e_X10_takeText_28 (fun q => absurd q (by decide)) (fun _ => ?_)
  refine m_aload_n F rfl e_X10_takeText_31 ?_
  refine r_getC F e_X10_takeText_32 fl_X10_16 h10695 ((fld_eq (g10696 _ (by omega))).trans ((fld_eq (g10687 _ (by omega))).trans ((fld_eq (g10677 _ (by omega))).trans ((fld_eq (g10667 _ (by omega))).trans ((fld_eq (g10658 _ (by omega))).trans ((fld_eq (g10649 _ (by omega))).trans ((fld_eq (g10640 _ (by omega))).trans ((fld_eq (g10629 _ (by omega))).trans ((fld_eq (g10619 _ (by omega))).trans ((fld_eq (g10610 _ (by omega))).trans f10604)))))))))) ?_
  refine m_iload_n F rfl e_X10_takeText_35 ?_
  refine m_aload_n F rfl e_X10_takeText_36 ?_
  refine r_getC F e_X10_takeText_37 fl_X10_16 h10695 ((fld_eq (g10696 _ (by omega))).trans ((fld_eq (g10687 _ (by omega))).trans ((fld_eq (g10677 _ (by omega))).trans ((fld_eq (g10667 _ (by omega))).trans ((fld_eq (g10658 _ (by omega))).trans ((fld_eq (g10649 _ (by omega))).trans ((fld_eq (g10640 _ (by omega))).trans ((fld_eq (g10629 _ (by omega))).trans ((fld_eq (g10619 _ (by omega))).trans ((fld_eq (g10610 _ (by omega))).trans f10604)))))))))) ?_
  refine m_iconst F (v := 4) (by decide) e_X10_takeText_40 ?_
  refine m_iload_n F rfl e_X10_takeText_41 ?_
  refine m_iadd F e_X10_takeText_42 ?_
  refine Wm.topE (w := 5) (by decide) ?_
  refine r_iald F (len := 8) (j := 5) e_X10_takeText_43 h10695 (fun _ h => h) (by decide) (by decide) (by unfold vp_in; decide) (fun x10699 h10700 f10701 => ?_)
  refine r_iast F (g' := (⟨T, Z, u, h, P10632, L⟩ : RG)) (len := 8) (j := 1) e_X10_takeText_44 h10695 (fun _ h => h) (fun f h => ⟨f, rfl, h⟩) (by decide) (by decide) (by decide) (by unfold vp_in; decide) trivial (fun _ _ _ h => h) (fun _ _ _ h => h) (fun σ10702 h10703 g10704 f10705 g10706 => ?_)
  refine m_aload_n F rfl e_X10_takeText_45 ?_
  refine r_getC F e_X10_takeText_46 fl_X10_19 h10703 ((fld_eq (g10704 _ (by omega))).trans ((fld_eq (g10696 _ (by omega))).trans ((fld_eq (g10687 _ (by omega))).trans ((fld_eq (g10677 _ (by omega))).trans ((fld_eq (g10667 _ (by omega))).trans ((fld_eq (g10658 _ (by omega))).trans ((fld_eq (g10649 _ (by omega))).trans ((fld_eq (g10640 _ (by omega))).trans ((fld_eq (g10629 _ (by omega))).trans ((fld_eq (g10619 _ (by omega))).trans f10613)))))))))) ?_
  refine m_iload_n F rfl e_X10_takeText_49 ?_
  refine m_aload_n F rfl e_X10_takeText_50 ?_
  refine r_getC F e_X10_takeText_51 fl_X10_19 h10703 ((fld_eq (g10704 _ (by omega))).trans ((fld_eq (g10696 _ (by omega))).trans ((fld_eq (g10687 _ (by omega))).trans ((fld_eq (g10677 _ (by omega))).trans ((fld_eq (g10667 _ (by omega))).trans ((fld_eq (g10658 _ (by omega))).trans ((fld_eq (g10649 _ (by omega))).trans ((fld_eq (g10640 _ (by omega))).trans ((fld_eq (g10629 _ (by omega))).trans ((fld_eq (g10619 _ (by omega))).trans f10613)))))))))) ?_
  refine m_iconst F (v := 4) (by decide) e_X10_takeText_54 ?_
  refine m_iload_n F rfl e_X10_takeText_55 ?_
  refine m_iadd F e_X10_takeText_56 ?_
  refine Wm.topE (w := 5) (by decide) ?_
  refine r_iald F (len := 8) (j := 5) e_X10_takeText_57 h10703 (fun _ h => h) (by decide) (by decide) (by unfold vp_in; decide) (fun x10707 h10708 f10709 => ?_)
  refine r_iast F (g' := (⟨T, Z, u, h, P10632, L⟩ : RG)) (len := 8) (j := 1) e_X10_takeText_58 h10703 (fun _ h => h) (fun f h => ⟨f, rfl, h⟩) (by decide) (by decide) (by decide) (by unfold vp_in; decide) trivial (fun _ _ _ h => h) (fun _ _ _ h => h) (fun σ10710 h10711 g10712 f10713 g10714 => ?_)
  refine m_aload_n F rfl e_X10_takeText_59 ?_
  refine r_getC F e_X10_takeText_60 fl_X10_22 h10711 ((fld_eq (g10712 _ (by omega))).trans ((fld_eq (g10704 _ (by omega))).trans ((fld_eq (g10696 _ (by omega))).trans ((fld_eq (g10687 _ (by omega))).trans ((fld_eq (g10677 _ (by omega))).trans ((fld_eq (g10667 _ (by omega))).trans ((fld_eq (g10658 _ (by omega))).trans ((fld_eq (g10649 _ (by omega))).trans ((fld_eq (g10640 _ (by omega))).trans ((fld_eq (g10629 _ (by omega))).trans f10622)))))))))) ?_
  refine m_iload_n F rfl e_X10_takeText_63 ?_
  refine m_aload_n F rfl e_X10_takeText_64 ?_
  refine r_getC F e_X10_takeText_65 fl_X10_22 h10711 ((fld_eq (g10712 _ (by omega))).trans ((fld_eq (g10704 _ (by omega))).trans ((fld_eq (g10696 _ (by omega))).trans ((fld_eq (g10687 _ (by omega))).trans ((fld_eq (g10677 _ (by omega))).trans ((fld_eq (g10667 _ (by omega))).trans ((fld_eq (g10658 _ (by omega))).trans ((fld_eq (g10649 _ (by omega))).trans ((fld_eq (g10640 _ (by omega))).trans ((fld_eq (g10629 _ (by omega))).trans f10622)))))))))) ?_
  refine m_iconst F (v := 4) (by decide) e_X10_takeText_68 ?_
  refine m_iload_n F rfl e_X10_takeText_69 ?_
  refine m_iadd F e_X10_takeText_70 ?_
  refine Wm.topE (w := 5) (by decide) ?_
  refine r_iald F (len := 8) (j := 5) e_X10_takeText_71 h10711 (fun _ h => h) (by decide) (by decide) (by unfold vp_in; decide) (fun x10715 h10716 f10717 => ?_)
  obtain ⟨n10718, hn10718, rfl, pn10718, rn10718⟩ := h10716
  refine r_iast F (g' := (⟨T, Z, u, h, (mkP P10632.n0 P10632.n2 P10632.n5 P10632.n7 (min 2 P10632.m5) P10632.m5 P10632.w2 P10632.w7 P10632.kk P10632.a), L⟩ : RG)) (len := 8) (j := 1) e_X10_takeText_72 h10711 (fun _ h => h) (fun f h => ⟨f, rfl, h⟩) (by decide) (by decide) (by decide) (by unfold vp_in; decide) ⟨n10718, by omega, rfl, fun _ h8 => rn10718 (by omega) (show 5 < 4 + P10632.m5 by have h6 : 1 < min 2 P10632.m5 := h8; omega), fun h7 _ => absurd h7 (by omega)⟩ (fun i hi y hy => by obtain ⟨n9, a9, b9, c9, d9⟩ := hy; exact ⟨n9, a9, b9, fun h7 h8 => c9 h7 (show i < P10632.m0 by have h6 : i < min 2 P10632.m5 := h8; omega), d9⟩) (CR.chg (by intro k hk i x h; unfold EI at h ⊢; split at h <;> first | exact h | exact absurd rfl hk | trivial) rfl rfl) (fun σ10719 h10720 g10721 f10722 g10723 => ?_)
  obtain ⟨P10724, eP10724⟩ : ∃ P9, P9 = (mkP P10632.n0 P10632.n2 P10632.n5 P10632.n7 (min 2 P10632.m5) P10632.m5 P10632.w2 P10632.w7 P10632.kk P10632.a) := ⟨_, rfl⟩
  rw [← eP10724] at h10720
  have fP10724 : P10724.n0 = P10632.n0 ∧ P10724.n2 = P10632.n2 ∧ P10724.n5 = P10632.n5 ∧ P10724.n7 = P10632.n7 ∧ P10724.m0 = min 2 P10632.m5 ∧ P10724.m5 = P10632.m5 ∧ P10724.w2 = P10632.w2 ∧ P10724.w7 = P10632.w7 ∧ P10724.kk = P10632.kk ∧ P10724.a = P10632.a := by rw [eP10724]; exact ⟨rfl, rfl, rfl, rfl, rfl, rfl, rfl, rfl, rfl, rfl⟩
  refine m_aload_n F rfl e_X10_takeText_73 ?_
  refine r_getC F e_X10_takeText_74 fl_X10_25 h10720 ((fld_eq (g10721 _ (by omega))).trans ((fld_eq (g10712 _ (by omega))).trans ((fld_eq (g10704 _ (by omega))).trans ((fld_eq (g10696 _ (by omega))).trans ((fld_eq (g10687 _ (by omega))).trans ((fld_eq (g10677 _ (by omega))).trans ((fld_eq (g10667 _ (by omega))).trans ((fld_eq (g10658 _ (by omega))).trans ((fld_eq (g10649 _ (by omega))).trans ((fld_eq (g10640 _ (by omega))).trans f10633)))))))))) ?_
  refine m_iload_n F rfl e_X10_takeText_77 ?_
  refine m_aload_n F rfl e_X10_takeText_78 ?_
  refine r_getC F e_X10_takeText_79 fl_X10_25 h10720 ((fld_eq (g10721 _ (by omega))).trans ((fld_eq (g10712 _ (by omega))).trans ((fld_eq (g10704 _ (by omega))).trans ((fld_eq (g10696 _ (by omega))).trans ((fld_eq (g10687 _ (by omega))).trans ((fld_eq (g10677 _ (by omega))).trans ((fld_eq (g10667 _ (by omega))).trans ((fld_eq (g10658 _ (by omega))).trans ((fld_eq (g10649 _ (by omega))).trans ((fld_eq (g10640 _ (by omega))).trans f10633)))))))))) ?_
  refine m_iconst F (v := 4) (by decide) e_X10_takeText_82 ?_
  refine m_iload_n F rfl e_X10_takeText_83 ?_
  refine m_iadd F e_X10_takeText_84 ?_
  refine Wm.topE (w := 5) (by decide) ?_
  refine r_iald F (len := 8) (j := 5) e_X10_takeText_85 h10720 (fun _ h => h) (by decide) (by decide) (by unfold vp_in; decide) (fun x10725 h10726 f10727 => ?_)
  obtain ⟨n10728, hn10728, rfl⟩ := h10726
  refine r_iast F (g' := (⟨T, Z, u, h, P10724, L⟩ : RG)) (len := 8) (j := 1) e_X10_takeText_86 h10720 (fun _ h => h) (fun f h => ⟨f, rfl, h⟩) (by decide) (by decide) (by decide) (by unfold vp_in; decide) ⟨n10728, by omega, rfl⟩ (fun _ _ _ h => h) (fun _ _ _ h => h) (fun σ10729 h10730 g10731 f10732 g10733 => ?_)
  refine m_aload_n F rfl e_X10_takeText_87 ?_
  refine r_getC F e_X10_takeText_88 fl_X10_28 h10730 ((fld_eq (g10731 _ (by omega))).trans ((fld_eq (g10721 _ (by omega))).trans ((fld_eq (g10712 _ (by omega))).trans ((fld_eq (g10704 _ (by omega))).trans ((fld_eq (g10696 _ (by omega))).trans ((fld_eq (g10687 _ (by omega))).trans ((fld_eq (g10677 _ (by omega))).trans ((fld_eq (g10667 _ (by omega))).trans ((fld_eq (g10658 _ (by omega))).trans ((fld_eq (g10649 _ (by omega))).trans f10643)))))))))) ?_
  refine m_iload_n F rfl e_X10_takeText_91 ?_
  refine m_aload_n F rfl e_X10_takeText_92 ?_
  refine r_getC F e_X10_takeText_93 fl_X10_28 h10730 ((fld_eq (g10731 _ (by omega))).trans ((fld_eq (g10721 _ (by omega))).trans ((fld_eq (g10712 _ (by omega))).trans ((fld_eq (g10704 _ (by omega))).trans ((fld_eq (g10696 _ (by omega))).trans ((fld_eq (g10687 _ (by omega))).trans ((fld_eq (g10677 _ (by omega))).trans ((fld_eq (g10667 _ (by omega))).trans ((fld_eq (g10658 _ (by omega))).trans ((fld_eq (g10649 _ (by omega))).trans f10643)))))))))) ?_
  refine m_iconst F (v := 4) (by decide) e_X10_takeText_96 ?_
  refine m_iload_n F rfl e_X10_takeText_97 ?_
  refine m_iadd F e_X10_takeText_98 ?_
  refine Wm.topE (w := 5) (by decide) ?_
  refine r_iald F (len := 8) (j := 5) e_X10_takeText_99 h10730 (fun _ h => h) (by decide) (by decide) (by unfold vp_in; decide) (fun x10734 h10735 f10736 => ?_)
  refine r_iast F (g' := (⟨T, Z, u, h, P10724, L⟩ : RG)) (len := 8) (j := 1) e_X10_takeText_100 h10730 (fun _ h => h) (fun f h => ⟨f, rfl, h⟩) (by decide) (by decide) (by decide) (by unfold vp_in; decide) trivial (fun _ _ _ h => h) (fun _ _ _ h => h) (fun σ10737 h10738 g10739 f10740 g10741 => ?_)
  refine m_aload_n F rfl e_X10_takeText_101 ?_
  refine r_getC F e_X10_takeText_102 fl_X10_31 h10738 ((fld_eq (g10739 _ (by omega))).trans ((fld_eq (g10731 _ (by omega))).trans ((fld_eq (g10721 _ (by omega))).trans ((fld_eq (g10712 _ (by omega))).trans ((fld_eq (g10704 _ (by omega))).trans ((fld_eq (g10696 _ (by omega))).trans ((fld_eq (g10687 _ (by omega))).trans ((fld_eq (g10677 _ (by omega))).trans ((fld_eq (g10667 _ (by omega))).trans ((fld_eq (g10658 _ (by omega))).trans f10652)))))))))) ?_
  refine m_iload_n F rfl e_X10_takeText_105 ?_
  refine m_aload_n F rfl e_X10_takeText_106 ?_
  refine r_getC F e_X10_takeText_107 fl_X10_31 h10738 ((fld_eq (g10739 _ (by omega))).trans ((fld_eq (g10731 _ (by omega))).trans ((fld_eq (g10721 _ (by omega))).trans ((fld_eq (g10712 _ (by omega))).trans ((fld_eq (g10704 _ (by omega))).trans ((fld_eq (g10696 _ (by omega))).trans ((fld_eq (g10687 _ (by omega))).trans ((fld_eq (g10677 _ (by omega))).trans ((fld_eq (g10667 _ (by omega))).trans ((fld_eq (g10658 _ (by omega))).trans f10652)))))))))) ?_
  refine m_iconst F (v := 4) (by decide) e_X10_takeText_110 ?_
  refine m_iload_n F rfl e_X10_takeText_111 ?_
  refine m_iadd F e_X10_takeText_112 ?_
  refine Wm.topE (w := 5) (by decide) ?_
  refine r_iald F (len := 8) (j := 5) e_X10_takeText_113 h10738 (fun _ h => h) (by decide) (by decide) (by unfold vp_in; decide) (fun x10742 h10743 f10744 => ?_)
  refine r_iast F (g' := (⟨T, Z, u, h, P10724, L⟩ : RG)) (len := 8) (j := 1) e_X10_takeText_114 h10738 (fun _ h => h) (fun f h => ⟨f, rfl, h⟩) (by decide) (by decide) (by decide) (by unfold vp_in; decide) trivial (fun _ _ _ h => h) (fun _ _ _ h => h) (fun σ10745 h10746 g10747 f10748 g10749 => ?_)
  refine m_aload_n F rfl e_X10_takeText_115 ?_
  refine r_getC F e_X10_takeText_116 fl_X10_34 h10746 ((fld_eq (g10747 _ (by omega))).trans ((fld_eq (g10739 _ (by omega))).trans ((fld_eq (g10731 _ (by omega))).trans ((fld_eq (g10721 _ (by omega))).trans ((fld_eq (g10712 _ (by omega))).trans ((fld_eq (g10704 _ (by omega))).trans ((fld_eq (g10696 _ (by omega))).trans ((fld_eq (g10687 _ (by omega))).trans ((fld_eq (g10677 _ (by omega))).trans ((fld_eq (g10667 _ (by omega))).trans f10661)))))))))) ?_
  refine m_iload_n F rfl e_X10_takeText_119 ?_
  refine m_aload_n F rfl e_X10_takeText_120 ?_
  refine r_getC F e_X10_takeText_121 fl_X10_34 h10746 ((fld_eq (g10747 _ (by omega))).trans ((fld_eq (g10739 _ (by omega))).trans ((fld_eq (g10731 _ (by omega))).trans ((fld_eq (g10721 _ (by omega))).trans ((fld_eq (g10712 _ (by omega))).trans ((fld_eq (g10704 _ (by omega))).trans ((fld_eq (g10696 _ (by omega))).trans ((fld_eq (g10687 _ (by omega))).trans ((fld_eq (g10677 _ (by omega))).trans ((fld_eq (g10667 _ (by omega))).trans f10661)))))))))) ?_
  refine m_iconst F (v := 4) (by decide) e_X10_takeText_124 ?_
  refine m_iload_n F rfl e_X10_takeText_125 ?_
  refine m_iadd F e_X10_takeText_126 ?_
  refine Wm.topE (w := 5) (by decide) ?_
  refine r_iald F (len := 8) (j := 5) e_X10_takeText_127 h10746 (fun _ h => h) (by decide) (by decide) (by unfold vp_in; decide) (fun x10750 h10751 f10752 => ?_)
  refine r_iast F (g' := (⟨T, Z, u, h, P10724, L⟩ : RG)) (len := 8) (j := 1) e_X10_takeText_128 h10746 (fun _ h => h) (fun f h => ⟨f, rfl, h⟩) (by decide) (by decide) (by decide) (by unfold vp_in; decide) trivial (fun _ _ _ h => h) (fun _ _ _ h => h) (fun σ10753 h10754 g10755 f10756 g10757 => ?_)
  refine m_aload_n F rfl e_X10_takeText_129 ?_
  refine r_getC F e_X10_takeText_130 fl_X10_46 h10754 ((fld_eq (g10755 _ (by omega))).trans ((fld_eq (g10747 _ (by omega))).trans ((fld_eq (g10739 _ (by omega))).trans ((fld_eq (g10731 _ (by omega))).trans ((fld_eq (g10721 _ (by omega))).trans ((fld_eq (g10712 _ (by omega))).trans ((fld_eq (g10704 _ (by omega))).trans ((fld_eq (g10696 _ (by omega))).trans ((fld_eq (g10687 _ (by omega))).trans ((fld_eq (g10677 _ (by omega))).trans f10670)))))))))) ?_
  refine m_iload_n F rfl e_X10_takeText_133 ?_
  refine m_aload_n F rfl e_X10_takeText_134 ?_
  refine r_getC F e_X10_takeText_135 fl_X10_46 h10754 ((fld_eq (g10755 _ (by omega))).trans ((fld_eq (g10747 _ (by omega))).trans ((fld_eq (g10739 _ (by omega))).trans ((fld_eq (g10731 _ (by omega))).trans ((fld_eq (g10721 _ (by omega))).trans ((fld_eq (g10712 _ (by omega))).trans ((fld_eq (g10704 _ (by omega))).trans ((fld_eq (g10696 _ (by omega))).trans ((fld_eq (g10687 _ (by omega))).trans ((fld_eq (g10677 _ (by omega))).trans f10670)))))))))) ?_
  refine m_iconst F (v := 4) (by decide) e_X10_takeText_138 ?_
  refine m_iload_n F rfl e_X10_takeText_139 ?_
  refine m_iadd F e_X10_takeText_140 ?_
  refine Wm.topE (w := 5) (by decide) ?_
  refine r_iald F (len := 8) (j := 5) e_X10_takeText_141 h10754 (fun _ h => h) (by decide) (by decide) (by unfold vp_in; decide) (fun x10758 h10759 f10760 => ?_)
  obtain ⟨n10761, hn10761, rfl⟩ := h10759
  refine r_iast F (g' := (⟨T, Z, u, h, P10724, L⟩ : RG)) (len := 8) (j := 1) e_X10_takeText_142 h10754 (fun _ h => h) (fun f h => ⟨f, rfl, h⟩) (by decide) (by decide) (by decide) (by unfold vp_in; decide) ⟨n10761, by omega, rfl⟩ (fun _ _ _ h => h) (fun _ _ _ h => h) (fun σ10762 h10763 g10764 f10765 g10766 => ?_)
  refine m_aload_n F rfl e_X10_takeText_143 ?_
  refine r_getC F e_X10_takeText_144 fl_X10_49 h10763 ((fld_eq (g10764 _ (by omega))).trans ((fld_eq (g10755 _ (by omega))).trans ((fld_eq (g10747 _ (by omega))).trans ((fld_eq (g10739 _ (by omega))).trans ((fld_eq (g10731 _ (by omega))).trans ((fld_eq (g10721 _ (by omega))).trans ((fld_eq (g10712 _ (by omega))).trans ((fld_eq (g10704 _ (by omega))).trans ((fld_eq (g10696 _ (by omega))).trans ((fld_eq (g10687 _ (by omega))).trans f10680)))))))))) ?_
  refine m_iload_n F rfl e_X10_takeText_147 ?_
  refine m_aload_n F rfl e_X10_takeText_148 ?_
  refine r_getC F e_X10_takeText_149 fl_X10_49 h10763 ((fld_eq (g10764 _ (by omega))).trans ((fld_eq (g10755 _ (by omega))).trans ((fld_eq (g10747 _ (by omega))).trans ((fld_eq (g10739 _ (by omega))).trans ((fld_eq (g10731 _ (by omega))).trans ((fld_eq (g10721 _ (by omega))).trans ((fld_eq (g10712 _ (by omega))).trans ((fld_eq (g10704 _ (by omega))).trans ((fld_eq (g10696 _ (by omega))).trans ((fld_eq (g10687 _ (by omega))).trans f10680)))))))))) ?_
  refine m_iconst F (v := 4) (by decide) e_X10_takeText_152 ?_
  refine m_iload_n F rfl e_X10_takeText_153 ?_
  refine m_iadd F e_X10_takeText_154 ?_
  refine Wm.topE (w := 5) (by decide) ?_
  refine r_iald F (len := 8) (j := 5) e_X10_takeText_155 h10763 (fun _ h => h) (by decide) (by decide) (by unfold vp_in; decide) (fun x10767 h10768 f10769 => ?_)
  obtain ⟨n10770, hn10770, rfl⟩ := h10768
  refine r_iast F (g' := (⟨T, Z, u, h, P10724, L⟩ : RG)) (len := 8) (j := 1) e_X10_takeText_156 h10763 (fun _ h => h) (fun f h => ⟨f, rfl, h⟩) (by decide) (by decide) (by decide) (by unfold vp_in; decide) ⟨n10770, by omega, rfl⟩ (fun _ _ _ h => h) (fun _ _ _ h => h) (fun σ10771 h10772 g10773 f10774 g10775 => ?_)
  refine m_aload_n F rfl e_X10_takeText_157 ?_
  refine r_getC F e_X10_takeText_158 fl_X10_52 h10772 ((fld_eq (g10773 _ (by omega))).trans ((fld_eq (g10764 _ (by omega))).trans ((fld_eq (g10755 _ (by omega))).trans ((fld_eq (g10747 _ (by omega))).trans ((fld_eq (g10739 _ (by omega))).trans ((fld_eq (g10731 _ (by omega))).trans ((fld_eq (g10721 _ (by omega))).trans ((fld_eq (g10712 _ (by omega))).trans ((fld_eq (g10704 _ (by omega))).trans ((fld_eq (g10696 _ (by omega))).trans f10690)))))))))) ?_
  refine m_iload_n F rfl e_X10_takeText_161 ?_
  refine m_aload_n F rfl e_X10_takeText_162 ?_
  refine r_getC F e_X10_takeText_163 fl_X10_52 h10772 ((fld_eq (g10773 _ (by omega))).trans ((fld_eq (g10764 _ (by omega))).trans ((fld_eq (g10755 _ (by omega))).trans ((fld_eq (g10747 _ (by omega))).trans ((fld_eq (g10739 _ (by omega))).trans ((fld_eq (g10731 _ (by omega))).trans ((fld_eq (g10721 _ (by omega))).trans ((fld_eq (g10712 _ (by omega))).trans ((fld_eq (g10704 _ (by omega))).trans ((fld_eq (g10696 _ (by omega))).trans f10690)))))))))) ?_
  refine m_iconst F (v := 4) (by decide) e_X10_takeText_166 ?_
  refine m_iload_n F rfl e_X10_takeText_167 ?_
  refine m_iadd F e_X10_takeText_168 ?_
  refine Wm.topE (w := 5) (by decide) ?_
  refine r_iald F (len := 8) (j := 5) e_X10_takeText_169 h10772 (fun _ h => h) (by decide) (by decide) (by unfold vp_in; decide) (fun x10776 h10777 f10778 => ?_)
  refine r_iast F (g' := (⟨T, Z, u, h, P10724, L⟩ : RG)) (len := 8) (j := 1) e_X10_takeText_170 h10772 (fun _ h => h) (fun f h => ⟨f, rfl, h⟩) (by decide) (by decide) (by decide) (by unfold vp_in; decide) trivial (fun _ _ _ h => h) (fun _ _ _ h => h) (fun σ10779 h10780 g10781 f10782 g10783 => ?_)
  refine m_iinc F (v := 2) (lv' := [(1, .int 2), (0, .ref c)]) e_X10_takeText_171 rfl (by decide) (by decide) rfl ?_
  refine m_goto F e_X10_takeText_174 ?_
  refine m_iload_n F rfl e_X10_takeText_26 ?_
  refine m_iconst F (v := 4) (by decide) e_X10_takeText_27 ?_
  refine m_icmp_ge F e_X10_takeText_28 (fun q => absurd q (by decide)) (fun _ => ?_)
  refine m_aload_n F rfl e_X10_takeText_31 ?_
  refine r_getC F e_X10_takeText_32 fl_X10_16 h10780 ((fld_eq (g10781 _ (by omega))).trans ((fld_eq (g10773 _ (by omega))).trans ((fld_eq (g10764 _ (by omega))).trans ((fld_eq (g10755 _ (by omega))).trans ((fld_eq (g10747 _ (by omega))).trans ((fld_eq (g10739 _ (by omega))).trans ((fld_eq (g10731 _ (by omega))).trans ((fld_eq (g10721 _ (by omega))).trans ((fld_eq (g10712 _ (by omega))).trans ((fld_eq (g10704 _ (by omega))).trans ((fld_eq (g10696 _ (by omega))).trans ((fld_eq (g10687 _ (by omega))).trans ((fld_eq (g10677 _ (by omega))).trans ((fld_eq (g10667 _ (by omega))).trans ((fld_eq (g10658 _ (by omega))).trans ((fld_eq (g10649 _ (by omega))).trans ((fld_eq (g10640 _ (by omega))).trans ((fld_eq (g10629 _ (by omega))).trans ((fld_eq (g10619 _ (by omega))).trans ((fld_eq (g10610 _ (by omega))).trans f10604)))))))))))))))))))) ?_
  refine m_iload_n F rfl e_X10_takeText_35 ?_
  refine m_aload_n F rfl e_X10_takeText_36 ?_
  refine r_getC F e_X10_takeText_37 fl_X10_16 h10780 ((fld_eq (g10781 _ (by omega))).trans ((fld_eq (g10773 _ (by omega))).trans ((fld_eq (g10764 _ (by omega))).trans ((fld_eq (g10755 _ (by omega))).trans ((fld_eq (g10747 _ (by omega))).trans ((fld_eq (g10739 _ (by omega))).trans ((fld_eq (g10731 _ (by omega))).trans ((fld_eq (g10721 _ (by omega))).trans ((fld_eq (g10712 _ (by omega))).trans ((fld_eq (g10704 _ (by omega))).trans ((fld_eq (g10696 _ (by omega))).trans ((fld_eq (g10687 _ (by omega))).trans ((fld_eq (g10677 _ (by omega))).trans ((fld_eq (g10667 _ (by omega))).trans ((fld_eq (g10658 _ (by omega))).trans ((fld_eq (g10649 _ (by omega))).trans ((fld_eq (g10640 _ (by omega))).trans ((fld_eq (g10629 _ (by omega))).trans ((fld_eq (g10619 _ (by omega))).trans ((fld_eq (g10610 _ (by omega))).trans f10604)))))))))))))))))))) ?_
  refine m_iconst F (v := 4) (by decide) e_X10_takeText_40 ?_
  refine m_iload_n F rfl e_X10_takeText_41 ?_
  refine m_iadd F e_X10_takeText_42 ?_
  refine Wm.topE (w := 6) (by decide) ?_
  refine r_iald F (len := 8) (j := 6) e_X10_takeText_43 h10780 (fun _ h => h) (by decide) (by decide) (by unfold vp_in; decide) (fun x10784 h10785 f10786 => ?_)
  refine r_iast F (g' := (⟨T, Z, u, h, P10724, L⟩ : RG)) (len := 8) (j := 2) e_X10_takeText_44 h10780 (fun _ h => h) (fun f h => ⟨f, rfl, h⟩) (by decide) (by decide) (by decide) (by unfold vp_in; decide) trivial (fun _ _ _ h => h) (fun _ _ _ h => h) (fun σ10787 h10788 g10789 f10790 g10791 => ?_)
  refine m_aload_n F rfl e_X10_takeText_45 ?_
  refine r_getC F e_X10_takeText_46 fl_X10_19 h10788 ((fld_eq (g10789 _ (by omega))).trans ((fld_eq (g10781 _ (by omega))).trans ((fld_eq (g10773 _ (by omega))).trans ((fld_eq (g10764 _ (by omega))).trans ((fld_eq (g10755 _ (by omega))).trans ((fld_eq (g10747 _ (by omega))).trans ((fld_eq (g10739 _ (by omega))).trans ((fld_eq (g10731 _ (by omega))).trans ((fld_eq (g10721 _ (by omega))).trans ((fld_eq (g10712 _ (by omega))).trans ((fld_eq (g10704 _ (by omega))).trans ((fld_eq (g10696 _ (by omega))).trans ((fld_eq (g10687 _ (by omega))).trans ((fld_eq (g10677 _ (by omega))).trans ((fld_eq (g10667 _ (by omega))).trans ((fld_eq (g10658 _ (by omega))).trans ((fld_eq (g10649 _ (by omega))).trans ((fld_eq (g10640 _ (by omega))).trans ((fld_eq (g10629 _ (by omega))).trans ((fld_eq (g10619 _ (by omega))).trans f10613)))))))))))))))))))) ?_
  refine m_iload_n F rfl e_X10_takeText_49 ?_
  refine m_aload_n F rfl e_X10_takeText_50 ?_
  refine r_getC F e_X10_takeText_51 fl_X10_19 h10788 ((fld_eq (g10789 _ (by omega))).trans ((fld_eq (g10781 _ (by omega))).trans ((fld_eq (g10773 _ (by omega))).trans ((fld_eq (g10764 _ (by omega))).trans ((fld_eq (g10755 _ (by omega))).trans ((fld_eq (g10747 _ (by omega))).trans ((fld_eq (g10739 _ (by omega))).trans ((fld_eq (g10731 _ (by omega))).trans ((fld_eq (g10721 _ (by omega))).trans ((fld_eq (g10712 _ (by omega))).trans ((fld_eq (g10704 _ (by omega))).trans ((fld_eq (g10696 _ (by omega))).trans ((fld_eq (g10687 _ (by omega))).trans ((fld_eq (g10677 _ (by omega))).trans ((fld_eq (g10667 _ (by omega))).trans ((fld_eq (g10658 _ (by omega))).trans ((fld_eq (g10649 _ (by omega))).trans ((fld_eq (g10640 _ (by omega))).trans ((fld_eq (g10629 _ (by omega))).trans ((fld_eq (g10619 _ (by omega))).trans f10613)))))))))))))))))))) ?_
  refine m_iconst F (v := 4) (by decide) e_X10_takeText_54 ?_
  refine m_iload_n F rfl e_X10_takeText_55 ?_
  refine m_iadd F e_X10_takeText_56 ?_
  refine Wm.topE (w := 6) (by decide) ?_
  refine r_iald F (len := 8) (j := 6) e_X10_takeText_57 h10788 (fun _ h => h) (by decide) (by decide) (by unfold vp_in; decide) (fun x10792 h10793 f10794 => ?_)
  refine r_iast F (g' := (⟨T, Z, u, h, P10724, L⟩ : RG)) (len := 8) (j := 2) e_X10_takeText_58 h10788 (fun _ h => h) (fun f h => ⟨f, rfl, h⟩) (by decide) (by decide) (by decide) (by unfold vp_in; decide) trivial (fun _ _ _ h => h) (fun _ _ _ h => h) (fun σ10795 h10796 g10797 f10798 g10799 => ?_)
  refine m_aload_n F rfl e_X10_takeText_59 ?_
  refine r_getC F e_X10_takeText_60 fl_X10_22 h10796 ((fld_eq (g10797 _ (by omega))).trans ((fld_eq (g10789 _ (by omega))).trans ((fld_eq (g10781 _ (by omega))).trans ((fld_eq (g10773 _ (by omega))).trans ((fld_eq (g10764 _ (by omega))).trans ((fld_eq (g10755 _ (by omega))).trans ((fld_eq (g10747 _ (by omega))).trans ((fld_eq (g10739 _ (by omega))).trans ((fld_eq (g10731 _ (by omega))).trans ((fld_eq (g10721 _ (by omega))).trans ((fld_eq (g10712 _ (by omega))).trans ((fld_eq (g10704 _ (by omega))).trans ((fld_eq (g10696 _ (by omega))).trans ((fld_eq (g10687 _ (by omega))).trans ((fld_eq (g10677 _ (by omega))).trans ((fld_eq (g10667 _ (by omega))).trans ((fld_eq (g10658 _ (by omega))).trans ((fld_eq (g10649 _ (by omega))).trans ((fld_eq (g10640 _ (by omega))).trans ((fld_eq (g10629 _ (by omega))).trans f10622)))))))))))))))))))) ?_
  refine m_iload_n F rfl e_X10_takeText_63 ?_
  refine m_aload_n F rfl e_X10_takeText_64 ?_
  refine r_getC F e_X10_takeText_65 fl_X10_22 h10796 ((fld_eq (g10797 _ (by omega))).trans ((fld_eq (g10789 _ (by omega))).trans ((fld_eq (g10781 _ (by omega))).trans ((fld_eq (g10773 _ (by omega))).trans ((fld_eq (g10764 _ (by omega))).trans ((fld_eq (g10755 _ (by omega))).trans ((fld_eq (g10747 _ (by omega))).trans ((fld_eq (g10739 _ (by omega))).trans ((fld_eq (g10731 _ (by omega))).trans ((fld_eq (g10721 _ (by omega))).trans ((fld_eq (g10712 _ (by omega))).trans ((fld_eq (g10704 _ (by omega))).trans ((fld_eq (g10696 _ (by omega))).trans ((fld_eq (g10687 _ (by omega))).trans ((fld_eq (g10677 _ (by omega))).trans ((fld_eq (g10667 _ (by omega))).trans ((fld_eq (g10658 _ (by omega))).trans ((fld_eq (g10649 _ (by omega))).trans ((fld_eq (g10640 _ (by omega))).trans ((fld_eq (g10629 _ (by omega))).trans f10622)))))))))))))))))))) ?_
  refine m_iconst F (v := 4) (by decide) e_X10_takeText_68 ?_
  refine m_iload_n F rfl e_X10_takeText_69 ?_
  refine m_iadd F e_X10_takeText_70 ?_
  refine Wm.topE (w := 6) (by decide) ?_
  refine r_iald F (len := 8) (j := 6) e_X10_takeText_71 h10796 (fun _ h => h) (by decide) (by decide) (by unfold vp_in; decide) (fun x10800 h10801 f10802 => ?_)
  obtain ⟨n10803, hn10803, rfl, pn10803, rn10803⟩ := h10801
  refine r_iast F (g' := (⟨T, Z, u, h, (mkP P10724.n0 P10724.n2 P10724.n5 P10724.n7 (min 3 P10724.m5) P10724.m5 P10724.w2 P10724.w7 P10724.kk P10724.a), L⟩ : RG)) (len := 8) (j := 2) e_X10_takeText_72 h10796 (fun _ h => h) (fun f h => ⟨f, rfl, h⟩) (by decide) (by decide) (by decide) (by unfold vp_in; decide) ⟨n10803, by omega, rfl, fun _ h8 => rn10803 (by omega) (show 6 < 4 + P10724.m5 by have h6 : 2 < min 3 P10724.m5 := h8; omega), fun h7 _ => absurd h7 (by omega)⟩ (fun i hi y hy => by obtain ⟨n9, a9, b9, c9, d9⟩ := hy; exact ⟨n9, a9, b9, fun h7 h8 => c9 h7 (show i < P10724.m0 by have h6 : i < min 3 P10724.m5 := h8; omega), d9⟩) (CR.chg (by intro k hk i x h; unfold EI at h ⊢; split at h <;> first | exact h | exact absurd rfl hk | trivial) rfl rfl) (fun σ10804 h10805 g10806 f10807 g10808 => ?_)
  obtain ⟨P10809, eP10809⟩ : ∃ P9, P9 = (mkP P10724.n0 P10724.n2 P10724.n5 P10724.n7 (min 3 P10724.m5) P10724.m5 P10724.w2 P10724.w7 P10724.kk P10724.a) := ⟨_, rfl⟩
  rw [← eP10809] at h10805
  have fP10809 : P10809.n0 = P10724.n0 ∧ P10809.n2 = P10724.n2 ∧ P10809.n5 = P10724.n5 ∧ P10809.n7 = P10724.n7 ∧ P10809.m0 = min 3 P10724.m5 ∧ P10809.m5 = P10724.m5 ∧ P10809.w2 = P10724.w2 ∧ P10809.w7 = P10724.w7 ∧ P10809.kk = P10724.kk ∧ P10809.a = P10724.a := by rw [eP10809]; exact ⟨rfl, rfl, rfl, rfl, rfl, rfl, rfl, rfl, rfl, rfl⟩
  refine m_aload_n F rfl e_X10_takeText_73 ?_
  refine r_getC F e_X10_takeText_74 fl_X10_25 h10805 ((fld_eq (g10806 _ (by omega))).trans ((fld_eq (g10797 _ (by omega))).trans ((fld_eq (g10789 _ (by omega))).trans ((fld_eq (g10781 _ (by omega))).trans ((fld_eq (g10773 _ (by omega))).trans ((fld_eq (g10764 _ (by omega))).trans ((fld_eq (g10755 _ (by omega))).trans ((fld_eq (g10747 _ (by omega))).trans ((fld_eq (g10739 _ (by omega))).trans ((fld_eq (g10731 _ (by omega))).trans ((fld_eq (g10721 _ (by omega))).trans ((fld_eq (g10712 _ (by omega))).trans ((fld_eq (g10704 _ (by omega))).trans ((fld_eq (g10696 _ (by omega))).trans ((fld_eq (g10687 _ (by omega))).trans ((fld_eq (g10677 _ (by omega))).trans ((fld_eq (g10667 _ (by omega))).trans ((fld_eq (g10658 _ (by omega))).trans ((fld_eq (g10649 _ (by omega))).trans ((fld_eq (g10640 _ (by omega))).trans f10633)))))))))))))))))))) ?_
  refine m_iload_n F rfl e_X10_takeText_77 ?_
  refine m_aload_n F rfl e_X10_takeText_78 ?_
  refine r_getC F e_X10_takeText_79 fl_X10_25 h10805 ((fld_eq (g10806 _ (by omega))).trans ((fld_eq (g10797 _ (by omega))).trans ((fld_eq (g10789 _ (by omega))).trans ((fld_eq (g10781 _ (by omega))).trans ((fld_eq (g10773 _ (by omega))).trans ((fld_eq (g10764 _ (by omega))).trans ((fld_eq (g10755 _ (by omega))).trans ((fld_eq (g10747 _ (by omega))).trans ((fld_eq (g10739 _ (by omega))).trans ((fld_eq (g10731 _ (by omega))).trans ((fld_eq (g10721 _ (by omega))).trans ((fld_eq (g10712 _ (by omega))).trans ((fld_eq (g10704 _ (by omega))).trans ((fld_eq (g10696 _ (by omega))).trans ((fld_eq (g10687 _ (by omega))).trans ((fld_eq (g10677 _ (by omega))).trans ((fld_eq (g10667 _ (by omega))).trans ((fld_eq (g10658 _ (by omega))).trans ((fld_eq (g10649 _ (by omega))).trans ((fld_eq (g10640 _ (by omega))).trans f10633)))))))))))))))))))) ?_
  refine m_iconst F (v := 4) (by decide) e_X10_takeText_82 ?_
  refine m_iload_n F rfl e_X10_takeText_83 ?_
  refine m_iadd F e_X10_takeText_84 ?_
  refine Wm.topE (w := 6) (by decide) ?_
  refine r_iald F (len := 8) (j := 6) e_X10_takeText_85 h10805 (fun _ h => h) (by decide) (by decide) (by unfold vp_in; decide) (fun x10810 h10811 f10812 => ?_)
  obtain ⟨n10813, hn10813, rfl⟩ := h10811
  refine r_iast F (g' := (⟨T, Z, u, h, P10809, L⟩ : RG)) (len := 8) (j := 2) e_X10_takeText_86 h10805 (fun _ h => h) (fun f h => ⟨f, rfl, h⟩) (by decide) (by decide) (by decide) (by unfold vp_in; decide) ⟨n10813, by omega, rfl⟩ (fun _ _ _ h => h) (fun _ _ _ h => h) (fun σ10814 h10815 g10816 f10817 g10818 => ?_)
  refine m_aload_n F rfl e_X10_takeText_87 ?_
  refine r_getC F e_X10_takeText_88 fl_X10_28 h10815 ((fld_eq (g10816 _ (by omega))).trans ((fld_eq (g10806 _ (by omega))).trans ((fld_eq (g10797 _ (by omega))).trans ((fld_eq (g10789 _ (by omega))).trans ((fld_eq (g10781 _ (by omega))).trans ((fld_eq (g10773 _ (by omega))).trans ((fld_eq (g10764 _ (by omega))).trans ((fld_eq (g10755 _ (by omega))).trans ((fld_eq (g10747 _ (by omega))).trans ((fld_eq (g10739 _ (by omega))).trans ((fld_eq (g10731 _ (by omega))).trans ((fld_eq (g10721 _ (by omega))).trans ((fld_eq (g10712 _ (by omega))).trans ((fld_eq (g10704 _ (by omega))).trans ((fld_eq (g10696 _ (by omega))).trans ((fld_eq (g10687 _ (by omega))).trans ((fld_eq (g10677 _ (by omega))).trans ((fld_eq (g10667 _ (by omega))).trans ((fld_eq (g10658 _ (by omega))).trans ((fld_eq (g10649 _ (by omega))).trans f10643)))))))))))))))))))) ?_
  refine m_iload_n F rfl e_X10_takeText_91 ?_
  refine m_aload_n F rfl e_X10_takeText_92 ?_
  refine r_getC F e_X10_takeText_93 fl_X10_28 h10815 ((fld_eq (g10816 _ (by omega))).trans ((fld_eq (g10806 _ (by omega))).trans ((fld_eq (g10797 _ (by omega))).trans ((fld_eq (g10789 _ (by omega))).trans ((fld_eq (g10781 _ (by omega))).trans ((fld_eq (g10773 _ (by omega))).trans ((fld_eq (g10764 _ (by omega))).trans ((fld_eq (g10755 _ (by omega))).trans ((fld_eq (g10747 _ (by omega))).trans ((fld_eq (g10739 _ (by omega))).trans ((fld_eq (g10731 _ (by omega))).trans ((fld_eq (g10721 _ (by omega))).trans ((fld_eq (g10712 _ (by omega))).trans ((fld_eq (g10704 _ (by omega))).trans ((fld_eq (g10696 _ (by omega))).trans ((fld_eq (g10687 _ (by omega))).trans ((fld_eq (g10677 _ (by omega))).trans ((fld_eq (g10667 _ (by omega))).trans ((fld_eq (g10658 _ (by omega))).trans ((fld_eq (g10649 _ (by omega))).trans f10643)))))))))))))))))))) ?_
  refine m_iconst F (v := 4) (by decide) e_X10_takeText_96 ?_
  refine m_iload_n F rfl e_X10_takeText_97 ?_
  refine m_iadd F e_X10_takeText_98 ?_
  refine Wm.topE (w := 6) (by decide) ?_
  refine r_iald F (len := 8) (j := 6) e_X10_takeText_99 h10815 (fun _ h => h) (by decide) (by decide) (by unfold vp_in; decide) (fun x10819 h10820 f10821 => ?_)
  refine r_iast F (g' := (⟨T, Z, u, h, P10809, L⟩ : RG)) (len := 8) (j := 2) e_X10_takeText_100 h10815 (fun _ h => h) (fun f h => ⟨f, rfl, h⟩) (by decide) (by decide) (by decide) (by unfold vp_in; decide) trivial (fun _ _ _ h => h) (fun _ _ _ h => h) (fun σ10822 h10823 g10824 f10825 g10826 => ?_)
  refine m_aload_n F rfl e_X10_takeText_101 ?_
  refine r_getC F e_X10_takeText_102 fl_X10_31 h10823 ((fld_eq (g10824 _ (by omega))).trans ((fld_eq (g10816 _ (by omega))).trans ((fld_eq (g10806 _ (by omega))).trans ((fld_eq (g10797 _ (by omega))).trans ((fld_eq (g10789 _ (by omega))).trans ((fld_eq (g10781 _ (by omega))).trans ((fld_eq (g10773 _ (by omega))).trans ((fld_eq (g10764 _ (by omega))).trans ((fld_eq (g10755 _ (by omega))).trans ((fld_eq (g10747 _ (by omega))).trans ((fld_eq (g10739 _ (by omega))).trans ((fld_eq (g10731 _ (by omega))).trans ((fld_eq (g10721 _ (by omega))).trans ((fld_eq (g10712 _ (by omega))).trans ((fld_eq (g10704 _ (by omega))).trans ((fld_eq (g10696 _ (by omega))).trans ((fld_eq (g10687 _ (by omega))).trans ((fld_eq (g10677 _ (by omega))).trans ((fld_eq (g10667 _ (by omega))).trans ((fld_eq (g10658 _ (by omega))).trans f10652)))))))))))))))))))) ?_
  refine m_iload_n F rfl e_X10_takeText_105 ?_
  refine m_aload_n F rfl e_X10_takeText_106 ?_
  refine r_getC F e_X10_takeText_107 fl_X10_31 h10823 ((fld_eq (g10824 _ (by omega))).trans ((fld_eq (g10816 _ (by omega))).trans ((fld_eq (g10806 _ (by omega))).trans ((fld_eq (g10797 _ (by omega))).trans ((fld_eq (g10789 _ (by omega))).trans ((fld_eq (g10781 _ (by omega))).trans ((fld_eq (g10773 _ (by omega))).trans ((fld_eq (g10764 _ (by omega))).trans ((fld_eq (g10755 _ (by omega))).trans ((fld_eq (g10747 _ (by omega))).trans ((fld_eq (g10739 _ (by omega))).trans ((fld_eq (g10731 _ (by omega))).trans ((fld_eq (g10721 _ (by omega))).trans ((fld_eq (g10712 _ (by omega))).trans ((fld_eq (g10704 _ (by omega))).trans ((fld_eq (g10696 _ (by omega))).trans ((fld_eq (g10687 _ (by omega))).trans ((fld_eq (g10677 _ (by omega))).trans ((fld_eq (g10667 _ (by omega))).trans ((fld_eq (g10658 _ (by omega))).trans f10652)))))))))))))))))))) ?_
  refine m_iconst F (v := 4) (by decide) e_X10_takeText_110 ?_
  refine m_iload_n F rfl e_X10_takeText_111 ?_
  refine m_iadd F e_X10_takeText_112 ?_
  refine Wm.topE (w := 6) (by decide) ?_
  refine r_iald F (len := 8) (j := 6) e_X10_takeText_113 h10823 (fun _ h => h) (by decide) (by decide) (by unfold vp_in; decide) (fun x10827 h10828 f10829 => ?_)
  refine r_iast F (g' := (⟨T, Z, u, h, P10809, L⟩ : RG)) (len := 8) (j := 2) e_X10_takeText_114 h10823 (fun _ h => h) (fun f h => ⟨f, rfl, h⟩) (by decide) (by decide) (by decide) (by unfold vp_in; decide) trivial (fun _ _ _ h => h) (fun _ _ _ h => h) (fun σ10830 h10831 g10832 f10833 g10834 => ?_)
  refine m_aload_n F rfl e_X10_takeText_115 ?_
  refine r_getC F e_X10_takeText_116 fl_X10_34 h10831 ((fld_eq (g10832 _ (by omega))).trans ((fld_eq (g10824 _ (by omega))).trans ((fld_eq (g10816 _ (by omega))).trans ((fld_eq (g10806 _ (by omega))).trans ((fld_eq (g10797 _ (by omega))).trans ((fld_eq (g10789 _ (by omega))).trans ((fld_eq (g10781 _ (by omega))).trans ((fld_eq (g10773 _ (by omega))).trans ((fld_eq (g10764 _ (by omega))).trans ((fld_eq (g10755 _ (by omega))).trans ((fld_eq (g10747 _ (by omega))).trans ((fld_eq (g10739 _ (by omega))).trans ((fld_eq (g10731 _ (by omega))).trans ((fld_eq (g10721 _ (by omega))).trans ((fld_eq (g10712 _ (by omega))).trans ((fld_eq (g10704 _ (by omega))).trans ((fld_eq (g10696 _ (by omega))).trans ((fld_eq (g10687 _ (by omega))).trans ((fld_eq (g10677 _ (by omega))).trans ((fld_eq (g10667 _ (by omega))).trans f10661)))))))))))))))))))) ?_
  refine m_iload_n F rfl e_X10_takeText_119 ?_
  refine m_aload_n F rfl e_X10_takeText_120 ?_
  refine r_getC F e_X10_takeText_121 fl_X10_34 h10831 ((fld_eq (g10832 _ (by omega))).trans ((fld_eq (g10824 _ (by omega))).trans ((fld_eq (g10816 _ (by omega))).trans ((fld_eq (g10806 _ (by omega))).trans ((fld_eq (g10797 _ (by omega))).trans ((fld_eq (g10789 _ (by omega))).trans ((fld_eq (g10781 _ (by omega))).trans ((fld_eq (g10773 _ (by omega))).trans ((fld_eq (g10764 _ (by omega))).trans ((fld_eq (g10755 _ (by omega))).trans ((fld_eq (g10747 _ (by omega))).trans ((fld_eq (g10739 _ (by omega))).trans ((fld_eq (g10731 _ (by omega))).trans ((fld_eq (g10721 _ (by omega))).trans ((fld_eq (g10712 _ (by omega))).trans ((fld_eq (g10704 _ (by omega))).trans ((fld_eq (g10696 _ (by omega))).trans ((fld_eq (g10687 _ (by omega))).trans ((fld_eq (g10677 _ (by omega))).trans ((fld_eq (g10667 _ (by omega))).trans f10661)))))))))))))))))))) ?_
  refine m_iconst F (v := 4) (by decide) e_X10_takeText_124 ?_
  refine m_iload_n F rfl e_X10_takeText_125 ?_
  refine m_iadd F e_X10_takeText_126 ?_
  refine Wm.topE (w := 6) (by decide) ?_
  refine r_iald F (len := 8) (j := 6) e_X10_takeText_127 h10831 (fun _ h => h) (by decide) (by decide) (by unfold vp_in; decide) (fun x10835 h10836 f10837 => ?_)
  refine r_iast F (g' := (⟨T, Z, u, h, P10809, L⟩ : RG)) (len := 8) (j := 2) e_X10_takeText_128 h10831 (fun _ h => h) (fun f h => ⟨f, rfl, h⟩) (by decide) (by decide) (by decide) (by unfold vp_in; decide) trivial (fun _ _ _ h => h) (fun _ _ _ h => h) (fun σ10838 h10839 g10840 f10841 g10842 => ?_)
  refine m_aload_n F rfl e_X10_takeText_129 ?_
  refine r_getC F e_X10_takeText_130 fl_X10_46 h10839 ((fld_eq (g10840 _ (by omega))).trans ((fld_eq (g10832 _ (by omega))).trans ((fld_eq (g10824 _ (by omega))).trans ((fld_eq (g10816 _ (by omega))).trans ((fld_eq (g10806 _ (by omega))).trans ((fld_eq (g10797 _ (by omega))).trans ((fld_eq (g10789 _ (by omega))).trans ((fld_eq (g10781 _ (by omega))).trans ((fld_eq (g10773 _ (by omega))).trans ((fld_eq (g10764 _ (by omega))).trans ((fld_eq (g10755 _ (by omega))).trans ((fld_eq (g10747 _ (by omega))).trans ((fld_eq (g10739 _ (by omega))).trans ((fld_eq (g10731 _ (by omega))).trans ((fld_eq (g10721 _ (by omega))).trans ((fld_eq (g10712 _ (by omega))).trans ((fld_eq (g10704 _ (by omega))).trans ((fld_eq (g10696 _ (by omega))).trans ((fld_eq (g10687 _ (by omega))).trans ((fld_eq (g10677 _ (by omega))).trans f10670)))))))))))))))))))) ?_
  refine m_iload_n F rfl e_X10_takeText_133 ?_
  refine m_aload_n F rfl e_X10_takeText_134 ?_
  refine r_getC F e_X10_takeText_135 fl_X10_46 h10839 ((fld_eq (g10840 _ (by omega))).trans ((fld_eq (g10832 _ (by omega))).trans ((fld_eq (g10824 _ (by omega))).trans ((fld_eq (g10816 _ (by omega))).trans ((fld_eq (g10806 _ (by omega))).trans ((fld_eq (g10797 _ (by omega))).trans ((fld_eq (g10789 _ (by omega))).trans ((fld_eq (g10781 _ (by omega))).trans ((fld_eq (g10773 _ (by omega))).trans ((fld_eq (g10764 _ (by omega))).trans ((fld_eq (g10755 _ (by omega))).trans ((fld_eq (g10747 _ (by omega))).trans ((fld_eq (g10739 _ (by omega))).trans ((fld_eq (g10731 _ (by omega))).trans ((fld_eq (g10721 _ (by omega))).trans ((fld_eq (g10712 _ (by omega))).trans ((fld_eq (g10704 _ (by omega))).trans ((fld_eq (g10696 _ (by omega))).trans ((fld_eq (g10687 _ (by omega))).trans ((fld_eq (g10677 _ (by omega))).trans f10670)))))))))))))))))))) ?_
  refine m_iconst F (v := 4) (by decide) e_X10_takeText_138 ?_
  refine m_iload_n F rfl e_X10_takeText_139 ?_
  refine m_iadd F e_X10_takeText_140 ?_
  refine Wm.topE (w := 6) (by decide) ?_
  refine r_iald F (len := 8) (j := 6) e_X10_takeText_141 h10839 (fun _ h => h) (by decide) (by decide) (by unfold vp_in; decide) (fun x10843 h10844 f10845 => ?_)
  obtain ⟨n10846, hn10846, rfl⟩ := h10844
  refine r_iast F (g' := (⟨T, Z, u, h, P10809, L⟩ : RG)) (len := 8) (j := 2) e_X10_takeText_142 h10839 (fun _ h => h) (fun f h => ⟨f, rfl, h⟩) (by decide) (by decide) (by decide) (by unfold vp_in; decide) ⟨n10846, by omega, rfl⟩ (fun _ _ _ h => h) (fun _ _ _ h => h) (fun σ10847 h10848 g10849 f10850 g10851 => ?_)
  refine m_aload_n F rfl e_X10_takeText_143 ?_
  refine r_getC F e_X10_takeText_144 fl_X10_49 h10848 ((fld_eq (g10849 _ (by omega))).trans ((fld_eq (g10840 _ (by omega))).trans ((fld_eq (g10832 _ (by omega))).trans ((fld_eq (g10824 _ (by omega))).trans ((fld_eq (g10816 _ (by omega))).trans ((fld_eq (g10806 _ (by omega))).trans ((fld_eq (g10797 _ (by omega))).trans ((fld_eq (g10789 _ (by omega))).trans ((fld_eq (g10781 _ (by omega))).trans ((fld_eq (g10773 _ (by omega))).trans ((fld_eq (g10764 _ (by omega))).trans ((fld_eq (g10755 _ (by omega))).trans ((fld_eq (g10747 _ (by omega))).trans ((fld_eq (g10739 _ (by omega))).trans ((fld_eq (g10731 _ (by omega))).trans ((fld_eq (g10721 _ (by omega))).trans ((fld_eq (g10712 _ (by omega))).trans ((fld_eq (g10704 _ (by omega))).trans ((fld_eq (g10696 _ (by omega))).trans ((fld_eq (g10687 _ (by omega))).trans f10680)))))))))))))))))))) ?_
  refine m_iload_n F rfl e_X10_takeText_147 ?_
  refine m_aload_n F rfl e_X10_takeText_148 ?_
  refine r_getC F e_X10_takeText_149 fl_X10_49 h10848 ((fld_eq (g10849 _ (by omega))).trans ((fld_eq (g10840 _ (by omega))).trans ((fld_eq (g10832 _ (by omega))).trans ((fld_eq (g10824 _ (by omega))).trans ((fld_eq (g10816 _ (by omega))).trans ((fld_eq (g10806 _ (by omega))).trans ((fld_eq (g10797 _ (by omega))).trans ((fld_eq (g10789 _ (by omega))).trans ((fld_eq (g10781 _ (by omega))).trans ((fld_eq (g10773 _ (by omega))).trans ((fld_eq (g10764 _ (by omega))).trans ((fld_eq (g10755 _ (by omega))).trans ((fld_eq (g10747 _ (by omega))).trans ((fld_eq (g10739 _ (by omega))).trans ((fld_eq (g10731 _ (by omega))).trans ((fld_eq (g10721 _ (by omega))).trans ((fld_eq (g10712 _ (by omega))).trans ((fld_eq (g10704 _ (by omega))).trans ((fld_eq (g10696 _ (by omega))).trans ((fld_eq (g10687 _ (by omega))).trans f10680)))))))))))))))))))) ?_
  refine m_iconst F (v := 4) (by decide) e_X10_takeText_152 ?_
  refine m_iload_n F rfl e_X10_takeText_153 ?_
  refine m_iadd F e_X10_takeText_154 ?_
  refine Wm.topE (w := 6) (by decide) ?_
  refine r_iald F (len := 8) (j := 6) e_X10_takeText_155 h10848 (fun _ h => h) (by decide) (by decide) (by unfold vp_in; decide) (fun x10852 h10853 f10854 => ?_)
  obtain ⟨n10855, hn10855, rfl⟩ := h10853
  refine r_iast F (g' := (⟨T, Z, u, h, P10809, L⟩ : RG)) (len := 8) (j := 2) e_X10_takeText_156 h10848 (fun _ h => h) (fun f h => ⟨f, rfl, h⟩) (by decide) (by decide) (by decide) (by unfold vp_in; decide) ⟨n10855, by omega, rfl⟩ (fun _ _ _ h => h) (fun _ _ _ h => h) (fun σ10856 h10857 g10858 f10859 g10860 => ?_)
  refine m_aload_n F rfl e_X10_takeText_157 ?_
  refine r_getC F e_X10_takeText_158 fl_X10_52 h10857 ((fld_eq (g10858 _ (by omega))).trans ((fld_eq (g10849 _ (by omega))).trans ((fld_eq (g10840 _ (by omega))).trans ((fld_eq (g10832 _ (by omega))).trans ((fld_eq (g10824 _ (by omega))).trans ((fld_eq (g10816 _ (by omega))).trans ((fld_eq (g10806 _ (by omega))).trans ((fld_eq (g10797 _ (by omega))).trans ((fld_eq (g10789 _ (by omega))).trans ((fld_eq (g10781 _ (by omega))).trans ((fld_eq (g10773 _ (by omega))).trans ((fld_eq (g10764 _ (by omega))).trans ((fld_eq (g10755 _ (by omega))).trans ((fld_eq (g10747 _ (by omega))).trans ((fld_eq (g10739 _ (by omega))).trans ((fld_eq (g10731 _ (by omega))).trans ((fld_eq (g10721 _ (by omega))).trans ((fld_eq (g10712 _ (by omega))).trans ((fld_eq (g10704 _ (by omega))).trans ((fld_eq (g10696 _ (by omega))).trans f10690)))))))))))))))))))) ?_
  refine m_iload_n F rfl e_X10_takeText_161 ?_
  refine m_aload_n F rfl e_X10_takeText_162 ?_
  refine r_getC F e_X10_takeText_163 fl_X10_52 h10857 ((fld_eq (g10858 _ (by omega))).trans ((fld_eq (g10849 _ (by omega))).trans ((fld_eq (g10840 _ (by omega))).trans ((fld_eq (g10832 _ (by omega))).trans ((fld_eq (g10824 _ (by omega))).trans ((fld_eq (g10816 _ (by omega))).trans ((fld_eq (g10806 _ (by omega))).trans ((fld_eq (g10797 _ (by omega))).trans ((fld_eq (g10789 _ (by omega))).trans ((fld_eq (g10781 _ (by omega))).trans ((fld_eq (g10773 _ (by omega))).trans ((fld_eq (g10764 _ (by omega))).trans ((fld_eq (g10755 _ (by omega))).trans ((fld_eq (g10747 _ (by omega))).trans ((fld_eq (g10739 _ (by omega))).trans ((fld_eq (g10731 _ (by omega))).trans ((fld_eq (g10721 _ (by omega))).trans ((fld_eq (g10712 _ (by omega))).trans ((fld_eq (g10704 _ (by omega))).trans ((fld_eq (g10696 _ (by omega))).trans f10690)))))))))))))))))))) ?_
  refine m_iconst F (v := 4) (by decide) e_X10_takeText_166 ?_
  refine m_iload_n F rfl e_X10_takeText_167 ?_
  refine m_iadd F e_X10_takeText_168 ?_
  refine Wm.topE (w := 6) (by decide) ?_
  refine r_iald F (len := 8) (j := 6) e_X10_takeText_169 h10857 (fun _ h => h) (by decide) (by decide) (by unfold vp_in; decide) (fun x10861 h10862 f10863 => ?_)
  refine r_iast F (g' := (⟨T, Z, u, h, P10809, L⟩ : RG)) (len := 8) (j := 2) e_X10_takeText_170 h10857 (fun _ h => h) (fun f h => ⟨f, rfl, h⟩) (by decide) (by decide) (by decide) (by unfold vp_in; decide) trivial (fun _ _ _ h => h) (fun _ _ _ h => h) (fun σ10864 h10865 g10866 f10867 g10868 => ?_)
  refine m_iinc F (v := 3) (lv' := [(1, .int 3), (0, .ref c)]) e_X10_takeText_171 rfl (by decide) (by decide) rfl ?_
  refine m_goto F e_X10_takeText_174 ?_
  refine m_iload_n F rfl e_X10_takeText_26 ?_
  refine m_iconst F (v := 4) (by decide) e_X10_takeText_27 ?_
  refine m_icmp_ge F e_X10_takeText_28 (fun q => absurd q (by decide)) (fun _ => ?_)
  refine m_aload_n F rfl e_X10_takeText_31 ?_
  refine r_getC F e_X10_takeText_32 fl_X10_16 h10865 ((fld_eq (g10866 _ (by omega))).trans ((fld_eq (g10858 _ (by omega))).trans ((fld_eq (g10849 _ (by omega))).trans ((fld_eq (g10840 _ (by omega))).trans ((fld_eq (g10832 _ (by omega))).trans ((fld_eq (g10824 _ (by omega))).trans ((fld_eq (g10816 _ (by omega))).trans ((fld_eq (g10806 _ (by omega))).trans ((fld_eq (g10797 _ (by omega))).trans ((fld_eq (g10789 _ (by omega))).trans ((fld_eq (g10781 _ (by omega))).trans ((fld_eq (g10773 _ (by omega))).trans ((fld_eq (g10764 _ (by omega))).trans ((fld_eq (g10755 _ (by omega))).trans ((fld_eq (g10747 _ (by omega))).trans ((fld_eq (g10739 _ (by omega))).trans ((fld_eq (g10731 _ (by omega))).trans ((fld_eq (g10721 _ (by omega))).trans ((fld_eq (g10712 _ (by omega))).trans ((fld_eq (g10704 _ (by omega))).trans ((fld_eq (g10696 _ (by omega))).trans ((fld_eq (g10687 _ (by omega))).trans ((fld_eq (g10677 _ (by omega))).trans ((fld_eq (g10667 _ (by omega))).trans ((fld_eq (g10658 _ (by omega))).trans ((fld_eq (g10649 _ (by omega))).trans ((fld_eq (g10640 _ (by omega))).trans ((fld_eq (g10629 _ (by omega))).trans ((fld_eq (g10619 _ (by omega))).trans ((fld_eq (g10610 _ (by omega))).trans f10604)))))))))))))))))))))))))))))) ?_
  refine m_iload_n F rfl e_X10_takeText_35 ?_
  refine m_aload_n F rfl e_X10_takeText_36 ?_
  refine r_getC F e_X10_takeText_37 fl_X10_16 h10865 ((fld_eq (g10866 _ (by omega))).trans ((fld_eq (g10858 _ (by omega))).trans ((fld_eq (g10849 _ (by omega))).trans ((fld_eq (g10840 _ (by omega))).trans ((fld_eq (g10832 _ (by omega))).trans ((fld_eq (g10824 _ (by omega))).trans ((fld_eq (g10816 _ (by omega))).trans ((fld_eq (g10806 _ (by omega))).trans ((fld_eq (g10797 _ (by omega))).trans ((fld_eq (g10789 _ (by omega))).trans ((fld_eq (g10781 _ (by omega))).trans ((fld_eq (g10773 _ (by omega))).trans ((fld_eq (g10764 _ (by omega))).trans ((fld_eq (g10755 _ (by omega))).trans ((fld_eq (g10747 _ (by omega))).trans ((fld_eq (g10739 _ (by omega))).trans ((fld_eq (g10731 _ (by omega))).trans ((fld_eq (g10721 _ (by omega))).trans ((fld_eq (g10712 _ (by omega))).trans ((fld_eq (g10704 _ (by omega))).trans ((fld_eq (g10696 _ (by omega))).trans ((fld_eq (g10687 _ (by omega))).trans ((fld_eq (g10677 _ (by omega))).trans ((fld_eq (g10667 _ (by omega))).trans ((fld_eq (g10658 _ (by omega))).trans ((fld_eq (g10649 _ (by omega))).trans ((fld_eq (g10640 _ (by omega))).trans ((fld_eq (g10629 _ (by omega))).trans ((fld_eq (g10619 _ (by omega))).trans ((fld_eq (g10610 _ (by omega))).trans f10604)))))))))))))))))))))))))))))) ?_
  refine m_iconst F (v := 4) (by decide) e_X10_takeText_40 ?_
  refine m_iload_n F rfl e_X10_takeText_41 ?_
  refine m_iadd F e_X10_takeText_42 ?_
  refine Wm.topE (w := 7) (by decide) ?_
  refine r_iald F (len := 8) (j := 7) e_X10_takeText_43 h10865 (fun _ h => h) (by decide) (by decide) (by unfold vp_in; decide) (fun x10869 h10870 f10871 => ?_)
  refine r_iast F (g' := (⟨T, Z, u, h, P10809, L⟩ : RG)) (len := 8) (j := 3) e_X10_takeText_44 h10865 (fun _ h => h) (fun f h => ⟨f, rfl, h⟩) (by decide) (by decide) (by decide) (by unfold vp_in; decide) trivial (fun _ _ _ h => h) (fun _ _ _ h => h) (fun σ10872 h10873 g10874 f10875 g10876 => ?_)
  refine m_aload_n F rfl e_X10_takeText_45 ?_
  refine r_getC F e_X10_takeText_46 fl_X10_19 h10873 ((fld_eq (g10874 _ (by omega))).trans ((fld_eq (g10866 _ (by omega))).trans ((fld_eq (g10858 _ (by omega))).trans ((fld_eq (g10849 _ (by omega))).trans ((fld_eq (g10840 _ (by omega))).trans ((fld_eq (g10832 _ (by omega))).trans ((fld_eq (g10824 _ (by omega))).trans ((fld_eq (g10816 _ (by omega))).trans ((fld_eq (g10806 _ (by omega))).trans ((fld_eq (g10797 _ (by omega))).trans ((fld_eq (g10789 _ (by omega))).trans ((fld_eq (g10781 _ (by omega))).trans ((fld_eq (g10773 _ (by omega))).trans ((fld_eq (g10764 _ (by omega))).trans ((fld_eq (g10755 _ (by omega))).trans ((fld_eq (g10747 _ (by omega))).trans ((fld_eq (g10739 _ (by omega))).trans ((fld_eq (g10731 _ (by omega))).trans ((fld_eq (g10721 _ (by omega))).trans ((fld_eq (g10712 _ (by omega))).trans ((fld_eq (g10704 _ (by omega))).trans ((fld_eq (g10696 _ (by omega))).trans ((fld_eq (g10687 _ (by omega))).trans ((fld_eq (g10677 _ (by omega))).trans ((fld_eq (g10667 _ (by omega))).trans ((fld_eq (g10658 _ (by omega))).trans ((fld_eq (g10649 _ (by omega))).trans ((fld_eq (g10640 _ (by omega))).trans ((fld_eq (g10629 _ (by omega))).trans ((fld_eq (g10619 _ (by omega))).trans f10613)))))))))))))))))))))))))))))) ?_
  refine m_iload_n F rfl e_X10_takeText_49 ?_
  refine m_aload_n F rfl e_X10_takeText_50 ?_
  refine r_getC F e_X10_takeText_51 fl_X10_19 h10873 ((fld_eq (g10874 _ (by omega))).trans ((fld_eq (g10866 _ (by omega))).trans ((fld_eq (g10858 _ (by omega))).trans ((fld_eq (g10849 _ (by omega))).trans ((fld_eq (g10840 _ (by omega))).trans ((fld_eq (g10832 _ (by omega))).trans ((fld_eq (g10824 _ (by omega))).trans ((fld_eq (g10816 _ (by omega))).trans ((fld_eq (g10806 _ (by omega))).trans ((fld_eq (g10797 _ (by omega))).trans ((fld_eq (g10789 _ (by omega))).trans ((fld_eq (g10781 _ (by omega))).trans ((fld_eq (g10773 _ (by omega))).trans ((fld_eq (g10764 _ (by omega))).trans ((fld_eq (g10755 _ (by omega))).trans ((fld_eq (g10747 _ (by omega))).trans ((fld_eq (g10739 _ (by omega))).trans ((fld_eq (g10731 _ (by omega))).trans ((fld_eq (g10721 _ (by omega))).trans ((fld_eq (g10712 _ (by omega))).trans ((fld_eq (g10704 _ (by omega))).trans ((fld_eq (g10696 _ (by omega))).trans ((fld_eq (g10687 _ (by omega))).trans ((fld_eq (g10677 _ (by omega))).trans ((fld_eq (g10667 _ (by omega))).trans ((fld_eq (g10658 _ (by omega))).trans ((fld_eq (g10649 _ (by omega))).trans ((fld_eq (g10640 _ (by omega))).trans ((fld_eq (g10629 _ (by omega))).trans ((fld_eq (g10619 _ (by omega))).trans f10613)))))))))))))))))))))))))))))) ?_
  refine m_iconst F (v := 4) (by decide) e_X10_takeText_54 ?_
  refine m_iload_n F rfl e_X10_takeText_55 ?_
  refine m_iadd F e_X10_takeText_56 ?_
  refine Wm.topE (w := 7) (by decide) ?_
  refine r_iald F (len := 8) (j := 7) e_X10_takeText_57 h10873 (fun _ h => h) (by decide) (by decide) (by unfold vp_in; decide) (fun x10877 h10878 f10879 => ?_)
  refine r_iast F (g' := (⟨T, Z, u, h, P10809, L⟩ : RG)) (len := 8) (j := 3) e_X10_takeText_58 h10873 (fun _ h => h) (fun f h => ⟨f, rfl, h⟩) (by decide) (by decide) (by decide) (by unfold vp_in; decide) trivial (fun _ _ _ h => h) (fun _ _ _ h => h) (fun σ10880 h10881 g10882 f10883 g10884 => ?_)
  refine m_aload_n F rfl e_X10_takeText_59 ?_
  refine r_getC F e_X10_takeText_60 fl_X10_22 h10881 ((fld_eq (g10882 _ (by omega))).trans ((fld_eq (g10874 _ (by omega))).trans ((fld_eq (g10866 _ (by omega))).trans ((fld_eq (g10858 _ (by omega))).trans ((fld_eq (g10849 _ (by omega))).trans ((fld_eq (g10840 _ (by omega))).trans ((fld_eq (g10832 _ (by omega))).trans ((fld_eq (g10824 _ (by omega))).trans ((fld_eq (g10816 _ (by omega))).trans ((fld_eq (g10806 _ (by omega))).trans ((fld_eq (g10797 _ (by omega))).trans ((fld_eq (g10789 _ (by omega))).trans ((fld_eq (g10781 _ (by omega))).trans ((fld_eq (g10773 _ (by omega))).trans ((fld_eq (g10764 _ (by omega))).trans ((fld_eq (g10755 _ (by omega))).trans ((fld_eq (g10747 _ (by omega))).trans ((fld_eq (g10739 _ (by omega))).trans ((fld_eq (g10731 _ (by omega))).trans ((fld_eq (g10721 _ (by omega))).trans ((fld_eq (g10712 _ (by omega))).trans ((fld_eq (g10704 _ (by omega))).trans ((fld_eq (g10696 _ (by omega))).trans ((fld_eq (g10687 _ (by omega))).trans ((fld_eq (g10677 _ (by omega))).trans ((fld_eq (g10667 _ (by omega))).trans ((fld_eq (g10658 _ (by omega))).trans ((fld_eq (g10649 _ (by omega))).trans ((fld_eq (g10640 _ (by omega))).trans ((fld_eq (g10629 _ (by omega))).trans f10622)))))))))))))))))))))))))))))) ?_
  refine m_iload_n F rfl e_X10_takeText_63 ?_
  refine m_aload_n F rfl e_X10_takeText_64 ?_
  refine r_getC F e_X10_takeText_65 fl_X10_22 h10881 ((fld_eq (g10882 _ (by omega))).trans ((fld_eq (g10874 _ (by omega))).trans ((fld_eq (g10866 _ (by omega))).trans ((fld_eq (g10858 _ (by omega))).trans ((fld_eq (g10849 _ (by omega))).trans ((fld_eq (g10840 _ (by omega))).trans ((fld_eq (g10832 _ (by omega))).trans ((fld_eq (g10824 _ (by omega))).trans ((fld_eq (g10816 _ (by omega))).trans ((fld_eq (g10806 _ (by omega))).trans ((fld_eq (g10797 _ (by omega))).trans ((fld_eq (g10789 _ (by omega))).trans ((fld_eq (g10781 _ (by omega))).trans ((fld_eq (g10773 _ (by omega))).trans ((fld_eq (g10764 _ (by omega))).trans ((fld_eq (g10755 _ (by omega))).trans ((fld_eq (g10747 _ (by omega))).trans ((fld_eq (g10739 _ (by omega))).trans ((fld_eq (g10731 _ (by omega))).trans ((fld_eq (g10721 _ (by omega))).trans ((fld_eq (g10712 _ (by omega))).trans ((fld_eq (g10704 _ (by omega))).trans ((fld_eq (g10696 _ (by omega))).trans ((fld_eq (g10687 _ (by omega))).trans ((fld_eq (g10677 _ (by omega))).trans ((fld_eq (g10667 _ (by omega))).trans ((fld_eq (g10658 _ (by omega))).trans ((fld_eq (g10649 _ (by omega))).trans ((fld_eq (g10640 _ (by omega))).trans ((fld_eq (g10629 _ (by omega))).trans f10622)))))))))))))))))))))))))))))) ?_
  refine m_iconst F (v := 4) (by decide) e_X10_takeText_68 ?_
  refine m_iload_n F rfl e_X10_takeText_69 ?_
  refine m_iadd F e_X10_takeText_70 ?_
  refine Wm.topE (w := 7) (by decide) ?_
  refine r_iald F (len := 8) (j := 7) e_X10_takeText_71 h10881 (fun _ h => h) (by decide) (by decide) (by unfold vp_in; decide) (fun x10885 h10886 f10887 => ?_)
  obtain ⟨n10888, hn10888, rfl, pn10888, rn10888⟩ := h10886
  refine r_iast F (g' := (⟨T, Z, u, h, (mkP P10809.n0 P10809.n2 P10809.n5 P10809.n7 (min 4 P10809.m5) P10809.m5 P10809.w2 P10809.w7 P10809.kk P10809.a), L⟩ : RG)) (len := 8) (j := 3) e_X10_takeText_72 h10881 (fun _ h => h) (fun f h => ⟨f, rfl, h⟩) (by decide) (by decide) (by decide) (by unfold vp_in; decide) ⟨n10888, by omega, rfl, fun _ h8 => rn10888 (by omega) (show 7 < 4 + P10809.m5 by have h6 : 3 < min 4 P10809.m5 := h8; omega), fun h7 _ => absurd h7 (by omega)⟩ (fun i hi y hy => by obtain ⟨n9, a9, b9, c9, d9⟩ := hy; exact ⟨n9, a9, b9, fun h7 h8 => c9 h7 (show i < P10809.m0 by have h6 : i < min 4 P10809.m5 := h8; omega), d9⟩) (CR.chg (by intro k hk i x h; unfold EI at h ⊢; split at h <;> first | exact h | exact absurd rfl hk | trivial) rfl rfl) (fun σ10889 h10890 g10891 f10892 g10893 => ?_)
  obtain ⟨P10894, eP10894⟩ : ∃ P9, P9 = (mkP P10809.n0 P10809.n2 P10809.n5 P10809.n7 (min 4 P10809.m5) P10809.m5 P10809.w2 P10809.w7 P10809.kk P10809.a) := ⟨_, rfl⟩
  rw [← eP10894] at h10890
  have fP10894 : P10894.n0 = P10809.n0 ∧ P10894.n2 = P10809.n2 ∧ P10894.n5 = P10809.n5 ∧ P10894.n7 = P10809.n7 ∧ P10894.m0 = min 4 P10809.m5 ∧ P10894.m5 = P10809.m5 ∧ P10894.w2 = P10809.w2 ∧ P10894.w7 = P10809.w7 ∧ P10894.kk = P10809.kk ∧ P10894.a = P10809.a := by rw [eP10894]; exact ⟨rfl, rfl, rfl, rfl, rfl, rfl, rfl, rfl, rfl, rfl⟩
  refine m_aload_n F rfl e_X10_takeText_73 ?_
  refine r_getC F e_X10_takeText_74 fl_X10_25 h10890 ((fld_eq (g10891 _ (by omega))).trans ((fld_eq (g10882 _ (by omega))).trans ((fld_eq (g10874 _ (by omega))).trans ((fld_eq (g10866 _ (by omega))).trans ((fld_eq (g10858 _ (by omega))).trans ((fld_eq (g10849 _ (by omega))).trans ((fld_eq (g10840 _ (by omega))).trans ((fld_eq (g10832 _ (by omega))).trans ((fld_eq (g10824 _ (by omega))).trans ((fld_eq (g10816 _ (by omega))).trans ((fld_eq (g10806 _ (by omega))).trans ((fld_eq (g10797 _ (by omega))).trans ((fld_eq (g10789 _ (by omega))).trans ((fld_eq (g10781 _ (by omega))).trans ((fld_eq (g10773 _ (by omega))).trans ((fld_eq (g10764 _ (by omega))).trans ((fld_eq (g10755 _ (by omega))).trans ((fld_eq (g10747 _ (by omega))).trans ((fld_eq (g10739 _ (by omega))).trans ((fld_eq (g10731 _ (by omega))).trans ((fld_eq (g10721 _ (by omega))).trans ((fld_eq (g10712 _ (by omega))).trans ((fld_eq (g10704 _ (by omega))).trans ((fld_eq (g10696 _ (by omega))).trans ((fld_eq (g10687 _ (by omega))).trans ((fld_eq (g10677 _ (by omega))).trans ((fld_eq (g10667 _ (by omega))).trans ((fld_eq (g10658 _ (by omega))).trans ((fld_eq (g10649 _ (by omega))).trans ((fld_eq (g10640 _ (by omega))).trans f10633)))))))))))))))))))))))))))))) ?_
  refine m_iload_n F rfl e_X10_takeText_77 ?_
  refine m_aload_n F rfl e_X10_takeText_78 ?_
  refine r_getC F e_X10_takeText_79 fl_X10_25 h10890 ((fld_eq (g10891 _ (by omega))).trans ((fld_eq (g10882 _ (by omega))).trans ((fld_eq (g10874 _ (by omega))).trans ((fld_eq (g10866 _ (by omega))).trans ((fld_eq (g10858 _ (by omega))).trans ((fld_eq (g10849 _ (by omega))).trans ((fld_eq (g10840 _ (by omega))).trans ((fld_eq (g10832 _ (by omega))).trans ((fld_eq (g10824 _ (by omega))).trans ((fld_eq (g10816 _ (by omega))).trans ((fld_eq (g10806 _ (by omega))).trans ((fld_eq (g10797 _ (by omega))).trans ((fld_eq (g10789 _ (by omega))).trans ((fld_eq (g10781 _ (by omega))).trans ((fld_eq (g10773 _ (by omega))).trans ((fld_eq (g10764 _ (by omega))).trans ((fld_eq (g10755 _ (by omega))).trans ((fld_eq (g10747 _ (by omega))).trans ((fld_eq (g10739 _ (by omega))).trans ((fld_eq (g10731 _ (by omega))).trans ((fld_eq (g10721 _ (by omega))).trans ((fld_eq (g10712 _ (by omega))).trans ((fld_eq (g10704 _ (by omega))).trans ((fld_eq (g10696 _ (by omega))).trans ((fld_eq (g10687 _ (by omega))).trans ((fld_eq (g10677 _ (by omega))).trans ((fld_eq (g10667 _ (by omega))).trans ((fld_eq (g10658 _ (by omega))).trans ((fld_eq (g10649 _ (by omega))).trans ((fld_eq (g10640 _ (by omega))).trans f10633)))))))))))))))))))))))))))))) ?_
  refine m_iconst F (v := 4) (by decide) e_X10_takeText_82 ?_
  refine m_iload_n F rfl e_X10_takeText_83 ?_
  refine m_iadd F e_X10_takeText_84 ?_
  refine Wm.topE (w := 7) (by decide) ?_
  refine r_iald F (len := 8) (j := 7) e_X10_takeText_85 h10890 (fun _ h => h) (by decide) (by decide) (by unfold vp_in; decide) (fun x10895 h10896 f10897 => ?_)
  obtain ⟨n10898, hn10898, rfl⟩ := h10896
  refine r_iast F (g' := (⟨T, Z, u, h, P10894, L⟩ : RG)) (len := 8) (j := 3) e_X10_takeText_86 h10890 (fun _ h => h) (fun f h => ⟨f, rfl, h⟩) (by decide) (by decide) (by decide) (by unfold vp_in; decide) ⟨n10898, by omega, rfl⟩ (fun _ _ _ h => h) (fun _ _ _ h => h) (fun σ10899 h10900 g10901 f10902 g10903 => ?_)
  refine m_aload_n F rfl e_X10_takeText_87 ?_
  refine r_getC F e_X10_takeText_88 fl_X10_28 h10900 ((fld_eq (g10901 _ (by omega))).trans ((fld_eq (g10891 _ (by omega))).trans ((fld_eq (g10882 _ (by omega))).trans ((fld_eq (g10874 _ (by omega))).trans ((fld_eq (g10866 _ (by omega))).trans ((fld_eq (g10858 _ (by omega))).trans ((fld_eq (g10849 _ (by omega))).trans ((fld_eq (g10840 _ (by omega))).trans ((fld_eq (g10832 _ (by omega))).trans ((fld_eq (g10824 _ (by omega))).trans ((fld_eq (g10816 _ (by omega))).trans ((fld_eq (g10806 _ (by omega))).trans ((fld_eq (g10797 _ (by omega))).trans ((fld_eq (g10789 _ (by omega))).trans ((fld_eq (g10781 _ (by omega))).trans ((fld_eq (g10773 _ (by omega))).trans ((fld_eq (g10764 _ (by omega))).trans ((fld_eq (g10755 _ (by omega))).trans ((fld_eq (g10747 _ (by omega))).trans ((fld_eq (g10739 _ (by omega))).trans ((fld_eq (g10731 _ (by omega))).trans ((fld_eq (g10721 _ (by omega))).trans ((fld_eq (g10712 _ (by omega))).trans ((fld_eq (g10704 _ (by omega))).trans ((fld_eq (g10696 _ (by omega))).trans ((fld_eq (g10687 _ (by omega))).trans ((fld_eq (g10677 _ (by omega))).trans ((fld_eq (g10667 _ (by omega))).trans ((fld_eq (g10658 _ (by omega))).trans ((fld_eq (g10649 _ (by omega))).trans f10643)))))))))))))))))))))))))))))) ?_
  refine m_iload_n F rfl e_X10_takeText_91 ?_
  refine m_aload_n F rfl e_X10_takeText_92 ?_
  refine r_getC F e_X10_takeText_93 fl_X10_28 h10900 ((fld_eq (g10901 _ (by omega))).trans ((fld_eq (g10891 _ (by omega))).trans ((fld_eq (g10882 _ (by omega))).trans ((fld_eq (g10874 _ (by omega))).trans ((fld_eq (g10866 _ (by omega))).trans ((fld_eq (g10858 _ (by omega))).trans ((fld_eq (g10849 _ (by omega))).trans ((fld_eq (g10840 _ (by omega))).trans ((fld_eq (g10832 _ (by omega))).trans ((fld_eq (g10824 _ (by omega))).trans ((fld_eq (g10816 _ (by omega))).trans ((fld_eq (g10806 _ (by omega))).trans ((fld_eq (g10797 _ (by omega))).trans ((fld_eq (g10789 _ (by omega))).trans ((fld_eq (g10781 _ (by omega))).trans ((fld_eq (g10773 _ (by omega))).trans ((fld_eq (g10764 _ (by omega))).trans ((fld_eq (g10755 _ (by omega))).trans ((fld_eq (g10747 _ (by omega))).trans ((fld_eq (g10739 _ (by omega))).trans ((fld_eq (g10731 _ (by omega))).trans ((fld_eq (g10721 _ (by omega))).trans ((fld_eq (g10712 _ (by omega))).trans ((fld_eq (g10704 _ (by omega))).trans ((fld_eq (g10696 _ (by omega))).trans ((fld_eq (g10687 _ (by omega))).trans ((fld_eq (g10677 _ (by omega))).trans ((fld_eq (g10667 _ (by omega))).trans ((fld_eq (g10658 _ (by omega))).trans ((fld_eq (g10649 _ (by omega))).trans f10643)))))))))))))))))))))))))))))) ?_
  refine m_iconst F (v := 4) (by decide) e_X10_takeText_96 ?_
  refine m_iload_n F rfl e_X10_takeText_97 ?_
  refine m_iadd F e_X10_takeText_98 ?_
  refine Wm.topE (w := 7) (by decide) ?_
  refine r_iald F (len := 8) (j := 7) e_X10_takeText_99 h10900 (fun _ h => h) (by decide) (by decide) (by unfold vp_in; decide) (fun x10904 h10905 f10906 => ?_)
  refine r_iast F (g' := (⟨T, Z, u, h, P10894, L⟩ : RG)) (len := 8) (j := 3) e_X10_takeText_100 h10900 (fun _ h => h) (fun f h => ⟨f, rfl, h⟩) (by decide) (by decide) (by decide) (by unfold vp_in; decide) trivial (fun _ _ _ h => h) (fun _ _ _ h => h) (fun σ10907 h10908 g10909 f10910 g10911 => ?_)
  refine m_aload_n F rfl e_X10_takeText_101 ?_
  refine r_getC F e_X10_takeText_102 fl_X10_31 h10908 ((fld_eq (g10909 _ (by omega))).trans ((fld_eq (g10901 _ (by omega))).trans ((fld_eq (g10891 _ (by omega))).trans ((fld_eq (g10882 _ (by omega))).trans ((fld_eq (g10874 _ (by omega))).trans ((fld_eq (g10866 _ (by omega))).trans ((fld_eq (g10858 _ (by omega))).trans ((fld_eq (g10849 _ (by omega))).trans ((fld_eq (g10840 _ (by omega))).trans ((fld_eq (g10832 _ (by omega))).trans ((fld_eq (g10824 _ (by omega))).trans ((fld_eq (g10816 _ (by omega))).trans ((fld_eq (g10806 _ (by omega))).trans ((fld_eq (g10797 _ (by omega))).trans ((fld_eq (g10789 _ (by omega))).trans ((fld_eq (g10781 _ (by omega))).trans ((fld_eq (g10773 _ (by omega))).trans ((fld_eq (g10764 _ (by omega))).trans ((fld_eq (g10755 _ (by omega))).trans ((fld_eq (g10747 _ (by omega))).trans ((fld_eq (g10739 _ (by omega))).trans ((fld_eq (g10731 _ (by omega))).trans ((fld_eq (g10721 _ (by omega))).trans ((fld_eq (g10712 _ (by omega))).trans ((fld_eq (g10704 _ (by omega))).trans ((fld_eq (g10696 _ (by omega))).trans ((fld_eq (g10687 _ (by omega))).trans ((fld_eq (g10677 _ (by omega))).trans ((fld_eq (g10667 _ (by omega))).trans ((fld_eq (g10658 _ (by omega))).trans f10652)))))))))))))))))))))))))))))) ?_
  refine m_iload_n F rfl e_X10_takeText_105 ?_
  refine m_aload_n F rfl e_X10_takeText_106 ?_
  refine r_getC F e_X10_takeText_107 fl_X10_31 h10908 ((fld_eq (g10909 _ (by omega))).trans ((fld_eq (g10901 _ (by omega))).trans ((fld_eq (g10891 _ (by omega))).trans ((fld_eq (g10882 _ (by omega))).trans ((fld_eq (g10874 _ (by omega))).trans ((fld_eq (g10866 _ (by omega))).trans ((fld_eq (g10858 _ (by omega))).trans ((fld_eq (g10849 _ (by omega))).trans ((fld_eq (g10840 _ (by omega))).trans ((fld_eq (g10832 _ (by omega))).trans ((fld_eq (g10824 _ (by omega))).trans ((fld_eq (g10816 _ (by omega))).trans ((fld_eq (g10806 _ (by omega))).trans ((fld_eq (g10797 _ (by omega))).trans ((fld_eq (g10789 _ (by omega))).trans ((fld_eq (g10781 _ (by omega))).trans ((fld_eq (g10773 _ (by omega))).trans ((fld_eq (g10764 _ (by omega))).trans ((fld_eq (g10755 _ (by omega))).trans ((fld_eq (g10747 _ (by omega))).trans ((fld_eq (g10739 _ (by omega))).trans ((fld_eq (g10731 _ (by omega))).trans ((fld_eq (g10721 _ (by omega))).trans ((fld_eq (g10712 _ (by omega))).trans ((fld_eq (g10704 _ (by omega))).trans ((fld_eq (g10696 _ (by omega))).trans ((fld_eq (g10687 _ (by omega))).trans ((fld_eq (g10677 _ (by omega))).trans ((fld_eq (g10667 _ (by omega))).trans ((fld_eq (g10658 _ (by omega))).trans f10652)))))))))))))))))))))))))))))) ?_
  refine m_iconst F (v := 4) (by decide) e_X10_takeText_110 ?_
  refine m_iload_n F rfl e_X10_takeText_111 ?_
  refine m_iadd F e_X10_takeText_112 ?_
  refine Wm.topE (w := 7) (by decide) ?_
  refine r_iald F (len := 8) (j := 7) e_X10_takeText_113 h10908 (fun _ h => h) (by decide) (by decide) (by unfold vp_in; decide) (fun x10912 h10913 f10914 => ?_)
  refine r_iast F (g' := (⟨T, Z, u, h, P10894, L⟩ : RG)) (len := 8) (j := 3) e_X10_takeText_114 h10908 (fun _ h => h) (fun f h => ⟨f, rfl, h⟩) (by decide) (by decide) (by decide) (by unfold vp_in; decide) trivial (fun _ _ _ h => h) (fun _ _ _ h => h) (fun σ10915 h10916 g10917 f10918 g10919 => ?_)
  refine m_aload_n F rfl e_X10_takeText_115 ?_
  refine r_getC F e_X10_takeText_116 fl_X10_34 h10916 ((fld_eq (g10917 _ (by omega))).trans ((fld_eq (g10909 _ (by omega))).trans ((fld_eq (g10901 _ (by omega))).trans ((fld_eq (g10891 _ (by omega))).trans ((fld_eq (g10882 _ (by omega))).trans ((fld_eq (g10874 _ (by omega))).trans ((fld_eq (g10866 _ (by omega))).trans ((fld_eq (g10858 _ (by omega))).trans ((fld_eq (g10849 _ (by omega))).trans ((fld_eq (g10840 _ (by omega))).trans ((fld_eq (g10832 _ (by omega))).trans ((fld_eq (g10824 _ (by omega))).trans ((fld_eq (g10816 _ (by omega))).trans ((fld_eq (g10806 _ (by omega))).trans ((fld_eq (g10797 _ (by omega))).trans ((fld_eq (g10789 _ (by omega))).trans ((fld_eq (g10781 _ (by omega))).trans ((fld_eq (g10773 _ (by omega))).trans ((fld_eq (g10764 _ (by omega))).trans ((fld_eq (g10755 _ (by omega))).trans ((fld_eq (g10747 _ (by omega))).trans ((fld_eq (g10739 _ (by omega))).trans ((fld_eq (g10731 _ (by omega))).trans ((fld_eq (g10721 _ (by omega))).trans ((fld_eq (g10712 _ (by omega))).trans ((fld_eq (g10704 _ (by omega))).trans ((fld_eq (g10696 _ (by omega))).trans ((fld_eq (g10687 _ (by omega))).trans ((fld_eq (g10677 _ (by omega))).trans ((fld_eq (g10667 _ (by omega))).trans f10661)))))))))))))))))))))))))))))) ?_
  refine m_iload_n F rfl e_X10_takeText_119 ?_
  refine m_aload_n F rfl e_X10_takeText_120 ?_
  refine r_getC F e_X10_takeText_121 fl_X10_34 h10916 ((fld_eq (g10917 _ (by omega))).trans ((fld_eq (g10909 _ (by omega))).trans ((fld_eq (g10901 _ (by omega))).trans ((fld_eq (g10891 _ (by omega))).trans ((fld_eq (g10882 _ (by omega))).trans ((fld_eq (g10874 _ (by omega))).trans ((fld_eq (g10866 _ (by omega))).trans ((fld_eq (g10858 _ (by omega))).trans ((fld_eq (g10849 _ (by omega))).trans ((fld_eq (g10840 _ (by omega))).trans ((fld_eq (g10832 _ (by omega))).trans ((fld_eq (g10824 _ (by omega))).trans ((fld_eq (g10816 _ (by omega))).trans ((fld_eq (g10806 _ (by omega))).trans ((fld_eq (g10797 _ (by omega))).trans ((fld_eq (g10789 _ (by omega))).trans ((fld_eq (g10781 _ (by omega))).trans ((fld_eq (g10773 _ (by omega))).trans ((fld_eq (g10764 _ (by omega))).trans ((fld_eq (g10755 _ (by omega))).trans ((fld_eq (g10747 _ (by omega))).trans ((fld_eq (g10739 _ (by omega))).trans ((fld_eq (g10731 _ (by omega))).trans ((fld_eq (g10721 _ (by omega))).trans ((fld_eq (g10712 _ (by omega))).trans ((fld_eq (g10704 _ (by omega))).trans ((fld_eq (g10696 _ (by omega))).trans ((fld_eq (g10687 _ (by omega))).trans ((fld_eq (g10677 _ (by omega))).trans ((fld_eq (g10667 _ (by omega))).trans f10661)))))))))))))))))))))))))))))) ?_
  refine m_iconst F (v := 4) (by decide) e_X10_takeText_124 ?_
  refine m_iload_n F rfl e_X10_takeText_125 ?_
  refine m_iadd F e_X10_takeText_126 ?_
  refine Wm.topE (w := 7) (by decide) ?_
  refine r_iald F (len := 8) (j := 7) e_X10_takeText_127 h10916 (fun _ h => h) (by decide) (by decide) (by unfold vp_in; decide) (fun x10920 h10921 f10922 => ?_)
  refine r_iast F (g' := (⟨T, Z, u, h, P10894, L⟩ : RG)) (len := 8) (j := 3) e_X10_takeText_128 h10916 (fun _ h => h) (fun f h => ⟨f, rfl, h⟩) (by decide) (by decide) (by decide) (by unfold vp_in; decide) trivial (fun _ _ _ h => h) (fun _ _ _ h => h) (fun σ10923 h10924 g10925 f10926 g10927 => ?_)
  refine m_aload_n F rfl e_X10_takeText_129 ?_
  refine r_getC F e_X10_takeText_130 fl_X10_46 h10924 ((fld_eq (g10925 _ (by omega))).trans ((fld_eq (g10917 _ (by omega))).trans ((fld_eq (g10909 _ (by omega))).trans ((fld_eq (g10901 _ (by omega))).trans ((fld_eq (g10891 _ (by omega))).trans ((fld_eq (g10882 _ (by omega))).trans ((fld_eq (g10874 _ (by omega))).trans ((fld_eq (g10866 _ (by omega))).trans ((fld_eq (g10858 _ (by omega))).trans ((fld_eq (g10849 _ (by omega))).trans ((fld_eq (g10840 _ (by omega))).trans ((fld_eq (g10832 _ (by omega))).trans ((fld_eq (g10824 _ (by omega))).trans ((fld_eq (g10816 _ (by omega))).trans ((fld_eq (g10806 _ (by omega))).trans ((fld_eq (g10797 _ (by omega))).trans ((fld_eq (g10789 _ (by omega))).trans ((fld_eq (g10781 _ (by omega))).trans ((fld_eq (g10773 _ (by omega))).trans ((fld_eq (g10764 _ (by omega))).trans ((fld_eq (g10755 _ (by omega))).trans ((fld_eq (g10747 _ (by omega))).trans ((fld_eq (g10739 _ (by omega))).trans ((fld_eq (g10731 _ (by omega))).trans ((fld_eq (g10721 _ (by omega))).trans ((fld_eq (g10712 _ (by omega))).trans ((fld_eq (g10704 _ (by omega))).trans ((fld_eq (g10696 _ (by omega))).trans ((fld_eq (g10687 _ (by omega))).trans ((fld_eq (g10677 _ (by omega))).trans f10670)))))))))))))))))))))))))))))) ?_
  refine m_iload_n F rfl e_X10_takeText_133 ?_
  refine m_aload_n F rfl e_X10_takeText_134 ?_
  refine r_getC F e_X10_takeText_135 fl_X10_46 h10924 ((fld_eq (g10925 _ (by omega))).trans ((fld_eq (g10917 _ (by omega))).trans ((fld_eq (g10909 _ (by omega))).trans ((fld_eq (g10901 _ (by omega))).trans ((fld_eq (g10891 _ (by omega))).trans ((fld_eq (g10882 _ (by omega))).trans ((fld_eq (g10874 _ (by omega))).trans ((fld_eq (g10866 _ (by omega))).trans ((fld_eq (g10858 _ (by omega))).trans ((fld_eq (g10849 _ (by omega))).trans ((fld_eq (g10840 _ (by omega))).trans ((fld_eq (g10832 _ (by omega))).trans ((fld_eq (g10824 _ (by omega))).trans ((fld_eq (g10816 _ (by omega))).trans ((fld_eq (g10806 _ (by omega))).trans ((fld_eq (g10797 _ (by omega))).trans ((fld_eq (g10789 _ (by omega))).trans ((fld_eq (g10781 _ (by omega))).trans ((fld_eq (g10773 _ (by omega))).trans ((fld_eq (g10764 _ (by omega))).trans ((fld_eq (g10755 _ (by omega))).trans ((fld_eq (g10747 _ (by omega))).trans ((fld_eq (g10739 _ (by omega))).trans ((fld_eq (g10731 _ (by omega))).trans ((fld_eq (g10721 _ (by omega))).trans ((fld_eq (g10712 _ (by omega))).trans ((fld_eq (g10704 _ (by omega))).trans ((fld_eq (g10696 _ (by omega))).trans ((fld_eq (g10687 _ (by omega))).trans ((fld_eq (g10677 _ (by omega))).trans f10670)))))))))))))))))))))))))))))) ?_
  refine m_iconst F (v := 4) (by decide) e_X10_takeText_138 ?_
  refine m_iload_n F rfl e_X10_takeText_139 ?_
  refine m_iadd F e_X10_takeText_140 ?_
  refine Wm.topE (w := 7) (by decide) ?_
  refine r_iald F (len := 8) (j := 7) e_X10_takeText_141 h10924 (fun _ h => h) (by decide) (by decide) (by unfold vp_in; decide) (fun x10928 h10929 f10930 => ?_)
  obtain ⟨n10931, hn10931, rfl⟩ := h10929
  refine r_iast F (g' := (⟨T, Z, u, h, P10894, L⟩ : RG)) (len := 8) (j := 3) e_X10_takeText_142 h10924 (fun _ h => h) (fun f h => ⟨f, rfl, h⟩) (by decide) (by decide) (by decide) (by unfold vp_in; decide) ⟨n10931, by omega, rfl⟩ (fun _ _ _ h => h) (fun _ _ _ h => h) (fun σ10932 h10933 g10934 f10935 g10936 => ?_)
  refine m_aload_n F rfl e_X10_takeText_143 ?_
  refine r_getC F e_X10_takeText_144 fl_X10_49 h10933 ((fld_eq (g10934 _ (by omega))).trans ((fld_eq (g10925 _ (by omega))).trans ((fld_eq (g10917 _ (by omega))).trans ((fld_eq (g10909 _ (by omega))).trans ((fld_eq (g10901 _ (by omega))).trans ((fld_eq (g10891 _ (by omega))).trans ((fld_eq (g10882 _ (by omega))).trans ((fld_eq (g10874 _ (by omega))).trans ((fld_eq (g10866 _ (by omega))).trans ((fld_eq (g10858 _ (by omega))).trans ((fld_eq (g10849 _ (by omega))).trans ((fld_eq (g10840 _ (by omega))).trans ((fld_eq (g10832 _ (by omega))).trans ((fld_eq (g10824 _ (by omega))).trans ((fld_eq (g10816 _ (by omega))).trans ((fld_eq (g10806 _ (by omega))).trans ((fld_eq (g10797 _ (by omega))).trans ((fld_eq (g10789 _ (by omega))).trans ((fld_eq (g10781 _ (by omega))).trans ((fld_eq (g10773 _ (by omega))).trans ((fld_eq (g10764 _ (by omega))).trans ((fld_eq (g10755 _ (by omega))).trans ((fld_eq (g10747 _ (by omega))).trans ((fld_eq (g10739 _ (by omega))).trans ((fld_eq (g10731 _ (by omega))).trans ((fld_eq (g10721 _ (by omega))).trans ((fld_eq (g10712 _ (by omega))).trans ((fld_eq (g10704 _ (by omega))).trans ((fld_eq (g10696 _ (by omega))).trans ((fld_eq (g10687 _ (by omega))).trans f10680)))))))))))))))))))))))))))))) ?_
  refine m_iload_n F rfl e_X10_takeText_147 ?_
  refine m_aload_n F rfl e_X10_takeText_148 ?_
  refine r_getC F e_X10_takeText_149 fl_X10_49 h10933 ((fld_eq (g10934 _ (by omega))).trans ((fld_eq (g10925 _ (by omega))).trans ((fld_eq (g10917 _ (by omega))).trans ((fld_eq (g10909 _ (by omega))).trans ((fld_eq (g10901 _ (by omega))).trans ((fld_eq (g10891 _ (by omega))).trans ((fld_eq (g10882 _ (by omega))).trans ((fld_eq (g10874 _ (by omega))).trans ((fld_eq (g10866 _ (by omega))).trans ((fld_eq (g10858 _ (by omega))).trans ((fld_eq (g10849 _ (by omega))).trans ((fld_eq (g10840 _ (by omega))).trans ((fld_eq (g10832 _ (by omega))).trans ((fld_eq (g10824 _ (by omega))).trans ((fld_eq (g10816 _ (by omega))).trans ((fld_eq (g10806 _ (by omega))).trans ((fld_eq (g10797 _ (by omega))).trans ((fld_eq (g10789 _ (by omega))).trans ((fld_eq (g10781 _ (by omega))).trans ((fld_eq (g10773 _ (by omega))).trans ((fld_eq (g10764 _ (by omega))).trans ((fld_eq (g10755 _ (by omega))).trans ((fld_eq (g10747 _ (by omega))).trans ((fld_eq (g10739 _ (by omega))).trans ((fld_eq (g10731 _ (by omega))).trans ((fld_eq (g10721 _ (by omega))).trans ((fld_eq (g10712 _ (by omega))).trans ((fld_eq (g10704 _ (by omega))).trans ((fld_eq (g10696 _ (by omega))).trans ((fld_eq (g10687 _ (by omega))).trans f10680)))))))))))))))))))))))))))))) ?_
  refine m_iconst F (v := 4) (by decide) e_X10_takeText_152 ?_
  refine m_iload_n F rfl e_X10_takeText_153 ?_
  refine m_iadd F e_X10_takeText_154 ?_
  refine Wm.topE (w := 7) (by decide) ?_
  refine r_iald F (len := 8) (j := 7) e_X10_takeText_155 h10933 (fun _ h => h) (by decide) (by decide) (by unfold vp_in; decide) (fun x10937 h10938 f10939 => ?_)
  obtain ⟨n10940, hn10940, rfl⟩ := h10938
  refine r_iast F (g' := (⟨T, Z, u, h, P10894, L⟩ : RG)) (len := 8) (j := 3) e_X10_takeText_156 h10933 (fun _ h => h) (fun f h => ⟨f, rfl, h⟩) (by decide) (by decide) (by decide) (by unfold vp_in; decide) ⟨n10940, by omega, rfl⟩ (fun _ _ _ h => h) (fun _ _ _ h => h) (fun σ10941 h10942 g10943 f10944 g10945 => ?_)
  refine m_aload_n F rfl e_X10_takeText_157 ?_
  refine r_getC F e_X10_takeText_158 fl_X10_52 h10942 ((fld_eq (g10943 _ (by omega))).trans ((fld_eq (g10934 _ (by omega))).trans ((fld_eq (g10925 _ (by omega))).trans ((fld_eq (g10917 _ (by omega))).trans ((fld_eq (g10909 _ (by omega))).trans ((fld_eq (g10901 _ (by omega))).trans ((fld_eq (g10891 _ (by omega))).trans ((fld_eq (g10882 _ (by omega))).trans ((fld_eq (g10874 _ (by omega))).trans ((fld_eq (g10866 _ (by omega))).trans ((fld_eq (g10858 _ (by omega))).trans ((fld_eq (g10849 _ (by omega))).trans ((fld_eq (g10840 _ (by omega))).trans ((fld_eq (g10832 _ (by omega))).trans ((fld_eq (g10824 _ (by omega))).trans ((fld_eq (g10816 _ (by omega))).trans ((fld_eq (g10806 _ (by omega))).trans ((fld_eq (g10797 _ (by omega))).trans ((fld_eq (g10789 _ (by omega))).trans ((fld_eq (g10781 _ (by omega))).trans ((fld_eq (g10773 _ (by omega))).trans ((fld_eq (g10764 _ (by omega))).trans ((fld_eq (g10755 _ (by omega))).trans ((fld_eq (g10747 _ (by omega))).trans ((fld_eq (g10739 _ (by omega))).trans ((fld_eq (g10731 _ (by omega))).trans ((fld_eq (g10721 _ (by omega))).trans ((fld_eq (g10712 _ (by omega))).trans ((fld_eq (g10704 _ (by omega))).trans ((fld_eq (g10696 _ (by omega))).trans f10690)))))))))))))))))))))))))))))) ?_
  refine m_iload_n F rfl e_X10_takeText_161 ?_
  refine m_aload_n F rfl e_X10_takeText_162 ?_
  refine r_getC F e_X10_takeText_163 fl_X10_52 h10942 ((fld_eq (g10943 _ (by omega))).trans ((fld_eq (g10934 _ (by omega))).trans ((fld_eq (g10925 _ (by omega))).trans ((fld_eq (g10917 _ (by omega))).trans ((fld_eq (g10909 _ (by omega))).trans ((fld_eq (g10901 _ (by omega))).trans ((fld_eq (g10891 _ (by omega))).trans ((fld_eq (g10882 _ (by omega))).trans ((fld_eq (g10874 _ (by omega))).trans ((fld_eq (g10866 _ (by omega))).trans ((fld_eq (g10858 _ (by omega))).trans ((fld_eq (g10849 _ (by omega))).trans ((fld_eq (g10840 _ (by omega))).trans ((fld_eq (g10832 _ (by omega))).trans ((fld_eq (g10824 _ (by omega))).trans ((fld_eq (g10816 _ (by omega))).trans ((fld_eq (g10806 _ (by omega))).trans ((fld_eq (g10797 _ (by omega))).trans ((fld_eq (g10789 _ (by omega))).trans ((fld_eq (g10781 _ (by omega))).trans ((fld_eq (g10773 _ (by omega))).trans ((fld_eq (g10764 _ (by omega))).trans ((fld_eq (g10755 _ (by omega))).trans ((fld_eq (g10747 _ (by omega))).trans ((fld_eq (g10739 _ (by omega))).trans ((fld_eq (g10731 _ (by omega))).trans ((fld_eq (g10721 _ (by omega))).trans ((fld_eq (g10712 _ (by omega))).trans ((fld_eq (g10704 _ (by omega))).trans ((fld_eq (g10696 _ (by omega))).trans f10690)))))))))))))))))))))))))))))) ?_
  refine m_iconst F (v := 4) (by decide) e_X10_takeText_166 ?_
  refine m_iload_n F rfl e_X10_takeText_167 ?_
  refine m_iadd F e_X10_takeText_168 ?_
  refine Wm.topE (w := 7) (by decide) ?_
  refine r_iald F (len := 8) (j := 7) e_X10_takeText_169 h10942 (fun _ h => h) (by decide) (by decide) (by unfold vp_in; decide) (fun x10946 h10947 f10948 => ?_)
  refine r_iast F (g' := (⟨T, Z, u, h, P10894, L⟩ : RG)) (len := 8) (j := 3) e_X10_takeText_170 h10942 (fun _ h => h) (fun f h => ⟨f, rfl, h⟩) (by decide) (by decide) (by decide) (by unfold vp_in; decide) trivial (fun _ _ _ h => h) (fun _ _ _ h => h) (fun σ10949 h10950 g10951 f10952 g10953 => ?_)
  refine m_iinc F (v := 4) (lv' := [(1, .int 4), (0, .ref c)]) e_X10_takeText_171 rfl (by decide) (by decide) rfl ?_
  refine m_goto F e_X10_takeText_174 ?_
  refine m_iload_n F rfl e_X10_takeText_26 ?_
  refine m_iconst F (v := 4) (by decide) e_X10_takeText_27 ?_
  refine m_icmp_ge F e_X10_takeText_28 (fun _ => ?_) (fun q => absurd (by decide) q)
  refine m_iconst F (v := 0) (by decide) e_X10_takeText_177 ?_
  refine m_istore_n F (lv' := [(1, .int 0), (0, .ref c)]) e_X10_takeText_178 (by decide) rfl ?_
  refine Wm.lvsub (lv' := [(0, .ref c), (1, .int 0)]) ?_ [1, 0] rfl
  have oP10954 : OKP P10894 := by unfold OKP; omega
  exact lq_X10_takeText_179 F hQ hob hP  (192 - 0 + 1) 0 P10894 _ h10950 oP10954 (by unfold RT3; omega) (by omega) (Nat.lt_succ_self _)
set_option maxRecDepth 20000 in
theorem lq_X10_begins_142 {V : VX} {X : MX} {N : Nat} {σ : Mem} {c T Z u h : Nat} {P : NP} {L : Nat → LQ}   (F : Fx V X yX10_begins cX10_begins 4 none (rmd 3 0 0)) (hQ : Rt V X 0 0 N (fun r τ => ∃ L9, OKL P.n0 L9 ∧ HS V c (⟨T, Z, u, h, P, L9⟩ : RG) [0, 1, 2, 3, 4, 5, 6, 7, 8, 9, 10, 11, 12, 13, 14, 15, 16, 18, 19, 20, 21, 23] σ τ ∧ r = none)) (hob : OKB L) (hP : OKP P) (hp0 : P.n0 ≤ P.m0) (hp1 : P.n2 ≤ P.w2) {fuelO : Nat} (hO : ∀ (i : Nat) (L1 : Nat → LQ) (τ : Mem), HS V c (⟨T, Z, u, h, P, L1⟩ : RG) [0, 1, 2, 3, 4, 5, 6, 7, 8, 9, 10, 11, 12, 13, 14, 15, 16, 18, 19, 20, 21, 23] σ τ → OKL i L1 → (∀ l, l < 4 → (L1 l).1 = 0 ∧ (L1 l).2.2.1 = 0 ∧ (L1 l).2.2.2 = 0) ∧ i ≤ P.n0 → 4 - i < fuelO → Wm V X 4 N τ 0 0 96 [(0, .ref c), (1, .int (nI i))] []) : ∀ (fuel : Nat) (i : Nat) (k : Nat) (L1 : Nat → LQ) (τ : Mem), HS V c (⟨T, Z, u, h, P, L1⟩ : RG) [0, 1, 2, 3, 4, 5, 6, 7, 8, 9, 10, 11, 12, 13, 14, 15, 16, 18, 19, 20, 21, 23] σ τ → OKL (i + 1) L1 → i < P.n0 ∧ (∀ l, l < 4 → (L1 l).1 = 0 ∧ (L1 l).2.2.1 = 0 ∧ (L1 l).2.2.2 = 0) ∧ k ≤ 48 ∧ 4 - i ≤ fuelO → 48 - k < fuel → Wm V X 4 N τ 0 0 142 [(0, .ref c), (1, .int (nI i)), (2, .int (nI (160 * i))), (3, .int (nI k))] [] := by
  intro fuel
  induction fuel with
  | zero => intros; rename_i hm; exact absurd hm (Nat.not_lt_zero _)
  | succ fuel ih =>
    intro i k L1 τ h1 hok1 hi hm
    have hPP := hP
    unfold OKP at hPP
    refine m_iload_n F rfl e_X10_begins_142 ?_
    refine m_aload_n F rfl e_X10_begins_143 ?_
    refine r_get F e_X10_begins_144 fl_X10_22 h1 rfl (fun v hv f10955 => ?_)
    obtain rfl : v = .ref (c + 5) := hv
    refine m_iload_n F rfl e_X10_begins_147 ?_
    refine r_iald F (len := 8) (j := i) e_X10_begins_148 h1 (fun _ h => h) (by decide) (nI_clamp (by omega)) (vp_in_nI (by omega) (by decide)) (fun x10956 h10957 f10958 => ?_)
    obtain ⟨n10959, hn10959, rfl, pn10959, rn10959⟩ := h10957
    refine m_icmp_ge F e_X10_begins_149 (fun q149 => ?_) (fun q149 => ?_)
    · have c149 : k ≥ n10959 := (nI_leI (a := n10959) (b := k) (by omega) (by omega)).mp q149
      refine m_aload_n F rfl e_X10_begins_204 ?_
      refine r_get F e_X10_begins_205 fl_X10_31 h1 rfl (fun v hv f10960 => ?_)
      obtain rfl : v = .ref (c + 8) := hv
      refine m_iload_n F rfl e_X10_begins_208 ?_
      refine r_iald F (len := 8) (j := i) e_X10_begins_209 h1 (fun _ h => h) (by decide) (nI_clamp (by omega)) (vp_in_nI (by omega) (by decide)) (fun x10961 h10962 f10963 => ?_)
      refine m_if_ne F e_X10_begins_210 (fun q210 => ?_) (fun q210 => ?_)
      · refine m_aload_n F rfl e_X10_begins_218 ?_
        refine m_iload_n F rfl e_X10_begins_219 ?_
        refine m_iconst F (v := 1) (by decide) e_X10_begins_220 ?_
        refine m_aload_n F rfl e_X10_begins_221 ?_
        refine r_getC F e_X10_begins_222 fl_X10_31 h1 (f10960) ?_
        refine m_iload_n F rfl e_X10_begins_225 ?_
        refine r_iald F (len := 8) (j := i) e_X10_begins_226 h1 (fun _ h => h) (by decide) (nI_clamp (by omega)) (vp_in_nI (by omega) (by decide)) (fun x10964 h10965 f10966 => ?_)
        obtain rfl := Option.some.inj ((f10966).symm.trans (f10963))
        refine m_i2l F e_X10_begins_227 ?_
        refine Wm.topl (fun x10967 _ => ?_)
        refine r_callV F e_X10_begins_228 (q_X10_rateFor (x_l X) V c T Z u h P L1 _ _ i 1 x10967 h1.1 (hok1.b) hP (by omega) (by omega) (by first | omega | assumption | decide)) cb_X10_rateFor ml_X10_226 im_X10_rateFor se_X10_rateFor h1 rfl rfl (rest := []) rfl (Nat.le_of_ble_eq_true rfl) ⟨Nat.le_of_ble_eq_true rfl, Nat.le_of_ble_eq_true rfl⟩ ⟨Nat.le_of_ble_eq_true rfl, Nat.le_of_ble_eq_true rfl⟩ (fun r σ10968 hp => ?_)
        obtain ⟨h10969, c10971⟩ := hp
        have h10970 := HS.trans h1 h10969 (by decide)
        rcases c10971 with rfl | ⟨n10972, hn10972, rfl⟩
        · refine m_istore_n F (lv' := [(3, .int (-2)), (0, .ref c), (1, .int (nI i)), (2, .int (nI (160 * i)))]) e_X10_begins_231 (by decide) rfl ?_
          refine m_aload_n F rfl e_X10_begins_232 ?_
          refine r_get F e_X10_begins_233 fl_X10_75 h10970 rfl (fun v hv f10973 => ?_)
          obtain rfl : v = .ref (c + 21) := hv
          refine m_iload_n F rfl e_X10_begins_236 ?_
          refine m_iload_n F rfl e_X10_begins_237 ?_
          refine m_bipush F (v := (-2)) (by decide) e_X10_begins_238 ?_
          refine m_icmp_eq F e_X10_begins_240 (fun _ => ?_) (fun q => absurd (by decide) q)
          refine m_iconst F (v := 0) (by decide) e_X10_begins_247 ?_
          refine r_zast F (j := i) (m := 0) e_X10_begins_248 h10970 (nI_clamp (by omega)) (vp_in_nI (by omega) (by decide)) (by omega) (by decide) (fun σ10974 h10975 g10976 ezσ10974 => ?_)
          refine m_aload_n F rfl e_X10_begins_249 ?_
          refine r_getC F e_X10_begins_250 fl_X10_75 h10975 ((fld_eq (g10976 _ (by omega))).trans f10973) ?_
          refine m_iload_n F rfl e_X10_begins_253 ?_
          refine r_zald F (j := i) e_X10_begins_254 h10975 (nI_clamp (by omega)) (vp_in_nI (by omega) (by decide)) (fun n10977 hn10977 f10978 => ?_)
          have gn10977 := nI_inj (by omega) (by omega) (Option.some.inj ((f10978).symm.trans (ezσ10974)))
          refine m_if_eq F e_X10_begins_255 (fun q255 => ?_) (fun q255 => ?_)
          · have c255 : n10977 = 0 := (nI_eq (a := n10977) (b := 0) (by omega) (by omega)).mp q255
            refine m_iinc F (v := nI (i + 1)) (lv' := [(1, .int (nI (i + 1))), (3, .int (-2)), (0, .ref c), (2, .int (nI (160 * i)))]) e_X10_begins_268 rfl (nI_add i 1) (by decide) rfl ?_
            refine m_goto F e_X10_begins_271 ?_
            refine Wm.lvsub (lv' := [(0, .ref c), (1, .int (nI (i + 1)))]) ?_ [2, 0] rfl
            exact hO (i + 1) L1 _ h10975 hok1 ⟨hi.2.1, by omega⟩ (by omega)
          · have c255 : n10977 ≠ 0 := by have hh := mt (nI_eq (a := n10977) (b := 0) (by omega) (by omega)).mpr q255; omega
            exfalso; omega
        · refine m_istore_n F (lv' := [(3, .int (nI n10972)), (0, .ref c), (1, .int (nI i)), (2, .int (nI (160 * i)))]) e_X10_begins_231 (by decide) rfl ?_
          refine m_aload_n F rfl e_X10_begins_232 ?_
          refine r_get F e_X10_begins_233 fl_X10_75 h10970 rfl (fun v hv f10979 => ?_)
          obtain rfl : v = .ref (c + 21) := hv
          refine m_iload_n F rfl e_X10_begins_236 ?_
          refine m_iload_n F rfl e_X10_begins_237 ?_
          refine m_bipush F (v := (-2)) (by decide) e_X10_begins_238 ?_
          refine m_icmp_eq F e_X10_begins_240 (fun q240 => ?_) (fun q240 => ?_)
          · refine m_iconst F (v := 0) (by decide) e_X10_begins_247 ?_
            refine r_zast F (j := i) (m := 0) e_X10_begins_248 h10970 (nI_clamp (by omega)) (vp_in_nI (by omega) (by decide)) (by omega) (by decide) (fun σ10980 h10981 g10982 ezσ10980 => ?_)
            refine m_aload_n F rfl e_X10_begins_249 ?_
            refine r_getC F e_X10_begins_250 fl_X10_75 h10981 ((fld_eq (g10982 _ (by omega))).trans f10979) ?_
            refine m_iload_n F rfl e_X10_begins_253 ?_
            refine r_zald F (j := i) e_X10_begins_254 h10981 (nI_clamp (by omega)) (vp_in_nI (by omega) (by decide)) (fun n10983 hn10983 f10984 => ?_)
            have gn10983 := nI_inj (by omega) (by omega) (Option.some.inj ((f10984).symm.trans (ezσ10980)))
            refine m_if_eq F e_X10_begins_255 (fun q255 => ?_) (fun q255 => ?_)
            · have c255 : n10983 = 0 := (nI_eq (a := n10983) (b := 0) (by omega) (by omega)).mp q255
              refine m_iinc F (v := nI (i + 1)) (lv' := [(1, .int (nI (i + 1))), (3, .int (nI n10972)), (0, .ref c), (2, .int (nI (160 * i)))]) e_X10_begins_268 rfl (nI_add i 1) (by decide) rfl ?_
              refine m_goto F e_X10_begins_271 ?_
              refine Wm.lvsub (lv' := [(0, .ref c), (1, .int (nI (i + 1)))]) ?_ [2, 0] rfl
              exact hO (i + 1) L1 _ h10981 hok1 ⟨hi.2.1, by omega⟩ (by omega)
            · have c255 : n10983 ≠ 0 := by have hh := mt (nI_eq (a := n10983) (b := 0) (by omega) (by omega)).mpr q255; omega
              refine m_aload_n F rfl e_X10_begins_258 ?_
              refine r_get F e_X10_begins_259 fl_X10_59 h10981 rfl (fun v hv f10985 => ?_)
              obtain rfl : v = .ref (c + 16) := hv
              refine m_iload_n F rfl e_X10_begins_262 ?_
              refine m_iconst F (v := 2) (by decide) e_X10_begins_263 ?_
              refine m_iadd F e_X10_begins_264 ?_
              refine Wm.topE (w := nI (160 * i + 2)) (nI_add (160 * i) 2) ?_
              refine m_iload_n F rfl e_X10_begins_265 ?_
              refine m_i2l F e_X10_begins_266 ?_
              refine Wm.toplE (w := lN n10972) (nI_l (by omega)) ?_
              refine r_sst F (g' := (⟨T, Z, u, h, P, L1⟩ : RG)) (j := 160 * i + 2) e_X10_begins_267 h10981 (by decide) (nI_clamp (by omega)) (vp_in_nI (by omega) (by decide)) (fun f q => EJ_same ((EJ_l (l := i) (r := 2) (by omega) (by decide)).mpr ⟨n10972, by omega, rfl⟩) q) (fun _ _ _ q => q) (fun σ10986 h10987 g10988 => ?_)
              refine m_iinc F (v := nI (i + 1)) (lv' := [(1, .int (nI (i + 1))), (3, .int (nI n10972)), (0, .ref c), (2, .int (nI (160 * i)))]) e_X10_begins_268 rfl (nI_add i 1) (by decide) rfl ?_
              refine m_goto F e_X10_begins_271 ?_
              refine Wm.lvsub (lv' := [(0, .ref c), (1, .int (nI (i + 1)))]) ?_ [2, 0] rfl
              exact hO (i + 1) L1 _ h10987 hok1 ⟨hi.2.1, by omega⟩ (by omega)
          · refine m_iconst F (v := 1) (by decide) e_X10_begins_243 ?_
            refine m_goto F e_X10_begins_244 ?_
            refine r_zast F (j := i) (m := 1) e_X10_begins_248 h10970 (nI_clamp (by omega)) (vp_in_nI (by omega) (by decide)) (by omega) (by decide) (fun σ10989 h10990 g10991 ezσ10989 => ?_)
            refine m_aload_n F rfl e_X10_begins_249 ?_
            refine r_getC F e_X10_begins_250 fl_X10_75 h10990 ((fld_eq (g10991 _ (by omega))).trans f10979) ?_
            refine m_iload_n F rfl e_X10_begins_253 ?_
            refine r_zald F (j := i) e_X10_begins_254 h10990 (nI_clamp (by omega)) (vp_in_nI (by omega) (by decide)) (fun n10992 hn10992 f10993 => ?_)
            have gn10992 := nI_inj (by omega) (by omega) (Option.some.inj ((f10993).symm.trans (ezσ10989)))
            refine m_if_eq F e_X10_begins_255 (fun q255 => ?_) (fun q255 => ?_)
            · have c255 : n10992 = 0 := (nI_eq (a := n10992) (b := 0) (by omega) (by omega)).mp q255
              refine m_iinc F (v := nI (i + 1)) (lv' := [(1, .int (nI (i + 1))), (3, .int (nI n10972)), (0, .ref c), (2, .int (nI (160 * i)))]) e_X10_begins_268 rfl (nI_add i 1) (by decide) rfl ?_
              refine m_goto F e_X10_begins_271 ?_
              refine Wm.lvsub (lv' := [(0, .ref c), (1, .int (nI (i + 1)))]) ?_ [2, 0] rfl
              exact hO (i + 1) L1 _ h10990 hok1 ⟨hi.2.1, by omega⟩ (by omega)
            · have c255 : n10992 ≠ 0 := by have hh := mt (nI_eq (a := n10992) (b := 0) (by omega) (by omega)).mpr q255; omega
              refine m_aload_n F rfl e_X10_begins_258 ?_
              refine r_get F e_X10_begins_259 fl_X10_59 h10990 rfl (fun v hv f10994 => ?_)
              obtain rfl : v = .ref (c + 16) := hv
              refine m_iload_n F rfl e_X10_begins_262 ?_
              refine m_iconst F (v := 2) (by decide) e_X10_begins_263 ?_
              refine m_iadd F e_X10_begins_264 ?_
              refine Wm.topE (w := nI (160 * i + 2)) (nI_add (160 * i) 2) ?_
              refine m_iload_n F rfl e_X10_begins_265 ?_
              refine m_i2l F e_X10_begins_266 ?_
              refine Wm.toplE (w := lN n10972) (nI_l (by omega)) ?_
              refine r_sst F (g' := (⟨T, Z, u, h, P, L1⟩ : RG)) (j := 160 * i + 2) e_X10_begins_267 h10990 (by decide) (nI_clamp (by omega)) (vp_in_nI (by omega) (by decide)) (fun f q => EJ_same ((EJ_l (l := i) (r := 2) (by omega) (by decide)).mpr ⟨n10972, by omega, rfl⟩) q) (fun _ _ _ q => q) (fun σ10995 h10996 g10997 => ?_)
              refine m_iinc F (v := nI (i + 1)) (lv' := [(1, .int (nI (i + 1))), (3, .int (nI n10972)), (0, .ref c), (2, .int (nI (160 * i)))]) e_X10_begins_268 rfl (nI_add i 1) (by decide) rfl ?_
              refine m_goto F e_X10_begins_271 ?_
              refine Wm.lvsub (lv' := [(0, .ref c), (1, .int (nI (i + 1)))]) ?_ [2, 0] rfl
              exact hO (i + 1) L1 _ h10996 hok1 ⟨hi.2.1, by omega⟩ (by omega)
      · subst q210
        refine m_bipush F (v := (-2)) (by decide) e_X10_begins_213 ?_
        refine m_goto F e_X10_begins_215 ?_
        refine m_istore_n F (lv' := [(3, .int (-2)), (0, .ref c), (1, .int (nI i)), (2, .int (nI (160 * i)))]) e_X10_begins_231 (by decide) rfl ?_
        refine m_aload_n F rfl e_X10_begins_232 ?_
        refine r_get F e_X10_begins_233 fl_X10_75 h1 rfl (fun v hv f10998 => ?_)
        obtain rfl : v = .ref (c + 21) := hv
        refine m_iload_n F rfl e_X10_begins_236 ?_
        refine m_iload_n F rfl e_X10_begins_237 ?_
        refine m_bipush F (v := (-2)) (by decide) e_X10_begins_238 ?_
        refine m_icmp_eq F e_X10_begins_240 (fun _ => ?_) (fun q => absurd (by decide) q)
        refine m_iconst F (v := 0) (by decide) e_X10_begins_247 ?_
        refine r_zast F (j := i) (m := 0) e_X10_begins_248 h1 (nI_clamp (by omega)) (vp_in_nI (by omega) (by decide)) (by omega) (by decide) (fun σ10999 h11000 g11001 ezσ10999 => ?_)
        refine m_aload_n F rfl e_X10_begins_249 ?_
        refine r_getC F e_X10_begins_250 fl_X10_75 h11000 ((fld_eq (g11001 _ (by omega))).trans f10998) ?_
        refine m_iload_n F rfl e_X10_begins_253 ?_
        refine r_zald F (j := i) e_X10_begins_254 h11000 (nI_clamp (by omega)) (vp_in_nI (by omega) (by decide)) (fun n11002 hn11002 f11003 => ?_)
        have gn11002 := nI_inj (by omega) (by omega) (Option.some.inj ((f11003).symm.trans (ezσ10999)))
        refine m_if_eq F e_X10_begins_255 (fun q255 => ?_) (fun q255 => ?_)
        · have c255 : n11002 = 0 := (nI_eq (a := n11002) (b := 0) (by omega) (by omega)).mp q255
          refine m_iinc F (v := nI (i + 1)) (lv' := [(1, .int (nI (i + 1))), (3, .int (-2)), (0, .ref c), (2, .int (nI (160 * i)))]) e_X10_begins_268 rfl (nI_add i 1) (by decide) rfl ?_
          refine m_goto F e_X10_begins_271 ?_
          refine Wm.lvsub (lv' := [(0, .ref c), (1, .int (nI (i + 1)))]) ?_ [2, 0] rfl
          exact hO (i + 1) L1 _ h11000 hok1 ⟨hi.2.1, by omega⟩ (by omega)
        · have c255 : n11002 ≠ 0 := by have hh := mt (nI_eq (a := n11002) (b := 0) (by omega) (by omega)).mpr q255; omega
          exfalso; omega
    · have c149 : k < n10959 := by have hh := mt (nI_leI (a := n10959) (b := k) (by omega) (by omega)).mpr q149; omega
      refine m_aload_n F rfl e_X10_begins_152 ?_
      refine r_get F e_X10_begins_153 fl_X10_59 h1 rfl (fun v hv f11004 => ?_)
      obtain rfl : v = .ref (c + 16) := hv
      refine m_iload_n F rfl e_X10_begins_156 ?_
      refine m_bipush F (v := 13) (by decide) e_X10_begins_157 ?_
      refine m_iadd F e_X10_begins_159 ?_
      refine Wm.topE (w := nI (160 * i + 13)) (nI_add (160 * i) 13) ?_
      refine m_iload_n F rfl e_X10_begins_160 ?_
      refine m_iadd F e_X10_begins_161 ?_
      refine Wm.topE (w := nI ((160 * i + 13) + k)) (nI_add (160 * i + 13) k) ?_
      refine m_aload_n F rfl e_X10_begins_162 ?_
      refine r_get F e_X10_begins_163 fl_X10_37 h1 rfl (fun v hv f11005 => ?_)
      obtain rfl : v = .ref (c + 10) := hv
      refine m_bipush F (v := 48) (by decide) e_X10_begins_166 ?_
      refine m_iload_n F rfl e_X10_begins_168 ?_
      refine m_imul F e_X10_begins_169 ?_
      refine Wm.topE (w := nI (48 * i)) (pk_mul 48 i) ?_
      refine m_iload_n F rfl e_X10_begins_170 ?_
      refine m_iadd F e_X10_begins_171 ?_
      refine Wm.topE (w := nI ((48 * i) + k)) (nI_add (48 * i) k) ?_
      refine r_iald F (len := 384) (j := (48 * i) + k) e_X10_begins_172 h1 (fun _ h => h) (by decide) (nI_clamp (by omega)) (vp_in_nI (by omega) (by decide)) (fun x11006 h11007 f11008 => ?_)
      refine m_i2l F e_X10_begins_173 ?_
      refine Wm.topl (fun x11009 _ => ?_)
      refine r_sst F (g' := (⟨T, Z, u, h, P, L1⟩ : RG)) (j := (160 * i + 13) + k) e_X10_begins_174 h1 (by decide) (nI_clamp (by omega)) (vp_in_nI (by omega) (by decide)) (fun f q => EJ_same (EJ_lw (l := i) (r := ((160 * i + 13) + k) - 160 * i) (by omega) (by omega) (by omega)) q) (fun _ _ _ q => q) (fun σ11010 h11011 g11012 => ?_)
      refine m_aload_n F rfl e_X10_begins_175 ?_
      refine r_getC F e_X10_begins_176 fl_X10_59 h11011 ((fld_eq (g11012 _ (by omega))).trans f11004) ?_
      refine m_iload_n F rfl e_X10_begins_179 ?_
      refine m_bipush F (v := 85) (by decide) e_X10_begins_180 ?_
      refine m_iadd F e_X10_begins_182 ?_
      refine Wm.topE (w := nI (160 * i + 85)) (nI_add (160 * i) 85) ?_
      refine m_iload_n F rfl e_X10_begins_183 ?_
      refine m_iadd F e_X10_begins_184 ?_
      refine Wm.topE (w := nI ((160 * i + 85) + k)) (nI_add (160 * i + 85) k) ?_
      refine m_aload_n F rfl e_X10_begins_185 ?_
      refine r_getC F e_X10_begins_186 fl_X10_37 h11011 ((fld_eq (g11012 _ (by omega))).trans f11005) ?_
      refine m_bipush F (v := 48) (by decide) e_X10_begins_189 ?_
      refine m_iload_n F rfl e_X10_begins_191 ?_
      refine m_imul F e_X10_begins_192 ?_
      refine Wm.topE (w := nI (48 * i)) (pk_mul 48 i) ?_
      refine m_iload_n F rfl e_X10_begins_193 ?_
      refine m_iadd F e_X10_begins_194 ?_
      refine Wm.topE (w := nI ((48 * i) + k)) (nI_add (48 * i) k) ?_
      refine r_iald F (len := 384) (j := (48 * i) + k) e_X10_begins_195 h11011 (fun _ h => h) (by decide) (nI_clamp (by omega)) (vp_in_nI (by omega) (by decide)) (fun x11013 h11014 f11015 => ?_)
      obtain rfl := Option.some.inj ((f11015).symm.trans ((elI_eq (g11012 _ (by omega))).trans f11008))
      refine m_i2l F e_X10_begins_196 ?_
      refine Wm.topl (fun x11016 _ => ?_)
      refine r_sst F (g' := (⟨T, Z, u, h, P, L1⟩ : RG)) (j := (160 * i + 85) + k) e_X10_begins_197 h11011 (by decide) (nI_clamp (by omega)) (vp_in_nI (by omega) (by decide)) (fun f q => EJ_same (EJ_lw (l := i) (r := ((160 * i + 85) + k) - 160 * i) (by omega) (by omega) (by omega)) q) (fun _ _ _ q => q) (fun σ11017 h11018 g11019 => ?_)
      refine m_iinc F (v := nI (k + 1)) (lv' := [(3, .int (nI (k + 1))), (0, .ref c), (1, .int (nI i)), (2, .int (nI (160 * i)))]) e_X10_begins_198 rfl (nI_add k 1) (by decide) rfl ?_
      refine m_goto F e_X10_begins_201 ?_
      refine Wm.lvsub (lv' := [(0, .ref c), (1, .int (nI i)), (2, .int (nI (160 * i))), (3, .int (nI (k + 1)))]) ?_ [1, 2, 3, 0] rfl
      exact ih i (k + 1) L1 _ h11018 hok1 ⟨by omega, hi.2.1, by omega, by omega⟩ (by omega)
set_option maxRecDepth 20000 in
theorem lq_X10_begins_96 {V : VX} {X : MX} {N : Nat} {σ : Mem} {c T Z u h : Nat} {P : NP} {L : Nat → LQ}   (F : Fx V X yX10_begins cX10_begins 4 none (rmd 3 0 0)) (hQ : Rt V X 0 0 N (fun r τ => ∃ L9, OKL P.n0 L9 ∧ HS V c (⟨T, Z, u, h, P, L9⟩ : RG) [0, 1, 2, 3, 4, 5, 6, 7, 8, 9, 10, 11, 12, 13, 14, 15, 16, 18, 19, 20, 21, 23] σ τ ∧ r = none)) (hob : OKB L) (hP : OKP P) (hp0 : P.n0 ≤ P.m0) (hp1 : P.n2 ≤ P.w2)  : ∀ (fuel : Nat) (i : Nat) (L1 : Nat → LQ) (τ : Mem), HS V c (⟨T, Z, u, h, P, L1⟩ : RG) [0, 1, 2, 3, 4, 5, 6, 7, 8, 9, 10, 11, 12, 13, 14, 15, 16, 18, 19, 20, 21, 23] σ τ → OKL i L1 → (∀ l, l < 4 → (L1 l).1 = 0 ∧ (L1 l).2.2.1 = 0 ∧ (L1 l).2.2.2 = 0) ∧ i ≤ P.n0 → 4 - i < fuel → Wm V X 4 N τ 0 0 96 [(0, .ref c), (1, .int (nI i))] [] := by
  intro fuel
  induction fuel with
  | zero => intros; rename_i hm; exact absurd hm (Nat.not_lt_zero _)
  | succ fuel ih =>
    intro i L1 τ h1 hok1 hi hm
    have hPP := hP
    unfold OKP at hPP
    refine m_iload_n F rfl e_X10_begins_96 ?_
    refine m_aload_n F rfl e_X10_begins_97 ?_
    refine r_callV F e_X10_begins_98 (q_X10_leases (x_l X) V c T Z u h P L1 _ _  h1.1 (hok1.b) hP ) cb_X10_leases ml_X10_221 im_X10_leases se_X10_leases h1 rfl rfl (rest := [.int (nI i)]) rfl (Nat.le_of_ble_eq_true rfl) ⟨Nat.le_of_ble_eq_true rfl, Nat.le_of_ble_eq_true rfl⟩ ⟨Nat.le_of_ble_eq_true rfl, Nat.le_of_ble_eq_true rfl⟩ (fun r σ11020 hp => ?_)
    obtain ⟨h11021, rfl⟩ := hp
    have h11022 := HS.trans h1 h11021 (by decide)
    refine m_icmp_ge F e_X10_begins_101 (fun q101 => ?_) (fun q101 => ?_)
    · have c101 : i ≥ P.n0 := (nI_leI (a := P.n0) (b := i) (by omega) (by omega)).mp q101
      have okf : OKL P.n0 L1 := by rw [show P.n0 = i by omega]; exact hok1
      have okf : OKL P.n0 L1 := by rw [show P.n0 = i by omega]; exact hok1
      exact m_vret F hQ e_X10_begins_274 (⟨L1, okf, h11022, rfl⟩)
    · have c101 : i < P.n0 := by have hh := mt (nI_leI (a := P.n0) (b := i) (by omega) (by omega)).mpr q101; omega
      refine m_sipush F (v := 160) (by decide) e_X10_begins_104 ?_
      refine m_iload_n F rfl e_X10_begins_107 ?_
      refine m_imul F e_X10_begins_108 ?_
      refine Wm.topE (w := nI (160 * i)) (pk_mul 160 i) ?_
      refine m_istore_n F (lv' := [(2, .int (nI (160 * i))), (0, .ref c), (1, .int (nI i))]) e_X10_begins_109 (by decide) rfl ?_
      refine m_aload_n F rfl e_X10_begins_110 ?_
      refine r_get F e_X10_begins_111 fl_X10_59 h11022 rfl (fun v hv f11023 => ?_)
      obtain rfl : v = .ref (c + 16) := hv
      refine m_iload_n F rfl e_X10_begins_114 ?_
      refine m_iconst F (v := 1) (by decide) e_X10_begins_115 ?_
      refine m_iadd F e_X10_begins_116 ?_
      refine Wm.topE (w := nI (160 * i + 1)) (nI_add (160 * i) 1) ?_
      refine m_aload_n F rfl e_X10_begins_117 ?_
      refine r_get F e_X10_begins_118 fl_X10_22 h11022 rfl (fun v hv f11024 => ?_)
      obtain rfl : v = .ref (c + 5) := hv
      refine m_iload_n F rfl e_X10_begins_121 ?_
      refine r_iald F (len := 8) (j := i) e_X10_begins_122 h11022 (fun _ h => h) (by decide) (nI_clamp (by omega)) (vp_in_nI (by omega) (by decide)) (fun x11025 h11026 f11027 => ?_)
      obtain ⟨n11028, hn11028, rfl, pn11028, rn11028⟩ := h11026
      refine m_i2l F e_X10_begins_123 ?_
      refine Wm.toplE (w := lN n11028) (nI_l (by omega)) ?_
      refine r_sst F (g' := (⟨T, Z, u, h, P, (updL L1 i ((L1 i).1, n11028, (L1 i).2.2.1, (L1 i).2.2.2))⟩ : RG)) (j := 160 * i + 1) e_X10_begins_124 h11022 (by decide) (nI_clamp (by omega)) (vp_in_nI (by omega) (by decide)) (fun f q => EJ_up (l := i) (r := 1) (by omega) (by decide) q rfl (by intro r' h1 h2 y hy; revert hy; unfold EL; split <;> simp_all)) CR.row (fun σ11029 h11030 g11031 => ?_)
      obtain ⟨L11032, eL11032⟩ : ∃ L9, L9 = (updL L1 i ((L1 i).1, n11028, (L1 i).2.2.1, (L1 i).2.2.2)) := ⟨_, rfl⟩
      rw [← eL11032] at h11030
      have fL11032 : L11032 i = ((L1 i).1, n11028, (L1 i).2.2.1, (L1 i).2.2.2) := by rw [eL11032]; exact if_pos rfl
      have fL110320 : (L11032 i).1 = (L1 i).1 := by rw [fL11032]
      have fL110321 : (L11032 i).2.1 = n11028 := by rw [fL11032]
      have fL110322 : (L11032 i).2.2.1 = (L1 i).2.2.1 := by rw [fL11032]
      have fL110323 : (L11032 i).2.2.2 = (L1 i).2.2.2 := by rw [fL11032]
      have oL11032 : ∀ i9, i9 ≠ i → L11032 i9 = L1 i9 := fun i9 hi9 => by rw [eL11032]; exact if_neg hi9
      have pL11032 : (L11032 4).1 = (L1 4).1 := by rw [oL11032 4 (by omega)]
      refine m_aload_n F rfl e_X10_begins_125 ?_
      refine r_getC F e_X10_begins_126 fl_X10_59 h11030 ((fld_eq (g11031 _ (by omega))).trans f11023) ?_
      refine m_iload_n F rfl e_X10_begins_129 ?_
      refine m_iconst F (v := 2) (by decide) e_X10_begins_130 ?_
      refine m_iadd F e_X10_begins_131 ?_
      refine Wm.topE (w := nI (160 * i + 2)) (nI_add (160 * i) 2) ?_
      refine m_aload_n F rfl e_X10_begins_132 ?_
      refine r_get F e_X10_begins_133 fl_X10_25 h11030 rfl (fun v hv f11033 => ?_)
      obtain rfl : v = .ref (c + 6) := hv
      refine m_iload_n F rfl e_X10_begins_136 ?_
      refine r_iald F (len := 8) (j := i) e_X10_begins_137 h11030 (fun _ h => h) (by decide) (nI_clamp (by omega)) (vp_in_nI (by omega) (by decide)) (fun x11034 h11035 f11036 => ?_)
      obtain ⟨n11037, hn11037, rfl⟩ := h11035
      refine m_i2l F e_X10_begins_138 ?_
      refine Wm.toplE (w := lN n11037) (nI_l (by omega)) ?_
      refine r_sst F (g' := (⟨T, Z, u, h, P, L11032⟩ : RG)) (j := 160 * i + 2) e_X10_begins_139 h11030 (by decide) (nI_clamp (by omega)) (vp_in_nI (by omega) (by decide)) (fun f q => EJ_same ((EJ_l (l := i) (r := 2) (by omega) (by decide)).mpr ⟨n11037, by omega, rfl⟩) q) (fun _ _ _ q => q) (fun σ11038 h11039 g11040 => ?_)
      refine m_iconst F (v := 0) (by decide) e_X10_begins_140 ?_
      refine m_istore_n F (lv' := [(3, .int 0), (2, .int (nI (160 * i))), (0, .ref c), (1, .int (nI i))]) e_X10_begins_141 (by decide) rfl ?_
      have hp9 : 1 ≤ n11028 := pn11028 (by omega) (show i < P.m0 by omega)
      have h9a := hok1.2 i (by omega)
      have h9b := hi.1 i (by omega)
      have okx : OKL (i + 1) L11032 := OKL.updS hok1 (by omega) (fun i9 hi9 => oL11032 i9 hi9) (by omega)
      have hz9 : ∀ l, l < 4 → (L11032 l).1 = 0 ∧ (L11032 l).2.2.1 = 0 ∧ (L11032 l).2.2.2 = 0 := by
        intro l hl
        by_cases e : l = i
        · subst e; omega
        · rw [oL11032 l e]; exact hi.1 l hl
      refine Wm.lvsub (lv' := [(0, .ref c), (1, .int (nI i)), (2, .int (nI (160 * i))), (3, .int 0)]) ?_ [2, 3, 1, 0] rfl
      exact lq_X10_begins_142 F hQ hob hP hp0 hp1 ih (48 - 0 + 1) i 0 L11032 _ h11039 okx ⟨by omega, hz9, by omega, by omega⟩ (Nat.lt_succ_self _)
set_option maxRecDepth 20000 in
theorem bg_45 {V : VX} {X : MX} {N : Nat} {σ : Mem} {c T Z u h : Nat} {P : NP} {L : Nat → LQ} (F : Fx V X yX10_begins cX10_begins 4 none (rmd 3 0 0)) (hQ : Rt V X 0 0 N (fun r τ => ∃ L9, OKL P.n0 L9 ∧ HS V c (⟨T, Z, u, h, P, L9⟩ : RG) [0, 1, 2, 3, 4, 5, 6, 7, 8, 9, 10, 11, 12, 13, 14, 15, 16, 18, 19, 20, 21, 23] σ τ ∧ r = none)) (h0 : HR V c ⟨T, Z, u, h, P, L⟩ σ) (hob : OKB L) (hP : OKP P) (hp0 : P.n0 ≤ P.m0) (hp1 : P.n2 ≤ P.w2) {fs : List Value} {fN fA fB : Nat → Int32} (e1 : σ c = some (ob 8 fs)) (e27 : fs[27]? = some (.ref (c + 16))) (e3 : fs[3]? = some (.ref (c + 2))) (e12 : fs[12]? = some (.ref (c + 11))) (e13 : fs[13]? = some (.ref (c + 12))) (eN : σ (c + 2) = some (aI V 10 fN)) (tN : fN 2 = nI P.n2) (eA : σ (c + 11) = some (aI V 16 fA)) (tA : ∀ i, i < 16 → bN 99 (fA i)) (eB : σ (c + 12) = some (aI V 16 fB)) (tB : ∀ i, i < 16 → EI P 13 i (fB i)) {fuelO : Nat} (hO : ∀ (p : Nat) (f : Nat → Int64) (τ : Mem), upto c 16 (aJ V 1113 f) σ τ → PZ p f → p ≤ 100 → 100 - p < fuelO → Wm V X 4 N τ 0 0 24 [(1, .int (nI p)), (0, .ref c)] []) : ∀ (fuel : Nat) (k p : Nat) (f : Nat → Int64) (τ : Mem), upto c 16 (aJ V 1113 f) σ τ → PZ (p + 1) f → p < 100 → 100 - p ≤ fuelO → k ≤ 8 → 8 - k < fuel → Wm V X 4 N τ 0 0 45 [(2, .int (nI k)), (1, .int (nI p)), (0, .ref c)] [] := by
  intro fuel
  induction fuel with
  | zero => intros; rename_i hm; exact absurd hm (Nat.not_lt_zero _)
  | succ fuel ih =>
    intro k p f τ hτ hz hp hf hk hm
    have hPP := hP
    unfold OKP at hPP
    refine m_iload_n F rfl e_X10_begins_45 ?_
    refine m_aload_n F rfl e_X10_begins_46 ?_
    refine m_get F e_X10_begins_47 fl_X10_13 ((hτ.2 c (by omega)).trans e1) e3 ?_
    refine m_iconst F (v := 2) (by decide) e_X10_begins_50 ?_
    refine m_iald F e_X10_begins_51 ((hτ.2 (c + 2) (by omega)).trans eN) (j := 2) (by decide) (by unfold vp_in; decide) ?_
    refine Wm.topE (w := nI P.n2) tN ?_
    refine m_icmp_ge F e_X10_begins_52 (fun q52 => ?_) (fun q52 => ?_)
    · have c52 : k ≥ P.n2 := (nI_leI (a := P.n2) (b := k) (by omega) (by omega)).mp q52
      refine m_iinc F (v := nI (p + 1)) (lv' := [(1, .int (nI (p + 1))), (2, .int (nI k)), (0, .ref c)]) e_X10_begins_88 rfl (nI_add p 1) (by decide) rfl ?_
      refine m_goto F e_X10_begins_91 ?_
      refine Wm.lvsub (lv' := [(1, .int (nI (p + 1))), (0, .ref c)]) ?_ [0, 2] rfl
      exact hO (p + 1) _ _ hτ hz (by omega) (by omega)
    · have c52 : k < P.n2 := by have hh := mt (nI_leI (a := P.n2) (b := k) (by omega) (by omega)).mpr q52; omega
      refine m_aload_n F rfl e_X10_begins_55 ?_
      refine m_get F e_X10_begins_56 fl_X10_40 ((hτ.2 c (by omega)).trans e1) e12 ?_
      refine m_iload_n F rfl e_X10_begins_59 ?_
      refine m_iald F e_X10_begins_60 ((hτ.2 (c + 11) (by omega)).trans eA) (j := k) (nI_clamp (by omega)) (vp_in_nI (by omega) (by decide)) ?_
      obtain ⟨na, ha, ea⟩ := tA k (by omega)
      refine Wm.topE (w := nI na) ea ?_
      refine m_iload_n F rfl e_X10_begins_61 ?_
      refine m_icmp_gt F e_X10_begins_62 (fun q62 => ?_) (fun q62 => ?_)
      · have c62 : na > p := (nI_ltI (a := p) (b := na) (by omega) (by omega)).mp q62
        refine m_iinc F (v := nI (k + 1)) (lv' := [(2, .int (nI (k + 1))), (1, .int (nI p)), (0, .ref c)]) e_X10_begins_82 rfl (nI_add k 1) (by decide) rfl ?_
        refine m_goto F e_X10_begins_85 ?_
        exact ih (k + 1) p _ _ hτ hz hp hf (by omega) (by omega)
      · have c62 : na ≤ p := by have hh := mt (nI_ltI (a := p) (b := na) (by omega) (by omega)).mpr q62; omega
        refine m_aload_n F rfl e_X10_begins_65 ?_
        refine m_get F e_X10_begins_66 fl_X10_59 ((hτ.2 c (by omega)).trans e1) e27 ?_
        refine m_sipush F (v := 644) (by decide) e_X10_begins_69 ?_
        refine m_iload_n F rfl e_X10_begins_72 ?_
        refine m_iadd F e_X10_begins_73 ?_
        refine Wm.topE (w := nI (644 + p)) (nI_add 644 p) ?_
        refine m_aload_n F rfl e_X10_begins_74 ?_
        refine m_get F e_X10_begins_75 fl_X10_43 ((hτ.2 c (by omega)).trans e1) e13 ?_
        refine m_iload_n F rfl e_X10_begins_78 ?_
        refine m_iald F e_X10_begins_79 ((hτ.2 (c + 12) (by omega)).trans eB) (j := k) (nI_clamp (by omega)) (vp_in_nI (by omega) (by decide)) ?_
        obtain ⟨nb, hb, eb, pb, rb⟩ := tB k (by omega)
        have hb9 := pb (by omega) (show k < P.w2 by omega)
        refine Wm.topE (w := nI nb) eb ?_
        refine m_i2l F e_X10_begins_80 ?_
        refine Wm.toplE (w := lN nb) (nI_l (by omega)) ?_
        refine m_last F e_X10_begins_81 hτ.1 (j := 644 + p) (nI_clamp (by omega)) (vp_in_nI (by omega) (by decide)) rfl rfl ?_
        have hτ2 := va_upto (e' := aJ V 1113 (vp_updL f (644 + p) (lN nb))) hτ
        refine m_iinc F (v := nI (k + 1)) (lv' := [(2, .int (nI (k + 1))), (1, .int (nI p)), (0, .ref c)]) e_X10_begins_82 rfl (nI_add k 1) (by decide) rfl ?_
        refine m_goto F e_X10_begins_85 ?_
        exact ih (k + 1) p _ _ hτ2 (PZ.put2 hz (by omega) ⟨by omega, by omega⟩) hp hf (by omega) (by omega)
set_option maxRecDepth 20000 in
theorem bg_24 {V : VX} {X : MX} {N : Nat} {σ : Mem} {c T Z u h : Nat} {P : NP} {L : Nat → LQ} (F : Fx V X yX10_begins cX10_begins 4 none (rmd 3 0 0)) (hQ : Rt V X 0 0 N (fun r τ => ∃ L9, OKL P.n0 L9 ∧ HS V c (⟨T, Z, u, h, P, L9⟩ : RG) [0, 1, 2, 3, 4, 5, 6, 7, 8, 9, 10, 11, 12, 13, 14, 15, 16, 18, 19, 20, 21, 23] σ τ ∧ r = none)) (h0 : HR V c ⟨T, Z, u, h, P, L⟩ σ) (hob : OKB L) (hP : OKP P) (hp0 : P.n0 ≤ P.m0) (hp1 : P.n2 ≤ P.w2) {fs : List Value} {fN fA fB : Nat → Int32} (e1 : σ c = some (ob 8 fs)) (e27 : fs[27]? = some (.ref (c + 16))) (e3 : fs[3]? = some (.ref (c + 2))) (e12 : fs[12]? = some (.ref (c + 11))) (e13 : fs[13]? = some (.ref (c + 12))) (eN : σ (c + 2) = some (aI V 10 fN)) (tN : fN 2 = nI P.n2) (eA : σ (c + 11) = some (aI V 16 fA)) (tA : ∀ i, i < 16 → bN 99 (fA i)) (eB : σ (c + 12) = some (aI V 16 fB)) (tB : ∀ i, i < 16 → EI P 13 i (fB i))  : ∀ (fuel : Nat) (p : Nat) (f : Nat → Int64) (τ : Mem), upto c 16 (aJ V 1113 f) σ τ → PZ p f → p ≤ 100 → 100 - p < fuel → Wm V X 4 N τ 0 0 24 [(1, .int (nI p)), (0, .ref c)] [] := by
  intro fuel
  induction fuel with
  | zero => intros; rename_i hm; exact absurd hm (Nat.not_lt_zero _)
  | succ fuel ih =>
    intro p f τ hτ hz hp hm
    have hPP := hP
    unfold OKP at hPP
    refine m_iload_n F rfl e_X10_begins_24 ?_
    refine m_bipush F (v := 99) (by decide) e_X10_begins_25 ?_
    refine m_icmp_gt F e_X10_begins_27 (fun q27 => ?_) (fun q27 => ?_)
    · have c27 : p > 99 := (nI_ltI (a := 99) (b := p) (by omega) (by omega)).mp q27
      refine m_iconst F (v := 0) (by decide) e_X10_begins_94 ?_
      refine m_istore_n F (lv' := [(1, .int 0), (0, .ref c)]) e_X10_begins_95 (by decide) rfl ?_
      refine Wm.lvsub (lv' := [(0, .ref c), (1, .int 0)]) ?_ [1, 0] rfl
      have hpz : PZ 100 f := by rw [show 100 = p by omega]; exact hz
      have h1 : HS V c ⟨T, Z, u, h, P, L0⟩ [0, 1, 2, 3, 4, 5, 6, 7, 8, 9, 10, 11, 12, 13, 14, 15, 16, 18, 19, 20, 21, 23] σ τ := HS.cp (k := 16) (HS.start h0) hτ (by decide) (by decide) ⟨_, rfl, PZ.typed hpz⟩ CR.row
      exact lq_X10_begins_96 F hQ hob hP hp0 hp1 5 0 L0 _ h1 OKL.zero ⟨fun _ _ => ⟨rfl, rfl, rfl⟩, by omega⟩ (by omega)
    · have c27 : p ≤ 99 := by have hh := mt (nI_ltI (a := 99) (b := p) (by omega) (by omega)).mpr q27; omega
      refine m_aload_n F rfl e_X10_begins_30 ?_
      refine m_get F e_X10_begins_31 fl_X10_59 ((hτ.2 c (by omega)).trans e1) e27 ?_
      refine m_sipush F (v := 644) (by decide) e_X10_begins_34 ?_
      refine m_iload_n F rfl e_X10_begins_37 ?_
      refine m_iadd F e_X10_begins_38 ?_
      refine Wm.topE (w := nI (644 + p)) (nI_add 644 p) ?_
      refine m_ldc2 F kc_X10_224 e_X10_begins_39 ?_
      refine m_last F e_X10_begins_42 hτ.1 (j := 644 + p) (nI_clamp (by omega)) (vp_in_nI (by omega) (by decide)) rfl rfl ?_
      have hτ2 := va_upto (e' := aJ V 1113 (vp_updL f (644 + p) 1000)) hτ
      refine m_iconst F (v := 0) (by decide) e_X10_begins_43 ?_
      refine m_istore_n F (lv' := [(2, .int 0), (1, .int (nI p)), (0, .ref c)]) e_X10_begins_44 (by decide) rfl ?_
      exact bg_45 F hQ h0 hob hP hp0 hp1 e1 e27 e3 e12 e13 eN tN eA tA eB tB (fun p f τ => ih p f τ) 9 0 p _ _ hτ2 (PZ.put (m := 1000) hz (by omega) ⟨by omega, by omega⟩) (by omega) (by omega) (by omega) (by omega)
set_option maxRecDepth 20000 in
theorem bg_2 {V : VX} {X : MX} {N : Nat} {σ : Mem} {c T Z u h : Nat} {P : NP} {L : Nat → LQ} (F : Fx V X yX10_begins cX10_begins 4 none (rmd 3 0 0)) (hQ : Rt V X 0 0 N (fun r τ => ∃ L9, OKL P.n0 L9 ∧ HS V c (⟨T, Z, u, h, P, L9⟩ : RG) [0, 1, 2, 3, 4, 5, 6, 7, 8, 9, 10, 11, 12, 13, 14, 15, 16, 18, 19, 20, 21, 23] σ τ ∧ r = none)) (h0 : HR V c ⟨T, Z, u, h, P, L⟩ σ) (hob : OKB L) (hP : OKP P) (hp0 : P.n0 ≤ P.m0) (hp1 : P.n2 ≤ P.w2) {fs : List Value} {fN fA fB : Nat → Int32} (e1 : σ c = some (ob 8 fs)) (e27 : fs[27]? = some (.ref (c + 16))) (e3 : fs[3]? = some (.ref (c + 2))) (e12 : fs[12]? = some (.ref (c + 11))) (e13 : fs[13]? = some (.ref (c + 12))) (eN : σ (c + 2) = some (aI V 10 fN)) (tN : fN 2 = nI P.n2) (eA : σ (c + 11) = some (aI V 16 fA)) (tA : ∀ i, i < 16 → bN 99 (fA i)) (eB : σ (c + 12) = some (aI V 16 fB)) (tB : ∀ i, i < 16 → EI P 13 i (fB i))  : ∀ (fuel : Nat) (k : Nat) (f : Nat → Int64) (τ : Mem), upto c 16 (aJ V 1113 f) σ τ → ZF k f → k ≤ 1113 → 1113 - k < fuel → Wm V X 4 N τ 0 0 2 [(1, .int (nI k)), (0, .ref c)] [] := by
  intro fuel
  induction fuel with
  | zero => intros; rename_i hm; exact absurd hm (Nat.not_lt_zero _)
  | succ fuel ih =>
    intro k f τ hτ hz hk hm
    have hPP := hP
    unfold OKP at hPP
    refine m_iload_n F rfl e_X10_begins_2 ?_
    refine m_sipush F (v := 1113) (by decide) e_X10_begins_3 ?_
    refine m_icmp_ge F e_X10_begins_6 (fun q6 => ?_) (fun q6 => ?_)
    · have c6 : k ≥ 1113 := (nI_leI (a := 1113) (b := k) (by omega) (by omega)).mp q6
      refine m_iconst F (v := 0) (by decide) e_X10_begins_22 ?_
      refine m_istore_n F (lv' := [(1, .int 0), (0, .ref c)]) e_X10_begins_23 (by decide) rfl ?_
      exact bg_24 F hQ h0 hob hP hp0 hp1 e1 e27 e3 e12 e13 eN tN eA tA eB tB 101 0 _ _ hτ (PZ.zero (by rw [show 1113 = k by omega]; exact hz)) (by omega) (by omega)
    · have c6 : k < 1113 := by have hh := mt (nI_leI (a := 1113) (b := k) (by omega) (by omega)).mpr q6; omega
      refine m_aload_n F rfl e_X10_begins_9 ?_
      refine m_get F e_X10_begins_10 fl_X10_59 ((hτ.2 c (by omega)).trans e1) e27 ?_
      refine m_iload_n F rfl e_X10_begins_13 ?_
      refine m_lconst F (v := 0) (by decide) e_X10_begins_14 ?_
      refine m_last F e_X10_begins_15 hτ.1 (j := k) (nI_clamp (by omega)) (vp_in_nI (by omega) (by decide)) rfl rfl ?_
      have hτ2 := va_upto (e' := aJ V 1113 (vp_updL f (k) 0)) hτ
      refine m_iinc F (v := nI (k + 1)) (lv' := [(1, .int (nI (k + 1))), (0, .ref c)]) e_X10_begins_16 rfl (nI_add k 1) (by decide) rfl ?_
      refine m_goto F e_X10_begins_19 ?_
      exact ih (k + 1) _ _ hτ2 (ZF.put hz) (by omega) (by omega)
set_option maxRecDepth 20000 in
theorem bg_start {V : VX} {X : MX} {N : Nat} {σ : Mem} {c T Z u h : Nat} {P : NP} {L : Nat → LQ} (F : Fx V X yX10_begins cX10_begins 4 none (rmd 3 0 0)) (hQ : Rt V X 0 0 N (fun r τ => ∃ L9, OKL P.n0 L9 ∧ HS V c (⟨T, Z, u, h, P, L9⟩ : RG) [0, 1, 2, 3, 4, 5, 6, 7, 8, 9, 10, 11, 12, 13, 14, 15, 16, 18, 19, 20, 21, 23] σ τ ∧ r = none)) (h0 : HR V c ⟨T, Z, u, h, P, L⟩ σ) (hob : OKB L) (hP : OKP P) (hp0 : P.n0 ≤ P.m0) (hp1 : P.n2 ≤ P.w2)  : Wm V X 4 N σ 0 0 0 [(0, .ref c)] [] := by
  refine m_iconst F (v := 0) (by decide) e_X10_begins_0 ?_
  refine m_istore_n F (lv' := [(1, .int 0), (0, .ref c)]) e_X10_begins_1 (by decide) rfl ?_
  obtain ⟨fs, e1, ty⟩ : ∃ fs, σ c = some (ob 8 fs) ∧ TyO c ⟨T, Z, u, h, P, L⟩ fs := h0.cell (k := 0) (by decide)
  obtain ⟨_, e27, rfl⟩ := ty.2 27 (3, 16) rfl
  obtain ⟨_, e3, rfl⟩ := ty.2 3 (3, 2) rfl
  obtain ⟨_, e12, rfl⟩ := ty.2 12 (3, 11) rfl
  obtain ⟨_, e13, rfl⟩ := ty.2 13 (3, 12) rfl
  obtain ⟨fN, eN, tN⟩ : ∃ f, σ (c + 2) = some (aI V 10 f) ∧ ∀ i, i < 10 → EI P 3 i (f i) := h0.cell (k := 2) (by decide)
  obtain ⟨fA, eA, tA⟩ : ∃ f, σ (c + 11) = some (aI V 16 f) ∧ ∀ i, i < 16 → EI P 12 i (f i) := h0.cell (k := 11) (by decide)
  obtain ⟨fB, eB, tB⟩ : ∃ f, σ (c + 12) = some (aI V 16 f) ∧ ∀ i, i < 16 → EI P 13 i (f i) := h0.cell (k := 12) (by decide)
  obtain ⟨f, e16, -⟩ : ∃ f, σ (c + 16) = some (aJ V 1113 f) ∧ ∀ i, i < 1113 → EJ L i (f i) := h0.cell (k := 16) (by decide)
  exact bg_2 F hQ h0 hob hP hp0 hp1 e1 e27 e3 e12 e13 eN ((tN 2 (by decide)).2.1 rfl) eA (fun i hi => tA i hi) eB tB 1114 0 f σ ⟨e16, fun _ _ => rfl⟩ (fun i hi => absurd hi (Nat.not_lt_zero _)) (by omega) (by omega)
set_option maxRecDepth 20000 in
theorem q_X10_begins (l : Launch) (V : VX) (c T Z u h : Nat) (P : NP) (L : Nat → LQ) (N : Nat) (σ : Mem)  (h0 : HR V c ⟨T, Z, u, h, P, L⟩ σ) (hob : OKB L) (hP : OKP P) (hp0 : P.n0 ≤ P.m0) (hp1 : P.n2 ≤ P.w2) : Ct l V yX10_begins cX10_begins 4 none 3 0 0 N σ [.ref c] (fun r τ => ∃ L9, OKL P.n0 L9 ∧ HS V c (⟨T, Z, u, h, P, L9⟩ : RG) [0, 1, 2, 3, 4, 5, 6, 7, 8, 9, 10, 11, 12, 13, 14, 15, 16, 18, 19, 20, 21, 23] σ τ ∧ r = none) := by
  refine Ct.of (by decide) (Nat.le_of_ble_eq_true rfl) [(0, .ref c)] rfl (fun X hX F hQ => ?_)
  have hPP := hP
  unfold OKP at hPP
  have h1 : HS V c ⟨T, Z, u, h, P, L⟩ [0, 1, 2, 3, 4, 5, 6, 7, 8, 9, 10, 11, 12, 13, 14, 15, 16, 18, 19, 20, 21, 23] σ σ := HS.start h0
  exact bg_start F hQ h0 hob hP hp0 hp1
def Gd (u h : Nat) (P : NP) (L : Nat → LQ) : Prop := u ≤ 20 ∧ h ≤ 1 ∧ OKP P ∧ P.kk = P.n0 ∧ P.n0 ≤ P.m0 ∧ P.n2 ≤ P.w2 ∧ OKL P.n0 L
set_option maxRecDepth 20000 in
theorem q_X10_text (l : Launch) (V : VX) (c T Z u h : Nat) (P : NP) (L : Nat → LQ) (N : Nat) (σ : Mem) (x901 : Int32) (h0 : HR V c ⟨T, Z, u, h, P, L⟩ σ) (hok : OKL P.n0 L) (hP : OKP P) (hp0 : u ≤ 20) (hp1 : h ≤ 1) (hp2 : P.kk = P.n0) (hp3 : T ≤ 700) (hp4 : P.n0 ≤ P.m0) (hp5 : P.n2 ≤ P.w2) : Ct l V yX10_text cX10_text 2 (some .int) 11 0 0 N σ [.ref c, .int x901] (fun r τ => (∃ x : Int32, r = some (.int x)) ∧ (((x901 < 0 ∨ ∃ n : Nat, n ≤ 2147483647 ∧ x901 = nI n ∧ T < n) ∧ HS V c (⟨T, Z, u, h, P, L⟩ : RG) [0, 2, 18, 19, 20, 21, 23] σ τ) ∨ ∃ n : Nat, x901 = nI n ∧ n ≤ T ∧ ∃ (u9 h9 : Nat) (P9 : NP) (L9 : Nat → LQ), Gd u9 h9 P9 L9 ∧ HS V c (⟨0, 1, u9, h9, P9, L9⟩ : RG) [0, 2, 18, 19, 20, 21, 23] σ τ)) := by
  refine Ct.of (by decide) (Nat.le_of_ble_eq_true rfl) [(0, .ref c), (1, .int x901)] rfl (fun X hX F hQ => ?_)
  have hPP := hP
  unfold OKP at hPP
  have h1 : HS V c ⟨T, Z, u, h, P, L⟩ [0, 2, 18, 19, 20, 21, 23] σ σ := HS.start h0
  refine m_aload_n F rfl e_X10_text_0 ?_
  refine m_iconst F (v := 0) (by decide) e_X10_text_1 ?_
  refine r_put F (g' := (⟨T, Z, u, h, P, L⟩ : RG)) e_X10_text_2 fp_X10_91 h1 (by decide) ⟨_, rfl⟩ (fun _ _ _ _ q => q) (fun _ _ _ q => q) rfl rfl (by decide) (fun σ11041 h11042 g11043 g11044 f11045 => ?_)
  refine m_iload_n F rfl e_X10_text_5 ?_
  refine m_if_lt F e_X10_text_6 (fun q6 => ?_) (fun q6 => ?_)
  · refine m_bipush F (v := (-2)) (by decide) e_X10_text_17 ?_
    exact m_iret F hQ e_X10_text_19 (⟨⟨_, rfl⟩, Or.inl ⟨Or.inl q6, h11042⟩⟩)
  · obtain ⟨n11046, hn11046, rfl⟩ := nI_nn (x := x901) (fun e => q6 (Int32.lt_of_lt_of_le e (by decide)))
    have c6 : n11046 ≥ 0 := by have hh := mt (nI_ltI (a := n11046) (b := 0) (by omega) (by omega)).mpr q6; omega
    refine m_iload_n F rfl e_X10_text_9 ?_
    refine m_aload_n F rfl e_X10_text_10 ?_
    refine r_get F e_X10_text_11 fl_X10_94 h11042 rfl (fun v hv f11047 => ?_)
    obtain rfl : v = .int (nI (T)) := hv
    refine m_icmp_le F e_X10_text_14 (fun q14 => ?_) (fun q14 => ?_)
    · have c14 : n11046 ≤ T := (nI_leI (a := n11046) (b := T) (by omega) (by omega)).mp q14
      refine m_aload_n F rfl e_X10_text_20 ?_
      refine m_iload_n F rfl e_X10_text_21 ?_
      refine r_callV F e_X10_text_22 (q_X10_readText (x_l X) V c T Z u h P L _ _ n11046 h11042.1 (hok.b) hP (by omega)) cb_X10_readText ml_X10_208 im_X10_readText se_X10_readText h11042 rfl rfl (rest := []) rfl (Nat.le_of_ble_eq_true rfl) ⟨Nat.le_of_ble_eq_true rfl, Nat.le_of_ble_eq_true rfl⟩ ⟨Nat.le_of_ble_eq_true rfl, Nat.le_of_ble_eq_true rfl⟩ (fun r σ11048 hp => ?_)
      obtain ⟨P11051, oP11051, rP11051, h11049, rfl⟩ := hp
      have h11050 := HS.trans h11042 h11049 (by decide)
      have xP11051 := oP11051
      unfold OKP at xP11051
      unfold RQ at rP11051
      refine m_aload_n F rfl e_X10_text_25 ?_
      refine m_iconst F (v := 0) (by decide) e_X10_text_26 ?_
      refine r_put F (g' := (⟨0, 1, u, h, P11051, L⟩ : RG)) e_X10_text_27 fp_X10_94 h11050 (by decide) rfl ctl_T CR.ctl rfl rfl (by decide) (fun σ11052 h11053 g11054 g11055 f11056 => ?_)
      refine m_aload_n F rfl e_X10_text_30 ?_
      refine m_aload_n F rfl e_X10_text_31 ?_
      refine r_get F e_X10_text_32 fl_X10_141 h11053 rfl (fun v hv f11057 => ?_)
      obtain ⟨x11058, hx11058, rfl⟩ := hv
      replace hx11058 : 1 = 0 → x11058 ≠ 0 := hx11058
      refine r_put F (g' := (⟨0, 1, u, h, P11051, L⟩ : RG)) e_X10_text_35 fp_X10_211 h11053 (by decide) ⟨_, rfl⟩ (fun _ _ _ _ q => q) (fun _ _ _ q => q) rfl rfl (by decide) (fun σ11059 h11060 g11061 g11062 f11063 => ?_)
      refine m_aload_n F rfl e_X10_text_38 ?_
      refine m_aload_n F rfl e_X10_text_39 ?_
      refine r_getC F e_X10_text_40 fl_X10_141 h11060 ((g11062 23 (by decide)).trans f11057) ?_
      refine m_if_ne F e_X10_text_43 (fun q43 => ?_) (fun q43 => ?_)
      · have h11064 := HS.z0 h11060 ((g11062 23 (by decide)).trans f11057) q43
        refine m_aload_n F rfl e_X10_text_50 ?_
        refine r_get F e_X10_text_51 fl_X10_144 h11064 rfl (fun v hv f11065 => ?_)
        obtain ⟨x11066, rfl⟩ := hv
        refine r_put F (g' := (⟨0, 0, u, h, P11051, L⟩ : RG)) e_X10_text_54 fp_X10_55 h11064 (by decide) ⟨_, rfl⟩ (fun _ _ _ _ q => q) (fun _ _ _ q => q) rfl rfl (by decide) (fun σ11067 h11068 g11069 g11070 f11071 => ?_)
        refine m_aload_n F rfl e_X10_text_57 ?_
        refine r_getC F e_X10_text_58 fl_X10_141 h11068 ((g11070 23 (by decide)).trans ((g11062 23 (by decide)).trans f11057)) ?_
        refine m_if_eq F e_X10_text_61 (fun q61 => ?_) (fun q61 => ?_)
        · first | exact absurd q61 (hx11058 rfl) | contradiction
        · have h11072 := HS.z0 h11068 ((g11070 23 (by decide)).trans ((g11062 23 (by decide)).trans f11057)) q61
          refine m_iconst F (v := (-1)) (by decide) e_X10_text_64 ?_
          have h11073 : HS V c (⟨0, 1, u, h, P11051, L⟩ : RG) [0, 2, 18, 19, 20, 21, 23] _ _ := ⟨HR.mono (Z' := 1) (fun e => absurd e (by decide)) h11072.1, h11072.2⟩
          exact m_iret F hQ e_X10_text_65 (⟨⟨_, rfl⟩, Or.inr ⟨n11046, rfl, by omega, u, h, P11051, L, ⟨by omega, by omega, oP11051, by omega, by omega, by omega, by rw [show P11051.n0 = P.n0 by omega]; exact hok⟩, h11073⟩⟩)
      · subst q43
        refine m_iconst F (v := (-1)) (by decide) e_X10_text_46 ?_
        refine m_goto F e_X10_text_47 ?_
        refine r_put F (g' := (⟨0, 1, u, h, P11051, L⟩ : RG)) e_X10_text_54 fp_X10_55 h11060 (by decide) ⟨_, rfl⟩ (fun _ _ _ _ q => q) (fun _ _ _ q => q) rfl rfl (by decide) (fun σ11074 h11075 g11076 g11077 f11078 => ?_)
        refine m_aload_n F rfl e_X10_text_57 ?_
        refine r_getC F e_X10_text_58 fl_X10_141 h11075 ((g11077 23 (by decide)).trans ((g11062 23 (by decide)).trans f11057)) ?_
        refine m_if_eq F e_X10_text_61 (fun _ => ?_) (fun q => absurd (by decide) q)
        refine m_aload_n F rfl e_X10_text_66 ?_
        refine r_callV F e_X10_text_67 (q_X10_takeText (x_l X) V c 0 1 u h P11051 L _ _  h11075.1 (hok.b) oP11051 ) cb_X10_takeText ml_X10_85 im_X10_takeText se_X10_takeText h11075 rfl rfl (rest := []) rfl (Nat.le_of_ble_eq_true rfl) ⟨Nat.le_of_ble_eq_true rfl, Nat.le_of_ble_eq_true rfl⟩ ⟨Nat.le_of_ble_eq_true rfl, Nat.le_of_ble_eq_true rfl⟩ (fun r σ11079 hp => ?_)
        obtain ⟨P11082, oP11082, rP11082, h11080, rfl⟩ := hp
        have h11081 := HS.trans h11075 h11080 (by decide)
        have xP11082 := oP11082
        unfold OKP at xP11082
        unfold RT at rP11082
        refine m_aload_n F rfl e_X10_text_70 ?_
        refine r_callV F e_X10_text_71 (q_X10_begins (x_l X) V c 0 1 u h P11082 L _ _  h11081.1 (hok.b) oP11082 (by first | omega | assumption | decide) (by first | omega | assumption | decide)) cb_X10_begins ml_X10_88 im_X10_begins se_X10_begins h11081 rfl rfl (rest := []) rfl (Nat.le_of_ble_eq_true rfl) ⟨Nat.le_of_ble_eq_true rfl, Nat.le_of_ble_eq_true rfl⟩ ⟨Nat.le_of_ble_eq_true rfl, Nat.le_of_ble_eq_true rfl⟩ (fun r σ11083 hp => ?_)
        obtain ⟨L11086, okL11086, h11084, rfl⟩ := hp
        have h11085 := HS.trans h11081 h11084 (by decide)
        refine m_aload_n F rfl e_X10_text_74 ?_
        refine m_iconst F (v := 0) (by decide) e_X10_text_75 ?_
        refine r_put F (g' := (⟨0, 1, 0, h, P11082, L11086⟩ : RG)) e_X10_text_76 fp_X10_214 h11085 (by decide) rfl ctl_u (CR.und (Nat.zero_le _)) rfl rfl (by decide) (fun σ11087 h11088 g11089 g11090 f11091 => ?_)
        refine m_aload_n F rfl e_X10_text_79 ?_
        refine m_iconst F (v := 0) (by decide) e_X10_text_80 ?_
        refine r_put F (g' := (⟨0, 1, 0, 0, P11082, L11086⟩ : RG)) e_X10_text_81 fp_X10_217 h11088 (by decide) rfl ctl_h CR.h0 (by decide) rfl (by decide) (fun σ11092 h11093 g11094 g11095 f11096 => ?_)
        refine m_aload_n F rfl e_X10_text_84 ?_
        refine r_get F e_X10_text_85 fl_X10_202 h11093 rfl (fun v hv f11097 => ?_)
        obtain ⟨x11098, rfl⟩ := hv
        have h11099 : HS V c (⟨0, 1, 0, 0, (mkP P11082.n0 P11082.n2 P11082.n5 P11082.n7 P11082.m0 P11082.m5 P11082.w2 P11082.w7 P11082.n0 P11082.a), L11086⟩ : RG) [0, 2, 18, 19, 20, 21, 23] _ _ := ⟨HR.kk0 (HR.mono (Z' := 1) (fun e => absurd e (by decide)) h11093.1), h11093.2⟩
        exact m_iret F hQ e_X10_text_88 (⟨⟨_, rfl⟩, Or.inr ⟨n11046, rfl, by omega, 0, 0, (mkP P11082.n0 P11082.n2 P11082.n5 P11082.n7 P11082.m0 P11082.m5 P11082.w2 P11082.w7 P11082.n0 P11082.a), L11086, ⟨by omega, by omega, oP11082, rfl, (show P11082.n0 ≤ P11082.m0 by omega), (show P11082.n2 ≤ P11082.w2 by omega), okL11086⟩, h11099⟩⟩)
    · have c14 : n11046 > T := by have hh := mt (nI_leI (a := n11046) (b := T) (by omega) (by omega)).mpr q14; omega
      refine m_bipush F (v := (-2)) (by decide) e_X10_text_17 ?_
      exact m_iret F hQ e_X10_text_19 (⟨⟨_, rfl⟩, Or.inl ⟨Or.inr ⟨n11046, by omega, rfl, by omega⟩, h11042⟩⟩)
