/-! a text taken: what may be forgotten, what begins anew -/
theorem HR.forget {V : VX} {c T Z u h : Nat} {P : NP} {L : Nat → LQ} {σ : Mem} (hh : HR V c ⟨T, Z, u, h, P, L⟩ σ) : HR V c ⟨T, Z, u, h, mkP P.n0 P.n2 P.n5 P.n7 0 P.m5 0 P.w7 P.kk P.a, L⟩ σ := by
  intro a
  have h1 := hh a
  by_cases h6 : kC c a = 6
  · rw [h6] at h1 ⊢
    obtain ⟨f, e, q⟩ := h1
    refine ⟨f, e, fun i hi => ?_⟩
    obtain ⟨n, a1, a2, a3, a4⟩ := q i hi
    exact ⟨n, a1, a2, fun _ h9 => absurd h9 (Nat.not_lt_zero _), a4⟩
  · by_cases h13 : kC c a = 13
    · rw [h13] at h1 ⊢
      obtain ⟨f, e, q⟩ := h1
      refine ⟨f, e, fun i hi => ?_⟩
      obtain ⟨n, a1, a2, a3, a4⟩ := q i hi
      exact ⟨n, a1, a2, fun _ h9 => absurd h9 (Nat.not_lt_zero _), a4⟩
    · revert h1
      generalize kC c a = i at h6 h13
      generalize σ a = x
      intro hx
      unfold CR at hx ⊢
      split at hx <;> first | exact hx | exact absurd rfl h6 | exact absurd rfl h13 | skip
      all_goals first | exact hx | (obtain ⟨f, e, q⟩ := hx; refine ⟨f, e, fun i hi => ?_⟩; have h9 := q i hi; unfold EI at h9 ⊢; split at h9 <;> first | exact h9 | trivial | contradiction | (exfalso; omega))
theorem HR.kk0 {V : VX} {c T Z : Nat} {P : NP} {L : Nat → LQ} {σ : Mem} {k : Nat} (hh : HR V c ⟨T, Z, 0, 0, P, L⟩ σ) : HR V c ⟨T, Z, 0, 0, mkP P.n0 P.n2 P.n5 P.n7 P.m0 P.m5 P.w2 P.w7 k P.a, L⟩ σ := by
  intro a
  have h1 := hh a
  by_cases h20 : kC c a = 20
  · rw [h20] at h1 ⊢
    obtain ⟨f, e, q⟩ := h1
    exact ⟨f, e, fun h9 => absurd h9 (by show ¬ (0 : Nat) = 1; decide)⟩
  · by_cases h21 : kC c a = 21
    · rw [h21] at h1 ⊢
      obtain ⟨f, e, q⟩ := h1
      exact ⟨f, e, fun j hj => absurd hj (Nat.not_lt_zero _)⟩
    · revert h1
      generalize kC c a = i at h20 h21
      generalize σ a = x
      intro hx
      unfold CR at hx ⊢
      split at hx <;> first | exact hx | exact absurd rfl h20 | exact absurd rfl h21
def RT (P Q : NP) : Prop := Q.n0 = P.n5 ∧ Q.kk = P.kk ∧ Q.n0 ≤ Q.m0 ∧ Q.n2 ≤ Q.w2
theorem OKL.updS {n : Nat} {L L' : Nat → LQ} (h : OKL n L) (hl4 : n < 4) (ho : ∀ i, i ≠ n → L' i = L i) (hl : (L' n).1 ≤ 2 ∧ (L' n).2.1 ≤ 72 ∧ (L' n).2.2.1 ≤ 2000 ∧ (L' n).2.2.2 ≤ 72 ∧ ((L' n).1 = 1 → (L' n).2.2.2 < (L' n).2.1 ∧ 1 ≤ (L' n).2.2.1) ∧ ((L' n).1 = 0 → (L' n).2.2.2 = 0) ∧ 1 ≤ (L' n).2.1) : OKL (n + 1) L' := by
  refine ⟨by rw [ho 4 (by omega)]; exact h.1, fun i hi => ?_⟩
  by_cases e : i = n
  · subst e; exact ⟨hl.1, hl.2.1, hl.2.2.1, hl.2.2.2.1, hl.2.2.2.2.1, hl.2.2.2.2.2.1, fun _ => hl.2.2.2.2.2.2⟩
  · have h9 := h.2 i hi
    rw [ho i e]; exact ⟨h9.1, h9.2.1, h9.2.2.1, h9.2.2.2.1, h9.2.2.2.2.1, h9.2.2.2.2.2.1, fun h8 => h9.2.2.2.2.2.2 (by omega)⟩
def L0 : Nat → LQ := fun _ => (0, 0, 0, 0)
theorem OKL.zero : OKL 0 L0 := ⟨by show (0 : Nat) ≤ 99; omega, fun l _ => ⟨by show (0 : Nat) ≤ 2; omega, by show (0 : Nat) ≤ 72; omega, by show (0 : Nat) ≤ 2000; omega, by show (0 : Nat) ≤ 72; omega, fun e => absurd e (by show ¬ (0 : Nat) = 1; omega), fun _ => rfl, fun e => absurd e (Nat.not_lt_zero _)⟩⟩
/-- s while it is made anew: 0 up to k -/
def ZF (k : Nat) (f : Nat → Int64) : Prop := ∀ i, i < k → f i = 0
/-- .. 0 all over, but for the INDEX of the periods up to p -/
def PZ (p : Nat) (f : Nat → Int64) : Prop := (∀ i, i < 1113 → (i < 644 ∨ 744 ≤ i) → f i = 0) ∧ ∀ i, 644 ≤ i → i < 644 + p → ∃ n : Nat, 1 ≤ n ∧ n ≤ 2000 ∧ f i = lN n
theorem PZ.zero {f : Nat → Int64} (h : ZF 1113 f) : PZ 0 f := ⟨fun i hi _ => h i hi, fun i h1 h2 => by omega⟩
theorem PZ.put {p m : Nat} {f : Nat → Int64} (h : PZ p f) (hp : p < 100) (hm : 1 ≤ m ∧ m ≤ 2000) : PZ (p + 1) (vp_updL f (644 + p) (lN m)) := by
  refine ⟨fun i hi h1 => ?_, fun i h1 h2 => ?_⟩
  · unfold vp_updL; rw [if_neg (by omega)]; exact h.1 i hi h1
  · unfold vp_updL
    by_cases e : i = 644 + p
    · rw [if_pos e]; exact ⟨m, hm.1, hm.2, rfl⟩
    · rw [if_neg e]; exact h.2 i h1 (by omega)
theorem PZ.put2 {p m : Nat} {f : Nat → Int64} (h : PZ (p + 1) f) (hp : p < 100) (hm : 1 ≤ m ∧ m ≤ 2000) : PZ (p + 1) (vp_updL f (644 + p) (lN m)) := by
  refine ⟨fun i hi h1 => ?_, fun i h1 h2 => ?_⟩
  · unfold vp_updL; rw [if_neg (by omega)]; exact h.1 i hi h1
  · unfold vp_updL
    by_cases e : i = 644 + p
    · rw [if_pos e]; exact ⟨m, hm.1, hm.2, rfl⟩
    · rw [if_neg e]; exact h.2 i h1 (by omega)
theorem ZF.put {k : Nat} {f : Nat → Int64} (h : ZF k f) : ZF (k + 1) (vp_updL f k 0) := by
  intro i hi
  unfold vp_updL
  by_cases e : i = k
  · rw [if_pos e]
  · rw [if_neg e]; exact h i (by omega)
theorem PZ.typed {f : Nat → Int64} (h : PZ 100 f) : ∀ i, i < 1113 → EJ L0 i (f i) := by
  intro i hi
  have h0 : (i < 644 ∨ 744 ≤ i) → f i = lN 0 := fun q => h.1 i hi q
  unfold EJ
  by_cases h1 : i < 640
  · rw [if_pos h1, h0 (by omega)]
    unfold EL
    split <;> first | rfl | trivial | exact ⟨0, by omega, rfl⟩
  · rw [if_neg h1]
    by_cases h2 : i < 644
    · rw [if_pos h2]; trivial
    · rw [if_neg h2]
      by_cases h3 : i < 744
      · rw [if_pos h3]; exact h.2 i (by omega) (by omega)
      · rw [if_neg h3]
        by_cases h4 : i = 744
        · rw [if_pos h4, h0 (by omega)]; rfl
        · rw [if_neg h4]
          by_cases h5 : i = 751
          · rw [if_pos h5, h0 (by omega)]; exact ⟨0, by omega, rfl⟩
          · rw [if_neg h5]; trivial
set_option maxRecDepth 20000 in
theorem lq_X10_readText_28 {V : VX} {X : MX} {N : Nat} {σ : Mem} {c T Z u h : Nat} {P : NP} {L : Nat → LQ}  {n901 : Nat} (F : Fx V X yX10_readText cX10_readText 2 none (rmd 10 0 0)) (hQ : Rt V X 0 0 N (fun r τ => ∃ P9 : NP, OKP P9 ∧ RQ P P9 ∧ HS V c (⟨T, 1, u, h, P9, L⟩ : RG) [0, 2, 17, 18, 19, 20, 21, 22, 23] σ τ ∧ r = none)) (hob : OKB L) (hP : OKP P) (hn901 : n901 ≤ 700)  : ∀ (fuel : Nat) (x1 y1 : Int32) (P1 : NP) (τ : Mem), HS V c (⟨T, 1, u, h, P1, L⟩ : RG) [0, 2, 17, 18, 19, 20, 21, 22, 23] σ τ → OKP P1 → RQ P P1 → fld τ c 23 = some (.int x1) ∧ fld τ c 21 = some (.int y1) → (if x1 = 0 ∧ y1 ≠ 4 then 701 - P1.a else 0) < fuel → Wm V X 2 N τ 0 0 28 [(0, .ref c)] [] := by
  intro fuel
  induction fuel with
  | zero => intros; rename_i hm; exact absurd hm (Nat.not_lt_zero _)
  | succ fuel ih =>
    intro x1 y1 P1 τ h1 hP1 hR1 hi hm
    have hPP := hP
    unfold OKP at hPP
    have hPP1 := hP1
    unfold OKP at hPP1
    unfold RQ at hR1
    refine m_aload_n F rfl e_X10_readText_28 ?_
    refine r_getC F e_X10_readText_29 fl_X10_141 h1 (hi.1) ?_
    refine m_if_ne F e_X10_readText_32 (fun q32 => ?_) (fun q32 => ?_)
    · exact m_vret F hQ e_X10_readText_50 (⟨P1, hP1, (by unfold RQ; omega), h1, rfl⟩)
    · subst q32
      refine m_aload_n F rfl e_X10_readText_35 ?_
      refine r_getC F e_X10_readText_36 fl_X10_110 h1 (hi.2) ?_
      refine m_iconst F (v := 4) (by decide) e_X10_readText_39 ?_
      refine m_icmp_eq F e_X10_readText_40 (fun q40 => ?_) (fun q40 => ?_)
      · subst q40
        exact m_vret F hQ e_X10_readText_50 (⟨P1, hP1, (by unfold RQ; omega), h1, rfl⟩)
      · refine m_aload_n F rfl e_X10_readText_43 ?_
        refine r_callV F e_X10_readText_44 (q_X10_readLine (x_l X) V c T 1 u h P1 L _ _  h1.1 (hob) hP1 ) cb_X10_readLine ml_X10_205 im_X10_readLine se_X10_readLine h1 rfl rfl (rest := []) rfl (Nat.le_of_ble_eq_true rfl) ⟨Nat.le_of_ble_eq_true rfl, Nat.le_of_ble_eq_true rfl⟩ ⟨Nat.le_of_ble_eq_true rfl, Nat.le_of_ble_eq_true rfl⟩ (fun r σ10350 hp => ?_)
        obtain ⟨P10353, oP10353, rP10353, pr10354, h10351, rfl⟩ := hp
        have h10352 := HS.trans h1 h10351 (by decide)
        have xP10353 := oP10353
        unfold OKP at xP10353
        unfold RP at rP10353
        refine m_goto F e_X10_readText_47 ?_
        obtain ⟨x9, y9, e9, e8, d9⟩ := pr10354
        have hmm : (if x9 = 0 ∧ y9 ≠ (4 : Int32) then 701 - P10353.a else 0) < fuel := by
          rw [if_pos ⟨rfl, q40⟩] at hm
          by_cases hc : x9 = 0 ∧ y9 ≠ (4 : Int32)
          · rw [if_pos hc]
            rcases d9 with d | d | d
            · exact absurd hc.1 d
            · exact absurd d hc.2
            · omega
          · rw [if_neg hc]; omega
        exact ih x9 y9 P10353 _ h10352 oP10353 (by unfold RQ; omega) ⟨e9, e8⟩ hmm
set_option maxRecDepth 20000 in
theorem q_X10_readText (l : Launch) (V : VX) (c T Z u h : Nat) (P : NP) (L : Nat → LQ) (N : Nat) (σ : Mem) (n901 : Nat) (h0 : HR V c ⟨T, Z, u, h, P, L⟩ σ) (hob : OKB L) (hP : OKP P) (hn901 : n901 ≤ 700) : Ct l V yX10_readText cX10_readText 2 none 10 0 0 N σ [.ref c, .int (nI n901)] (fun r τ => ∃ P9 : NP, OKP P9 ∧ RQ P P9 ∧ HS V c (⟨T, 1, u, h, P9, L⟩ : RG) [0, 2, 17, 18, 19, 20, 21, 22, 23] σ τ ∧ r = none) := by
  refine Ct.of (by decide) (Nat.le_of_ble_eq_true rfl) [(0, .ref c), (1, .int (nI n901))] rfl (fun X hX F hQ => ?_)
  have hPP := hP
  unfold OKP at hPP
  have h1 : HS V c ⟨T, Z, u, h, P, L⟩ [0, 2, 17, 18, 19, 20, 21, 22, 23] σ σ := HS.start h0
  refine m_aload_n F rfl e_X10_readText_0 ?_
  refine m_iload_n F rfl e_X10_readText_1 ?_
  refine r_put F (g' := (⟨T, Z, u, h, P, L⟩ : RG)) e_X10_readText_2 fp_X10_100 h1 (by decide) ⟨n901, (show n901 ≤ 700 by omega), rfl⟩ (fun _ _ _ _ q => q) (fun _ _ _ q => q) rfl rfl (by decide) (fun σ10355 h10356 g10357 g10358 f10359 => ?_)
  refine m_aload_n F rfl e_X10_readText_5 ?_
  refine m_iconst F (v := 0) (by decide) e_X10_readText_6 ?_
  refine r_put F (g' := (⟨T, Z, u, h, (mkP P.n0 P.n2 P.n5 P.n7 P.m0 P.m5 P.w2 P.w7 P.kk 0), L⟩ : RG)) e_X10_readText_7 fp_X10_97 h10356 (by decide) rfl ctl_a CR.setA rfl rfl (by decide) (fun σ10360 h10361 g10362 g10363 f10364 => ?_)
  obtain ⟨P10365, eP10365⟩ : ∃ P9, P9 = (mkP P.n0 P.n2 P.n5 P.n7 P.m0 P.m5 P.w2 P.w7 P.kk 0) := ⟨_, rfl⟩
  rw [← eP10365] at h10361
  have fP10365 : P10365.n0 = P.n0 ∧ P10365.n2 = P.n2 ∧ P10365.n5 = P.n5 ∧ P10365.n7 = P.n7 ∧ P10365.m0 = P.m0 ∧ P10365.m5 = P.m5 ∧ P10365.w2 = P.w2 ∧ P10365.w7 = P.w7 ∧ P10365.kk = P.kk ∧ P10365.a = 0 := by rw [eP10365]; exact ⟨rfl, rfl, rfl, rfl, rfl, rfl, rfl, rfl, rfl, rfl⟩
  refine m_aload_n F rfl e_X10_readText_10 ?_
  refine m_iconst F (v := 0) (by decide) e_X10_readText_11 ?_
  refine r_put F (g' := (⟨T, 1, u, h, P10365, L⟩ : RG)) e_X10_readText_12 fp_X10_141 h10361 (by decide) ⟨_, (fun e => absurd e (show ¬ (1 : Nat) = 0 by decide)), rfl⟩ ctl_Z CR.ctl rfl rfl (by decide) (fun σ10366 h10367 g10368 g10369 f10370 => ?_)
  refine m_aload_n F rfl e_X10_readText_15 ?_
  refine m_iconst F (v := 0) (by decide) e_X10_readText_16 ?_
  refine r_put F (g' := (⟨T, 1, u, h, P10365, L⟩ : RG)) e_X10_readText_17 fp_X10_202 h10367 (by decide) ⟨_, rfl⟩ (fun _ _ _ _ q => q) (fun _ _ _ q => q) rfl rfl (by decide) (fun σ10371 h10372 g10373 g10374 f10375 => ?_)
  refine m_aload_n F rfl e_X10_readText_20 ?_
  have oP10379 : OKP P10365 := by unfold OKP; omega
  refine r_callV F e_X10_readText_21 (q_X10_freshText (x_l X) V c T 1 u h P10365 L _ _  h10372.1 (hob) oP10379 ) cb_X10_freshText ml_X10_82 im_X10_freshText se_X10_freshText h10372 rfl rfl (rest := []) rfl (Nat.le_of_ble_eq_true rfl) ⟨Nat.le_of_ble_eq_true rfl, Nat.le_of_ble_eq_true rfl⟩ ⟨Nat.le_of_ble_eq_true rfl, Nat.le_of_ble_eq_true rfl⟩ (fun r σ10376 hp => ?_)
  obtain ⟨P10380, oP10380, rP10380, h10377, rfl⟩ := hp
  have h10378 := HS.trans h10372 h10377 (by decide)
  have xP10380 := oP10380
  unfold OKP at xP10380
  unfold RP at rP10380
  refine m_aload_n F rfl e_X10_readText_24 ?_
  refine r_callV F e_X10_readText_25 (q_X10_token (x_l X) V c T 1 u h P10380 L _ _  h10378.1 (hob) oP10380 ) cb_X10_token ml_X10_147 im_X10_token se_X10_token h10378 rfl rfl (rest := []) rfl (Nat.le_of_ble_eq_true rfl) ⟨Nat.le_of_ble_eq_true rfl, Nat.le_of_ble_eq_true rfl⟩ ⟨Nat.le_of_ble_eq_true rfl, Nat.le_of_ble_eq_true rfl⟩ (fun r σ10381 hp => ?_)
  obtain ⟨P10384, oP10384, rP10384, pr10385, h10382, rfl⟩ := hp
  have h10383 := HS.trans h10378 h10382 (by decide)
  have xP10384 := oP10384
  unfold OKP at xP10384
  unfold RA at rP10384
  refine Wm.lvsub (lv' := [(0, .ref c)]) ?_ [0] rfl
  obtain ⟨y9, e8⟩ := h10383.1.f21
  obtain ⟨x9, e9⟩ := h10383.1.f23
  exact lq_X10_readText_28 F hQ hob hP hn901 ((if x9 = 0 ∧ y9 ≠ 4 then 701 - P10384.a else 0) + 1) x9 y9 P10384 _ h10383 oP10384 (by unfold RQ; omega) ⟨e9, e8⟩ (Nat.lt_succ_self _)
def RT3 (P Q : NP) : Prop := Q.n0 = P.n5 ∧ Q.n2 = P.n7 ∧ Q.kk = P.kk ∧ Q.n0 ≤ Q.m0 ∧ Q.w7 = P.w7 ∧ Q.w2 = 0
set_option maxRecDepth 20000 in
theorem lq_X10_takeText_179 {V : VX} {X : MX} {N : Nat} {σ : Mem} {c T Z u h : Nat} {P : NP} {L : Nat → LQ}   (F : Fx V X yX10_takeText cX10_takeText 2 none (rmd 1 0 0)) (hQ : Rt V X 0 0 N (fun r τ => ∃ P9 : NP, OKP P9 ∧ RT P P9 ∧ HS V c (⟨T, Z, u, h, P9, L⟩ : RG) [0, 1, 2, 17, 18, 19, 20, 21, 22, 23] σ τ ∧ r = none)) (hob : OKB L) (hP : OKP P)   : ∀ (fuel : Nat) (i : Nat) (P1 : NP) (τ : Mem), HS V c (⟨T, Z, u, h, P1, L⟩ : RG) [0, 1, 2, 17, 18, 19, 20, 21, 22, 23] σ τ → OKP P1 → RT3 P P1 → i ≤ 192 → 192 - i < fuel → Wm V X 2 N τ 0 0 179 [(0, .ref c), (1, .int (nI i))] [] := by
  intro fuel
  induction fuel with
  | zero => intros; rename_i hm; exact absurd hm (Nat.not_lt_zero _)
  | succ fuel ih =>
    intro i P1 τ h1 hP1 hR1 hi hm
    have hPP := hP
    unfold OKP at hPP
    have hPP1 := hP1
    unfold OKP at hPP1
    unfold RT3 at hR1
    refine m_iload_n F rfl e_X10_takeText_179 ?_
    refine m_sipush F (v := 192) (by decide) e_X10_takeText_180 ?_
    refine m_icmp_ge F e_X10_takeText_183 (fun q183 => ?_) (fun q183 => ?_)
    · have c183 : i ≥ 192 := (nI_leI (a := 192) (b := i) (by omega) (by omega)).mp q183
      refine m_iconst F (v := 0) (by decide) e_X10_takeText_208 ?_
      refine m_istore_n F (lv' := [(1, .int 0), (0, .ref c)]) e_X10_takeText_209 (by decide) rfl ?_
      refine m_iload_n F rfl e_X10_takeText_210 ?_
      refine m_bipush F (v := 8) (by decide) e_X10_takeText_211 ?_
      refine m_icmp_ge F e_X10_takeText_213 (fun q => absurd q (by decide)) (fun _ => ?_)
      refine m_aload_n F rfl e_X10_takeText_216 ?_
      refine r_get F e_X10_takeText_217 fl_X10_40 h1 rfl (fun v hv f10386 => ?_)
      obtain rfl : v = .ref (c + 11) := hv
      refine m_iload_n F rfl e_X10_takeText_220 ?_
      refine m_aload_n F rfl e_X10_takeText_221 ?_
      refine r_getC F e_X10_takeText_222 fl_X10_40 h1 (f10386) ?_
      refine m_bipush F (v := 8) (by decide) e_X10_takeText_225 ?_
      refine m_iload_n F rfl e_X10_takeText_227 ?_
      refine m_iadd F e_X10_takeText_228 ?_
      refine Wm.topE (w := 8) (by decide) ?_
      refine r_iald F (len := 16) (j := 8) e_X10_takeText_229 h1 (fun _ h => h) (by decide) (by decide) (by unfold vp_in; decide) (fun x10387 h10388 f10389 => ?_)
      obtain ⟨n10390, hn10390, rfl⟩ := h10388
      refine r_iast F (g' := (⟨T, Z, u, h, P1, L⟩ : RG)) (len := 16) (j := 0) e_X10_takeText_230 h1 (fun _ h => h) (fun f h => ⟨f, rfl, h⟩) (by decide) (by decide) (by decide) (by unfold vp_in; decide) ⟨n10390, by omega, rfl⟩ (fun _ _ _ h => h) (fun _ _ _ h => h) (fun σ10391 h10392 g10393 f10394 g10395 => ?_)
      refine m_aload_n F rfl e_X10_takeText_231 ?_
      refine r_get F e_X10_takeText_232 fl_X10_43 h10392 rfl (fun v hv f10396 => ?_)
      obtain rfl : v = .ref (c + 12) := hv
      refine m_iload_n F rfl e_X10_takeText_235 ?_
      refine m_aload_n F rfl e_X10_takeText_236 ?_
      refine r_getC F e_X10_takeText_237 fl_X10_43 h10392 (f10396) ?_
      refine m_bipush F (v := 8) (by decide) e_X10_takeText_240 ?_
      refine m_iload_n F rfl e_X10_takeText_242 ?_
      refine m_iadd F e_X10_takeText_243 ?_
      refine Wm.topE (w := 8) (by decide) ?_
      refine r_iald F (len := 16) (j := 8) e_X10_takeText_244 h10392 (fun _ h => h) (by decide) (by decide) (by unfold vp_in; decide) (fun x10397 h10398 f10399 => ?_)
      obtain ⟨n10400, hn10400, rfl, pn10400, rn10400⟩ := h10398
      refine r_iast F (g' := (⟨T, Z, u, h, (mkP P1.n0 P1.n2 P1.n5 P1.n7 P1.m0 P1.m5 (min 1 P1.w7) P1.w7 P1.kk P1.a), L⟩ : RG)) (len := 16) (j := 0) e_X10_takeText_245 h10392 (fun _ h => h) (fun f h => ⟨f, rfl, h⟩) (by decide) (by decide) (by decide) (by unfold vp_in; decide) ⟨n10400, by omega, rfl, fun _ h8 => rn10400 (by omega) (show 8 < 8 + P1.w7 by have h6 : 0 < min 1 P1.w7 := h8; omega), fun h7 _ => absurd h7 (by omega)⟩ (fun i hi y hy => by obtain ⟨n9, a9, b9, c9, d9⟩ := hy; exact ⟨n9, a9, b9, fun h7 h8 => c9 h7 (show i < P1.w2 by have h6 : i < min 1 P1.w7 := h8; omega), d9⟩) (by intro i hi x hx; unfold CR at hx ⊢; split at hx <;> first | exact hx | exact absurd rfl hi) (fun σ10401 h10402 g10403 f10404 g10405 => ?_)
      obtain ⟨P10406, eP10406⟩ : ∃ P9, P9 = (mkP P1.n0 P1.n2 P1.n5 P1.n7 P1.m0 P1.m5 (min 1 P1.w7) P1.w7 P1.kk P1.a) := ⟨_, rfl⟩
      rw [← eP10406] at h10402
      have fP10406 : P10406.n0 = P1.n0 ∧ P10406.n2 = P1.n2 ∧ P10406.n5 = P1.n5 ∧ P10406.n7 = P1.n7 ∧ P10406.m0 = P1.m0 ∧ P10406.m5 = P1.m5 ∧ P10406.w2 = min 1 P1.w7 ∧ P10406.w7 = P1.w7 ∧ P10406.kk = P1.kk ∧ P10406.a = P1.a := by rw [eP10406]; exact ⟨rfl, rfl, rfl, rfl, rfl, rfl, rfl, rfl, rfl, rfl⟩
      refine m_iinc F (v := 1) (lv' := [(1, .int 1), (0, .ref c)]) e_X10_takeText_246 rfl (by decide) (by decide) rfl ?_
      refine m_goto F e_X10_takeText_249 ?_
      refine m_iload_n F rfl e_X10_takeText_210 ?_
      refine m_bipush F (v := 8) (by decide) e_X10_takeText_211 ?_
      refine m_icmp_ge F e_X10_takeText_213 (fun q => absurd q (by decide)) (fun _ => ?_)
      refine m_aload_n F rfl e_X10_takeText_216 ?_
      refine r_getC F e_X10_takeText_217 fl_X10_40 h10402 ((fld_eq (g10403 _ (by omega))).trans ((fld_eq (g10393 _ (by omega))).trans f10386)) ?_
      refine m_iload_n F rfl e_X10_takeText_220 ?_
      refine m_aload_n F rfl e_X10_takeText_221 ?_
      refine r_getC F e_X10_takeText_222 fl_X10_40 h10402 ((fld_eq (g10403 _ (by omega))).trans ((fld_eq (g10393 _ (by omega))).trans f10386)) ?_
      refine m_bipush F (v := 8) (by decide) e_X10_takeText_225 ?_
      refine m_iload_n F rfl e_X10_takeText_227 ?_
      refine m_iadd F e_X10_takeText_228 ?_
      refine Wm.topE (w := 9) (by decide) ?_
      refine r_iald F (len := 16) (j := 9) e_X10_takeText_229 h10402 (fun _ h => h) (by decide) (by decide) (by unfold vp_in; decide) (fun x10407 h10408 f10409 => ?_)
      obtain ⟨n10410, hn10410, rfl⟩ := h10408
      refine r_iast F (g' := (⟨T, Z, u, h, P10406, L⟩ : RG)) (len := 16) (j := 1) e_X10_takeText_230 h10402 (fun _ h => h) (fun f h => ⟨f, rfl, h⟩) (by decide) (by decide) (by decide) (by unfold vp_in; decide) ⟨n10410, by omega, rfl⟩ (fun _ _ _ h => h) (fun _ _ _ h => h) (fun σ10411 h10412 g10413 f10414 g10415 => ?_)
      refine m_aload_n F rfl e_X10_takeText_231 ?_
      refine r_getC F e_X10_takeText_232 fl_X10_43 h10412 ((fld_eq (g10413 _ (by omega))).trans ((fld_eq (g10403 _ (by omega))).trans f10396)) ?_
      refine m_iload_n F rfl e_X10_takeText_235 ?_
      refine m_aload_n F rfl e_X10_takeText_236 ?_
      refine r_getC F e_X10_takeText_237 fl_X10_43 h10412 ((fld_eq (g10413 _ (by omega))).trans ((fld_eq (g10403 _ (by omega))).trans f10396)) ?_
      refine m_bipush F (v := 8) (by decide) e_X10_takeText_240 ?_
      refine m_iload_n F rfl e_X10_takeText_242 ?_
      refine m_iadd F e_X10_takeText_243 ?_
      refine Wm.topE (w := 9) (by decide) ?_
      refine r_iald F (len := 16) (j := 9) e_X10_takeText_244 h10412 (fun _ h => h) (by decide) (by decide) (by unfold vp_in; decide) (fun x10416 h10417 f10418 => ?_)
      obtain ⟨n10419, hn10419, rfl, pn10419, rn10419⟩ := h10417
      refine r_iast F (g' := (⟨T, Z, u, h, (mkP P10406.n0 P10406.n2 P10406.n5 P10406.n7 P10406.m0 P10406.m5 (min 2 P10406.w7) P10406.w7 P10406.kk P10406.a), L⟩ : RG)) (len := 16) (j := 1) e_X10_takeText_245 h10412 (fun _ h => h) (fun f h => ⟨f, rfl, h⟩) (by decide) (by decide) (by decide) (by unfold vp_in; decide) ⟨n10419, by omega, rfl, fun _ h8 => rn10419 (by omega) (show 9 < 8 + P10406.w7 by have h6 : 1 < min 2 P10406.w7 := h8; omega), fun h7 _ => absurd h7 (by omega)⟩ (fun i hi y hy => by obtain ⟨n9, a9, b9, c9, d9⟩ := hy; exact ⟨n9, a9, b9, fun h7 h8 => c9 h7 (show i < P10406.w2 by have h6 : i < min 2 P10406.w7 := h8; omega), d9⟩) (by intro i hi x hx; unfold CR at hx ⊢; split at hx <;> first | exact hx | exact absurd rfl hi) (fun σ10420 h10421 g10422 f10423 g10424 => ?_)
      obtain ⟨P10425, eP10425⟩ : ∃ P9, P9 = (mkP P10406.n0 P10406.n2 P10406.n5 P10406.n7 P10406.m0 P10406.m5 (min 2 P10406.w7) P10406.w7 P10406.kk P10406.a) := ⟨_, rfl⟩
      rw [← eP10425] at h10421
      have fP10425 : P10425.n0 = P10406.n0 ∧ P10425.n2 = P10406.n2 ∧ P10425.n5 = P10406.n5 ∧ P10425.n7 = P10406.n7 ∧ P10425.m0 = P10406.m0 ∧ P10425.m5 = P10406.m5 ∧ P10425.w2 = min 2 P10406.w7 ∧ P10425.w7 = P10406.w7 ∧ P10425.kk = P10406.kk ∧ P10425.a = P10406.a := by rw [eP10425]; exact ⟨rfl, rfl, rfl, rfl, rfl, rfl, rfl, rfl, rfl, rfl⟩
      refine m_iinc F (v := 2) (lv' := [(1, .int 2), (0, .ref c)]) e_X10_takeText_246 rfl (by decide) (by decide) rfl ?_
      refine m_goto F e_X10_takeText_249 ?_
      refine m_iload_n F rfl e_X10_takeText_210 ?_
      refine m_bipush F (v := 8) (by decide) e_X10_takeText_211 ?_
      refine m_icmp_ge F e_X10_takeText_213 (fun q => absurd q (by decide)) (fun _ => ?_)
      refine m_aload_n F rfl e_X10_takeText_216 ?_
      refine r_getC F e_X10_takeText_217 fl_X10_40 h10421 ((fld_eq (g10422 _ (by omega))).trans ((fld_eq (g10413 _ (by omega))).trans ((fld_eq (g10403 _ (by omega))).trans ((fld_eq (g10393 _ (by omega))).trans f10386)))) ?_
      refine m_iload_n F rfl e_X10_takeText_220 ?_
      refine m_aload_n F rfl e_X10_takeText_221 ?_
      refine r_getC F e_X10_takeText_222 fl_X10_40 h10421 ((fld_eq (g10422 _ (by omega))).trans ((fld_eq (g10413 _ (by omega))).trans ((fld_eq (g10403 _ (by omega))).trans ((fld_eq (g10393 _ (by omega))).trans f10386)))) ?_
      refine m_bipush F (v := 8) (by decide) e_X10_takeText_225 ?_
      refine m_iload_n F rfl e_X10_takeText_227 ?_
      refine m_iadd F e_X10_takeText_228 ?_
      refine Wm.topE (w := 10) (by decide) ?_
      refine r_iald F (len := 16) (j := 10) e_X10_takeText_229 h10421 (fun _ h => h) (by decide) (by decide) (by unfold vp_in; decide) (fun x10426 h10427 f10428 => ?_)
      obtain ⟨n10429, hn10429, rfl⟩ := h10427
      refine r_iast F (g' := (⟨T, Z, u, h, P10425, L⟩ : RG)) (len := 16) (j := 2) e_X10_takeText_230 h10421 (fun _ h => h) (fun f h => ⟨f, rfl, h⟩) (by decide) (by decide) (by decide) (by unfold vp_in; decide) ⟨n10429, by omega, rfl⟩ (fun _ _ _ h => h) (fun _ _ _ h => h) (fun σ10430 h10431 g10432 f10433 g10434 => ?_)
      refine m_aload_n F rfl e_X10_takeText_231 ?_
      refine r_getC F e_X10_takeText_232 fl_X10_43 h10431 ((fld_eq (g10432 _ (by omega))).trans ((fld_eq (g10422 _ (by omega))).trans ((fld_eq (g10413 _ (by omega))).trans ((fld_eq (g10403 _ (by omega))).trans f10396)))) ?_
      refine m_iload_n F rfl e_X10_takeText_235 ?_
      refine m_aload_n F rfl e_X10_takeText_236 ?_
      refine r_getC F e_X10_takeText_237 fl_X10_43 h10431 ((fld_eq (g10432 _ (by omega))).trans ((fld_eq (g10422 _ (by omega))).trans ((fld_eq (g10413 _ (by omega))).trans ((fld_eq (g10403 _ (by omega))).trans f10396)))) ?_
      refine m_bipush F (v := 8) (by decide) e_X10_takeText_240 ?_
      refine m_iload_n F rfl e_X10_takeText_242 ?_
      refine m_iadd F e_X10_takeText_243 ?_
      refine Wm.topE (w := 10) (by decide) ?_
      refine r_iald F (len := 16) (j := 10) e_X10_takeText_244 h10431 (fun _ h => h) (by decide) (by decide) (by unfold vp_in; decide) (fun x10435 h10436 f10437 => ?_)
      obtain ⟨n10438, hn10438, rfl, pn10438, rn10438⟩ := h10436
      refine r_iast F (g' := (⟨T, Z, u, h, (mkP P10425.n0 P10425.n2 P10425.n5 P10425.n7 P10425.m0 P10425.m5 (min 3 P10425.w7) P10425.w7 P10425.kk P10425.a), L⟩ : RG)) (len := 16) (j := 2) e_X10_takeText_245 h10431 (fun _ h => h) (fun f h => ⟨f, rfl, h⟩) (by decide) (by decide) (by decide) (by unfold vp_in; decide) ⟨n10438, by omega, rfl, fun _ h8 => rn10438 (by omega) (show 10 < 8 + P10425.w7 by have h6 : 2 < min 3 P10425.w7 := h8; omega), fun h7 _ => absurd h7 (by omega)⟩ (fun i hi y hy => by obtain ⟨n9, a9, b9, c9, d9⟩ := hy; exact ⟨n9, a9, b9, fun h7 h8 => c9 h7 (show i < P10425.w2 by have h6 : i < min 3 P10425.w7 := h8; omega), d9⟩) (by intro i hi x hx; unfold CR at hx ⊢; split at hx <;> first | exact hx | exact absurd rfl hi) (fun σ10439 h10440 g10441 f10442 g10443 => ?_)
      obtain ⟨P10444, eP10444⟩ : ∃ P9, P9 = (mkP P10425.n0 P10425.n2 P10425.n5 P10425.n7 P10425.m0 P10425.m5 (min 3 P10425.w7) P10425.w7 P10425.kk P10425.a) := ⟨_, rfl⟩
      rw [← eP10444] at h10440
      have fP10444 : P10444.n0 = P10425.n0 ∧ P10444.n2 = P10425.n2 ∧ P10444.n5 = P10425.n5 ∧ P10444.n7 = P10425.n7 ∧ P10444.m0 = P10425.m0 ∧ P10444.m5 = P10425.m5 ∧ P10444.w2 = min 3 P10425.w7 ∧ P10444.w7 = P10425.w7 ∧ P10444.kk = P10425.kk ∧ P10444.a = P10425.a := by rw [eP10444]; exact ⟨rfl, rfl, rfl, rfl, rfl, rfl, rfl, rfl, rfl, rfl⟩
      refine m_iinc F (v := 3) (lv' := [(1, .int 3), (0, .ref c)]) e_X10_takeText_246 rfl (by decide) (by decide) rfl ?_
      refine m_goto F e_X10_takeText_249 ?_
      refine m_iload_n F rfl e_X10_takeText_210 ?_
      refine m_bipush F (v := 8) (by decide) e_X10_takeText_211 ?_
      refine m_icmp_ge F e_X10_takeText_213 (fun q => absurd q (by decide)) (fun _ => ?_)
      refine m_aload_n F rfl e_X10_takeText_216 ?_
      refine r_getC F e_X10_takeText_217 fl_X10_40 h10440 ((fld_eq (g10441 _ (by omega))).trans ((fld_eq (g10432 _ (by omega))).trans ((fld_eq (g10422 _ (by omega))).trans ((fld_eq (g10413 _ (by omega))).trans ((fld_eq (g10403 _ (by omega))).trans ((fld_eq (g10393 _ (by omega))).trans f10386)))))) ?_
      refine m_iload_n F rfl e_X10_takeText_220 ?_
      refine m_aload_n F rfl e_X10_takeText_221 ?_
      refine r_getC F e_X10_takeText_222 fl_X10_40 h10440 ((fld_eq (g10441 _ (by omega))).trans ((fld_eq (g10432 _ (by omega))).trans ((fld_eq (g10422 _ (by omega))).trans ((fld_eq (g10413 _ (by omega))).trans ((fld_eq (g10403 _ (by omega))).trans ((fld_eq (g10393 _ (by omega))).trans f10386)))))) ?_
      refine m_bipush F (v := 8) (by decide) e_X10_takeText_225 ?_
      refine m_iload_n F rfl e_X10_takeText_227 ?_
      refine m_iadd F e_X10_takeText_228 ?_
      refine Wm.topE (w := 11) (by decide) ?_
      refine r_iald F (len := 16) (j := 11) e_X10_takeText_229 h10440 (fun _ h => h) (by decide) (by decide) (by unfold vp_in; decide) (fun x10445 h10446 f10447 => ?_)
      obtain ⟨n10448, hn10448, rfl⟩ := h10446
      refine r_iast F (g' := (⟨T, Z, u, h, P10444, L⟩ : RG)) (len := 16) (j := 3) e_X10_takeText_230 h10440 (fun _ h => h) (fun f h => ⟨f, rfl, h⟩) (by decide) (by decide) (by decide) (by unfold vp_in; decide) ⟨n10448, by omega, rfl⟩ (fun _ _ _ h => h) (fun _ _ _ h => h) (fun σ10449 h10450 g10451 f10452 g10453 => ?_)
      refine m_aload_n F rfl e_X10_takeText_231 ?_
      refine r_getC F e_X10_takeText_232 fl_X10_43 h10450 ((fld_eq (g10451 _ (by omega))).trans ((fld_eq (g10441 _ (by omega))).trans ((fld_eq (g10432 _ (by omega))).trans ((fld_eq (g10422 _ (by omega))).trans ((fld_eq (g10413 _ (by omega))).trans ((fld_eq (g10403 _ (by omega))).trans f10396)))))) ?_
      refine m_iload_n F rfl e_X10_takeText_235 ?_
      refine m_aload_n F rfl e_X10_takeText_236 ?_
      refine r_getC F e_X10_takeText_237 fl_X10_43 h10450 ((fld_eq (g10451 _ (by omega))).trans ((fld_eq (g10441 _ (by omega))).trans ((fld_eq (g10432 _ (by omega))).trans ((fld_eq (g10422 _ (by omega))).trans ((fld_eq (g10413 _ (by omega))).trans ((fld_eq (g10403 _ (by omega))).trans f10396)))))) ?_
      refine m_bipush F (v := 8) (by decide) e_X10_takeText_240 ?_
      refine m_iload_n F rfl e_X10_takeText_242 ?_
      refine m_iadd F e_X10_takeText_243 ?_
      refine Wm.topE (w := 11) (by decide) ?_
      refine r_iald F (len := 16) (j := 11) e_X10_takeText_244 h10450 (fun _ h => h) (by decide) (by decide) (by unfold vp_in; decide) (fun x10454 h10455 f10456 => ?_)
      obtain ⟨n10457, hn10457, rfl, pn10457, rn10457⟩ := h10455
      refine r_iast F (g' := (⟨T, Z, u, h, (mkP P10444.n0 P10444.n2 P10444.n5 P10444.n7 P10444.m0 P10444.m5 (min 4 P10444.w7) P10444.w7 P10444.kk P10444.a), L⟩ : RG)) (len := 16) (j := 3) e_X10_takeText_245 h10450 (fun _ h => h) (fun f h => ⟨f, rfl, h⟩) (by decide) (by decide) (by decide) (by unfold vp_in; decide) ⟨n10457, by omega, rfl, fun _ h8 => rn10457 (by omega) (show 11 < 8 + P10444.w7 by have h6 : 3 < min 4 P10444.w7 := h8; omega), fun h7 _ => absurd h7 (by omega)⟩ (fun i hi y hy => by obtain ⟨n9, a9, b9, c9, d9⟩ := hy; exact ⟨n9, a9, b9, fun h7 h8 => c9 h7 (show i < P10444.w2 by have h6 : i < min 4 P10444.w7 := h8; omega), d9⟩) (by intro i hi x hx; unfold CR at hx ⊢; split at hx <;> first | exact hx | exact absurd rfl hi) (fun σ10458 h10459 g10460 f10461 g10462 => ?_)
      obtain ⟨P10463, eP10463⟩ : ∃ P9, P9 = (mkP P10444.n0 P10444.n2 P10444.n5 P10444.n7 P10444.m0 P10444.m5 (min 4 P10444.w7) P10444.w7 P10444.kk P10444.a) := ⟨_, rfl⟩
      rw [← eP10463] at h10459
      have fP10463 : P10463.n0 = P10444.n0 ∧ P10463.n2 = P10444.n2 ∧ P10463.n5 = P10444.n5 ∧ P10463.n7 = P10444.n7 ∧ P10463.m0 = P10444.m0 ∧ P10463.m5 = P10444.m5 ∧ P10463.w2 = min 4 P10444.w7 ∧ P10463.w7 = P10444.w7 ∧ P10463.kk = P10444.kk ∧ P10463.a = P10444.a := by rw [eP10463]; exact ⟨rfl, rfl, rfl, rfl, rfl, rfl, rfl, rfl, rfl, rfl⟩
      refine m_iinc F (v := 4) (lv' := [(1, .int 4), (0, .ref c)]) e_X10_takeText_246 rfl (by decide) (by decide) rfl ?_
      refine m_goto F e_X10_takeText_249 ?_
      refine m_iload_n F rfl e_X10_takeText_210 ?_
      refine m_bipush F (v := 8) (by decide) e_X10_takeText_211 ?_
      refine m_icmp_ge F e_X10_takeText_213 (fun q => absurd q (by decide)) (fun _ => ?_)
      refine m_aload_n F rfl e_X10_takeText_216 ?_
      refine r_getC F e_X10_takeText_217 fl_X10_40 h10459 ((fld_eq (g10460 _ (by omega))).trans ((fld_eq (g10451 _ (by omega))).trans ((fld_eq (g10441 _ (by omega))).trans ((fld_eq (g10432 _ (by omega))).trans ((fld_eq (g10422 _ (by omega))).trans ((fld_eq (g10413 _ (by omega))).trans ((fld_eq (g10403 _ (by omega))).trans ((fld_eq (g10393 _ (by omega))).trans f10386)))))))) ?_
      refine m_iload_n F rfl e_X10_takeText_220 ?_
      refine m_aload_n F rfl e_X10_takeText_221 ?_
      refine r_getC F e_X10_takeText_222 fl_X10_40 h10459 ((fld_eq (g10460 _ (by omega))).trans ((fld_eq (g10451 _ (by omega))).trans ((fld_eq (g10441 _ (by omega))).trans ((fld_eq (g10432 _ (by omega))).trans ((fld_eq (g10422 _ (by omega))).trans ((fld_eq (g10413 _ (by omega))).trans ((fld_eq (g10403 _ (by omega))).trans ((fld_eq (g10393 _ (by omega))).trans f10386)))))))) ?_
      refine m_bipush F (v := 8) (by decide) e_X10_takeText_225 ?_
      refine m_iload_n F rfl e_X10_takeText_227 ?_
      refine m_iadd F e_X10_takeText_228 ?_
      refine Wm.topE (w := 12) (by decide) ?_
      refine r_iald F (len := 16) (j := 12) e_X10_takeText_229 h10459 (fun _ h => h) (by decide) (by decide) (by unfold vp_in; decide) (fun x10464 h10465 f10466 => ?_)
      obtain ⟨n10467, hn10467, rfl⟩ := h10465
      refine r_iast F (g' := (⟨T, Z, u, h, P10463, L⟩ : RG)) (len := 16) (j := 4) e_X10_takeText_230 h10459 (fun _ h => h) (fun f h => ⟨f, rfl, h⟩) (by decide) (by decide) (by decide) (by unfold vp_in; decide) ⟨n10467, by omega, rfl⟩ (fun _ _ _ h => h) (fun _ _ _ h => h) (fun σ10468 h10469 g10470 f10471 g10472 => ?_)
      refine m_aload_n F rfl e_X10_takeText_231 ?_
      refine r_getC F e_X10_takeText_232 fl_X10_43 h10469 ((fld_eq (g10470 _ (by omega))).trans ((fld_eq (g10460 _ (by omega))).trans ((fld_eq (g10451 _ (by omega))).trans ((fld_eq (g10441 _ (by omega))).trans ((fld_eq (g10432 _ (by omega))).trans ((fld_eq (g10422 _ (by omega))).trans ((fld_eq (g10413 _ (by omega))).trans ((fld_eq (g10403 _ (by omega))).trans f10396)))))))) ?_
      refine m_iload_n F rfl e_X10_takeText_235 ?_
      refine m_aload_n F rfl e_X10_takeText_236 ?_
      refine r_getC F e_X10_takeText_237 fl_X10_43 h10469 ((fld_eq (g10470 _ (by omega))).trans ((fld_eq (g10460 _ (by omega))).trans ((fld_eq (g10451 _ (by omega))).trans ((fld_eq (g10441 _ (by omega))).trans ((fld_eq (g10432 _ (by omega))).trans ((fld_eq (g10422 _ (by omega))).trans ((fld_eq (g10413 _ (by omega))).trans ((fld_eq (g10403 _ (by omega))).trans f10396)))))))) ?_
      refine m_bipush F (v := 8) (by decide) e_X10_takeText_240 ?_
      refine m_iload_n F rfl e_X10_takeText_242 ?_
      refine m_iadd F e_X10_takeText_243 ?_
      refine Wm.topE (w := 12) (by decide) ?_
      refine r_iald F (len := 16) (j := 12) e_X10_takeText_244 h10469 (fun _ h => h) (by decide) (by decide) (by unfold vp_in; decide) (fun x10473 h10474 f10475 => ?_)
      obtain ⟨n10476, hn10476, rfl, pn10476, rn10476⟩ := h10474
      refine r_iast F (g' := (⟨T, Z, u, h, (mkP P10463.n0 P10463.n2 P10463.n5 P10463.n7 P10463.m0 P10463.m5 (min 5 P10463.w7) P10463.w7 P10463.kk P10463.a), L⟩ : RG)) (len := 16) (j := 4) e_X10_takeText_245 h10469 (fun _ h => h) (fun f h => ⟨f, rfl, h⟩) (by decide) (by decide) (by decide) (by unfold vp_in; decide) ⟨n10476, by omega, rfl, fun _ h8 => rn10476 (by omega) (show 12 < 8 + P10463.w7 by have h6 : 4 < min 5 P10463.w7 := h8; omega), fun h7 _ => absurd h7 (by omega)⟩ (fun i hi y hy => by obtain ⟨n9, a9, b9, c9, d9⟩ := hy; exact ⟨n9, a9, b9, fun h7 h8 => c9 h7 (show i < P10463.w2 by have h6 : i < min 5 P10463.w7 := h8; omega), d9⟩) (by intro i hi x hx; unfold CR at hx ⊢; split at hx <;> first | exact hx | exact absurd rfl hi) (fun σ10477 h10478 g10479 f10480 g10481 => ?_)
      obtain ⟨P10482, eP10482⟩ : ∃ P9, P9 = (mkP P10463.n0 P10463.n2 P10463.n5 P10463.n7 P10463.m0 P10463.m5 (min 5 P10463.w7) P10463.w7 P10463.kk P10463.a) := ⟨_, rfl⟩
      rw [← eP10482] at h10478
      have fP10482 : P10482.n0 = P10463.n0 ∧ P10482.n2 = P10463.n2 ∧ P10482.n5 = P10463.n5 ∧ P10482.n7 = P10463.n7 ∧ P10482.m0 = P10463.m0 ∧ P10482.m5 = P10463.m5 ∧ P10482.w2 = min 5 P10463.w7 ∧ P10482.w7 = P10463.w7 ∧ P10482.kk = P10463.kk ∧ P10482.a = P10463.a := by rw [eP10482]; exact ⟨rfl, rfl, rfl, rfl, rfl, rfl, rfl, rfl, rfl, rfl⟩
      refine m_iinc F (v := 5) (lv' := [(1, .int 5), (0, .ref c)]) e_X10_takeText_246 rfl (by decide) (by decide) rfl ?_
      refine m_goto F e_X10_takeText_249 ?_
      refine m_iload_n F rfl e_X10_takeText_210 ?_
      refine m_bipush F (v := 8) (by decide) e_X10_takeText_211 ?_
      refine m_icmp_ge F e_X10_takeText_213 (fun q => absurd q (by decide)) (fun _ => ?_)
      refine m_aload_n F rfl e_X10_takeText_216 ?_
      refine r_getC F e_X10_takeText_217 fl_X10_40 h10478 ((fld_eq (g10479 _ (by omega))).trans ((fld_eq (g10470 _ (by omega))).trans ((fld_eq (g10460 _ (by omega))).trans ((fld_eq (g10451 _ (by omega))).trans ((fld_eq (g10441 _ (by omega))).trans ((fld_eq (g10432 _ (by omega))).trans ((fld_eq (g10422 _ (by omega))).trans ((fld_eq (g10413 _ (by omega))).trans ((fld_eq (g10403 _ (by omega))).trans ((fld_eq (g10393 _ (by omega))).trans f10386)))))))))) ?_
      refine m_iload_n F rfl e_X10_takeText_220 ?_
      refine m_aload_n F rfl e_X10_takeText_221 ?_
      refine r_getC F e_X10_takeText_222 fl_X10_40 h10478 ((fld_eq (g10479 _ (by omega))).trans ((fld_eq (g10470 _ (by omega))).trans ((fld_eq (g10460 _ (by omega))).trans ((fld_eq (g10451 _ (by omega))).trans ((fld_eq (g10441 _ (by omega))).trans ((fld_eq (g10432 _ (by omega))).trans ((fld_eq (g10422 _ (by omega))).trans ((fld_eq (g10413 _ (by omega))).trans ((fld_eq (g10403 _ (by omega))).trans ((fld_eq (g10393 _ (by omega))).trans f10386)))))))))) ?_
      refine m_bipush F (v := 8) (by decide) e_X10_takeText_225 ?_
      refine m_iload_n F rfl e_X10_takeText_227 ?_
      refine m_iadd F e_X10_takeText_228 ?_
      refine Wm.topE (w := 13) (by decide) ?_
      refine r_iald F (len := 16) (j := 13) e_X10_takeText_229 h10478 (fun _ h => h) (by decide) (by decide) (by unfold vp_in; decide) (fun x10483 h10484 f10485 => ?_)
      obtain ⟨n10486, hn10486, rfl⟩ := h10484
      refine r_iast F (g' := (⟨T, Z, u, h, P10482, L⟩ : RG)) (len := 16) (j := 5) e_X10_takeText_230 h10478 (fun _ h => h) (fun f h => ⟨f, rfl, h⟩) (by decide) (by decide) (by decide) (by unfold vp_in; decide) ⟨n10486, by omega, rfl⟩ (fun _ _ _ h => h) (fun _ _ _ h => h) (fun σ10487 h10488 g10489 f10490 g10491 => ?_)
      refine m_aload_n F rfl e_X10_takeText_231 ?_
      refine r_getC F e_X10_takeText_232 fl_X10_43 h10488 ((fld_eq (g10489 _ (by omega))).trans ((fld_eq (g10479 _ (by omega))).trans ((fld_eq (g10470 _ (by omega))).trans ((fld_eq (g10460 _ (by omega))).trans ((fld_eq (g10451 _ (by omega))).trans ((fld_eq (g10441 _ (by omega))).trans ((fld_eq (g10432 _ (by omega))).trans ((fld_eq (g10422 _ (by omega))).trans ((fld_eq (g10413 _ (by omega))).trans ((fld_eq (g10403 _ (by omega))).trans f10396)))))))))) ?_
      refine m_iload_n F rfl e_X10_takeText_235 ?_
      refine m_aload_n F rfl e_X10_takeText_236 ?_
      refine r_getC F e_X10_takeText_237 fl_X10_43 h10488 ((fld_eq (g10489 _ (by omega))).trans ((fld_eq (g10479 _ (by omega))).trans ((fld_eq (g10470 _ (by omega))).trans ((fld_eq (g10460 _ (by omega))).trans ((fld_eq (g10451 _ (by omega))).trans ((fld_eq (g10441 _ (by omega))).trans ((fld_eq (g10432 _ (by omega))).trans ((fld_eq (g10422 _ (by omega))).trans ((fld_eq (g10413 _ (by omega))).trans ((fld_eq (g10403 _ (by omega))).trans f10396)))))))))) ?_
      refine m_bipush F (v := 8) (by decide) e_X10_takeText_240 ?_
      refine m_iload_n F rfl e_X10_takeText_242 ?_
      refine m_iadd F e_X10_takeText_243 ?_
      refine Wm.topE (w := 13) (by decide) ?_
      refine r_iald F (len := 16) (j := 13) e_X10_takeText_244 h10488 (fun _ h => h) (by decide) (by decide) (by unfold vp_in; decide) (fun x10492 h10493 f10494 => ?_)
      obtain ⟨n10495, hn10495, rfl, pn10495, rn10495⟩ := h10493
      refine r_iast F (g' := (⟨T, Z, u, h, (mkP P10482.n0 P10482.n2 P10482.n5 P10482.n7 P10482.m0 P10482.m5 (min 6 P10482.w7) P10482.w7 P10482.kk P10482.a), L⟩ : RG)) (len := 16) (j := 5) e_X10_takeText_245 h10488 (fun _ h => h) (fun f h => ⟨f, rfl, h⟩) (by decide) (by decide) (by decide) (by unfold vp_in; decide) ⟨n10495, by omega, rfl, fun _ h8 => rn10495 (by omega) (show 13 < 8 + P10482.w7 by have h6 : 5 < min 6 P10482.w7 := h8; omega), fun h7 _ => absurd h7 (by omega)⟩ (fun i hi y hy => by obtain ⟨n9, a9, b9, c9, d9⟩ := hy; exact ⟨n9, a9, b9, fun h7 h8 => c9 h7 (show i < P10482.w2 by have h6 : i < min 6 P10482.w7 := h8; omega), d9⟩) (by intro i hi x hx; unfold CR at hx ⊢; split at hx <;> first | exact hx | exact absurd rfl hi) (fun σ10496 h10497 g10498 f10499 g10500 => ?_)
      obtain ⟨P10501, eP10501⟩ : ∃ P9, P9 = (mkP P10482.n0 P10482.n2 P10482.n5 P10482.n7 P10482.m0 P10482.m5 (min 6 P10482.w7) P10482.w7 P10482.kk P10482.a) := ⟨_, rfl⟩
      rw [← eP10501] at h10497
      have fP10501 : P10501.n0 = P10482.n0 ∧ P10501.n2 = P10482.n2 ∧ P10501.n5 = P10482.n5 ∧ P10501.n7 = P10482.n7 ∧ P10501.m0 = P10482.m0 ∧ P10501.m5 = P10482.m5 ∧ P10501.w2 = min 6 P10482.w7 ∧ P10501.w7 = P10482.w7 ∧ P10501.kk = P10482.kk ∧ P10501.a = P10482.a := by rw [eP10501]; exact ⟨rfl, rfl, rfl, rfl, rfl, rfl, rfl, rfl, rfl, rfl⟩
      refine m_iinc F (v := 6) (lv' := [(1, .int 6), (0, .ref c)]) e_X10_takeText_246 rfl (by decide) (by decide) rfl ?_
      refine m_goto F e_X10_takeText_249 ?_
      refine m_iload_n F rfl e_X10_takeText_210 ?_
      refine m_bipush F (v := 8) (by decide) e_X10_takeText_211 ?_
      refine m_icmp_ge F e_X10_takeText_213 (fun q => absurd q (by decide)) (fun _ => ?_)
      refine m_aload_n F rfl e_X10_takeText_216 ?_
      refine r_getC F e_X10_takeText_217 fl_X10_40 h10497 ((fld_eq (g10498 _ (by omega))).trans ((fld_eq (g10489 _ (by omega))).trans ((fld_eq (g10479 _ (by omega))).trans ((fld_eq (g10470 _ (by omega))).trans ((fld_eq (g10460 _ (by omega))).trans ((fld_eq (g10451 _ (by omega))).trans ((fld_eq (g10441 _ (by omega))).trans ((fld_eq (g10432 _ (by omega))).trans ((fld_eq (g10422 _ (by omega))).trans ((fld_eq (g10413 _ (by omega))).trans ((fld_eq (g10403 _ (by omega))).trans ((fld_eq (g10393 _ (by omega))).trans f10386)))))))))))) ?_
      refine m_iload_n F rfl e_X10_takeText_220 ?_
      refine m_aload_n F rfl e_X10_takeText_221 ?_
      refine r_getC F e_X10_takeText_222 fl_X10_40 h10497 ((fld_eq (g10498 _ (by omega))).trans ((fld_eq (g10489 _ (by omega))).trans ((fld_eq (g10479 _ (by omega))).trans ((fld_eq (g10470 _ (by omega))).trans ((fld_eq (g10460 _ (by omega))).trans ((fld_eq (g10451 _ (by omega))).trans ((fld_eq (g10441 _ (by omega))).trans ((fld_eq (g10432 _ (by omega))).trans ((fld_eq (g10422 _ (by omega))).trans ((fld_eq (g10413 _ (by omega))).trans ((fld_eq (g10403 _ (by omega))).trans ((fld_eq (g10393 _ (by omega))).trans f10386)))))))))))) ?_
      refine m_bipush F (v := 8) (by decide) e_X10_takeText_225 ?_
      refine m_iload_n F rfl e_X10_takeText_227 ?_
      refine m_iadd F e_X10_takeText_228 ?_
      refine Wm.topE (w := 14) (by decide) ?_
      refine r_iald F (len := 16) (j := 14) e_X10_takeText_229 h10497 (fun _ h => h) (by decide) (by decide) (by unfold vp_in; decide) (fun x10502 h10503 f10504 => ?_)
      obtain ⟨n10505, hn10505, rfl⟩ := h10503
      refine r_iast F (g' := (⟨T, Z, u, h, P10501, L⟩ : RG)) (len := 16) (j := 6) e_X10_takeText_230 h10497 (fun _ h => h) (fun f h => ⟨f, rfl, h⟩) (by decide) (by decide) (by decide) (by unfold vp_in; decide) ⟨n10505, by omega, rfl⟩ (fun _ _ _ h => h) (fun _ _ _ h => h) (fun σ10506 h10507 g10508 f10509 g10510 => ?_)
      refine m_aload_n F rfl e_X10_takeText_231 ?_
      refine r_getC F e_X10_takeText_232 fl_X10_43 h10507 ((fld_eq (g10508 _ (by omega))).trans ((fld_eq (g10498 _ (by omega))).trans ((fld_eq (g10489 _ (by omega))).trans ((fld_eq (g10479 _ (by omega))).trans ((fld_eq (g10470 _ (by omega))).trans ((fld_eq (g10460 _ (by omega))).trans ((fld_eq (g10451 _ (by omega))).trans ((fld_eq (g10441 _ (by omega))).trans ((fld_eq (g10432 _ (by omega))).trans ((fld_eq (g10422 _ (by omega))).trans ((fld_eq (g10413 _ (by omega))).trans ((fld_eq (g10403 _ (by omega))).trans f10396)))))))))))) ?_
      refine m_iload_n F rfl e_X10_takeText_235 ?_
      refine m_aload_n F rfl e_X10_takeText_236 ?_
      refine r_getC F e_X10_takeText_237 fl_X10_43 h10507 ((fld_eq (g10508 _ (by omega))).trans ((fld_eq (g10498 _ (by omega))).trans ((fld_eq (g10489 _ (by omega))).trans ((fld_eq (g10479 _ (by omega))).trans ((fld_eq (g10470 _ (by omega))).trans ((fld_eq (g10460 _ (by omega))).trans ((fld_eq (g10451 _ (by omega))).trans ((fld_eq (g10441 _ (by omega))).trans ((fld_eq (g10432 _ (by omega))).trans ((fld_eq (g10422 _ (by omega))).trans ((fld_eq (g10413 _ (by omega))).trans ((fld_eq (g10403 _ (by omega))).trans f10396)))))))))))) ?_
      refine m_bipush F (v := 8) (by decide) e_X10_takeText_240 ?_
      refine m_iload_n F rfl e_X10_takeText_242 ?_
      refine m_iadd F e_X10_takeText_243 ?_
      refine Wm.topE (w := 14) (by decide) ?_
      refine r_iald F (len := 16) (j := 14) e_X10_takeText_244 h10507 (fun _ h => h) (by decide) (by decide) (by unfold vp_in; decide) (fun x10511 h10512 f10513 => ?_)
      obtain ⟨n10514, hn10514, rfl, pn10514, rn10514⟩ := h10512
      refine r_iast F (g' := (⟨T, Z, u, h, (mkP P10501.n0 P10501.n2 P10501.n5 P10501.n7 P10501.m0 P10501.m5 (min 7 P10501.w7) P10501.w7 P10501.kk P10501.a), L⟩ : RG)) (len := 16) (j := 6) e_X10_takeText_245 h10507 (fun _ h => h) (fun f h => ⟨f, rfl, h⟩) (by decide) (by decide) (by decide) (by unfold vp_in; decide) ⟨n10514, by omega, rfl, fun _ h8 => rn10514 (by omega) (show 14 < 8 + P10501.w7 by have h6 : 6 < min 7 P10501.w7 := h8; omega), fun h7 _ => absurd h7 (by omega)⟩ (fun i hi y hy => by obtain ⟨n9, a9, b9, c9, d9⟩ := hy; exact ⟨n9, a9, b9, fun h7 h8 => c9 h7 (show i < P10501.w2 by have h6 : i < min 7 P10501.w7 := h8; omega), d9⟩) (by intro i hi x hx; unfold CR at hx ⊢; split at hx <;> first | exact hx | exact absurd rfl hi) (fun σ10515 h10516 g10517 f10518 g10519 => ?_)
      obtain ⟨P10520, eP10520⟩ : ∃ P9, P9 = (mkP P10501.n0 P10501.n2 P10501.n5 P10501.n7 P10501.m0 P10501.m5 (min 7 P10501.w7) P10501.w7 P10501.kk P10501.a) := ⟨_, rfl⟩
      rw [← eP10520] at h10516
      have fP10520 : P10520.n0 = P10501.n0 ∧ P10520.n2 = P10501.n2 ∧ P10520.n5 = P10501.n5 ∧ P10520.n7 = P10501.n7 ∧ P10520.m0 = P10501.m0 ∧ P10520.m5 = P10501.m5 ∧ P10520.w2 = min 7 P10501.w7 ∧ P10520.w7 = P10501.w7 ∧ P10520.kk = P10501.kk ∧ P10520.a = P10501.a := by rw [eP10520]; exact ⟨rfl, rfl, rfl, rfl, rfl, rfl, rfl, rfl, rfl, rfl⟩
      refine m_iinc F (v := 7) (lv' := [(1, .int 7), (0, .ref c)]) e_X10_takeText_246 rfl (by decide) (by decide) rfl ?_
      refine m_goto F e_X10_takeText_249 ?_
      refine m_iload_n F rfl e_X10_takeText_210 ?_
      refine m_bipush F (v := 8) (by decide) e_X10_takeText_211 ?_
      refine m_icmp_ge F e_X10_takeText_213 (fun q => absurd q (by decide)) (fun _ => ?_)
      refine m_aload_n F rfl e_X10_takeText_216 ?_
      refine r_getC F e_X10_takeText_217 fl_X10_40 h10516 ((fld_eq (g10517 _ (by omega))).trans ((fld_eq (g10508 _ (by omega))).trans ((fld_eq (g10498 _ (by omega))).trans ((fld_eq (g10489 _ (by omega))).trans ((fld_eq (g10479 _ (by omega))).trans ((fld_eq (g10470 _ (by omega))).trans ((fld_eq (g10460 _ (by omega))).trans ((fld_eq (g10451 _ (by omega))).trans ((fld_eq (g10441 _ (by omega))).trans ((fld_eq (g10432 _ (by omega))).trans ((fld_eq (g10422 _ (by omega))).trans ((fld_eq (g10413 _ (by omega))).trans ((fld_eq (g10403 _ (by omega))).trans ((fld_eq (g10393 _ (by omega))).trans f10386)))))))))))))) ?_
      refine m_iload_n F rfl e_X10_takeText_220 ?_
      refine m_aload_n F rfl e_X10_takeText_221 ?_
      refine r_getC F e_X10_takeText_222 fl_X10_40 h10516 ((fld_eq (g10517 _ (by omega))).trans ((fld_eq (g10508 _ (by omega))).trans ((fld_eq (g10498 _ (by omega))).trans ((fld_eq (g10489 _ (by omega))).trans ((fld_eq (g10479 _ (by omega))).trans ((fld_eq (g10470 _ (by omega))).trans ((fld_eq (g10460 _ (by omega))).trans ((fld_eq (g10451 _ (by omega))).trans ((fld_eq (g10441 _ (by omega))).trans ((fld_eq (g10432 _ (by omega))).trans ((fld_eq (g10422 _ (by omega))).trans ((fld_eq (g10413 _ (by omega))).trans ((fld_eq (g10403 _ (by omega))).trans ((fld_eq (g10393 _ (by omega))).trans f10386)))))))))))))) ?_
      refine m_bipush F (v := 8) (by decide) e_X10_takeText_225 ?_
      refine m_iload_n F rfl e_X10_takeText_227 ?_
      refine m_iadd F e_X10_takeText_228 ?_
      refine Wm.topE (w := 15) (by decide) ?_
      refine r_iald F (len := 16) (j := 15) e_X10_takeText_229 h10516 (fun _ h => h) (by decide) (by decide) (by unfold vp_in; decide) (fun x10521 h10522 f10523 => ?_)
      obtain ⟨n10524, hn10524, rfl⟩ := h10522
      refine r_iast F (g' := (⟨T, Z, u, h, P10520, L⟩ : RG)) (len := 16) (j := 7) e_X10_takeText_230 h10516 (fun _ h => h) (fun f h => ⟨f, rfl, h⟩) (by decide) (by decide) (by decide) (by unfold vp_in; decide) ⟨n10524, by omega, rfl⟩ (fun _ _ _ h => h) (fun _ _ _ h => h) (fun σ10525 h10526 g10527 f10528 g10529 => ?_)
      refine m_aload_n F rfl e_X10_takeText_231 ?_
      refine r_getC F e_X10_takeText_232 fl_X10_43 h10526 ((fld_eq (g10527 _ (by omega))).trans ((fld_eq (g10517 _ (by omega))).trans ((fld_eq (g10508 _ (by omega))).trans ((fld_eq (g10498 _ (by omega))).trans ((fld_eq (g10489 _ (by omega))).trans ((fld_eq (g10479 _ (by omega))).trans ((fld_eq (g10470 _ (by omega))).trans ((fld_eq (g10460 _ (by omega))).trans ((fld_eq (g10451 _ (by omega))).trans ((fld_eq (g10441 _ (by omega))).trans ((fld_eq (g10432 _ (by omega))).trans ((fld_eq (g10422 _ (by omega))).trans ((fld_eq (g10413 _ (by omega))).trans ((fld_eq (g10403 _ (by omega))).trans f10396)))))))))))))) ?_
      refine m_iload_n F rfl e_X10_takeText_235 ?_
      refine m_aload_n F rfl e_X10_takeText_236 ?_
      refine r_getC F e_X10_takeText_237 fl_X10_43 h10526 ((fld_eq (g10527 _ (by omega))).trans ((fld_eq (g10517 _ (by omega))).trans ((fld_eq (g10508 _ (by omega))).trans ((fld_eq (g10498 _ (by omega))).trans ((fld_eq (g10489 _ (by omega))).trans ((fld_eq (g10479 _ (by omega))).trans ((fld_eq (g10470 _ (by omega))).trans ((fld_eq (g10460 _ (by omega))).trans ((fld_eq (g10451 _ (by omega))).trans ((fld_eq (g10441 _ (by omega))).trans ((fld_eq (g10432 _ (by omega))).trans ((fld_eq (g10422 _ (by omega))).trans ((fld_eq (g10413 _ (by omega))).trans ((fld_eq (g10403 _ (by omega))).trans f10396)))))))))))))) ?_
      refine m_bipush F (v := 8) (by decide) e_X10_takeText_240 ?_
      refine m_iload_n F rfl e_X10_takeText_242 ?_
      refine m_iadd F e_X10_takeText_243 ?_
      refine Wm.topE (w := 15) (by decide) ?_
      refine r_iald F (len := 16) (j := 15) e_X10_takeText_244 h10526 (fun _ h => h) (by decide) (by decide) (by unfold vp_in; decide) (fun x10530 h10531 f10532 => ?_)
      obtain ⟨n10533, hn10533, rfl, pn10533, rn10533⟩ := h10531
      refine r_iast F (g' := (⟨T, Z, u, h, (mkP P10520.n0 P10520.n2 P10520.n5 P10520.n7 P10520.m0 P10520.m5 (min 8 P10520.w7) P10520.w7 P10520.kk P10520.a), L⟩ : RG)) (len := 16) (j := 7) e_X10_takeText_245 h10526 (fun _ h => h) (fun f h => ⟨f, rfl, h⟩) (by decide) (by decide) (by decide) (by unfold vp_in; decide) ⟨n10533, by omega, rfl, fun _ h8 => rn10533 (by omega) (show 15 < 8 + P10520.w7 by have h6 : 7 < min 8 P10520.w7 := h8; omega), fun h7 _ => absurd h7 (by omega)⟩ (fun i hi y hy => by obtain ⟨n9, a9, b9, c9, d9⟩ := hy; exact ⟨n9, a9, b9, fun h7 h8 => c9 h7 (show i < P10520.w2 by have h6 : i < min 8 P10520.w7 := h8; omega), d9⟩) (by intro i hi x hx; unfold CR at hx ⊢; split at hx <;> first | exact hx | exact absurd rfl hi) (fun σ10534 h10535 g10536 f10537 g10538 => ?_)
      obtain ⟨P10539, eP10539⟩ : ∃ P9, P9 = (mkP P10520.n0 P10520.n2 P10520.n5 P10520.n7 P10520.m0 P10520.m5 (min 8 P10520.w7) P10520.w7 P10520.kk P10520.a) := ⟨_, rfl⟩
      rw [← eP10539] at h10535
      have fP10539 : P10539.n0 = P10520.n0 ∧ P10539.n2 = P10520.n2 ∧ P10539.n5 = P10520.n5 ∧ P10539.n7 = P10520.n7 ∧ P10539.m0 = P10520.m0 ∧ P10539.m5 = P10520.m5 ∧ P10539.w2 = min 8 P10520.w7 ∧ P10539.w7 = P10520.w7 ∧ P10539.kk = P10520.kk ∧ P10539.a = P10520.a := by rw [eP10539]; exact ⟨rfl, rfl, rfl, rfl, rfl, rfl, rfl, rfl, rfl, rfl⟩
      refine m_iinc F (v := 8) (lv' := [(1, .int 8), (0, .ref c)]) e_X10_takeText_246 rfl (by decide) (by decide) rfl ?_
      refine m_goto F e_X10_takeText_249 ?_
      refine m_iload_n F rfl e_X10_takeText_210 ?_
      refine m_bipush F (v := 8) (by decide) e_X10_takeText_211 ?_
      refine m_icmp_ge F e_X10_takeText_213 (fun _ => ?_) (fun q => absurd (by decide) q)
      have oP10540 : OKP P10539 := by unfold OKP; omega
      exact m_vret F hQ e_X10_takeText_252 (⟨P10539, oP10540, (by unfold RT; omega), h10535, rfl⟩)
    · have c183 : i < 192 := by have hh := mt (nI_leI (a := 192) (b := i) (by omega) (by omega)).mpr q183; omega
      refine m_aload_n F rfl e_X10_takeText_186 ?_
      refine r_get F e_X10_takeText_187 fl_X10_37 h1 rfl (fun v hv f10541 => ?_)
      obtain rfl : v = .ref (c + 10) := hv
      refine m_iload_n F rfl e_X10_takeText_190 ?_
      refine m_aload_n F rfl e_X10_takeText_191 ?_
      refine r_getC F e_X10_takeText_192 fl_X10_37 h1 (f10541) ?_
      refine m_sipush F (v := 192) (by decide) e_X10_takeText_195 ?_
      refine m_iload_n F rfl e_X10_takeText_198 ?_
      refine m_iadd F e_X10_takeText_199 ?_
      refine Wm.topE (w := nI (192 + i)) (nI_add 192 i) ?_
      refine r_iald F (len := 384) (j := 192 + i) e_X10_takeText_200 h1 (fun _ h => h) (by decide) (nI_clamp (by omega)) (vp_in_nI (by omega) (by decide)) (fun x10542 h10543 f10544 => ?_)
      refine r_iast F (g' := (⟨T, Z, u, h, P1, L⟩ : RG)) (len := 384) (j := i) e_X10_takeText_201 h1 (fun _ h => h) (fun f h => ⟨f, rfl, h⟩) (by decide) (by decide) (nI_clamp (by omega)) (vp_in_nI (by omega) (by decide)) trivial (fun _ _ _ h => h) (fun _ _ _ h => h) (fun σ10545 h10546 g10547 f10548 g10549 => ?_)
      refine m_iinc F (v := nI (i + 1)) (lv' := [(1, .int (nI (i + 1))), (0, .ref c)]) e_X10_takeText_202 rfl (nI_add i 1) (by decide) rfl ?_
      refine m_goto F e_X10_takeText_205 ?_
      refine Wm.lvsub (lv' := [(0, .ref c), (1, .int (nI (i + 1)))]) ?_ [1, 0] rfl
      exact ih (i + 1) P1 _ h10546 hP1 (by unfold RT3; omega) (by omega) (by omega)
set_option maxRecDepth 20000 in
theorem q_X10_takeText (l : Launch) (V : VX) (c T Z u h : Nat) (P : NP) (L : Nat → LQ) (N : Nat) (σ : Mem)  (h0 : HR V c ⟨T, Z, u, h, P, L⟩ σ) (hob : OKB L) (hP : OKP P)  : Ct l V yX10_takeText cX10_takeText 2 none 1 0 0 N σ [.ref c] (fun r τ => ∃ P9 : NP, OKP P9 ∧ RT P P9 ∧ HS V c (⟨T, Z, u, h, P9, L⟩ : RG) [0, 1, 2, 17, 18, 19, 20, 21, 22, 23] σ τ ∧ r = none) := by
  refine Ct.of (by decide) (Nat.le_of_ble_eq_true rfl) [(0, .ref c)] rfl (fun X hX F hQ => ?_)
  have hPP := hP
  unfold OKP at hPP
  have h1 : HS V c ⟨T, Z, u, h, P, L⟩ [0, 1, 2, 17, 18, 19, 20, 21, 22, 23] σ σ := HS.start h0
  have h2 : HS V c (⟨T, Z, u, h, (mkP P.n0 P.n2 P.n5 P.n7 0 P.m5 0 P.w7 P.kk P.a), L⟩ : RG) [0, 1, 2, 17, 18, 19, 20, 21, 22, 23] σ σ := HS.start (HR.forget h0)
  obtain ⟨P10550, eP10550⟩ : ∃ P9, P9 = (mkP P.n0 P.n2 P.n5 P.n7 0 P.m5 0 P.w7 P.kk P.a) := ⟨_, rfl⟩
  rw [← eP10550] at h2
  have fP10550 : P10550.n0 = P.n0 ∧ P10550.n2 = P.n2 ∧ P10550.n5 = P.n5 ∧ P10550.n7 = P.n7 ∧ P10550.m0 = 0 ∧ P10550.m5 = P.m5 ∧ P10550.w2 = 0 ∧ P10550.w7 = P.w7 ∧ P10550.kk = P.kk ∧ P10550.a = P.a := by rw [eP10550]; exact ⟨rfl, rfl, rfl, rfl, rfl, rfl, rfl, rfl, rfl, rfl⟩
  refine m_iconst F (v := 0) (by decide) e_X10_takeText_0 ?_
  refine m_istore_n F (lv' := [(1, .int 0), (0, .ref c)]) e_X10_takeText_1 (by decide) rfl ?_
  refine m_iload_n F rfl e_X10_takeText_2 ?_
  refine m_iconst F (v := 5) (by decide) e_X10_takeText_3 ?_
  refine m_icmp_ge F e_X10_takeText_4 (fun q => absurd q (by decide)) (fun _ => ?_)
  refine m_aload_n F rfl e_X10_takeText_7 ?_
  refine r_get F e_X10_takeText_8 fl_X10_13 h2 rfl (fun v hv f10551 => ?_)
  obtain rfl : v = .ref (c + 2) := hv
  refine m_iload_n F rfl e_X10_takeText_11 ?_
  refine m_aload_n F rfl e_X10_takeText_12 ?_
  refine m_iload_n F rfl e_X10_takeText_13 ?_
  have oP10555 : OKP P10550 := by unfold OKP; omega
  refine r_callV F e_X10_takeText_14 (q_X10_reading0 (x_l X) V c T Z u h P10550 L _ _  h2.1 (hob) oP10555 ) cb_X10_reading ml_X10_157 im_X10_reading se_X10_reading h2 rfl rfl (rest := [.int 0, .ref (c + 2)]) rfl (Nat.le_of_ble_eq_true rfl) ⟨Nat.le_of_ble_eq_true rfl, Nat.le_of_ble_eq_true rfl⟩ ⟨Nat.le_of_ble_eq_true rfl, Nat.le_of_ble_eq_true rfl⟩ (fun r σ10552 hp => ?_)
  obtain ⟨h10553, rfl⟩ := hp
  have h10554 := HS.trans h2 h10553 (by decide)
  refine r_iast F (g' := (⟨T, Z, u, h, (mkP P10550.n5 P10550.n2 P10550.n5 P10550.n7 P10550.m0 P10550.m5 P10550.w2 P10550.w7 P10550.kk P10550.a), L⟩ : RG)) (len := 10) (j := 0) e_X10_takeText_17 h10554 (fun _ h => h) (fun f h => ⟨f, rfl, h⟩) (by decide) (by decide) (by decide) (by unfold vp_in; decide) (by refine ⟨?_, ?_, ?_, ?_, ?_, ?_⟩ <;> intro e <;> first | exact absurd e (by decide) | rfl | exact ⟨_, by omega, rfl⟩) (fun i hi y hy => ⟨fun e => absurd e hi, hy.2.1, hy.2.2.1, hy.2.2.2.1, hy.2.2.2.2.1, hy.2.2.2.2.2⟩) (by intro i hi x hx; unfold CR at hx ⊢; split at hx <;> first | exact hx | exact absurd rfl hi) (fun σ10556 h10557 g10558 f10559 g10560 => ?_)
  obtain ⟨P10561, eP10561⟩ : ∃ P9, P9 = (mkP P10550.n5 P10550.n2 P10550.n5 P10550.n7 P10550.m0 P10550.m5 P10550.w2 P10550.w7 P10550.kk P10550.a) := ⟨_, rfl⟩
  rw [← eP10561] at h10557
  have fP10561 : P10561.n0 = P10550.n5 ∧ P10561.n2 = P10550.n2 ∧ P10561.n5 = P10550.n5 ∧ P10561.n7 = P10550.n7 ∧ P10561.m0 = P10550.m0 ∧ P10561.m5 = P10550.m5 ∧ P10561.w2 = P10550.w2 ∧ P10561.w7 = P10550.w7 ∧ P10561.kk = P10550.kk ∧ P10561.a = P10550.a := by rw [eP10561]; exact ⟨rfl, rfl, rfl, rfl, rfl, rfl, rfl, rfl, rfl, rfl⟩
  refine m_iinc F (v := 1) (lv' := [(1, .int 1), (0, .ref c)]) e_X10_takeText_18 rfl (by decide) (by decide) rfl ?_
  refine m_goto F e_X10_takeText_21 ?_
  refine m_iload_n F rfl e_X10_takeText_2 ?_
  refine m_iconst F (v := 5) (by decide) e_X10_takeText_3 ?_
  refine m_icmp_ge F e_X10_takeText_4 (fun q => absurd q (by decide)) (fun _ => ?_)
  refine m_aload_n F rfl e_X10_takeText_7 ?_
  refine r_getC F e_X10_takeText_8 fl_X10_13 h10557 ((fld_eq (g10558 _ (by omega))).trans ((fld_eq (h10553.2 c (by rw [show kC c c = 1 from kC_at (k := 0) (by decide)]; decide))).trans f10551)) ?_
  refine m_iload_n F rfl e_X10_takeText_11 ?_
  refine m_aload_n F rfl e_X10_takeText_12 ?_
  refine m_iload_n F rfl e_X10_takeText_13 ?_
  have oP10565 : OKP P10561 := by unfold OKP; omega
  refine r_callV F e_X10_takeText_14 (q_X10_reading1 (x_l X) V c T Z u h P10561 L _ _  h10557.1 (hob) oP10565 ) cb_X10_reading ml_X10_157 im_X10_reading se_X10_reading h10557 rfl rfl (rest := [.int 1, .ref (c + 2)]) rfl (Nat.le_of_ble_eq_true rfl) ⟨Nat.le_of_ble_eq_true rfl, Nat.le_of_ble_eq_true rfl⟩ ⟨Nat.le_of_ble_eq_true rfl, Nat.le_of_ble_eq_true rfl⟩ (fun r σ10562 hp => ?_)
  obtain ⟨h10563, x10566, rfl⟩ := hp
  have h10564 := HS.trans h10557 h10563 (by decide)
  refine r_iast F (g' := (⟨T, Z, u, h, P10561, L⟩ : RG)) (len := 10) (j := 1) e_X10_takeText_17 h10564 (fun _ h => h) (fun f h => ⟨f, rfl, h⟩) (by decide) (by decide) (by decide) (by unfold vp_in; decide) (by refine ⟨?_, ?_, ?_, ?_, ?_, ?_⟩ <;> intro e <;> first | exact absurd e (by decide) | rfl | exact ⟨_, by omega, rfl⟩) (fun _ _ _ h => h) (fun _ _ _ h => h) (fun σ10567 h10568 g10569 f10570 g10571 => ?_)
  refine m_iinc F (v := 2) (lv' := [(1, .int 2), (0, .ref c)]) e_X10_takeText_18 rfl (by decide) (by decide) rfl ?_
  refine m_goto F e_X10_takeText_21 ?_
  refine m_iload_n F rfl e_X10_takeText_2 ?_
  refine m_iconst F (v := 5) (by decide) e_X10_takeText_3 ?_
  refine m_icmp_ge F e_X10_takeText_4 (fun q => absurd q (by decide)) (fun _ => ?_)
  refine m_aload_n F rfl e_X10_takeText_7 ?_
  refine r_getC F e_X10_takeText_8 fl_X10_13 h10568 ((fld_eq (g10569 _ (by omega))).trans ((fld_eq (h10563.2 c (by rw [show kC c c = 1 from kC_at (k := 0) (by decide)]; decide))).trans ((fld_eq (g10558 _ (by omega))).trans ((fld_eq (h10553.2 c (by rw [show kC c c = 1 from kC_at (k := 0) (by decide)]; decide))).trans f10551)))) ?_
  refine m_iload_n F rfl e_X10_takeText_11 ?_
  refine m_aload_n F rfl e_X10_takeText_12 ?_
  refine m_iload_n F rfl e_X10_takeText_13 ?_
  refine r_callV F e_X10_takeText_14 (q_X10_reading2 (x_l X) V c T Z u h P10561 L _ _  h10568.1 (hob) oP10565 ) cb_X10_reading ml_X10_157 im_X10_reading se_X10_reading h10568 rfl rfl (rest := [.int 2, .ref (c + 2)]) rfl (Nat.le_of_ble_eq_true rfl) ⟨Nat.le_of_ble_eq_true rfl, Nat.le_of_ble_eq_true rfl⟩ ⟨Nat.le_of_ble_eq_true rfl, Nat.le_of_ble_eq_true rfl⟩ (fun r σ10572 hp => ?_)
  obtain ⟨h10573, rfl⟩ := hp
  have h10574 := HS.trans h10568 h10573 (by decide)
  refine r_iast F (g' := (⟨T, Z, u, h, (mkP P10561.n0 P10561.n7 P10561.n5 P10561.n7 P10561.m0 P10561.m5 P10561.w2 P10561.w7 P10561.kk P10561.a), L⟩ : RG)) (len := 10) (j := 2) e_X10_takeText_17 h10574 (fun _ h => h) (fun f h => ⟨f, rfl, h⟩) (by decide) (by decide) (by decide) (by unfold vp_in; decide) (by refine ⟨?_, ?_, ?_, ?_, ?_, ?_⟩ <;> intro e <;> first | exact absurd e (by decide) | rfl | exact ⟨_, by omega, rfl⟩) (fun i hi y hy => ⟨hy.1, fun e => absurd e hi, hy.2.2.1, hy.2.2.2.1, hy.2.2.2.2.1, hy.2.2.2.2.2⟩) (by intro i hi x hx; unfold CR at hx ⊢; split at hx <;> first | exact hx | exact absurd rfl hi) (fun σ10575 h10576 g10577 f10578 g10579 => ?_)
  obtain ⟨P10580, eP10580⟩ : ∃ P9, P9 = (mkP P10561.n0 P10561.n7 P10561.n5 P10561.n7 P10561.m0 P10561.m5 P10561.w2 P10561.w7 P10561.kk P10561.a) := ⟨_, rfl⟩
  rw [← eP10580] at h10576
  have fP10580 : P10580.n0 = P10561.n0 ∧ P10580.n2 = P10561.n7 ∧ P10580.n5 = P10561.n5 ∧ P10580.n7 = P10561.n7 ∧ P10580.m0 = P10561.m0 ∧ P10580.m5 = P10561.m5 ∧ P10580.w2 = P10561.w2 ∧ P10580.w7 = P10561.w7 ∧ P10580.kk = P10561.kk ∧ P10580.a = P10561.a := by rw [eP10580]; exact ⟨rfl, rfl, rfl, rfl, rfl, rfl, rfl, rfl, rfl, rfl⟩
  refine m_iinc F (v := 3) (lv' := [(1, .int 3), (0, .ref c)]) e_X10_takeText_18 rfl (by decide) (by decide) rfl ?_
  refine m_goto F e_X10_takeText_21 ?_
  refine m_iload_n F rfl e_X10_takeText_2 ?_
  refine m_iconst F (v := 5) (by decide) e_X10_takeText_3 ?_
  refine m_icmp_ge F e_X10_takeText_4 (fun q => absurd q (by decide)) (fun _ => ?_)
  refine m_aload_n F rfl e_X10_takeText_7 ?_
  refine r_getC F e_X10_takeText_8 fl_X10_13 h10576 ((fld_eq (g10577 _ (by omega))).trans ((fld_eq (h10573.2 c (by rw [show kC c c = 1 from kC_at (k := 0) (by decide)]; decide))).trans ((fld_eq (g10569 _ (by omega))).trans ((fld_eq (h10563.2 c (by rw [show kC c c = 1 from kC_at (k := 0) (by decide)]; decide))).trans ((fld_eq (g10558 _ (by omega))).trans ((fld_eq (h10553.2 c (by rw [show kC c c = 1 from kC_at (k := 0) (by decide)]; decide))).trans f10551)))))) ?_
  refine m_iload_n F rfl e_X10_takeText_11 ?_
  refine m_aload_n F rfl e_X10_takeText_12 ?_
  refine m_iload_n F rfl e_X10_takeText_13 ?_
  have oP10584 : OKP P10580 := by unfold OKP; omega
  refine r_callV F e_X10_takeText_14 (q_X10_reading3 (x_l X) V c T Z u h P10580 L _ _  h10576.1 (hob) oP10584 ) cb_X10_reading ml_X10_157 im_X10_reading se_X10_reading h10576 rfl rfl (rest := [.int 3, .ref (c + 2)]) rfl (Nat.le_of_ble_eq_true rfl) ⟨Nat.le_of_ble_eq_true rfl, Nat.le_of_ble_eq_true rfl⟩ ⟨Nat.le_of_ble_eq_true rfl, Nat.le_of_ble_eq_true rfl⟩ (fun r σ10581 hp => ?_)
  obtain ⟨h10582, n10585, hn10585, f10586, rfl⟩ := hp
  have h10583 := HS.trans h10576 h10582 (by decide)
  refine r_iast F (g' := (⟨T, Z, u, h, P10580, L⟩ : RG)) (len := 10) (j := 3) e_X10_takeText_17 h10583 (fun _ h => h) (fun f h => ⟨f, rfl, h⟩) (by decide) (by decide) (by decide) (by unfold vp_in; decide) (by refine ⟨?_, ?_, ?_, ?_, ?_, ?_⟩ <;> intro e <;> first | exact absurd e (by decide) | rfl | exact ⟨_, by omega, rfl⟩) (fun _ _ _ h => h) (fun _ _ _ h => h) (fun σ10587 h10588 g10589 f10590 g10591 => ?_)
  refine m_iinc F (v := 4) (lv' := [(1, .int 4), (0, .ref c)]) e_X10_takeText_18 rfl (by decide) (by decide) rfl ?_
  refine m_goto F e_X10_takeText_21 ?_
  refine m_iload_n F rfl e_X10_takeText_2 ?_
  refine m_iconst F (v := 5) (by decide) e_X10_takeText_3 ?_
  refine m_icmp_ge F e_X10_takeText_4 (fun q => absurd q (by decide)) (fun _ => ?_)
  refine m_aload_n F rfl e_X10_takeText_7 ?_
  refine r_getC F e_X10_takeText_8 fl_X10_13 h10588 ((fld_eq (g10589 _ (by omega))).trans ((fld_eq (h10582.2 c (by rw [show kC c c = 1 from kC_at (k := 0) (by decide)]; decide))).trans ((fld_eq (g10577 _ (by omega))).trans ((fld_eq (h10573.2 c (by rw [show kC c c = 1 from kC_at (k := 0) (by decide)]; decide))).trans ((fld_eq (g10569 _ (by omega))).trans ((fld_eq (h10563.2 c (by rw [show kC c c = 1 from kC_at (k := 0) (by decide)]; decide))).trans ((fld_eq (g10558 _ (by omega))).trans ((fld_eq (h10553.2 c (by rw [show kC c c = 1 from kC_at (k := 0) (by decide)]; decide))).trans f10551)))))))) ?_
  refine m_iload_n F rfl e_X10_takeText_11 ?_
  refine m_aload_n F rfl e_X10_takeText_12 ?_
  refine m_iload_n F rfl e_X10_takeText_13 ?_
  refine r_callV F e_X10_takeText_14 (q_X10_reading4 (x_l X) V c T Z u h P10580 L _ _  h10588.1 (hob) oP10584 ) cb_X10_reading ml_X10_157 im_X10_reading se_X10_reading h10588 rfl rfl (rest := [.int 4, .ref (c + 2)]) rfl (Nat.le_of_ble_eq_true rfl) ⟨Nat.le_of_ble_eq_true rfl, Nat.le_of_ble_eq_true rfl⟩ ⟨Nat.le_of_ble_eq_true rfl, Nat.le_of_ble_eq_true rfl⟩ (fun r σ10592 hp => ?_)
  obtain ⟨h10593, x10595, rfl⟩ := hp
  have h10594 := HS.trans h10588 h10593 (by decide)
  refine r_iast F (g' := (⟨T, Z, u, h, P10580, L⟩ : RG)) (len := 10) (j := 4) e_X10_takeText_17 h10594 (fun _ h => h) (fun f h => ⟨f, rfl, h⟩) (by decide) (by decide) (by decide) (by unfold vp_in; decide) (by refine ⟨?_, ?_, ?_, ?_, ?_, ?_⟩ <;> intro e <;> first | exact absurd e (by decide) | rfl | exact ⟨_, by omega, rfl⟩) (fun _ _ _ h => h) (fun _ _ _ h => h) (fun σ10596 h10597 g10598 f10599 g10600 => ?_)
  refine m_iinc F (v := 5) (lv' := [(1, .int 5), (0, .ref c)]) e_X10_takeText_18 rfl (by decide) (by decide) rfl ?_
  refine m_goto F e_X10_takeText_21 ?_
  refine m_iload_n F rfl e_X10_takeText_2 ?_
  refine m_iconst F (v := 5) (by decide) e_X10_takeText_3 ?_
  refine m_icmp_ge F e_X10_takeText_4 (fun _ => ?_) (fun q => absurd (by decide) q)
  refine m_iconst F (v := 0) (by decide) e_X10_takeText_24 ?_
  refine m_istore_n F (lv' := [(1, .int 0), (0, .ref c)]) e_X10_takeText_25 (by decide) rfl ?_
  refine m_iload_n F rfl e_X10_takeText_26 ?_
  refine m_iconst F (v := 4) (by decide) e_X10_takeText_27 ?_
  refine m_icmp_ge F e_X10_takeText_28 (fun q => absurd q (by decide)) (fun _ => ?_)
  refine m_aload_n F rfl e_X10_takeText_31 ?_
  refine r_get F e_X10_takeText_32 fl_X10_16 h10597 rfl (fun v hv f10601 => ?_)
  obtain rfl : v = .ref (c + 3) := hv
  refine m_iload_n F rfl e_X10_takeText_35 ?_
  refine m_aload_n F rfl e_X10_takeText_36 ?_
  refine r_getC F e_X10_takeText_37 fl_X10_16 h10597 (f10601) ?_
  refine m_iconst F (v := 4) (by decide) e_X10_takeText_40 ?_
  refine m_iload_n F rfl e_X10_takeText_41 ?_
  refine m_iadd F e_X10_takeText_42 ?_
  refine Wm.topE (w := 4) (by decide) ?_
  refine r_iald F (len := 8) (j := 4) e_X10_takeText_43 h10597 (fun _ h => h) (by decide) (by decide) (by unfold vp_in; decide) (fun x10602 h10603 f10604 => ?_)
  refine r_iast F (g' := (⟨T, Z, u, h, P10580, L⟩ : RG)) (len := 8) (j := 0) e_X10_takeText_44 h10597 (fun _ h => h) (fun f h => ⟨f, rfl, h⟩) (by decide) (by decide) (by decide) (by unfold vp_in; decide) trivial (fun _ _ _ h => h) (fun _ _ _ h => h) (fun σ10605 h10606 g10607 f10608 g10609 => ?_)
  refine m_aload_n F rfl e_X10_takeText_45 ?_
  refine r_get F e_X10_takeText_46 fl_X10_19 h10606 rfl (fun v hv f10610 => ?_)
  obtain rfl : v = .ref (c + 4) := hv
  refine m_iload_n F rfl e_X10_takeText_49 ?_
  refine m_aload_n F rfl e_X10_takeText_50 ?_
  refine r_getC F e_X10_takeText_51 fl_X10_19 h10606 (f10610) ?_
  refine m_iconst F (v := 4) (by decide) e_X10_takeText_54 ?_
  refine m_iload_n F rfl e_X10_takeText_55 ?_
  refine m_iadd F e_X10_takeText_56 ?_
  refine Wm.topE (w := 4) (by decide) ?_
  refine r_iald F (len := 8) (j := 4) e_X10_takeText_57 h10606 (fun _ h => h) (by decide) (by decide) (by unfold vp_in; decide) (fun x10611 h10612 f10613 => ?_)
  refine r_iast F (g' := (⟨T, Z, u, h, P10580, L⟩ : RG)) (len := 8) (j := 0) e_X10_takeText_58 h10606 (fun _ h => h) (fun f h => ⟨f, rfl, h⟩) (by decide) (by decide) (by decide) (by unfold vp_in; decide) trivial (fun _ _ _ h => h) (fun _ _ _ h => h) (fun σ10614 h10615 g10616 f10617 g10618 => ?_)
  refine m_aload_n F rfl e_X10_takeText_59 ?_
  refine r_get F e_X10_takeText_60 fl_X10_22 h10615 rfl (fun v hv f10619 => ?_)
  obtain rfl : v = .ref (c + 5) := hv
  refine m_iload_n F rfl e_X10_takeText_63 ?_
  refine m_aload_n F rfl e_X10_takeText_64 ?_
  refine r_getC F e_X10_takeText_65 fl_X10_22 h10615 (f10619) ?_
  refine m_iconst F (v := 4) (by decide) e_X10_takeText_68 ?_
  refine m_iload_n F rfl e_X10_takeText_69 ?_
  refine m_iadd F e_X10_takeText_70 ?_
  refine Wm.topE (w := 4) (by decide) ?_
  refine r_iald F (len := 8) (j := 4) e_X10_takeText_71 h10615 (fun _ h => h) (by decide) (by decide) (by unfold vp_in; decide) (fun x10620 h10621 f10622 => ?_)
  obtain ⟨n10623, hn10623, rfl, pn10623, rn10623⟩ := h10621
  refine r_iast F (g' := (⟨T, Z, u, h, (mkP P10580.n0 P10580.n2 P10580.n5 P10580.n7 (min 1 P10580.m5) P10580.m5 P10580.w2 P10580.w7 P10580.kk P10580.a), L⟩ : RG)) (len := 8) (j := 0) e_X10_takeText_72 h10615 (fun _ h => h) (fun f h => ⟨f, rfl, h⟩) (by decide) (by decide) (by decide) (by unfold vp_in; decide) ⟨n10623, by omega, rfl, fun _ h8 => rn10623 (by omega) (show 4 < 4 + P10580.m5 by have h6 : 0 < min 1 P10580.m5 := h8; omega), fun h7 _ => absurd h7 (by omega)⟩ (fun i hi y hy => by obtain ⟨n9, a9, b9, c9, d9⟩ := hy; exact ⟨n9, a9, b9, fun h7 h8 => c9 h7 (show i < P10580.m0 by have h6 : i < min 1 P10580.m5 := h8; omega), d9⟩) (by intro i hi x hx; unfold CR at hx ⊢; split at hx <;> first | exact hx | exact absurd rfl hi) (fun σ10624 h10625 g10626 f10627 g10628 => ?_)
  obtain ⟨P10629, eP10629⟩ : ∃ P9, P9 = (mkP P10580.n0 P10580.n2 P10580.n5 P10580.n7 (min 1 P10580.m5) P10580.m5 P10580.w2 P10580.w7 P10580.kk P10580.a) := ⟨_, rfl⟩
  rw [← eP10629] at h10625
  have fP10629 : P10629.n0 = P10580.n0 ∧ P10629.n2 = P10580.n2 ∧ P10629.n5 = P10580.n5 ∧ P10629.n7 = P10580.n7 ∧ P10629.m0 = min 1 P10580.m5 ∧ P10629.m5 = P10580.m5 ∧ P10629.w2 = P10580.w2 ∧ P10629.w7 = P10580.w7 ∧ P10629.kk = P10580.kk ∧ P10629.a = P10580.a := by rw [eP10629]; exact ⟨rfl, rfl, rfl, rfl, rfl, rfl, rfl, rfl, rfl, rfl⟩
  refine m_aload_n F rfl e_X10_takeText_73 ?_
  refine r_get F e_X10_takeText_74 fl_X10_25 h10625 rfl (fun v hv f10630 => ?_)
  obtain rfl : v = .ref (c + 6) := hv
  refine m_iload_n F rfl e_X10_takeText_77 ?_
  refine m_aload_n F rfl e_X10_takeText_78 ?_
  refine r_getC F e_X10_takeText_79 fl_X10_25 h10625 (f10630) ?_
  refine m_iconst F (v := 4) (by decide) e_X10_takeText_82 ?_
  refine m_iload_n F rfl e_X10_takeText_83 ?_
  refine m_iadd F e_X10_takeText_84 ?_
  refine Wm.topE (w := 4) (by decide) ?_
  refine r_iald F (len := 8) (j := 4) e_X10_takeText_85 h10625 (fun _ h => h) (by decide) (by decide) (by unfold vp_in; decide) (fun x10631 h10632 f10633 => ?_)
  obtain ⟨n10634, hn10634, rfl⟩ := h10632
  refine r_iast F (g' := (⟨T, Z, u, h, P10629, L⟩ : RG)) (len := 8) (j := 0) e_X10_takeText_86 h10625 (fun _ h => h) (fun f h => ⟨f, rfl, h⟩) (by decide) (by decide) (by decide) (by unfold vp_in; decide) ⟨n10634, by omega, rfl⟩ (fun _ _ _ h => h) (fun _ _ _ h => h) (fun σ10635 h10636 g10637 f10638 g10639 => ?_)
  refine m_aload_n F rfl e_X10_takeText_87 ?_
  refine r_get F e_X10_takeText_88 fl_X10_28 h10636 rfl (fun v hv f10640 => ?_)
  obtain rfl : v = .ref (c + 7) := hv
  refine m_iload_n F rfl e_X10_takeText_91 ?_
  refine m_aload_n F rfl e_X10_takeText_92 ?_
  refine r_getC F e_X10_takeText_93 fl_X10_28 h10636 (f10640) ?_
  refine m_iconst F (v := 4) (by decide) e_X10_takeText_96 ?_
  refine m_iload_n F rfl e_X10_takeText_97 ?_
  refine m_iadd F e_X10_takeText_98 ?_
  refine Wm.topE (w := 4) (by decide) ?_
  refine r_iald F (len := 8) (j := 4) e_X10_takeText_99 h10636 (fun _ h => h) (by decide) (by decide) (by unfold vp_in; decide) (fun x10641 h10642 f10643 => ?_)
  refine r_iast F (g' := (⟨T, Z, u, h, P10629, L⟩ : RG)) (len := 8) (j := 0) e_X10_takeText_100 h10636 (fun _ h => h) (fun f h => ⟨f, rfl, h⟩) (by decide) (by decide) (by decide) (by unfold vp_in; decide) trivial (fun _ _ _ h => h) (fun _ _ _ h => h) (fun σ10644 h10645 g10646 f10647 g10648 => ?_)
  refine m_aload_n F rfl e_X10_takeText_101 ?_
  refine r_get F e_X10_takeText_102 fl_X10_31 h10645 rfl (fun v hv f10649 => ?_)
  obtain rfl : v = .ref (c + 8) := hv
  refine m_iload_n F rfl e_X10_takeText_105 ?_
  refine m_aload_n F rfl e_X10_takeText_106 ?_
  refine r_getC F e_X10_takeText_107 fl_X10_31 h10645 (f10649) ?_
  refine m_iconst F (v := 4) (by decide) e_X10_takeText_110 ?_
  refine m_iload_n F rfl e_X10_takeText_111 ?_
  refine m_iadd F e_X10_takeText_112 ?_
  refine Wm.topE (w := 4) (by decide) ?_
  refine r_iald F (len := 8) (j := 4) e_X10_takeText_113 h10645 (fun _ h => h) (by decide) (by decide) (by unfold vp_in; decide) (fun x10650 h10651 f10652 => ?_)
  refine r_iast F (g' := (⟨T, Z, u, h, P10629, L⟩ : RG)) (len := 8) (j := 0) e_X10_takeText_114 h10645 (fun _ h => h) (fun f h => ⟨f, rfl, h⟩) (by decide) (by decide) (by decide) (by unfold vp_in; decide) trivial (fun _ _ _ h => h) (fun _ _ _ h => h) (fun σ10653 h10654 g10655 f10656 g10657 => ?_)
  refine m_aload_n F rfl e_X10_takeText_115 ?_
  refine r_get F e_X10_takeText_116 fl_X10_34 h10654 rfl (fun v hv f10658 => ?_)
  obtain rfl : v = .ref (c + 9) := hv
  refine m_iload_n F rfl e_X10_takeText_119 ?_
  refine m_aload_n F rfl e_X10_takeText_120 ?_
  refine r_getC F e_X10_takeText_121 fl_X10_34 h10654 (f10658) ?_
  refine m_iconst F (v := 4) (by decide) e_X10_takeText_124 ?_
  refine m_iload_n F rfl e_X10_takeText_125 ?_
  refine m_iadd F e_X10_takeText_126 ?_
  refine Wm.topE (w := 4) (by decide) ?_
  refine r_iald F (len := 8) (j := 4) e_X10_takeText_127 h10654 (fun _ h => h) (by decide) (by decide) (by unfold vp_in; decide) (fun x10659 h10660 f10661 => ?_)
  refine r_iast F (g' := (⟨T, Z, u, h, P10629, L⟩ : RG)) (len := 8) (j := 0) e_X10_takeText_128 h10654 (fun _ h => h) (fun f h => ⟨f, rfl, h⟩) (by decide) (by decide) (by decide) (by unfold vp_in; decide) trivial (fun _ _ _ h => h) (fun _ _ _ h => h) (fun σ10662 h10663 g10664 f10665 g10666 => ?_)
  refine m_aload_n F rfl e_X10_takeText_129 ?_
  refine r_get F e_X10_takeText_130 fl_X10_46 h10663 rfl (fun v hv f10667 => ?_)
  obtain rfl : v = .ref (c + 13) := hv
  refine m_iload_n F rfl e_X10_takeText_133 ?_
  refine m_aload_n F rfl e_X10_takeText_134 ?_
  refine r_getC F e_X10_takeText_135 fl_X10_46 h10663 (f10667) ?_
  refine m_iconst F (v := 4) (by decide) e_X10_takeText_138 ?_
  refine m_iload_n F rfl e_X10_takeText_139 ?_
  refine m_iadd F e_X10_takeText_140 ?_
  refine Wm.topE (w := 4) (by decide) ?_
  refine r_iald F (len := 8) (j := 4) e_X10_takeText_141 h10663 (fun _ h => h) (by decide) (by decide) (by unfold vp_in; decide) (fun x10668 h10669 f10670 => ?_)
  obtain ⟨n10671, hn10671, rfl⟩ := h10669
  refine r_iast F (g' := (⟨T, Z, u, h, P10629, L⟩ : RG)) (len := 8) (j := 0) e_X10_takeText_142 h10663 (fun _ h => h) (fun f h => ⟨f, rfl, h⟩) (by decide) (by decide) (by decide) (by unfold vp_in; decide) ⟨n10671, by omega, rfl⟩ (fun _ _ _ h => h) (fun _ _ _ h => h) (fun σ10672 h10673 g10674 f10675 g10676 => ?_)
  refine m_aload_n F rfl e_X10_takeText_143 ?_
  refine r_get F e_X10_takeText_144 fl_X10_49 h10673 rfl (fun v hv f10677 => ?_)
  obtain rfl : v = .ref (c + 14) := hv
  refine m_iload_n F rfl e_X10_takeText_147 ?_
  refine m_aload_n F rfl e_X10_takeText_148 ?_
  refine r_getC F e_X10_takeText_149 fl_X10_49 h10673 (f10677) ?_
  refine m_iconst F (v := 4) (by decide) e_X10_takeText_152 ?_
  refine m_iload_n F rfl e_X10_takeText_153 ?_
  refine m_iadd F e_X10_takeText_154 ?_
  refine Wm.topE (w := 4) (by decide) ?_
  refine r_iald F (len := 8) (j := 4) e_X10_takeText_155 h10673 (fun _ h => h) (by decide) (by decide) (by unfold vp_in; decide) (fun x10678 h10679 f10680 => ?_)
  obtain ⟨n10681, hn10681, rfl⟩ := h10679
  refine r_iast F (g' := (⟨T, Z, u, h, P10629, L⟩ : RG)) (len := 8) (j := 0) e_X10_takeText_156 h10673 (fun _ h => h) (fun f h => ⟨f, rfl, h⟩) (by decide) (by decide) (by decide) (by unfold vp_in; decide) ⟨n10681, by omega, rfl⟩ (fun _ _ _ h => h) (fun _ _ _ h => h) (fun σ10682 h10683 g10684 f10685 g10686 => ?_)
  refine m_aload_n F rfl e_X10_takeText_157 ?_
  refine r_get F e_X10_takeText_158 fl_X10_52 h10683 rfl (fun v hv f10687 => ?_)
  obtain rfl : v = .ref (c + 15) := hv
  refine m_iload_n F rfl e_X10_takeText_161 ?_
  refine m_aload_n F rfl e_X10_takeText_162 ?_
  refine r_getC F e_X10_takeText_163 fl_X10_52 h10683 (f10687) ?_
  refine m_iconst F (v := 4) (by decide) e_X10_takeText_166 ?_
  refine m_iload_n F rfl e_X10_takeText_167 ?_
  refine m_iadd F e_X10_takeText_168 ?_
  refine Wm.topE (w := 4) (by decide) ?_
  refine r_iald F (len := 8) (j := 4) e_X10_takeText_169 h10683 (fun _ h => h) (by decide) (by decide) (by unfold vp_in; decide) (fun x10688 h10689 f10690 => ?_)
  refine r_iast F (g' := (⟨T, Z, u, h, P10629, L⟩ : RG)) (len := 8) (j := 0) e_X10_takeText_170 h10683 (fun _ h => h) (fun f h => ⟨f, rfl, h⟩) (by decide) (by decide) (by decide) (by unfold vp_in; decide) trivial (fun _ _ _ h => h) (fun _ _ _ h => h) (fun σ10691 h10692 g10693 f10694 g10695 => ?_)
  refine m_iinc F (v := 1) (lv' := [(1, .int 1), (0, .ref c)]) e_X10_takeText_171 rfl (by decide) (by decide) rfl ?_
  refine m_goto F e_X10_takeText_174 ?_
  refine m_iload_n F rfl e_X10_takeText_26 ?_
  refine m_iconst F (v := 4) (by decide) e_X10_takeText_27 ?_
  refine m_icmp_ge F e_X10_takeText_28 (fun q => absurd q (by decide)) (fun _ => ?_)
  refine m_aload_n F rfl e_X10_takeText_31 ?_
  refine r_getC F e_X10_takeText_32 fl_X10_16 h10692 ((fld_eq (g10693 _ (by omega))).trans ((fld_eq (g10684 _ (by omega))).trans ((fld_eq (g10674 _ (by omega))).trans ((fld_eq (g10664 _ (by omega))).trans ((fld_eq (g10655 _ (by omega))).trans ((fld_eq (g10646 _ (by omega))).trans ((fld_eq (g10637 _ (by omega))).trans ((fld_eq (g10626 _ (by omega))).trans ((fld_eq (g10616 _ (by omega))).trans ((fld_eq (g10607 _ (by omega))).trans f10601)))))))))) ?_
  refine m_iload_n F rfl e_X10_takeText_35 ?_
  refine m_aload_n F rfl e_X10_takeText_36 ?_
  refine r_getC F e_X10_takeText_37 fl_X10_16 h10692 ((fld_eq (g10693 _ (by omega))).trans ((fld_eq (g10684 _ (by omega))).trans ((fld_eq (g10674 _ (by omega))).trans ((fld_eq (g10664 _ (by omega))).trans ((fld_eq (g10655 _ (by omega))).trans ((fld_eq (g10646 _ (by omega))).trans ((fld_eq (g10637 _ (by omega))).trans ((fld_eq (g10626 _ (by omega))).trans ((fld_eq (g10616 _ (by omega))).trans ((fld_eq (g10607 _ (by omega))).trans f10601)))))))))) ?_
  refine m_iconst F (v := 4) (by decide) e_X10_takeText_40 ?_
  refine m_iload_n F rfl e_X10_takeText_41 ?_
  refine m_iadd F e_X10_takeText_42 ?_
  refine Wm.topE (w := 5) (by decide) ?_
  refine r_iald F (len := 8) (j := 5) e_X10_takeText_43 h10692 (fun _ h => h) (by decide) (by decide) (by unfold vp_in; decide) (fun x10696 h10697 f10698 => ?_)
  refine r_iast F (g' := (⟨T, Z, u, h, P10629, L⟩ : RG)) (len := 8) (j := 1) e_X10_takeText_44 h10692 (fun _ h => h) (fun f h => ⟨f, rfl, h⟩) (by decide) (by decide) (by decide) (by unfold vp_in; decide) trivial (fun _ _ _ h => h) (fun _ _ _ h => h) (fun σ10699 h10700 g10701 f10702 g10703 => ?_)
  refine m_aload_n F rfl e_X10_takeText_45 ?_
  refine r_getC F e_X10_takeText_46 fl_X10_19 h10700 ((fld_eq (g10701 _ (by omega))).trans ((fld_eq (g10693 _ (by omega))).trans ((fld_eq (g10684 _ (by omega))).trans ((fld_eq (g10674 _ (by omega))).trans ((fld_eq (g10664 _ (by omega))).trans ((fld_eq (g10655 _ (by omega))).trans ((fld_eq (g10646 _ (by omega))).trans ((fld_eq (g10637 _ (by omega))).trans ((fld_eq (g10626 _ (by omega))).trans ((fld_eq (g10616 _ (by omega))).trans f10610)))))))))) ?_
  refine m_iload_n F rfl e_X10_takeText_49 ?_
  refine m_aload_n F rfl e_X10_takeText_50 ?_
  refine r_getC F e_X10_takeText_51 fl_X10_19 h10700 ((fld_eq (g10701 _ (by omega))).trans ((fld_eq (g10693 _ (by omega))).trans ((fld_eq (g10684 _ (by omega))).trans ((fld_eq (g10674 _ (by omega))).trans ((fld_eq (g10664 _ (by omega))).trans ((fld_eq (g10655 _ (by omega))).trans ((fld_eq (g10646 _ (by omega))).trans ((fld_eq (g10637 _ (by omega))).trans ((fld_eq (g10626 _ (by omega))).trans ((fld_eq (g10616 _ (by omega))).trans f10610)))))))))) ?_
  refine m_iconst F (v := 4) (by decide) e_X10_takeText_54 ?_
  refine m_iload_n F rfl e_X10_takeText_55 ?_
  refine m_iadd F e_X10_takeText_56 ?_
  refine Wm.topE (w := 5) (by decide) ?_
  refine r_iald F (len := 8) (j := 5) e_X10_takeText_57 h10700 (fun _ h => h) (by decide) (by decide) (by unfold vp_in; decide) (fun x10704 h10705 f10706 => ?_)
  refine r_iast F (g' := (⟨T, Z, u, h, P10629, L⟩ : RG)) (len := 8) (j := 1) e_X10_takeText_58 h10700 (fun _ h => h) (fun f h => ⟨f, rfl, h⟩) (by decide) (by decide) (by decide) (by unfold vp_in; decide) trivial (fun _ _ _ h => h) (fun _ _ _ h => h) (fun σ10707 h10708 g10709 f10710 g10711 => ?_)
  refine m_aload_n F rfl e_X10_takeText_59 ?_
  refine r_getC F e_X10_takeText_60 fl_X10_22 h10708 ((fld_eq (g10709 _ (by omega))).trans ((fld_eq (g10701 _ (by omega))).trans ((fld_eq (g10693 _ (by omega))).trans ((fld_eq (g10684 _ (by omega))).trans ((fld_eq (g10674 _ (by omega))).trans ((fld_eq (g10664 _ (by omega))).trans ((fld_eq (g10655 _ (by omega))).trans ((fld_eq (g10646 _ (by omega))).trans ((fld_eq (g10637 _ (by omega))).trans ((fld_eq (g10626 _ (by omega))).trans f10619)))))))))) ?_
  refine m_iload_n F rfl e_X10_takeText_63 ?_
  refine m_aload_n F rfl e_X10_takeText_64 ?_
  refine r_getC F e_X10_takeText_65 fl_X10_22 h10708 ((fld_eq (g10709 _ (by omega))).trans ((fld_eq (g10701 _ (by omega))).trans ((fld_eq (g10693 _ (by omega))).trans ((fld_eq (g10684 _ (by omega))).trans ((fld_eq (g10674 _ (by omega))).trans ((fld_eq (g10664 _ (by omega))).trans ((fld_eq (g10655 _ (by omega))).trans ((fld_eq (g10646 _ (by omega))).trans ((fld_eq (g10637 _ (by omega))).trans ((fld_eq (g10626 _ (by omega))).trans f10619)))))))))) ?_
  refine m_iconst F (v := 4) (by decide) e_X10_takeText_68 ?_
  refine m_iload_n F rfl e_X10_takeText_69 ?_
  refine m_iadd F e_X10_takeText_70 ?_
  refine Wm.topE (w := 5) (by decide) ?_
  refine r_iald F (len := 8) (j := 5) e_X10_takeText_71 h10708 (fun _ h => h) (by decide) (by decide) (by unfold vp_in; decide) (fun x10712 h10713 f10714 => ?_)
  obtain ⟨n10715, hn10715, rfl, pn10715, rn10715⟩ := h10713
  refine r_iast F (g' := (⟨T, Z, u, h, (mkP P10629.n0 P10629.n2 P10629.n5 P10629.n7 (min 2 P10629.m5) P10629.m5 P10629.w2 P10629.w7 P10629.kk P10629.a), L⟩ : RG)) (len := 8) (j := 1) e_X10_takeText_72 h10708 (fun _ h => h) (fun f h => ⟨f, rfl, h⟩) (by decide) (by decide) (by decide) (by unfold vp_in; decide) ⟨n10715, by omega, rfl, fun _ h8 => rn10715 (by omega) (show 5 < 4 + P10629.m5 by have h6 : 1 < min 2 P10629.m5 := h8; omega), fun h7 _ => absurd h7 (by omega)⟩ (fun i hi y hy => by obtain ⟨n9, a9, b9, c9, d9⟩ := hy; exact ⟨n9, a9, b9, fun h7 h8 => c9 h7 (show i < P10629.m0 by have h6 : i < min 2 P10629.m5 := h8; omega), d9⟩) (by intro i hi x hx; unfold CR at hx ⊢; split at hx <;> first | exact hx | exact absurd rfl hi) (fun σ10716 h10717 g10718 f10719 g10720 => ?_)
  obtain ⟨P10721, eP10721⟩ : ∃ P9, P9 = (mkP P10629.n0 P10629.n2 P10629.n5 P10629.n7 (min 2 P10629.m5) P10629.m5 P10629.w2 P10629.w7 P10629.kk P10629.a) := ⟨_, rfl⟩
  rw [← eP10721] at h10717
  have fP10721 : P10721.n0 = P10629.n0 ∧ P10721.n2 = P10629.n2 ∧ P10721.n5 = P10629.n5 ∧ P10721.n7 = P10629.n7 ∧ P10721.m0 = min 2 P10629.m5 ∧ P10721.m5 = P10629.m5 ∧ P10721.w2 = P10629.w2 ∧ P10721.w7 = P10629.w7 ∧ P10721.kk = P10629.kk ∧ P10721.a = P10629.a := by rw [eP10721]; exact ⟨rfl, rfl, rfl, rfl, rfl, rfl, rfl, rfl, rfl, rfl⟩
  refine m_aload_n F rfl e_X10_takeText_73 ?_
  refine r_getC F e_X10_takeText_74 fl_X10_25 h10717 ((fld_eq (g10718 _ (by omega))).trans ((fld_eq (g10709 _ (by omega))).trans ((fld_eq (g10701 _ (by omega))).trans ((fld_eq (g10693 _ (by omega))).trans ((fld_eq (g10684 _ (by omega))).trans ((fld_eq (g10674 _ (by omega))).trans ((fld_eq (g10664 _ (by omega))).trans ((fld_eq (g10655 _ (by omega))).trans ((fld_eq (g10646 _ (by omega))).trans ((fld_eq (g10637 _ (by omega))).trans f10630)))))))))) ?_
  refine m_iload_n F rfl e_X10_takeText_77 ?_
  refine m_aload_n F rfl e_X10_takeText_78 ?_
  refine r_getC F e_X10_takeText_79 fl_X10_25 h10717 ((fld_eq (g10718 _ (by omega))).trans ((fld_eq (g10709 _ (by omega))).trans ((fld_eq (g10701 _ (by omega))).trans ((fld_eq (g10693 _ (by omega))).trans ((fld_eq (g10684 _ (by omega))).trans ((fld_eq (g10674 _ (by omega))).trans ((fld_eq (g10664 _ (by omega))).trans ((fld_eq (g10655 _ (by omega))).trans ((fld_eq (g10646 _ (by omega))).trans ((fld_eq (g10637 _ (by omega))).trans f10630)))))))))) ?_
  refine m_iconst F (v := 4) (by decide) e_X10_takeText_82 ?_
  refine m_iload_n F rfl e_X10_takeText_83 ?_
  refine m_iadd F e_X10_takeText_84 ?_
  refine Wm.topE (w := 5) (by decide) ?_
  refine r_iald F (len := 8) (j := 5) e_X10_takeText_85 h10717 (fun _ h => h) (by decide) (by decide) (by unfold vp_in; decide) (fun x10722 h10723 f10724 => ?_)
  obtain ⟨n10725, hn10725, rfl⟩ := h10723
  refine r_iast F (g' := (⟨T, Z, u, h, P10721, L⟩ : RG)) (len := 8) (j := 1) e_X10_takeText_86 h10717 (fun _ h => h) (fun f h => ⟨f, rfl, h⟩) (by decide) (by decide) (by decide) (by unfold vp_in; decide) ⟨n10725, by omega, rfl⟩ (fun _ _ _ h => h) (fun _ _ _ h => h) (fun σ10726 h10727 g10728 f10729 g10730 => ?_)
  refine m_aload_n F rfl e_X10_takeText_87 ?_
  refine r_getC F e_X10_takeText_88 fl_X10_28 h10727 ((fld_eq (g10728 _ (by omega))).trans ((fld_eq (g10718 _ (by omega))).trans ((fld_eq (g10709 _ (by omega))).trans ((fld_eq (g10701 _ (by omega))).trans ((fld_eq (g10693 _ (by omega))).trans ((fld_eq (g10684 _ (by omega))).trans ((fld_eq (g10674 _ (by omega))).trans ((fld_eq (g10664 _ (by omega))).trans ((fld_eq (g10655 _ (by omega))).trans ((fld_eq (g10646 _ (by omega))).trans f10640)))))))))) ?_
  refine m_iload_n F rfl e_X10_takeText_91 ?_
  refine m_aload_n F rfl e_X10_takeText_92 ?_
  refine r_getC F e_X10_takeText_93 fl_X10_28 h10727 ((fld_eq (g10728 _ (by omega))).trans ((fld_eq (g10718 _ (by omega))).trans ((fld_eq (g10709 _ (by omega))).trans ((fld_eq (g10701 _ (by omega))).trans ((fld_eq (g10693 _ (by omega))).trans ((fld_eq (g10684 _ (by omega))).trans ((fld_eq (g10674 _ (by omega))).trans ((fld_eq (g10664 _ (by omega))).trans ((fld_eq (g10655 _ (by omega))).trans ((fld_eq (g10646 _ (by omega))).trans f10640)))))))))) ?_
  refine m_iconst F (v := 4) (by decide) e_X10_takeText_96 ?_
  refine m_iload_n F rfl e_X10_takeText_97 ?_
  refine m_iadd F e_X10_takeText_98 ?_
  refine Wm.topE (w := 5) (by decide) ?_
  refine r_iald F (len := 8) (j := 5) e_X10_takeText_99 h10727 (fun _ h => h) (by decide) (by decide) (by unfold vp_in; decide) (fun x10731 h10732 f10733 => ?_)
  refine r_iast F (g' := (⟨T, Z, u, h, P10721, L⟩ : RG)) (len := 8) (j := 1) e_X10_takeText_100 h10727 (fun _ h => h) (fun f h => ⟨f, rfl, h⟩) (by decide) (by decide) (by decide) (by unfold vp_in; decide) trivial (fun _ _ _ h => h) (fun _ _ _ h => h) (fun σ10734 h10735 g10736 f10737 g10738 => ?_)
  refine m_aload_n F rfl e_X10_takeText_101 ?_
  refine r_getC F e_X10_takeText_102 fl_X10_31 h10735 ((fld_eq (g10736 _ (by omega))).trans ((fld_eq (g10728 _ (by omega))).trans ((fld_eq (g10718 _ (by omega))).trans ((fld_eq (g10709 _ (by omega))).trans ((fld_eq (g10701 _ (by omega))).trans ((fld_eq (g10693 _ (by omega))).trans ((fld_eq (g10684 _ (by omega))).trans ((fld_eq (g10674 _ (by omega))).trans ((fld_eq (g10664 _ (by omega))).trans ((fld_eq (g10655 _ (by omega))).trans f10649)))))))))) ?_
  refine m_iload_n F rfl e_X10_takeText_105 ?_
  refine m_aload_n F rfl e_X10_takeText_106 ?_
  refine r_getC F e_X10_takeText_107 fl_X10_31 h10735 ((fld_eq (g10736 _ (by omega))).trans ((fld_eq (g10728 _ (by omega))).trans ((fld_eq (g10718 _ (by omega))).trans ((fld_eq (g10709 _ (by omega))).trans ((fld_eq (g10701 _ (by omega))).trans ((fld_eq (g10693 _ (by omega))).trans ((fld_eq (g10684 _ (by omega))).trans ((fld_eq (g10674 _ (by omega))).trans ((fld_eq (g10664 _ (by omega))).trans ((fld_eq (g10655 _ (by omega))).trans f10649)))))))))) ?_
  refine m_iconst F (v := 4) (by decide) e_X10_takeText_110 ?_
  refine m_iload_n F rfl e_X10_takeText_111 ?_
  refine m_iadd F e_X10_takeText_112 ?_
  refine Wm.topE (w := 5) (by decide) ?_
  refine r_iald F (len := 8) (j := 5) e_X10_takeText_113 h10735 (fun _ h => h) (by decide) (by decide) (by unfold vp_in; decide) (fun x10739 h10740 f10741 => ?_)
  refine r_iast F (g' := (⟨T, Z, u, h, P10721, L⟩ : RG)) (len := 8) (j := 1) e_X10_takeText_114 h10735 (fun _ h => h) (fun f h => ⟨f, rfl, h⟩) (by decide) (by decide) (by decide) (by unfold vp_in; decide) trivial (fun _ _ _ h => h) (fun _ _ _ h => h) (fun σ10742 h10743 g10744 f10745 g10746 => ?_)
  refine m_aload_n F rfl e_X10_takeText_115 ?_
  refine r_getC F e_X10_takeText_116 fl_X10_34 h10743 ((fld_eq (g10744 _ (by omega))).trans ((fld_eq (g10736 _ (by omega))).trans ((fld_eq (g10728 _ (by omega))).trans ((fld_eq (g10718 _ (by omega))).trans ((fld_eq (g10709 _ (by omega))).trans ((fld_eq (g10701 _ (by omega))).trans ((fld_eq (g10693 _ (by omega))).trans ((fld_eq (g10684 _ (by omega))).trans ((fld_eq (g10674 _ (by omega))).trans ((fld_eq (g10664 _ (by omega))).trans f10658)))))))))) ?_
  refine m_iload_n F rfl e_X10_takeText_119 ?_
  refine m_aload_n F rfl e_X10_takeText_120 ?_
  refine r_getC F e_X10_takeText_121 fl_X10_34 h10743 ((fld_eq (g10744 _ (by omega))).trans ((fld_eq (g10736 _ (by omega))).trans ((fld_eq (g10728 _ (by omega))).trans ((fld_eq (g10718 _ (by omega))).trans ((fld_eq (g10709 _ (by omega))).trans ((fld_eq (g10701 _ (by omega))).trans ((fld_eq (g10693 _ (by omega))).trans ((fld_eq (g10684 _ (by omega))).trans ((fld_eq (g10674 _ (by omega))).trans ((fld_eq (g10664 _ (by omega))).trans f10658)))))))))) ?_
  refine m_iconst F (v := 4) (by decide) e_X10_takeText_124 ?_
  refine m_iload_n F rfl e_X10_takeText_125 ?_
  refine m_iadd F e_X10_takeText_126 ?_
  refine Wm.topE (w := 5) (by decide) ?_
  refine r_iald F (len := 8) (j := 5) e_X10_takeText_127 h10743 (fun _ h => h) (by decide) (by decide) (by unfold vp_in; decide) (fun x10747 h10748 f10749 => ?_)
  refine r_iast F (g' := (⟨T, Z, u, h, P10721, L⟩ : RG)) (len := 8) (j := 1) e_X10_takeText_128 h10743 (fun _ h => h) (fun f h => ⟨f, rfl, h⟩) (by decide) (by decide) (by decide) (by unfold vp_in; decide) trivial (fun _ _ _ h => h) (fun _ _ _ h => h) (fun σ10750 h10751 g10752 f10753 g10754 => ?_)
  refine m_aload_n F rfl e_X10_takeText_129 ?_
  refine r_getC F e_X10_takeText_130 fl_X10_46 h10751 ((fld_eq (g10752 _ (by omega))).trans ((fld_eq (g10744 _ (by omega))).trans ((fld_eq (g10736 _ (by omega))).trans ((fld_eq (g10728 _ (by omega))).trans ((fld_eq (g10718 _ (by omega))).trans ((fld_eq (g10709 _ (by omega))).trans ((fld_eq (g10701 _ (by omega))).trans ((fld_eq (g10693 _ (by omega))).trans ((fld_eq (g10684 _ (by omega))).trans ((fld_eq (g10674 _ (by omega))).trans f10667)))))))))) ?_
  refine m_iload_n F rfl e_X10_takeText_133 ?_
  refine m_aload_n F rfl e_X10_takeText_134 ?_
  refine r_getC F e_X10_takeText_135 fl_X10_46 h10751 ((fld_eq (g10752 _ (by omega))).trans ((fld_eq (g10744 _ (by omega))).trans ((fld_eq (g10736 _ (by omega))).trans ((fld_eq (g10728 _ (by omega))).trans ((fld_eq (g10718 _ (by omega))).trans ((fld_eq (g10709 _ (by omega))).trans ((fld_eq (g10701 _ (by omega))).trans ((fld_eq (g10693 _ (by omega))).trans ((fld_eq (g10684 _ (by omega))).trans ((fld_eq (g10674 _ (by omega))).trans f10667)))))))))) ?_
  refine m_iconst F (v := 4) (by decide) e_X10_takeText_138 ?_
  refine m_iload_n F rfl e_X10_takeText_139 ?_
  refine m_iadd F e_X10_takeText_140 ?_
  refine Wm.topE (w := 5) (by decide) ?_
  refine r_iald F (len := 8) (j := 5) e_X10_takeText_141 h10751 (fun _ h => h) (by decide) (by decide) (by unfold vp_in; decide) (fun x10755 h10756 f10757 => ?_)
  obtain ⟨n10758, hn10758, rfl⟩ := h10756
  refine r_iast F (g' := (⟨T, Z, u, h, P10721, L⟩ : RG)) (len := 8) (j := 1) e_X10_takeText_142 h10751 (fun _ h => h) (fun f h => ⟨f, rfl, h⟩) (by decide) (by decide) (by decide) (by unfold vp_in; decide) ⟨n10758, by omega, rfl⟩ (fun _ _ _ h => h) (fun _ _ _ h => h) (fun σ10759 h10760 g10761 f10762 g10763 => ?_)
  refine m_aload_n F rfl e_X10_takeText_143 ?_
  refine r_getC F e_X10_takeText_144 fl_X10_49 h10760 ((fld_eq (g10761 _ (by omega))).trans ((fld_eq (g10752 _ (by omega))).trans ((fld_eq (g10744 _ (by omega))).trans ((fld_eq (g10736 _ (by omega))).trans ((fld_eq (g10728 _ (by omega))).trans ((fld_eq (g10718 _ (by omega))).trans ((fld_eq (g10709 _ (by omega))).trans ((fld_eq (g10701 _ (by omega))).trans ((fld_eq (g10693 _ (by omega))).trans ((fld_eq (g10684 _ (by omega))).trans f10677)))))))))) ?_
  refine m_iload_n F rfl e_X10_takeText_147 ?_
  refine m_aload_n F rfl e_X10_takeText_148 ?_
  refine r_getC F e_X10_takeText_149 fl_X10_49 h10760 ((fld_eq (g10761 _ (by omega))).trans ((fld_eq (g10752 _ (by omega))).trans ((fld_eq (g10744 _ (by omega))).trans ((fld_eq (g10736 _ (by omega))).trans ((fld_eq (g10728 _ (by omega))).trans ((fld_eq (g10718 _ (by omega))).trans ((fld_eq (g10709 _ (by omega))).trans ((fld_eq (g10701 _ (by omega))).trans ((fld_eq (g10693 _ (by omega))).trans ((fld_eq (g10684 _ (by omega))).trans f10677)))))))))) ?_
  refine m_iconst F (v := 4) (by decide) e_X10_takeText_152 ?_
  refine m_iload_n F rfl e_X10_takeText_153 ?_
  refine m_iadd F e_X10_takeText_154 ?_
  refine Wm.topE (w := 5) (by decide) ?_
  refine r_iald F (len := 8) (j := 5) e_X10_takeText_155 h10760 (fun _ h => h) (by decide) (by decide) (by unfold vp_in; decide) (fun x10764 h10765 f10766 => ?_)
  obtain ⟨n10767, hn10767, rfl⟩ := h10765
  refine r_iast F (g' := (⟨T, Z, u, h, P10721, L⟩ : RG)) (len := 8) (j := 1) e_X10_takeText_156 h10760 (fun _ h => h) (fun f h => ⟨f, rfl, h⟩) (by decide) (by decide) (by decide) (by unfold vp_in; decide) ⟨n10767, by omega, rfl⟩ (fun _ _ _ h => h) (fun _ _ _ h => h) (fun σ10768 h10769 g10770 f10771 g10772 => ?_)
  refine m_aload_n F rfl e_X10_takeText_157 ?_
  refine r_getC F e_X10_takeText_158 fl_X10_52 h10769 ((fld_eq (g10770 _ (by omega))).trans ((fld_eq (g10761 _ (by omega))).trans ((fld_eq (g10752 _ (by omega))).trans ((fld_eq (g10744 _ (by omega))).trans ((fld_eq (g10736 _ (by omega))).trans ((fld_eq (g10728 _ (by omega))).trans ((fld_eq (g10718 _ (by omega))).trans ((fld_eq (g10709 _ (by omega))).trans ((fld_eq (g10701 _ (by omega))).trans ((fld_eq (g10693 _ (by omega))).trans f10687)))))))))) ?_
  refine m_iload_n F rfl e_X10_takeText_161 ?_
  refine m_aload_n F rfl e_X10_takeText_162 ?_
  refine r_getC F e_X10_takeText_163 fl_X10_52 h10769 ((fld_eq (g10770 _ (by omega))).trans ((fld_eq (g10761 _ (by omega))).trans ((fld_eq (g10752 _ (by omega))).trans ((fld_eq (g10744 _ (by omega))).trans ((fld_eq (g10736 _ (by omega))).trans ((fld_eq (g10728 _ (by omega))).trans ((fld_eq (g10718 _ (by omega))).trans ((fld_eq (g10709 _ (by omega))).trans ((fld_eq (g10701 _ (by omega))).trans ((fld_eq (g10693 _ (by omega))).trans f10687)))))))))) ?_
  refine m_iconst F (v := 4) (by decide) e_X10_takeText_166 ?_
  refine m_iload_n F rfl e_X10_takeText_167 ?_
  refine m_iadd F e_X10_takeText_168 ?_
  refine Wm.topE (w := 5) (by decide) ?_
  refine r_iald F (len := 8) (j := 5) e_X10_takeText_169 h10769 (fun _ h => h) (by decide) (by decide) (by unfold vp_in; decide) (fun x10773 h10774 f10775 => ?_)
  refine r_iast F (g' := (⟨T, Z, u, h, P10721, L⟩ : RG)) (len := 8) (j := 1) e_X10_takeText_170 h10769 (fun _ h => h) (fun f h => ⟨f, rfl, h⟩) (by decide) (by decide) (by decide) (by unfold vp_in; decide) trivial (fun _ _ _ h => h) (fun _ _ _ h => h) (fun σ10776 h10777 g10778 f10779 g10780 => ?_)
  refine m_iinc F (v := 2) (lv' := [(1, .int 2), (0, .ref c)]) e_X10_takeText_171 rfl (by decide) (by decide) rfl ?_
  refine m_goto F e_X10_takeText_174 ?_
  refine m_iload_n F rfl e_X10_takeText_26 ?_
  refine m_iconst F (v := 4) (by decide) e_X10_takeText_27 ?_
  refine m_icmp_ge F e_X10_takeText_28 (fun q => absurd q (by decide)) (fun _ => ?_)
  refine m_aload_n F rfl e_X10_takeText_31 ?_
  refine r_getC F e_X10_takeText_32 fl_X10_16 h10777 ((fld_eq (g10778 _ (by omega))).trans ((fld_eq (g10770 _ (by omega))).trans ((fld_eq (g10761 _ (by omega))).trans ((fld_eq (g10752 _ (by omega))).trans ((fld_eq (g10744 _ (by omega))).trans ((fld_eq (g10736 _ (by omega))).trans ((fld_eq (g10728 _ (by omega))).trans ((fld_eq (g10718 _ (by omega))).trans ((fld_eq (g10709 _ (by omega))).trans ((fld_eq (g10701 _ (by omega))).trans ((fld_eq (g10693 _ (by omega))).trans ((fld_eq (g10684 _ (by omega))).trans ((fld_eq (g10674 _ (by omega))).trans ((fld_eq (g10664 _ (by omega))).trans ((fld_eq (g10655 _ (by omega))).trans ((fld_eq (g10646 _ (by omega))).trans ((fld_eq (g10637 _ (by omega))).trans ((fld_eq (g10626 _ (by omega))).trans ((fld_eq (g10616 _ (by omega))).trans ((fld_eq (g10607 _ (by omega))).trans f10601)))))))))))))))))))) ?_
  refine m_iload_n F rfl e_X10_takeText_35 ?_
  refine m_aload_n F rfl e_X10_takeText_36 ?_
  refine r_getC F e_X10_takeText_37 fl_X10_16 h10777 ((fld_eq (g10778 _ (by omega))).trans ((fld_eq (g10770 _ (by omega))).trans ((fld_eq (g10761 _ (by omega))).trans ((fld_eq (g10752 _ (by omega))).trans ((fld_eq (g10744 _ (by omega))).trans ((fld_eq (g10736 _ (by omega))).trans ((fld_eq (g10728 _ (by omega))).trans ((fld_eq (g10718 _ (by omega))).trans ((fld_eq (g10709 _ (by omega))).trans ((fld_eq (g10701 _ (by omega))).trans ((fld_eq (g10693 _ (by omega))).trans ((fld_eq (g10684 _ (by omega))).trans ((fld_eq (g10674 _ (by omega))).trans ((fld_eq (g10664 _ (by omega))).trans ((fld_eq (g10655 _ (by omega))).trans ((fld_eq (g10646 _ (by omega))).trans ((fld_eq (g10637 _ (by omega))).trans ((fld_eq (g10626 _ (by omega))).trans ((fld_eq (g10616 _ (by omega))).trans ((fld_eq (g10607 _ (by omega))).trans f10601)))))))))))))))))))) ?_
  refine m_iconst F (v := 4) (by decide) e_X10_takeText_40 ?_
  refine m_iload_n F rfl e_X10_takeText_41 ?_
  refine m_iadd F e_X10_takeText_42 ?_
  refine Wm.topE (w := 6) (by decide) ?_
  refine r_iald F (len := 8) (j := 6) e_X10_takeText_43 h10777 (fun _ h => h) (by decide) (by decide) (by unfold vp_in; decide) (fun x10781 h10782 f10783 => ?_)
  refine r_iast F (g' := (⟨T, Z, u, h, P10721, L⟩ : RG)) (len := 8) (j := 2) e_X10_takeText_44 h10777 (fun _ h => h) (fun f h => ⟨f, rfl, h⟩) (by decide) (by decide) (by decide) (by unfold vp_in; decide) trivial (fun _ _ _ h => h) (fun _ _ _ h => h) (fun σ10784 h10785 g10786 f10787 g10788 => ?_)
  refine m_aload_n F rfl e_X10_takeText_45 ?_
  refine r_getC F e_X10_takeText_46 fl_X10_19 h10785 ((fld_eq (g10786 _ (by omega))).trans ((fld_eq (g10778 _ (by omega))).trans ((fld_eq (g10770 _ (by omega))).trans ((fld_eq (g10761 _ (by omega))).trans ((fld_eq (g10752 _ (by omega))).trans ((fld_eq (g10744 _ (by omega))).trans ((fld_eq (g10736 _ (by omega))).trans ((fld_eq (g10728 _ (by omega))).trans ((fld_eq (g10718 _ (by omega))).trans ((fld_eq (g10709 _ (by omega))).trans ((fld_eq (g10701 _ (by omega))).trans ((fld_eq (g10693 _ (by omega))).trans ((fld_eq (g10684 _ (by omega))).trans ((fld_eq (g10674 _ (by omega))).trans ((fld_eq (g10664 _ (by omega))).trans ((fld_eq (g10655 _ (by omega))).trans ((fld_eq (g10646 _ (by omega))).trans ((fld_eq (g10637 _ (by omega))).trans ((fld_eq (g10626 _ (by omega))).trans ((fld_eq (g10616 _ (by omega))).trans f10610)))))))))))))))))))) ?_
  refine m_iload_n F rfl e_X10_takeText_49 ?_
  refine m_aload_n F rfl e_X10_takeText_50 ?_
  refine r_getC F e_X10_takeText_51 fl_X10_19 h10785 ((fld_eq (g10786 _ (by omega))).trans ((fld_eq (g10778 _ (by omega))).trans ((fld_eq (g10770 _ (by omega))).trans ((fld_eq (g10761 _ (by omega))).trans ((fld_eq (g10752 _ (by omega))).trans ((fld_eq (g10744 _ (by omega))).trans ((fld_eq (g10736 _ (by omega))).trans ((fld_eq (g10728 _ (by omega))).trans ((fld_eq (g10718 _ (by omega))).trans ((fld_eq (g10709 _ (by omega))).trans ((fld_eq (g10701 _ (by omega))).trans ((fld_eq (g10693 _ (by omega))).trans ((fld_eq (g10684 _ (by omega))).trans ((fld_eq (g10674 _ (by omega))).trans ((fld_eq (g10664 _ (by omega))).trans ((fld_eq (g10655 _ (by omega))).trans ((fld_eq (g10646 _ (by omega))).trans ((fld_eq (g10637 _ (by omega))).trans ((fld_eq (g10626 _ (by omega))).trans ((fld_eq (g10616 _ (by omega))).trans f10610)))))))))))))))))))) ?_
  refine m_iconst F (v := 4) (by decide) e_X10_takeText_54 ?_
  refine m_iload_n F rfl e_X10_takeText_55 ?_
  refine m_iadd F e_X10_takeText_56 ?_
  refine Wm.topE (w := 6) (by decide) ?_
  refine r_iald F (len := 8) (j := 6) e_X10_takeText_57 h10785 (fun _ h => h) (by decide) (by decide) (by unfold vp_in; decide) (fun x10789 h10790 f10791 => ?_)
  refine r_iast F (g' := (⟨T, Z, u, h, P10721, L⟩ : RG)) (len := 8) (j := 2) e_X10_takeText_58 h10785 (fun _ h => h) (fun f h => ⟨f, rfl, h⟩) (by decide) (by decide) (by decide) (by unfold vp_in; decide) trivial (fun _ _ _ h => h) (fun _ _ _ h => h) (fun σ10792 h10793 g10794 f10795 g10796 => ?_)
  refine m_aload_n F rfl e_X10_takeText_59 ?_
  refine r_getC F e_X10_takeText_60 fl_X10_22 h10793 ((fld_eq (g10794 _ (by omega))).trans ((fld_eq (g10786 _ (by omega))).trans ((fld_eq (g10778 _ (by omega))).trans ((fld_eq (g10770 _ (by omega))).trans ((fld_eq (g10761 _ (by omega))).trans ((fld_eq (g10752 _ (by omega))).trans ((fld_eq (g10744 _ (by omega))).trans ((fld_eq (g10736 _ (by omega))).trans ((fld_eq (g10728 _ (by omega))).trans ((fld_eq (g10718 _ (by omega))).trans ((fld_eq (g10709 _ (by omega))).trans ((fld_eq (g10701 _ (by omega))).trans ((fld_eq (g10693 _ (by omega))).trans ((fld_eq (g10684 _ (by omega))).trans ((fld_eq (g10674 _ (by omega))).trans ((fld_eq (g10664 _ (by omega))).trans ((fld_eq (g10655 _ (by omega))).trans ((fld_eq (g10646 _ (by omega))).trans ((fld_eq (g10637 _ (by omega))).trans ((fld_eq (g10626 _ (by omega))).trans f10619)))))))))))))))))))) ?_
  refine m_iload_n F rfl e_X10_takeText_63 ?_
  refine m_aload_n F rfl e_X10_takeText_64 ?_
  refine r_getC F e_X10_takeText_65 fl_X10_22 h10793 ((fld_eq (g10794 _ (by omega))).trans ((fld_eq (g10786 _ (by omega))).trans ((fld_eq (g10778 _ (by omega))).trans ((fld_eq (g10770 _ (by omega))).trans ((fld_eq (g10761 _ (by omega))).trans ((fld_eq (g10752 _ (by omega))).trans ((fld_eq (g10744 _ (by omega))).trans ((fld_eq (g10736 _ (by omega))).trans ((fld_eq (g10728 _ (by omega))).trans ((fld_eq (g10718 _ (by omega))).trans ((fld_eq (g10709 _ (by omega))).trans ((fld_eq (g10701 _ (by omega))).trans ((fld_eq (g10693 _ (by omega))).trans ((fld_eq (g10684 _ (by omega))).trans ((fld_eq (g10674 _ (by omega))).trans ((fld_eq (g10664 _ (by omega))).trans ((fld_eq (g10655 _ (by omega))).trans ((fld_eq (g10646 _ (by omega))).trans ((fld_eq (g10637 _ (by omega))).trans ((fld_eq (g10626 _ (by omega))).trans f10619)))))))))))))))))))) ?_
  refine m_iconst F (v := 4) (by decide) e_X10_takeText_68 ?_
  refine m_iload_n F rfl e_X10_takeText_69 ?_
  refine m_iadd F e_X10_takeText_70 ?_
  refine Wm.topE (w := 6) (by decide) ?_
  refine r_iald F (len := 8) (j := 6) e_X10_takeText_71 h10793 (fun _ h => h) (by decide) (by decide) (by unfold vp_in; decide) (fun x10797 h10798 f10799 => ?_)
  obtain ⟨n10800, hn10800, rfl, pn10800, rn10800⟩ := h10798
  refine r_iast F (g' := (⟨T, Z, u, h, (mkP P10721.n0 P10721.n2 P10721.n5 P10721.n7 (min 3 P10721.m5) P10721.m5 P10721.w2 P10721.w7 P10721.kk P10721.a), L⟩ : RG)) (len := 8) (j := 2) e_X10_takeText_72 h10793 (fun _ h => h) (fun f h => ⟨f, rfl, h⟩) (by decide) (by decide) (by decide) (by unfold vp_in; decide) ⟨n10800, by omega, rfl, fun _ h8 => rn10800 (by omega) (show 6 < 4 + P10721.m5 by have h6 : 2 < min 3 P10721.m5 := h8; omega), fun h7 _ => absurd h7 (by omega)⟩ (fun i hi y hy => by obtain ⟨n9, a9, b9, c9, d9⟩ := hy; exact ⟨n9, a9, b9, fun h7 h8 => c9 h7 (show i < P10721.m0 by have h6 : i < min 3 P10721.m5 := h8; omega), d9⟩) (by intro i hi x hx; unfold CR at hx ⊢; split at hx <;> first | exact hx | exact absurd rfl hi) (fun σ10801 h10802 g10803 f10804 g10805 => ?_)
  obtain ⟨P10806, eP10806⟩ : ∃ P9, P9 = (mkP P10721.n0 P10721.n2 P10721.n5 P10721.n7 (min 3 P10721.m5) P10721.m5 P10721.w2 P10721.w7 P10721.kk P10721.a) := ⟨_, rfl⟩
  rw [← eP10806] at h10802
  have fP10806 : P10806.n0 = P10721.n0 ∧ P10806.n2 = P10721.n2 ∧ P10806.n5 = P10721.n5 ∧ P10806.n7 = P10721.n7 ∧ P10806.m0 = min 3 P10721.m5 ∧ P10806.m5 = P10721.m5 ∧ P10806.w2 = P10721.w2 ∧ P10806.w7 = P10721.w7 ∧ P10806.kk = P10721.kk ∧ P10806.a = P10721.a := by rw [eP10806]; exact ⟨rfl, rfl, rfl, rfl, rfl, rfl, rfl, rfl, rfl, rfl⟩
  refine m_aload_n F rfl e_X10_takeText_73 ?_
  refine r_getC F e_X10_takeText_74 fl_X10_25 h10802 ((fld_eq (g10803 _ (by omega))).trans ((fld_eq (g10794 _ (by omega))).trans ((fld_eq (g10786 _ (by omega))).trans ((fld_eq (g10778 _ (by omega))).trans ((fld_eq (g10770 _ (by omega))).trans ((fld_eq (g10761 _ (by omega))).trans ((fld_eq (g10752 _ (by omega))).trans ((fld_eq (g10744 _ (by omega))).trans ((fld_eq (g10736 _ (by omega))).trans ((fld_eq (g10728 _ (by omega))).trans ((fld_eq (g10718 _ (by omega))).trans ((fld_eq (g10709 _ (by omega))).trans ((fld_eq (g10701 _ (by omega))).trans ((fld_eq (g10693 _ (by omega))).trans ((fld_eq (g10684 _ (by omega))).trans ((fld_eq (g10674 _ (by omega))).trans ((fld_eq (g10664 _ (by omega))).trans ((fld_eq (g10655 _ (by omega))).trans ((fld_eq (g10646 _ (by omega))).trans ((fld_eq (g10637 _ (by omega))).trans f10630)))))))))))))))))))) ?_
  refine m_iload_n F rfl e_X10_takeText_77 ?_
  refine m_aload_n F rfl e_X10_takeText_78 ?_
  refine r_getC F e_X10_takeText_79 fl_X10_25 h10802 ((fld_eq (g10803 _ (by omega))).trans ((fld_eq (g10794 _ (by omega))).trans ((fld_eq (g10786 _ (by omega))).trans ((fld_eq (g10778 _ (by omega))).trans ((fld_eq (g10770 _ (by omega))).trans ((fld_eq (g10761 _ (by omega))).trans ((fld_eq (g10752 _ (by omega))).trans ((fld_eq (g10744 _ (by omega))).trans ((fld_eq (g10736 _ (by omega))).trans ((fld_eq (g10728 _ (by omega))).trans ((fld_eq (g10718 _ (by omega))).trans ((fld_eq (g10709 _ (by omega))).trans ((fld_eq (g10701 _ (by omega))).trans ((fld_eq (g10693 _ (by omega))).trans ((fld_eq (g10684 _ (by omega))).trans ((fld_eq (g10674 _ (by omega))).trans ((fld_eq (g10664 _ (by omega))).trans ((fld_eq (g10655 _ (by omega))).trans ((fld_eq (g10646 _ (by omega))).trans ((fld_eq (g10637 _ (by omega))).trans f10630)))))))))))))))))))) ?_
  refine m_iconst F (v := 4) (by decide) e_X10_takeText_82 ?_
  refine m_iload_n F rfl e_X10_takeText_83 ?_
  refine m_iadd F e_X10_takeText_84 ?_
  refine Wm.topE (w := 6) (by decide) ?_
  refine r_iald F (len := 8) (j := 6) e_X10_takeText_85 h10802 (fun _ h => h) (by decide) (by decide) (by unfold vp_in; decide) (fun x10807 h10808 f10809 => ?_)
  obtain ⟨n10810, hn10810, rfl⟩ := h10808
  refine r_iast F (g' := (⟨T, Z, u, h, P10806, L⟩ : RG)) (len := 8) (j := 2) e_X10_takeText_86 h10802 (fun _ h => h) (fun f h => ⟨f, rfl, h⟩) (by decide) (by decide) (by decide) (by unfold vp_in; decide) ⟨n10810, by omega, rfl⟩ (fun _ _ _ h => h) (fun _ _ _ h => h) (fun σ10811 h10812 g10813 f10814 g10815 => ?_)
  refine m_aload_n F rfl e_X10_takeText_87 ?_
  refine r_getC F e_X10_takeText_88 fl_X10_28 h10812 ((fld_eq (g10813 _ (by omega))).trans ((fld_eq (g10803 _ (by omega))).trans ((fld_eq (g10794 _ (by omega))).trans ((fld_eq (g10786 _ (by omega))).trans ((fld_eq (g10778 _ (by omega))).trans ((fld_eq (g10770 _ (by omega))).trans ((fld_eq (g10761 _ (by omega))).trans ((fld_eq (g10752 _ (by omega))).trans ((fld_eq (g10744 _ (by omega))).trans ((fld_eq (g10736 _ (by omega))).trans ((fld_eq (g10728 _ (by omega))).trans ((fld_eq (g10718 _ (by omega))).trans ((fld_eq (g10709 _ (by omega))).trans ((fld_eq (g10701 _ (by omega))).trans ((fld_eq (g10693 _ (by omega))).trans ((fld_eq (g10684 _ (by omega))).trans ((fld_eq (g10674 _ (by omega))).trans ((fld_eq (g10664 _ (by omega))).trans ((fld_eq (g10655 _ (by omega))).trans ((fld_eq (g10646 _ (by omega))).trans f10640)))))))))))))))))))) ?_
  refine m_iload_n F rfl e_X10_takeText_91 ?_
  refine m_aload_n F rfl e_X10_takeText_92 ?_
  refine r_getC F e_X10_takeText_93 fl_X10_28 h10812 ((fld_eq (g10813 _ (by omega))).trans ((fld_eq (g10803 _ (by omega))).trans ((fld_eq (g10794 _ (by omega))).trans ((fld_eq (g10786 _ (by omega))).trans ((fld_eq (g10778 _ (by omega))).trans ((fld_eq (g10770 _ (by omega))).trans ((fld_eq (g10761 _ (by omega))).trans ((fld_eq (g10752 _ (by omega))).trans ((fld_eq (g10744 _ (by omega))).trans ((fld_eq (g10736 _ (by omega))).trans ((fld_eq (g10728 _ (by omega))).trans ((fld_eq (g10718 _ (by omega))).trans ((fld_eq (g10709 _ (by omega))).trans ((fld_eq (g10701 _ (by omega))).trans ((fld_eq (g10693 _ (by omega))).trans ((fld_eq (g10684 _ (by omega))).trans ((fld_eq (g10674 _ (by omega))).trans ((fld_eq (g10664 _ (by omega))).trans ((fld_eq (g10655 _ (by omega))).trans ((fld_eq (g10646 _ (by omega))).trans f10640)))))))))))))))))))) ?_
  refine m_iconst F (v := 4) (by decide) e_X10_takeText_96 ?_
  refine m_iload_n F rfl e_X10_takeText_97 ?_
  refine m_iadd F e_X10_takeText_98 ?_
  refine Wm.topE (w := 6) (by decide) ?_
  refine r_iald F (len := 8) (j := 6) e_X10_takeText_99 h10812 (fun _ h => h) (by decide) (by decide) (by unfold vp_in; decide) (fun x10816 h10817 f10818 => ?_)
  refine r_iast F (g' := (⟨T, Z, u, h, P10806, L⟩ : RG)) (len := 8) (j := 2) e_X10_takeText_100 h10812 (fun _ h => h) (fun f h => ⟨f, rfl, h⟩) (by decide) (by decide) (by decide) (by unfold vp_in; decide) trivial (fun _ _ _ h => h) (fun _ _ _ h => h) (fun σ10819 h10820 g10821 f10822 g10823 => ?_)
  refine m_aload_n F rfl e_X10_takeText_101 ?_
  refine r_getC F e_X10_takeText_102 fl_X10_31 h10820 ((fld_eq (g10821 _ (by omega))).trans ((fld_eq (g10813 _ (by omega))).trans ((fld_eq (g10803 _ (by omega))).trans ((fld_eq (g10794 _ (by omega))).trans ((fld_eq (g10786 _ (by omega))).trans ((fld_eq (g10778 _ (by omega))).trans ((fld_eq (g10770 _ (by omega))).trans ((fld_eq (g10761 _ (by omega))).trans ((fld_eq (g10752 _ (by omega))).trans ((fld_eq (g10744 _ (by omega))).trans ((fld_eq (g10736 _ (by omega))).trans ((fld_eq (g10728 _ (by omega))).trans ((fld_eq (g10718 _ (by omega))).trans ((fld_eq (g10709 _ (by omega))).trans ((fld_eq (g10701 _ (by omega))).trans ((fld_eq (g10693 _ (by omega))).trans ((fld_eq (g10684 _ (by omega))).trans ((fld_eq (g10674 _ (by omega))).trans ((fld_eq (g10664 _ (by omega))).trans ((fld_eq (g10655 _ (by omega))).trans f10649)))))))))))))))))))) ?_
  refine m_iload_n F rfl e_X10_takeText_105 ?_
  refine m_aload_n F rfl e_X10_takeText_106 ?_
  refine r_getC F e_X10_takeText_107 fl_X10_31 h10820 ((fld_eq (g10821 _ (by omega))).trans ((fld_eq (g10813 _ (by omega))).trans ((fld_eq (g10803 _ (by omega))).trans ((fld_eq (g10794 _ (by omega))).trans ((fld_eq (g10786 _ (by omega))).trans ((fld_eq (g10778 _ (by omega))).trans ((fld_eq (g10770 _ (by omega))).trans ((fld_eq (g10761 _ (by omega))).trans ((fld_eq (g10752 _ (by omega))).trans ((fld_eq (g10744 _ (by omega))).trans ((fld_eq (g10736 _ (by omega))).trans ((fld_eq (g10728 _ (by omega))).trans ((fld_eq (g10718 _ (by omega))).trans ((fld_eq (g10709 _ (by omega))).trans ((fld_eq (g10701 _ (by omega))).trans ((fld_eq (g10693 _ (by omega))).trans ((fld_eq (g10684 _ (by omega))).trans ((fld_eq (g10674 _ (by omega))).trans ((fld_eq (g10664 _ (by omega))).trans ((fld_eq (g10655 _ (by omega))).trans f10649)))))))))))))))))))) ?_
  refine m_iconst F (v := 4) (by decide) e_X10_takeText_110 ?_
  refine m_iload_n F rfl e_X10_takeText_111 ?_
  refine m_iadd F e_X10_takeText_112 ?_
  refine Wm.topE (w := 6) (by decide) ?_
  refine r_iald F (len := 8) (j := 6) e_X10_takeText_113 h10820 (fun _ h => h) (by decide) (by decide) (by unfold vp_in; decide) (fun x10824 h10825 f10826 => ?_)
  refine r_iast F (g' := (⟨T, Z, u, h, P10806, L⟩ : RG)) (len := 8) (j := 2) e_X10_takeText_114 h10820 (fun _ h => h) (fun f h => ⟨f, rfl, h⟩) (by decide) (by decide) (by decide) (by unfold vp_in; decide) trivial (fun _ _ _ h => h) (fun _ _ _ h => h) (fun σ10827 h10828 g10829 f10830 g10831 => ?_)
  refine m_aload_n F rfl e_X10_takeText_115 ?_
  refine r_getC F e_X10_takeText_116 fl_X10_34 h10828 ((fld_eq (g10829 _ (by omega))).trans ((fld_eq (g10821 _ (by omega))).trans ((fld_eq (g10813 _ (by omega))).trans ((fld_eq (g10803 _ (by omega))).trans ((fld_eq (g10794 _ (by omega))).trans ((fld_eq (g10786 _ (by omega))).trans ((fld_eq (g10778 _ (by omega))).trans ((fld_eq (g10770 _ (by omega))).trans ((fld_eq (g10761 _ (by omega))).trans ((fld_eq (g10752 _ (by omega))).trans ((fld_eq (g10744 _ (by omega))).trans ((fld_eq (g10736 _ (by omega))).trans ((fld_eq (g10728 _ (by omega))).trans ((fld_eq (g10718 _ (by omega))).trans ((fld_eq (g10709 _ (by omega))).trans ((fld_eq (g10701 _ (by omega))).trans ((fld_eq (g10693 _ (by omega))).trans ((fld_eq (g10684 _ (by omega))).trans ((fld_eq (g10674 _ (by omega))).trans ((fld_eq (g10664 _ (by omega))).trans f10658)))))))))))))))))))) ?_
  refine m_iload_n F rfl e_X10_takeText_119 ?_
  refine m_aload_n F rfl e_X10_takeText_120 ?_
  refine r_getC F e_X10_takeText_121 fl_X10_34 h10828 ((fld_eq (g10829 _ (by omega))).trans ((fld_eq (g10821 _ (by omega))).trans ((fld_eq (g10813 _ (by omega))).trans ((fld_eq (g10803 _ (by omega))).trans ((fld_eq (g10794 _ (by omega))).trans ((fld_eq (g10786 _ (by omega))).trans ((fld_eq (g10778 _ (by omega))).trans ((fld_eq (g10770 _ (by omega))).trans ((fld_eq (g10761 _ (by omega))).trans ((fld_eq (g10752 _ (by omega))).trans ((fld_eq (g10744 _ (by omega))).trans ((fld_eq (g10736 _ (by omega))).trans ((fld_eq (g10728 _ (by omega))).trans ((fld_eq (g10718 _ (by omega))).trans ((fld_eq (g10709 _ (by omega))).trans ((fld_eq (g10701 _ (by omega))).trans ((fld_eq (g10693 _ (by omega))).trans ((fld_eq (g10684 _ (by omega))).trans ((fld_eq (g10674 _ (by omega))).trans ((fld_eq (g10664 _ (by omega))).trans f10658)))))))))))))))))))) ?_
  refine m_iconst F (v := 4) (by decide) e_X10_takeText_124 ?_
  refine m_iload_n F rfl e_X10_takeText_125 ?_
  refine m_iadd F e_X10_takeText_126 ?_
  refine Wm.topE (w := 6) (by decide) ?_
  refine r_iald F (len := 8) (j := 6) e_X10_takeText_127 h10828 (fun _ h => h) (by decide) (by decide) (by unfold vp_in; decide) (fun x10832 h10833 f10834 => ?_)
  refine r_iast F (g' := (⟨T, Z, u, h, P10806, L⟩ : RG)) (len := 8) (j := 2) e_X10_takeText_128 h10828 (fun _ h => h) (fun f h => ⟨f, rfl, h⟩) (by decide) (by decide) (by decide) (by unfold vp_in; decide) trivial (fun _ _ _ h => h) (fun _ _ _ h => h) (fun σ10835 h10836 g10837 f10838 g10839 => ?_)
  refine m_aload_n F rfl e_X10_takeText_129 ?_
  refine r_getC F e_X10_takeText_130 fl_X10_46 h10836 ((fld_eq (g10837 _ (by omega))).trans ((fld_eq (g10829 _ (by omega))).trans ((fld_eq (g10821 _ (by omega))).trans ((fld_eq (g10813 _ (by omega))).trans ((fld_eq (g10803 _ (by omega))).trans ((fld_eq (g10794 _ (by omega))).trans ((fld_eq (g10786 _ (by omega))).trans ((fld_eq (g10778 _ (by omega))).trans ((fld_eq (g10770 _ (by omega))).trans ((fld_eq (g10761 _ (by omega))).trans ((fld_eq (g10752 _ (by omega))).trans ((fld_eq (g10744 _ (by omega))).trans ((fld_eq (g10736 _ (by omega))).trans ((fld_eq (g10728 _ (by omega))).trans ((fld_eq (g10718 _ (by omega))).trans ((fld_eq (g10709 _ (by omega))).trans ((fld_eq (g10701 _ (by omega))).trans ((fld_eq (g10693 _ (by omega))).trans ((fld_eq (g10684 _ (by omega))).trans ((fld_eq (g10674 _ (by omega))).trans f10667)))))))))))))))))))) ?_
  refine m_iload_n F rfl e_X10_takeText_133 ?_
  refine m_aload_n F rfl e_X10_takeText_134 ?_
  refine r_getC F e_X10_takeText_135 fl_X10_46 h10836 ((fld_eq (g10837 _ (by omega))).trans ((fld_eq (g10829 _ (by omega))).trans ((fld_eq (g10821 _ (by omega))).trans ((fld_eq (g10813 _ (by omega))).trans ((fld_eq (g10803 _ (by omega))).trans ((fld_eq (g10794 _ (by omega))).trans ((fld_eq (g10786 _ (by omega))).trans ((fld_eq (g10778 _ (by omega))).trans ((fld_eq (g10770 _ (by omega))).trans ((fld_eq (g10761 _ (by omega))).trans ((fld_eq (g10752 _ (by omega))).trans ((fld_eq (g10744 _ (by omega))).trans ((fld_eq (g10736 _ (by omega))).trans ((fld_eq (g10728 _ (by omega))).trans ((fld_eq (g10718 _ (by omega))).trans ((fld_eq (g10709 _ (by omega))).trans ((fld_eq (g10701 _ (by omega))).trans ((fld_eq (g10693 _ (by omega))).trans ((fld_eq (g10684 _ (by omega))).trans ((fld_eq (g10674 _ (by omega))).trans f10667)))))))))))))))))))) ?_
  refine m_iconst F (v := 4) (by decide) e_X10_takeText_138 ?_
  refine m_iload_n F rfl e_X10_takeText_139 ?_
  refine m_iadd F e_X10_takeText_140 ?_
  refine Wm.topE (w := 6) (by decide) ?_
  refine r_iald F (len := 8) (j := 6) e_X10_takeText_141 h10836 (fun _ h => h) (by decide) (by decide) (by unfold vp_in; decide) (fun x10840 h10841 f10842 => ?_)
  obtain ⟨n10843, hn10843, rfl⟩ := h10841
  refine r_iast F (g' := (⟨T, Z, u, h, P10806, L⟩ : RG)) (len := 8) (j := 2) e_X10_takeText_142 h10836 (fun _ h => h) (fun f h => ⟨f, rfl, h⟩) (by decide) (by decide) (by decide) (by unfold vp_in; decide) ⟨n10843, by omega, rfl⟩ (fun _ _ _ h => h) (fun _ _ _ h => h) (fun σ10844 h10845 g10846 f10847 g10848 => ?_)
  refine m_aload_n F rfl e_X10_takeText_143 ?_
  refine r_getC F e_X10_takeText_144 fl_X10_49 h10845 ((fld_eq (g10846 _ (by omega))).trans ((fld_eq (g10837 _ (by omega))).trans ((fld_eq (g10829 _ (by omega))).trans ((fld_eq (g10821 _ (by omega))).trans ((fld_eq (g10813 _ (by omega))).trans ((fld_eq (g10803 _ (by omega))).trans ((fld_eq (g10794 _ (by omega))).trans ((fld_eq (g10786 _ (by omega))).trans ((fld_eq (g10778 _ (by omega))).trans ((fld_eq (g10770 _ (by omega))).trans ((fld_eq (g10761 _ (by omega))).trans ((fld_eq (g10752 _ (by omega))).trans ((fld_eq (g10744 _ (by omega))).trans ((fld_eq (g10736 _ (by omega))).trans ((fld_eq (g10728 _ (by omega))).trans ((fld_eq (g10718 _ (by omega))).trans ((fld_eq (g10709 _ (by omega))).trans ((fld_eq (g10701 _ (by omega))).trans ((fld_eq (g10693 _ (by omega))).trans ((fld_eq (g10684 _ (by omega))).trans f10677)))))))))))))))))))) ?_
  refine m_iload_n F rfl e_X10_takeText_147 ?_
  refine m_aload_n F rfl e_X10_takeText_148 ?_
  refine r_getC F e_X10_takeText_149 fl_X10_49 h10845 ((fld_eq (g10846 _ (by omega))).trans ((fld_eq (g10837 _ (by omega))).trans ((fld_eq (g10829 _ (by omega))).trans ((fld_eq (g10821 _ (by omega))).trans ((fld_eq (g10813 _ (by omega))).trans ((fld_eq (g10803 _ (by omega))).trans ((fld_eq (g10794 _ (by omega))).trans ((fld_eq (g10786 _ (by omega))).trans ((fld_eq (g10778 _ (by omega))).trans ((fld_eq (g10770 _ (by omega))).trans ((fld_eq (g10761 _ (by omega))).trans ((fld_eq (g10752 _ (by omega))).trans ((fld_eq (g10744 _ (by omega))).trans ((fld_eq (g10736 _ (by omega))).trans ((fld_eq (g10728 _ (by omega))).trans ((fld_eq (g10718 _ (by omega))).trans ((fld_eq (g10709 _ (by omega))).trans ((fld_eq (g10701 _ (by omega))).trans ((fld_eq (g10693 _ (by omega))).trans ((fld_eq (g10684 _ (by omega))).trans f10677)))))))))))))))))))) ?_
  refine m_iconst F (v := 4) (by decide) e_X10_takeText_152 ?_
  refine m_iload_n F rfl e_X10_takeText_153 ?_
  refine m_iadd F e_X10_takeText_154 ?_
  refine Wm.topE (w := 6) (by decide) ?_
  refine r_iald F (len := 8) (j := 6) e_X10_takeText_155 h10845 (fun _ h => h) (by decide) (by decide) (by unfold vp_in; decide) (fun x10849 h10850 f10851 => ?_)
  obtain ⟨n10852, hn10852, rfl⟩ := h10850
  refine r_iast F (g' := (⟨T, Z, u, h, P10806, L⟩ : RG)) (len := 8) (j := 2) e_X10_takeText_156 h10845 (fun _ h => h) (fun f h => ⟨f, rfl, h⟩) (by decide) (by decide) (by decide) (by unfold vp_in; decide) ⟨n10852, by omega, rfl⟩ (fun _ _ _ h => h) (fun _ _ _ h => h) (fun σ10853 h10854 g10855 f10856 g10857 => ?_)
  refine m_aload_n F rfl e_X10_takeText_157 ?_
  refine r_getC F e_X10_takeText_158 fl_X10_52 h10854 ((fld_eq (g10855 _ (by omega))).trans ((fld_eq (g10846 _ (by omega))).trans ((fld_eq (g10837 _ (by omega))).trans ((fld_eq (g10829 _ (by omega))).trans ((fld_eq (g10821 _ (by omega))).trans ((fld_eq (g10813 _ (by omega))).trans ((fld_eq (g10803 _ (by omega))).trans ((fld_eq (g10794 _ (by omega))).trans ((fld_eq (g10786 _ (by omega))).trans ((fld_eq (g10778 _ (by omega))).trans ((fld_eq (g10770 _ (by omega))).trans ((fld_eq (g10761 _ (by omega))).trans ((fld_eq (g10752 _ (by omega))).trans ((fld_eq (g10744 _ (by omega))).trans ((fld_eq (g10736 _ (by omega))).trans ((fld_eq (g10728 _ (by omega))).trans ((fld_eq (g10718 _ (by omega))).trans ((fld_eq (g10709 _ (by omega))).trans ((fld_eq (g10701 _ (by omega))).trans ((fld_eq (g10693 _ (by omega))).trans f10687)))))))))))))))))))) ?_
  refine m_iload_n F rfl e_X10_takeText_161 ?_
  refine m_aload_n F rfl e_X10_takeText_162 ?_
  refine r_getC F e_X10_takeText_163 fl_X10_52 h10854 ((fld_eq (g10855 _ (by omega))).trans ((fld_eq (g10846 _ (by omega))).trans ((fld_eq (g10837 _ (by omega))).trans ((fld_eq (g10829 _ (by omega))).trans ((fld_eq (g10821 _ (by omega))).trans ((fld_eq (g10813 _ (by omega))).trans ((fld_eq (g10803 _ (by omega))).trans ((fld_eq (g10794 _ (by omega))).trans ((fld_eq (g10786 _ (by omega))).trans ((fld_eq (g10778 _ (by omega))).trans ((fld_eq (g10770 _ (by omega))).trans ((fld_eq (g10761 _ (by omega))).trans ((fld_eq (g10752 _ (by omega))).trans ((fld_eq (g10744 _ (by omega))).trans ((fld_eq (g10736 _ (by omega))).trans ((fld_eq (g10728 _ (by omega))).trans ((fld_eq (g10718 _ (by omega))).trans ((fld_eq (g10709 _ (by omega))).trans ((fld_eq (g10701 _ (by omega))).trans ((fld_eq (g10693 _ (by omega))).trans f10687)))))))))))))))))))) ?_
  refine m_iconst F (v := 4) (by decide) e_X10_takeText_166 ?_
  refine m_iload_n F rfl e_X10_takeText_167 ?_
  refine m_iadd F e_X10_takeText_168 ?_
  refine Wm.topE (w := 6) (by decide) ?_
  refine r_iald F (len := 8) (j := 6) e_X10_takeText_169 h10854 (fun _ h => h) (by decide) (by decide) (by unfold vp_in; decide) (fun x10858 h10859 f10860 => ?_)
  refine r_iast F (g' := (⟨T, Z, u, h, P10806, L⟩ : RG)) (len := 8) (j := 2) e_X10_takeText_170 h10854 (fun _ h => h) (fun f h => ⟨f, rfl, h⟩) (by decide) (by decide) (by decide) (by unfold vp_in; decide) trivial (fun _ _ _ h => h) (fun _ _ _ h => h) (fun σ10861 h10862 g10863 f10864 g10865 => ?_)
  refine m_iinc F (v := 3) (lv' := [(1, .int 3), (0, .ref c)]) e_X10_takeText_171 rfl (by decide) (by decide) rfl ?_
  refine m_goto F e_X10_takeText_174 ?_
  refine m_iload_n F rfl e_X10_takeText_26 ?_
  refine m_iconst F (v := 4) (by decide) e_X10_takeText_27 ?_
  refine m_icmp_ge F e_X10_takeText_28 (fun q => absurd q (by decide)) (fun _ => ?_)
  refine m_aload_n F rfl e_X10_takeText_31 ?_
  refine r_getC F e_X10_takeText_32 fl_X10_16 h10862 ((fld_eq (g10863 _ (by omega))).trans ((fld_eq (g10855 _ (by omega))).trans ((fld_eq (g10846 _ (by omega))).trans ((fld_eq (g10837 _ (by omega))).trans ((fld_eq (g10829 _ (by omega))).trans ((fld_eq (g10821 _ (by omega))).trans ((fld_eq (g10813 _ (by omega))).trans ((fld_eq (g10803 _ (by omega))).trans ((fld_eq (g10794 _ (by omega))).trans ((fld_eq (g10786 _ (by omega))).trans ((fld_eq (g10778 _ (by omega))).trans ((fld_eq (g10770 _ (by omega))).trans ((fld_eq (g10761 _ (by omega))).trans ((fld_eq (g10752 _ (by omega))).trans ((fld_eq (g10744 _ (by omega))).trans ((fld_eq (g10736 _ (by omega))).trans ((fld_eq (g10728 _ (by omega))).trans ((fld_eq (g10718 _ (by omega))).trans ((fld_eq (g10709 _ (by omega))).trans ((fld_eq (g10701 _ (by omega))).trans ((fld_eq (g10693 _ (by omega))).trans ((fld_eq (g10684 _ (by omega))).trans ((fld_eq (g10674 _ (by omega))).trans ((fld_eq (g10664 _ (by omega))).trans ((fld_eq (g10655 _ (by omega))).trans ((fld_eq (g10646 _ (by omega))).trans ((fld_eq (g10637 _ (by omega))).trans ((fld_eq (g10626 _ (by omega))).trans ((fld_eq (g10616 _ (by omega))).trans ((fld_eq (g10607 _ (by omega))).trans f10601)))))))))))))))))))))))))))))) ?_
  refine m_iload_n F rfl e_X10_takeText_35 ?_
  refine m_aload_n F rfl e_X10_takeText_36 ?_
  refine r_getC F e_X10_takeText_37 fl_X10_16 h10862 ((fld_eq (g10863 _ (by omega))).trans ((fld_eq (g10855 _ (by omega))).trans ((fld_eq (g10846 _ (by omega))).trans ((fld_eq (g10837 _ (by omega))).trans ((fld_eq (g10829 _ (by omega))).trans ((fld_eq (g10821 _ (by omega))).trans ((fld_eq (g10813 _ (by omega))).trans ((fld_eq (g10803 _ (by omega))).trans ((fld_eq (g10794 _ (by omega))).trans ((fld_eq (g10786 _ (by omega))).trans ((fld_eq (g10778 _ (by omega))).trans ((fld_eq (g10770 _ (by omega))).trans ((fld_eq (g10761 _ (by omega))).trans ((fld_eq (g10752 _ (by omega))).trans ((fld_eq (g10744 _ (by omega))).trans ((fld_eq (g10736 _ (by omega))).trans ((fld_eq (g10728 _ (by omega))).trans ((fld_eq (g10718 _ (by omega))).trans ((fld_eq (g10709 _ (by omega))).trans ((fld_eq (g10701 _ (by omega))).trans ((fld_eq (g10693 _ (by omega))).trans ((fld_eq (g10684 _ (by omega))).trans ((fld_eq (g10674 _ (by omega))).trans ((fld_eq (g10664 _ (by omega))).trans ((fld_eq (g10655 _ (by omega))).trans ((fld_eq (g10646 _ (by omega))).trans ((fld_eq (g10637 _ (by omega))).trans ((fld_eq (g10626 _ (by omega))).trans ((fld_eq (g10616 _ (by omega))).trans ((fld_eq (g10607 _ (by omega))).trans f10601)))))))))))))))))))))))))))))) ?_
  refine m_iconst F (v := 4) (by decide) e_X10_takeText_40 ?_
  refine m_iload_n F rfl e_X10_takeText_41 ?_
  refine m_iadd F e_X10_takeText_42 ?_
  refine Wm.topE (w := 7) (by decide) ?_
  refine r_iald F (len := 8) (j := 7) e_X10_takeText_43 h10862 (fun _ h => h) (by decide) (by decide) (by unfold vp_in; decide) (fun x10866 h10867 f10868 => ?_)
  refine r_iast F (g' := (⟨T, Z, u, h, P10806, L⟩ : RG)) (len := 8) (j := 3) e_X10_takeText_44 h10862 (fun _ h => h) (fun f h => ⟨f, rfl, h⟩) (by decide) (by decide) (by decide) (by unfold vp_in; decide) trivial (fun _ _ _ h => h) (fun _ _ _ h => h) (fun σ10869 h10870 g10871 f10872 g10873 => ?_)
  refine m_aload_n F rfl e_X10_takeText_45 ?_
  refine r_getC F e_X10_takeText_46 fl_X10_19 h10870 ((fld_eq (g10871 _ (by omega))).trans ((fld_eq (g10863 _ (by omega))).trans ((fld_eq (g10855 _ (by omega))).trans ((fld_eq (g10846 _ (by omega))).trans ((fld_eq (g10837 _ (by omega))).trans ((fld_eq (g10829 _ (by omega))).trans ((fld_eq (g10821 _ (by omega))).trans ((fld_eq (g10813 _ (by omega))).trans ((fld_eq (g10803 _ (by omega))).trans ((fld_eq (g10794 _ (by omega))).trans ((fld_eq (g10786 _ (by omega))).trans ((fld_eq (g10778 _ (by omega))).trans ((fld_eq (g10770 _ (by omega))).trans ((fld_eq (g10761 _ (by omega))).trans ((fld_eq (g10752 _ (by omega))).trans ((fld_eq (g10744 _ (by omega))).trans ((fld_eq (g10736 _ (by omega))).trans ((fld_eq (g10728 _ (by omega))).trans ((fld_eq (g10718 _ (by omega))).trans ((fld_eq (g10709 _ (by omega))).trans ((fld_eq (g10701 _ (by omega))).trans ((fld_eq (g10693 _ (by omega))).trans ((fld_eq (g10684 _ (by omega))).trans ((fld_eq (g10674 _ (by omega))).trans ((fld_eq (g10664 _ (by omega))).trans ((fld_eq (g10655 _ (by omega))).trans ((fld_eq (g10646 _ (by omega))).trans ((fld_eq (g10637 _ (by omega))).trans ((fld_eq (g10626 _ (by omega))).trans ((fld_eq (g10616 _ (by omega))).trans f10610)))))))))))))))))))))))))))))) ?_
  refine m_iload_n F rfl e_X10_takeText_49 ?_
  refine m_aload_n F rfl e_X10_takeText_50 ?_
  refine r_getC F e_X10_takeText_51 fl_X10_19 h10870 ((fld_eq (g10871 _ (by omega))).trans ((fld_eq (g10863 _ (by omega))).trans ((fld_eq (g10855 _ (by omega))).trans ((fld_eq (g10846 _ (by omega))).trans ((fld_eq (g10837 _ (by omega))).trans ((fld_eq (g10829 _ (by omega))).trans ((fld_eq (g10821 _ (by omega))).trans ((fld_eq (g10813 _ (by omega))).trans ((fld_eq (g10803 _ (by omega))).trans ((fld_eq (g10794 _ (by omega))).trans ((fld_eq (g10786 _ (by omega))).trans ((fld_eq (g10778 _ (by omega))).trans ((fld_eq (g10770 _ (by omega))).trans ((fld_eq (g10761 _ (by omega))).trans ((fld_eq (g10752 _ (by omega))).trans ((fld_eq (g10744 _ (by omega))).trans ((fld_eq (g10736 _ (by omega))).trans ((fld_eq (g10728 _ (by omega))).trans ((fld_eq (g10718 _ (by omega))).trans ((fld_eq (g10709 _ (by omega))).trans ((fld_eq (g10701 _ (by omega))).trans ((fld_eq (g10693 _ (by omega))).trans ((fld_eq (g10684 _ (by omega))).trans ((fld_eq (g10674 _ (by omega))).trans ((fld_eq (g10664 _ (by omega))).trans ((fld_eq (g10655 _ (by omega))).trans ((fld_eq (g10646 _ (by omega))).trans ((fld_eq (g10637 _ (by omega))).trans ((fld_eq (g10626 _ (by omega))).trans ((fld_eq (g10616 _ (by omega))).trans f10610)))))))))))))))))))))))))))))) ?_
  refine m_iconst F (v := 4) (by decide) e_X10_takeText_54 ?_
  refine m_iload_n F rfl e_X10_takeText_55 ?_
  refine m_iadd F e_X10_takeText_56 ?_
  refine Wm.topE (w := 7) (by decide) ?_
  refine r_iald F (len := 8) (j := 7) e_X10_takeText_57 h10870 (fun _ h => h) (by decide) (by decide) (by unfold vp_in; decide) (fun x10874 h10875 f10876 => ?_)
  refine r_iast F (g' := (⟨T, Z, u, h, P10806, L⟩ : RG)) (len := 8) (j := 3) e_X10_takeText_58 h10870 (fun _ h => h) (fun f h => ⟨f, rfl, h⟩) (by decide) (by decide) (by decide) (by unfold vp_in; decide) trivial (fun _ _ _ h => h) (fun _ _ _ h => h) (fun σ10877 h10878 g10879 f10880 g10881 => ?_)
  refine m_aload_n F rfl e_X10_takeText_59 ?_
  refine r_getC F e_X10_takeText_60 fl_X10_22 h10878 ((fld_eq (g10879 _ (by omega))).trans ((fld_eq (g10871 _ (by omega))).trans ((fld_eq (g10863 _ (by omega))).trans ((fld_eq (g10855 _ (by omega))).trans ((fld_eq (g10846 _ (by omega))).trans ((fld_eq (g10837 _ (by omega))).trans ((fld_eq (g10829 _ (by omega))).trans ((fld_eq (g10821 _ (by omega))).trans ((fld_eq (g10813 _ (by omega))).trans ((fld_eq (g10803 _ (by omega))).trans ((fld_eq (g10794 _ (by omega))).trans ((fld_eq (g10786 _ (by omega))).trans ((fld_eq (g10778 _ (by omega))).trans ((fld_eq (g10770 _ (by omega))).trans ((fld_eq (g10761 _ (by omega))).trans ((fld_eq (g10752 _ (by omega))).trans ((fld_eq (g10744 _ (by omega))).trans ((fld_eq (g10736 _ (by omega))).trans ((fld_eq (g10728 _ (by omega))).trans ((fld_eq (g10718 _ (by omega))).trans ((fld_eq (g10709 _ (by omega))).trans ((fld_eq (g10701 _ (by omega))).trans ((fld_eq (g10693 _ (by omega))).trans ((fld_eq (g10684 _ (by omega))).trans ((fld_eq (g10674 _ (by omega))).trans ((fld_eq (g10664 _ (by omega))).trans ((fld_eq (g10655 _ (by omega))).trans ((fld_eq (g10646 _ (by omega))).trans ((fld_eq (g10637 _ (by omega))).trans ((fld_eq (g10626 _ (by omega))).trans f10619)))))))))))))))))))))))))))))) ?_
  refine m_iload_n F rfl e_X10_takeText_63 ?_
  refine m_aload_n F rfl e_X10_takeText_64 ?_
  refine r_getC F e_X10_takeText_65 fl_X10_22 h10878 ((fld_eq (g10879 _ (by omega))).trans ((fld_eq (g10871 _ (by omega))).trans ((fld_eq (g10863 _ (by omega))).trans ((fld_eq (g10855 _ (by omega))).trans ((fld_eq (g10846 _ (by omega))).trans ((fld_eq (g10837 _ (by omega))).trans ((fld_eq (g10829 _ (by omega))).trans ((fld_eq (g10821 _ (by omega))).trans ((fld_eq (g10813 _ (by omega))).trans ((fld_eq (g10803 _ (by omega))).trans ((fld_eq (g10794 _ (by omega))).trans ((fld_eq (g10786 _ (by omega))).trans ((fld_eq (g10778 _ (by omega))).trans ((fld_eq (g10770 _ (by omega))).trans ((fld_eq (g10761 _ (by omega))).trans ((fld_eq (g10752 _ (by omega))).trans ((fld_eq (g10744 _ (by omega))).trans ((fld_eq (g10736 _ (by omega))).trans ((fld_eq (g10728 _ (by omega))).trans ((fld_eq (g10718 _ (by omega))).trans ((fld_eq (g10709 _ (by omega))).trans ((fld_eq (g10701 _ (by omega))).trans ((fld_eq (g10693 _ (by omega))).trans ((fld_eq (g10684 _ (by omega))).trans ((fld_eq (g10674 _ (by omega))).trans ((fld_eq (g10664 _ (by omega))).trans ((fld_eq (g10655 _ (by omega))).trans ((fld_eq (g10646 _ (by omega))).trans ((fld_eq (g10637 _ (by omega))).trans ((fld_eq (g10626 _ (by omega))).trans f10619)))))))))))))))))))))))))))))) ?_
  refine m_iconst F (v := 4) (by decide) e_X10_takeText_68 ?_
  refine m_iload_n F rfl e_X10_takeText_69 ?_
  refine m_iadd F e_X10_takeText_70 ?_
  refine Wm.topE (w := 7) (by decide) ?_
  refine r_iald F (len := 8) (j := 7) e_X10_takeText_71 h10878 (fun _ h => h) (by decide) (by decide) (by unfold vp_in; decide) (fun x10882 h10883 f10884 => ?_)
  obtain ⟨n10885, hn10885, rfl, pn10885, rn10885⟩ := h10883
  refine r_iast F (g' := (⟨T, Z, u, h, (mkP P10806.n0 P10806.n2 P10806.n5 P10806.n7 (min 4 P10806.m5) P10806.m5 P10806.w2 P10806.w7 P10806.kk P10806.a), L⟩ : RG)) (len := 8) (j := 3) e_X10_takeText_72 h10878 (fun _ h => h) (fun f h => ⟨f, rfl, h⟩) (by decide) (by decide) (by decide) (by unfold vp_in; decide) ⟨n10885, by omega, rfl, fun _ h8 => rn10885 (by omega) (show 7 < 4 + P10806.m5 by have h6 : 3 < min 4 P10806.m5 := h8; omega), fun h7 _ => absurd h7 (by omega)⟩ (fun i hi y hy => by obtain ⟨n9, a9, b9, c9, d9⟩ := hy; exact ⟨n9, a9, b9, fun h7 h8 => c9 h7 (show i < P10806.m0 by have h6 : i < min 4 P10806.m5 := h8; omega), d9⟩) (by intro i hi x hx; unfold CR at hx ⊢; split at hx <;> first | exact hx | exact absurd rfl hi) (fun σ10886 h10887 g10888 f10889 g10890 => ?_)
  obtain ⟨P10891, eP10891⟩ : ∃ P9, P9 = (mkP P10806.n0 P10806.n2 P10806.n5 P10806.n7 (min 4 P10806.m5) P10806.m5 P10806.w2 P10806.w7 P10806.kk P10806.a) := ⟨_, rfl⟩
  rw [← eP10891] at h10887
  have fP10891 : P10891.n0 = P10806.n0 ∧ P10891.n2 = P10806.n2 ∧ P10891.n5 = P10806.n5 ∧ P10891.n7 = P10806.n7 ∧ P10891.m0 = min 4 P10806.m5 ∧ P10891.m5 = P10806.m5 ∧ P10891.w2 = P10806.w2 ∧ P10891.w7 = P10806.w7 ∧ P10891.kk = P10806.kk ∧ P10891.a = P10806.a := by rw [eP10891]; exact ⟨rfl, rfl, rfl, rfl, rfl, rfl, rfl, rfl, rfl, rfl⟩
  refine m_aload_n F rfl e_X10_takeText_73 ?_
  refine r_getC F e_X10_takeText_74 fl_X10_25 h10887 ((fld_eq (g10888 _ (by omega))).trans ((fld_eq (g10879 _ (by omega))).trans ((fld_eq (g10871 _ (by omega))).trans ((fld_eq (g10863 _ (by omega))).trans ((fld_eq (g10855 _ (by omega))).trans ((fld_eq (g10846 _ (by omega))).trans ((fld_eq (g10837 _ (by omega))).trans ((fld_eq (g10829 _ (by omega))).trans ((fld_eq (g10821 _ (by omega))).trans ((fld_eq (g10813 _ (by omega))).trans ((fld_eq (g10803 _ (by omega))).trans ((fld_eq (g10794 _ (by omega))).trans ((fld_eq (g10786 _ (by omega))).trans ((fld_eq (g10778 _ (by omega))).trans ((fld_eq (g10770 _ (by omega))).trans ((fld_eq (g10761 _ (by omega))).trans ((fld_eq (g10752 _ (by omega))).trans ((fld_eq (g10744 _ (by omega))).trans ((fld_eq (g10736 _ (by omega))).trans ((fld_eq (g10728 _ (by omega))).trans ((fld_eq (g10718 _ (by omega))).trans ((fld_eq (g10709 _ (by omega))).trans ((fld_eq (g10701 _ (by omega))).trans ((fld_eq (g10693 _ (by omega))).trans ((fld_eq (g10684 _ (by omega))).trans ((fld_eq (g10674 _ (by omega))).trans ((fld_eq (g10664 _ (by omega))).trans ((fld_eq (g10655 _ (by omega))).trans ((fld_eq (g10646 _ (by omega))).trans ((fld_eq (g10637 _ (by omega))).trans f10630)))))))))))))))))))))))))))))) ?_
  refine m_iload_n F rfl e_X10_takeText_77 ?_
  refine m_aload_n F rfl e_X10_takeText_78 ?_
  refine r_getC F e_X10_takeText_79 fl_X10_25 h10887 ((fld_eq (g10888 _ (by omega))).trans ((fld_eq (g10879 _ (by omega))).trans ((fld_eq (g10871 _ (by omega))).trans ((fld_eq (g10863 _ (by omega))).trans ((fld_eq (g10855 _ (by omega))).trans ((fld_eq (g10846 _ (by omega))).trans ((fld_eq (g10837 _ (by omega))).trans ((fld_eq (g10829 _ (by omega))).trans ((fld_eq (g10821 _ (by omega))).trans ((fld_eq (g10813 _ (by omega))).trans ((fld_eq (g10803 _ (by omega))).trans ((fld_eq (g10794 _ (by omega))).trans ((fld_eq (g10786 _ (by omega))).trans ((fld_eq (g10778 _ (by omega))).trans ((fld_eq (g10770 _ (by omega))).trans ((fld_eq (g10761 _ (by omega))).trans ((fld_eq (g10752 _ (by omega))).trans ((fld_eq (g10744 _ (by omega))).trans ((fld_eq (g10736 _ (by omega))).trans ((fld_eq (g10728 _ (by omega))).trans ((fld_eq (g10718 _ (by omega))).trans ((fld_eq (g10709 _ (by omega))).trans ((fld_eq (g10701 _ (by omega))).trans ((fld_eq (g10693 _ (by omega))).trans ((fld_eq (g10684 _ (by omega))).trans ((fld_eq (g10674 _ (by omega))).trans ((fld_eq (g10664 _ (by omega))).trans ((fld_eq (g10655 _ (by omega))).trans ((fld_eq (g10646 _ (by omega))).trans ((fld_eq (g10637 _ (by omega))).trans f10630)))))))))))))))))))))))))))))) ?_
  refine m_iconst F (v := 4) (by decide) e_X10_takeText_82 ?_
  refine m_iload_n F rfl e_X10_takeText_83 ?_
  refine m_iadd F e_X10_takeText_84 ?_
  refine Wm.topE (w := 7) (by decide) ?_
  refine r_iald F (len := 8) (j := 7) e_X10_takeText_85 h10887 (fun _ h => h) (by decide) (by decide) (by unfold vp_in; decide) (fun x10892 h10893 f10894 => ?_)
  obtain ⟨n10895, hn10895, rfl⟩ := h10893
  refine r_iast F (g' := (⟨T, Z, u, h, P10891, L⟩ : RG)) (len := 8) (j := 3) e_X10_takeText_86 h10887 (fun _ h => h) (fun f h => ⟨f, rfl, h⟩) (by decide) (by decide) (by decide) (by unfold vp_in; decide) ⟨n10895, by omega, rfl⟩ (fun _ _ _ h => h) (fun _ _ _ h => h) (fun σ10896 h10897 g10898 f10899 g10900 => ?_)
  refine m_aload_n F rfl e_X10_takeText_87 ?_
  refine r_getC F e_X10_takeText_88 fl_X10_28 h10897 ((fld_eq (g10898 _ (by omega))).trans ((fld_eq (g10888 _ (by omega))).trans ((fld_eq (g10879 _ (by omega))).trans ((fld_eq (g10871 _ (by omega))).trans ((fld_eq (g10863 _ (by omega))).trans ((fld_eq (g10855 _ (by omega))).trans ((fld_eq (g10846 _ (by omega))).trans ((fld_eq (g10837 _ (by omega))).trans ((fld_eq (g10829 _ (by omega))).trans ((fld_eq (g10821 _ (by omega))).trans ((fld_eq (g10813 _ (by omega))).trans ((fld_eq (g10803 _ (by omega))).trans ((fld_eq (g10794 _ (by omega))).trans ((fld_eq (g10786 _ (by omega))).trans ((fld_eq (g10778 _ (by omega))).trans ((fld_eq (g10770 _ (by omega))).trans ((fld_eq (g10761 _ (by omega))).trans ((fld_eq (g10752 _ (by omega))).trans ((fld_eq (g10744 _ (by omega))).trans ((fld_eq (g10736 _ (by omega))).trans ((fld_eq (g10728 _ (by omega))).trans ((fld_eq (g10718 _ (by omega))).trans ((fld_eq (g10709 _ (by omega))).trans ((fld_eq (g10701 _ (by omega))).trans ((fld_eq (g10693 _ (by omega))).trans ((fld_eq (g10684 _ (by omega))).trans ((fld_eq (g10674 _ (by omega))).trans ((fld_eq (g10664 _ (by omega))).trans ((fld_eq (g10655 _ (by omega))).trans ((fld_eq (g10646 _ (by omega))).trans f10640)))))))))))))))))))))))))))))) ?_
  refine m_iload_n F rfl e_X10_takeText_91 ?_
  refine m_aload_n F rfl e_X10_takeText_92 ?_
  refine r_getC F e_X10_takeText_93 fl_X10_28 h10897 ((fld_eq (g10898 _ (by omega))).trans ((fld_eq (g10888 _ (by omega))).trans ((fld_eq (g10879 _ (by omega))).trans ((fld_eq (g10871 _ (by omega))).trans ((fld_eq (g10863 _ (by omega))).trans ((fld_eq (g10855 _ (by omega))).trans ((fld_eq (g10846 _ (by omega))).trans ((fld_eq (g10837 _ (by omega))).trans ((fld_eq (g10829 _ (by omega))).trans ((fld_eq (g10821 _ (by omega))).trans ((fld_eq (g10813 _ (by omega))).trans ((fld_eq (g10803 _ (by omega))).trans ((fld_eq (g10794 _ (by omega))).trans ((fld_eq (g10786 _ (by omega))).trans ((fld_eq (g10778 _ (by omega))).trans ((fld_eq (g10770 _ (by omega))).trans ((fld_eq (g10761 _ (by omega))).trans ((fld_eq (g10752 _ (by omega))).trans ((fld_eq (g10744 _ (by omega))).trans ((fld_eq (g10736 _ (by omega))).trans ((fld_eq (g10728 _ (by omega))).trans ((fld_eq (g10718 _ (by omega))).trans ((fld_eq (g10709 _ (by omega))).trans ((fld_eq (g10701 _ (by omega))).trans ((fld_eq (g10693 _ (by omega))).trans ((fld_eq (g10684 _ (by omega))).trans ((fld_eq (g10674 _ (by omega))).trans ((fld_eq (g10664 _ (by omega))).trans ((fld_eq (g10655 _ (by omega))).trans ((fld_eq (g10646 _ (by omega))).trans f10640)))))))))))))))))))))))))))))) ?_
  refine m_iconst F (v := 4) (by decide) e_X10_takeText_96 ?_
  refine m_iload_n F rfl e_X10_takeText_97 ?_
  refine m_iadd F e_X10_takeText_98 ?_
  refine Wm.topE (w := 7) (by decide) ?_
  refine r_iald F (len := 8) (j := 7) e_X10_takeText_99 h10897 (fun _ h => h) (by decide) (by decide) (by unfold vp_in; decide) (fun x10901 h10902 f10903 => ?_)
  refine r_iast F (g' := (⟨T, Z, u, h, P10891, L⟩ : RG)) (len := 8) (j := 3) e_X10_takeText_100 h10897 (fun _ h => h) (fun f h => ⟨f, rfl, h⟩) (by decide) (by decide) (by decide) (by unfold vp_in; decide) trivial (fun _ _ _ h => h) (fun _ _ _ h => h) (fun σ10904 h10905 g10906 f10907 g10908 => ?_)
  refine m_aload_n F rfl e_X10_takeText_101 ?_
  refine r_getC F e_X10_takeText_102 fl_X10_31 h10905 ((fld_eq (g10906 _ (by omega))).trans ((fld_eq (g10898 _ (by omega))).trans ((fld_eq (g10888 _ (by omega))).trans ((fld_eq (g10879 _ (by omega))).trans ((fld_eq (g10871 _ (by omega))).trans ((fld_eq (g10863 _ (by omega))).trans ((fld_eq (g10855 _ (by omega))).trans ((fld_eq (g10846 _ (by omega))).trans ((fld_eq (g10837 _ (by omega))).trans ((fld_eq (g10829 _ (by omega))).trans ((fld_eq (g10821 _ (by omega))).trans ((fld_eq (g10813 _ (by omega))).trans ((fld_eq (g10803 _ (by omega))).trans ((fld_eq (g10794 _ (by omega))).trans ((fld_eq (g10786 _ (by omega))).trans ((fld_eq (g10778 _ (by omega))).trans ((fld_eq (g10770 _ (by omega))).trans ((fld_eq (g10761 _ (by omega))).trans ((fld_eq (g10752 _ (by omega))).trans ((fld_eq (g10744 _ (by omega))).trans ((fld_eq (g10736 _ (by omega))).trans ((fld_eq (g10728 _ (by omega))).trans ((fld_eq (g10718 _ (by omega))).trans ((fld_eq (g10709 _ (by omega))).trans ((fld_eq (g10701 _ (by omega))).trans ((fld_eq (g10693 _ (by omega))).trans ((fld_eq (g10684 _ (by omega))).trans ((fld_eq (g10674 _ (by omega))).trans ((fld_eq (g10664 _ (by omega))).trans ((fld_eq (g10655 _ (by omega))).trans f10649)))))))))))))))))))))))))))))) ?_
  refine m_iload_n F rfl e_X10_takeText_105 ?_
  refine m_aload_n F rfl e_X10_takeText_106 ?_
  refine r_getC F e_X10_takeText_107 fl_X10_31 h10905 ((fld_eq (g10906 _ (by omega))).trans ((fld_eq (g10898 _ (by omega))).trans ((fld_eq (g10888 _ (by omega))).trans ((fld_eq (g10879 _ (by omega))).trans ((fld_eq (g10871 _ (by omega))).trans ((fld_eq (g10863 _ (by omega))).trans ((fld_eq (g10855 _ (by omega))).trans ((fld_eq (g10846 _ (by omega))).trans ((fld_eq (g10837 _ (by omega))).trans ((fld_eq (g10829 _ (by omega))).trans ((fld_eq (g10821 _ (by omega))).trans ((fld_eq (g10813 _ (by omega))).trans ((fld_eq (g10803 _ (by omega))).trans ((fld_eq (g10794 _ (by omega))).trans ((fld_eq (g10786 _ (by omega))).trans ((fld_eq (g10778 _ (by omega))).trans ((fld_eq (g10770 _ (by omega))).trans ((fld_eq (g10761 _ (by omega))).trans ((fld_eq (g10752 _ (by omega))).trans ((fld_eq (g10744 _ (by omega))).trans ((fld_eq (g10736 _ (by omega))).trans ((fld_eq (g10728 _ (by omega))).trans ((fld_eq (g10718 _ (by omega))).trans ((fld_eq (g10709 _ (by omega))).trans ((fld_eq (g10701 _ (by omega))).trans ((fld_eq (g10693 _ (by omega))).trans ((fld_eq (g10684 _ (by omega))).trans ((fld_eq (g10674 _ (by omega))).trans ((fld_eq (g10664 _ (by omega))).trans ((fld_eq (g10655 _ (by omega))).trans f10649)))))))))))))))))))))))))))))) ?_
  refine m_iconst F (v := 4) (by decide) e_X10_takeText_110 ?_
  refine m_iload_n F rfl e_X10_takeText_111 ?_
  refine m_iadd F e_X10_takeText_112 ?_
  refine Wm.topE (w := 7) (by decide) ?_
  refine r_iald F (len := 8) (j := 7) e_X10_takeText_113 h10905 (fun _ h => h) (by decide) (by decide) (by unfold vp_in; decide) (fun x10909 h10910 f10911 => ?_)
  refine r_iast F (g' := (⟨T, Z, u, h, P10891, L⟩ : RG)) (len := 8) (j := 3) e_X10_takeText_114 h10905 (fun _ h => h) (fun f h => ⟨f, rfl, h⟩) (by decide) (by decide) (by decide) (by unfold vp_in; decide) trivial (fun _ _ _ h => h) (fun _ _ _ h => h) (fun σ10912 h10913 g10914 f10915 g10916 => ?_)
  refine m_aload_n F rfl e_X10_takeText_115 ?_
  refine r_getC F e_X10_takeText_116 fl_X10_34 h10913 ((fld_eq (g10914 _ (by omega))).trans ((fld_eq (g10906 _ (by omega))).trans ((fld_eq (g10898 _ (by omega))).trans ((fld_eq (g10888 _ (by omega))).trans ((fld_eq (g10879 _ (by omega))).trans ((fld_eq (g10871 _ (by omega))).trans ((fld_eq (g10863 _ (by omega))).trans ((fld_eq (g10855 _ (by omega))).trans ((fld_eq (g10846 _ (by omega))).trans ((fld_eq (g10837 _ (by omega))).trans ((fld_eq (g10829 _ (by omega))).trans ((fld_eq (g10821 _ (by omega))).trans ((fld_eq (g10813 _ (by omega))).trans ((fld_eq (g10803 _ (by omega))).trans ((fld_eq (g10794 _ (by omega))).trans ((fld_eq (g10786 _ (by omega))).trans ((fld_eq (g10778 _ (by omega))).trans ((fld_eq (g10770 _ (by omega))).trans ((fld_eq (g10761 _ (by omega))).trans ((fld_eq (g10752 _ (by omega))).trans ((fld_eq (g10744 _ (by omega))).trans ((fld_eq (g10736 _ (by omega))).trans ((fld_eq (g10728 _ (by omega))).trans ((fld_eq (g10718 _ (by omega))).trans ((fld_eq (g10709 _ (by omega))).trans ((fld_eq (g10701 _ (by omega))).trans ((fld_eq (g10693 _ (by omega))).trans ((fld_eq (g10684 _ (by omega))).trans ((fld_eq (g10674 _ (by omega))).trans ((fld_eq (g10664 _ (by omega))).trans f10658)))))))))))))))))))))))))))))) ?_
  refine m_iload_n F rfl e_X10_takeText_119 ?_
  refine m_aload_n F rfl e_X10_takeText_120 ?_
  refine r_getC F e_X10_takeText_121 fl_X10_34 h10913 ((fld_eq (g10914 _ (by omega))).trans ((fld_eq (g10906 _ (by omega))).trans ((fld_eq (g10898 _ (by omega))).trans ((fld_eq (g10888 _ (by omega))).trans ((fld_eq (g10879 _ (by omega))).trans ((fld_eq (g10871 _ (by omega))).trans ((fld_eq (g10863 _ (by omega))).trans ((fld_eq (g10855 _ (by omega))).trans ((fld_eq (g10846 _ (by omega))).trans ((fld_eq (g10837 _ (by omega))).trans ((fld_eq (g10829 _ (by omega))).trans ((fld_eq (g10821 _ (by omega))).trans ((fld_eq (g10813 _ (by omega))).trans ((fld_eq (g10803 _ (by omega))).trans ((fld_eq (g10794 _ (by omega))).trans ((fld_eq (g10786 _ (by omega))).trans ((fld_eq (g10778 _ (by omega))).trans ((fld_eq (g10770 _ (by omega))).trans ((fld_eq (g10761 _ (by omega))).trans ((fld_eq (g10752 _ (by omega))).trans ((fld_eq (g10744 _ (by omega))).trans ((fld_eq (g10736 _ (by omega))).trans ((fld_eq (g10728 _ (by omega))).trans ((fld_eq (g10718 _ (by omega))).trans ((fld_eq (g10709 _ (by omega))).trans ((fld_eq (g10701 _ (by omega))).trans ((fld_eq (g10693 _ (by omega))).trans ((fld_eq (g10684 _ (by omega))).trans ((fld_eq (g10674 _ (by omega))).trans ((fld_eq (g10664 _ (by omega))).trans f10658)))))))))))))))))))))))))))))) ?_
  refine m_iconst F (v := 4) (by decide) e_X10_takeText_124 ?_
  refine m_iload_n F rfl e_X10_takeText_125 ?_
  refine m_iadd F e_X10_takeText_126 ?_
  refine Wm.topE (w := 7) (by decide) ?_
  refine r_iald F (len := 8) (j := 7) e_X10_takeText_127 h10913 (fun _ h => h) (by decide) (by decide) (by unfold vp_in; decide) (fun x10917 h10918 f10919 => ?_)
  refine r_iast F (g' := (⟨T, Z, u, h, P10891, L⟩ : RG)) (len := 8) (j := 3) e_X10_takeText_128 h10913 (fun _ h => h) (fun f h => ⟨f, rfl, h⟩) (by decide) (by decide) (by decide) (by unfold vp_in; decide) trivial (fun _ _ _ h => h) (fun _ _ _ h => h) (fun σ10920 h10921 g10922 f10923 g10924 => ?_)
  refine m_aload_n F rfl e_X10_takeText_129 ?_
  refine r_getC F e_X10_takeText_130 fl_X10_46 h10921 ((fld_eq (g10922 _ (by omega))).trans ((fld_eq (g10914 _ (by omega))).trans ((fld_eq (g10906 _ (by omega))).trans ((fld_eq (g10898 _ (by omega))).trans ((fld_eq (g10888 _ (by omega))).trans ((fld_eq (g10879 _ (by omega))).trans ((fld_eq (g10871 _ (by omega))).trans ((fld_eq (g10863 _ (by omega))).trans ((fld_eq (g10855 _ (by omega))).trans ((fld_eq (g10846 _ (by omega))).trans ((fld_eq (g10837 _ (by omega))).trans ((fld_eq (g10829 _ (by omega))).trans ((fld_eq (g10821 _ (by omega))).trans ((fld_eq (g10813 _ (by omega))).trans ((fld_eq (g10803 _ (by omega))).trans ((fld_eq (g10794 _ (by omega))).trans ((fld_eq (g10786 _ (by omega))).trans ((fld_eq (g10778 _ (by omega))).trans ((fld_eq (g10770 _ (by omega))).trans ((fld_eq (g10761 _ (by omega))).trans ((fld_eq (g10752 _ (by omega))).trans ((fld_eq (g10744 _ (by omega))).trans ((fld_eq (g10736 _ (by omega))).trans ((fld_eq (g10728 _ (by omega))).trans ((fld_eq (g10718 _ (by omega))).trans ((fld_eq (g10709 _ (by omega))).trans ((fld_eq (g10701 _ (by omega))).trans ((fld_eq (g10693 _ (by omega))).trans ((fld_eq (g10684 _ (by omega))).trans ((fld_eq (g10674 _ (by omega))).trans f10667)))))))))))))))))))))))))))))) ?_
  refine m_iload_n F rfl e_X10_takeText_133 ?_
  refine m_aload_n F rfl e_X10_takeText_134 ?_
  refine r_getC F e_X10_takeText_135 fl_X10_46 h10921 ((fld_eq (g10922 _ (by omega))).trans ((fld_eq (g10914 _ (by omega))).trans ((fld_eq (g10906 _ (by omega))).trans ((fld_eq (g10898 _ (by omega))).trans ((fld_eq (g10888 _ (by omega))).trans ((fld_eq (g10879 _ (by omega))).trans ((fld_eq (g10871 _ (by omega))).trans ((fld_eq (g10863 _ (by omega))).trans ((fld_eq (g10855 _ (by omega))).trans ((fld_eq (g10846 _ (by omega))).trans ((fld_eq (g10837 _ (by omega))).trans ((fld_eq (g10829 _ (by omega))).trans ((fld_eq (g10821 _ (by omega))).trans ((fld_eq (g10813 _ (by omega))).trans ((fld_eq (g10803 _ (by omega))).trans ((fld_eq (g10794 _ (by omega))).trans ((fld_eq (g10786 _ (by omega))).trans ((fld_eq (g10778 _ (by omega))).trans ((fld_eq (g10770 _ (by omega))).trans ((fld_eq (g10761 _ (by omega))).trans ((fld_eq (g10752 _ (by omega))).trans ((fld_eq (g10744 _ (by omega))).trans ((fld_eq (g10736 _ (by omega))).trans ((fld_eq (g10728 _ (by omega))).trans ((fld_eq (g10718 _ (by omega))).trans ((fld_eq (g10709 _ (by omega))).trans ((fld_eq (g10701 _ (by omega))).trans ((fld_eq (g10693 _ (by omega))).trans ((fld_eq (g10684 _ (by omega))).trans ((fld_eq (g10674 _ (by omega))).trans f10667)))))))))))))))))))))))))))))) ?_
  refine m_iconst F (v := 4) (by decide) e_X10_takeText_138 ?_
  refine m_iload_n F rfl e_X10_takeText_139 ?_
  refine m_iadd F e_X10_takeText_140 ?_
  refine Wm.topE (w := 7) (by decide) ?_
  refine r_iald F (len := 8) (j := 7) e_X10_takeText_141 h10921 (fun _ h => h) (by decide) (by decide) (by unfold vp_in; decide) (fun x10925 h10926 f10927 => ?_)
  obtain ⟨n10928, hn10928, rfl⟩ := h10926
  refine r_iast F (g' := (⟨T, Z, u, h, P10891, L⟩ : RG)) (len := 8) (j := 3) e_X10_takeText_142 h10921 (fun _ h => h) (fun f h => ⟨f, rfl, h⟩) (by decide) (by decide) (by decide) (by unfold vp_in; decide) ⟨n10928, by omega, rfl⟩ (fun _ _ _ h => h) (fun _ _ _ h => h) (fun σ10929 h10930 g10931 f10932 g10933 => ?_)
  refine m_aload_n F rfl e_X10_takeText_143 ?_
  refine r_getC F e_X10_takeText_144 fl_X10_49 h10930 ((fld_eq (g10931 _ (by omega))).trans ((fld_eq (g10922 _ (by omega))).trans ((fld_eq (g10914 _ (by omega))).trans ((fld_eq (g10906 _ (by omega))).trans ((fld_eq (g10898 _ (by omega))).trans ((fld_eq (g10888 _ (by omega))).trans ((fld_eq (g10879 _ (by omega))).trans ((fld_eq (g10871 _ (by omega))).trans ((fld_eq (g10863 _ (by omega))).trans ((fld_eq (g10855 _ (by omega))).trans ((fld_eq (g10846 _ (by omega))).trans ((fld_eq (g10837 _ (by omega))).trans ((fld_eq (g10829 _ (by omega))).trans ((fld_eq (g10821 _ (by omega))).trans ((fld_eq (g10813 _ (by omega))).trans ((fld_eq (g10803 _ (by omega))).trans ((fld_eq (g10794 _ (by omega))).trans ((fld_eq (g10786 _ (by omega))).trans ((fld_eq (g10778 _ (by omega))).trans ((fld_eq (g10770 _ (by omega))).trans ((fld_eq (g10761 _ (by omega))).trans ((fld_eq (g10752 _ (by omega))).trans ((fld_eq (g10744 _ (by omega))).trans ((fld_eq (g10736 _ (by omega))).trans ((fld_eq (g10728 _ (by omega))).trans ((fld_eq (g10718 _ (by omega))).trans ((fld_eq (g10709 _ (by omega))).trans ((fld_eq (g10701 _ (by omega))).trans ((fld_eq (g10693 _ (by omega))).trans ((fld_eq (g10684 _ (by omega))).trans f10677)))))))))))))))))))))))))))))) ?_
  refine m_iload_n F rfl e_X10_takeText_147 ?_
  refine m_aload_n F rfl e_X10_takeText_148 ?_
  refine r_getC F e_X10_takeText_149 fl_X10_49 h10930 ((fld_eq (g10931 _ (by omega))).trans ((fld_eq (g10922 _ (by omega))).trans ((fld_eq (g10914 _ (by omega))).trans ((fld_eq (g10906 _ (by omega))).trans ((fld_eq (g10898 _ (by omega))).trans ((fld_eq (g10888 _ (by omega))).trans ((fld_eq (g10879 _ (by omega))).trans ((fld_eq (g10871 _ (by omega))).trans ((fld_eq (g10863 _ (by omega))).trans ((fld_eq (g10855 _ (by omega))).trans ((fld_eq (g10846 _ (by omega))).trans ((fld_eq (g10837 _ (by omega))).trans ((fld_eq (g10829 _ (by omega))).trans ((fld_eq (g10821 _ (by omega))).trans ((fld_eq (g10813 _ (by omega))).trans ((fld_eq (g10803 _ (by omega))).trans ((fld_eq (g10794 _ (by omega))).trans ((fld_eq (g10786 _ (by omega))).trans ((fld_eq (g10778 _ (by omega))).trans ((fld_eq (g10770 _ (by omega))).trans ((fld_eq (g10761 _ (by omega))).trans ((fld_eq (g10752 _ (by omega))).trans ((fld_eq (g10744 _ (by omega))).trans ((fld_eq (g10736 _ (by omega))).trans ((fld_eq (g10728 _ (by omega))).trans ((fld_eq (g10718 _ (by omega))).trans ((fld_eq (g10709 _ (by omega))).trans ((fld_eq (g10701 _ (by omega))).trans ((fld_eq (g10693 _ (by omega))).trans ((fld_eq (g10684 _ (by omega))).trans f10677)))))))))))))))))))))))))))))) ?_
  refine m_iconst F (v := 4) (by decide) e_X10_takeText_152 ?_
  refine m_iload_n F rfl e_X10_takeText_153 ?_
  refine m_iadd F e_X10_takeText_154 ?_
  refine Wm.topE (w := 7) (by decide) ?_
  refine r_iald F (len := 8) (j := 7) e_X10_takeText_155 h10930 (fun _ h => h) (by decide) (by decide) (by unfold vp_in; decide) (fun x10934 h10935 f10936 => ?_)
  obtain ⟨n10937, hn10937, rfl⟩ := h10935
  refine r_iast F (g' := (⟨T, Z, u, h, P10891, L⟩ : RG)) (len := 8) (j := 3) e_X10_takeText_156 h10930 (fun _ h => h) (fun f h => ⟨f, rfl, h⟩) (by decide) (by decide) (by decide) (by unfold vp_in; decide) ⟨n10937, by omega, rfl⟩ (fun _ _ _ h => h) (fun _ _ _ h => h) (fun σ10938 h10939 g10940 f10941 g10942 => ?_)
  refine m_aload_n F rfl e_X10_takeText_157 ?_
  refine r_getC F e_X10_takeText_158 fl_X10_52 h10939 ((fld_eq (g10940 _ (by omega))).trans ((fld_eq (g10931 _ (by omega))).trans ((fld_eq (g10922 _ (by omega))).trans ((fld_eq (g10914 _ (by omega))).trans ((fld_eq (g10906 _ (by omega))).trans ((fld_eq (g10898 _ (by omega))).trans ((fld_eq (g10888 _ (by omega))).trans ((fld_eq (g10879 _ (by omega))).trans ((fld_eq (g10871 _ (by omega))).trans ((fld_eq (g10863 _ (by omega))).trans ((fld_eq (g10855 _ (by omega))).trans ((fld_eq (g10846 _ (by omega))).trans ((fld_eq (g10837 _ (by omega))).trans ((fld_eq (g10829 _ (by omega))).trans ((fld_eq (g10821 _ (by omega))).trans ((fld_eq (g10813 _ (by omega))).trans ((fld_eq (g10803 _ (by omega))).trans ((fld_eq (g10794 _ (by omega))).trans ((fld_eq (g10786 _ (by omega))).trans ((fld_eq (g10778 _ (by omega))).trans ((fld_eq (g10770 _ (by omega))).trans ((fld_eq (g10761 _ (by omega))).trans ((fld_eq (g10752 _ (by omega))).trans ((fld_eq (g10744 _ (by omega))).trans ((fld_eq (g10736 _ (by omega))).trans ((fld_eq (g10728 _ (by omega))).trans ((fld_eq (g10718 _ (by omega))).trans ((fld_eq (g10709 _ (by omega))).trans ((fld_eq (g10701 _ (by omega))).trans ((fld_eq (g10693 _ (by omega))).trans f10687)))))))))))))))))))))))))))))) ?_
  refine m_iload_n F rfl e_X10_takeText_161 ?_
  refine m_aload_n F rfl e_X10_takeText_162 ?_
  refine r_getC F e_X10_takeText_163 fl_X10_52 h10939 ((fld_eq (g10940 _ (by omega))).trans ((fld_eq (g10931 _ (by omega))).trans ((fld_eq (g10922 _ (by omega))).trans ((fld_eq (g10914 _ (by omega))).trans ((fld_eq (g10906 _ (by omega))).trans ((fld_eq (g10898 _ (by omega))).trans ((fld_eq (g10888 _ (by omega))).trans ((fld_eq (g10879 _ (by omega))).trans ((fld_eq (g10871 _ (by omega))).trans ((fld_eq (g10863 _ (by omega))).trans ((fld_eq (g10855 _ (by omega))).trans ((fld_eq (g10846 _ (by omega))).trans ((fld_eq (g10837 _ (by omega))).trans ((fld_eq (g10829 _ (by omega))).trans ((fld_eq (g10821 _ (by omega))).trans ((fld_eq (g10813 _ (by omega))).trans ((fld_eq (g10803 _ (by omega))).trans ((fld_eq (g10794 _ (by omega))).trans ((fld_eq (g10786 _ (by omega))).trans ((fld_eq (g10778 _ (by omega))).trans ((fld_eq (g10770 _ (by omega))).trans ((fld_eq (g10761 _ (by omega))).trans ((fld_eq (g10752 _ (by omega))).trans ((fld_eq (g10744 _ (by omega))).trans ((fld_eq (g10736 _ (by omega))).trans ((fld_eq (g10728 _ (by omega))).trans ((fld_eq (g10718 _ (by omega))).trans ((fld_eq (g10709 _ (by omega))).trans ((fld_eq (g10701 _ (by omega))).trans ((fld_eq (g10693 _ (by omega))).trans f10687)))))))))))))))))))))))))))))) ?_
  refine m_iconst F (v := 4) (by decide) e_X10_takeText_166 ?_
  refine m_iload_n F rfl e_X10_takeText_167 ?_
  refine m_iadd F e_X10_takeText_168 ?_
  refine Wm.topE (w := 7) (by decide) ?_
  refine r_iald F (len := 8) (j := 7) e_X10_takeText_169 h10939 (fun _ h => h) (by decide) (by decide) (by unfold vp_in; decide) (fun x10943 h10944 f10945 => ?_)
  refine r_iast F (g' := (⟨T, Z, u, h, P10891, L⟩ : RG)) (len := 8) (j := 3) e_X10_takeText_170 h10939 (fun _ h => h) (fun f h => ⟨f, rfl, h⟩) (by decide) (by decide) (by decide) (by unfold vp_in; decide) trivial (fun _ _ _ h => h) (fun _ _ _ h => h) (fun σ10946 h10947 g10948 f10949 g10950 => ?_)
  refine m_iinc F (v := 4) (lv' := [(1, .int 4), (0, .ref c)]) e_X10_takeText_171 rfl (by decide) (by decide) rfl ?_
  refine m_goto F e_X10_takeText_174 ?_
  refine m_iload_n F rfl e_X10_takeText_26 ?_
  refine m_iconst F (v := 4) (by decide) e_X10_takeText_27 ?_
  refine m_icmp_ge F e_X10_takeText_28 (fun _ => ?_) (fun q => absurd (by decide) q)
  refine m_iconst F (v := 0) (by decide) e_X10_takeText_177 ?_
  refine m_istore_n F (lv' := [(1, .int 0), (0, .ref c)]) e_X10_takeText_178 (by decide) rfl ?_
  refine Wm.lvsub (lv' := [(0, .ref c), (1, .int 0)]) ?_ [1, 0] rfl
  have oP10951 : OKP P10891 := by unfold OKP; omega
  exact lq_X10_takeText_179 F hQ hob hP  (192 - 0 + 1) 0 P10891 _ h10947 oP10951 (by unfold RT3; omega) (by omega) (Nat.lt_succ_self _)
set_option maxRecDepth 20000 in
theorem lq_X10_begins_142 {V : VX} {X : MX} {N : Nat} {σ : Mem} {c T Z u h : Nat} {P : NP} {L : Nat → LQ}   (F : Fx V X yX10_begins cX10_begins 4 none (rmd 3 0 0)) (hQ : Rt V X 0 0 N (fun r τ => ∃ L9, OKL P.n0 L9 ∧ HS V c (⟨T, Z, u, h, P, L9⟩ : RG) [0, 1, 2, 3, 4, 5, 6, 7, 8, 9, 10, 11, 12, 13, 14, 15, 16, 18, 19, 20, 21, 23] σ τ ∧ r = none)) (hob : OKB L) (hP : OKP P) (hp0 : P.n0 ≤ P.m0) (hp1 : P.n2 ≤ P.w2) {fuelO : Nat} (hO : ∀ (i : Nat) (L1 : Nat → LQ) (τ : Mem), HS V c (⟨T, Z, u, h, P, L1⟩ : RG) [0, 1, 2, 3, 4, 5, 6, 7, 8, 9, 10, 11, 12, 13, 14, 15, 16, 18, 19, 20, 21, 23] σ τ → OKL i L1 → (∀ l, l < 4 → (L1 l).1 = 0 ∧ (L1 l).2.2.1 = 0 ∧ (L1 l).2.2.2 = 0) ∧ i ≤ P.n0 → 4 - i < fuelO → Wm V X 4 N τ 0 0 96 [(0, .ref c), (1, .int (nI i))] []) : ∀ (fuel : Nat) (i : Nat) (k : Nat) (L1 : Nat → LQ) (τ : Mem), HS V c (⟨T, Z, u, h, P, L1⟩ : RG) [0, 1, 2, 3, 4, 5, 6, 7, 8, 9, 10, 11, 12, 13, 14, 15, 16, 18, 19, 20, 21, 23] σ τ → OKL (i + 1) L1 → i < P.n0 ∧ (∀ l, l < 4 → (L1 l).1 = 0 ∧ (L1 l).2.2.1 = 0 ∧ (L1 l).2.2.2 = 0) ∧ k ≤ 48 ∧ 4 - i ≤ fuelO → 48 - k < fuel → Wm V X 4 N τ 0 0 142 [(0, .ref c), (1, .int (nI i)), (2, .int (nI (160 * i))), (3, .int (nI k))] [] := by
  intro fuel
  induction fuel with
  | zero => intros; rename_i hm; exact absurd hm (Nat.not_lt_zero _)
  | succ fuel ih =>
    intro i k L1 τ h1 hok1 hi hm
    have hPP := hP
    unfold OKP at hPP
    refine m_iload_n F rfl e_X10_begins_142 ?_
    refine m_aload_n F rfl e_X10_begins_143 ?_
    refine r_get F e_X10_begins_144 fl_X10_22 h1 rfl (fun v hv f10952 => ?_)
    obtain rfl : v = .ref (c + 5) := hv
    refine m_iload_n F rfl e_X10_begins_147 ?_
    refine r_iald F (len := 8) (j := i) e_X10_begins_148 h1 (fun _ h => h) (by decide) (nI_clamp (by omega)) (vp_in_nI (by omega) (by decide)) (fun x10953 h10954 f10955 => ?_)
    obtain ⟨n10956, hn10956, rfl, pn10956, rn10956⟩ := h10954
    refine m_icmp_ge F e_X10_begins_149 (fun q149 => ?_) (fun q149 => ?_)
    · have c149 : k ≥ n10956 := (nI_leI (a := n10956) (b := k) (by omega) (by omega)).mp q149
      refine m_aload_n F rfl e_X10_begins_204 ?_
      refine r_get F e_X10_begins_205 fl_X10_31 h1 rfl (fun v hv f10957 => ?_)
      obtain rfl : v = .ref (c + 8) := hv
      refine m_iload_n F rfl e_X10_begins_208 ?_
      refine r_iald F (len := 8) (j := i) e_X10_begins_209 h1 (fun _ h => h) (by decide) (nI_clamp (by omega)) (vp_in_nI (by omega) (by decide)) (fun x10958 h10959 f10960 => ?_)
      refine m_if_ne F e_X10_begins_210 (fun q210 => ?_) (fun q210 => ?_)
      · refine m_aload_n F rfl e_X10_begins_218 ?_
        refine m_iload_n F rfl e_X10_begins_219 ?_
        refine m_iconst F (v := 1) (by decide) e_X10_begins_220 ?_
        refine m_aload_n F rfl e_X10_begins_221 ?_
        refine r_getC F e_X10_begins_222 fl_X10_31 h1 (f10957) ?_
        refine m_iload_n F rfl e_X10_begins_225 ?_
        refine r_iald F (len := 8) (j := i) e_X10_begins_226 h1 (fun _ h => h) (by decide) (nI_clamp (by omega)) (vp_in_nI (by omega) (by decide)) (fun x10961 h10962 f10963 => ?_)
        obtain rfl := Option.some.inj ((f10963).symm.trans (f10960))
        refine m_i2l F e_X10_begins_227 ?_
        refine Wm.topl (fun x10964 _ => ?_)
        refine r_callV F e_X10_begins_228 (q_X10_rateFor (x_l X) V c T Z u h P L1 _ _ i 1 x10964 h1.1 (hok1.b) hP (by omega) (by omega) (by first | omega | assumption | decide)) cb_X10_rateFor ml_X10_226 im_X10_rateFor se_X10_rateFor h1 rfl rfl (rest := []) rfl (Nat.le_of_ble_eq_true rfl) ⟨Nat.le_of_ble_eq_true rfl, Nat.le_of_ble_eq_true rfl⟩ ⟨Nat.le_of_ble_eq_true rfl, Nat.le_of_ble_eq_true rfl⟩ (fun r σ10965 hp => ?_)
        obtain ⟨h10966, c10968⟩ := hp
        have h10967 := HS.trans h1 h10966 (by decide)
        rcases c10968 with rfl | ⟨n10969, hn10969, rfl⟩
        · refine m_istore_n F (lv' := [(3, .int (-2)), (0, .ref c), (1, .int (nI i)), (2, .int (nI (160 * i)))]) e_X10_begins_231 (by decide) rfl ?_
          refine m_aload_n F rfl e_X10_begins_232 ?_
          refine r_get F e_X10_begins_233 fl_X10_75 h10967 rfl (fun v hv f10970 => ?_)
          obtain rfl : v = .ref (c + 21) := hv
          refine m_iload_n F rfl e_X10_begins_236 ?_
          refine m_iload_n F rfl e_X10_begins_237 ?_
          refine m_bipush F (v := (-2)) (by decide) e_X10_begins_238 ?_
          refine m_icmp_eq F e_X10_begins_240 (fun _ => ?_) (fun q => absurd (by decide) q)
          refine m_iconst F (v := 0) (by decide) e_X10_begins_247 ?_
          refine r_zast F (j := i) (m := 0) e_X10_begins_248 h10967 (nI_clamp (by omega)) (vp_in_nI (by omega) (by decide)) (by omega) (by decide) (fun σ10971 h10972 g10973 ezσ10971 => ?_)
          refine m_aload_n F rfl e_X10_begins_249 ?_
          refine r_getC F e_X10_begins_250 fl_X10_75 h10972 ((fld_eq (g10973 _ (by omega))).trans f10970) ?_
          refine m_iload_n F rfl e_X10_begins_253 ?_
          refine r_zald F (j := i) e_X10_begins_254 h10972 (nI_clamp (by omega)) (vp_in_nI (by omega) (by decide)) (fun n10974 hn10974 f10975 => ?_)
          have gn10974 := nI_inj (by omega) (by omega) (Option.some.inj ((f10975).symm.trans (ezσ10971)))
          refine m_if_eq F e_X10_begins_255 (fun q255 => ?_) (fun q255 => ?_)
          · have c255 : n10974 = 0 := (nI_eq (a := n10974) (b := 0) (by omega) (by omega)).mp q255
            refine m_iinc F (v := nI (i + 1)) (lv' := [(1, .int (nI (i + 1))), (3, .int (-2)), (0, .ref c), (2, .int (nI (160 * i)))]) e_X10_begins_268 rfl (nI_add i 1) (by decide) rfl ?_
            refine m_goto F e_X10_begins_271 ?_
            refine Wm.lvsub (lv' := [(0, .ref c), (1, .int (nI (i + 1)))]) ?_ [2, 0] rfl
            exact hO (i + 1) L1 _ h10972 hok1 ⟨hi.2.1, by omega⟩ (by omega)
          · have c255 : n10974 ≠ 0 := by have hh := mt (nI_eq (a := n10974) (b := 0) (by omega) (by omega)).mpr q255; omega
            refine m_aload_n F rfl e_X10_begins_258 ?_
            refine r_get F e_X10_begins_259 fl_X10_59 h10972 rfl (fun v hv f10976 => ?_)
            obtain rfl : v = .ref (c + 16) := hv
            refine m_iload_n F rfl e_X10_begins_262 ?_
            refine m_iconst F (v := 2) (by decide) e_X10_begins_263 ?_
            refine m_iadd F e_X10_begins_264 ?_
            refine Wm.topE (w := nI (160 * i + 2)) (nI_add (160 * i) 2) ?_
            refine m_iload_n F rfl e_X10_begins_265 ?_
            refine m_i2l F e_X10_begins_266 ?_
            refine Wm.toplE (w := (-2)) (by decide) ?_
            refine r_sst F (g' := (⟨T, Z, u, h, P, L1⟩ : RG)) (j := 160 * i + 2) e_X10_begins_267 h10972 (by decide) (nI_clamp (by omega)) (vp_in_nI (by omega) (by decide)) (fun f q => EJ_same ((EJ_l (l := i) (r := 2) (by omega) (by decide)).mpr ⟨-2, by omega, rfl⟩) q) (fun _ _ _ q => q) (fun σ10977 h10978 g10979 => ?_)
            refine m_iinc F (v := nI (i + 1)) (lv' := [(1, .int (nI (i + 1))), (3, .int (-2)), (0, .ref c), (2, .int (nI (160 * i)))]) e_X10_begins_268 rfl (nI_add i 1) (by decide) rfl ?_
            refine m_goto F e_X10_begins_271 ?_
            refine Wm.lvsub (lv' := [(0, .ref c), (1, .int (nI (i + 1)))]) ?_ [2, 0] rfl
            exact hO (i + 1) L1 _ h10978 hok1 ⟨hi.2.1, by omega⟩ (by omega)
        · refine m_istore_n F (lv' := [(3, .int (nI n10969)), (0, .ref c), (1, .int (nI i)), (2, .int (nI (160 * i)))]) e_X10_begins_231 (by decide) rfl ?_
          refine m_aload_n F rfl e_X10_begins_232 ?_
          refine r_get F e_X10_begins_233 fl_X10_75 h10967 rfl (fun v hv f10980 => ?_)
          obtain rfl : v = .ref (c + 21) := hv
          refine m_iload_n F rfl e_X10_begins_236 ?_
          refine m_iload_n F rfl e_X10_begins_237 ?_
          refine m_bipush F (v := (-2)) (by decide) e_X10_begins_238 ?_
          refine m_icmp_eq F e_X10_begins_240 (fun q240 => ?_) (fun q240 => ?_)
          · refine m_iconst F (v := 0) (by decide) e_X10_begins_247 ?_
            refine r_zast F (j := i) (m := 0) e_X10_begins_248 h10967 (nI_clamp (by omega)) (vp_in_nI (by omega) (by decide)) (by omega) (by decide) (fun σ10981 h10982 g10983 ezσ10981 => ?_)
            refine m_aload_n F rfl e_X10_begins_249 ?_
            refine r_getC F e_X10_begins_250 fl_X10_75 h10982 ((fld_eq (g10983 _ (by omega))).trans f10980) ?_
            refine m_iload_n F rfl e_X10_begins_253 ?_
            refine r_zald F (j := i) e_X10_begins_254 h10982 (nI_clamp (by omega)) (vp_in_nI (by omega) (by decide)) (fun n10984 hn10984 f10985 => ?_)
            have gn10984 := nI_inj (by omega) (by omega) (Option.some.inj ((f10985).symm.trans (ezσ10981)))
            refine m_if_eq F e_X10_begins_255 (fun q255 => ?_) (fun q255 => ?_)
            · have c255 : n10984 = 0 := (nI_eq (a := n10984) (b := 0) (by omega) (by omega)).mp q255
              refine m_iinc F (v := nI (i + 1)) (lv' := [(1, .int (nI (i + 1))), (3, .int (nI n10969)), (0, .ref c), (2, .int (nI (160 * i)))]) e_X10_begins_268 rfl (nI_add i 1) (by decide) rfl ?_
              refine m_goto F e_X10_begins_271 ?_
              refine Wm.lvsub (lv' := [(0, .ref c), (1, .int (nI (i + 1)))]) ?_ [2, 0] rfl
              exact hO (i + 1) L1 _ h10982 hok1 ⟨hi.2.1, by omega⟩ (by omega)
            · have c255 : n10984 ≠ 0 := by have hh := mt (nI_eq (a := n10984) (b := 0) (by omega) (by omega)).mpr q255; omega
              refine m_aload_n F rfl e_X10_begins_258 ?_
              refine r_get F e_X10_begins_259 fl_X10_59 h10982 rfl (fun v hv f10986 => ?_)
              obtain rfl : v = .ref (c + 16) := hv
              refine m_iload_n F rfl e_X10_begins_262 ?_
              refine m_iconst F (v := 2) (by decide) e_X10_begins_263 ?_
              refine m_iadd F e_X10_begins_264 ?_
              refine Wm.topE (w := nI (160 * i + 2)) (nI_add (160 * i) 2) ?_
              refine m_iload_n F rfl e_X10_begins_265 ?_
              refine m_i2l F e_X10_begins_266 ?_
              refine Wm.toplE (w := lN n10969) (nI_l (by omega)) ?_
              refine r_sst F (g' := (⟨T, Z, u, h, P, L1⟩ : RG)) (j := 160 * i + 2) e_X10_begins_267 h10982 (by decide) (nI_clamp (by omega)) (vp_in_nI (by omega) (by decide)) (fun f q => EJ_same ((EJ_l (l := i) (r := 2) (by omega) (by decide)).mpr ⟨n10969, by omega, rfl⟩) q) (fun _ _ _ q => q) (fun σ10987 h10988 g10989 => ?_)
              refine m_iinc F (v := nI (i + 1)) (lv' := [(1, .int (nI (i + 1))), (3, .int (nI n10969)), (0, .ref c), (2, .int (nI (160 * i)))]) e_X10_begins_268 rfl (nI_add i 1) (by decide) rfl ?_
              refine m_goto F e_X10_begins_271 ?_
              refine Wm.lvsub (lv' := [(0, .ref c), (1, .int (nI (i + 1)))]) ?_ [2, 0] rfl
              exact hO (i + 1) L1 _ h10988 hok1 ⟨hi.2.1, by omega⟩ (by omega)
          · refine m_iconst F (v := 1) (by decide) e_X10_begins_243 ?_
            refine m_goto F e_X10_begins_244 ?_
            refine r_zast F (j := i) (m := 1) e_X10_begins_248 h10967 (nI_clamp (by omega)) (vp_in_nI (by omega) (by decide)) (by omega) (by decide) (fun σ10990 h10991 g10992 ezσ10990 => ?_)
            refine m_aload_n F rfl e_X10_begins_249 ?_
            refine r_getC F e_X10_begins_250 fl_X10_75 h10991 ((fld_eq (g10992 _ (by omega))).trans f10980) ?_
            refine m_iload_n F rfl e_X10_begins_253 ?_
            refine r_zald F (j := i) e_X10_begins_254 h10991 (nI_clamp (by omega)) (vp_in_nI (by omega) (by decide)) (fun n10993 hn10993 f10994 => ?_)
            have gn10993 := nI_inj (by omega) (by omega) (Option.some.inj ((f10994).symm.trans (ezσ10990)))
            refine m_if_eq F e_X10_begins_255 (fun q255 => ?_) (fun q255 => ?_)
            · have c255 : n10993 = 0 := (nI_eq (a := n10993) (b := 0) (by omega) (by omega)).mp q255
              refine m_iinc F (v := nI (i + 1)) (lv' := [(1, .int (nI (i + 1))), (3, .int (nI n10969)), (0, .ref c), (2, .int (nI (160 * i)))]) e_X10_begins_268 rfl (nI_add i 1) (by decide) rfl ?_
              refine m_goto F e_X10_begins_271 ?_
              refine Wm.lvsub (lv' := [(0, .ref c), (1, .int (nI (i + 1)))]) ?_ [2, 0] rfl
              exact hO (i + 1) L1 _ h10991 hok1 ⟨hi.2.1, by omega⟩ (by omega)
            · have c255 : n10993 ≠ 0 := by have hh := mt (nI_eq (a := n10993) (b := 0) (by omega) (by omega)).mpr q255; omega
              refine m_aload_n F rfl e_X10_begins_258 ?_
              refine r_get F e_X10_begins_259 fl_X10_59 h10991 rfl (fun v hv f10995 => ?_)
              obtain rfl : v = .ref (c + 16) := hv
              refine m_iload_n F rfl e_X10_begins_262 ?_
              refine m_iconst F (v := 2) (by decide) e_X10_begins_263 ?_
              refine m_iadd F e_X10_begins_264 ?_
              refine Wm.topE (w := nI (160 * i + 2)) (nI_add (160 * i) 2) ?_
              refine m_iload_n F rfl e_X10_begins_265 ?_
              refine m_i2l F e_X10_begins_266 ?_
              refine Wm.toplE (w := lN n10969) (nI_l (by omega)) ?_
              refine r_sst F (g' := (⟨T, Z, u, h, P, L1⟩ : RG)) (j := 160 * i + 2) e_X10_begins_267 h10991 (by decide) (nI_clamp (by omega)) (vp_in_nI (by omega) (by decide)) (fun f q => EJ_same ((EJ_l (l := i) (r := 2) (by omega) (by decide)).mpr ⟨n10969, by omega, rfl⟩) q) (fun _ _ _ q => q) (fun σ10996 h10997 g10998 => ?_)
              refine m_iinc F (v := nI (i + 1)) (lv' := [(1, .int (nI (i + 1))), (3, .int (nI n10969)), (0, .ref c), (2, .int (nI (160 * i)))]) e_X10_begins_268 rfl (nI_add i 1) (by decide) rfl ?_
              refine m_goto F e_X10_begins_271 ?_
              refine Wm.lvsub (lv' := [(0, .ref c), (1, .int (nI (i + 1)))]) ?_ [2, 0] rfl
              exact hO (i + 1) L1 _ h10997 hok1 ⟨hi.2.1, by omega⟩ (by omega)
      · subst q210
        refine m_bipush F (v := (-2)) (by decide) e_X10_begins_213 ?_
        refine m_goto F e_X10_begins_215 ?_
        refine m_istore_n F (lv' := [(3, .int (-2)), (0, .ref c), (1, .int (nI i)), (2, .int (nI (160 * i)))]) e_X10_begins_231 (by decide) rfl ?_
        refine m_aload_n F rfl e_X10_begins_232 ?_
        refine r_get F e_X10_begins_233 fl_X10_75 h1 rfl (fun v hv f10999 => ?_)
        obtain rfl : v = .ref (c + 21) := hv
        refine m_iload_n F rfl e_X10_begins_236 ?_
        refine m_iload_n F rfl e_X10_begins_237 ?_
        refine m_bipush F (v := (-2)) (by decide) e_X10_begins_238 ?_
        refine m_icmp_eq F e_X10_begins_240 (fun _ => ?_) (fun q => absurd (by decide) q)
        refine m_iconst F (v := 0) (by decide) e_X10_begins_247 ?_
        refine r_zast F (j := i) (m := 0) e_X10_begins_248 h1 (nI_clamp (by omega)) (vp_in_nI (by omega) (by decide)) (by omega) (by decide) (fun σ11000 h11001 g11002 ezσ11000 => ?_)
        refine m_aload_n F rfl e_X10_begins_249 ?_
        refine r_getC F e_X10_begins_250 fl_X10_75 h11001 ((fld_eq (g11002 _ (by omega))).trans f10999) ?_
        refine m_iload_n F rfl e_X10_begins_253 ?_
        refine r_zald F (j := i) e_X10_begins_254 h11001 (nI_clamp (by omega)) (vp_in_nI (by omega) (by decide)) (fun n11003 hn11003 f11004 => ?_)
        have gn11003 := nI_inj (by omega) (by omega) (Option.some.inj ((f11004).symm.trans (ezσ11000)))
        refine m_if_eq F e_X10_begins_255 (fun q255 => ?_) (fun q255 => ?_)
        · have c255 : n11003 = 0 := (nI_eq (a := n11003) (b := 0) (by omega) (by omega)).mp q255
          refine m_iinc F (v := nI (i + 1)) (lv' := [(1, .int (nI (i + 1))), (3, .int (-2)), (0, .ref c), (2, .int (nI (160 * i)))]) e_X10_begins_268 rfl (nI_add i 1) (by decide) rfl ?_
          refine m_goto F e_X10_begins_271 ?_
          refine Wm.lvsub (lv' := [(0, .ref c), (1, .int (nI (i + 1)))]) ?_ [2, 0] rfl
          exact hO (i + 1) L1 _ h11001 hok1 ⟨hi.2.1, by omega⟩ (by omega)
        · have c255 : n11003 ≠ 0 := by have hh := mt (nI_eq (a := n11003) (b := 0) (by omega) (by omega)).mpr q255; omega
          refine m_aload_n F rfl e_X10_begins_258 ?_
          refine r_get F e_X10_begins_259 fl_X10_59 h11001 rfl (fun v hv f11005 => ?_)
          obtain rfl : v = .ref (c + 16) := hv
          refine m_iload_n F rfl e_X10_begins_262 ?_
          refine m_iconst F (v := 2) (by decide) e_X10_begins_263 ?_
          refine m_iadd F e_X10_begins_264 ?_
          refine Wm.topE (w := nI (160 * i + 2)) (nI_add (160 * i) 2) ?_
          refine m_iload_n F rfl e_X10_begins_265 ?_
          refine m_i2l F e_X10_begins_266 ?_
          refine Wm.toplE (w := (-2)) (by decide) ?_
          refine r_sst F (g' := (⟨T, Z, u, h, P, L1⟩ : RG)) (j := 160 * i + 2) e_X10_begins_267 h11001 (by decide) (nI_clamp (by omega)) (vp_in_nI (by omega) (by decide)) (fun f q => EJ_same ((EJ_l (l := i) (r := 2) (by omega) (by decide)).mpr ⟨-2, by omega, rfl⟩) q) (fun _ _ _ q => q) (fun σ11006 h11007 g11008 => ?_)
          refine m_iinc F (v := nI (i + 1)) (lv' := [(1, .int (nI (i + 1))), (3, .int (-2)), (0, .ref c), (2, .int (nI (160 * i)))]) e_X10_begins_268 rfl (nI_add i 1) (by decide) rfl ?_
          refine m_goto F e_X10_begins_271 ?_
          refine Wm.lvsub (lv' := [(0, .ref c), (1, .int (nI (i + 1)))]) ?_ [2, 0] rfl
          exact hO (i + 1) L1 _ h11007 hok1 ⟨hi.2.1, by omega⟩ (by omega)
    · have c149 : k < n10956 := by have hh := mt (nI_leI (a := n10956) (b := k) (by omega) (by omega)).mpr q149; omega
      refine m_aload_n F rfl e_X10_begins_152 ?_
      refine r_get F e_X10_begins_153 fl_X10_59 h1 rfl (fun v hv f11009 => ?_)
      obtain rfl : v = .ref (c + 16) := hv
      refine m_iload_n F rfl e_X10_begins_156 ?_
      refine m_bipush F (v := 13) (by decide) e_X10_begins_157 ?_
      refine m_iadd F e_X10_begins_159 ?_
      refine Wm.topE (w := nI (160 * i + 13)) (nI_add (160 * i) 13) ?_
      refine m_iload_n F rfl e_X10_begins_160 ?_
      refine m_iadd F e_X10_begins_161 ?_
      refine Wm.topE (w := nI ((160 * i + 13) + k)) (nI_add (160 * i + 13) k) ?_
      refine m_aload_n F rfl e_X10_begins_162 ?_
      refine r_get F e_X10_begins_163 fl_X10_37 h1 rfl (fun v hv f11010 => ?_)
      obtain rfl : v = .ref (c + 10) := hv
      refine m_bipush F (v := 48) (by decide) e_X10_begins_166 ?_
      refine m_iload_n F rfl e_X10_begins_168 ?_
      refine m_imul F e_X10_begins_169 ?_
      refine Wm.topE (w := nI (48 * i)) (pk_mul 48 i) ?_
      refine m_iload_n F rfl e_X10_begins_170 ?_
      refine m_iadd F e_X10_begins_171 ?_
      refine Wm.topE (w := nI ((48 * i) + k)) (nI_add (48 * i) k) ?_
      refine r_iald F (len := 384) (j := (48 * i) + k) e_X10_begins_172 h1 (fun _ h => h) (by decide) (nI_clamp (by omega)) (vp_in_nI (by omega) (by decide)) (fun x11011 h11012 f11013 => ?_)
      refine m_i2l F e_X10_begins_173 ?_
      refine Wm.topl (fun x11014 _ => ?_)
      refine r_sst F (g' := (⟨T, Z, u, h, P, L1⟩ : RG)) (j := (160 * i + 13) + k) e_X10_begins_174 h1 (by decide) (nI_clamp (by omega)) (vp_in_nI (by omega) (by decide)) (fun f q => EJ_same (EJ_lw (l := i) (r := ((160 * i + 13) + k) - 160 * i) (by omega) (by omega) (by omega)) q) (fun _ _ _ q => q) (fun σ11015 h11016 g11017 => ?_)
      refine m_aload_n F rfl e_X10_begins_175 ?_
      refine r_getC F e_X10_begins_176 fl_X10_59 h11016 ((fld_eq (g11017 _ (by omega))).trans f11009) ?_
      refine m_iload_n F rfl e_X10_begins_179 ?_
      refine m_bipush F (v := 85) (by decide) e_X10_begins_180 ?_
      refine m_iadd F e_X10_begins_182 ?_
      refine Wm.topE (w := nI (160 * i + 85)) (nI_add (160 * i) 85) ?_
      refine m_iload_n F rfl e_X10_begins_183 ?_
      refine m_iadd F e_X10_begins_184 ?_
      refine Wm.topE (w := nI ((160 * i + 85) + k)) (nI_add (160 * i + 85) k) ?_
      refine m_aload_n F rfl e_X10_begins_185 ?_
      refine r_getC F e_X10_begins_186 fl_X10_37 h11016 ((fld_eq (g11017 _ (by omega))).trans f11010) ?_
      refine m_bipush F (v := 48) (by decide) e_X10_begins_189 ?_
      refine m_iload_n F rfl e_X10_begins_191 ?_
      refine m_imul F e_X10_begins_192 ?_
      refine Wm.topE (w := nI (48 * i)) (pk_mul 48 i) ?_
      refine m_iload_n F rfl e_X10_begins_193 ?_
      refine m_iadd F e_X10_begins_194 ?_
      refine Wm.topE (w := nI ((48 * i) + k)) (nI_add (48 * i) k) ?_
      refine r_iald F (len := 384) (j := (48 * i) + k) e_X10_begins_195 h11016 (fun _ h => h) (by decide) (nI_clamp (by omega)) (vp_in_nI (by omega) (by decide)) (fun x11018 h11019 f11020 => ?_)
      obtain rfl := Option.some.inj ((f11020).symm.trans ((elI_eq (g11017 _ (by omega))).trans f11013))
      refine m_i2l F e_X10_begins_196 ?_
      refine Wm.topl (fun x11021 _ => ?_)
      refine r_sst F (g' := (⟨T, Z, u, h, P, L1⟩ : RG)) (j := (160 * i + 85) + k) e_X10_begins_197 h11016 (by decide) (nI_clamp (by omega)) (vp_in_nI (by omega) (by decide)) (fun f q => EJ_same (EJ_lw (l := i) (r := ((160 * i + 85) + k) - 160 * i) (by omega) (by omega) (by omega)) q) (fun _ _ _ q => q) (fun σ11022 h11023 g11024 => ?_)
      refine m_iinc F (v := nI (k + 1)) (lv' := [(3, .int (nI (k + 1))), (0, .ref c), (1, .int (nI i)), (2, .int (nI (160 * i)))]) e_X10_begins_198 rfl (nI_add k 1) (by decide) rfl ?_
      refine m_goto F e_X10_begins_201 ?_
      refine Wm.lvsub (lv' := [(0, .ref c), (1, .int (nI i)), (2, .int (nI (160 * i))), (3, .int (nI (k + 1)))]) ?_ [1, 2, 3, 0] rfl
      exact ih i (k + 1) L1 _ h11023 hok1 ⟨by omega, hi.2.1, by omega, by omega⟩ (by omega)
set_option maxRecDepth 20000 in
theorem lq_X10_begins_96 {V : VX} {X : MX} {N : Nat} {σ : Mem} {c T Z u h : Nat} {P : NP} {L : Nat → LQ}   (F : Fx V X yX10_begins cX10_begins 4 none (rmd 3 0 0)) (hQ : Rt V X 0 0 N (fun r τ => ∃ L9, OKL P.n0 L9 ∧ HS V c (⟨T, Z, u, h, P, L9⟩ : RG) [0, 1, 2, 3, 4, 5, 6, 7, 8, 9, 10, 11, 12, 13, 14, 15, 16, 18, 19, 20, 21, 23] σ τ ∧ r = none)) (hob : OKB L) (hP : OKP P) (hp0 : P.n0 ≤ P.m0) (hp1 : P.n2 ≤ P.w2)  : ∀ (fuel : Nat) (i : Nat) (L1 : Nat → LQ) (τ : Mem), HS V c (⟨T, Z, u, h, P, L1⟩ : RG) [0, 1, 2, 3, 4, 5, 6, 7, 8, 9, 10, 11, 12, 13, 14, 15, 16, 18, 19, 20, 21, 23] σ τ → OKL i L1 → (∀ l, l < 4 → (L1 l).1 = 0 ∧ (L1 l).2.2.1 = 0 ∧ (L1 l).2.2.2 = 0) ∧ i ≤ P.n0 → 4 - i < fuel → Wm V X 4 N τ 0 0 96 [(0, .ref c), (1, .int (nI i))] [] := by
  intro fuel
  induction fuel with
  | zero => intros; rename_i hm; exact absurd hm (Nat.not_lt_zero _)
  | succ fuel ih =>
    intro i L1 τ h1 hok1 hi hm
    have hPP := hP
    unfold OKP at hPP
    refine m_iload_n F rfl e_X10_begins_96 ?_
    refine m_aload_n F rfl e_X10_begins_97 ?_
    refine r_callV F e_X10_begins_98 (q_X10_leases (x_l X) V c T Z u h P L1 _ _  h1.1 (hok1.b) hP ) cb_X10_leases ml_X10_221 im_X10_leases se_X10_leases h1 rfl rfl (rest := [.int (nI i)]) rfl (Nat.le_of_ble_eq_true rfl) ⟨Nat.le_of_ble_eq_true rfl, Nat.le_of_ble_eq_true rfl⟩ ⟨Nat.le_of_ble_eq_true rfl, Nat.le_of_ble_eq_true rfl⟩ (fun r σ11025 hp => ?_)
    obtain ⟨h11026, rfl⟩ := hp
    have h11027 := HS.trans h1 h11026 (by decide)
    refine m_icmp_ge F e_X10_begins_101 (fun q101 => ?_) (fun q101 => ?_)
    · have c101 : i ≥ P.n0 := (nI_leI (a := P.n0) (b := i) (by omega) (by omega)).mp q101
      have okf : OKL P.n0 L1 := by rw [show P.n0 = i by omega]; exact hok1
      have okf : OKL P.n0 L1 := by rw [show P.n0 = i by omega]; exact hok1
      exact m_vret F hQ e_X10_begins_274 (⟨L1, okf, h11027, rfl⟩)
    · have c101 : i < P.n0 := by have hh := mt (nI_leI (a := P.n0) (b := i) (by omega) (by omega)).mpr q101; omega
      refine m_sipush F (v := 160) (by decide) e_X10_begins_104 ?_
      refine m_iload_n F rfl e_X10_begins_107 ?_
      refine m_imul F e_X10_begins_108 ?_
      refine Wm.topE (w := nI (160 * i)) (pk_mul 160 i) ?_
      refine m_istore_n F (lv' := [(2, .int (nI (160 * i))), (0, .ref c), (1, .int (nI i))]) e_X10_begins_109 (by decide) rfl ?_
      refine m_aload_n F rfl e_X10_begins_110 ?_
      refine r_get F e_X10_begins_111 fl_X10_59 h11027 rfl (fun v hv f11028 => ?_)
      obtain rfl : v = .ref (c + 16) := hv
      refine m_iload_n F rfl e_X10_begins_114 ?_
      refine m_iconst F (v := 1) (by decide) e_X10_begins_115 ?_
      refine m_iadd F e_X10_begins_116 ?_
      refine Wm.topE (w := nI (160 * i + 1)) (nI_add (160 * i) 1) ?_
      refine m_aload_n F rfl e_X10_begins_117 ?_
      refine r_get F e_X10_begins_118 fl_X10_22 h11027 rfl (fun v hv f11029 => ?_)
      obtain rfl : v = .ref (c + 5) := hv
      refine m_iload_n F rfl e_X10_begins_121 ?_
      refine r_iald F (len := 8) (j := i) e_X10_begins_122 h11027 (fun _ h => h) (by decide) (nI_clamp (by omega)) (vp_in_nI (by omega) (by decide)) (fun x11030 h11031 f11032 => ?_)
      obtain ⟨n11033, hn11033, rfl, pn11033, rn11033⟩ := h11031
      refine m_i2l F e_X10_begins_123 ?_
      refine Wm.toplE (w := lN n11033) (nI_l (by omega)) ?_
      refine r_sst F (g' := (⟨T, Z, u, h, P, (updL L1 i ((L1 i).1, n11033, (L1 i).2.2.1, (L1 i).2.2.2))⟩ : RG)) (j := 160 * i + 1) e_X10_begins_124 h11027 (by decide) (nI_clamp (by omega)) (vp_in_nI (by omega) (by decide)) (fun f q => EJ_up (l := i) (r := 1) (by omega) (by decide) q rfl (by intro r' h1 h2 y hy; revert hy; unfold EL; split <;> simp_all)) CR.row (fun σ11034 h11035 g11036 => ?_)
      obtain ⟨L11037, eL11037⟩ : ∃ L9, L9 = (updL L1 i ((L1 i).1, n11033, (L1 i).2.2.1, (L1 i).2.2.2)) := ⟨_, rfl⟩
      rw [← eL11037] at h11035
      have fL11037 : L11037 i = ((L1 i).1, n11033, (L1 i).2.2.1, (L1 i).2.2.2) := by rw [eL11037]; exact if_pos rfl
      have fL110370 : (L11037 i).1 = (L1 i).1 := by rw [fL11037]
      have fL110371 : (L11037 i).2.1 = n11033 := by rw [fL11037]
      have fL110372 : (L11037 i).2.2.1 = (L1 i).2.2.1 := by rw [fL11037]
      have fL110373 : (L11037 i).2.2.2 = (L1 i).2.2.2 := by rw [fL11037]
      have oL11037 : ∀ i, i ≠ i → L11037 i = L1 i := fun i hi => by rw [eL11037]; exact if_neg hi
      have pL11037 : (L11037 4).1 = (L1 4).1 := by rw [oL11037 4 (by omega)]
      refine m_aload_n F rfl e_X10_begins_125 ?_
      refine r_getC F e_X10_begins_126 fl_X10_59 h11035 ((fld_eq (g11036 _ (by omega))).trans f11028) ?_
      refine m_iload_n F rfl e_X10_begins_129 ?_
      refine m_iconst F (v := 2) (by decide) e_X10_begins_130 ?_
      refine m_iadd F e_X10_begins_131 ?_
      refine Wm.topE (w := nI (160 * i + 2)) (nI_add (160 * i) 2) ?_
      refine m_aload_n F rfl e_X10_begins_132 ?_
      refine r_get F e_X10_begins_133 fl_X10_25 h11035 rfl (fun v hv f11038 => ?_)
      obtain rfl : v = .ref (c + 6) := hv
      refine m_iload_n F rfl e_X10_begins_136 ?_
      refine r_iald F (len := 8) (j := i) e_X10_begins_137 h11035 (fun _ h => h) (by decide) (nI_clamp (by omega)) (vp_in_nI (by omega) (by decide)) (fun x11039 h11040 f11041 => ?_)
      obtain ⟨n11042, hn11042, rfl⟩ := h11040
      refine m_i2l F e_X10_begins_138 ?_
      refine Wm.toplE (w := lN n11042) (nI_l (by omega)) ?_
      refine r_sst F (g' := (⟨T, Z, u, h, P, L11037⟩ : RG)) (j := 160 * i + 2) e_X10_begins_139 h11035 (by decide) (nI_clamp (by omega)) (vp_in_nI (by omega) (by decide)) (fun f q => EJ_same ((EJ_l (l := i) (r := 2) (by omega) (by decide)).mpr ⟨n11042, by omega, rfl⟩) q) (fun _ _ _ q => q) (fun σ11043 h11044 g11045 => ?_)
      refine m_iconst F (v := 0) (by decide) e_X10_begins_140 ?_
      refine m_istore_n F (lv' := [(3, .int 0), (2, .int (nI (160 * i))), (0, .ref c), (1, .int (nI i))]) e_X10_begins_141 (by decide) rfl ?_
      have hp9 : 1 ≤ n11033 := pn11033 (by omega) (show i < P.m0 by omega)
      have h9a := hok1.2 i (by omega)
      have h9b := hi.1 i (by omega)
      have okx : OKL (i + 1) L11037 := OKL.updS hok1 (by omega) (fun i9 hi9 => oL11037 i9 hi9) (by omega)
      have hz9 : ∀ l, l < 4 → (L11037 l).1 = 0 ∧ (L11037 l).2.2.1 = 0 ∧ (L11037 l).2.2.2 = 0 := by
        intro l hl
        by_cases e : l = i
        · subst e; omega
        · rw [oL11037 l e]; exact hi.1 l hl
      refine Wm.lvsub (lv' := [(0, .ref c), (1, .int (nI i)), (2, .int (nI (160 * i))), (3, .int 0)]) ?_ [2, 3, 1, 0] rfl
      exact lq_X10_begins_142 F hQ hob hP hp0 hp1 ih (48 - 0 + 1) i 0 L11037 _ h11044 okx ⟨by omega, hz9, by omega, by omega⟩ (Nat.lt_succ_self _)
set_option maxRecDepth 20000 in
theorem bg_45 {V : VX} {X : MX} {N : Nat} {σ : Mem} {c T Z u h : Nat} {P : NP} {L : Nat → LQ} (F : Fx V X yX10_begins cX10_begins 4 none (rmd 3 0 0)) (hQ : Rt V X 0 0 N (fun r τ => ∃ L9, OKL P.n0 L9 ∧ HS V c (⟨T, Z, u, h, P, L9⟩ : RG) [0, 1, 2, 3, 4, 5, 6, 7, 8, 9, 10, 11, 12, 13, 14, 15, 16, 18, 19, 20, 21, 23] σ τ ∧ r = none)) (h0 : HR V c ⟨T, Z, u, h, P, L⟩ σ) (hob : OKB L) (hP : OKP P) (hp0 : P.n0 ≤ P.m0) (hp1 : P.n2 ≤ P.w2) {fs : List Value} {fN fA fB : Nat → Int32} (e1 : σ c = some (ob 8 fs)) (e27 : fs[27]? = some (.ref (c + 16))) (e3 : fs[3]? = some (.ref (c + 2))) (e12 : fs[12]? = some (.ref (c + 11))) (e13 : fs[13]? = some (.ref (c + 12))) (eN : σ (c + 2) = some (aI V 10 fN)) (tN : fN 2 = nI P.n2) (eA : σ (c + 11) = some (aI V 16 fA)) (tA : ∀ i, i < 16 → bN 99 (fA i)) (eB : σ (c + 12) = some (aI V 16 fB)) (tB : ∀ i, i < 16 → EI P 13 i (fB i)) {fuelO : Nat} (hO : ∀ (p : Nat) (f : Nat → Int64) (τ : Mem), upto c 16 (aJ V 1113 f) σ τ → PZ p f → p ≤ 100 → 100 - p < fuelO → Wm V X 4 N τ 0 0 24 [(1, .int (nI p)), (0, .ref c)] []) : ∀ (fuel : Nat) (k p : Nat) (f : Nat → Int64) (τ : Mem), upto c 16 (aJ V 1113 f) σ τ → PZ (p + 1) f → p < 100 → 100 - p ≤ fuelO → k ≤ 8 → 8 - k < fuel → Wm V X 4 N τ 0 0 45 [(2, .int (nI k)), (1, .int (nI p)), (0, .ref c)] [] := by
  intro fuel
  induction fuel with
  | zero => intros; rename_i hm; exact absurd hm (Nat.not_lt_zero _)
  | succ fuel ih =>
    intro k p f τ hτ hz hp hf hk hm
    have hPP := hP
    unfold OKP at hPP
    refine m_iload_n F rfl e_X10_begins_45 ?_
    refine m_aload_n F rfl e_X10_begins_46 ?_
    refine m_get F e_X10_begins_47 fl_X10_13 ((hτ.2 c (by omega)).trans e1) e3 ?_
    refine m_iconst F (v := 2) (by decide) e_X10_begins_50 ?_
    refine m_iald F e_X10_begins_51 ((hτ.2 (c + 2) (by omega)).trans eN) (j := 2) (by decide) (by unfold vp_in; decide) ?_
    refine Wm.topE (w := nI P.n2) tN ?_
    refine m_icmp_ge F e_X10_begins_52 (fun q52 => ?_) (fun q52 => ?_)
    · have c52 : k ≥ P.n2 := (nI_leI (a := P.n2) (b := k) (by omega) (by omega)).mp q52
      refine m_iinc F (v := nI (p + 1)) (lv' := [(1, .int (nI (p + 1))), (2, .int (nI k)), (0, .ref c)]) e_X10_begins_88 rfl (nI_add p 1) (by decide) rfl ?_
      refine m_goto F e_X10_begins_91 ?_
      refine Wm.lvsub (lv' := [(1, .int (nI (p + 1))), (0, .ref c)]) ?_ [0, 2] rfl
      exact hO (p + 1) _ _ hτ hz (by omega) (by omega)
    · have c52 : k < P.n2 := by have hh := mt (nI_leI (a := P.n2) (b := k) (by omega) (by omega)).mpr q52; omega
      refine m_aload_n F rfl e_X10_begins_55 ?_
      refine m_get F e_X10_begins_56 fl_X10_40 ((hτ.2 c (by omega)).trans e1) e12 ?_
      refine m_iload_n F rfl e_X10_begins_59 ?_
      refine m_iald F e_X10_begins_60 ((hτ.2 (c + 11) (by omega)).trans eA) (j := k) (nI_clamp (by omega)) (vp_in_nI (by omega) (by decide)) ?_
      obtain ⟨na, ha, ea⟩ := tA k (by omega)
      refine Wm.topE (w := nI na) ea ?_
      refine m_iload_n F rfl e_X10_begins_61 ?_
      refine m_icmp_gt F e_X10_begins_62 (fun q62 => ?_) (fun q62 => ?_)
      · have c62 : na > p := (nI_ltI (a := p) (b := na) (by omega) (by omega)).mp q62
        refine m_iinc F (v := nI (k + 1)) (lv' := [(2, .int (nI (k + 1))), (1, .int (nI p)), (0, .ref c)]) e_X10_begins_82 rfl (nI_add k 1) (by decide) rfl ?_
        refine m_goto F e_X10_begins_85 ?_
        exact ih (k + 1) p _ _ hτ hz hp hf (by omega) (by omega)
      · have c62 : na ≤ p := by have hh := mt (nI_ltI (a := p) (b := na) (by omega) (by omega)).mpr q62; omega
        refine m_aload_n F rfl e_X10_begins_65 ?_
        refine m_get F e_X10_begins_66 fl_X10_59 ((hτ.2 c (by omega)).trans e1) e27 ?_
        refine m_sipush F (v := 644) (by decide) e_X10_begins_69 ?_
        refine m_iload_n F rfl e_X10_begins_72 ?_
        refine m_iadd F e_X10_begins_73 ?_
        refine Wm.topE (w := nI (644 + p)) (nI_add 644 p) ?_
        refine m_aload_n F rfl e_X10_begins_74 ?_
        refine m_get F e_X10_begins_75 fl_X10_43 ((hτ.2 c (by omega)).trans e1) e13 ?_
        refine m_iload_n F rfl e_X10_begins_78 ?_
        refine m_iald F e_X10_begins_79 ((hτ.2 (c + 12) (by omega)).trans eB) (j := k) (nI_clamp (by omega)) (vp_in_nI (by omega) (by decide)) ?_
        obtain ⟨nb, hb, eb, pb, rb⟩ := tB k (by omega)
        have hb9 := pb (by omega) (show k < P.w2 by omega)
        refine Wm.topE (w := nI nb) eb ?_
        refine m_i2l F e_X10_begins_80 ?_
        refine Wm.toplE (w := lN nb) (nI_l (by omega)) ?_
        refine m_last F e_X10_begins_81 hτ.1 (j := 644 + p) (nI_clamp (by omega)) (vp_in_nI (by omega) (by decide)) rfl rfl ?_
        have hτ2 := va_upto (e' := aJ V 1113 (vp_updL f (644 + p) (lN nb))) hτ
        refine m_iinc F (v := nI (k + 1)) (lv' := [(2, .int (nI (k + 1))), (1, .int (nI p)), (0, .ref c)]) e_X10_begins_82 rfl (nI_add k 1) (by decide) rfl ?_
        refine m_goto F e_X10_begins_85 ?_
        exact ih (k + 1) p _ _ hτ2 (PZ.put2 hz (by omega) ⟨by omega, by omega⟩) hp hf (by omega) (by omega)
set_option maxRecDepth 20000 in
theorem bg_24 {V : VX} {X : MX} {N : Nat} {σ : Mem} {c T Z u h : Nat} {P : NP} {L : Nat → LQ} (F : Fx V X yX10_begins cX10_begins 4 none (rmd 3 0 0)) (hQ : Rt V X 0 0 N (fun r τ => ∃ L9, OKL P.n0 L9 ∧ HS V c (⟨T, Z, u, h, P, L9⟩ : RG) [0, 1, 2, 3, 4, 5, 6, 7, 8, 9, 10, 11, 12, 13, 14, 15, 16, 18, 19, 20, 21, 23] σ τ ∧ r = none)) (h0 : HR V c ⟨T, Z, u, h, P, L⟩ σ) (hob : OKB L) (hP : OKP P) (hp0 : P.n0 ≤ P.m0) (hp1 : P.n2 ≤ P.w2) {fs : List Value} {fN fA fB : Nat → Int32} (e1 : σ c = some (ob 8 fs)) (e27 : fs[27]? = some (.ref (c + 16))) (e3 : fs[3]? = some (.ref (c + 2))) (e12 : fs[12]? = some (.ref (c + 11))) (e13 : fs[13]? = some (.ref (c + 12))) (eN : σ (c + 2) = some (aI V 10 fN)) (tN : fN 2 = nI P.n2) (eA : σ (c + 11) = some (aI V 16 fA)) (tA : ∀ i, i < 16 → bN 99 (fA i)) (eB : σ (c + 12) = some (aI V 16 fB)) (tB : ∀ i, i < 16 → EI P 13 i (fB i))  : ∀ (fuel : Nat) (p : Nat) (f : Nat → Int64) (τ : Mem), upto c 16 (aJ V 1113 f) σ τ → PZ p f → p ≤ 100 → 100 - p < fuel → Wm V X 4 N τ 0 0 24 [(1, .int (nI p)), (0, .ref c)] [] := by
  intro fuel
  induction fuel with
  | zero => intros; rename_i hm; exact absurd hm (Nat.not_lt_zero _)
  | succ fuel ih =>
    intro p f τ hτ hz hp hm
    have hPP := hP
    unfold OKP at hPP
    refine m_iload_n F rfl e_X10_begins_24 ?_
    refine m_bipush F (v := 99) (by decide) e_X10_begins_25 ?_
    refine m_icmp_gt F e_X10_begins_27 (fun q27 => ?_) (fun q27 => ?_)
    · have c27 : p > 99 := (nI_ltI (a := 99) (b := p) (by omega) (by omega)).mp q27
      refine m_iconst F (v := 0) (by decide) e_X10_begins_94 ?_
      refine m_istore_n F (lv' := [(1, .int 0), (0, .ref c)]) e_X10_begins_95 (by decide) rfl ?_
      refine Wm.lvsub (lv' := [(0, .ref c), (1, .int 0)]) ?_ [1, 0] rfl
      have hpz : PZ 100 f := by rw [show 100 = p by omega]; exact hz
      have h1 : HS V c ⟨T, Z, u, h, P, L0⟩ [0, 1, 2, 3, 4, 5, 6, 7, 8, 9, 10, 11, 12, 13, 14, 15, 16, 18, 19, 20, 21, 23] σ τ := HS.cp (k := 16) (HS.start h0) hτ (by decide) (by decide) ⟨_, rfl, PZ.typed hpz⟩ CR.row
      exact lq_X10_begins_96 F hQ hob hP hp0 hp1 5 0 L0 _ h1 OKL.zero ⟨fun _ _ => ⟨rfl, rfl, rfl⟩, by omega⟩ (by omega)
    · have c27 : p ≤ 99 := by have hh := mt (nI_ltI (a := 99) (b := p) (by omega) (by omega)).mpr q27; omega
      refine m_aload_n F rfl e_X10_begins_30 ?_
      refine m_get F e_X10_begins_31 fl_X10_59 ((hτ.2 c (by omega)).trans e1) e27 ?_
      refine m_sipush F (v := 644) (by decide) e_X10_begins_34 ?_
      refine m_iload_n F rfl e_X10_begins_37 ?_
      refine m_iadd F e_X10_begins_38 ?_
      refine Wm.topE (w := nI (644 + p)) (nI_add 644 p) ?_
      refine m_ldc2 F kc_X10_224 e_X10_begins_39 ?_
      refine m_last F e_X10_begins_42 hτ.1 (j := 644 + p) (nI_clamp (by omega)) (vp_in_nI (by omega) (by decide)) rfl rfl ?_
      have hτ2 := va_upto (e' := aJ V 1113 (vp_updL f (644 + p) 1000)) hτ
      refine m_iconst F (v := 0) (by decide) e_X10_begins_43 ?_
      refine m_istore_n F (lv' := [(2, .int 0), (1, .int (nI p)), (0, .ref c)]) e_X10_begins_44 (by decide) rfl ?_
      exact bg_45 F hQ h0 hob hP hp0 hp1 e1 e27 e3 e12 e13 eN tN eA tA eB tB (fun p f τ => ih p f τ) 9 0 p _ _ hτ2 (PZ.put hz (by omega) ⟨by omega, by omega⟩) (by omega) (by omega) (by omega) (by omega)
set_option maxRecDepth 20000 in
theorem bg_2 {V : VX} {X : MX} {N : Nat} {σ : Mem} {c T Z u h : Nat} {P : NP} {L : Nat → LQ} (F : Fx V X yX10_begins cX10_begins 4 none (rmd 3 0 0)) (hQ : Rt V X 0 0 N (fun r τ => ∃ L9, OKL P.n0 L9 ∧ HS V c (⟨T, Z, u, h, P, L9⟩ : RG) [0, 1, 2, 3, 4, 5, 6, 7, 8, 9, 10, 11, 12, 13, 14, 15, 16, 18, 19, 20, 21, 23] σ τ ∧ r = none)) (h0 : HR V c ⟨T, Z, u, h, P, L⟩ σ) (hob : OKB L) (hP : OKP P) (hp0 : P.n0 ≤ P.m0) (hp1 : P.n2 ≤ P.w2) {fs : List Value} {fN fA fB : Nat → Int32} (e1 : σ c = some (ob 8 fs)) (e27 : fs[27]? = some (.ref (c + 16))) (e3 : fs[3]? = some (.ref (c + 2))) (e12 : fs[12]? = some (.ref (c + 11))) (e13 : fs[13]? = some (.ref (c + 12))) (eN : σ (c + 2) = some (aI V 10 fN)) (tN : fN 2 = nI P.n2) (eA : σ (c + 11) = some (aI V 16 fA)) (tA : ∀ i, i < 16 → bN 99 (fA i)) (eB : σ (c + 12) = some (aI V 16 fB)) (tB : ∀ i, i < 16 → EI P 13 i (fB i))  : ∀ (fuel : Nat) (k : Nat) (f : Nat → Int64) (τ : Mem), upto c 16 (aJ V 1113 f) σ τ → ZF k f → k ≤ 1113 → 1113 - k < fuel → Wm V X 4 N τ 0 0 2 [(1, .int (nI k)), (0, .ref c)] [] := by
  intro fuel
  induction fuel with
  | zero => intros; rename_i hm; exact absurd hm (Nat.not_lt_zero _)
  | succ fuel ih =>
    intro k f τ hτ hz hk hm
    have hPP := hP
    unfold OKP at hPP
    refine m_iload_n F rfl e_X10_begins_2 ?_
    refine m_sipush F (v := 1113) (by decide) e_X10_begins_3 ?_
    refine m_icmp_ge F e_X10_begins_6 (fun q6 => ?_) (fun q6 => ?_)
    · have c6 : k ≥ 1113 := (nI_leI (a := 1113) (b := k) (by omega) (by omega)).mp q6
      refine m_iconst F (v := 0) (by decide) e_X10_begins_22 ?_
      refine m_istore_n F (lv' := [(1, .int 0), (0, .ref c)]) e_X10_begins_23 (by decide) rfl ?_
      exact bg_24 F hQ h0 hob hP hp0 hp1 e1 e27 e3 e12 e13 eN tN eA tA eB tB 101 0 _ _ hτ (PZ.zero (by rw [show 1113 = k by omega]; exact hz)) (by omega) (by omega)
    · have c6 : k < 1113 := by have hh := mt (nI_leI (a := 1113) (b := k) (by omega) (by omega)).mpr q6; omega
      refine m_aload_n F rfl e_X10_begins_9 ?_
      refine m_get F e_X10_begins_10 fl_X10_59 ((hτ.2 c (by omega)).trans e1) e27 ?_
      refine m_iload_n F rfl e_X10_begins_13 ?_
      refine m_lconst F (v := 0) (by decide) e_X10_begins_14 ?_
      refine m_last F e_X10_begins_15 hτ.1 (j := k) (nI_clamp (by omega)) (vp_in_nI (by omega) (by decide)) rfl rfl ?_
      have hτ2 := va_upto (e' := aJ V 1113 (vp_updL f (k) 0)) hτ
      refine m_iinc F (v := nI (k + 1)) (lv' := [(1, .int (nI (k + 1))), (0, .ref c)]) e_X10_begins_16 rfl (nI_add k 1) (by decide) rfl ?_
      refine m_goto F e_X10_begins_19 ?_
      exact ih (k + 1) _ _ hτ2 (ZF.put hz) (by omega) (by omega)
set_option maxRecDepth 20000 in
theorem bg_start {V : VX} {X : MX} {N : Nat} {σ : Mem} {c T Z u h : Nat} {P : NP} {L : Nat → LQ} (F : Fx V X yX10_begins cX10_begins 4 none (rmd 3 0 0)) (hQ : Rt V X 0 0 N (fun r τ => ∃ L9, OKL P.n0 L9 ∧ HS V c (⟨T, Z, u, h, P, L9⟩ : RG) [0, 1, 2, 3, 4, 5, 6, 7, 8, 9, 10, 11, 12, 13, 14, 15, 16, 18, 19, 20, 21, 23] σ τ ∧ r = none)) (h0 : HR V c ⟨T, Z, u, h, P, L⟩ σ) (hob : OKB L) (hP : OKP P) (hp0 : P.n0 ≤ P.m0) (hp1 : P.n2 ≤ P.w2)  : Wm V X 4 N σ 0 0 0 [(0, .ref c)] [] := by
  refine m_iconst F (v := 0) (by decide) e_X10_begins_0 ?_
  refine m_istore_n F (lv' := [(1, .int 0), (0, .ref c)]) e_X10_begins_1 (by decide) rfl ?_
  obtain ⟨fs, e1, ty⟩ : ∃ fs, σ c = some (ob 8 fs) ∧ TyO c ⟨T, Z, u, h, P, L⟩ fs := h0.cell (k := 0) (by decide)
  obtain ⟨_, e27, rfl⟩ := ty.2 27 (3, 16) rfl
  obtain ⟨_, e3, rfl⟩ := ty.2 3 (3, 2) rfl
  obtain ⟨_, e12, rfl⟩ := ty.2 12 (3, 11) rfl
  obtain ⟨_, e13, rfl⟩ := ty.2 13 (3, 12) rfl
  obtain ⟨fN, eN, tN⟩ : ∃ f, σ (c + 2) = some (aI V 10 f) ∧ ∀ i, i < 10 → EI P 3 i (f i) := h0.cell (k := 2) (by decide)
  obtain ⟨fA, eA, tA⟩ : ∃ f, σ (c + 11) = some (aI V 16 f) ∧ ∀ i, i < 16 → EI P 12 i (f i) := h0.cell (k := 11) (by decide)
  obtain ⟨fB, eB, tB⟩ : ∃ f, σ (c + 12) = some (aI V 16 f) ∧ ∀ i, i < 16 → EI P 13 i (f i) := h0.cell (k := 12) (by decide)
  obtain ⟨f, e16, -⟩ : ∃ f, σ (c + 16) = some (aJ V 1113 f) ∧ ∀ i, i < 1113 → EJ L i (f i) := h0.cell (k := 16) (by decide)
  exact bg_2 F hQ h0 hob hP hp0 hp1 e1 e27 e3 e12 e13 eN ((tN 2 (by decide)).2.1 rfl) eA (fun i hi => tA i hi) eB tB 1114 0 f σ ⟨e16, fun _ _ => rfl⟩ (fun i hi => absurd hi (Nat.not_lt_zero _)) (by omega) (by omega)
set_option maxRecDepth 20000 in
theorem q_X10_begins (l : Launch) (V : VX) (c T Z u h : Nat) (P : NP) (L : Nat → LQ) (N : Nat) (σ : Mem)  (h0 : HR V c ⟨T, Z, u, h, P, L⟩ σ) (hob : OKB L) (hP : OKP P) (hp0 : P.n0 ≤ P.m0) (hp1 : P.n2 ≤ P.w2) : Ct l V yX10_begins cX10_begins 4 none 3 0 0 N σ [.ref c] (fun r τ => ∃ L9, OKL P.n0 L9 ∧ HS V c (⟨T, Z, u, h, P, L9⟩ : RG) [0, 1, 2, 3, 4, 5, 6, 7, 8, 9, 10, 11, 12, 13, 14, 15, 16, 18, 19, 20, 21, 23] σ τ ∧ r = none) := by
  refine Ct.of (by decide) (Nat.le_of_ble_eq_true rfl) [(0, .ref c)] rfl (fun X hX F hQ => ?_)
  have hPP := hP
  unfold OKP at hPP
  have h1 : HS V c ⟨T, Z, u, h, P, L⟩ [0, 1, 2, 3, 4, 5, 6, 7, 8, 9, 10, 11, 12, 13, 14, 15, 16, 18, 19, 20, 21, 23] σ σ := HS.start h0
  exact bg_start F hQ h0 hob hP hp0 hp1
def Gd (u h : Nat) (P : NP) (L : Nat → LQ) : Prop := u ≤ 20 ∧ h ≤ 1 ∧ OKP P ∧ P.kk = P.n0 ∧ P.n0 ≤ P.m0 ∧ P.n2 ≤ P.w2 ∧ OKL P.n0 L
set_option maxRecDepth 20000 in
theorem q_X10_text (l : Launch) (V : VX) (c T Z u h : Nat) (P : NP) (L : Nat → LQ) (N : Nat) (σ : Mem) (x901 : Int32) (h0 : HR V c ⟨T, Z, u, h, P, L⟩ σ) (hok : OKL P.n0 L) (hP : OKP P) (hp0 : u ≤ 20) (hp1 : h ≤ 1) (hp2 : P.kk = P.n0) (hp3 : T ≤ 700) (hp4 : P.n0 ≤ P.m0) (hp5 : P.n2 ≤ P.w2) : Ct l V yX10_text cX10_text 2 (some .int) 11 0 0 N σ [.ref c, .int x901] (fun r τ => (∃ x : Int32, r = some (.int x)) ∧ (((x901 < 0 ∨ ∃ n : Nat, n ≤ 2147483647 ∧ x901 = nI n ∧ T < n) ∧ HS V c (⟨T, Z, u, h, P, L⟩ : RG) [0, 2, 18, 19, 20, 21, 23] σ τ) ∨ ∃ n : Nat, x901 = nI n ∧ n ≤ T ∧ ∃ (u9 h9 : Nat) (P9 : NP) (L9 : Nat → LQ), Gd u9 h9 P9 L9 ∧ HS V c (⟨0, 1, u9, h9, P9, L9⟩ : RG) [0, 2, 18, 19, 20, 21, 23] σ τ)) := by
  refine Ct.of (by decide) (Nat.le_of_ble_eq_true rfl) [(0, .ref c), (1, .int x901)] rfl (fun X hX F hQ => ?_)
  have hPP := hP
  unfold OKP at hPP
  have h1 : HS V c ⟨T, Z, u, h, P, L⟩ [0, 2, 18, 19, 20, 21, 23] σ σ := HS.start h0
  refine m_aload_n F rfl e_X10_text_0 ?_
  refine m_iconst F (v := 0) (by decide) e_X10_text_1 ?_
  refine r_put F (g' := (⟨T, Z, u, h, P, L⟩ : RG)) e_X10_text_2 fp_X10_91 h1 (by decide) ⟨_, rfl⟩ (fun _ _ _ _ q => q) (fun _ _ _ q => q) rfl rfl (by decide) (fun σ11046 h11047 g11048 g11049 f11050 => ?_)
  refine m_iload_n F rfl e_X10_text_5 ?_
  refine m_if_lt F e_X10_text_6 (fun q6 => ?_) (fun q6 => ?_)
  · refine m_bipush F (v := (-2)) (by decide) e_X10_text_17 ?_
    exact m_iret F hQ e_X10_text_19 (⟨⟨_, rfl⟩, Or.inl ⟨Or.inl q6, h11047⟩⟩)
  · obtain ⟨n11051, hn11051, rfl⟩ := nI_nn (x := x901) (fun e => q6 (Int32.lt_of_lt_of_le e (by decide)))
    have c6 : n11051 ≥ 0 := by have hh := mt (nI_ltI (a := n11051) (b := 0) (by omega) (by omega)).mpr q6; omega
    refine m_iload_n F rfl e_X10_text_9 ?_
    refine m_aload_n F rfl e_X10_text_10 ?_
    refine r_get F e_X10_text_11 fl_X10_94 h11047 rfl (fun v hv f11052 => ?_)
    obtain rfl : v = .int (nI (T)) := hv
    refine m_icmp_le F e_X10_text_14 (fun q14 => ?_) (fun q14 => ?_)
    · have c14 : n11051 ≤ T := (nI_leI (a := n11051) (b := T) (by omega) (by omega)).mp q14
      refine m_aload_n F rfl e_X10_text_20 ?_
      refine m_iload_n F rfl e_X10_text_21 ?_
      refine r_callV F e_X10_text_22 (q_X10_readText (x_l X) V c T Z u h P L _ _ n11051 h11047.1 (hok.b) hP (by omega)) cb_X10_readText ml_X10_208 im_X10_readText se_X10_readText h11047 rfl rfl (rest := []) rfl (Nat.le_of_ble_eq_true rfl) ⟨Nat.le_of_ble_eq_true rfl, Nat.le_of_ble_eq_true rfl⟩ ⟨Nat.le_of_ble_eq_true rfl, Nat.le_of_ble_eq_true rfl⟩ (fun r σ11053 hp => ?_)
      obtain ⟨P11056, oP11056, rP11056, h11054, rfl⟩ := hp
      have h11055 := HS.trans h11047 h11054 (by decide)
      have xP11056 := oP11056
      unfold OKP at xP11056
      unfold RQ at rP11056
      refine m_aload_n F rfl e_X10_text_25 ?_
      refine m_iconst F (v := 0) (by decide) e_X10_text_26 ?_
      refine r_put F (g' := (⟨0, 1, u, h, P11056, L⟩ : RG)) e_X10_text_27 fp_X10_94 h11055 (by decide) rfl ctl_T CR.ctl rfl rfl (by decide) (fun σ11057 h11058 g11059 g11060 f11061 => ?_)
      refine m_aload_n F rfl e_X10_text_30 ?_
      refine m_aload_n F rfl e_X10_text_31 ?_
      refine r_get F e_X10_text_32 fl_X10_141 h11058 rfl (fun v hv f11062 => ?_)
      obtain ⟨x11063, hx11063, rfl⟩ := hv
      replace hx11063 : 1 = 0 → x11063 ≠ 0 := hx11063
      refine r_put F (g' := (⟨0, 1, u, h, P11056, L⟩ : RG)) e_X10_text_35 fp_X10_211 h11058 (by decide) ⟨_, rfl⟩ (fun _ _ _ _ q => q) (fun _ _ _ q => q) rfl rfl (by decide) (fun σ11064 h11065 g11066 g11067 f11068 => ?_)
      refine m_aload_n F rfl e_X10_text_38 ?_
      refine m_aload_n F rfl e_X10_text_39 ?_
      refine r_getC F e_X10_text_40 fl_X10_141 h11065 ((g11067 23 (by decide)).trans f11062) ?_
      refine m_if_ne F e_X10_text_43 (fun q43 => ?_) (fun q43 => ?_)
      · have h11069 := HS.z0 h11065 ((g11067 23 (by decide)).trans f11062) q43
        refine m_aload_n F rfl e_X10_text_50 ?_
        refine r_get F e_X10_text_51 fl_X10_144 h11069 rfl (fun v hv f11070 => ?_)
        obtain ⟨x11071, rfl⟩ := hv
        refine r_put F (g' := (⟨0, 0, u, h, P11056, L⟩ : RG)) e_X10_text_54 fp_X10_55 h11069 (by decide) ⟨_, rfl⟩ (fun _ _ _ _ q => q) (fun _ _ _ q => q) rfl rfl (by decide) (fun σ11072 h11073 g11074 g11075 f11076 => ?_)
        refine m_aload_n F rfl e_X10_text_57 ?_
        refine r_getC F e_X10_text_58 fl_X10_141 h11073 ((g11075 23 (by decide)).trans ((g11067 23 (by decide)).trans f11062)) ?_
        refine m_if_eq F e_X10_text_61 (fun q61 => ?_) (fun q61 => ?_)
        · first | exact absurd q61 (hx11063 rfl) | contradiction
        · have h11077 := HS.z0 h11073 ((g11075 23 (by decide)).trans ((g11067 23 (by decide)).trans f11062)) q61
          refine m_iconst F (v := (-1)) (by decide) e_X10_text_64 ?_
          have h11078 : HS V c (⟨0, 1, u, h, P11056, L⟩ : RG) [0, 2, 18, 19, 20, 21, 23] _ _ := ⟨HR.mono (Z' := 1) (fun e => absurd e (by decide)) h11077.1, h11077.2⟩
          exact m_iret F hQ e_X10_text_65 (⟨⟨_, rfl⟩, Or.inr ⟨n11051, rfl, by omega, u, h, P11056, L, ⟨by omega, by omega, oP11056, by omega, by omega, by omega, by rw [show P11056.n0 = P.n0 by omega]; exact hok⟩, h11078⟩⟩)
      · subst q43
        refine m_iconst F (v := (-1)) (by decide) e_X10_text_46 ?_
        refine m_goto F e_X10_text_47 ?_
        refine r_put F (g' := (⟨0, 1, u, h, P11056, L⟩ : RG)) e_X10_text_54 fp_X10_55 h11065 (by decide) ⟨_, rfl⟩ (fun _ _ _ _ q => q) (fun _ _ _ q => q) rfl rfl (by decide) (fun σ11079 h11080 g11081 g11082 f11083 => ?_)
        refine m_aload_n F rfl e_X10_text_57 ?_
        refine r_getC F e_X10_text_58 fl_X10_141 h11080 ((g11082 23 (by decide)).trans ((g11067 23 (by decide)).trans f11062)) ?_
        refine m_if_eq F e_X10_text_61 (fun _ => ?_) (fun q => absurd (by decide) q)
        refine m_aload_n F rfl e_X10_text_66 ?_
        refine r_callV F e_X10_text_67 (q_X10_takeText (x_l X) V c 0 1 u h P11056 L _ _  h11080.1 (hok.b) oP11056 ) cb_X10_takeText ml_X10_85 im_X10_takeText se_X10_takeText h11080 rfl rfl (rest := []) rfl (Nat.le_of_ble_eq_true rfl) ⟨Nat.le_of_ble_eq_true rfl, Nat.le_of_ble_eq_true rfl⟩ ⟨Nat.le_of_ble_eq_true rfl, Nat.le_of_ble_eq_true rfl⟩ (fun r σ11084 hp => ?_)
        obtain ⟨P11087, oP11087, rP11087, h11085, rfl⟩ := hp
        have h11086 := HS.trans h11080 h11085 (by decide)
        have xP11087 := oP11087
        unfold OKP at xP11087
        unfold RT at rP11087
        refine m_aload_n F rfl e_X10_text_70 ?_
        refine r_callV F e_X10_text_71 (q_X10_begins (x_l X) V c 0 1 u h P11087 L _ _  h11086.1 (hok.b) oP11087 (by first | omega | assumption | decide) (by first | omega | assumption | decide)) cb_X10_begins ml_X10_88 im_X10_begins se_X10_begins h11086 rfl rfl (rest := []) rfl (Nat.le_of_ble_eq_true rfl) ⟨Nat.le_of_ble_eq_true rfl, Nat.le_of_ble_eq_true rfl⟩ ⟨Nat.le_of_ble_eq_true rfl, Nat.le_of_ble_eq_true rfl⟩ (fun r σ11088 hp => ?_)
        obtain ⟨L11091, okL11091, h11089, rfl⟩ := hp
        have h11090 := HS.trans h11086 h11089 (by decide)
        refine m_aload_n F rfl e_X10_text_74 ?_
        refine m_iconst F (v := 0) (by decide) e_X10_text_75 ?_
        refine r_put F (g' := (⟨0, 1, 0, h, P11087, L11091⟩ : RG)) e_X10_text_76 fp_X10_214 h11090 (by decide) rfl ctl_u (CR.und (Nat.zero_le _)) rfl rfl (by decide) (fun σ11092 h11093 g11094 g11095 f11096 => ?_)
        refine m_aload_n F rfl e_X10_text_79 ?_
        refine m_iconst F (v := 0) (by decide) e_X10_text_80 ?_
        refine r_put F (g' := (⟨0, 1, 0, 0, P11087, L11091⟩ : RG)) e_X10_text_81 fp_X10_217 h11093 (by decide) rfl ctl_h CR.h0 (by decide) rfl (by decide) (fun σ11097 h11098 g11099 g11100 f11101 => ?_)
        refine m_aload_n F rfl e_X10_text_84 ?_
        refine r_get F e_X10_text_85 fl_X10_202 h11098 rfl (fun v hv f11102 => ?_)
        obtain ⟨x11103, rfl⟩ := hv
        have h11104 : HS V c (⟨0, 1, 0, 0, (mkP P11087.n0 P11087.n2 P11087.n5 P11087.n7 P11087.m0 P11087.m5 P11087.w2 P11087.w7 P11087.n0 P11087.a), L11091⟩ : RG) [0, 2, 18, 19, 20, 21, 23] _ _ := ⟨HR.kk0 (HR.mono (Z' := 1) (fun e => absurd e (by decide)) h11098.1), h11098.2⟩
        exact m_iret F hQ e_X10_text_88 (⟨⟨_, rfl⟩, Or.inr ⟨n11051, rfl, by omega, 0, 0, (mkP P11087.n0 P11087.n2 P11087.n5 P11087.n7 P11087.m0 P11087.m5 P11087.w2 P11087.w7 P11087.n0 P11087.a), L11091, ⟨by omega, by omega, oP11087, rfl, (show P11087.n0 ≤ P11087.m0 by omega), (show P11087.n2 ≤ P11087.w2 by omega), okL11091⟩, h11104⟩⟩)
    · have c14 : n11051 > T := by have hh := mt (nI_leI (a := n11051) (b := T) (by omega) (by omega)).mpr q14; omega
      refine m_bipush F (v := (-2)) (by decide) e_X10_text_17 ?_
      exact m_iret F hQ e_X10_text_19 (⟨⟨_, rfl⟩, Or.inl ⟨Or.inr ⟨n11051, by omega, rfl, by omega⟩, h11047⟩⟩)
