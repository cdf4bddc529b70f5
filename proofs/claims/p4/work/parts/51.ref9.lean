/-! a text taken: what may be forgotten, what begins anew -/
theorem HR.forget {V : VX} {c T Z u h : Nat} {P : NP} {L : Nat → LQ} {σ : Mem} (hh : HR V c ⟨T, Z, u, h, P, L⟩ σ) : HR V c ⟨T, Z, u, h, mkP P.n0 P.n2 P.n5 P.n7 0 P.m5 0 P.w7 P.kk P.a P.f P.p, L⟩ σ := by
  intro a
  have h1 := hh a
  by_cases h6 : kC c a = 6
  · rw [h6] at h1 ⊢
    obtain ⟨f, e, q⟩ := h1
    refine ⟨f, e, fun i hi => ?_⟩
    obtain ⟨n, a1, a2, a3, a4⟩ := q i hi
    exact ⟨n, a1, a2, fun _ h9 => absurd h9 (Nat.not_lt_zero _), a4⟩
  · by_cases h13 : kC c a = 13
    · rw [h13] at h1 ⊢
      obtain ⟨f, e, q⟩ := h1
      refine ⟨f, e, fun i hi => ?_⟩
      obtain ⟨n, a1, a2, a3, a4⟩ := q i hi
      exact ⟨n, a1, a2, fun _ h9 => absurd h9 (Nat.not_lt_zero _), a4⟩
    · revert h1
      generalize kC c a = i at h6 h13
      generalize σ a = x
      intro hx
      unfold CR at hx ⊢
      split at hx <;> first | exact hx | exact absurd rfl h6 | exact absurd rfl h13 | skip
      all_goals first | exact hx | (obtain ⟨f, e, q⟩ := hx; refine ⟨f, e, fun i hi => ?_⟩; have h9 := q i hi; unfold EI at h9 ⊢; split at h9 <;> first | exact h9 | trivial | contradiction | (exfalso; omega))
theorem HR.kk0 {V : VX} {c T Z : Nat} {P : NP} {L : Nat → LQ} {σ : Mem} {k : Nat} (hh : HR V c ⟨T, Z, 0, 0, P, L⟩ σ) : HR V c ⟨T, Z, 0, 0, mkP P.n0 P.n2 P.n5 P.n7 P.m0 P.m5 P.w2 P.w7 k P.a P.f P.p, L⟩ σ := by
  intro a
  have h1 := hh a
  by_cases h20 : kC c a = 20
  · rw [h20] at h1 ⊢
    obtain ⟨f, e, q⟩ := h1
    exact ⟨f, e, fun h9 => absurd h9 (by show ¬ (0 : Nat) = 1; decide)⟩
  · by_cases h21 : kC c a = 21
    · rw [h21] at h1 ⊢
      obtain ⟨f, e, q⟩ := h1
      exact ⟨f, e, fun j hj => absurd hj (Nat.not_lt_zero _)⟩
    · revert h1
      generalize kC c a = i at h20 h21
      generalize σ a = x
      intro hx
      unfold CR at hx ⊢
      split at hx <;> first | exact hx | exact absurd rfl h20 | exact absurd rfl h21
def RT (P Q : NP) : Prop := Q.n0 = P.n5 ∧ Q.kk = P.kk ∧ Q.n0 ≤ Q.m0 ∧ Q.n2 ≤ Q.w2 ∧ Q.f = P.f ∧ Q.p = P.p
theorem OKL.updS {n : Nat} {L L' : Nat → LQ} (h : OKL n L) (hl4 : n < 4) (ho : ∀ i, i ≠ n → L' i = L i) (hl : (L' n).1 ≤ 2 ∧ (L' n).2.1 ≤ 72 ∧ (L' n).2.2.1 ≤ 2000 ∧ (L' n).2.2.2 ≤ 72 ∧ ((L' n).1 = 1 → (L' n).2.2.2 < (L' n).2.1 ∧ 1 ≤ (L' n).2.2.1) ∧ ((L' n).1 = 0 → (L' n).2.2.2 = 0) ∧ 1 ≤ (L' n).2.1) : OKL (n + 1) L' := by
  refine ⟨by rw [ho 4 (by omega)]; exact h.1, fun i hi => ?_⟩
  by_cases e : i = n
  · subst e; exact ⟨hl.1, hl.2.1, hl.2.2.1, hl.2.2.2.1, hl.2.2.2.2.1, hl.2.2.2.2.2.1, fun _ => hl.2.2.2.2.2.2⟩
  · have h9 := h.2 i hi
    rw [ho i e]; exact ⟨h9.1, h9.2.1, h9.2.2.1, h9.2.2.2.1, h9.2.2.2.2.1, h9.2.2.2.2.2.1, fun h8 => h9.2.2.2.2.2.2 (by omega)⟩
def L0 : Nat → LQ := fun _ => (0, 0, 0, 0)
theorem OKL.zero : OKL 0 L0 := ⟨by show (0 : Nat) ≤ 99; omega, fun l _ => ⟨by show (0 : Nat) ≤ 2; omega, by show (0 : Nat) ≤ 72; omega, by show (0 : Nat) ≤ 2000; omega, by show (0 : Nat) ≤ 72; omega, fun e => absurd e (by show ¬ (0 : Nat) = 1; omega), fun _ => rfl, fun e => absurd e (Nat.not_lt_zero _)⟩⟩
/-- s while it is made anew: 0 up to k -/
def ZF (k : Nat) (f : Nat → Int64) : Prop := ∀ i, i < k → f i = 0
/-- .. 0 all over, but for the INDEX of the periods up to p -/
def PZ (p : Nat) (f : Nat → Int64) : Prop := (∀ i, i < 1113 → (i < 644 ∨ 744 ≤ i) → f i = 0) ∧ ∀ i, 644 ≤ i → i < 644 + p → ∃ n : Nat, 1 ≤ n ∧ n ≤ 2000 ∧ f i = lN n
theorem PZ.zero {f : Nat → Int64} (h : ZF 1113 f) : PZ 0 f := ⟨fun i hi _ => h i hi, fun i h1 h2 => by omega⟩
theorem PZ.put {p m : Nat} {f : Nat → Int64} (h : PZ p f) (hp : p < 100) (hm : 1 ≤ m ∧ m ≤ 2000) : PZ (p + 1) (vp_updL f (644 + p) (lN m)) := by
  refine ⟨fun i hi h1 => ?_, fun i h1 h2 => ?_⟩
  · unfold vp_updL; rw [if_neg (by omega)]; exact h.1 i hi h1
  · unfold vp_updL
    by_cases e : i = 644 + p
    · rw [if_pos e]; exact ⟨m, hm.1, hm.2, rfl⟩
    · rw [if_neg e]; exact h.2 i h1 (by omega)
theorem PZ.put2 {p m : Nat} {f : Nat → Int64} (h : PZ (p + 1) f) (hp : p < 100) (hm : 1 ≤ m ∧ m ≤ 2000) : PZ (p + 1) (vp_updL f (644 + p) (lN m)) := by
  refine ⟨fun i hi h1 => ?_, fun i h1 h2 => ?_⟩
  · unfold vp_updL; rw [if_neg (by omega)]; exact h.1 i hi h1
  · unfold vp_updL
    by_cases e : i = 644 + p
    · rw [if_pos e]; exact ⟨m, hm.1, hm.2, rfl⟩
    · rw [if_neg e]; exact h.2 i h1 (by omega)
theorem ZF.put {k : Nat} {f : Nat → Int64} (h : ZF k f) : ZF (k + 1) (vp_updL f k 0) := by
  intro i hi
  unfold vp_updL
  by_cases e : i = k
  · rw [if_pos e]
  · rw [if_neg e]; exact h i (by omega)
theorem PZ.typed {f : Nat → Int64} (h : PZ 100 f) : ∀ i, i < 1113 → EJ L0 i (f i) := by
  intro i hi
  have h0 : (i < 644 ∨ 744 ≤ i) → f i = lN 0 := fun q => h.1 i hi q
  unfold EJ
  by_cases h1 : i < 640
  · rw [if_pos h1, h0 (by omega)]
    unfold EL
    split <;> first | rfl | exact ⟨0, by omega, rfl⟩ | trivial
  · rw [if_neg h1]
    by_cases h2 : i < 644
    · rw [if_pos h2]; trivial
    · rw [if_neg h2]
      by_cases h3 : i < 744
      · rw [if_pos h3]; exact h.2 i (by omega) (by omega)
      · rw [if_neg h3]
        by_cases h4 : i = 744
        · rw [if_pos h4, h0 (by omega)]; rfl
        · rw [if_neg h4]
          by_cases h5 : i = 751
          · rw [if_pos h5, h0 (by omega)]; exact ⟨0, by omega, rfl⟩
          · rw [if_neg h5]; trivial
set_option maxRecDepth 20000 in
theorem lq_X10_readText_28 {V : VX} {X : MX} {N : Nat} {σ : Mem} {c T Z u h : Nat} {P : NP} {L : Nat → LQ}  {n901 : Nat} (F : Fx V X yX10_readText cX10_readText 2 none (rmd 10 0 0)) (hQ : Rt V X 0 0 N (fun r τ => ∃ P9 : NP, OKP P9 ∧ RQ P P9 ∧ HS V c (⟨T, 1, u, h, P9, L⟩ : RG) [0, 2, 17, 18, 19, 20, 21, 22, 23] σ τ ∧ r = none)) (hob : OKB L) (hP : OKP P) (hn901 : n901 ≤ 700)  : ∀ (fuel : Nat) (x1 y1 : Int32) (P1 : NP) (τ : Mem), HS V c (⟨T, 1, u, h, P1, L⟩ : RG) [0, 2, 17, 18, 19, 20, 21, 22, 23] σ τ → OKP P1 → RQ P P1 → fld τ c 23 = some (.int x1) ∧ fld τ c 21 = some (.int y1) → (if x1 = 0 ∧ y1 ≠ 4 then 701 - P1.a else 0) < fuel → Wm V X 2 N τ 0 0 28 [(0, .ref c)] [] := by
  intro fuel
  induction fuel with
  | zero => intros; rename_i hm; exact absurd hm (Nat.not_lt_zero _)
  | succ fuel ih =>
    intro x1 y1 P1 τ h1 hP1 hR1 hi hm
    have hPP := hP
    unfold OKP at hPP
    have hPP1 := hP1
    unfold OKP at hPP1
    unfold RQ at hR1
    refine m_aload_n F rfl e_X10_readText_28 ?_
    refine r_getC F e_X10_readText_29 fl_X10_141 h1 (hi.1) ?_
    refine m_if_ne F e_X10_readText_32 (fun q32 => ?_) (fun q32 => ?_)
    · exact m_vret F hQ e_X10_readText_50 (⟨P1, hP1, (by unfold RQ; omega), h1, rfl⟩)
    · subst q32
      refine m_aload_n F rfl e_X10_readText_35 ?_
      refine r_getC F e_X10_readText_36 fl_X10_110 h1 (hi.2) ?_
      refine m_iconst F (v := 4) (by decide) e_X10_readText_39 ?_
      refine m_icmp_eq F e_X10_readText_40 (fun q40 => ?_) (fun q40 => ?_)
      · subst q40
        exact m_vret F hQ e_X10_readText_50 (⟨P1, hP1, (by unfold RQ; omega), h1, rfl⟩)
      · refine m_aload_n F rfl e_X10_readText_43 ?_
        refine r_callV F e_X10_readText_44 (q_X10_readLine (x_l X) V c T 1 u h P1 L _ _  h1.1 (hob) hP1 ) cb_X10_readLine ml_X10_205 im_X10_readLine se_X10_readLine h1 rfl rfl (rest := []) rfl (Nat.le_of_ble_eq_true rfl) ⟨Nat.le_of_ble_eq_true rfl, Nat.le_of_ble_eq_true rfl⟩ ⟨Nat.le_of_ble_eq_true rfl, Nat.le_of_ble_eq_true rfl⟩ (fun r σ10091 hp => ?_)
        obtain ⟨P10094, oP10094, rP10094, pr10095, h10092, rfl⟩ := hp
        have h10093 := HS.trans h1 h10092 (by decide)
        have xP10094 := oP10094
        unfold OKP at xP10094
        unfold RP at rP10094
        refine m_goto F e_X10_readText_47 ?_
        obtain ⟨x9, y9, e9, e8, d9⟩ := pr10095
        have hmm : (if x9 = 0 ∧ y9 ≠ (4 : Int32) then 701 - P10094.a else 0) < fuel := by
          rw [if_pos ⟨rfl, q40⟩] at hm
          by_cases hc : x9 = 0 ∧ y9 ≠ (4 : Int32)
          · rw [if_pos hc]
            rcases d9 with d | d | d
            · exact absurd hc.1 d
            · exact absurd d hc.2
            · omega
          · rw [if_neg hc]; omega
        exact ih x9 y9 P10094 _ h10093 oP10094 (by unfold RQ; omega) ⟨e9, e8⟩ hmm
set_option maxRecDepth 20000 in
theorem q_X10_readText (l : Launch) (V : VX) (c T Z u h : Nat) (P : NP) (L : Nat → LQ) (N : Nat) (σ : Mem) (n901 : Nat) (h0 : HR V c ⟨T, Z, u, h, P, L⟩ σ) (hob : OKB L) (hP : OKP P) (hn901 : n901 ≤ 700) : Ct l V yX10_readText cX10_readText 2 none 10 0 0 N σ [.ref c, .int (nI n901)] (fun r τ => ∃ P9 : NP, OKP P9 ∧ RQ P P9 ∧ HS V c (⟨T, 1, u, h, P9, L⟩ : RG) [0, 2, 17, 18, 19, 20, 21, 22, 23] σ τ ∧ r = none) := by
  refine Ct.of (by decide) (Nat.le_of_ble_eq_true rfl) [(0, .ref c), (1, .int (nI n901))] rfl (fun X hX F hQ => ?_)
  have hPP := hP
  unfold OKP at hPP
  have h1 : HS V c ⟨T, Z, u, h, P, L⟩ [0, 2, 17, 18, 19, 20, 21, 22, 23] σ σ := HS.start h0
  refine m_aload_n F rfl e_X10_readText_0 ?_
  refine m_iload_n F rfl e_X10_readText_1 ?_
  refine r_put F (g' := (⟨T, Z, u, h, P, L⟩ : RG)) e_X10_readText_2 fp_X10_100 h1 (by decide) ⟨n901, (show n901 ≤ 700 by omega), rfl⟩ (fun _ _ _ _ q => q) (fun _ _ _ q => q) rfl rfl (by decide) (fun σ10096 h10097 g10098 g10099 f10100 => ?_)
  refine m_aload_n F rfl e_X10_readText_5 ?_
  refine m_iconst F (v := 0) (by decide) e_X10_readText_6 ?_
  refine r_put F (g' := (⟨T, Z, u, h, (mkP P.n0 P.n2 P.n5 P.n7 P.m0 P.m5 P.w2 P.w7 P.kk 0 P.f P.p), L⟩ : RG)) e_X10_readText_7 fp_X10_97 h10097 (by decide) rfl ctl_a CR.setA rfl rfl (by decide) (fun σ10101 h10102 g10103 g10104 f10105 => ?_)
  obtain ⟨P10106, eP10106⟩ : ∃ P9, P9 = (mkP P.n0 P.n2 P.n5 P.n7 P.m0 P.m5 P.w2 P.w7 P.kk 0 P.f P.p) := ⟨_, rfl⟩
  rw [← eP10106] at h10102
  have fP10106 : P10106.n0 = P.n0 ∧ P10106.n2 = P.n2 ∧ P10106.n5 = P.n5 ∧ P10106.n7 = P.n7 ∧ P10106.m0 = P.m0 ∧ P10106.m5 = P.m5 ∧ P10106.w2 = P.w2 ∧ P10106.w7 = P.w7 ∧ P10106.kk = P.kk ∧ P10106.a = 0 ∧ P10106.f = P.f ∧ P10106.p = P.p := by rw [eP10106]; exact ⟨rfl, rfl, rfl, rfl, rfl, rfl, rfl, rfl, rfl, rfl, rfl, rfl⟩
  refine m_aload_n F rfl e_X10_readText_10 ?_
  refine m_iconst F (v := 0) (by decide) e_X10_readText_11 ?_
  refine r_put F (g' := (⟨T, 1, u, h, P10106, L⟩ : RG)) e_X10_readText_12 fp_X10_141 h10102 (by decide) ⟨_, (fun e => absurd e (show ¬ (1 : Nat) = 0 by decide)), rfl⟩ ctl_Z CR.ctl rfl rfl (by decide) (fun σ10107 h10108 g10109 g10110 f10111 => ?_)
  refine m_aload_n F rfl e_X10_readText_15 ?_
  refine m_iconst F (v := 0) (by decide) e_X10_readText_16 ?_
  refine r_put F (g' := (⟨T, 1, u, h, P10106, L⟩ : RG)) e_X10_readText_17 fp_X10_202 h10108 (by decide) ⟨_, rfl⟩ (fun _ _ _ _ q => q) (fun _ _ _ q => q) rfl rfl (by decide) (fun σ10112 h10113 g10114 g10115 f10116 => ?_)
  refine m_aload_n F rfl e_X10_readText_20 ?_
  have oP10120 : OKP P10106 := by unfold OKP; omega
  refine r_callV F e_X10_readText_21 (q_X10_freshText (x_l X) V c T 1 u h P10106 L _ _  h10113.1 (hob) oP10120 ) cb_X10_freshText ml_X10_82 im_X10_freshText se_X10_freshText h10113 rfl rfl (rest := []) rfl (Nat.le_of_ble_eq_true rfl) ⟨Nat.le_of_ble_eq_true rfl, Nat.le_of_ble_eq_true rfl⟩ ⟨Nat.le_of_ble_eq_true rfl, Nat.le_of_ble_eq_true rfl⟩ (fun r σ10117 hp => ?_)
  obtain ⟨P10121, oP10121, rP10121, h10118, rfl⟩ := hp
  have h10119 := HS.trans h10113 h10118 (by decide)
  have xP10121 := oP10121
  unfold OKP at xP10121
  unfold RP at rP10121
  refine m_aload_n F rfl e_X10_readText_24 ?_
  refine r_callV F e_X10_readText_25 (q_X10_token (x_l X) V c T 1 u h P10121 L _ _  h10119.1 (hob) oP10121 ) cb_X10_token ml_X10_147 im_X10_token se_X10_token h10119 rfl rfl (rest := []) rfl (Nat.le_of_ble_eq_true rfl) ⟨Nat.le_of_ble_eq_true rfl, Nat.le_of_ble_eq_true rfl⟩ ⟨Nat.le_of_ble_eq_true rfl, Nat.le_of_ble_eq_true rfl⟩ (fun r σ10122 hp => ?_)
  obtain ⟨P10125, oP10125, rP10125, pr10126, h10123, rfl⟩ := hp
  have h10124 := HS.trans h10119 h10123 (by decide)
  have xP10125 := oP10125
  unfold OKP at xP10125
  unfold RA at rP10125
  refine Wm.lvsub (lv' := [(0, .ref c)]) ?_ [0] rfl
  obtain ⟨y9, e8⟩ := h10124.1.f21
  obtain ⟨x9, e9⟩ := h10124.1.f23
  exact lq_X10_readText_28 (Z := Z) F hQ hob hP hn901 ((if x9 = 0 ∧ y9 ≠ 4 then 701 - P10125.a else 0) + 1) x9 y9 P10125 _ h10124 oP10125 (by unfold RQ; omega) ⟨e9, e8⟩ (Nat.lt_succ_self _)
def RT3 (P Q : NP) : Prop := Q.n0 = P.n5 ∧ Q.n2 = P.n7 ∧ Q.kk = P.kk ∧ Q.n0 ≤ Q.m0 ∧ Q.w7 = P.w7 ∧ Q.w2 = 0 ∧ Q.f = P.f ∧ Q.p = P.p
set_option maxRecDepth 20000 in
theorem lq_X10_takeText_179 {V : VX} {X : MX} {N : Nat} {σ : Mem} {c T Z u h : Nat} {P : NP} {L : Nat → LQ}   (F : Fx V X yX10_takeText cX10_takeText 2 none (rmd 1 0 0)) (hQ : Rt V X 0 0 N (fun r τ => ∃ P9 : NP, OKP P9 ∧ RT P P9 ∧ HS V c (⟨T, Z, u, h, P9, L⟩ : RG) [0, 1, 2, 17, 18, 19, 20, 21, 22, 23] σ τ ∧ r = none)) (hob : OKB L) (hP : OKP P)   : ∀ (fuel : Nat) (i : Nat) (P1 : NP) (τ : Mem), HS V c (⟨T, Z, u, h, P1, L⟩ : RG) [0, 1, 2, 17, 18, 19, 20, 21, 22, 23] σ τ → OKP P1 → RT3 P P1 → i ≤ 192 → 192 - i < fuel → Wm V X 2 N τ 0 0 179 [(0, .ref c), (1, .int (nI i))] [] := by
  intro fuel
  induction fuel with
  | zero => intros; rename_i hm; exact absurd hm (Nat.not_lt_zero _)
  | succ fuel ih =>
    intro i P1 τ h1 hP1 hR1 hi hm
    have hPP := hP
    unfold OKP at hPP
    have hPP1 := hP1
    unfold OKP at hPP1
    unfold RT3 at hR1
    refine m_iload_n F rfl e_X10_takeText_179 ?_
    refine m_sipush F (v := 192) (by decide) e_X10_takeText_180 ?_
    refine m_icmp_ge F e_X10_takeText_183 (fun q183 => ?_) (fun q183 => ?_)
    · have c183 : i ≥ 192 := (nI_leI (a := 192) (b := i) (by omega) (by omega)).mp q183
      refine m_iconst F (v := 0) (by decide) e_X10_takeText_208 ?_
      refine m_istore_n F (lv' := [(1, .int 0), (0, .ref c)]) e_X10_takeText_209 (by decide) rfl ?_
      refine m_iload_n F rfl e_X10_takeText_210 ?_
      refine m_bipush F (v := 8) (by decide) e_X10_takeText_211 ?_
      refine m_icmp_ge F e_X10_takeText_213 (fun q => absurd q (by decide)) (fun _ => ?_)
      refine m_aload_n F rfl e_X10_takeText_216 ?_
      refine r_get F e_X10_takeText_217 fl_X10_40 h1 rfl (fun v hv f10127 => ?_)
      obtain rfl : v = .ref (c + 11) := hv
      refine m_iload_n F rfl e_X10_takeText_220 ?_
      refine m_aload_n F rfl e_X10_takeText_221 ?_
      refine r_getC F e_X10_takeText_222 fl_X10_40 h1 (f10127) ?_
      refine m_bipush F (v := 8) (by decide) e_X10_takeText_225 ?_
      refine m_iload_n F rfl e_X10_takeText_227 ?_
      refine m_iadd F e_X10_takeText_228 ?_
      refine Wm.topE (w := 8) (by decide) ?_
      refine r_iald F (len := 16) (j := 8) e_X10_takeText_229 h1 (fun _ h => h) (by decide) (by decide) (by unfold vp_in; decide) (fun x10128 h10129 f10130 => ?_)
      obtain ⟨n10131, hn10131, rfl⟩ := h10129
      refine r_iast F (g' := (⟨T, Z, u, h, P1, L⟩ : RG)) (len := 16) (j := 0) e_X10_takeText_230 h1 (fun _ h => h) (fun f h => ⟨f, rfl, h⟩) (by decide) (by decide) (by decide) (by unfold vp_in; decide) ⟨n10131, by omega, rfl⟩ (fun _ _ _ h => h) (fun _ _ _ h => h) (fun σ10132 h10133 g10134 f10135 g10136 => ?_)
      refine m_aload_n F rfl e_X10_takeText_231 ?_
      refine r_get F e_X10_takeText_232 fl_X10_43 h10133 rfl (fun v hv f10137 => ?_)
      obtain rfl : v = .ref (c + 12) := hv
      refine m_iload_n F rfl e_X10_takeText_235 ?_
      refine m_aload_n F rfl e_X10_takeText_236 ?_
      refine r_getC F e_X10_takeText_237 fl_X10_43 h10133 (f10137) ?_
      refine m_bipush F (v := 8) (by decide) e_X10_takeText_240 ?_
      refine m_iload_n F rfl e_X10_takeText_242 ?_
      refine m_iadd F e_X10_takeText_243 ?_
      refine Wm.topE (w := 8) (by decide) ?_
      refine r_iald F (len := 16) (j := 8) e_X10_takeText_244 h10133 (fun _ h => h) (by decide) (by decide) (by unfold vp_in; decide) (fun x10138 h10139 f10140 => ?_)
      obtain ⟨n10141, hn10141, rfl, pn10141, rn10141⟩ := h10139
      refine r_iast F (g' := (⟨T, Z, u, h, (mkP P1.n0 P1.n2 P1.n5 P1.n7 P1.m0 P1.m5 (min 1 P1.w7) P1.w7 P1.kk P1.a P1.f P1.p), L⟩ : RG)) (len := 16) (j := 0) e_X10_takeText_245 h10133 (fun _ h => h) (fun f h => ⟨f, rfl, h⟩) (by decide) (by decide) (by decide) (by unfold vp_in; decide) ⟨n10141, by omega, rfl, fun _ h8 => rn10141 (by omega) (show 8 < 8 + P1.w7 by have h6 : 0 < min 1 P1.w7 := h8; omega), fun h7 _ => absurd h7 (by omega)⟩ (fun i hi y hy => by obtain ⟨n9, a9, b9, c9, d9⟩ := hy; exact ⟨n9, a9, b9, fun h7 h8 => c9 h7 (show i < P1.w2 by have h6 : i < min 1 P1.w7 := h8; omega), d9⟩) (CR.chg (by intro k hk i x h; unfold EI at h ⊢; split at h <;> first | exact h | exact absurd rfl hk | trivial) rfl rfl rfl rfl) (fun σ10142 h10143 g10144 f10145 g10146 => ?_)
      obtain ⟨P10147, eP10147⟩ : ∃ P9, P9 = (mkP P1.n0 P1.n2 P1.n5 P1.n7 P1.m0 P1.m5 (min 1 P1.w7) P1.w7 P1.kk P1.a P1.f P1.p) := ⟨_, rfl⟩
      rw [← eP10147] at h10143
      have fP10147 : P10147.n0 = P1.n0 ∧ P10147.n2 = P1.n2 ∧ P10147.n5 = P1.n5 ∧ P10147.n7 = P1.n7 ∧ P10147.m0 = P1.m0 ∧ P10147.m5 = P1.m5 ∧ P10147.w2 = min 1 P1.w7 ∧ P10147.w7 = P1.w7 ∧ P10147.kk = P1.kk ∧ P10147.a = P1.a ∧ P10147.f = P1.f ∧ P10147.p = P1.p := by rw [eP10147]; exact ⟨rfl, rfl, rfl, rfl, rfl, rfl, rfl, rfl, rfl, rfl, rfl, rfl⟩
      refine m_iinc F (v := 1) (lv' := [(1, .int 1), (0, .ref c)]) e_X10_takeText_246 rfl (by decide) (by decide) rfl ?_
      refine m_goto F e_X10_takeText_249 ?_
      refine m_iload_n F rfl e_X10_takeText_210 ?_
      refine m_bipush F (v := 8) (by decide) e_X10_takeText_211 ?_
      refine m_icmp_ge F e_X10_takeText_213 (fun q => absurd q (by decide)) (fun _ => ?_)
      refine m_aload_n F rfl e_X10_takeText_216 ?_
      refine r_getC F e_X10_takeText_217 fl_X10_40 h10143 ((fld_eq (g10144 _ (by omega))).trans ((fld_eq (g10134 _ (by omega))).trans f10127)) ?_
      refine m_iload_n F rfl e_X10_takeText_220 ?_
      refine m_aload_n F rfl e_X10_takeText_221 ?_
      refine r_getC F e_X10_takeText_222 fl_X10_40 h10143 ((fld_eq (g10144 _ (by omega))).trans ((fld_eq (g10134 _ (by omega))).trans f10127)) ?_
      refine m_bipush F (v := 8) (by decide) e_X10_takeText_225 ?_
      refine m_iload_n F rfl e_X10_takeText_227 ?_
      refine m_iadd F e_X10_takeText_228 ?_
      refine Wm.topE (w := 9) (by decide) ?_
      refine r_iald F (len := 16) (j := 9) e_X10_takeText_229 h10143 (fun _ h => h) (by decide) (by decide) (by unfold vp_in; decide) (fun x10148 h10149 f10150 => ?_)
      obtain ⟨n10151, hn10151, rfl⟩ := h10149
      refine r_iast F (g' := (⟨T, Z, u, h, P10147, L⟩ : RG)) (len := 16) (j := 1) e_X10_takeText_230 h10143 (fun _ h => h) (fun f h => ⟨f, rfl, h⟩) (by decide) (by decide) (by decide) (by unfold vp_in; decide) ⟨n10151, by omega, rfl⟩ (fun _ _ _ h => h) (fun _ _ _ h => h) (fun σ10152 h10153 g10154 f10155 g10156 => ?_)
      refine m_aload_n F rfl e_X10_takeText_231 ?_
      refine r_getC F e_X10_takeText_232 fl_X10_43 h10153 ((fld_eq (g10154 _ (by omega))).trans ((fld_eq (g10144 _ (by omega))).trans f10137)) ?_
      refine m_iload_n F rfl e_X10_takeText_235 ?_
      refine m_aload_n F rfl e_X10_takeText_236 ?_
      refine r_getC F e_X10_takeText_237 fl_X10_43 h10153 ((fld_eq (g10154 _ (by omega))).trans ((fld_eq (g10144 _ (by omega))).trans f10137)) ?_
      refine m_bipush F (v := 8) (by decide) e_X10_takeText_240 ?_
      refine m_iload_n F rfl e_X10_takeText_242 ?_
      refine m_iadd F e_X10_takeText_243 ?_
      refine Wm.topE (w := 9) (by decide) ?_
      refine r_iald F (len := 16) (j := 9) e_X10_takeText_244 h10153 (fun _ h => h) (by decide) (by decide) (by unfold vp_in; decide) (fun x10157 h10158 f10159 => ?_)
      obtain ⟨n10160, hn10160, rfl, pn10160, rn10160⟩ := h10158
      refine r_iast F (g' := (⟨T, Z, u, h, (mkP P10147.n0 P10147.n2 P10147.n5 P10147.n7 P10147.m0 P10147.m5 (min 2 P10147.w7) P10147.w7 P10147.kk P10147.a P10147.f P10147.p), L⟩ : RG)) (len := 16) (j := 1) e_X10_takeText_245 h10153 (fun _ h => h) (fun f h => ⟨f, rfl, h⟩) (by decide) (by decide) (by decide) (by unfold vp_in; decide) ⟨n10160, by omega, rfl, fun _ h8 => rn10160 (by omega) (show 9 < 8 + P10147.w7 by have h6 : 1 < min 2 P10147.w7 := h8; omega), fun h7 _ => absurd h7 (by omega)⟩ (fun i hi y hy => by obtain ⟨n9, a9, b9, c9, d9⟩ := hy; exact ⟨n9, a9, b9, fun h7 h8 => c9 h7 (show i < P10147.w2 by have h6 : i < min 2 P10147.w7 := h8; omega), d9⟩) (CR.chg (by intro k hk i x h; unfold EI at h ⊢; split at h <;> first | exact h | exact absurd rfl hk | trivial) rfl rfl rfl rfl) (fun σ10161 h10162 g10163 f10164 g10165 => ?_)
      obtain ⟨P10166, eP10166⟩ : ∃ P9, P9 = (mkP P10147.n0 P10147.n2 P10147.n5 P10147.n7 P10147.m0 P10147.m5 (min 2 P10147.w7) P10147.w7 P10147.kk P10147.a P10147.f P10147.p) := ⟨_, rfl⟩
      rw [← eP10166] at h10162
      have fP10166 : P10166.n0 = P10147.n0 ∧ P10166.n2 = P10147.n2 ∧ P10166.n5 = P10147.n5 ∧ P10166.n7 = P10147.n7 ∧ P10166.m0 = P10147.m0 ∧ P10166.m5 = P10147.m5 ∧ P10166.w2 = min 2 P10147.w7 ∧ P10166.w7 = P10147.w7 ∧ P10166.kk = P10147.kk ∧ P10166.a = P10147.a ∧ P10166.f = P10147.f ∧ P10166.p = P10147.p := by rw [eP10166]; exact ⟨rfl, rfl, rfl, rfl, rfl, rfl, rfl, rfl, rfl, rfl, rfl, rfl⟩
      refine m_iinc F (v := 2) (lv' := [(1, .int 2), (0, .ref c)]) e_X10_takeText_246 rfl (by decide) (by decide) rfl ?_
      refine m_goto F e_X10_takeText_249 ?_
      refine m_iload_n F rfl e_X10_takeText_210 ?_
      refine m_bipush F (v := 8) (by decide) e_X10_takeText_211 ?_
      refine m_icmp_ge F e_X10_takeText_213 (fun q => absurd q (by decide)) (fun _ => ?_)
      refine m_aload_n F rfl e_X10_takeText_216 ?_
      refine r_getC F e_X10_takeText_217 fl_X10_40 h10162 ((fld_eq (g10163 _ (by omega))).trans ((fld_eq (g10154 _ (by omega))).trans ((fld_eq (g10144 _ (by omega))).trans ((fld_eq (g10134 _ (by omega))).trans f10127)))) ?_
      refine m_iload_n F rfl e_X10_takeText_220 ?_
      refine m_aload_n F rfl e_X10_takeText_221 ?_
      refine r_getC F e_X10_takeText_222 fl_X10_40 h10162 ((fld_eq (g10163 _ (by omega))).trans ((fld_eq (g10154 _ (by omega))).trans ((fld_eq (g10144 _ (by omega))).trans ((fld_eq (g10134 _ (by omega))).trans f10127)))) ?_
      refine m_bipush F (v := 8) (by decide) e_X10_takeText_225 ?_
      refine m_iload_n F rfl e_X10_takeText_227 ?_
      refine m_iadd F e_X10_takeText_228 ?_
      refine Wm.topE (w := 10) (by decide) ?_
      refine r_iald F (len := 16) (j := 10) e_X10_takeText_229 h10162 (fun _ h => h) (by decide) (by decide) (by unfold vp_in; decide) (fun x10167 h10168 f10169 => ?_)
      obtain ⟨n10170, hn10170, rfl⟩ := h10168
      refine r_iast F (g' := (⟨T, Z, u, h, P10166, L⟩ : RG)) (len := 16) (j := 2) e_X10_takeText_230 h10162 (fun _ h => h) (fun f h => ⟨f, rfl, h⟩) (by decide) (by decide) (by decide) (by unfold vp_in; decide) ⟨n10170, by omega, rfl⟩ (fun _ _ _ h => h) (fun _ _ _ h => h) (fun σ10171 h10172 g10173 f10174 g10175 => ?_)
      refine m_aload_n F rfl e_X10_takeText_231 ?_
      refine r_getC F e_X10_takeText_232 fl_X10_43 h10172 ((fld_eq (g10173 _ (by omega))).trans ((fld_eq (g10163 _ (by omega))).trans ((fld_eq (g10154 _ (by omega))).trans ((fld_eq (g10144 _ (by omega))).trans f10137)))) ?_
      refine m_iload_n F rfl e_X10_takeText_235 ?_
      refine m_aload_n F rfl e_X10_takeText_236 ?_
      refine r_getC F e_X10_takeText_237 fl_X10_43 h10172 ((fld_eq (g10173 _ (by omega))).trans ((fld_eq (g10163 _ (by omega))).trans ((fld_eq (g10154 _ (by omega))).trans ((fld_eq (g10144 _ (by omega))).trans f10137)))) ?_
      refine m_bipush F (v := 8) (by decide) e_X10_takeText_240 ?_
      refine m_iload_n F rfl e_X10_takeText_242 ?_
      refine m_iadd F e_X10_takeText_243 ?_
      refine Wm.topE (w := 10) (by decide) ?_
      refine r_iald F (len := 16) (j := 10) e_X10_takeText_244 h10172 (fun _ h => h) (by decide) (by decide) (by unfold vp_in; decide) (fun x10176 h10177 f10178 => ?_)
      obtain ⟨n10179, hn10179, rfl, pn10179, rn10179⟩ := h10177
      refine r_iast F (g' := (⟨T, Z, u, h, (mkP P10166.n0 P10166.n2 P10166.n5 P10166.n7 P10166.m0 P10166.m5 (min 3 P10166.w7) P10166.w7 P10166.kk P10166.a P10166.f P10166.p), L⟩ : RG)) (len := 16) (j := 2) e_X10_takeText_245 h10172 (fun _ h => h) (fun f h => ⟨f, rfl, h⟩) (by decide) (by decide) (by decide) (by unfold vp_in; decide) ⟨n10179, by omega, rfl, fun _ h8 => rn10179 (by omega) (show 10 < 8 + P10166.w7 by have h6 : 2 < min 3 P10166.w7 := h8; omega), fun h7 _ => absurd h7 (by omega)⟩ (fun i hi y hy => by obtain ⟨n9, a9, b9, c9, d9⟩ := hy; exact ⟨n9, a9, b9, fun h7 h8 => c9 h7 (show i < P10166.w2 by have h6 : i < min 3 P10166.w7 := h8; omega), d9⟩) (CR.chg (by intro k hk i x h; unfold EI at h ⊢; split at h <;> first | exact h | exact absurd rfl hk | trivial) rfl rfl rfl rfl) (fun σ10180 h10181 g10182 f10183 g10184 => ?_)
      obtain ⟨P10185, eP10185⟩ : ∃ P9, P9 = (mkP P10166.n0 P10166.n2 P10166.n5 P10166.n7 P10166.m0 P10166.m5 (min 3 P10166.w7) P10166.w7 P10166.kk P10166.a P10166.f P10166.p) := ⟨_, rfl⟩
      rw [← eP10185] at h10181
      have fP10185 : P10185.n0 = P10166.n0 ∧ P10185.n2 = P10166.n2 ∧ P10185.n5 = P10166.n5 ∧ P10185.n7 = P10166.n7 ∧ P10185.m0 = P10166.m0 ∧ P10185.m5 = P10166.m5 ∧ P10185.w2 = min 3 P10166.w7 ∧ P10185.w7 = P10166.w7 ∧ P10185.kk = P10166.kk ∧ P10185.a = P10166.a ∧ P10185.f = P10166.f ∧ P10185.p = P10166.p := by rw [eP10185]; exact ⟨rfl, rfl, rfl, rfl, rfl, rfl, rfl, rfl, rfl, rfl, rfl, rfl⟩
      refine m_iinc F (v := 3) (lv' := [(1, .int 3), (0, .ref c)]) e_X10_takeText_246 rfl (by decide) (by decide) rfl ?_
      refine m_goto F e_X10_takeText_249 ?_
      refine m_iload_n F rfl e_X10_takeText_210 ?_
      refine m_bipush F (v := 8) (by decide) e_X10_takeText_211 ?_
      refine m_icmp_ge F e_X10_takeText_213 (fun q => absurd q (by decide)) (fun _ => ?_)
      refine m_aload_n F rfl e_X10_takeText_216 ?_
      refine r_getC F e_X10_takeText_217 fl_X10_40 h10181 ((fld_eq (g10182 _ (by omega))).trans ((fld_eq (g10173 _ (by omega))).trans ((fld_eq (g10163 _ (by omega))).trans ((fld_eq (g10154 _ (by omega))).trans ((fld_eq (g10144 _ (by omega))).trans ((fld_eq (g10134 _ (by omega))).trans f10127)))))) ?_
      refine m_iload_n F rfl e_X10_takeText_220 ?_
      refine m_aload_n F rfl e_X10_takeText_221 ?_
      refine r_getC F e_X10_takeText_222 fl_X10_40 h10181 ((fld_eq (g10182 _ (by omega))).trans ((fld_eq (g10173 _ (by omega))).trans ((fld_eq (g10163 _ (by omega))).trans ((fld_eq (g10154 _ (by omega))).trans ((fld_eq (g10144 _ (by omega))).trans ((fld_eq (g10134 _ (by omega))).trans f10127)))))) ?_
      refine m_bipush F (v := 8) (by decide) e_X10_takeText_225 ?_
      refine m_iload_n F rfl e_X10_takeText_227 ?_
      refine m_iadd F e_X10_takeText_228 ?_
      refine Wm.topE (w := 11) (by decide) ?_
      refine r_iald F (len := 16) (j := 11) e_X10_takeText_229 h10181 (fun _ h => h) (by decide) (by decide) (by unfold vp_in; decide) (fun x10186 h10187 f10188 => ?_)
      obtain ⟨n10189, hn10189, rfl⟩ := h10187
      refine r_iast F (g' := (⟨T, Z, u, h, P10185, L⟩ : RG)) (len := 16) (j := 3) e_X10_takeText_230 h10181 (fun _ h => h) (fun f h => ⟨f, rfl, h⟩) (by decide) (by decide) (by decide) (by unfold vp_in; decide) ⟨n10189, by omega, rfl⟩ (fun _ _ _ h => h) (fun _ _ _ h => h) (fun σ10190 h10191 g10192 f10193 g10194 => ?_)
      refine m_aload_n F rfl e_X10_takeText_231 ?_
      refine r_getC F e_X10_takeText_232 fl_X10_43 h10191 ((fld_eq (g10192 _ (by omega))).trans ((fld_eq (g10182 _ (by omega))).trans ((fld_eq (g10173 _ (by omega))).trans ((fld_eq (g10163 _ (by omega))).trans ((fld_eq (g10154 _ (by omega))).trans ((fld_eq (g10144 _ (by omega))).trans f10137)))))) ?_
      refine m_iload_n F rfl e_X10_takeText_235 ?_
      refine m_aload_n F rfl e_X10_takeText_236 ?_
      refine r_getC F e_X10_takeText_237 fl_X10_43 h10191 ((fld_eq (g10192 _ (by omega))).trans ((fld_eq (g10182 _ (by omega))).trans ((fld_eq (g10173 _ (by omega))).trans ((fld_eq (g10163 _ (by omega))).trans ((fld_eq (g10154 _ (by omega))).trans ((fld_eq (g10144 _ (by omega))).trans f10137)))))) ?_
      refine m_bipush F (v := 8) (by decide) e_X10_takeText_240 ?_
      refine m_iload_n F rfl e_X10_takeText_242 ?_
      refine m_iadd F e_X10_takeText_243 ?_
      refine Wm.topE (w := 11) (by decide) ?_
      refine r_iald F (len := 16) (j := 11) e_X10_takeText_244 h10191 (fun _ h => h) (by decide) (by decide) (by unfold vp_in; decide) (fun x10195 h10196 f10197 => ?_)
      obtain ⟨n10198, hn10198, rfl, pn10198, rn10198⟩ := h10196
      refine r_iast F (g' := (⟨T, Z, u, h, (mkP P10185.n0 P10185.n2 P10185.n5 P10185.n7 P10185.m0 P10185.m5 (min 4 P10185.w7) P10185.w7 P10185.kk P10185.a P10185.f P10185.p), L⟩ : RG)) (len := 16) (j := 3) e_X10_takeText_245 h10191 (fun _ h => h) (fun f h => ⟨f, rfl, h⟩) (by decide) (by decide) (by decide) (by unfold vp_in; decide) ⟨n10198, by omega, rfl, fun _ h8 => rn10198 (by omega) (show 11 < 8 + P10185.w7 by have h6 : 3 < min 4 P10185.w7 := h8; omega), fun h7 _ => absurd h7 (by omega)⟩ (fun i hi y hy => by obtain ⟨n9, a9, b9, c9, d9⟩ := hy; exact ⟨n9, a9, b9, fun h7 h8 => c9 h7 (show i < P10185.w2 by have h6 : i < min 4 P10185.w7 := h8; omega), d9⟩) (CR.chg (by intro k hk i x h; unfold EI at h ⊢; split at h <;> first | exact h | exact absurd rfl hk | trivial) rfl rfl rfl rfl) (fun σ10199 h10200 g10201 f10202 g10203 => ?_)
      obtain ⟨P10204, eP10204⟩ : ∃ P9, P9 = (mkP P10185.n0 P10185.n2 P10185.n5 P10185.n7 P10185.m0 P10185.m5 (min 4 P10185.w7) P10185.w7 P10185.kk P10185.a P10185.f P10185.p) := ⟨_, rfl⟩
      rw [← eP10204] at h10200
      have fP10204 : P10204.n0 = P10185.n0 ∧ P10204.n2 = P10185.n2 ∧ P10204.n5 = P10185.n5 ∧ P10204.n7 = P10185.n7 ∧ P10204.m0 = P10185.m0 ∧ P10204.m5 = P10185.m5 ∧ P10204.w2 = min 4 P10185.w7 ∧ P10204.w7 = P10185.w7 ∧ P10204.kk = P10185.kk ∧ P10204.a = P10185.a ∧ P10204.f = P10185.f ∧ P10204.p = P10185.p := by rw [eP10204]; exact ⟨rfl, rfl, rfl, rfl, rfl, rfl, rfl, rfl, rfl, rfl, rfl, rfl⟩
      refine m_iinc F (v := 4) (lv' := [(1, .int 4), (0, .ref c)]) e_X10_takeText_246 rfl (by decide) (by decide) rfl ?_
      refine m_goto F e_X10_takeText_249 ?_
      refine m_iload_n F rfl e_X10_takeText_210 ?_
      refine m_bipush F (v := 8) (by decide) e_X10_takeText_211 ?_
      refine m_icmp_ge F e_X10_takeText_213 (fun q => absurd q (by decide)) (fun _ => ?_)
      refine m_aload_n F rfl e_X10_takeText_216 ?_
      refine r_getC F e_X10_takeText_217 fl_X10_40 h10200 ((fld_eq (g10201 _ (by omega))).trans ((fld_eq (g10192 _ (by omega))).trans ((fld_eq (g10182 _ (by omega))).trans ((fld_eq (g10173 _ (by omega))).trans ((fld_eq (g10163 _ (by omega))).trans ((fld_eq (g10154 _ (by omega))).trans ((fld_eq (g10144 _ (by omega))).trans ((fld_eq (g10134 _ (by omega))).trans f10127)))))))) ?_
      refine m_iload_n F rfl e_X10_takeText_220 ?_
      refine m_aload_n F rfl e_X10_takeText_221 ?_
      refine r_getC F e_X10_takeText_222 fl_X10_40 h10200 ((fld_eq (g10201 _ (by omega))).trans ((fld_eq (g10192 _ (by omega))).trans ((fld_eq (g10182 _ (by omega))).trans ((fld_eq (g10173 _ (by omega))).trans ((fld_eq (g10163 _ (by omega))).trans ((fld_eq (g10154 _ (by omega))).trans ((fld_eq (g10144 _ (by omega))).trans ((fld_eq (g10134 _ (by omega))).trans f10127)))))))) ?_
      refine m_bipush F (v := 8) (by decide) e_X10_takeText_225 ?_
      refine m_iload_n F rfl e_X10_takeText_227 ?_
      refine m_iadd F e_X10_takeText_228 ?_
      refine Wm.topE (w := 12) (by decide) ?_
      refine r_iald F (len := 16) (j := 12) e_X10_takeText_229 h10200 (fun _ h => h) (by decide) (by decide) (by unfold vp_in; decide) (fun x10205 h10206 f10207 => ?_)
      obtain ⟨n10208, hn10208, rfl⟩ := h10206
      refine r_iast F (g' := (⟨T, Z, u, h, P10204, L⟩ : RG)) (len := 16) (j := 4) e_X10_takeText_230 h10200 (fun _ h => h) (fun f h => ⟨f, rfl, h⟩) (by decide) (by decide) (by decide) (by unfold vp_in; decide) ⟨n10208, by omega, rfl⟩ (fun _ _ _ h => h) (fun _ _ _ h => h) (fun σ10209 h10210 g10211 f10212 g10213 => ?_)
      refine m_aload_n F rfl e_X10_takeText_231 ?_
      refine r_getC F e_X10_takeText_232 fl_X10_43 h10210 ((fld_eq (g10211 _ (by omega))).trans ((fld_eq (g10201 _ (by omega))).trans ((fld_eq (g10192 _ (by omega))).trans ((fld_eq (g10182 _ (by omega))).trans ((fld_eq (g10173 _ (by omega))).trans ((fld_eq (g10163 _ (by omega))).trans ((fld_eq (g10154 _ (by omega))).trans ((fld_eq (g10144 _ (by omega))).trans f10137)))))))) ?_
      refine m_iload_n F rfl e_X10_takeText_235 ?_
      refine m_aload_n F rfl e_X10_takeText_236 ?_
      refine r_getC F e_X10_takeText_237 fl_X10_43 h10210 ((fld_eq (g10211 _ (by omega))).trans ((fld_eq (g10201 _ (by omega))).trans ((fld_eq (g10192 _ (by omega))).trans ((fld_eq (g10182 _ (by omega))).trans ((fld_eq (g10173 _ (by omega))).trans ((fld_eq (g10163 _ (by omega))).trans ((fld_eq (g10154 _ (by omega))).trans ((fld_eq (g10144 _ (by omega))).trans f10137)))))))) ?_
      refine m_bipush F (v := 8) (by decide) e_X10_takeText_240 ?_
      refine m_iload_n F rfl e_X10_takeText_242 ?_
      refine m_iadd F e_X10_takeText_243 ?_
      refine Wm.topE (w := 12) (by decide) ?_
      refine r_iald F (len := 16) (j := 12) e_X10_takeText_244 h10210 (fun _ h => h) (by decide) (by decide) (by unfold vp_in; decide) (fun x10214 h10215 f10216 => ?_)
      obtain ⟨n10217, hn10217, rfl, pn10217, rn10217⟩ := h10215
      refine r_iast F (g' := (⟨T, Z, u, h, (mkP P10204.n0 P10204.n2 P10204.n5 P10204.n7 P10204.m0 P10204.m5 (min 5 P10204.w7) P10204.w7 P10204.kk P10204.a P10204.f P10204.p), L⟩ : RG)) (len := 16) (j := 4) e_X10_takeText_245 h10210 (fun _ h => h) (fun f h => ⟨f, rfl, h⟩) (by decide) (by decide) (by decide) (by unfold vp_in; decide) ⟨n10217, by omega, rfl, fun _ h8 => rn10217 (by omega) (show 12 < 8 + P10204.w7 by have h6 : 4 < min 5 P10204.w7 := h8; omega), fun h7 _ => absurd h7 (by omega)⟩ (fun i hi y hy => by obtain ⟨n9, a9, b9, c9, d9⟩ := hy; exact ⟨n9, a9, b9, fun h7 h8 => c9 h7 (show i < P10204.w2 by have h6 : i < min 5 P10204.w7 := h8; omega), d9⟩) (CR.chg (by intro k hk i x h; unfold EI at h ⊢; split at h <;> first | exact h | exact absurd rfl hk | trivial) rfl rfl rfl rfl) (fun σ10218 h10219 g10220 f10221 g10222 => ?_)
      obtain ⟨P10223, eP10223⟩ : ∃ P9, P9 = (mkP P10204.n0 P10204.n2 P10204.n5 P10204.n7 P10204.m0 P10204.m5 (min 5 P10204.w7) P10204.w7 P10204.kk P10204.a P10204.f P10204.p) := ⟨_, rfl⟩
      rw [← eP10223] at h10219
      have fP10223 : P10223.n0 = P10204.n0 ∧ P10223.n2 = P10204.n2 ∧ P10223.n5 = P10204.n5 ∧ P10223.n7 = P10204.n7 ∧ P10223.m0 = P10204.m0 ∧ P10223.m5 = P10204.m5 ∧ P10223.w2 = min 5 P10204.w7 ∧ P10223.w7 = P10204.w7 ∧ P10223.kk = P10204.kk ∧ P10223.a = P10204.a ∧ P10223.f = P10204.f ∧ P10223.p = P10204.p := by rw [eP10223]; exact ⟨rfl, rfl, rfl, rfl, rfl, rfl, rfl, rfl, rfl, rfl, rfl, rfl⟩
      refine m_iinc F (v := 5) (lv' := [(1, .int 5), (0, .ref c)]) e_X10_takeText_246 rfl (by decide) (by decide) rfl ?_
      refine m_goto F e_X10_takeText_249 ?_
      refine m_iload_n F rfl e_X10_takeText_210 ?_
      refine m_bipush F (v := 8) (by decide) e_X10_takeText_211 ?_
      refine m_icmp_ge F e_X10_takeText_213 (fun q => absurd q (by decide)) (fun _ => ?_)
      refine m_aload_n F rfl e_X10_takeText_216 ?_
      refine r_getC F e_X10_takeText_217 fl_X10_40 h10219 ((fld_eq (g10220 _ (by omega))).trans ((fld_eq (g10211 _ (by omega))).trans ((fld_eq (g10201 _ (by omega))).trans ((fld_eq (g10192 _ (by omega))).trans ((fld_eq (g10182 _ (by omega))).trans ((fld_eq (g10173 _ (by omega))).trans ((fld_eq (g10163 _ (by omega))).trans ((fld_eq (g10154 _ (by omega))).trans ((fld_eq (g10144 _ (by omega))).trans ((fld_eq (g10134 _ (by omega))).trans f10127)))))))))) ?_
      refine m_iload_n F rfl e_X10_takeText_220 ?_
      refine m_aload_n F rfl e_X10_takeText_221 ?_
      refine r_getC F e_X10_takeText_222 fl_X10_40 h10219 ((fld_eq (g10220 _ (by omega))).trans ((fld_eq (g10211 _ (by omega))).trans ((fld_eq (g10201 _ (by omega))).trans ((fld_eq (g10192 _ (by omega))).trans ((fld_eq (g10182 _ (by omega))).trans ((fld_eq (g10173 _ (by omega))).trans ((fld_eq (g10163 _ (by omega))).trans ((fld_eq (g10154 _ (by omega))).trans ((fld_eq (g10144 _ (by omega))).trans ((fld_eq (g10134 _ (by omega))).trans f10127)))))))))) ?_
      refine m_bipush F (v := 8) (by decide) e_X10_takeText_225 ?_
      refine m_iload_n F rfl e_X10_takeText_227 ?_
      refine m_iadd F e_X10_takeText_228 ?_
      refine Wm.topE (w := 13) (by decide) ?_
      refine r_iald F (len := 16) (j := 13) e_X10_takeText_229 h10219 (fun _ h => h) (by decide) (by decide) (by unfold vp_in; decide) (fun x10224 h10225 f10226 => ?_)
      obtain ⟨n10227, hn10227, rfl⟩ := h10225
      refine r_iast F (g' := (⟨T, Z, u, h, P10223, L⟩ : RG)) (len := 16) (j := 5) e_X10_takeText_230 h10219 (fun _ h => h) (fun f h => ⟨f, rfl, h⟩) (by decide) (by decide) (by decide) (by unfold vp_in; decide) ⟨n10227, by omega, rfl⟩ (fun _ _ _ h => h) (fun _ _ _ h => h) (fun σ10228 h10229 g10230 f10231 g10232 => ?_)
      refine m_aload_n F rfl e_X10_takeText_231 ?_
      refine r_getC F e_X10_takeText_232 fl_X10_43 h10229 ((fld_eq (g10230 _ (by omega))).trans ((fld_eq (g10220 _ (by omega))).trans ((fld_eq (g10211 _ (by omega))).trans ((fld_eq (g10201 _ (by omega))).trans ((fld_eq (g10192 _ (by omega))).trans ((fld_eq (g10182 _ (by omega))).trans ((fld_eq (g10173 _ (by omega))).trans ((fld_eq (g10163 _ (by omega))).trans ((fld_eq (g10154 _ (by omega))).trans ((fld_eq (g10144 _ (by omega))).trans f10137)))))))))) ?_
      refine m_iload_n F rfl e_X10_takeText_235 ?_
      refine m_aload_n F rfl e_X10_takeText_236 ?_
      refine r_getC F e_X10_takeText_237 fl_X10_43 h10229 ((fld_eq (g10230 _ (by omega))).trans ((fld_eq (g10220 _ (by omega))).trans ((fld_eq (g10211 _ (by omega))).trans ((fld_eq (g10201 _ (by omega))).trans ((fld_eq (g10192 _ (by omega))).trans ((fld_eq (g10182 _ (by omega))).trans ((fld_eq (g10173 _ (by omega))).trans ((fld_eq (g10163 _ (by omega))).trans ((fld_eq (g10154 _ (by omega))).trans ((fld_eq (g10144 _ (by omega))).trans f10137)))))))))) ?_
      refine m_bipush F (v := 8) (by decide) e_X10_takeText_240 ?_
      refine m_iload_n F rfl e_X10_takeText_242 ?_
      refine m_iadd F e_X10_takeText_243 ?_
      refine Wm.topE (w := 13) (by decide) ?_
      refine r_iald F (len := 16) (j := 13) e_X10_takeText_244 h10229 (fun _ h => h) (by decide) (by decide) (by unfold vp_in; decide) (fun x10233 h10234 f10235 => ?_)
      obtain ⟨n10236, hn10236, rfl, pn10236, rn10236⟩ := h10234
      refine r_iast F (g' := (⟨T, Z, u, h, (mkP P10223.n0 P10223.n2 P10223.n5 P10223.n7 P10223.m0 P10223.m5 (min 6 P10223.w7) P10223.w7 P10223.kk P10223.a P10223.f P10223.p), L⟩ : RG)) (len := 16) (j := 5) e_X10_takeText_245 h10229 (fun _ h => h) (fun f h => ⟨f, rfl, h⟩) (by decide) (by decide) (by decide) (by unfold vp_in; decide) ⟨n10236, by omega, rfl, fun _ h8 => rn10236 (by omega) (show 13 < 8 + P10223.w7 by have h6 : 5 < min 6 P10223.w7 := h8; omega), fun h7 _ => absurd h7 (by omega)⟩ (fun i hi y hy => by obtain ⟨n9, a9, b9, c9, d9⟩ := hy; exact ⟨n9, a9, b9, fun h7 h8 => c9 h7 (show i < P10223.w2 by have h6 : i < min 6 P10223.w7 := h8; omega), d9⟩) (CR.chg (by intro k hk i x h; unfold EI at h ⊢; split at h <;> first | exact h | exact absurd rfl hk | trivial) rfl rfl rfl rfl) (fun σ10237 h10238 g10239 f10240 g10241 => ?_)
      obtain ⟨P10242, eP10242⟩ : ∃ P9, P9 = (mkP P10223.n0 P10223.n2 P10223.n5 P10223.n7 P10223.m0 P10223.m5 (min 6 P10223.w7) P10223.w7 P10223.kk P10223.a P10223.f P10223.p) := ⟨_, rfl⟩
      rw [← eP10242] at h10238
      have fP10242 : P10242.n0 = P10223.n0 ∧ P10242.n2 = P10223.n2 ∧ P10242.n5 = P10223.n5 ∧ P10242.n7 = P10223.n7 ∧ P10242.m0 = P10223.m0 ∧ P10242.m5 = P10223.m5 ∧ P10242.w2 = min 6 P10223.w7 ∧ P10242.w7 = P10223.w7 ∧ P10242.kk = P10223.kk ∧ P10242.a = P10223.a ∧ P10242.f = P10223.f ∧ P10242.p = P10223.p := by rw [eP10242]; exact ⟨rfl, rfl, rfl, rfl, rfl, rfl, rfl, rfl, rfl, rfl, rfl, rfl⟩
      refine m_iinc F (v := 6) (lv' := [(1, .int 6), (0, .ref c)]) e_X10_takeText_246 rfl (by decide) (by decide) rfl ?_
      refine m_goto F e_X10_takeText_249 ?_
      refine m_iload_n F rfl e_X10_takeText_210 ?_
      refine m_bipush F (v := 8) (by decide) e_X10_takeText_211 ?_
      refine m_icmp_ge F e_X10_takeText_213 (fun q => absurd q (by decide)) (fun _ => ?_)
      refine m_aload_n F rfl e_X10_takeText_216 ?_
      refine r_getC F e_X10_takeText_217 fl_X10_40 h10238 ((fld_eq (g10239 _ (by omega))).trans ((fld_eq (g10230 _ (by omega))).trans ((fld_eq (g10220 _ (by omega))).trans ((fld_eq (g10211 _ (by omega))).trans ((fld_eq (g10201 _ (by omega))).trans ((fld_eq (g10192 _ (by omega))).trans ((fld_eq (g10182 _ (by omega))).trans ((fld_eq (g10173 _ (by omega))).trans ((fld_eq (g10163 _ (by omega))).trans ((fld_eq (g10154 _ (by omega))).trans ((fld_eq (g10144 _ (by omega))).trans ((fld_eq (g10134 _ (by omega))).trans f10127)))))))))))) ?_
      refine m_iload_n F rfl e_X10_takeText_220 ?_
      refine m_aload_n F rfl e_X10_takeText_221 ?_
      refine r_getC F e_X10_takeText_222 fl_X10_40 h10238 ((fld_eq (g10239 _ (by omega))).trans ((fld_eq (g10230 _ (by omega))).trans ((fld_eq (g10220 _ (by omega))).trans ((fld_eq (g10211 _ (by omega))).trans ((fld_eq (g10201 _ (by omega))).trans ((fld_eq (g10192 _ (by omega))).trans ((fld_eq (g10182 _ (by omega))).trans ((fld_eq (g10173 _ (by omega))).trans ((fld_eq (g10163 _ (by omega))).trans ((fld_eq (g10154 _ (by omega))).trans ((fld_eq (g10144 _ (by omega))).trans ((fld_eq (g10134 _ (by omega))).trans f10127)))))))))))) ?_
      refine m_bipush F (v := 8) (by decide) e_X10_takeText_225 ?_
      refine m_iload_n F rfl e_X10_takeText_227 ?_
      refine m_iadd F e_X10_takeText_228 ?_
      refine Wm.topE (w := 14) (by decide) ?_
      refine r_iald F (len := 16) (j := 14) e_X10_takeText_229 h10238 (fun _ h => h) (by decide) (by decide) (by unfold vp_in; decide) (fun x10243 h10244 f10245 => ?_)
      obtain ⟨n10246, hn10246, rfl⟩ := h10244
      refine r_iast F (g' := (⟨T, Z, u, h, P10242, L⟩ : RG)) (len := 16) (j := 6) e_X10_takeText_230 h10238 (fun _ h => h) (fun f h => ⟨f, rfl, h⟩) (by decide) (by decide) (by decide) (by unfold vp_in; decide) ⟨n10246, by omega, rfl⟩ (fun _ _ _ h => h) (fun _ _ _ h => h) (fun σ10247 h10248 g10249 f10250 g10251 => ?_)
      refine m_aload_n F rfl e_X10_takeText_231 ?_
      refine r_getC F e_X10_takeText_232 fl_X10_43 h10248 ((fld_eq (g10249 _ (by omega))).trans ((fld_eq (g10239 _ (by omega))).trans ((fld_eq (g10230 _ (by omega))).trans ((fld_eq (g10220 _ (by omega))).trans ((fld_eq (g10211 _ (by omega))).trans ((fld_eq (g10201 _ (by omega))).trans ((fld_eq (g10192 _ (by omega))).trans ((fld_eq (g10182 _ (by omega))).trans ((fld_eq (g10173 _ (by omega))).trans ((fld_eq (g10163 _ (by omega))).trans ((fld_eq (g10154 _ (by omega))).trans ((fld_eq (g10144 _ (by omega))).trans f10137)))))))))))) ?_
      refine m_iload_n F rfl e_X10_takeText_235 ?_
      refine m_aload_n F rfl e_X10_takeText_236 ?_
      refine r_getC F e_X10_takeText_237 fl_X10_43 h10248 ((fld_eq (g10249 _ (by omega))).trans ((fld_eq (g10239 _ (by omega))).trans ((fld_eq (g10230 _ (by omega))).trans ((fld_eq (g10220 _ (by omega))).trans ((fld_eq (g10211 _ (by omega))).trans ((fld_eq (g10201 _ (by omega))).trans ((fld_eq (g10192 _ (by omega))).trans ((fld_eq (g10182 _ (by omega))).trans ((fld_eq (g10173 _ (by omega))).trans ((fld_eq (g10163 _ (by omega))).trans ((fld_eq (g10154 _ (by omega))).trans ((fld_eq (g10144 _ (by omega))).trans f10137)))))))))))) ?_
      refine m_bipush F (v := 8) (by decide) e_X10_takeText_240 ?_
      refine m_iload_n F rfl e_X10_takeText_242 ?_
      refine m_iadd F e_X10_takeText_243 ?_
      refine Wm.topE (w := 14) (by decide) ?_
      refine r_iald F (len := 16) (j := 14) e_X10_takeText_244 h10248 (fun _ h => h) (by decide) (by decide) (by unfold vp_in; decide) (fun x10252 h10253 f10254 => ?_)
      obtain ⟨n10255, hn10255, rfl, pn10255, rn10255⟩ := h10253
      refine r_iast F (g' := (⟨T, Z, u, h, (mkP P10242.n0 P10242.n2 P10242.n5 P10242.n7 P10242.m0 P10242.m5 (min 7 P10242.w7) P10242.w7 P10242.kk P10242.a P10242.f P10242.p), L⟩ : RG)) (len := 16) (j := 6) e_X10_takeText_245 h10248 (fun _ h => h) (fun f h => ⟨f, rfl, h⟩) (by decide) (by decide) (by decide) (by unfold vp_in; decide) ⟨n10255, by omega, rfl, fun _ h8 => rn10255 (by omega) (show 14 < 8 + P10242.w7 by have h6 : 6 < min 7 P10242.w7 := h8; omega), fun h7 _ => absurd h7 (by omega)⟩ (fun i hi y hy => by obtain ⟨n9, a9, b9, c9, d9⟩ := hy; exact ⟨n9, a9, b9, fun h7 h8 => c9 h7 (show i < P10242.w2 by have h6 : i < min 7 P10242.w7 := h8; omega), d9⟩) (CR.chg (by intro k hk i x h; unfold EI at h ⊢; split at h <;> first | exact h | exact absurd rfl hk | trivial) rfl rfl rfl rfl) (fun σ10256 h10257 g10258 f10259 g10260 => ?_)
      obtain ⟨P10261, eP10261⟩ : ∃ P9, P9 = (mkP P10242.n0 P10242.n2 P10242.n5 P10242.n7 P10242.m0 P10242.m5 (min 7 P10242.w7) P10242.w7 P10242.kk P10242.a P10242.f P10242.p) := ⟨_, rfl⟩
      rw [← eP10261] at h10257
      have fP10261 : P10261.n0 = P10242.n0 ∧ P10261.n2 = P10242.n2 ∧ P10261.n5 = P10242.n5 ∧ P10261.n7 = P10242.n7 ∧ P10261.m0 = P10242.m0 ∧ P10261.m5 = P10242.m5 ∧ P10261.w2 = min 7 P10242.w7 ∧ P10261.w7 = P10242.w7 ∧ P10261.kk = P10242.kk ∧ P10261.a = P10242.a ∧ P10261.f = P10242.f ∧ P10261.p = P10242.p := by rw [eP10261]; exact ⟨rfl, rfl, rfl, rfl, rfl, rfl, rfl, rfl, rfl, rfl, rfl, rfl⟩
      refine m_iinc F (v := 7) (lv' := [(1, .int 7), (0, .ref c)]) e_X10_takeText_246 rfl (by decide) (by decide) rfl ?_
      refine m_goto F e_X10_takeText_249 ?_
      refine m_iload_n F rfl e_X10_takeText_210 ?_
      refine m_bipush F (v := 8) (by decide) e_X10_takeText_211 ?_
      refine m_icmp_ge F e_X10_takeText_213 (fun q => absurd q (by decide)) (fun _ => ?_)
      refine m_aload_n F rfl e_X10_takeText_216 ?_
      refine r_getC F e_X10_takeText_217 fl_X10_40 h10257 ((fld_eq (g10258 _ (by omega))).trans ((fld_eq (g10249 _ (by omega))).trans ((fld_eq (g10239 _ (by omega))).trans ((fld_eq (g10230 _ (by omega))).trans ((fld_eq (g10220 _ (by omega))).trans ((fld_eq (g10211 _ (by omega))).trans ((fld_eq (g10201 _ (by omega))).trans ((fld_eq (g10192 _ (by omega))).trans ((fld_eq (g10182 _ (by omega))).trans ((fld_eq (g10173 _ (by omega))).trans ((fld_eq (g10163 _ (by omega))).trans ((fld_eq (g10154 _ (by omega))).trans ((fld_eq (g10144 _ (by omega))).trans ((fld_eq (g10134 _ (by omega))).trans f10127)))))))))))))) ?_
      refine m_iload_n F rfl e_X10_takeText_220 ?_
      refine m_aload_n F rfl e_X10_takeText_221 ?_
      refine r_getC F e_X10_takeText_222 fl_X10_40 h10257 ((fld_eq (g10258 _ (by omega))).trans ((fld_eq (g10249 _ (by omega))).trans ((fld_eq (g10239 _ (by omega))).trans ((fld_eq (g10230 _ (by omega))).trans ((fld_eq (g10220 _ (by omega))).trans ((fld_eq (g10211 _ (by omega))).trans ((fld_eq (g10201 _ (by omega))).trans ((fld_eq (g10192 _ (by omega))).trans ((fld_eq (g10182 _ (by omega))).trans ((fld_eq (g10173 _ (by omega))).trans ((fld_eq (g10163 _ (by omega))).trans ((fld_eq (g10154 _ (by omega))).trans ((fld_eq (g10144 _ (by omega))).trans ((fld_eq (g10134 _ (by omega))).trans f10127)))))))))))))) ?_
      refine m_bipush F (v := 8) (by decide) e_X10_takeText_225 ?_
      refine m_iload_n F rfl e_X10_takeText_227 ?_
      refine m_iadd F e_X10_takeText_228 ?_
      refine Wm.topE (w := 15) (by decide) ?_
      refine r_iald F (len := 16) (j := 15) e_X10_takeText_229 h10257 (fun _ h => h) (by decide) (by decide) (by unfold vp_in; decide) (fun x10262 h10263 f10264 => ?_)
      obtain ⟨n10265, hn10265, rfl⟩ := h10263
      refine r_iast F (g' := (⟨T, Z, u, h, P10261, L⟩ : RG)) (len := 16) (j := 7) e_X10_takeText_230 h10257 (fun _ h => h) (fun f h => ⟨f, rfl, h⟩) (by decide) (by decide) (by decide) (by unfold vp_in; decide) ⟨n10265, by omega, rfl⟩ (fun _ _ _ h => h) (fun _ _ _ h => h) (fun σ10266 h10267 g10268 f10269 g10270 => ?_)
      refine m_aload_n F rfl e_X10_takeText_231 ?_
      refine r_getC F e_X10_takeText_232 fl_X10_43 h10267 ((fld_eq (g10268 _ (by omega))).trans ((fld_eq (g10258 _ (by omega))).trans ((fld_eq (g10249 _ (by omega))).trans ((fld_eq (g10239 _ (by omega))).trans ((fld_eq (g10230 _ (by omega))).trans ((fld_eq (g10220 _ (by omega))).trans ((fld_eq (g10211 _ (by omega))).trans ((fld_eq (g10201 _ (by omega))).trans ((fld_eq (g10192 _ (by omega))).trans ((fld_eq (g10182 _ (by omega))).trans ((fld_eq (g10173 _ (by omega))).trans ((fld_eq (g10163 _ (by omega))).trans ((fld_eq (g10154 _ (by omega))).trans ((fld_eq (g10144 _ (by omega))).trans f10137)))))))))))))) ?_
      refine m_iload_n F rfl e_X10_takeText_235 ?_
      refine m_aload_n F rfl e_X10_takeText_236 ?_
      refine r_getC F e_X10_takeText_237 fl_X10_43 h10267 ((fld_eq (g10268 _ (by omega))).trans ((fld_eq (g10258 _ (by omega))).trans ((fld_eq (g10249 _ (by omega))).trans ((fld_eq (g10239 _ (by omega))).trans ((fld_eq (g10230 _ (by omega))).trans ((fld_eq (g10220 _ (by omega))).trans ((fld_eq (g10211 _ (by omega))).trans ((fld_eq (g10201 _ (by omega))).trans ((fld_eq (g10192 _ (by omega))).trans ((fld_eq (g10182 _ (by omega))).trans ((fld_eq (g10173 _ (by omega))).trans ((fld_eq (g10163 _ (by omega))).trans ((fld_eq (g10154 _ (by omega))).trans ((fld_eq (g10144 _ (by omega))).trans f10137)))))))))))))) ?_
      refine m_bipush F (v := 8) (by decide) e_X10_takeText_240 ?_
      refine m_iload_n F rfl e_X10_takeText_242 ?_
      refine m_iadd F e_X10_takeText_243 ?_
      refine Wm.topE (w := 15) (by decide) ?_
      refine r_iald F (len := 16) (j := 15) e_X10_takeText_244 h10267 (fun _ h => h) (by decide) (by decide) (by unfold vp_in; decide) (fun x10271 h10272 f10273 => ?_)
      obtain ⟨n10274, hn10274, rfl, pn10274, rn10274⟩ := h10272
      refine r_iast F (g' := (⟨T, Z, u, h, (mkP P10261.n0 P10261.n2 P10261.n5 P10261.n7 P10261.m0 P10261.m5 (min 8 P10261.w7) P10261.w7 P10261.kk P10261.a P10261.f P10261.p), L⟩ : RG)) (len := 16) (j := 7) e_X10_takeText_245 h10267 (fun _ h => h) (fun f h => ⟨f, rfl, h⟩) (by decide) (by decide) (by decide) (by unfold vp_in; decide) ⟨n10274, by omega, rfl, fun _ h8 => rn10274 (by omega) (show 15 < 8 + P10261.w7 by have h6 : 7 < min 8 P10261.w7 := h8; omega), fun h7 _ => absurd h7 (by omega)⟩ (fun i hi y hy => by obtain ⟨n9, a9, b9, c9, d9⟩ := hy; exact ⟨n9, a9, b9, fun h7 h8 => c9 h7 (show i < P10261.w2 by have h6 : i < min 8 P10261.w7 := h8; omega), d9⟩) (CR.chg (by intro k hk i x h; unfold EI at h ⊢; split at h <;> first | exact h | exact absurd rfl hk | trivial) rfl rfl rfl rfl) (fun σ10275 h10276 g10277 f10278 g10279 => ?_)
      obtain ⟨P10280, eP10280⟩ : ∃ P9, P9 = (mkP P10261.n0 P10261.n2 P10261.n5 P10261.n7 P10261.m0 P10261.m5 (min 8 P10261.w7) P10261.w7 P10261.kk P10261.a P10261.f P10261.p) := ⟨_, rfl⟩
      rw [← eP10280] at h10276
      have fP10280 : P10280.n0 = P10261.n0 ∧ P10280.n2 = P10261.n2 ∧ P10280.n5 = P10261.n5 ∧ P10280.n7 = P10261.n7 ∧ P10280.m0 = P10261.m0 ∧ P10280.m5 = P10261.m5 ∧ P10280.w2 = min 8 P10261.w7 ∧ P10280.w7 = P10261.w7 ∧ P10280.kk = P10261.kk ∧ P10280.a = P10261.a ∧ P10280.f = P10261.f ∧ P10280.p = P10261.p := by rw [eP10280]; exact ⟨rfl, rfl, rfl, rfl, rfl, rfl, rfl, rfl, rfl, rfl, rfl, rfl⟩
      refine m_iinc F (v := 8) (lv' := [(1, .int 8), (0, .ref c)]) e_X10_takeText_246 rfl (by decide) (by decide) rfl ?_
      refine m_goto F e_X10_takeText_249 ?_
      refine m_iload_n F rfl e_X10_takeText_210 ?_
      refine m_bipush F (v := 8) (by decide) e_X10_takeText_211 ?_
      refine m_icmp_ge F e_X10_takeText_213 (fun _ => ?_) (fun q => absurd (by decide) q)
      have oP10281 : OKP P10280 := by unfold OKP; omega
      exact m_vret F hQ e_X10_takeText_252 (⟨P10280, oP10281, (by unfold RT; omega), h10276, rfl⟩)
    · have c183 : i < 192 := by have hh := mt (nI_leI (a := 192) (b := i) (by omega) (by omega)).mpr q183; omega
      refine m_aload_n F rfl e_X10_takeText_186 ?_
      refine r_get F e_X10_takeText_187 fl_X10_37 h1 rfl (fun v hv f10282 => ?_)
      obtain rfl : v = .ref (c + 10) := hv
      refine m_iload_n F rfl e_X10_takeText_190 ?_
      refine m_aload_n F rfl e_X10_takeText_191 ?_
      refine r_getC F e_X10_takeText_192 fl_X10_37 h1 (f10282) ?_
      refine m_sipush F (v := 192) (by decide) e_X10_takeText_195 ?_
      refine m_iload_n F rfl e_X10_takeText_198 ?_
      refine m_iadd F e_X10_takeText_199 ?_
      refine Wm.topE (w := nI (192 + i)) (nI_add 192 i) ?_
      refine r_iald F (len := 384) (j := 192 + i) e_X10_takeText_200 h1 (fun _ h => h) (by decide) (nI_clamp (by omega)) (vp_in_nI (by omega) (by decide)) (fun x10283 h10284 f10285 => ?_)
      refine r_iast F (g' := (⟨T, Z, u, h, P1, L⟩ : RG)) (len := 384) (j := i) e_X10_takeText_201 h1 (fun _ h => h) (fun f h => ⟨f, rfl, h⟩) (by decide) (by decide) (nI_clamp (by omega)) (vp_in_nI (by omega) (by decide)) trivial (fun _ _ _ h => h) (fun _ _ _ h => h) (fun σ10286 h10287 g10288 f10289 g10290 => ?_)
      refine m_iinc F (v := nI (i + 1)) (lv' := [(1, .int (nI (i + 1))), (0, .ref c)]) e_X10_takeText_202 rfl (nI_add i 1) (by decide) rfl ?_
      refine m_goto F e_X10_takeText_205 ?_
      refine Wm.lvsub (lv' := [(0, .ref c), (1, .int (nI (i + 1)))]) ?_ [1, 0] rfl
      exact ih (i + 1) P1 _ h10287 hP1 (by unfold RT3; omega) (by omega) (by omega)
set_option maxRecDepth 20000 in
theorem q_X10_takeText (l : Launch) (V : VX) (c T Z u h : Nat) (P : NP) (L : Nat → LQ) (N : Nat) (σ : Mem)  (h0 : HR V c ⟨T, Z, u, h, P, L⟩ σ) (hob : OKB L) (hP : OKP P)  : Ct l V yX10_takeText cX10_takeText 2 none 1 0 0 N σ [.ref c] (fun r τ => ∃ P9 : NP, OKP P9 ∧ RT P P9 ∧ HS V c (⟨T, Z, u, h, P9, L⟩ : RG) [0, 1, 2, 17, 18, 19, 20, 21, 22, 23] σ τ ∧ r = none) := by
  refine Ct.of (by decide) (Nat.le_of_ble_eq_true rfl) [(0, .ref c)] rfl (fun X hX F hQ => ?_)
  have hPP := hP
  unfold OKP at hPP
  have h1 : HS V c ⟨T, Z, u, h, P, L⟩ [0, 1, 2, 17, 18, 19, 20, 21, 22, 23] σ σ := HS.start h0
  have h2 : HS V c (⟨T, Z, u, h, (mkP P.n0 P.n2 P.n5 P.n7 0 P.m5 0 P.w7 P.kk P.a P.f P.p), L⟩ : RG) [0, 1, 2, 17, 18, 19, 20, 21, 22, 23] σ σ := HS.start (HR.forget h0)
  obtain ⟨P10291, eP10291⟩ : ∃ P9, P9 = (mkP P.n0 P.n2 P.n5 P.n7 0 P.m5 0 P.w7 P.kk P.a P.f P.p) := ⟨_, rfl⟩
  rw [← eP10291] at h2
  have fP10291 : P10291.n0 = P.n0 ∧ P10291.n2 = P.n2 ∧ P10291.n5 = P.n5 ∧ P10291.n7 = P.n7 ∧ P10291.m0 = 0 ∧ P10291.m5 = P.m5 ∧ P10291.w2 = 0 ∧ P10291.w7 = P.w7 ∧ P10291.kk = P.kk ∧ P10291.a = P.a ∧ P10291.f = P.f ∧ P10291.p = P.p := by rw [eP10291]; exact ⟨rfl, rfl, rfl, rfl, rfl, rfl, rfl, rfl, rfl, rfl, rfl, rfl⟩
  refine m_iconst F (v := 0) (by decide) e_X10_takeText_0 ?_
  refine m_istore_n F (lv' := [(1, .int 0), (0, .ref c)]) e_X10_takeText_1 (by decide) rfl ?_
  refine m_iload_n F rfl e_X10_takeText_2 ?_
  refine m_iconst F (v := 5) (by decide) e_X10_takeText_3 ?_
  refine m_icmp_ge F e_X10_takeText_4 (fun q => absurd q (by decide)) (fun _ => ?_)
  refine m_aload_n F rfl e_X10_takeText_7 ?_
  refine r_get F e_X10_takeText_8 fl_X10_13 h2 rfl (fun v hv f10292 => ?_)
  obtain rfl : v = .ref (c + 2) := hv
  refine m_iload_n F rfl e_X10_takeText_11 ?_
  refine m_aload_n F rfl e_X10_takeText_12 ?_
  refine m_iload_n F rfl e_X10_takeText_13 ?_
  have oP10296 : OKP P10291 := by unfold OKP; omega
  refine r_callV F e_X10_takeText_14 (q_X10_reading0 (x_l X) V c T Z u h P10291 L _ _  h2.1 (hob) oP10296 ) cb_X10_reading ml_X10_157 im_X10_reading se_X10_reading h2 rfl rfl (rest := [.int 0, .ref (c + 2)]) rfl (Nat.le_of_ble_eq_true rfl) ⟨Nat.le_of_ble_eq_true rfl, Nat.le_of_ble_eq_true rfl⟩ ⟨Nat.le_of_ble_eq_true rfl, Nat.le_of_ble_eq_true rfl⟩ (fun r σ10293 hp => ?_)
  obtain ⟨h10294, rfl⟩ := hp
  have h10295 := HS.trans h2 h10294 (by decide)
  refine r_iast F (g' := (⟨T, Z, u, h, (mkP P10291.n5 P10291.n2 P10291.n5 P10291.n7 P10291.m0 P10291.m5 P10291.w2 P10291.w7 P10291.kk P10291.a P10291.f P10291.p), L⟩ : RG)) (len := 10) (j := 0) e_X10_takeText_17 h10295 (fun _ h => h) (fun f h => ⟨f, rfl, h⟩) (by decide) (by decide) (by decide) (by unfold vp_in; decide) (by refine ⟨?_, ?_, ?_, ?_, ?_, ?_⟩ <;> intro e <;> first | exact absurd e (by decide) | rfl | exact ⟨_, by omega, rfl⟩) (fun i hi y hy => ⟨fun e => absurd e hi, hy.2.1, hy.2.2.1, hy.2.2.2.1, hy.2.2.2.2.1, hy.2.2.2.2.2⟩) (CR.chg (by intro k hk i x h; unfold EI at h ⊢; split at h <;> first | exact h | exact absurd rfl hk | trivial) rfl rfl rfl rfl) (fun σ10297 h10298 g10299 f10300 g10301 => ?_)
  obtain ⟨P10302, eP10302⟩ : ∃ P9, P9 = (mkP P10291.n5 P10291.n2 P10291.n5 P10291.n7 P10291.m0 P10291.m5 P10291.w2 P10291.w7 P10291.kk P10291.a P10291.f P10291.p) := ⟨_, rfl⟩
  rw [← eP10302] at h10298
  have fP10302 : P10302.n0 = P10291.n5 ∧ P10302.n2 = P10291.n2 ∧ P10302.n5 = P10291.n5 ∧ P10302.n7 = P10291.n7 ∧ P10302.m0 = P10291.m0 ∧ P10302.m5 = P10291.m5 ∧ P10302.w2 = P10291.w2 ∧ P10302.w7 = P10291.w7 ∧ P10302.kk = P10291.kk ∧ P10302.a = P10291.a ∧ P10302.f = P10291.f ∧ P10302.p = P10291.p := by rw [eP10302]; exact ⟨rfl, rfl, rfl, rfl, rfl, rfl, rfl, rfl, rfl, rfl, rfl, rfl⟩
  refine m_iinc F (v := 1) (lv' := [(1, .int 1), (0, .ref c)]) e_X10_takeText_18 rfl (by decide) (by decide) rfl ?_
  refine m_goto F e_X10_takeText_21 ?_
  refine m_iload_n F rfl e_X10_takeText_2 ?_
  refine m_iconst F (v := 5) (by decide) e_X10_takeText_3 ?_
  refine m_icmp_ge F e_X10_takeText_4 (fun q => absurd q (by decide)) (fun _ => ?_)
  refine m_aload_n F rfl e_X10_takeText_7 ?_
  refine r_getC F e_X10_takeText_8 fl_X10_13 h10298 ((fld_eq (g10299 _ (by omega))).trans ((fld_eq (h10294.2 c (by rw [show kC c c = 1 from kC_at (k := 0) (by decide)]; decide))).trans f10292)) ?_
  refine m_iload_n F rfl e_X10_takeText_11 ?_
  refine m_aload_n F rfl e_X10_takeText_12 ?_
  refine m_iload_n F rfl e_X10_takeText_13 ?_
  have oP10306 : OKP P10302 := by unfold OKP; omega
  refine r_callV F e_X10_takeText_14 (q_X10_reading1 (x_l X) V c T Z u h P10302 L _ _  h10298.1 (hob) oP10306 ) cb_X10_reading ml_X10_157 im_X10_reading se_X10_reading h10298 rfl rfl (rest := [.int 1, .ref (c + 2)]) rfl (Nat.le_of_ble_eq_true rfl) ⟨Nat.le_of_ble_eq_true rfl, Nat.le_of_ble_eq_true rfl⟩ ⟨Nat.le_of_ble_eq_true rfl, Nat.le_of_ble_eq_true rfl⟩ (fun r σ10303 hp => ?_)
  obtain ⟨h10304, x10307, rfl⟩ := hp
  have h10305 := HS.trans h10298 h10304 (by decide)
  refine r_iast F (g' := (⟨T, Z, u, h, P10302, L⟩ : RG)) (len := 10) (j := 1) e_X10_takeText_17 h10305 (fun _ h => h) (fun f h => ⟨f, rfl, h⟩) (by decide) (by decide) (by decide) (by unfold vp_in; decide) (by refine ⟨?_, ?_, ?_, ?_, ?_, ?_⟩ <;> intro e <;> first | exact absurd e (by decide) | rfl | exact ⟨_, by omega, rfl⟩) (fun _ _ _ h => h) (fun _ _ _ h => h) (fun σ10308 h10309 g10310 f10311 g10312 => ?_)
  refine m_iinc F (v := 2) (lv' := [(1, .int 2), (0, .ref c)]) e_X10_takeText_18 rfl (by decide) (by decide) rfl ?_
  refine m_goto F e_X10_takeText_21 ?_
  refine m_iload_n F rfl e_X10_takeText_2 ?_
  refine m_iconst F (v := 5) (by decide) e_X10_takeText_3 ?_
  refine m_icmp_ge F e_X10_takeText_4 (fun q => absurd q (by decide)) (fun _ => ?_)
  refine m_aload_n F rfl e_X10_takeText_7 ?_
  refine r_getC F e_X10_takeText_8 fl_X10_13 h10309 ((fld_eq (g10310 _ (by omega))).trans ((fld_eq (h10304.2 c (by rw [show kC c c = 1 from kC_at (k := 0) (by decide)]; decide))).trans ((fld_eq (g10299 _ (by omega))).trans ((fld_eq (h10294.2 c (by rw [show kC c c = 1 from kC_at (k := 0) (by decide)]; decide))).trans f10292)))) ?_
  refine m_iload_n F rfl e_X10_takeText_11 ?_
  refine m_aload_n F rfl e_X10_takeText_12 ?_
  refine m_iload_n F rfl e_X10_takeText_13 ?_
  refine r_callV F e_X10_takeText_14 (q_X10_reading2 (x_l X) V c T Z u h P10302 L _ _  h10309.1 (hob) oP10306 ) cb_X10_reading ml_X10_157 im_X10_reading se_X10_reading h10309 rfl rfl (rest := [.int 2, .ref (c + 2)]) rfl (Nat.le_of_ble_eq_true rfl) ⟨Nat.le_of_ble_eq_true rfl, Nat.le_of_ble_eq_true rfl⟩ ⟨Nat.le_of_ble_eq_true rfl, Nat.le_of_ble_eq_true rfl⟩ (fun r σ10313 hp => ?_)
  obtain ⟨h10314, rfl⟩ := hp
  have h10315 := HS.trans h10309 h10314 (by decide)
  refine r_iast F (g' := (⟨T, Z, u, h, (mkP P10302.n0 P10302.n7 P10302.n5 P10302.n7 P10302.m0 P10302.m5 P10302.w2 P10302.w7 P10302.kk P10302.a P10302.f P10302.p), L⟩ : RG)) (len := 10) (j := 2) e_X10_takeText_17 h10315 (fun _ h => h) (fun f h => ⟨f, rfl, h⟩) (by decide) (by decide) (by decide) (by unfold vp_in; decide) (by refine ⟨?_, ?_, ?_, ?_, ?_, ?_⟩ <;> intro e <;> first | exact absurd e (by decide) | rfl | exact ⟨_, by omega, rfl⟩) (fun i hi y hy => ⟨hy.1, fun e => absurd e hi, hy.2.2.1, hy.2.2.2.1, hy.2.2.2.2.1, hy.2.2.2.2.2⟩) (CR.chg (by intro k hk i x h; unfold EI at h ⊢; split at h <;> first | exact h | exact absurd rfl hk | trivial) rfl rfl rfl rfl) (fun σ10316 h10317 g10318 f10319 g10320 => ?_)
  obtain ⟨P10321, eP10321⟩ : ∃ P9, P9 = (mkP P10302.n0 P10302.n7 P10302.n5 P10302.n7 P10302.m0 P10302.m5 P10302.w2 P10302.w7 P10302.kk P10302.a P10302.f P10302.p) := ⟨_, rfl⟩
  rw [← eP10321] at h10317
  have fP10321 : P10321.n0 = P10302.n0 ∧ P10321.n2 = P10302.n7 ∧ P10321.n5 = P10302.n5 ∧ P10321.n7 = P10302.n7 ∧ P10321.m0 = P10302.m0 ∧ P10321.m5 = P10302.m5 ∧ P10321.w2 = P10302.w2 ∧ P10321.w7 = P10302.w7 ∧ P10321.kk = P10302.kk ∧ P10321.a = P10302.a ∧ P10321.f = P10302.f ∧ P10321.p = P10302.p := by rw [eP10321]; exact ⟨rfl, rfl, rfl, rfl, rfl, rfl, rfl, rfl, rfl, rfl, rfl, rfl⟩
  refine m_iinc F (v := 3) (lv' := [(1, .int 3), (0, .ref c)]) e_X10_takeText_18 rfl (by decide) (by decide) rfl ?_
  refine m_goto F e_X10_takeText_21 ?_
  refine m_iload_n F rfl e_X10_takeText_2 ?_
  refine m_iconst F (v := 5) (by decide) e_X10_takeText_3 ?_
  refine m_icmp_ge F e_X10_takeText_4 (fun q => absurd q (by decide)) (fun _ => ?_)
  refine m_aload_n F rfl e_X10_takeText_7 ?_
  refine r_getC F e_X10_takeText_8 fl_X10_13 h10317 ((fld_eq (g10318 _ (by omega))).trans ((fld_eq (h10314.2 c (by rw [show kC c c = 1 from kC_at (k := 0) (by decide)]; decide))).trans ((fld_eq (g10310 _ (by omega))).trans ((fld_eq (h10304.2 c (by rw [show kC c c = 1 from kC_at (k := 0) (by decide)]; decide))).trans ((fld_eq (g10299 _ (by omega))).trans ((fld_eq (h10294.2 c (by rw [show kC c c = 1 from kC_at (k := 0) (by decide)]; decide))).trans f10292)))))) ?_
  refine m_iload_n F rfl e_X10_takeText_11 ?_
  refine m_aload_n F rfl e_X10_takeText_12 ?_
  refine m_iload_n F rfl e_X10_takeText_13 ?_
  have oP10325 : OKP P10321 := by unfold OKP; omega
  refine r_callV F e_X10_takeText_14 (q_X10_reading3 (x_l X) V c T Z u h P10321 L _ _  h10317.1 (hob) oP10325 ) cb_X10_reading ml_X10_157 im_X10_reading se_X10_reading h10317 rfl rfl (rest := [.int 3, .ref (c + 2)]) rfl (Nat.le_of_ble_eq_true rfl) ⟨Nat.le_of_ble_eq_true rfl, Nat.le_of_ble_eq_true rfl⟩ ⟨Nat.le_of_ble_eq_true rfl, Nat.le_of_ble_eq_true rfl⟩ (fun r σ10322 hp => ?_)
  obtain ⟨h10323, n10326, hn10326, f10327, rfl⟩ := hp
  have h10324 := HS.trans h10317 h10323 (by decide)
  refine r_iast F (g' := (⟨T, Z, u, h, P10321, L⟩ : RG)) (len := 10) (j := 3) e_X10_takeText_17 h10324 (fun _ h => h) (fun f h => ⟨f, rfl, h⟩) (by decide) (by decide) (by decide) (by unfold vp_in; decide) (by refine ⟨?_, ?_, ?_, ?_, ?_, ?_⟩ <;> intro e <;> first | exact absurd e (by decide) | rfl | exact ⟨_, by omega, rfl⟩) (fun _ _ _ h => h) (fun _ _ _ h => h) (fun σ10328 h10329 g10330 f10331 g10332 => ?_)
  refine m_iinc F (v := 4) (lv' := [(1, .int 4), (0, .ref c)]) e_X10_takeText_18 rfl (by decide) (by decide) rfl ?_
  refine m_goto F e_X10_takeText_21 ?_
  refine m_iload_n F rfl e_X10_takeText_2 ?_
  refine m_iconst F (v := 5) (by decide) e_X10_takeText_3 ?_
  refine m_icmp_ge F e_X10_takeText_4 (fun q => absurd q (by decide)) (fun _ => ?_)
  refine m_aload_n F rfl e_X10_takeText_7 ?_
  refine r_getC F e_X10_takeText_8 fl_X10_13 h10329 ((fld_eq (g10330 _ (by omega))).trans ((fld_eq (h10323.2 c (by rw [show kC c c = 1 from kC_at (k := 0) (by decide)]; decide))).trans ((fld_eq (g10318 _ (by omega))).trans ((fld_eq (h10314.2 c (by rw [show kC c c = 1 from kC_at (k := 0) (by decide)]; decide))).trans ((fld_eq (g10310 _ (by omega))).trans ((fld_eq (h10304.2 c (by rw [show kC c c = 1 from kC_at (k := 0) (by decide)]; decide))).trans ((fld_eq (g10299 _ (by omega))).trans ((fld_eq (h10294.2 c (by rw [show kC c c = 1 from kC_at (k := 0) (by decide)]; decide))).trans f10292)))))))) ?_
  refine m_iload_n F rfl e_X10_takeText_11 ?_
  refine m_aload_n F rfl e_X10_takeText_12 ?_
  refine m_iload_n F rfl e_X10_takeText_13 ?_
  refine r_callV F e_X10_takeText_14 (q_X10_reading4 (x_l X) V c T Z u h P10321 L _ _  h10329.1 (hob) oP10325 ) cb_X10_reading ml_X10_157 im_X10_reading se_X10_reading h10329 rfl rfl (rest := [.int 4, .ref (c + 2)]) rfl (Nat.le_of_ble_eq_true rfl) ⟨Nat.le_of_ble_eq_true rfl, Nat.le_of_ble_eq_true rfl⟩ ⟨Nat.le_of_ble_eq_true rfl, Nat.le_of_ble_eq_true rfl⟩ (fun r σ10333 hp => ?_)
  obtain ⟨h10334, x10336, rfl⟩ := hp
  have h10335 := HS.trans h10329 h10334 (by decide)
  refine r_iast F (g' := (⟨T, Z, u, h, P10321, L⟩ : RG)) (len := 10) (j := 4) e_X10_takeText_17 h10335 (fun _ h => h) (fun f h => ⟨f, rfl, h⟩) (by decide) (by decide) (by decide) (by unfold vp_in; decide) (by refine ⟨?_, ?_, ?_, ?_, ?_, ?_⟩ <;> intro e <;> first | exact absurd e (by decide) | rfl | exact ⟨_, by omega, rfl⟩) (fun _ _ _ h => h) (fun _ _ _ h => h) (fun σ10337 h10338 g10339 f10340 g10341 => ?_)
  refine m_iinc F (v := 5) (lv' := [(1, .int 5), (0, .ref c)]) e_X10_takeText_18 rfl (by decide) (by decide) rfl ?_
  refine m_goto F e_X10_takeText_21 ?_
  refine m_iload_n F rfl e_X10_takeText_2 ?_
  refine m_iconst F (v := 5) (by decide) e_X10_takeText_3 ?_
  refine m_icmp_ge F e_X10_takeText_4 (fun _ => ?_) (fun q => absurd (by decide) q)
  refine m_iconst F (v := 0) (by decide) e_X10_takeText_24 ?_
  refine m_istore_n F (lv' := [(1, .int 0), (0, .ref c)]) e_X10_takeText_25 (by decide) rfl ?_
  refine m_iload_n F rfl e_X10_takeText_26 ?_
  refine m_iconst F (v := 4) (by decide) e_X10_takeText_27 ?_
  refine m_icmp_ge F e_X10_takeText_28 (fun q => absurd q (by decide)) (fun _ => ?_)
  refine m_aload_n F rfl e_X10_takeText_31 ?_
  refine r_get F e_X10_takeText_32 fl_X10_16 h10338 rfl (fun v hv f10342 => ?_)
  obtain rfl : v = .ref (c + 3) := hv
  refine m_iload_n F rfl e_X10_takeText_35 ?_
  refine m_aload_n F rfl e_X10_takeText_36 ?_
  refine r_getC F e_X10_takeText_37 fl_X10_16 h10338 (f10342) ?_
  refine m_iconst F (v := 4) (by decide) e_X10_takeText_40 ?_
  refine m_iload_n F rfl e_X10_takeText_41 ?_
  refine m_iadd F e_X10_takeText_42 ?_
  refine Wm.topE (w := 4) (by decide) ?_
  refine r_iald F (len := 8) (j := 4) e_X10_takeText_43 h10338 (fun _ h => h) (by decide) (by decide) (by unfold vp_in; decide) (fun x10343 h10344 f10345 => ?_)
  refine r_iast F (g' := (⟨T, Z, u, h, P10321, L⟩ : RG)) (len := 8) (j := 0) e_X10_takeText_44 h10338 (fun _ h => h) (fun f h => ⟨f, rfl, h⟩) (by decide) (by decide) (by decide) (by unfold vp_in; decide) trivial (fun _ _ _ h => h) (fun _ _ _ h => h) (fun σ10346 h10347 g10348 f10349 g10350 => ?_)
  refine m_aload_n F rfl e_X10_takeText_45 ?_
  refine r_get F e_X10_takeText_46 fl_X10_19 h10347 rfl (fun v hv f10351 => ?_)
  obtain rfl : v = .ref (c + 4) := hv
  refine m_iload_n F rfl e_X10_takeText_49 ?_
  refine m_aload_n F rfl e_X10_takeText_50 ?_
  refine r_getC F e_X10_takeText_51 fl_X10_19 h10347 (f10351) ?_
  refine m_iconst F (v := 4) (by decide) e_X10_takeText_54 ?_
  refine m_iload_n F rfl e_X10_takeText_55 ?_
  refine m_iadd F e_X10_takeText_56 ?_
  refine Wm.topE (w := 4) (by decide) ?_
  refine r_iald F (len := 8) (j := 4) e_X10_takeText_57 h10347 (fun _ h => h) (by decide) (by decide) (by unfold vp_in; decide) (fun x10352 h10353 f10354 => ?_)
  refine r_iast F (g' := (⟨T, Z, u, h, P10321, L⟩ : RG)) (len := 8) (j := 0) e_X10_takeText_58 h10347 (fun _ h => h) (fun f h => ⟨f, rfl, h⟩) (by decide) (by decide) (by decide) (by unfold vp_in; decide) trivial (fun _ _ _ h => h) (fun _ _ _ h => h) (fun σ10355 h10356 g10357 f10358 g10359 => ?_)
  refine m_aload_n F rfl e_X10_takeText_59 ?_
  refine r_get F e_X10_takeText_60 fl_X10_22 h10356 rfl (fun v hv f10360 => ?_)
  obtain rfl : v = .ref (c + 5) := hv
  refine m_iload_n F rfl e_X10_takeText_63 ?_
  refine m_aload_n F rfl e_X10_takeText_64 ?_
  refine r_getC F e_X10_takeText_65 fl_X10_22 h10356 (f10360) ?_
  refine m_iconst F (v := 4) (by decide) e_X10_takeText_68 ?_
  refine m_iload_n F rfl e_X10_takeText_69 ?_
  refine m_iadd F e_X10_takeText_70 ?_
  refine Wm.topE (w := 4) (by decide) ?_
  refine r_iald F (len := 8) (j := 4) e_X10_takeText_71 h10356 (fun _ h => h) (by decide) (by decide) (by unfold vp_in; decide) (fun x10361 h10362 f10363 => ?_)
  obtain ⟨n10364, hn10364, rfl, pn10364, rn10364⟩ := h10362
  refine r_iast F (g' := (⟨T, Z, u, h, (mkP P10321.n0 P10321.n2 P10321.n5 P10321.n7 (min 1 P10321.m5) P10321.m5 P10321.w2 P10321.w7 P10321.kk P10321.a P10321.f P10321.p), L⟩ : RG)) (len := 8) (j := 0) e_X10_takeText_72 h10356 (fun _ h => h) (fun f h => ⟨f, rfl, h⟩) (by decide) (by decide) (by decide) (by unfold vp_in; decide) ⟨n10364, by omega, rfl, fun _ h8 => rn10364 (by omega) (show 4 < 4 + P10321.m5 by have h6 : 0 < min 1 P10321.m5 := h8; omega), fun h7 _ => absurd h7 (by omega)⟩ (fun i hi y hy => by obtain ⟨n9, a9, b9, c9, d9⟩ := hy; exact ⟨n9, a9, b9, fun h7 h8 => c9 h7 (show i < P10321.m0 by have h6 : i < min 1 P10321.m5 := h8; omega), d9⟩) (CR.chg (by intro k hk i x h; unfold EI at h ⊢; split at h <;> first | exact h | exact absurd rfl hk | trivial) rfl rfl rfl rfl) (fun σ10365 h10366 g10367 f10368 g10369 => ?_)
  obtain ⟨P10370, eP10370⟩ : ∃ P9, P9 = (mkP P10321.n0 P10321.n2 P10321.n5 P10321.n7 (min 1 P10321.m5) P10321.m5 P10321.w2 P10321.w7 P10321.kk P10321.a P10321.f P10321.p) := ⟨_, rfl⟩
  rw [← eP10370] at h10366
  have fP10370 : P10370.n0 = P10321.n0 ∧ P10370.n2 = P10321.n2 ∧ P10370.n5 = P10321.n5 ∧ P10370.n7 = P10321.n7 ∧ P10370.m0 = min 1 P10321.m5 ∧ P10370.m5 = P10321.m5 ∧ P10370.w2 = P10321.w2 ∧ P10370.w7 = P10321.w7 ∧ P10370.kk = P10321.kk ∧ P10370.a = P10321.a ∧ P10370.f = P10321.f ∧ P10370.p = P10321.p := by rw [eP10370]; exact ⟨rfl, rfl, rfl, rfl, rfl, rfl, rfl, rfl, rfl, rfl, rfl, rfl⟩
  refine m_aload_n F rfl e_X10_takeText_73 ?_
  refine r_get F e_X10_takeText_74 fl_X10_25 h10366 rfl (fun v hv f10371 => ?_)
  obtain rfl : v = .ref (c + 6) := hv
  refine m_iload_n F rfl e_X10_takeText_77 ?_
  refine m_aload_n F rfl e_X10_takeText_78 ?_
  refine r_getC F e_X10_takeText_79 fl_X10_25 h10366 (f10371) ?_
  refine m_iconst F (v := 4) (by decide) e_X10_takeText_82 ?_
  refine m_iload_n F rfl e_X10_takeText_83 ?_
  refine m_iadd F e_X10_takeText_84 ?_
  refine Wm.topE (w := 4) (by decide) ?_
  refine r_iald F (len := 8) (j := 4) e_X10_takeText_85 h10366 (fun _ h => h) (by decide) (by decide) (by unfold vp_in; decide) (fun x10372 h10373 f10374 => ?_)
  obtain ⟨n10375, hn10375, rfl⟩ := h10373
  refine r_iast F (g' := (⟨T, Z, u, h, P10370, L⟩ : RG)) (len := 8) (j := 0) e_X10_takeText_86 h10366 (fun _ h => h) (fun f h => ⟨f, rfl, h⟩) (by decide) (by decide) (by decide) (by unfold vp_in; decide) ⟨n10375, by omega, rfl⟩ (fun _ _ _ h => h) (fun _ _ _ h => h) (fun σ10376 h10377 g10378 f10379 g10380 => ?_)
  refine m_aload_n F rfl e_X10_takeText_87 ?_
  refine r_get F e_X10_takeText_88 fl_X10_28 h10377 rfl (fun v hv f10381 => ?_)
  obtain rfl : v = .ref (c + 7) := hv
  refine m_iload_n F rfl e_X10_takeText_91 ?_
  refine m_aload_n F rfl e_X10_takeText_92 ?_
  refine r_getC F e_X10_takeText_93 fl_X10_28 h10377 (f10381) ?_
  refine m_iconst F (v := 4) (by decide) e_X10_takeText_96 ?_
  refine m_iload_n F rfl e_X10_takeText_97 ?_
  refine m_iadd F e_X10_takeText_98 ?_
  refine Wm.topE (w := 4) (by decide) ?_
  refine r_iald F (len := 8) (j := 4) e_X10_takeText_99 h10377 (fun _ h => h) (by decide) (by decide) (by unfold vp_in; decide) (fun x10382 h10383 f10384 => ?_)
  refine r_iast F (g' := (⟨T, Z, u, h, P10370, L⟩ : RG)) (len := 8) (j := 0) e_X10_takeText_100 h10377 (fun _ h => h) (fun f h => ⟨f, rfl, h⟩) (by decide) (by decide) (by decide) (by unfold vp_in; decide) trivial (fun _ _ _ h => h) (fun _ _ _ h => h) (fun σ10385 h10386 g10387 f10388 g10389 => ?_)
  refine m_aload_n F rfl e_X10_takeText_101 ?_
  refine r_get F e_X10_takeText_102 fl_X10_31 h10386 rfl (fun v hv f10390 => ?_)
  obtain rfl : v = .ref (c + 8) := hv
  refine m_iload_n F rfl e_X10_takeText_105 ?_
  refine m_aload_n F rfl e_X10_takeText_106 ?_
  refine r_getC F e_X10_takeText_107 fl_X10_31 h10386 (f10390) ?_
  refine m_iconst F (v := 4) (by decide) e_X10_takeText_110 ?_
  refine m_iload_n F rfl e_X10_takeText_111 ?_
  refine m_iadd F e_X10_takeText_112 ?_
  refine Wm.topE (w := 4) (by decide) ?_
  refine r_iald F (len := 8) (j := 4) e_X10_takeText_113 h10386 (fun _ h => h) (by decide) (by decide) (by unfold vp_in; decide) (fun x10391 h10392 f10393 => ?_)
  refine r_iast F (g' := (⟨T, Z, u, h, P10370, L⟩ : RG)) (len := 8) (j := 0) e_X10_takeText_114 h10386 (fun _ h => h) (fun f h => ⟨f, rfl, h⟩) (by decide) (by decide) (by decide) (by unfold vp_in; decide) trivial (fun _ _ _ h => h) (fun _ _ _ h => h) (fun σ10394 h10395 g10396 f10397 g10398 => ?_)
  refine m_aload_n F rfl e_X10_takeText_115 ?_
  refine r_get F e_X10_takeText_116 fl_X10_34 h10395 rfl (fun v hv f10399 => ?_)
  obtain rfl : v = .ref (c + 9) := hv
  refine m_iload_n F rfl e_X10_takeText_119 ?_
  refine m_aload_n F rfl e_X10_takeText_120 ?_
  refine r_getC F e_X10_takeText_121 fl_X10_34 h10395 (f10399) ?_
  refine m_iconst F (v := 4) (by decide) e_X10_takeText_124 ?_
  refine m_iload_n F rfl e_X10_takeText_125 ?_
  refine m_iadd F e_X10_takeText_126 ?_
  refine Wm.topE (w := 4) (by decide) ?_
  refine r_iald F (len := 8) (j := 4) e_X10_takeText_127 h10395 (fun _ h => h) (by decide) (by decide) (by unfold vp_in; decide) (fun x10400 h10401 f10402 => ?_)
  refine r_iast F (g' := (⟨T, Z, u, h, P10370, L⟩ : RG)) (len := 8) (j := 0) e_X10_takeText_128 h10395 (fun _ h => h) (fun f h => ⟨f, rfl, h⟩) (by decide) (by decide) (by decide) (by unfold vp_in; decide) trivial (fun _ _ _ h => h) (fun _ _ _ h => h) (fun σ10403 h10404 g10405 f10406 g10407 => ?_)
  refine m_aload_n F rfl e_X10_takeText_129 ?_
  refine r_get F e_X10_takeText_130 fl_X10_46 h10404 rfl (fun v hv f10408 => ?_)
  obtain rfl : v = .ref (c + 13) := hv
  refine m_iload_n F rfl e_X10_takeText_133 ?_
  refine m_aload_n F rfl e_X10_takeText_134 ?_
  refine r_getC F e_X10_takeText_135 fl_X10_46 h10404 (f10408) ?_
  refine m_iconst F (v := 4) (by decide) e_X10_takeText_138 ?_
  refine m_iload_n F rfl e_X10_takeText_139 ?_
  refine m_iadd F e_X10_takeText_140 ?_
  refine Wm.topE (w := 4) (by decide) ?_
  refine r_iald F (len := 8) (j := 4) e_X10_takeText_141 h10404 (fun _ h => h) (by decide) (by decide) (by unfold vp_in; decide) (fun x10409 h10410 f10411 => ?_)
  obtain ⟨n10412, hn10412, rfl⟩ := h10410
  refine r_iast F (g' := (⟨T, Z, u, h, P10370, L⟩ : RG)) (len := 8) (j := 0) e_X10_takeText_142 h10404 (fun _ h => h) (fun f h => ⟨f, rfl, h⟩) (by decide) (by decide) (by decide) (by unfold vp_in; decide) ⟨n10412, by omega, rfl⟩ (fun _ _ _ h => h) (fun _ _ _ h => h) (fun σ10413 h10414 g10415 f10416 g10417 => ?_)
  refine m_aload_n F rfl e_X10_takeText_143 ?_
  refine r_get F e_X10_takeText_144 fl_X10_49 h10414 rfl (fun v hv f10418 => ?_)
  obtain rfl : v = .ref (c + 14) := hv
  refine m_iload_n F rfl e_X10_takeText_147 ?_
  refine m_aload_n F rfl e_X10_takeText_148 ?_
  refine r_getC F e_X10_takeText_149 fl_X10_49 h10414 (f10418) ?_
  refine m_iconst F (v := 4) (by decide) e_X10_takeText_152 ?_
  refine m_iload_n F rfl e_X10_takeText_153 ?_
  refine m_iadd F e_X10_takeText_154 ?_
  refine Wm.topE (w := 4) (by decide) ?_
  refine r_iald F (len := 8) (j := 4) e_X10_takeText_155 h10414 (fun _ h => h) (by decide) (by decide) (by unfold vp_in; decide) (fun x10419 h10420 f10421 => ?_)
  obtain ⟨n10422, hn10422, rfl⟩ := h10420
  refine r_iast F (g' := (⟨T, Z, u, h, P10370, L⟩ : RG)) (len := 8) (j := 0) e_X10_takeText_156 h10414 (fun _ h => h) (fun f h => ⟨f, rfl, h⟩) (by decide) (by decide) (by decide) (by unfold vp_in; decide) ⟨n10422, by omega, rfl⟩ (fun _ _ _ h => h) (fun _ _ _ h => h) (fun σ10423 h10424 g10425 f10426 g10427 => ?_)
  refine m_aload_n F rfl e_X10_takeText_157 ?_
  refine r_get F e_X10_takeText_158 fl_X10_52 h10424 rfl (fun v hv f10428 => ?_)
  obtain rfl : v = .ref (c + 15) := hv
  refine m_iload_n F rfl e_X10_takeText_161 ?_
  refine m_aload_n F rfl e_X10_takeText_162 ?_
  refine r_getC F e_X10_takeText_163 fl_X10_52 h10424 (f10428) ?_
  refine m_iconst F (v := 4) (by decide) e_X10_takeText_166 ?_
  refine m_iload_n F rfl e_X10_takeText_167 ?_
  refine m_iadd F e_X10_takeText_168 ?_
  refine Wm.topE (w := 4) (by decide) ?_
  refine r_iald F (len := 8) (j := 4) e_X10_takeText_169 h10424 (fun _ h => h) (by decide) (by decide) (by unfold vp_in; decide) (fun x10429 h10430 f10431 => ?_)
  refine r_iast F (g' := (⟨T, Z, u, h, P10370, L⟩ : RG)) (len := 8) (j := 0) e_X10_takeText_170 h10424 (fun _ h => h) (fun f h => ⟨f, rfl, h⟩) (by decide) (by decide) (by decide) (by unfold vp_in; decide) trivial (fun _ _ _ h => h) (fun _ _ _ h => h) (fun σ10432 h10433 g10434 f10435 g10436 => ?_)
  refine m_iinc F (v := 1) (lv' := [(1, .int 1), (0, .ref c)]) e_X10_takeText_171 rfl (by decide) (by decide) rfl ?_
  refine m_goto F e_X10_takeText_174 ?_
  refine m_iload_n F rfl e_X10_takeText_26 ?_
  refine m_iconst F (v := 4) (by decide) e_X10_takeText_27 ?_
  refine m_icmp_ge F e_X10_takeText_28 (fun q => absurd q (by decide)) (fun _ => ?_)
  refine m_aload_n F rfl e_X10_takeText_31 ?_
  refine r_getC F e_X10_takeText_32 fl_X10_16 h10433 ((fld_eq (g10434 _ (by omega))).trans ((fld_eq (g10425 _ (by omega))).trans ((fld_eq (g10415 _ (by omega))).trans ((fld_eq (g10405 _ (by omega))).trans ((fld_eq (g10396 _ (by omega))).trans ((fld_eq (g10387 _ (by omega))).trans ((fld_eq (g10378 _ (by omega))).trans ((fld_eq (g10367 _ (by omega))).trans ((fld_eq (g10357 _ (by omega))).trans ((fld_eq (g10348 _ (by omega))).trans f10342)))))))))) ?_
  refine m_iload_n F rfl e_X10_takeText_35 ?_
  refine m_aload_n F rfl e_X10_takeText_36 ?_
  refine r_getC F e_X10_takeText_37 fl_X10_16 h10433 ((fld_eq (g10434 _ (by omega))).trans ((fld_eq (g10425 _ (by omega))).trans ((fld_eq (g10415 _ (by omega))).trans ((fld_eq (g10405 _ (by omega))).trans ((fld_eq (g10396 _ (by omega))).trans ((fld_eq (g10387 _ (by omega))).trans ((fld_eq (g10378 _ (by omega))).trans ((fld_eq (g10367 _ (by omega))).trans ((fld_eq (g10357 _ (by omega))).trans ((fld_eq (g10348 _ (by omega))).trans f10342)))))))))) ?_
  refine m_iconst F (v := 4) (by decide) e_X10_takeText_40 ?_
  refine m_iload_n F rfl e_X10_takeText_41 ?_
  refine m_iadd F e_X10_takeText_42 ?_
  refine Wm.topE (w := 5) (by decide) ?_
  refine r_iald F (len := 8) (j := 5) e_X10_takeText_43 h10433 (fun _ h => h) (by decide) (by decide) (by unfold vp_in; decide) (fun x10437 h10438 f10439 => ?_)
  refine r_iast F (g' := (⟨T, Z, u, h, P10370, L⟩ : RG)) (len := 8) (j := 1) e_X10_takeText_44 h10433 (fun _ h => h) (fun f h => ⟨f, rfl, h⟩) (by decide) (by decide) (by decide) (by unfold vp_in; decide) trivial (fun _ _ _ h => h) (fun _ _ _ h => h) (fun σ10440 h10441 g10442 f10443 g10444 => ?_)
  refine m_aload_n F rfl e_X10_takeText_45 ?_
  refine r_getC F e_X10_takeText_46 fl_X10_19 h10441 ((fld_eq (g10442 _ (by omega))).trans ((fld_eq (g10434 _ (by omega))).trans ((fld_eq (g10425 _ (by omega))).trans ((fld_eq (g10415 _ (by omega))).trans ((fld_eq (g10405 _ (by omega))).trans ((fld_eq (g10396 _ (by omega))).trans ((fld_eq (g10387 _ (by omega))).trans ((fld_eq (g10378 _ (by omega))).trans ((fld_eq (g10367 _ (by omega))).trans ((fld_eq (g10357 _ (by omega))).trans f10351)))))))))) ?_
  refine m_iload_n F rfl e_X10_takeText_49 ?_
  refine m_aload_n F rfl e_X10_takeText_50 ?_
  refine r_getC F e_X10_takeText_51 fl_X10_19 h10441 ((fld_eq (g10442 _ (by omega))).trans ((fld_eq (g10434 _ (by omega))).trans ((fld_eq (g10425 _ (by omega))).trans ((fld_eq (g10415 _ (by omega))).trans ((fld_eq (g10405 _ (by omega))).trans ((fld_eq (g10396 _ (by omega))).trans ((fld_eq (g10387 _ (by omega))).trans ((fld_eq (g10378 _ (by omega))).trans ((fld_eq (g10367 _ (by omega))).trans ((fld_eq (g10357 _ (by omega))).trans f10351)))))))))) ?_
  refine m_iconst F (v := 4) (by decide) e_X10_takeText_54 ?_
  refine m_iload_n F rfl e_X10_takeText_55 ?_
  refine m_iadd F e_X10_takeText_56 ?_
  refine Wm.topE (w := 5) (by decide) ?_
  refine r_iald F (len := 8) (j := 5) e_X10_takeText_57 h10441 (fun _ h => h) (by decide) (by decide) (by unfold vp_in; decide) (fun x10445 h10446 f10447 => ?_)
  refine r_iast F (g' := (⟨T, Z, u, h, P10370, L⟩ : RG)) (len := 8) (j := 1) e_X10_takeText_58 h10441 (fun _ h => h) (fun f h => ⟨f, rfl, h⟩) (by decide) (by decide) (by decide) (by unfold vp_in; decide) trivial (fun _ _ _ h => h) (fun _ _ _ h => h) (fun σ10448 h10449 g10450 f10451 g10452 => ?_)
  refine m_aload_n F rfl e_X10_takeText_59 ?_
  refine r_getC F e_X10_takeText_60 fl_X10_22 h10449 ((fld_eq (g10450 _ (by omega))).trans ((fld_eq (g10442 _ (by omega))).trans ((fld_eq (g10434 _ (by omega))).trans ((fld_eq (g10425 _ (by omega))).trans ((fld_eq (g10415 _ (by omega))).trans ((fld_eq (g10405 _ (by omega))).trans ((fld_eq (g10396 _ (by omega))).trans ((fld_eq (g10387 _ (by omega))).trans ((fld_eq (g10378 _ (by omega))).trans ((fld_eq (g10367 _ (by omega))).trans f10360)))))))))) ?_
  refine m_iload_n F rfl e_X10_takeText_63 ?_
  refine m_aload_n F rfl e_X10_takeText_64 ?_
  refine r_getC F e_X10_takeText_65 fl_X10_22 h10449 ((fld_eq (g10450 _ (by omega))).trans ((fld_eq (g10442 _ (by omega))).trans ((fld_eq (g10434 _ (by omega))).trans ((fld_eq (g10425 _ (by omega))).trans ((fld_eq (g10415 _ (by omega))).trans ((fld_eq (g10405 _ (by omega))).trans ((fld_eq (g10396 _ (by omega))).trans ((fld_eq (g10387 _ (by omega))).trans ((fld_eq (g10378 _ (by omega))).trans ((fld_eq (g10367 _ (by omega))).trans f10360)))))))))) ?_
  refine m_iconst F (v := 4) (by decide) e_X10_takeText_68 ?_
  refine m_iload_n F rfl e_X10_takeText_69 ?_
  refine m_iadd F e_X10_takeText_70 ?_
  refine Wm.topE (w := 5) (by decide) ?_
  refine r_iald F (len := 8) (j := 5) e_X10_takeText_71 h10449 (fun _ h => h) (by decide) (by decide) (by unfold vp_in; decide) (fun x10453 h10454 f10455 => ?_)
  obtain ⟨n10456, hn10456, rfl, pn10456, rn10456⟩ := h10454
  refine r_iast F (g' := (⟨T, Z, u, h, (mkP P10370.n0 P10370.n2 P10370.n5 P10370.n7 (min 2 P10370.m5) P10370.m5 P10370.w2 P10370.w7 P10370.kk P10370.a P10370.f P10370.p), L⟩ : RG)) (len := 8) (j := 1) e_X10_takeText_72 h10449 (fun _ h => h) (fun f h => ⟨f, rfl, h⟩) (by decide) (by decide) (by decide) (by unfold vp_in; decide) ⟨n10456, by omega, rfl, fun _ h8 => rn10456 (by omega) (show 5 < 4 + P10370.m5 by have h6 : 1 < min 2 P10370.m5 := h8; omega), fun h7 _ => absurd h7 (by omega)⟩ (fun i hi y hy => by obtain ⟨n9, a9, b9, c9, d9⟩ := hy; exact ⟨n9, a9, b9, fun h7 h8 => c9 h7 (show i < P10370.m0 by have h6 : i < min 2 P10370.m5 := h8; omega), d9⟩) (CR.chg (by intro k hk i x h; unfold EI at h ⊢; split at h <;> first | exact h | exact absurd rfl hk | trivial) rfl rfl rfl rfl) (fun σ10457 h10458 g10459 f10460 g10461 => ?_)
  obtain ⟨P10462, eP10462⟩ : ∃ P9, P9 = (mkP P10370.n0 P10370.n2 P10370.n5 P10370.n7 (min 2 P10370.m5) P10370.m5 P10370.w2 P10370.w7 P10370.kk P10370.a P10370.f P10370.p) := ⟨_, rfl⟩
  rw [← eP10462] at h10458
  have fP10462 : P10462.n0 = P10370.n0 ∧ P10462.n2 = P10370.n2 ∧ P10462.n5 = P10370.n5 ∧ P10462.n7 = P10370.n7 ∧ P10462.m0 = min 2 P10370.m5 ∧ P10462.m5 = P10370.m5 ∧ P10462.w2 = P10370.w2 ∧ P10462.w7 = P10370.w7 ∧ P10462.kk = P10370.kk ∧ P10462.a = P10370.a ∧ P10462.f = P10370.f ∧ P10462.p = P10370.p := by rw [eP10462]; exact ⟨rfl, rfl, rfl, rfl, rfl, rfl, rfl, rfl, rfl, rfl, rfl, rfl⟩
  refine m_aload_n F rfl e_X10_takeText_73 ?_
  refine r_getC F e_X10_takeText_74 fl_X10_25 h10458 ((fld_eq (g10459 _ (by omega))).trans ((fld_eq (g10450 _ (by omega))).trans ((fld_eq (g10442 _ (by omega))).trans ((fld_eq (g10434 _ (by omega))).trans ((fld_eq (g10425 _ (by omega))).trans ((fld_eq (g10415 _ (by omega))).trans ((fld_eq (g10405 _ (by omega))).trans ((fld_eq (g10396 _ (by omega))).trans ((fld_eq (g10387 _ (by omega))).trans ((fld_eq (g10378 _ (by omega))).trans f10371)))))))))) ?_
  refine m_iload_n F rfl e_X10_takeText_77 ?_
  refine m_aload_n F rfl e_X10_takeText_78 ?_
  refine r_getC F e_X10_takeText_79 fl_X10_25 h10458 ((fld_eq (g10459 _ (by omega))).trans ((fld_eq (g10450 _ (by omega))).trans ((fld_eq (g10442 _ (by omega))).trans ((fld_eq (g10434 _ (by omega))).trans ((fld_eq (g10425 _ (by omega))).trans ((fld_eq (g10415 _ (by omega))).trans ((fld_eq (g10405 _ (by omega))).trans ((fld_eq (g10396 _ (by omega))).trans ((fld_eq (g10387 _ (by omega))).trans ((fld_eq (g10378 _ (by omega))).trans f10371)))))))))) ?_
  refine m_iconst F (v := 4) (by decide) e_X10_takeText_82 ?_
  refine m_iload_n F rfl e_X10_takeText_83 ?_
  refine m_iadd F e_X10_takeText_84 ?_
  refine Wm.topE (w := 5) (by decide) ?_
  refine r_iald F (len := 8) (j := 5) e_X10_takeText_85 h10458 (fun _ h => h) (by decide) (by decide) (by unfold vp_in; decide) (fun x10463 h10464 f10465 => ?_)
  obtain ⟨n10466, hn10466, rfl⟩ := h10464
  refine r_iast F (g' := (⟨T, Z, u, h, P10462, L⟩ : RG)) (len := 8) (j := 1) e_X10_takeText_86 h10458 (fun _ h => h) (fun f h => ⟨f, rfl, h⟩) (by decide) (by decide) (by decide) (by unfold vp_in; decide) ⟨n10466, by omega, rfl⟩ (fun _ _ _ h => h) (fun _ _ _ h => h) (fun σ10467 h10468 g10469 f10470 g10471 => ?_)
  refine m_aload_n F rfl e_X10_takeText_87 ?_
  refine r_getC F e_X10_takeText_88 fl_X10_28 h10468 ((fld_eq (g10469 _ (by omega))).trans ((fld_eq (g10459 _ (by omega))).trans ((fld_eq (g10450 _ (by omega))).trans ((fld_eq (g10442 _ (by omega))).trans ((fld_eq (g10434 _ (by omega))).trans ((fld_eq (g10425 _ (by omega))).trans ((fld_eq (g10415 _ (by omega))).trans ((fld_eq (g10405 _ (by omega))).trans ((fld_eq (g10396 _ (by omega))).trans ((fld_eq (g10387 _ (by omega))).trans f10381)))))))))) ?_
  refine m_iload_n F rfl e_X10_takeText_91 ?_
  refine m_aload_n F rfl e_X10_takeText_92 ?_
  refine r_getC F e_X10_takeText_93 fl_X10_28 h10468 ((fld_eq (g10469 _ (by omega))).trans ((fld_eq (g10459 _ (by omega))).trans ((fld_eq (g10450 _ (by omega))).trans ((fld_eq (g10442 _ (by omega))).trans ((fld_eq (g10434 _ (by omega))).trans ((fld_eq (g10425 _ (by omega))).trans ((fld_eq (g10415 _ (by omega))).trans ((fld_eq (g10405 _ (by omega))).trans ((fld_eq (g10396 _ (by omega))).trans ((fld_eq (g10387 _ (by omega))).trans f10381)))))))))) ?_
  refine m_iconst F (v := 4) (by decide) e_X10_takeText_96 ?_
  refine m_iload_n F rfl e_X10_takeText_97 ?_
  refine m_iadd F e_X10_takeText_98 ?_
  refine Wm.topE (w := 5) (by decide) ?_
  refine r_iald F (len := 8) (j := 5) e_X10_takeText_99 h10468 (fun _ h => h) (by decide) (by decide) (by unfold vp_in; decide) (fun x10472 h10473 f10474 => ?_)
  refine r_iast F (g' := (⟨T, Z, u, h, P10462, L⟩ : RG)) (len := 8) (j := 1) e_X10_takeText_100 h10468 (fun _ h => h) (fun f h => ⟨f, rfl, h⟩) (by decide) (by decide) (by decide) (by unfold vp_in; decide) trivial (fun _ _ _ h => h) (fun _ _ _ h => h) (fun σ10475 h10476 g10477 f10478 g10479 => ?_)
  refine m_aload_n F rfl e_X10_takeText_101 ?_
  refine r_getC F e_X10_takeText_102 fl_X10_31 h10476 ((fld_eq (g10477 _ (by omega))).trans ((fld_eq (g10469 _ (by omega))).trans ((fld_eq (g10459 _ (by omega))).trans ((fld_eq (g10450 _ (by omega))).trans ((fld_eq (g10442 _ (by omega))).trans ((fld_eq (g10434 _ (by omega))).trans ((fld_eq (g10425 _ (by omega))).trans ((fld_eq (g10415 _ (by omega))).trans ((fld_eq (g10405 _ (by omega))).trans ((fld_eq (g10396 _ (by omega))).trans f10390)))))))))) ?_
  refine m_iload_n F rfl e_X10_takeText_105 ?_
  refine m_aload_n F rfl e_X10_takeText_106 ?_
  refine r_getC F e_X10_takeText_107 fl_X10_31 h10476 ((fld_eq (g10477 _ (by omega))).trans ((fld_eq (g10469 _ (by omega))).trans ((fld_eq (g10459 _ (by omega))).trans ((fld_eq (g10450 _ (by omega))).trans ((fld_eq (g10442 _ (by omega))).trans ((fld_eq (g10434 _ (by omega))).trans ((fld_eq (g10425 _ (by omega))).trans ((fld_eq (g10415 _ (by omega))).trans ((fld_eq (g10405 _ (by omega))).trans ((fld_eq (g10396 _ (by omega))).trans f10390)))))))))) ?_
  refine m_iconst F (v := 4) (by decide) e_X10_takeText_110 ?_
  refine m_iload_n F rfl e_X10_takeText_111 ?_
  refine m_iadd F e_X10_takeText_112 ?_
  refine Wm.topE (w := 5) (by decide) ?_
  refine r_iald F (len := 8) (j := 5) e_X10_takeText_113 h10476 (fun _ h => h) (by decide) (by decide) (by unfold vp_in; decide) (fun x10480 h10481 f10482 => ?_)
  refine r_iast F (g' := (⟨T, Z, u, h, P10462, L⟩ : RG)) (len := 8) (j := 1) e_X10_takeText_114 h10476 (fun _ h => h) (fun f h => ⟨f, rfl, h⟩) (by decide) (by decide) (by decide) (by unfold vp_in; decide) trivial (fun _ _ _ h => h) (fun _ _ _ h => h) (fun σ10483 h10484 g10485 f10486 g10487 => ?_)
  refine m_aload_n F rfl e_X10_takeText_115 ?_
  refine r_getC F e_X10_takeText_116 fl_X10_34 h10484 ((fld_eq (g10485 _ (by omega))).trans ((fld_eq (g10477 _ (by omega))).trans ((fld_eq (g10469 _ (by omega))).trans ((fld_eq (g10459 _ (by omega))).trans ((fld_eq (g10450 _ (by omega))).trans ((fld_eq (g10442 _ (by omega))).trans ((fld_eq (g10434 _ (by omega))).trans ((fld_eq (g10425 _ (by omega))).trans ((fld_eq (g10415 _ (by omega))).trans ((fld_eq (g10405 _ (by omega))).trans f10399)))))))))) ?_
  refine m_iload_n F rfl e_X10_takeText_119 ?_
  refine m_aload_n F rfl e_X10_takeText_120 ?_
  refine r_getC F e_X10_takeText_121 fl_X10_34 h10484 ((fld_eq (g10485 _ (by omega))).trans ((fld_eq (g10477 _ (by omega))).trans ((fld_eq (g10469 _ (by omega))).trans ((fld_eq (g10459 _ (by omega))).trans ((fld_eq (g10450 _ (by omega))).trans ((fld_eq (g10442 _ (by omega))).trans ((fld_eq (g10434 _ (by omega))).trans ((fld_eq (g10425 _ (by omega))).trans ((fld_eq (g10415 _ (by omega))).trans ((fld_eq (g10405 _ (by omega))).trans f10399)))))))))) ?_
  refine m_iconst F (v := 4) (by decide) e_X10_takeText_124 ?_
  refine m_iload_n F rfl e_X10_takeText_125 ?_
  refine m_iadd F e_X10_takeText_126 ?_
  refine Wm.topE (w := 5) (by decide) ?_
  refine r_iald F (len := 8) (j := 5) e_X10_takeText_127 h10484 (fun _ h => h) (by decide) (by decide) (by unfold vp_in; decide) (fun x10488 h10489 f10490 => ?_)
  refine r_iast F (g' := (⟨T, Z, u, h, P10462, L⟩ : RG)) (len := 8) (j := 1) e_X10_takeText_128 h10484 (fun _ h => h) (fun f h => ⟨f, rfl, h⟩) (by decide) (by decide) (by decide) (by unfold vp_in; decide) trivial (fun _ _ _ h => h) (fun _ _ _ h => h) (fun σ10491 h10492 g10493 f10494 g10495 => ?_)
  refine m_aload_n F rfl e_X10_takeText_129 ?_
  refine r_getC F e_X10_takeText_130 fl_X10_46 h10492 ((fld_eq (g10493 _ (by omega))).trans ((fld_eq (g10485 _ (by omega))).trans ((fld_eq (g10477 _ (by omega))).trans ((fld_eq (g10469 _ (by omega))).trans ((fld_eq (g10459 _ (by omega))).trans ((fld_eq (g10450 _ (by omega))).trans ((fld_eq (g10442 _ (by omega))).trans ((fld_eq (g10434 _ (by omega))).trans ((fld_eq (g10425 _ (by omega))).trans ((fld_eq (g10415 _ (by omega))).trans f10408)))))))))) ?_
  refine m_iload_n F rfl e_X10_takeText_133 ?_
  refine m_aload_n F rfl e_X10_takeText_134 ?_
  refine r_getC F e_X10_takeText_135 fl_X10_46 h10492 ((fld_eq (g10493 _ (by omega))).trans ((fld_eq (g10485 _ (by omega))).trans ((fld_eq (g10477 _ (by omega))).trans ((fld_eq (g10469 _ (by omega))).trans ((fld_eq (g10459 _ (by omega))).trans ((fld_eq (g10450 _ (by omega))).trans ((fld_eq (g10442 _ (by omega))).trans ((fld_eq (g10434 _ (by omega))).trans ((fld_eq (g10425 _ (by omega))).trans ((fld_eq (g10415 _ (by omega))).trans f10408)))))))))) ?_
  refine m_iconst F (v := 4) (by decide) e_X10_takeText_138 ?_
  refine m_iload_n F rfl e_X10_takeText_139 ?_
  refine m_iadd F e_X10_takeText_140 ?_
  refine Wm.topE (w := 5) (by decide) ?_
  refine r_iald F (len := 8) (j := 5) e_X10_takeText_141 h10492 (fun _ h => h) (by decide) (by decide) (by unfold vp_in; decide) (fun x10496 h10497 f10498 => ?_)
  obtain ⟨n10499, hn10499, rfl⟩ := h10497
  refine r_iast F (g' := (⟨T, Z, u, h, P10462, L⟩ : RG)) (len := 8) (j := 1) e_X10_takeText_142 h10492 (fun _ h => h) (fun f h => ⟨f, rfl, h⟩) (by decide) (by decide) (by decide) (by unfold vp_in; decide) ⟨n10499, by omega, rfl⟩ (fun _ _ _ h => h) (fun _ _ _ h => h) (fun σ10500 h10501 g10502 f10503 g10504 => ?_)
  refine m_aload_n F rfl e_X10_takeText_143 ?_
  refine r_getC F e_X10_takeText_144 fl_X10_49 h10501 ((fld_eq (g10502 _ (by omega))).trans ((fld_eq (g10493 _ (by omega))).trans ((fld_eq (g10485 _ (by omega))).trans ((fld_eq (g10477 _ (by omega))).trans ((fld_eq (g10469 _ (by omega))).trans ((fld_eq (g10459 _ (by omega))).trans ((fld_eq (g10450 _ (by omega))).trans ((fld_eq (g10442 _ (by omega))).trans ((fld_eq (g10434 _ (by omega))).trans ((fld_eq (g10425 _ (by omega))).trans f10418)))))))))) ?_
  refine m_iload_n F rfl e_X10_takeText_147 ?_
  refine m_aload_n F rfl e_X10_takeText_148 ?_
  refine r_getC F e_X10_takeText_149 fl_X10_49 h10501 ((fld_eq (g10502 _ (by omega))).trans ((fld_eq (g10493 _ (by omega))).trans ((fld_eq (g10485 _ (by omega))).trans ((fld_eq (g10477 _ (by omega))).trans ((fld_eq (g10469 _ (by omega))).trans ((fld_eq (g10459 _ (by omega))).trans ((fld_eq (g10450 _ (by omega))).trans ((fld_eq (g10442 _ (by omega))).trans ((fld_eq (g10434 _ (by omega))).trans ((fld_eq (g10425 _ (by omega))).trans f10418)))))))))) ?_
  refine m_iconst F (v := 4) (by decide) e_X10_takeText_152 ?_
  refine m_iload_n F rfl e_X10_takeText_153 ?_
  refine m_iadd F e_X10_takeText_154 ?_
  refine Wm.topE (w := 5) (by decide) ?_
  refine r_iald F (len := 8) (j := 5) e_X10_takeText_155 h10501 (fun _ h => h) (by decide) (by decide) (by unfold vp_in; decide) (fun x10505 h10506 f10507 => ?_)
  obtain ⟨n10508, hn10508, rfl⟩ := h10506
  refine r_iast F (g' := (⟨T, Z, u, h, P10462, L⟩ : RG)) (len := 8) (j := 1) e_X10_takeText_156 h10501 (fun _ h => h) (fun f h => ⟨f, rfl, h⟩) (by decide) (by decide) (by decide) (by unfold vp_in; decide) ⟨n10508, by omega, rfl⟩ (fun _ _ _ h => h) (fun _ _ _ h => h) (fun σ10509 h10510 g10511 f10512 g10513 => ?_)
  refine m_aload_n F rfl e_X10_takeText_157 ?_
  refine r_getC F e_X10_takeText_158 fl_X10_52 h10510 ((fld_eq (g10511 _ (by omega))).trans ((fld_eq (g10502 _ (by omega))).trans ((fld_eq (g10493 _ (by omega))).trans ((fld_eq (g10485 _ (by omega))).trans ((fld_eq (g10477 _ (by omega))).trans ((fld_eq (g10469 _ (by omega))).trans ((fld_eq (g10459 _ (by omega))).trans ((fld_eq (g10450 _ (by omega))).trans ((fld_eq (g10442 _ (by omega))).trans ((fld_eq (g10434 _ (by omega))).trans f10428)))))))))) ?_
  refine m_iload_n F rfl e_X10_takeText_161 ?_
  refine m_aload_n F rfl e_X10_takeText_162 ?_
  refine r_getC F e_X10_takeText_163 fl_X10_52 h10510 ((fld_eq (g10511 _ (by omega))).trans ((fld_eq (g10502 _ (by omega))).trans ((fld_eq (g10493 _ (by omega))).trans ((fld_eq (g10485 _ (by omega))).trans ((fld_eq (g10477 _ (by omega))).trans ((fld_eq (g10469 _ (by omega))).trans ((fld_eq (g10459 _ (by omega))).trans ((fld_eq (g10450 _ (by omega))).trans ((fld_eq (g10442 _ (by omega))).trans ((fld_eq (g10434 _ (by omega))).trans f10428)))))))))) ?_
  refine m_iconst F (v := 4) (by decide) e_X10_takeText_166 ?_
  refine m_iload_n F rfl e_X10_takeText_167 ?_
  refine m_iadd F e_X10_takeText_168 ?_
  refine Wm.topE (w := 5) (by decide) ?_
  refine r_iald F (len := 8) (j := 5) e_X10_takeText_169 h10510 (fun _ h => h) (by decide) (by decide) (by unfold vp_in; decide) (fun x10514 h10515 f10516 => ?_)
  refine r_iast F (g' := (⟨T, Z, u, h, P10462, L⟩ : RG)) (len := 8) (j := 1) e_X10_takeText_170 h10510 (fun _ h => h) (fun f h => ⟨f, rfl, h⟩) (by decide) (by decide) (by decide) (by unfold vp_in; decide) trivial (fun _ _ _ h => h) (fun _ _ _ h => h) (fun σ10517 h10518 g10519 f10520 g10521 => ?_)
  refine m_iinc F (v := 2) (lv' := [(1, .int 2), (0, .ref c)]) e_X10_takeText_171 rfl (by decide) (by decide) rfl ?_
  refine m_goto F e_X10_takeText_174 ?_
  refine m_iload_n F rfl e_X10_takeText_26 ?_
  refine m_iconst F (v := 4) (by decide) e_X10_takeText_27 ?_
  refine m_icmp_ge F e_X10_takeText_28 (fun q => absurd q (by decide)) (fun _ => ?_)
  refine m_aload_n F rfl e_X10_takeText_31 ?_
  refine r_getC F e_X10_takeText_32 fl_X10_16 h10518 ((fld_eq (g10519 _ (by omega))).trans ((fld_eq (g10511 _ (by omega))).trans ((fld_eq (g10502 _ (by omega))).trans ((fld_eq (g10493 _ (by omega))).trans ((fld_eq (g10485 _ (by omega))).trans ((fld_eq (g10477 _ (by omega))).trans ((fld_eq (g10469 _ (by omega))).trans ((fld_eq (g10459 _ (by omega))).trans ((fld_eq (g10450 _ (by omega))).trans ((fld_eq (g10442 _ (by omega))).trans ((fld_eq (g10434 _ (by omega))).trans ((fld_eq (g10425 _ (by omega))).trans ((fld_eq (g10415 _ (by omega))).trans ((fld_eq (g10405 _ (by omega))).trans ((fld_eq (g10396 _ (by omega))).trans ((fld_eq (g10387 _ (by omega))).trans ((fld_eq (g10378 _ (by omega))).trans ((fld_eq (g10367 _ (by omega))).trans ((fld_eq (g10357 _ (by omega))).trans ((fld_eq (g10348 _ (by omega))).trans f10342)))))))))))))))))))) ?_
  refine m_iload_n F rfl e_X10_takeText_35 ?_
  refine m_aload_n F rfl e_X10_takeText_36 ?_
  refine r_getC F e_X10_takeText_37 fl_X10_16 h10518 ((fld_eq (g10519 _ (by omega))).trans ((fld_eq (g10511 _ (by omega))).trans ((fld_eq (g10502 _ (by omega))).trans ((fld_eq (g10493 _ (by omega))).trans ((fld_eq (g10485 _ (by omega))).trans ((fld_eq (g10477 _ (by omega))).trans ((fld_eq (g10469 _ (by omega))).trans ((fld_eq (g10459 _ (by omega))).trans ((fld_eq (g10450 _ (by omega))).trans ((fld_eq (g10442 _ (by omega))).trans ((fld_eq (g10434 _ (by omega))).trans ((fld_eq (g10425 _ (by omega))).trans ((fld_eq (g10415 _ (by omega))).trans ((fld_eq (g10405 _ (by omega))).trans ((fld_eq (g10396 _ (by omega))).trans ((fld_eq (g10387 _ (by omega))).trans ((fld_eq (g10378 _ (by omega))).trans ((fld_eq (g10367 _ (by omega))).trans ((fld_eq (g10357 _ (by omega))).trans ((fld_eq (g10348 _ (by omega))).trans f10342)))))))))))))))))))) ?_
  refine m_iconst F (v := 4) (by decide) e_X10_takeText_40 ?_
  refine m_iload_n F rfl e_X10_takeText_41 ?_
  refine m_iadd F e_X10_takeText_42 ?_
  refine Wm.topE (w := 6) (by decide) ?_
  refine r_iald F (len := 8) (j := 6) e_X10_takeText_43 h10518 (fun _ h => h) (by decide) (by decide) (by unfold vp_in; decide) (fun x10522 h10523 f10524 => ?_)
  refine r_iast F (g' := (⟨T, Z, u, h, P10462, L⟩ : RG)) (len := 8) (j := 2) e_X10_takeText_44 h10518 (fun _ h => h) (fun f h => ⟨f, rfl, h⟩) (by decide) (by decide) (by decide) (by unfold vp_in; decide) trivial (fun _ _ _ h => h) (fun _ _ _ h => h) (fun σ10525 h10526 g10527 f10528 g10529 => ?_)
  refine m_aload_n F rfl e_X10_takeText_45 ?_
  refine r_getC F e_X10_takeText_46 fl_X10_19 h10526 ((fld_eq (g10527 _ (by omega))).trans ((fld_eq (g10519 _ (by omega))).trans ((fld_eq (g10511 _ (by omega))).trans ((fld_eq (g10502 _ (by omega))).trans ((fld_eq (g10493 _ (by omega))).trans ((fld_eq (g10485 _ (by omega))).trans ((fld_eq (g10477 _ (by omega))).trans ((fld_eq (g10469 _ (by omega))).trans ((fld_eq (g10459 _ (by omega))).trans ((fld_eq (g10450 _ (by omega))).trans ((fld_eq (g10442 _ (by omega))).trans ((fld_eq (g10434 _ (by omega))).trans ((fld_eq (g10425 _ (by omega))).trans ((fld_eq (g10415 _ (by omega))).trans ((fld_eq (g10405 _ (by omega))).trans ((fld_eq (g10396 _ (by omega))).trans ((fld_eq (g10387 _ (by omega))).trans ((fld_eq (g10378 _ (by omega))).trans ((fld_eq (g10367 _ (by omega))).trans ((fld_eq (g10357 _ (by omega))).trans f10351)))))))))))))))))))) ?_
  refine m_iload_n F rfl e_X10_takeText_49 ?_
  refine m_aload_n F rfl e_X10_takeText_50 ?_
  refine r_getC F e_X10_takeText_51 fl_X10_19 h10526 ((fld_eq (g10527 _ (by omega))).trans ((fld_eq (g10519 _ (by omega))).trans ((fld_eq (g10511 _ (by omega))).trans ((fld_eq (g10502 _ (by omega))).trans ((fld_eq (g10493 _ (by omega))).trans ((fld_eq (g10485 _ (by omega))).trans ((fld_eq (g10477 _ (by omega))).trans ((fld_eq (g10469 _ (by omega))).trans ((fld_eq (g10459 _ (by omega))).trans ((fld_eq (g10450 _ (by omega))).trans ((fld_eq (g10442 _ (by omega))).trans ((fld_eq (g10434 _ (by omega))).trans ((fld_eq (g10425 _ (by omega))).trans ((fld_eq (g10415 _ (by omega))).trans ((fld_eq (g10405 _ (by omega))).trans ((fld_eq (g10396 _ (by omega))).trans ((fld_eq (g10387 _ (by omega))).trans ((fld_eq (g10378 _ (by omega))).trans ((fld_eq (g10367 _ (by omega))).trans ((fld_eq (g10357 _ (by omega))).trans f10351)))))))))))))))))))) ?_
  refine m_iconst F (v := 4) (by decide) e_X10_takeText_54 ?_
  refine m_iload_n F rfl e_X10_takeText_55 ?_
  refine m_iadd F e_X10_takeText_56 ?_
  refine Wm.topE (w := 6) (by decide) ?_
  refine r_iald F (len := 8) (j := 6) e_X10_takeText_57 h10526 (fun _ h => h) (by decide) (by decide) (by unfold vp_in; decide) (fun x10530 h10531 f10532 => ?_)
  refine r_iast F (g' := (⟨T, Z, u, h, P10462, L⟩ : RG)) (len := 8) (j := 2) e_X10_takeText_58 h10526 (fun _ h => h) (fun f h => ⟨f, rfl, h⟩) (by decide) (by decide) (by decide) (by unfold vp_in; decide) trivial (fun _ _ _ h => h) (fun _ _ _ h => h) (fun σ10533 h10534 g10535 f10536 g10537 => ?_)
  refine m_aload_n F rfl e_X10_takeText_59 ?_
  refine r_getC F e_X10_takeText_60 fl_X10_22 h10534 ((fld_eq (g10535 _ (by omega))).trans ((fld_eq (g10527 _ (by omega))).trans ((fld_eq (g10519 _ (by omega))).trans ((fld_eq (g10511 _ (by omega))).trans ((fld_eq (g10502 _ (by omega))).trans ((fld_eq (g10493 _ (by omega))).trans ((fld_eq (g10485 _ (by omega))).trans ((fld_eq (g10477 _ (by omega))).trans ((fld_eq (g10469 _ (by omega))).trans ((fld_eq (g10459 _ (by omega))).trans ((fld_eq (g10450 _ (by omega))).trans ((fld_eq (g10442 _ (by omega))).trans ((fld_eq (g10434 _ (by omega))).trans ((fld_eq (g10425 _ (by omega))).trans ((fld_eq (g10415 _ (by omega))).trans ((fld_eq (g10405 _ (by omega))).trans ((fld_eq (g10396 _ (by omega))).trans ((fld_eq (g10387 _ (by omega))).trans ((fld_eq (g10378 _ (by omega))).trans ((fld_eq (g10367 _ (by omega))).trans f10360)))))))))))))))))))) ?_
  refine m_iload_n F rfl e_X10_takeText_63 ?_
  refine m_aload_n F rfl e_X10_takeText_64 ?_
  refine r_getC F e_X10_takeText_65 fl_X10_22 h10534 ((fld_eq (g10535 _ (by omega))).trans ((fld_eq (g10527 _ (by omega))).trans ((fld_eq (g10519 _ (by omega))).trans ((fld_eq (g10511 _ (by omega))).trans ((fld_eq (g10502 _ (by omega))).trans ((fld_eq (g10493 _ (by omega))).trans ((fld_eq (g10485 _ (by omega))).trans ((fld_eq (g10477 _ (by omega))).trans ((fld_eq (g10469 _ (by omega))).trans ((fld_eq (g10459 _ (by omega))).trans ((fld_eq (g10450 _ (by omega))).trans ((fld_eq (g10442 _ (by omega))).trans ((fld_eq (g10434 _ (by omega))).trans ((fld_eq (g10425 _ (by omega))).trans ((fld_eq (g10415 _ (by omega))).trans ((fld_eq (g10405 _ (by omega))).trans ((fld_eq (g10396 _ (by omega))).trans ((fld_eq (g10387 _ (by omega))).trans ((fld_eq (g10378 _ (by omega))).trans ((fld_eq (g10367 _ (by omega))).trans f10360)))))))))))))))))))) ?_
  refine m_iconst F (v := 4) (by decide) e_X10_takeText_68 ?_
  refine m_iload_n F rfl e_X10_takeText_69 ?_
  refine m_iadd F e_X10_takeText_70 ?_
  refine Wm.topE (w := 6) (by decide) ?_
  refine r_iald F (len := 8) (j := 6) e_X10_takeText_71 h10534 (fun _ h => h) (by decide) (by decide) (by unfold vp_in; decide) (fun x10538 h10539 f10540 => ?_)
  obtain ⟨n10541, hn10541, rfl, pn10541, rn10541⟩ := h10539
  refine r_iast F (g' := (⟨T, Z, u, h, (mkP P10462.n0 P10462.n2 P10462.n5 P10462.n7 (min 3 P10462.m5) P10462.m5 P10462.w2 P10462.w7 P10462.kk P10462.a P10462.f P10462.p), L⟩ : RG)) (len := 8) (j := 2) e_X10_takeText_72 h10534 (fun _ h => h) (fun f h => ⟨f, rfl, h⟩) (by decide) (by decide) (by decide) (by unfold vp_in; decide) ⟨n10541, by omega, rfl, fun _ h8 => rn10541 (by omega) (show 6 < 4 + P10462.m5 by have h6 : 2 < min 3 P10462.m5 := h8; omega), fun h7 _ => absurd h7 (by omega)⟩ (fun i hi y hy => by obtain ⟨n9, a9, b9, c9, d9⟩ := hy; exact ⟨n9, a9, b9, fun h7 h8 => c9 h7 (show i < P10462.m0 by have h6 : i < min 3 P10462.m5 := h8; omega), d9⟩) (CR.chg (by intro k hk i x h; unfold EI at h ⊢; split at h <;> first | exact h | exact absurd rfl hk | trivial) rfl rfl rfl rfl) (fun σ10542 h10543 g10544 f10545 g10546 => ?_)
  obtain ⟨P10547, eP10547⟩ : ∃ P9, P9 = (mkP P10462.n0 P10462.n2 P10462.n5 P10462.n7 (min 3 P10462.m5) P10462.m5 P10462.w2 P10462.w7 P10462.kk P10462.a P10462.f P10462.p) := ⟨_, rfl⟩
  rw [← eP10547] at h10543
  have fP10547 : P10547.n0 = P10462.n0 ∧ P10547.n2 = P10462.n2 ∧ P10547.n5 = P10462.n5 ∧ P10547.n7 = P10462.n7 ∧ P10547.m0 = min 3 P10462.m5 ∧ P10547.m5 = P10462.m5 ∧ P10547.w2 = P10462.w2 ∧ P10547.w7 = P10462.w7 ∧ P10547.kk = P10462.kk ∧ P10547.a = P10462.a ∧ P10547.f = P10462.f ∧ P10547.p = P10462.p := by rw [eP10547]; exact ⟨rfl, rfl, rfl, rfl, rfl, rfl, rfl, rfl, rfl, rfl, rfl, rfl⟩
  refine m_aload_n F rfl e_X10_takeText_73 ?_
  refine r_getC F e_X10_takeText_74 fl_X10_25 h10543 ((fld_eq (g10544 _ (by omega))).trans ((fld_eq (g10535 _ (by omega))).trans ((fld_eq (g10527 _ (by omega))).trans ((fld_eq (g10519 _ (by omega))).trans ((fld_eq (g10511 _ (by omega))).trans ((fld_eq (g10502 _ (by omega))).trans ((fld_eq (g10493 _ (by omega))).trans ((fld_eq (g10485 _ (by omega))).trans ((fld_eq (g10477 _ (by omega))).trans ((fld_eq (g10469 _ (by omega))).trans ((fld_eq (g10459 _ (by omega))).trans ((fld_eq (g10450 _ (by omega))).trans ((fld_eq (g10442 _ (by omega))).trans ((fld_eq (g10434 _ (by omega))).trans ((fld_eq (g10425 _ (by omega))).trans ((fld_eq (g10415 _ (by omega))).trans ((fld_eq (g10405 _ (by omega))).trans ((fld_eq (g10396 _ (by omega))).trans ((fld_eq (g10387 _ (by omega))).trans ((fld_eq (g10378 _ (by omega))).trans f10371)))))))))))))))))))) ?_
  refine m_iload_n F rfl e_X10_takeText_77 ?_
  refine m_aload_n F rfl e_X10_takeText_78 ?_
  refine r_getC F e_X10_takeText_79 fl_X10_25 h10543 ((fld_eq (g10544 _ (by omega))).trans ((fld_eq (g10535 _ (by omega))).trans ((fld_eq (g10527 _ (by omega))).trans ((fld_eq (g10519 _ (by omega))).trans ((fld_eq (g10511 _ (by omega))).trans ((fld_eq (g10502 _ (by omega))).trans ((fld_eq (g10493 _ (by omega))).trans ((fld_eq (g10485 _ (by omega))).trans ((fld_eq (g10477 _ (by omega))).trans ((fld_eq (g10469 _ (by omega))).trans ((fld_eq (g10459 _ (by omega))).trans ((fld_eq (g10450 _ (by omega))).trans ((fld_eq (g10442 _ (by omega))).trans ((fld_eq (g10434 _ (by omega))).trans ((fld_eq (g10425 _ (by omega))).trans ((fld_eq (g10415 _ (by omega))).trans ((fld_eq (g10405 _ (by omega))).trans ((fld_eq (g10396 _ (by omega))).trans ((fld_eq (g10387 _ (by omega))).trans ((fld_eq (g10378 _ (by omega))).trans f10371)))))))))))))))))))) ?_
  refine m_iconst F (v := 4) (by decide) e_X10_takeText_82 ?_
  refine m_iload_n F rfl e_X10_takeText_83 ?_
  refine m_iadd F e_X10_takeText_84 ?_
  refine Wm.topE (w := 6) (by decide) ?_
  refine r_iald F (len := 8) (j := 6) e_X10_takeText_85 h10543 (fun _ h => h) (by decide) (by decide) (by unfold vp_in; decide) (fun x10548 h10549 f10550 => ?_)
  obtain ⟨n10551, hn10551, rfl⟩ := h10549
  refine r_iast F (g' := (⟨T, Z, u, h, P10547, L⟩ : RG)) (len := 8) (j := 2) e_X10_takeText_86 h10543 (fun _ h => h) (fun f h => ⟨f, rfl, h⟩) (by decide) (by decide) (by decide) (by unfold vp_in; decide) ⟨n10551, by omega, rfl⟩ (fun _ _ _ h => h) (fun _ _ _ h => h) (fun σ10552 h10553 g10554 f10555 g10556 => ?_)
  refine m_aload_n F rfl e_X10_takeText_87 ?_
  refine r_getC F e_X10_takeText_88 fl_X10_28 h10553 ((fld_eq (g10554 _ (by omega))).trans ((fld_eq (g10544 _ (by omega))).trans ((fld_eq (g10535 _ (by omega))).trans ((fld_eq (g10527 _ (by omega))).trans ((fld_eq (g10519 _ (by omega))).trans ((fld_eq (g10511 _ (by omega))).trans ((fld_eq (g10502 _ (by omega))).trans ((fld_eq (g10493 _ (by omega))).trans ((fld_eq (g10485 _ (by omega))).trans ((fld_eq (g10477 _ (by omega))).trans ((fld_eq (g10469 _ (by omega))).trans ((fld_eq (g10459 _ (by omega))).trans ((fld_eq (g10450 _ (by omega))).trans ((fld_eq (g10442 _ (by omega))).trans ((fld_eq (g10434 _ (by omega))).trans ((fld_eq (g10425 _ (by omega))).trans ((fld_eq (g10415 _ (by omega))).trans ((fld_eq (g10405 _ (by omega))).trans ((fld_eq (g10396 _ (by omega))).trans ((fld_eq (g10387 _ (by omega))).trans f10381)))))))))))))))))))) ?_
  refine m_iload_n F rfl e_X10_takeText_91 ?_
  refine m_aload_n F rfl e_X10_takeText_92 ?_
  refine r_getC F e_X10_takeText_93 fl_X10_28 h10553 ((fld_eq (g10554 _ (by omega))).trans ((fld_eq (g10544 _ (by omega))).trans ((fld_eq (g10535 _ (by omega))).trans ((fld_eq (g10527 _ (by omega))).trans ((fld_eq (g10519 _ (by omega))).trans ((fld_eq (g10511 _ (by omega))).trans ((fld_eq (g10502 _ (by omega))).trans ((fld_eq (g10493 _ (by omega))).trans ((fld_eq (g10485 _ (by omega))).trans ((fld_eq (g10477 _ (by omega))).trans ((fld_eq (g10469 _ (by omega))).trans ((fld_eq (g10459 _ (by omega))).trans ((fld_eq (g10450 _ (by omega))).trans ((fld_eq (g10442 _ (by omega))).trans ((fld_eq (g10434 _ (by omega))).trans ((fld_eq (g10425 _ (by omega))).trans ((fld_eq (g10415 _ (by omega))).trans ((fld_eq (g10405 _ (by omega))).trans ((fld_eq (g10396 _ (by omega))).trans ((fld_eq (g10387 _ (by omega))).trans f10381)))))))))))))))))))) ?_
  refine m_iconst F (v := 4) (by decide) e_X10_takeText_96 ?_
  refine m_iload_n F rfl e_X10_takeText_97 ?_
  refine m_iadd F e_X10_takeText_98 ?_
  refine Wm.topE (w := 6) (by decide) ?_
  refine r_iald F (len := 8) (j := 6) e_X10_takeText_99 h10553 (fun _ h => h) (by decide) (by decide) (by unfold vp_in; decide) (fun x10557 h10558 f10559 => ?_)
  refine r_iast F (g' := (⟨T, Z, u, h, P10547, L⟩ : RG)) (len := 8) (j := 2) e_X10_takeText_100 h10553 (fun _ h => h) (fun f h => ⟨f, rfl, h⟩) (by decide) (by decide) (by decide) (by unfold vp_in; decide) trivial (fun _ _ _ h => h) (fun _ _ _ h => h) (fun σ10560 h10561 g10562 f10563 g10564 => ?_)
  refine m_aload_n F rfl e_X10_takeText_101 ?_
  refine r_getC F e_X10_takeText_102 fl_X10_31 h10561 ((fld_eq (g10562 _ (by omega))).trans ((fld_eq (g10554 _ (by omega))).trans ((fld_eq (g10544 _ (by omega))).trans ((fld_eq (g10535 _ (by omega))).trans ((fld_eq (g10527 _ (by omega))).trans ((fld_eq (g10519 _ (by omega))).trans ((fld_eq (g10511 _ (by omega))).trans ((fld_eq (g10502 _ (by omega))).trans ((fld_eq (g10493 _ (by omega))).trans ((fld_eq (g10485 _ (by omega))).trans ((fld_eq (g10477 _ (by omega))).trans ((fld_eq (g10469 _ (by omega))).trans ((fld_eq (g10459 _ (by omega))).trans ((fld_eq (g10450 _ (by omega))).trans ((fld_eq (g10442 _ (by omega))).trans ((fld_eq (g10434 _ (by omega))).trans ((fld_eq (g10425 _ (by omega))).trans ((fld_eq (g10415 _ (by omega))).trans ((fld_eq (g10405 _ (by omega))).trans ((fld_eq (g10396 _ (by omega))).trans f10390)))))))))))))))))))) ?_
  refine m_iload_n F rfl e_X10_takeText_105 ?_
  refine m_aload_n F rfl e_X10_takeText_106 ?_
  refine r_getC F e_X10_takeText_107 fl_X10_31 h10561 ((fld_eq (g10562 _ (by omega))).trans ((fld_eq (g10554 _ (by omega))).trans ((fld_eq (g10544 _ (by omega))).trans ((fld_eq (g10535 _ (by omega))).trans ((fld_eq (g10527 _ (by omega))).trans ((fld_eq (g10519 _ (by omega))).trans ((fld_eq (g10511 _ (by omega))).trans ((fld_eq (g10502 _ (by omega))).trans ((fld_eq (g10493 _ (by omega))).trans ((fld_eq (g10485 _ (by omega))).trans ((fld_eq (g10477 _ (by omega))).trans ((fld_eq (g10469 _ (by omega))).trans ((fld_eq (g10459 _ (by omega))).trans ((fld_eq (g10450 _ (by omega))).trans ((fld_eq (g10442 _ (by omega))).trans ((fld_eq (g10434 _ (by omega))).trans ((fld_eq (g10425 _ (by omega))).trans ((fld_eq (g10415 _ (by omega))).trans ((fld_eq (g10405 _ (by omega))).trans ((fld_eq (g10396 _ (by omega))).trans f10390)))))))))))))))))))) ?_
  refine m_iconst F (v := 4) (by decide) e_X10_takeText_110 ?_
  refine m_iload_n F rfl e_X10_takeText_111 ?_
  refine m_iadd F e_X10_takeText_112 ?_
  refine Wm.topE (w := 6) (by decide) ?_
  refine r_iald F (len := 8) (j := 6) e_X10_takeText_113 h10561 (fun _ h => h) (by decide) (by decide) (by unfold vp_in; decide) (fun x10565 h10566 f10567 => ?_)
  refine r_iast F (g' := (⟨T, Z, u, h, P10547, L⟩ : RG)) (len := 8) (j := 2) e_X10_takeText_114 h10561 (fun _ h => h) (fun f h => ⟨f, rfl, h⟩) (by decide) (by decide) (by decide) (by unfold vp_in; decide) trivial (fun _ _ _ h => h) (fun _ _ _ h => h) (fun σ10568 h10569 g10570 f10571 g10572 => ?_)
  refine m_aload_n F rfl e_X10_takeText_115 ?_
  refine r_getC F e_X10_takeText_116 fl_X10_34 h10569 ((fld_eq (g10570 _ (by omega))).trans ((fld_eq (g10562 _ (by omega))).trans ((fld_eq (g10554 _ (by omega))).trans ((fld_eq (g10544 _ (by omega))).trans ((fld_eq (g10535 _ (by omega))).trans ((fld_eq (g10527 _ (by omega))).trans ((fld_eq (g10519 _ (by omega))).trans ((fld_eq (g10511 _ (by omega))).trans ((fld_eq (g10502 _ (by omega))).trans ((fld_eq (g10493 _ (by omega))).trans ((fld_eq (g10485 _ (by omega))).trans ((fld_eq (g10477 _ (by omega))).trans ((fld_eq (g10469 _ (by omega))).trans ((fld_eq (g10459 _ (by omega))).trans ((fld_eq (g10450 _ (by omega))).trans ((fld_eq (g10442 _ (by omega))).trans ((fld_eq (g10434 _ (by omega))).trans ((fld_eq (g10425 _ (by omega))).trans ((fld_eq (g10415 _ (by omega))).trans ((fld_eq (g10405 _ (by omega))).trans f10399)))))))))))))))))))) ?_
  refine m_iload_n F rfl e_X10_takeText_119 ?_
  refine m_aload_n F rfl e_X10_takeText_120 ?_
  refine r_getC F e_X10_takeText_121 fl_X10_34 h10569 ((fld_eq (g10570 _ (by omega))).trans ((fld_eq (g10562 _ (by omega))).trans ((fld_eq (g10554 _ (by omega))).trans ((fld_eq (g10544 _ (by omega))).trans ((fld_eq (g10535 _ (by omega))).trans ((fld_eq (g10527 _ (by omega))).trans ((fld_eq (g10519 _ (by omega))).trans ((fld_eq (g10511 _ (by omega))).trans ((fld_eq (g10502 _ (by omega))).trans ((fld_eq (g10493 _ (by omega))).trans ((fld_eq (g10485 _ (by omega))).trans ((fld_eq (g10477 _ (by omega))).trans ((fld_eq (g10469 _ (by omega))).trans ((fld_eq (g10459 _ (by omega))).trans ((fld_eq (g10450 _ (by omega))).trans ((fld_eq (g10442 _ (by omega))).trans ((fld_eq (g10434 _ (by omega))).trans ((fld_eq (g10425 _ (by omega))).trans ((fld_eq (g10415 _ (by omega))).trans ((fld_eq (g10405 _ (by omega))).trans f10399)))))))))))))))))))) ?_
  refine m_iconst F (v := 4) (by decide) e_X10_takeText_124 ?_
  refine m_iload_n F rfl e_X10_takeText_125 ?_
  refine m_iadd F e_X10_takeText_126 ?_
  refine Wm.topE (w := 6) (by decide) ?_
  refine r_iald F (len := 8) (j := 6) e_X10_takeText_127 h10569 (fun _ h => h) (by decide) (by decide) (by unfold vp_in; decide) (fun x10573 h10574 f10575 => ?_)
  refine r_iast F (g' := (⟨T, Z, u, h, P10547, L⟩ : RG)) (len := 8) (j := 2) e_X10_takeText_128 h10569 (fun _ h => h) (fun f h => ⟨f, rfl, h⟩) (by decide) (by decide) (by decide) (by unfold vp_in; decide) trivial (fun _ _ _ h => h) (fun _ _ _ h => h) (fun σ10576 h10577 g10578 f10579 g10580 => ?_)
  refine m_aload_n F rfl e_X10_takeText_129 ?_
  refine r_getC F e_X10_takeText_130 fl_X10_46 h10577 ((fld_eq (g10578 _ (by omega))).trans ((fld_eq (g10570 _ (by omega))).trans ((fld_eq (g10562 _ (by omega))).trans ((fld_eq (g10554 _ (by omega))).trans ((fld_eq (g10544 _ (by omega))).trans ((fld_eq (g10535 _ (by omega))).trans ((fld_eq (g10527 _ (by omega))).trans ((fld_eq (g10519 _ (by omega))).trans ((fld_eq (g10511 _ (by omega))).trans ((fld_eq (g10502 _ (by omega))).trans ((fld_eq (g10493 _ (by omega))).trans ((fld_eq (g10485 _ (by omega))).trans ((fld_eq (g10477 _ (by omega))).trans ((fld_eq (g10469 _ (by omega))).trans ((fld_eq (g10459 _ (by omega))).trans ((fld_eq (g10450 _ (by omega))).trans ((fld_eq (g10442 _ (by omega))).trans ((fld_eq (g10434 _ (by omega))).trans ((fld_eq (g10425 _ (by omega))).trans ((fld_eq (g10415 _ (by omega))).trans f10408)))))))))))))))))))) ?_
  refine m_iload_n F rfl e_X10_takeText_133 ?_
  refine m_aload_n F rfl e_X10_takeText_134 ?_
  refine r_getC F e_X10_takeText_135 fl_X10_46 h10577 ((fld_eq (g10578 _ (by omega))).trans ((fld_eq (g10570 _ (by omega))).trans ((fld_eq (g10562 _ (by omega))).trans ((fld_eq (g10554 _ (by omega))).trans ((fld_eq (g10544 _ (by omega))).trans ((fld_eq (g10535 _ (by omega))).trans ((fld_eq (g10527 _ (by omega))).trans ((fld_eq (g10519 _ (by omega))).trans ((fld_eq (g10511 _ (by omega))).trans ((fld_eq (g10502 _ (by omega))).trans ((fld_eq (g10493 _ (by omega))).trans ((fld_eq (g10485 _ (by omega))).trans ((fld_eq (g10477 _ (by omega))).trans ((fld_eq (g10469 _ (by omega))).trans ((fld_eq (g10459 _ (by omega))).trans ((fld_eq (g10450 _ (by omega))).trans ((fld_eq (g10442 _ (by omega))).trans ((fld_eq (g10434 _ (by omega))).trans ((fld_eq (g10425 _ (by omega))).trans ((fld_eq (g10415 _ (by omega))).trans f10408)))))))))))))))))))) ?_
  refine m_iconst F (v := 4) (by decide) e_X10_takeText_138 ?_
  refine m_iload_n F rfl e_X10_takeText_139 ?_
  refine m_iadd F e_X10_takeText_140 ?_
  refine Wm.topE (w := 6) (by decide) ?_
  refine r_iald F (len := 8) (j := 6) e_X10_takeText_141 h10577 (fun _ h => h) (by decide) (by decide) (by unfold vp_in; decide) (fun x10581 h10582 f10583 => ?_)
  obtain ⟨n10584, hn10584, rfl⟩ := h10582
  refine r_iast F (g' := (⟨T, Z, u, h, P10547, L⟩ : RG)) (len := 8) (j := 2) e_X10_takeText_142 h10577 (fun _ h => h) (fun f h => ⟨f, rfl, h⟩) (by decide) (by decide) (by decide) (by unfold vp_in; decide) ⟨n10584, by omega, rfl⟩ (fun _ _ _ h => h) (fun _ _ _ h => h) (fun σ10585 h10586 g10587 f10588 g10589 => ?_)
  refine m_aload_n F rfl e_X10_takeText_143 ?_
  refine r_getC F e_X10_takeText_144 fl_X10_49 h10586 ((fld_eq (g10587 _ (by omega))).trans ((fld_eq (g10578 _ (by omega))).trans ((fld_eq (g10570 _ (by omega))).trans ((fld_eq (g10562 _ (by omega))).trans ((fld_eq (g10554 _ (by omega))).trans ((fld_eq (g10544 _ (by omega))).trans ((fld_eq (g10535 _ (by omega))).trans ((fld_eq (g10527 _ (by omega))).trans ((fld_eq (g10519 _ (by omega))).trans ((fld_eq (g10511 _ (by omega))).trans ((fld_eq (g10502 _ (by omega))).trans ((fld_eq (g10493 _ (by omega))).trans ((fld_eq (g10485 _ (by omega))).trans ((fld_eq (g10477 _ (by omega))).trans ((fld_eq (g10469 _ (by omega))).trans ((fld_eq (g10459 _ (by omega))).trans ((fld_eq (g10450 _ (by omega))).trans ((fld_eq (g10442 _ (by omega))).trans ((fld_eq (g10434 _ (by omega))).trans ((fld_eq (g10425 _ (by omega))).trans f10418)))))))))))))))))))) ?_
  refine m_iload_n F rfl e_X10_takeText_147 ?_
  refine m_aload_n F rfl e_X10_takeText_148 ?_
  refine r_getC F e_X10_takeText_149 fl_X10_49 h10586 ((fld_eq (g10587 _ (by omega))).trans ((fld_eq (g10578 _ (by omega))).trans ((fld_eq (g10570 _ (by omega))).trans ((fld_eq (g10562 _ (by omega))).trans ((fld_eq (g10554 _ (by omega))).trans ((fld_eq (g10544 _ (by omega))).trans ((fld_eq (g10535 _ (by omega))).trans ((fld_eq (g10527 _ (by omega))).trans ((fld_eq (g10519 _ (by omega))).trans ((fld_eq (g10511 _ (by omega))).trans ((fld_eq (g10502 _ (by omega))).trans ((fld_eq (g10493 _ (by omega))).trans ((fld_eq (g10485 _ (by omega))).trans ((fld_eq (g10477 _ (by omega))).trans ((fld_eq (g10469 _ (by omega))).trans ((fld_eq (g10459 _ (by omega))).trans ((fld_eq (g10450 _ (by omega))).trans ((fld_eq (g10442 _ (by omega))).trans ((fld_eq (g10434 _ (by omega))).trans ((fld_eq (g10425 _ (by omega))).trans f10418)))))))))))))))))))) ?_
  refine m_iconst F (v := 4) (by decide) e_X10_takeText_152 ?_
  refine m_iload_n F rfl e_X10_takeText_153 ?_
  refine m_iadd F e_X10_takeText_154 ?_
  refine Wm.topE (w := 6) (by decide) ?_
  refine r_iald F (len := 8) (j := 6) e_X10_takeText_155 h10586 (fun _ h => h) (by decide) (by decide) (by unfold vp_in; decide) (fun x10590 h10591 f10592 => ?_)
  obtain ⟨n10593, hn10593, rfl⟩ := h10591
  refine r_iast F (g' := (⟨T, Z, u, h, P10547, L⟩ : RG)) (len := 8) (j := 2) e_X10_takeText_156 h10586 (fun _ h => h) (fun f h => ⟨f, rfl, h⟩) (by decide) (by decide) (by decide) (by unfold vp_in; decide) ⟨n10593, by omega, rfl⟩ (fun _ _ _ h => h) (fun _ _ _ h => h) (fun σ10594 h10595 g10596 f10597 g10598 => ?_)
  refine m_aload_n F rfl e_X10_takeText_157 ?_
  refine r_getC F e_X10_takeText_158 fl_X10_52 h10595 ((fld_eq (g10596 _ (by omega))).trans ((fld_eq (g10587 _ (by omega))).trans ((fld_eq (g10578 _ (by omega))).trans ((fld_eq (g10570 _ (by omega))).trans ((fld_eq (g10562 _ (by omega))).trans ((fld_eq (g10554 _ (by omega))).trans ((fld_eq (g10544 _ (by omega))).trans ((fld_eq (g10535 _ (by omega))).trans ((fld_eq (g10527 _ (by omega))).trans ((fld_eq (g10519 _ (by omega))).trans ((fld_eq (g10511 _ (by omega))).trans ((fld_eq (g10502 _ (by omega))).trans ((fld_eq (g10493 _ (by omega))).trans ((fld_eq (g10485 _ (by omega))).trans ((fld_eq (g10477 _ (by omega))).trans ((fld_eq (g10469 _ (by omega))).trans ((fld_eq (g10459 _ (by omega))).trans ((fld_eq (g10450 _ (by omega))).trans ((fld_eq (g10442 _ (by omega))).trans ((fld_eq (g10434 _ (by omega))).trans f10428)))))))))))))))))))) ?_
  refine m_iload_n F rfl e_X10_takeText_161 ?_
  refine m_aload_n F rfl e_X10_takeText_162 ?_
  refine r_getC F e_X10_takeText_163 fl_X10_52 h10595 ((fld_eq (g10596 _ (by omega))).trans ((fld_eq (g10587 _ (by omega))).trans ((fld_eq (g10578 _ (by omega))).trans ((fld_eq (g10570 _ (by omega))).trans ((fld_eq (g10562 _ (by omega))).trans ((fld_eq (g10554 _ (by omega))).trans ((fld_eq (g10544 _ (by omega))).trans ((fld_eq (g10535 _ (by omega))).trans ((fld_eq (g10527 _ (by omega))).trans ((fld_eq (g10519 _ (by omega))).trans ((fld_eq (g10511 _ (by omega))).trans ((fld_eq (g10502 _ (by omega))).trans ((fld_eq (g10493 _ (by omega))).trans ((fld_eq (g10485 _ (by omega))).trans ((fld_eq (g10477 _ (by omega))).trans ((fld_eq (g10469 _ (by omega))).trans ((fld_eq (g10459 _ (by omega))).trans ((fld_eq (g10450 _ (by omega))).trans ((fld_eq (g10442 _ (by omega))).trans ((fld_eq (g10434 _ (by omega))).trans f10428)))))))))))))))))))) ?_
  refine m_iconst F (v := 4) (by decide) e_X10_takeText_166 ?_
  refine m_iload_n F rfl e_X10_takeText_167 ?_
  refine m_iadd F e_X10_takeText_168 ?_
  refine Wm.topE (w := 6) (by decide) ?_
  refine r_iald F (len := 8) (j := 6) e_X10_takeText_169 h10595 (fun _ h => h) (by decide) (by decide) (by unfold vp_in; decide) (fun x10599 h10600 f10601 => ?_)
  refine r_iast F (g' := (⟨T, Z, u, h, P10547, L⟩ : RG)) (len := 8) (j := 2) e_X10_takeText_170 h10595 (fun _ h => h) (fun f h => ⟨f, rfl, h⟩) (by decide) (by decide) (by decide) (by unfold vp_in; decide) trivial (fun _ _ _ h => h) (fun _ _ _ h => h) (fun σ10602 h10603 g10604 f10605 g10606 => ?_)
  refine m_iinc F (v := 3) (lv' := [(1, .int 3), (0, .ref c)]) e_X10_takeText_171 rfl (by decide) (by decide) rfl ?_
  refine m_goto F e_X10_takeText_174 ?_
  refine m_iload_n F rfl e_X10_takeText_26 ?_
  refine m_iconst F (v := 4) (by decide) e_X10_takeText_27 ?_
  refine m_icmp_ge F e_X10_takeText_28 (fun q => absurd q (by decide)) (fun _ => ?_)
  refine m_aload_n F rfl e_X10_takeText_31 ?_
  refine r_getC F e_X10_takeText_32 fl_X10_16 h10603 ((fld_eq (g10604 _ (by omega))).trans ((fld_eq (g10596 _ (by omega))).trans ((fld_eq (g10587 _ (by omega))).trans ((fld_eq (g10578 _ (by omega))).trans ((fld_eq (g10570 _ (by omega))).trans ((fld_eq (g10562 _ (by omega))).trans ((fld_eq (g10554 _ (by omega))).trans ((fld_eq (g10544 _ (by omega))).trans ((fld_eq (g10535 _ (by omega))).trans ((fld_eq (g10527 _ (by omega))).trans ((fld_eq (g10519 _ (by omega))).trans ((fld_eq (g10511 _ (by omega))).trans ((fld_eq (g10502 _ (by omega))).trans ((fld_eq (g10493 _ (by omega))).trans ((fld_eq (g10485 _ (by omega))).trans ((fld_eq (g10477 _ (by omega))).trans ((fld_eq (g10469 _ (by omega))).trans ((fld_eq (g10459 _ (by omega))).trans ((fld_eq (g10450 _ (by omega))).trans ((fld_eq (g10442 _ (by omega))).trans ((fld_eq (g10434 _ (by omega))).trans ((fld_eq (g10425 _ (by omega))).trans ((fld_eq (g10415 _ (by omega))).trans ((fld_eq (g10405 _ (by omega))).trans ((fld_eq (g10396 _ (by omega))).trans ((fld_eq (g10387 _ (by omega))).trans ((fld_eq (g10378 _ (by omega))).trans ((fld_eq (g10367 _ (by omega))).trans ((fld_eq (g10357 _ (by omega))).trans ((fld_eq (g10348 _ (by omega))).trans f10342)))))))))))))))))))))))))))))) ?_
  refine m_iload_n F rfl e_X10_takeText_35 ?_
  refine m_aload_n F rfl e_X10_takeText_36 ?_
  refine r_getC F e_X10_takeText_37 fl_X10_16 h10603 ((fld_eq (g10604 _ (by omega))).trans ((fld_eq (g10596 _ (by omega))).trans ((fld_eq (g10587 _ (by omega))).trans ((fld_eq (g10578 _ (by omega))).trans ((fld_eq (g10570 _ (by omega))).trans ((fld_eq (g10562 _ (by omega))).trans ((fld_eq (g10554 _ (by omega))).trans ((fld_eq (g10544 _ (by omega))).trans ((fld_eq (g10535 _ (by omega))).trans ((fld_eq (g10527 _ (by omega))).trans ((fld_eq (g10519 _ (by omega))).trans ((fld_eq (g10511 _ (by omega))).trans ((fld_eq (g10502 _ (by omega))).trans ((fld_eq (g10493 _ (by omega))).trans ((fld_eq (g10485 _ (by omega))).trans ((fld_eq (g10477 _ (by omega))).trans ((fld_eq (g10469 _ (by omega))).trans ((fld_eq (g10459 _ (by omega))).trans ((fld_eq (g10450 _ (by omega))).trans ((fld_eq (g10442 _ (by omega))).trans ((fld_eq (g10434 _ (by omega))).trans ((fld_eq (g10425 _ (by omega))).trans ((fld_eq (g10415 _ (by omega))).trans ((fld_eq (g10405 _ (by omega))).trans ((fld_eq (g10396 _ (by omega))).trans ((fld_eq (g10387 _ (by omega))).trans ((fld_eq (g10378 _ (by omega))).trans ((fld_eq (g10367 _ (by omega))).trans ((fld_eq (g10357 _ (by omega))).trans ((fld_eq (g10348 _ (by omega))).trans f10342)))))))))))))))))))))))))))))) ?_
  refine m_iconst F (v := 4) (by decide) e_X10_takeText_40 ?_
  refine m_iload_n F rfl e_X10_takeText_41 ?_
  refine m_iadd F e_X10_takeText_42 ?_
  refine Wm.topE (w := 7) (by decide) ?_
  refine r_iald F (len := 8) (j := 7) e_X10_takeText_43 h10603 (fun _ h => h) (by decide) (by decide) (by unfold vp_in; decide) (fun x10607 h10608 f10609 => ?_)
  refine r_iast F (g' := (⟨T, Z, u, h, P10547, L⟩ : RG)) (len := 8) (j := 3) e_X10_takeText_44 h10603 (fun _ h => h) (fun f h => ⟨f, rfl, h⟩) (by decide) (by decide) (by decide) (by unfold vp_in; decide) trivial (fun _ _ _ h => h) (fun _ _ _ h => h) (fun σ10610 h10611 g10612 f10613 g10614 => ?_)
  refine m_aload_n F rfl e_X10_takeText_45 ?_
  refine r_getC F e_X10_takeText_46 fl_X10_19 h10611 ((fld_eq (g10612 _ (by omega))).trans ((fld_eq (g10604 _ (by omega))).trans ((fld_eq (g10596 _ (by omega))).trans ((fld_eq (g10587 _ (by omega))).trans ((fld_eq (g10578 _ (by omega))).trans ((fld_eq (g10570 _ (by omega))).trans ((fld_eq (g10562 _ (by omega))).trans ((fld_eq (g10554 _ (by omega))).trans ((fld_eq (g10544 _ (by omega))).trans ((fld_eq (g10535 _ (by omega))).trans ((fld_eq (g10527 _ (by omega))).trans ((fld_eq (g10519 _ (by omega))).trans ((fld_eq (g10511 _ (by omega))).trans ((fld_eq (g10502 _ (by omega))).trans ((fld_eq (g10493 _ (by omega))).trans ((fld_eq (g10485 _ (by omega))).trans ((fld_eq (g10477 _ (by omega))).trans ((fld_eq (g10469 _ (by omega))).trans ((fld_eq (g10459 _ (by omega))).trans ((fld_eq (g10450 _ (by omega))).trans ((fld_eq (g10442 _ (by omega))).trans ((fld_eq (g10434 _ (by omega))).trans ((fld_eq (g10425 _ (by omega))).trans ((fld_eq (g10415 _ (by omega))).trans ((fld_eq (g10405 _ (by omega))).trans ((fld_eq (g10396 _ (by omega))).trans ((fld_eq (g10387 _ (by omega))).trans ((fld_eq (g10378 _ (by omega))).trans ((fld_eq (g10367 _ (by omega))).trans ((fld_eq (g10357 _ (by omega))).trans f10351)))))))))))))))))))))))))))))) ?_
  refine m_iload_n F rfl e_X10_takeText_49 ?_
  refine m_aload_n F rfl e_X10_takeText_50 ?_
  refine r_getC F e_X10_takeText_51 fl_X10_19 h10611 ((fld_eq (g10612 _ (by omega))).trans ((fld_eq (g10604 _ (by omega))).trans ((fld_eq (g10596 _ (by omega))).trans ((fld_eq (g10587 _ (by omega))).trans ((fld_eq (g10578 _ (by omega))).trans ((fld_eq (g10570 _ (by omega))).trans ((fld_eq (g10562 _ (by omega))).trans ((fld_eq (g10554 _ (by omega))).trans ((fld_eq (g10544 _ (by omega))).trans ((fld_eq (g10535 _ (by omega))).trans ((fld_eq (g10527 _ (by omega))).trans ((fld_eq (g10519 _ (by omega))).trans ((fld_eq (g10511 _ (by omega))).trans ((fld_eq (g10502 _ (by omega))).trans ((fld_eq (g10493 _ (by omega))).trans ((fld_eq (g10485 _ (by omega))).trans ((fld_eq (g10477 _ (by omega))).trans ((fld_eq (g10469 _ (by omega))).trans ((fld_eq (g10459 _ (by omega))).trans ((fld_eq (g10450 _ (by omega))).trans ((fld_eq (g10442 _ (by omega))).trans ((fld_eq (g10434 _ (by omega))).trans ((fld_eq (g10425 _ (by omega))).trans ((fld_eq (g10415 _ (by omega))).trans ((fld_eq (g10405 _ (by omega))).trans ((fld_eq (g10396 _ (by omega))).trans ((fld_eq (g10387 _ (by omega))).trans ((fld_eq (g10378 _ (by omega))).trans ((fld_eq (g10367 _ (by omega))).trans ((fld_eq (g10357 _ (by omega))).trans f10351)))))))))))))))))))))))))))))) ?_
  refine m_iconst F (v := 4) (by decide) e_X10_takeText_54 ?_
  refine m_iload_n F rfl e_X10_takeText_55 ?_
  refine m_iadd F e_X10_takeText_56 ?_
  refine Wm.topE (w := 7) (by decide) ?_
  refine r_iald F (len := 8) (j := 7) e_X10_takeText_57 h10611 (fun _ h => h) (by decide) (by decide) (by unfold vp_in; decide) (fun x10615 h10616 f10617 => ?_)
  refine r_iast F (g' := (⟨T, Z, u, h, P10547, L⟩ : RG)) (len := 8) (j := 3) e_X10_takeText_58 h10611 (fun _ h => h) (fun f h => ⟨f, rfl, h⟩) (by decide) (by decide) (by decide) (by unfold vp_in; decide) trivial (fun _ _ _ h => h) (fun _ _ _ h => h) (fun σ10618 h10619 g10620 f10621 g10622 => ?_)
  refine m_aload_n F rfl e_X10_takeText_59 ?_
  refine r_getC F e_X10_takeText_60 fl_X10_22 h10619 ((fld_eq (g10620 _ (by omega))).trans ((fld_eq (g10612 _ (by omega))).trans ((fld_eq (g10604 _ (by omega))).trans ((fld_eq (g10596 _ (by omega))).trans ((fld_eq (g10587 _ (by omega))).trans ((fld_eq (g10578 _ (by omega))).trans ((fld_eq (g10570 _ (by omega))).trans ((fld_eq (g10562 _ (by omega))).trans ((fld_eq (g10554 _ (by omega))).trans ((fld_eq (g10544 _ (by omega))).trans ((fld_eq (g10535 _ (by omega))).trans ((fld_eq (g10527 _ (by omega))).trans ((fld_eq (g10519 _ (by omega))).trans ((fld_eq (g10511 _ (by omega))).trans ((fld_eq (g10502 _ (by omega))).trans ((fld_eq (g10493 _ (by omega))).trans ((fld_eq (g10485 _ (by omega))).trans ((fld_eq (g10477 _ (by omega))).trans ((fld_eq (g10469 _ (by omega))).trans ((fld_eq (g10459 _ (by omega))).trans ((fld_eq (g10450 _ (by omega))).trans ((fld_eq (g10442 _ (by omega))).trans ((fld_eq (g10434 _ (by omega))).trans ((fld_eq (g10425 _ (by omega))).trans ((fld_eq (g10415 _ (by omega))).trans ((fld_eq (g10405 _ (by omega))).trans ((fld_eq (g10396 _ (by omega))).trans ((fld_eq (g10387 _ (by omega))).trans ((fld_eq (g10378 _ (by omega))).trans ((fld_eq (g10367 _ (by omega))).trans f10360)))))))))))))))))))))))))))))) ?_
  refine m_iload_n F rfl e_X10_takeText_63 ?_
  refine m_aload_n F rfl e_X10_takeText_64 ?_
  refine r_getC F e_X10_takeText_65 fl_X10_22 h10619 ((fld_eq (g10620 _ (by omega))).trans ((fld_eq (g10612 _ (by omega))).trans ((fld_eq (g10604 _ (by omega))).trans ((fld_eq (g10596 _ (by omega))).trans ((fld_eq (g10587 _ (by omega))).trans ((fld_eq (g10578 _ (by omega))).trans ((fld_eq (g10570 _ (by omega))).trans ((fld_eq (g10562 _ (by omega))).trans ((fld_eq (g10554 _ (by omega))).trans ((fld_eq (g10544 _ (by omega))).trans ((fld_eq (g10535 _ (by omega))).trans ((fld_eq (g10527 _ (by omega))).trans ((fld_eq (g10519 _ (by omega))).trans ((fld_eq (g10511 _ (by omega))).trans ((fld_eq (g10502 _ (by omega))).trans ((fld_eq (g10493 _ (by omega))).trans ((fld_eq (g10485 _ (by omega))).trans ((fld_eq (g10477 _ (by omega))).trans ((fld_eq (g10469 _ (by omega))).trans ((fld_eq (g10459 _ (by omega))).trans ((fld_eq (g10450 _ (by omega))).trans ((fld_eq (g10442 _ (by omega))).trans ((fld_eq (g10434 _ (by omega))).trans ((fld_eq (g10425 _ (by omega))).trans ((fld_eq (g10415 _ (by omega))).trans ((fld_eq (g10405 _ (by omega))).trans ((fld_eq (g10396 _ (by omega))).trans ((fld_eq (g10387 _ (by omega))).trans ((fld_eq (g10378 _ (by omega))).trans ((fld_eq (g10367 _ (by omega))).trans f10360)))))))))))))))))))))))))))))) ?_
  refine m_iconst F (v := 4) (by decide) e_X10_takeText_68 ?_
  refine m_iload_n F rfl e_X10_takeText_69 ?_
  refine m_iadd F e_X10_takeText_70 ?_
  refine Wm.topE (w := 7) (by decide) ?_
  refine r_iald F (len := 8) (j := 7) e_X10_takeText_71 h10619 (fun _ h => h) (by decide) (by decide) (by unfold vp_in; decide) (fun x10623 h10624 f10625 => ?_)
  obtain ⟨n10626, hn10626, rfl, pn10626, rn10626⟩ := h10624
  refine r_iast F (g' := (⟨T, Z, u, h, (mkP P10547.n0 P10547.n2 P10547.n5 P10547.n7 (min 4 P10547.m5) P10547.m5 P10547.w2 P10547.w7 P10547.kk P10547.a P10547.f P10547.p), L⟩ : RG)) (len := 8) (j := 3) e_X10_takeText_72 h10619 (fun _ h => h) (fun f h => ⟨f, rfl, h⟩) (by decide) (by decide) (by decide) (by unfold vp_in; decide) ⟨n10626, by omega, rfl, fun _ h8 => rn10626 (by omega) (show 7 < 4 + P10547.m5 by have h6 : 3 < min 4 P10547.m5 := h8; omega), fun h7 _ => absurd h7 (by omega)⟩ (fun i hi y hy => by obtain ⟨n9, a9, b9, c9, d9⟩ := hy; exact ⟨n9, a9, b9, fun h7 h8 => c9 h7 (show i < P10547.m0 by have h6 : i < min 4 P10547.m5 := h8; omega), d9⟩) (CR.chg (by intro k hk i x h; unfold EI at h ⊢; split at h <;> first | exact h | exact absurd rfl hk | trivial) rfl rfl rfl rfl) (fun σ10627 h10628 g10629 f10630 g10631 => ?_)
  obtain ⟨P10632, eP10632⟩ : ∃ P9, P9 = (mkP P10547.n0 P10547.n2 P10547.n5 P10547.n7 (min 4 P10547.m5) P10547.m5 P10547.w2 P10547.w7 P10547.kk P10547.a P10547.f P10547.p) := ⟨_, rfl⟩
  rw [← eP10632] at h10628
  have fP10632 : P10632.n0 = P10547.n0 ∧ P10632.n2 = P10547.n2 ∧ P10632.n5 = P10547.n5 ∧ P10632.n7 = P10547.n7 ∧ P10632.m0 = min 4 P10547.m5 ∧ P10632.m5 = P10547.m5 ∧ P10632.w2 = P10547.w2 ∧ P10632.w7 = P10547.w7 ∧ P10632.kk = P10547.kk ∧ P10632.a = P10547.a ∧ P10632.f = P10547.f ∧ P10632.p = P10547.p := by rw [eP10632]; exact ⟨rfl, rfl, rfl, rfl, rfl, rfl, rfl, rfl, rfl, rfl, rfl, rfl⟩
  refine m_aload_n F rfl e_X10_takeText_73 ?_
  refine r_getC F e_X10_takeText_74 fl_X10_25 h10628 ((fld_eq (g10629 _ (by omega))).trans ((fld_eq (g10620 _ (by omega))).trans ((fld_eq (g10612 _ (by omega))).trans ((fld_eq (g10604 _ (by omega))).trans ((fld_eq (g10596 _ (by omega))).trans ((fld_eq (g10587 _ (by omega))).trans ((fld_eq (g10578 _ (by omega))).trans ((fld_eq (g10570 _ (by omega))).trans ((fld_eq (g10562 _ (by omega))).trans ((fld_eq (g10554 _ (by omega))).trans ((fld_eq (g10544 _ (by omega))).trans ((fld_eq (g10535 _ (by omega))).trans ((fld_eq (g10527 _ (by omega))).trans ((fld_eq (g10519 _ (by omega))).trans ((fld_eq (g10511 _ (by omega))).trans ((fld_eq (g10502 _ (by omega))).trans ((fld_eq (g10493 _ (by omega))).trans ((fld_eq (g10485 _ (by omega))).trans ((fld_eq (g10477 _ (by omega))).trans ((fld_eq (g10469 _ (by omega))).trans ((fld_eq (g10459 _ (by omega))).trans ((fld_eq (g10450 _ (by omega))).trans ((fld_eq (g10442 _ (by omega))).trans ((fld_eq (g10434 _ (by omega))).trans ((fld_eq (g10425 _ (by omega))).trans ((fld_eq (g10415 _ (by omega))).trans ((fld_eq (g10405 _ (by omega))).trans ((fld_eq (g10396 _ (by omega))).trans ((fld_eq (g10387 _ (by omega))).trans ((fld_eq (g10378 _ (by omega))).trans f10371)))))))))))))))))))))))))))))) ?_
  refine m_iload_n F rfl e_X10_takeText_77 ?_
  refine m_aload_n F rfl e_X10_takeText_78 ?_
  refine r_getC F e_X10_takeText_79 fl_X10_25 h10628 ((fld_eq (g10629 _ (by omega))).trans ((fld_eq (g10620 _ (by omega))).trans ((fld_eq (g10612 _ (by omega))).trans ((fld_eq (g10604 _ (by omega))).trans ((fld_eq (g10596 _ (by omega))).trans ((fld_eq (g10587 _ (by omega))).trans ((fld_eq (g10578 _ (by omega))).trans ((fld_eq (g10570 _ (by omega))).trans ((fld_eq (g10562 _ (by omega))).trans ((fld_eq (g10554 _ (by omega))).trans ((fld_eq (g10544 _ (by omega))).trans ((fld_eq (g10535 _ (by omega))).trans ((fld_eq (g10527 _ (by omega))).trans ((fld_eq (g10519 _ (by omega))).trans ((fld_eq (g10511 _ (by omega))).trans ((fld_eq (g10502 _ (by omega))).trans ((fld_eq (g10493 _ (by omega))).trans ((fld_eq (g10485 _ (by omega))).trans ((fld_eq (g10477 _ (by omega))).trans ((fld_eq (g10469 _ (by omega))).trans ((fld_eq (g10459 _ (by omega))).trans ((fld_eq (g10450 _ (by omega))).trans ((fld_eq (g10442 _ (by omega))).trans ((fld_eq (g10434 _ (by omega))).trans ((fld_eq (g10425 _ (by omega))).trans ((fld_eq (g10415 _ (by omega))).trans ((fld_eq (g10405 _ (by omega))).trans ((fld_eq (g10396 _ (by omega))).trans ((fld_eq (g10387 _ (by omega))).trans ((fld_eq (g10378 _ (by omega))).trans f10371)))))))))))))))))))))))))))))) ?_
  refine m_iconst F (v := 4) (by decide) e_X10_takeText_82 ?_
  refine m_iload_n F rfl e_X10_takeText_83 ?_
  refine m_iadd F e_X10_takeText_84 ?_
  refine Wm.topE (w := 7) (by decide) ?_
  refine r_iald F (len := 8) (j := 7) e_X10_takeText_85 h10628 (fun _ h => h) (by decide) (by decide) (by unfold vp_in; decide) (fun x10633 h10634 f10635 => ?_)
  obtain ⟨n10636, hn10636, rfl⟩ := h10634
  refine r_iast F (g' := (⟨T, Z, u, h, P10632, L⟩ : RG)) (len := 8) (j := 3) e_X10_takeText_86 h10628 (fun _ h => h) (fun f h => ⟨f, rfl, h⟩) (by decide) (by decide) (by decide) (by unfold vp_in; decide) ⟨n10636, by omega, rfl⟩ (fun _ _ _ h => h) (fun _ _ _ h => h) (fun σ10637 h10638 g10639 f10640 g10641 => ?_)
  refine m_aload_n F rfl e_X10_takeText_87 ?_
  refine r_getC F e_X10_takeText_88 fl_X10_28 h10638 ((fld_eq (g10639 _ (by omega))).trans ((fld_eq (g10629 _ (by omega))).trans ((fld_eq (g10620 _ (by omega))).trans ((fld_eq (g10612 _ (by omega))).trans ((fld_eq (g10604 _ (by omega))).trans ((fld_eq (g10596 _ (by omega))).trans ((fld_eq (g10587 _ (by omega))).trans ((fld_eq (g10578 _ (by omega))).trans ((fld_eq (g10570 _ (by omega))).trans ((fld_eq (g10562 _ (by omega))).trans ((fld_eq (g10554 _ (by omega))).trans ((fld_eq (g10544 _ (by omega))).trans ((fld_eq (g10535 _ (by omega))).trans ((fld_eq (g10527 _ (by omega))).trans ((fld_eq (g10519 _ (by omega))).trans ((fld_eq (g10511 _ (by omega))).trans ((fld_eq (g10502 _ (by omega))).trans ((fld_eq (g10493 _ (by omega))).trans ((fld_eq (g10485 _ (by omega))).trans ((fld_eq (g10477 _ (by omega))).trans ((fld_eq (g10469 _ (by omega))).trans ((fld_eq (g10459 _ (by omega))).trans ((fld_eq (g10450 _ (by omega))).trans ((fld_eq (g10442 _ (by omega))).trans ((fld_eq (g10434 _ (by omega))).trans ((fld_eq (g10425 _ (by omega))).trans ((fld_eq (g10415 _ (by omega))).trans ((fld_eq (g10405 _ (by omega))).trans ((fld_eq (g10396 _ (by omega))).trans ((fld_eq (g10387 _ (by omega))).trans f10381)))))))))))))))))))))))))))))) ?_
  refine m_iload_n F rfl e_X10_takeText_91 ?_
  refine m_aload_n F rfl e_X10_takeText_92 ?_
  refine r_getC F e_X10_takeText_93 fl_X10_28 h10638 ((fld_eq (g10639 _ (by omega))).trans ((fld_eq (g10629 _ (by omega))).trans ((fld_eq (g10620 _ (by omega))).trans ((fld_eq (g10612 _ (by omega))).trans ((fld_eq (g10604 _ (by omega))).trans ((fld_eq (g10596 _ (by omega))).trans ((fld_eq (g10587 _ (by omega))).trans ((fld_eq (g10578 _ (by omega))).trans ((fld_eq (g10570 _ (by omega))).trans ((fld_eq (g10562 _ (by omega))).trans ((fld_eq (g10554 _ (by omega))).trans ((fld_eq (g10544 _ (by omega))).trans ((fld_eq (g10535 _ (by omega))).trans ((fld_eq (g10527 _ (by omega))).trans ((fld_eq (g10519 _ (by omega))).trans ((fld_eq (g10511 _ (by omega))).trans ((fld_eq (g10502 _ (by omega))).trans ((fld_eq (g10493 _ (by omega))).trans ((fld_eq (g10485 _ (by omega))).trans ((fld_eq (g10477 _ (by omega))).trans ((fld_eq (g10469 _ (by omega))).trans ((fld_eq (g10459 _ (by omega))).trans ((fld_eq (g10450 _ (by omega))).trans ((fld_eq (g10442 _ (by omega))).trans ((fld_eq (g10434 _ (by omega))).trans ((fld_eq (g10425 _ (by omega))).trans ((fld_eq (g10415 _ (by omega))).trans ((fld_eq (g10405 _ (by omega))).trans ((fld_eq (g10396 _ (by omega))).trans ((fld_eq (g10387 _ (by omega))).trans f10381)))))))))))))))))))))))))))))) ?_
  refine m_iconst F (v := 4) (by decide) e_X10_takeText_96 ?_
  refine m_iload_n F rfl e_X10_takeText_97 ?_
  refine m_iadd F e_X10_takeText_98 ?_
  refine Wm.topE (w := 7) (by decide) ?_
  refine r_iald F (len := 8) (j := 7) e_X10_takeText_99 h10638 (fun _ h => h) (by decide) (by decide) (by unfold vp_in; decide) (fun x10642 h10643 f10644 => ?_)
  refine r_iast F (g' := (⟨T, Z, u, h, P10632, L⟩ : RG)) (len := 8) (j := 3) e_X10_takeText_100 h10638 (fun _ h => h) (fun f h => ⟨f, rfl, h⟩) (by decide) (by decide) (by decide) (by unfold vp_in; decide) trivial (fun _ _ _ h => h) (fun _ _ _ h => h) (fun σ10645 h10646 g10647 f10648 g10649 => ?_)
  refine m_aload_n F rfl e_X10_takeText_101 ?_
  refine r_getC F e_X10_takeText_102 fl_X10_31 h10646 ((fld_eq (g10647 _ (by omega))).trans ((fld_eq (g10639 _ (by omega))).trans ((fld_eq (g10629 _ (by omega))).trans ((fld_eq (g10620 _ (by omega))).trans ((fld_eq (g10612 _ (by omega))).trans ((fld_eq (g10604 _ (by omega))).trans ((fld_eq (g10596 _ (by omega))).trans ((fld_eq (g10587 _ (by omega))).trans ((fld_eq (g10578 _ (by omega))).trans ((fld_eq (g10570 _ (by omega))).trans ((fld_eq (g10562 _ (by omega))).trans ((fld_eq (g10554 _ (by omega))).trans ((fld_eq (g10544 _ (by omega))).trans ((fld_eq (g10535 _ (by omega))).trans ((fld_eq (g10527 _ (by omega))).trans ((fld_eq (g10519 _ (by omega))).trans ((fld_eq (g10511 _ (by omega))).trans ((fld_eq (g10502 _ (by omega))).trans ((fld_eq (g10493 _ (by omega))).trans ((fld_eq (g10485 _ (by omega))).trans ((fld_eq (g10477 _ (by omega))).trans ((fld_eq (g10469 _ (by omega))).trans ((fld_eq (g10459 _ (by omega))).trans ((fld_eq (g10450 _ (by omega))).trans ((fld_eq (g10442 _ (by omega))).trans ((fld_eq (g10434 _ (by omega))).trans ((fld_eq (g10425 _ (by omega))).trans ((fld_eq (g10415 _ (by omega))).trans ((fld_eq (g10405 _ (by omega))).trans ((fld_eq (g10396 _ (by omega))).trans f10390)))))))))))))))))))))))))))))) ?_
  refine m_iload_n F rfl e_X10_takeText_105 ?_
  refine m_aload_n F rfl e_X10_takeText_106 ?_
  refine r_getC F e_X10_takeText_107 fl_X10_31 h10646 ((fld_eq (g10647 _ (by omega))).trans ((fld_eq (g10639 _ (by omega))).trans ((fld_eq (g10629 _ (by omega))).trans ((fld_eq (g10620 _ (by omega))).trans ((fld_eq (g10612 _ (by omega))).trans ((fld_eq (g10604 _ (by omega))).trans ((fld_eq (g10596 _ (by omega))).trans ((fld_eq (g10587 _ (by omega))).trans ((fld_eq (g10578 _ (by omega))).trans ((fld_eq (g10570 _ (by omega))).trans ((fld_eq (g10562 _ (by omega))).trans ((fld_eq (g10554 _ (by omega))).trans ((fld_eq (g10544 _ (by omega))).trans ((fld_eq (g10535 _ (by omega))).trans ((fld_eq (g10527 _ (by omega))).trans ((fld_eq (g10519 _ (by omega))).trans ((fld_eq (g10511 _ (by omega))).trans ((fld_eq (g10502 _ (by omega))).trans ((fld_eq (g10493 _ (by omega))).trans ((fld_eq (g10485 _ (by omega))).trans ((fld_eq (g10477 _ (by omega))).trans ((fld_eq (g10469 _ (by omega))).trans ((fld_eq (g10459 _ (by omega))).trans ((fld_eq (g10450 _ (by omega))).trans ((fld_eq (g10442 _ (by omega))).trans ((fld_eq (g10434 _ (by omega))).trans ((fld_eq (g10425 _ (by omega))).trans ((fld_eq (g10415 _ (by omega))).trans ((fld_eq (g10405 _ (by omega))).trans ((fld_eq (g10396 _ (by omega))).trans f10390)))))))))))))))))))))))))))))) ?_
  refine m_iconst F (v := 4) (by decide) e_X10_takeText_110 ?_
  refine m_iload_n F rfl e_X10_takeText_111 ?_
  refine m_iadd F e_X10_takeText_112 ?_
  refine Wm.topE (w := 7) (by decide) ?_
  refine r_iald F (len := 8) (j := 7) e_X10_takeText_113 h10646 (fun _ h => h) (by decide) (by decide) (by unfold vp_in; decide) (fun x10650 h10651 f10652 => ?_)
  refine r_iast F (g' := (⟨T, Z, u, h, P10632, L⟩ : RG)) (len := 8) (j := 3) e_X10_takeText_114 h10646 (fun _ h => h) (fun f h => ⟨f, rfl, h⟩) (by decide) (by decide) (by decide) (by unfold vp_in; decide) trivial (fun _ _ _ h => h) (fun _ _ _ h => h) (fun σ10653 h10654 g10655 f10656 g10657 => ?_)
  refine m_aload_n F rfl e_X10_takeText_115 ?_
  refine r_getC F e_X10_takeText_116 fl_X10_34 h10654 ((fld_eq (g10655 _ (by omega))).trans ((fld_eq (g10647 _ (by omega))).trans ((fld_eq (g10639 _ (by omega))).trans ((fld_eq (g10629 _ (by omega))).trans ((fld_eq (g10620 _ (by omega))).trans ((fld_eq (g10612 _ (by omega))).trans ((fld_eq (g10604 _ (by omega))).trans ((fld_eq (g10596 _ (by omega))).trans ((fld_eq (g10587 _ (by omega))).trans ((fld_eq (g10578 _ (by omega))).trans ((fld_eq (g10570 _ (by omega))).trans ((fld_eq (g10562 _ (by omega))).trans ((fld_eq (g10554 _ (by omega))).trans ((fld_eq (g10544 _ (by omega))).trans ((fld_eq (g10535 _ (by omega))).trans ((fld_eq (g10527 _ (by omega))).trans ((fld_eq (g10519 _ (by omega))).trans ((fld_eq (g10511 _ (by omega))).trans ((fld_eq (g10502 _ (by omega))).trans ((fld_eq (g10493 _ (by omega))).trans ((fld_eq (g10485 _ (by omega))).trans ((fld_eq (g10477 _ (by omega))).trans ((fld_eq (g10469 _ (by omega))).trans ((fld_eq (g10459 _ (by omega))).trans ((fld_eq (g10450 _ (by omega))).trans ((fld_eq (g10442 _ (by omega))).trans ((fld_eq (g10434 _ (by omega))).trans ((fld_eq (g10425 _ (by omega))).trans ((fld_eq (g10415 _ (by omega))).trans ((fld_eq (g10405 _ (by omega))).trans f10399)))))))))))))))))))))))))))))) ?_
  refine m_iload_n F rfl e_X10_takeText_119 ?_
  refine m_aload_n F rfl e_X10_takeText_120 ?_
  refine r_getC F e_X10_takeText_121 fl_X10_34 h10654 ((fld_eq (g10655 _ (by omega))).trans ((fld_eq (g10647 _ (by omega))).trans ((fld_eq (g10639 _ (by omega))).trans ((fld_eq (g10629 _ (by omega))).trans ((fld_eq (g10620 _ (by omega))).trans ((fld_eq (g10612 _ (by omega))).trans ((fld_eq (g10604 _ (by omega))).trans ((fld_eq (g10596 _ (by omega))).trans ((fld_eq (g10587 _ (by omega))).trans ((fld_eq (g10578 _ (by omega))).trans ((fld_eq (g10570 _ (by omega))).trans ((fld_eq (g10562 _ (by omega))).trans ((fld_eq (g10554 _ (by omega))).trans ((fld_eq (g10544 _ (by omega))).trans ((fld_eq (g10535 _ (by omega))).trans ((fld_eq (g10527 _ (by omega))).trans ((fld_eq (g10519 _ (by omega))).trans ((fld_eq (g10511 _ (by omega))).trans ((fld_eq (g10502 _ (by omega))).trans ((fld_eq (g10493 _ (by omega))).trans ((fld_eq (g10485 _ (by omega))).trans ((fld_eq (g10477 _ (by omega))).trans ((fld_eq (g10469 _ (by omega))).trans ((fld_eq (g10459 _ (by omega))).trans ((fld_eq (g10450 _ (by omega))).trans ((fld_eq (g10442 _ (by omega))).trans ((fld_eq (g10434 _ (by omega))).trans ((fld_eq (g10425 _ (by omega))).trans ((fld_eq (g10415 _ (by omega))).trans ((fld_eq (g10405 _ (by omega))).trans f10399)))))))))))))))))))))))))))))) ?_
  refine m_iconst F (v := 4) (by decide) e_X10_takeText_124 ?_
  refine m_iload_n F rfl e_X10_takeText_125 ?_
  refine m_iadd F e_X10_takeText_126 ?_
  refine Wm.topE (w := 7) (by decide) ?_
  refine r_iald F (len := 8) (j := 7) e_X10_takeText_127 h10654 (fun _ h => h) (by decide) (by decide) (by unfold vp_in; decide) (fun x10658 h10659 f10660 => ?_)
  refine r_iast F (g' := (⟨T, Z, u, h, P10632, L⟩ : RG)) (len := 8) (j := 3) e_X10_takeText_128 h10654 (fun _ h => h) (fun f h => ⟨f, rfl, h⟩) (by decide) (by decide) (by decide) (by unfold vp_in; decide) trivial (fun _ _ _ h => h) (fun _ _ _ h => h) (fun σ10661 h10662 g10663 f10664 g10665 => ?_)
  refine m_aload_n F rfl e_X10_takeText_129 ?_
  refine r_getC F e_X10_takeText_130 fl_X10_46 h10662 ((fld_eq (g10663 _ (by omega))).trans ((fld_eq (g10655 _ (by omega))).trans ((fld_eq (g10647 _ (by omega))).trans ((fld_eq (g10639 _ (by omega))).trans ((fld_eq (g10629 _ (by omega))).trans ((fld_eq (g10620 _ (by omega))).trans ((fld_eq (g10612 _ (by omega))).trans ((fld_eq (g10604 _ (by omega))).trans ((fld_eq (g10596 _ (by omega))).trans ((fld_eq (g10587 _ (by omega))).trans ((fld_eq (g10578 _ (by omega))).trans ((fld_eq (g10570 _ (by omega))).trans ((fld_eq (g10562 _ (by omega))).trans ((fld_eq (g10554 _ (by omega))).trans ((fld_eq (g10544 _ (by omega))).trans ((fld_eq (g10535 _ (by omega))).trans ((fld_eq (g10527 _ (by omega))).trans ((fld_eq (g10519 _ (by omega))).trans ((fld_eq (g10511 _ (by omega))).trans ((fld_eq (g10502 _ (by omega))).trans ((fld_eq (g10493 _ (by omega))).trans ((fld_eq (g10485 _ (by omega))).trans ((fld_eq (g10477 _ (by omega))).trans ((fld_eq (g10469 _ (by omega))).trans ((fld_eq (g10459 _ (by omega))).trans ((fld_eq (g10450 _ (by omega))).trans ((fld_eq (g10442 _ (by omega))).trans ((fld_eq (g10434 _ (by omega))).trans ((fld_eq (g10425 _ (by omega))).trans ((fld_eq (g10415 _ (by omega))).trans f10408)))))))))))))))))))))))))))))) ?_
  refine m_iload_n F rfl e_X10_takeText_133 ?_
  refine m_aload_n F rfl e_X10_takeText_134 ?_
  refine r_getC F e_X10_takeText_135 fl_X10_46 h10662 ((fld_eq (g10663 _ (by omega))).trans ((fld_eq (g10655 _ (by omega))).trans ((fld_eq (g10647 _ (by omega))).trans ((fld_eq (g10639 _ (by omega))).trans ((fld_eq (g10629 _ (by omega))).trans ((fld_eq (g10620 _ (by omega))).trans ((fld_eq (g10612 _ (by omega))).trans ((fld_eq (g10604 _ (by omega))).trans ((fld_eq (g10596 _ (by omega))).trans ((fld_eq (g10587 _ (by omega))).trans ((fld_eq (g10578 _ (by omega))).trans ((fld_eq (g10570 _ (by omega))).trans ((fld_eq (g10562 _ (by omega))).trans ((fld_eq (g10554 _ (by omega))).trans ((fld_eq (g10544 _ (by omega))).trans ((fld_eq (g10535 _ (by omega))).trans ((fld_eq (g10527 _ (by omega))).trans ((fld_eq (g10519 _ (by omega))).trans ((fld_eq (g10511 _ (by omega))).trans ((fld_eq (g10502 _ (by omega))).trans ((fld_eq (g10493 _ (by omega))).trans ((fld_eq (g10485 _ (by omega))).trans ((fld_eq (g10477 _ (by omega))).trans ((fld_eq (g10469 _ (by omega))).trans ((fld_eq (g10459 _ (by omega))).trans ((fld_eq (g10450 _ (by omega))).trans ((fld_eq (g10442 _ (by omega))).trans ((fld_eq (g10434 _ (by omega))).trans ((fld_eq (g10425 _ (by omega))).trans ((fld_eq (g10415 _ (by omega))).trans f10408)))))))))))))))))))))))))))))) ?_
  refine m_iconst F (v := 4) (by decide) e_X10_takeText_138 ?_
  refine m_iload_n F rfl e_X10_takeText_139 ?_
  refine m_iadd F e_X10_takeText_140 ?_
  refine Wm.topE (w := 7) (by decide) ?_
  refine r_iald F (len := 8) (j := 7) e_X10_takeText_141 h10662 (fun _ h => h) (by decide) (by decide) (by unfold vp_in; decide) (fun x10666 h10667 f10668 => ?_)
  obtain ⟨n10669, hn10669, rfl⟩ := h10667
  refine r_iast F (g' := (⟨T, Z, u, h, P10632, L⟩ : RG)) (len := 8) (j := 3) e_X10_takeText_142 h10662 (fun _ h => h) (fun f h => ⟨f, rfl, h⟩) (by decide) (by decide) (by decide) (by unfold vp_in; decide) ⟨n10669, by omega, rfl⟩ (fun _ _ _ h => h) (fun _ _ _ h => h) (fun σ10670 h10671 g10672 f10673 g10674 => ?_)
  refine m_aload_n F rfl e_X10_takeText_143 ?_
  refine r_getC F e_X10_takeText_144 fl_X10_49 h10671 ((fld_eq (g10672 _ (by omega))).trans ((fld_eq (g10663 _ (by omega))).trans ((fld_eq (g10655 _ (by omega))).trans ((fld_eq (g10647 _ (by omega))).trans ((fld_eq (g10639 _ (by omega))).trans ((fld_eq (g10629 _ (by omega))).trans ((fld_eq (g10620 _ (by omega))).trans ((fld_eq (g10612 _ (by omega))).trans ((fld_eq (g10604 _ (by omega))).trans ((fld_eq (g10596 _ (by omega))).trans ((fld_eq (g10587 _ (by omega))).trans ((fld_eq (g10578 _ (by omega))).trans ((fld_eq (g10570 _ (by omega))).trans ((fld_eq (g10562 _ (by omega))).trans ((fld_eq (g10554 _ (by omega))).trans ((fld_eq (g10544 _ (by omega))).trans ((fld_eq (g10535 _ (by omega))).trans ((fld_eq (g10527 _ (by omega))).trans ((fld_eq (g10519 _ (by omega))).trans ((fld_eq (g10511 _ (by omega))).trans ((fld_eq (g10502 _ (by omega))).trans ((fld_eq (g10493 _ (by omega))).trans ((fld_eq (g10485 _ (by omega))).trans ((fld_eq (g10477 _ (by omega))).trans ((fld_eq (g10469 _ (by omega))).trans ((fld_eq (g10459 _ (by omega))).trans ((fld_eq (g10450 _ (by omega))).trans ((fld_eq (g10442 _ (by omega))).trans ((fld_eq (g10434 _ (by omega))).trans ((fld_eq (g10425 _ (by omega))).trans f10418)))))))))))))))))))))))))))))) ?_
  refine m_iload_n F rfl e_X10_takeText_147 ?_
  refine m_aload_n F rfl e_X10_takeText_148 ?_
  refine r_getC F e_X10_takeText_149 fl_X10_49 h10671 ((fld_eq (g10672 _ (by omega))).trans ((fld_eq (g10663 _ (by omega))).trans ((fld_eq (g10655 _ (by omega))).trans ((fld_eq (g10647 _ (by omega))).trans ((fld_eq (g10639 _ (by omega))).trans ((fld_eq (g10629 _ (by omega))).trans ((fld_eq (g10620 _ (by omega))).trans ((fld_eq (g10612 _ (by omega))).trans ((fld_eq (g10604 _ (by omega))).trans ((fld_eq (g10596 _ (by omega))).trans ((fld_eq (g10587 _ (by omega))).trans ((fld_eq (g10578 _ (by omega))).trans ((fld_eq (g10570 _ (by omega))).trans ((fld_eq (g10562 _ (by omega))).trans ((fld_eq (g10554 _ (by omega))).trans ((fld_eq (g10544 _ (by omega))).trans ((fld_eq (g10535 _ (by omega))).trans ((fld_eq (g10527 _ (by omega))).trans ((fld_eq (g10519 _ (by omega))).trans ((fld_eq (g10511 _ (by omega))).trans ((fld_eq (g10502 _ (by omega))).trans ((fld_eq (g10493 _ (by omega))).trans ((fld_eq (g10485 _ (by omega))).trans ((fld_eq (g10477 _ (by omega))).trans ((fld_eq (g10469 _ (by omega))).trans ((fld_eq (g10459 _ (by omega))).trans ((fld_eq (g10450 _ (by omega))).trans ((fld_eq (g10442 _ (by omega))).trans ((fld_eq (g10434 _ (by omega))).trans ((fld_eq (g10425 _ (by omega))).trans f10418)))))))))))))))))))))))))))))) ?_
  refine m_iconst F (v := 4) (by decide) e_X10_takeText_152 ?_
  refine m_iload_n F rfl e_X10_takeText_153 ?_
  refine m_iadd F e_X10_takeText_154 ?_
  refine Wm.topE (w := 7) (by decide) ?_
  refine r_iald F (len := 8) (j := 7) e_X10_takeText_155 h10671 (fun _ h => h) (by decide) (by decide) (by unfold vp_in; decide) (fun x10675 h10676 f10677 => ?_)
  obtain ⟨n10678, hn10678, rfl⟩ := h10676
  refine r_iast F (g' := (⟨T, Z, u, h, P10632, L⟩ : RG)) (len := 8) (j := 3) e_X10_takeText_156 h10671 (fun _ h => h) (fun f h => ⟨f, rfl, h⟩) (by decide) (by decide) (by decide) (by unfold vp_in; decide) ⟨n10678, by omega, rfl⟩ (fun _ _ _ h => h) (fun _ _ _ h => h) (fun σ10679 h10680 g10681 f10682 g10683 => ?_)
  refine m_aload_n F rfl e_X10_takeText_157 ?_
  refine r_getC F e_X10_takeText_158 fl_X10_52 h10680 ((fld_eq (g10681 _ (by omega))).trans ((fld_eq (g10672 _ (by omega))).trans ((fld_eq (g10663 _ (by omega))).trans ((fld_eq (g10655 _ (by omega))).trans ((fld_eq (g10647 _ (by omega))).trans ((fld_eq (g10639 _ (by omega))).trans ((fld_eq (g10629 _ (by omega))).trans ((fld_eq (g10620 _ (by omega))).trans ((fld_eq (g10612 _ (by omega))).trans ((fld_eq (g10604 _ (by omega))).trans ((fld_eq (g10596 _ (by omega))).trans ((fld_eq (g10587 _ (by omega))).trans ((fld_eq (g10578 _ (by omega))).trans ((fld_eq (g10570 _ (by omega))).trans ((fld_eq (g10562 _ (by omega))).trans ((fld_eq (g10554 _ (by omega))).trans ((fld_eq (g10544 _ (by omega))).trans ((fld_eq (g10535 _ (by omega))).trans ((fld_eq (g10527 _ (by omega))).trans ((fld_eq (g10519 _ (by omega))).trans ((fld_eq (g10511 _ (by omega))).trans ((fld_eq (g10502 _ (by omega))).trans ((fld_eq (g10493 _ (by omega))).trans ((fld_eq (g10485 _ (by omega))).trans ((fld_eq (g10477 _ (by omega))).trans ((fld_eq (g10469 _ (by omega))).trans ((fld_eq (g10459 _ (by omega))).trans ((fld_eq (g10450 _ (by omega))).trans ((fld_eq (g10442 _ (by omega))).trans ((fld_eq (g10434 _ (by omega))).trans f10428)))))))))))))))))))))))))))))) ?_
  refine m_iload_n F rfl e_X10_takeText_161 ?_
  refine m_aload_n F rfl e_X10_takeText_162 ?_
  refine r_getC F e_X10_takeText_163 fl_X10_52 h10680 ((fld_eq (g10681 _ (by omega))).trans ((fld_eq (g10672 _ (by omega))).trans ((fld_eq (g10663 _ (by omega))).trans ((fld_eq (g10655 _ (by omega))).trans ((fld_eq (g10647 _ (by omega))).trans ((fld_eq (g10639 _ (by omega))).trans ((fld_eq (g10629 _ (by omega))).trans ((fld_eq (g10620 _ (by omega))).trans ((fld_eq (g10612 _ (by omega))).trans ((fld_eq (g10604 _ (by omega))).trans ((fld_eq (g10596 _ (by omega))).trans ((fld_eq (g10587 _ (by omega))).trans ((fld_eq (g10578 _ (by omega))).trans ((fld_eq (g10570 _ (by omega))).trans ((fld_eq (g10562 _ (by omega))).trans ((fld_eq (g10554 _ (by omega))).trans ((fld_eq (g10544 _ (by omega))).trans ((fld_eq (g10535 _ (by omega))).trans ((fld_eq (g10527 _ (by omega))).trans ((fld_eq (g10519 _ (by omega))).trans ((fld_eq (g10511 _ (by omega))).trans ((fld_eq (g10502 _ (by omega))).trans ((fld_eq (g10493 _ (by omega))).trans ((fld_eq (g10485 _ (by omega))).trans ((fld_eq (g10477 _ (by omega))).trans ((fld_eq (g10469 _ (by omega))).trans ((fld_eq (g10459 _ (by omega))).trans ((fld_eq (g10450 _ (by omega))).trans ((fld_eq (g10442 _ (by omega))).trans ((fld_eq (g10434 _ (by omega))).trans f10428)))))))))))))))))))))))))))))) ?_
  refine m_iconst F (v := 4) (by decide) e_X10_takeText_166 ?_
  refine m_iload_n F rfl e_X10_takeText_167 ?_
  refine m_iadd F e_X10_takeText_168 ?_
  refine Wm.topE (w := 7) (by decide) ?_
  refine r_iald F (len := 8) (j := 7) e_X10_takeText_169 h10680 (fun _ h => h) (by decide) (by decide) (by unfold vp_in; decide) (fun x10684 h10685 f10686 => ?_)
  refine r_iast F (g' := (⟨T, Z, u, h, P10632, L⟩ : RG)) (len := 8) (j := 3) e_X10_takeText_170 h10680 (fun _ h => h) (fun f h => ⟨f, rfl, h⟩) (by decide) (by decide) (by decide) (by unfold vp_in; decide) trivial (fun _ _ _ h => h) (fun _ _ _ h => h) (fun σ10687 h10688 g10689 f10690 g10691 => ?_)
  refine m_iinc F (v := 4) (lv' := [(1, .int 4), (0, .ref c)]) e_X10_takeText_171 rfl (by decide) (by decide) rfl ?_
  refine m_goto F e_X10_takeText_174 ?_
  refine m_iload_n F rfl e_X10_takeText_26 ?_
  refine m_iconst F (v := 4) (by decide) e_X10_takeText_27 ?_
  refine m_icmp_ge F e_X10_takeText_28 (fun _ => ?_) (fun q => absurd (by decide) q)
  refine m_iconst F (v := 0) (by decide) e_X10_takeText_177 ?_
  refine m_istore_n F (lv' := [(1, .int 0), (0, .ref c)]) e_X10_takeText_178 (by decide) rfl ?_
  refine Wm.lvsub (lv' := [(0, .ref c), (1, .int 0)]) ?_ [1, 0] rfl
  have oP10692 : OKP P10632 := by unfold OKP; omega
  exact lq_X10_takeText_179 F hQ hob hP  (192 - 0 + 1) 0 P10632 _ h10688 oP10692 (by unfold RT3; omega) (by omega) (Nat.lt_succ_self _)
set_option maxRecDepth 20000 in
theorem lq_X10_begins_142 {V : VX} {X : MX} {N : Nat} {σ : Mem} {c T Z u h : Nat} {P : NP} {L : Nat → LQ}   (F : Fx V X yX10_begins cX10_begins 4 none (rmd 3 0 0)) (hQ : Rt V X 0 0 N (fun r τ => ∃ L9, OKL P.n0 L9 ∧ HS V c (⟨T, Z, u, h, P, L9⟩ : RG) [0, 1, 2, 3, 4, 5, 6, 7, 8, 9, 10, 11, 12, 13, 14, 15, 16, 18, 19, 20, 21, 23] σ τ ∧ r = none)) (hob : OKB L) (hP : OKP P) (hp0 : P.n0 ≤ P.m0) (hp1 : P.n2 ≤ P.w2) {fuelO : Nat} (hO : ∀ (i : Nat) (L1 : Nat → LQ) (τ : Mem), HS V c (⟨T, Z, u, h, P, L1⟩ : RG) [0, 1, 2, 3, 4, 5, 6, 7, 8, 9, 10, 11, 12, 13, 14, 15, 16, 18, 19, 20, 21, 23] σ τ → OKL i L1 → (∀ l, l < 4 → (L1 l).1 = 0 ∧ (L1 l).2.2.1 = 0 ∧ (L1 l).2.2.2 = 0) ∧ i ≤ P.n0 → 4 - i < fuelO → Wm V X 4 N τ 0 0 96 [(0, .ref c), (1, .int (nI i))] []) : ∀ (fuel : Nat) (i : Nat) (k : Nat) (L1 : Nat → LQ) (τ : Mem), HS V c (⟨T, Z, u, h, P, L1⟩ : RG) [0, 1, 2, 3, 4, 5, 6, 7, 8, 9, 10, 11, 12, 13, 14, 15, 16, 18, 19, 20, 21, 23] σ τ → OKL (i + 1) L1 → i < P.n0 ∧ (∀ l, l < 4 → (L1 l).1 = 0 ∧ (L1 l).2.2.1 = 0 ∧ (L1 l).2.2.2 = 0) ∧ k ≤ 48 ∧ 4 - i ≤ fuelO → 48 - k < fuel → Wm V X 4 N τ 0 0 142 [(0, .ref c), (1, .int (nI i)), (2, .int (nI (160 * i))), (3, .int (nI k))] [] := by
  intro fuel
  induction fuel with
  | zero => intros; rename_i hm; exact absurd hm (Nat.not_lt_zero _)
  | succ fuel ih =>
    intro i k L1 τ h1 hok1 hi hm
    have hPP := hP
    unfold OKP at hPP
    refine m_iload_n F rfl e_X10_begins_142 ?_
    refine m_aload_n F rfl e_X10_begins_143 ?_
    refine r_get F e_X10_begins_144 fl_X10_22 h1 rfl (fun v hv f10693 => ?_)
    obtain rfl : v = .ref (c + 5) := hv
    refine m_iload_n F rfl e_X10_begins_147 ?_
    refine r_iald F (len := 8) (j := i) e_X10_begins_148 h1 (fun _ h => h) (by decide) (nI_clamp (by omega)) (vp_in_nI (by omega) (by decide)) (fun x10694 h10695 f10696 => ?_)
    obtain ⟨n10697, hn10697, rfl, pn10697, rn10697⟩ := h10695
    refine m_icmp_ge F e_X10_begins_149 (fun q149 => ?_) (fun q149 => ?_)
    · have c149 : k ≥ n10697 := (nI_leI (a := n10697) (b := k) (by omega) (by omega)).mp q149
      refine m_aload_n F rfl e_X10_begins_204 ?_
      refine r_get F e_X10_begins_205 fl_X10_31 h1 rfl (fun v hv f10698 => ?_)
      obtain rfl : v = .ref (c + 8) := hv
      refine m_iload_n F rfl e_X10_begins_208 ?_
      refine r_iald F (len := 8) (j := i) e_X10_begins_209 h1 (fun _ h => h) (by decide) (nI_clamp (by omega)) (vp_in_nI (by omega) (by decide)) (fun x10699 h10700 f10701 => ?_)
      refine m_if_ne F e_X10_begins_210 (fun q210 => ?_) (fun q210 => ?_)
      · refine m_aload_n F rfl e_X10_begins_218 ?_
        refine m_iload_n F rfl e_X10_begins_219 ?_
        refine m_iconst F (v := 1) (by decide) e_X10_begins_220 ?_
        refine m_aload_n F rfl e_X10_begins_221 ?_
        refine r_getC F e_X10_begins_222 fl_X10_31 h1 (f10698) ?_
        refine m_iload_n F rfl e_X10_begins_225 ?_
        refine r_iald F (len := 8) (j := i) e_X10_begins_226 h1 (fun _ h => h) (by decide) (nI_clamp (by omega)) (vp_in_nI (by omega) (by decide)) (fun x10702 h10703 f10704 => ?_)
        obtain rfl := Option.some.inj ((f10704).symm.trans (f10701))
        refine m_i2l F e_X10_begins_227 ?_
        refine Wm.topl (fun x10705 _ => ?_)
        refine r_callV F e_X10_begins_228 (q_X10_rateFor (x_l X) V c T Z u h P L1 _ _ i 1 x10705 h1.1 (hok1.b) hP (by omega) (by omega) (by first | omega | assumption | decide)) cb_X10_rateFor ml_X10_226 im_X10_rateFor se_X10_rateFor h1 rfl rfl (rest := []) rfl (Nat.le_of_ble_eq_true rfl) ⟨Nat.le_of_ble_eq_true rfl, Nat.le_of_ble_eq_true rfl⟩ ⟨Nat.le_of_ble_eq_true rfl, Nat.le_of_ble_eq_true rfl⟩ (fun r σ10706 hp => ?_)
        obtain ⟨h10707, c10709⟩ := hp
        have h10708 := HS.trans h1 h10707 (by decide)
        rcases c10709 with rfl | ⟨n10710, hn10710, rfl⟩
        · refine m_istore_n F (lv' := [(3, .int (-2)), (0, .ref c), (1, .int (nI i)), (2, .int (nI (160 * i)))]) e_X10_begins_231 (by decide) rfl ?_
          refine m_aload_n F rfl e_X10_begins_232 ?_
          refine r_get F e_X10_begins_233 fl_X10_75 h10708 rfl (fun v hv f10711 => ?_)
          obtain rfl : v = .ref (c + 21) := hv
          refine m_iload_n F rfl e_X10_begins_236 ?_
          refine m_iload_n F rfl e_X10_begins_237 ?_
          refine m_bipush F (v := (-2)) (by decide) e_X10_begins_238 ?_
          refine m_icmp_eq F e_X10_begins_240 (fun _ => ?_) (fun q => absurd (by decide) q)
          refine m_iconst F (v := 0) (by decide) e_X10_begins_247 ?_
          refine r_zast F (j := i) (m := 0) e_X10_begins_248 h10708 (nI_clamp (by omega)) (vp_in_nI (by omega) (by decide)) (by omega) (by decide) (fun σ10712 h10713 g10714 ezσ10712 => ?_)
          refine m_aload_n F rfl e_X10_begins_249 ?_
          refine r_getC F e_X10_begins_250 fl_X10_75 h10713 ((fld_eq (g10714 _ (by omega))).trans f10711) ?_
          refine m_iload_n F rfl e_X10_begins_253 ?_
          refine r_zald F (j := i) e_X10_begins_254 h10713 (nI_clamp (by omega)) (vp_in_nI (by omega) (by decide)) (fun n10715 hn10715 f10716 => ?_)
          have gn10715 := nI_inj (by omega) (by omega) (Option.some.inj ((f10716).symm.trans (ezσ10712)))
          refine m_if_eq F e_X10_begins_255 (fun q255 => ?_) (fun q255 => ?_)
          · have c255 : n10715 = 0 := (nI_eq (a := n10715) (b := 0) (by omega) (by omega)).mp q255
            refine m_iinc F (v := nI (i + 1)) (lv' := [(1, .int (nI (i + 1))), (3, .int (-2)), (0, .ref c), (2, .int (nI (160 * i)))]) e_X10_begins_268 rfl (nI_add i 1) (by decide) rfl ?_
            refine m_goto F e_X10_begins_271 ?_
            refine Wm.lvsub (lv' := [(0, .ref c), (1, .int (nI (i + 1)))]) ?_ [2, 0] rfl
            exact hO (i + 1) L1 _ h10713 hok1 ⟨hi.2.1, by omega⟩ (by omega)
          · have c255 : n10715 ≠ 0 := by have hh := mt (nI_eq (a := n10715) (b := 0) (by omega) (by omega)).mpr q255; omega
            exfalso; omega
        · refine m_istore_n F (lv' := [(3, .int (nI n10710)), (0, .ref c), (1, .int (nI i)), (2, .int (nI (160 * i)))]) e_X10_begins_231 (by decide) rfl ?_
          refine m_aload_n F rfl e_X10_begins_232 ?_
          refine r_get F e_X10_begins_233 fl_X10_75 h10708 rfl (fun v hv f10717 => ?_)
          obtain rfl : v = .ref (c + 21) := hv
          refine m_iload_n F rfl e_X10_begins_236 ?_
          refine m_iload_n F rfl e_X10_begins_237 ?_
          refine m_bipush F (v := (-2)) (by decide) e_X10_begins_238 ?_
          refine m_icmp_eq F e_X10_begins_240 (fun q240 => ?_) (fun q240 => ?_)
          · refine m_iconst F (v := 0) (by decide) e_X10_begins_247 ?_
            refine r_zast F (j := i) (m := 0) e_X10_begins_248 h10708 (nI_clamp (by omega)) (vp_in_nI (by omega) (by decide)) (by omega) (by decide) (fun σ10718 h10719 g10720 ezσ10718 => ?_)
            refine m_aload_n F rfl e_X10_begins_249 ?_
            refine r_getC F e_X10_begins_250 fl_X10_75 h10719 ((fld_eq (g10720 _ (by omega))).trans f10717) ?_
            refine m_iload_n F rfl e_X10_begins_253 ?_
            refine r_zald F (j := i) e_X10_begins_254 h10719 (nI_clamp (by omega)) (vp_in_nI (by omega) (by decide)) (fun n10721 hn10721 f10722 => ?_)
            have gn10721 := nI_inj (by omega) (by omega) (Option.some.inj ((f10722).symm.trans (ezσ10718)))
            refine m_if_eq F e_X10_begins_255 (fun q255 => ?_) (fun q255 => ?_)
            · have c255 : n10721 = 0 := (nI_eq (a := n10721) (b := 0) (by omega) (by omega)).mp q255
              refine m_iinc F (v := nI (i + 1)) (lv' := [(1, .int (nI (i + 1))), (3, .int (nI n10710)), (0, .ref c), (2, .int (nI (160 * i)))]) e_X10_begins_268 rfl (nI_add i 1) (by decide) rfl ?_
              refine m_goto F e_X10_begins_271 ?_
              refine Wm.lvsub (lv' := [(0, .ref c), (1, .int (nI (i + 1)))]) ?_ [2, 0] rfl
              exact hO (i + 1) L1 _ h10719 hok1 ⟨hi.2.1, by omega⟩ (by omega)
            · have c255 : n10721 ≠ 0 := by have hh := mt (nI_eq (a := n10721) (b := 0) (by omega) (by omega)).mpr q255; omega
              refine m_aload_n F rfl e_X10_begins_258 ?_
              refine r_get F e_X10_begins_259 fl_X10_59 h10719 rfl (fun v hv f10723 => ?_)
              obtain rfl : v = .ref (c + 16) := hv
              refine m_iload_n F rfl e_X10_begins_262 ?_
              refine m_iconst F (v := 2) (by decide) e_X10_begins_263 ?_
              refine m_iadd F e_X10_begins_264 ?_
              refine Wm.topE (w := nI (160 * i + 2)) (nI_add (160 * i) 2) ?_
              refine m_iload_n F rfl e_X10_begins_265 ?_
              refine m_i2l F e_X10_begins_266 ?_
              refine Wm.toplE (w := lN n10710) (nI_l (by omega)) ?_
              refine r_sst F (g' := (⟨T, Z, u, h, P, L1⟩ : RG)) (j := 160 * i + 2) e_X10_begins_267 h10719 (by decide) (nI_clamp (by omega)) (vp_in_nI (by omega) (by decide)) (fun f q => EJ_same ((EJ_l (l := i) (r := 2) (by omega) (by decide)).mpr ⟨n10710, by omega, rfl⟩) q) (fun _ _ _ q => q) (fun σ10724 h10725 g10726 => ?_)
              refine m_iinc F (v := nI (i + 1)) (lv' := [(1, .int (nI (i + 1))), (3, .int (nI n10710)), (0, .ref c), (2, .int (nI (160 * i)))]) e_X10_begins_268 rfl (nI_add i 1) (by decide) rfl ?_
              refine m_goto F e_X10_begins_271 ?_
              refine Wm.lvsub (lv' := [(0, .ref c), (1, .int (nI (i + 1)))]) ?_ [2, 0] rfl
              exact hO (i + 1) L1 _ h10725 hok1 ⟨hi.2.1, by omega⟩ (by omega)
          · refine m_iconst F (v := 1) (by decide) e_X10_begins_243 ?_
            refine m_goto F e_X10_begins_244 ?_
            refine r_zast F (j := i) (m := 1) e_X10_begins_248 h10708 (nI_clamp (by omega)) (vp_in_nI (by omega) (by decide)) (by omega) (by decide) (fun σ10727 h10728 g10729 ezσ10727 => ?_)
            refine m_aload_n F rfl e_X10_begins_249 ?_
            refine r_getC F e_X10_begins_250 fl_X10_75 h10728 ((fld_eq (g10729 _ (by omega))).trans f10717) ?_
            refine m_iload_n F rfl e_X10_begins_253 ?_
            refine r_zald F (j := i) e_X10_begins_254 h10728 (nI_clamp (by omega)) (vp_in_nI (by omega) (by decide)) (fun n10730 hn10730 f10731 => ?_)
            have gn10730 := nI_inj (by omega) (by omega) (Option.some.inj ((f10731).symm.trans (ezσ10727)))
            refine m_if_eq F e_X10_begins_255 (fun q255 => ?_) (fun q255 => ?_)
            · have c255 : n10730 = 0 := (nI_eq (a := n10730) (b := 0) (by omega) (by omega)).mp q255
              refine m_iinc F (v := nI (i + 1)) (lv' := [(1, .int (nI (i + 1))), (3, .int (nI n10710)), (0, .ref c), (2, .int (nI (160 * i)))]) e_X10_begins_268 rfl (nI_add i 1) (by decide) rfl ?_
              refine m_goto F e_X10_begins_271 ?_
              refine Wm.lvsub (lv' := [(0, .ref c), (1, .int (nI (i + 1)))]) ?_ [2, 0] rfl
              exact hO (i + 1) L1 _ h10728 hok1 ⟨hi.2.1, by omega⟩ (by omega)
            · have c255 : n10730 ≠ 0 := by have hh := mt (nI_eq (a := n10730) (b := 0) (by omega) (by omega)).mpr q255; omega
              refine m_aload_n F rfl e_X10_begins_258 ?_
              refine r_get F e_X10_begins_259 fl_X10_59 h10728 rfl (fun v hv f10732 => ?_)
              obtain rfl : v = .ref (c + 16) := hv
              refine m_iload_n F rfl e_X10_begins_262 ?_
              refine m_iconst F (v := 2) (by decide) e_X10_begins_263 ?_
              refine m_iadd F e_X10_begins_264 ?_
              refine Wm.topE (w := nI (160 * i + 2)) (nI_add (160 * i) 2) ?_
              refine m_iload_n F rfl e_X10_begins_265 ?_
              refine m_i2l F e_X10_begins_266 ?_
              refine Wm.toplE (w := lN n10710) (nI_l (by omega)) ?_
              refine r_sst F (g' := (⟨T, Z, u, h, P, L1⟩ : RG)) (j := 160 * i + 2) e_X10_begins_267 h10728 (by decide) (nI_clamp (by omega)) (vp_in_nI (by omega) (by decide)) (fun f q => EJ_same ((EJ_l (l := i) (r := 2) (by omega) (by decide)).mpr ⟨n10710, by omega, rfl⟩) q) (fun _ _ _ q => q) (fun σ10733 h10734 g10735 => ?_)
              refine m_iinc F (v := nI (i + 1)) (lv' := [(1, .int (nI (i + 1))), (3, .int (nI n10710)), (0, .ref c), (2, .int (nI (160 * i)))]) e_X10_begins_268 rfl (nI_add i 1) (by decide) rfl ?_
              refine m_goto F e_X10_begins_271 ?_
              refine Wm.lvsub (lv' := [(0, .ref c), (1, .int (nI (i + 1)))]) ?_ [2, 0] rfl
              exact hO (i + 1) L1 _ h10734 hok1 ⟨hi.2.1, by omega⟩ (by omega)
      · subst q210
        refine m_bipush F (v := (-2)) (by decide) e_X10_begins_213 ?_
        refine m_goto F e_X10_begins_215 ?_
        refine m_istore_n F (lv' := [(3, .int (-2)), (0, .ref c), (1, .int (nI i)), (2, .int (nI (160 * i)))]) e_X10_begins_231 (by decide) rfl ?_
        refine m_aload_n F rfl e_X10_begins_232 ?_
        refine r_get F e_X10_begins_233 fl_X10_75 h1 rfl (fun v hv f10736 => ?_)
        obtain rfl : v = .ref (c + 21) := hv
        refine m_iload_n F rfl e_X10_begins_236 ?_
        refine m_iload_n F rfl e_X10_begins_237 ?_
        refine m_bipush F (v := (-2)) (by decide) e_X10_begins_238 ?_
        refine m_icmp_eq F e_X10_begins_240 (fun _ => ?_) (fun q => absurd (by decide) q)
        refine m_iconst F (v := 0) (by decide) e_X10_begins_247 ?_
        refine r_zast F (j := i) (m := 0) e_X10_begins_248 h1 (nI_clamp (by omega)) (vp_in_nI (by omega) (by decide)) (by omega) (by decide) (fun σ10737 h10738 g10739 ezσ10737 => ?_)
        refine m_aload_n F rfl e_X10_begins_249 ?_
        refine r_getC F e_X10_begins_250 fl_X10_75 h10738 ((fld_eq (g10739 _ (by omega))).trans f10736) ?_
        refine m_iload_n F rfl e_X10_begins_253 ?_
        refine r_zald F (j := i) e_X10_begins_254 h10738 (nI_clamp (by omega)) (vp_in_nI (by omega) (by decide)) (fun n10740 hn10740 f10741 => ?_)
        have gn10740 := nI_inj (by omega) (by omega) (Option.some.inj ((f10741).symm.trans (ezσ10737)))
        refine m_if_eq F e_X10_begins_255 (fun q255 => ?_) (fun q255 => ?_)
        · have c255 : n10740 = 0 := (nI_eq (a := n10740) (b := 0) (by omega) (by omega)).mp q255
          refine m_iinc F (v := nI (i + 1)) (lv' := [(1, .int (nI (i + 1))), (3, .int (-2)), (0, .ref c), (2, .int (nI (160 * i)))]) e_X10_begins_268 rfl (nI_add i 1) (by decide) rfl ?_
          refine m_goto F e_X10_begins_271 ?_
          refine Wm.lvsub (lv' := [(0, .ref c), (1, .int (nI (i + 1)))]) ?_ [2, 0] rfl
          exact hO (i + 1) L1 _ h10738 hok1 ⟨hi.2.1, by omega⟩ (by omega)
        · have c255 : n10740 ≠ 0 := by have hh := mt (nI_eq (a := n10740) (b := 0) (by omega) (by omega)).mpr q255; omega
          exfalso; omega
    · have c149 : k < n10697 := by have hh := mt (nI_leI (a := n10697) (b := k) (by omega) (by omega)).mpr q149; omega
      refine m_aload_n F rfl e_X10_begins_152 ?_
      refine r_get F e_X10_begins_153 fl_X10_59 h1 rfl (fun v hv f10742 => ?_)
      obtain rfl : v = .ref (c + 16) := hv
      refine m_iload_n F rfl e_X10_begins_156 ?_
      refine m_bipush F (v := 13) (by decide) e_X10_begins_157 ?_
      refine m_iadd F e_X10_begins_159 ?_
      refine Wm.topE (w := nI (160 * i + 13)) (nI_add (160 * i) 13) ?_
      refine m_iload_n F rfl e_X10_begins_160 ?_
      refine m_iadd F e_X10_begins_161 ?_
      refine Wm.topE (w := nI ((160 * i + 13) + k)) (nI_add (160 * i + 13) k) ?_
      refine m_aload_n F rfl e_X10_begins_162 ?_
      refine r_get F e_X10_begins_163 fl_X10_37 h1 rfl (fun v hv f10743 => ?_)
      obtain rfl : v = .ref (c + 10) := hv
      refine m_bipush F (v := 48) (by decide) e_X10_begins_166 ?_
      refine m_iload_n F rfl e_X10_begins_168 ?_
      refine m_imul F e_X10_begins_169 ?_
      refine Wm.topE (w := nI (48 * i)) (pk_mul 48 i) ?_
      refine m_iload_n F rfl e_X10_begins_170 ?_
      refine m_iadd F e_X10_begins_171 ?_
      refine Wm.topE (w := nI ((48 * i) + k)) (nI_add (48 * i) k) ?_
      refine r_iald F (len := 384) (j := (48 * i) + k) e_X10_begins_172 h1 (fun _ h => h) (by decide) (nI_clamp (by omega)) (vp_in_nI (by omega) (by decide)) (fun x10744 h10745 f10746 => ?_)
      refine m_i2l F e_X10_begins_173 ?_
      refine Wm.topl (fun x10747 _ => ?_)
      refine r_sst F (g' := (⟨T, Z, u, h, P, L1⟩ : RG)) (j := (160 * i + 13) + k) e_X10_begins_174 h1 (by decide) (nI_clamp (by omega)) (vp_in_nI (by omega) (by decide)) (fun f q => EJ_same (EJ_lw (l := i) (r := ((160 * i + 13) + k) - 160 * i) (by omega) (by omega) (by omega)) q) (fun _ _ _ q => q) (fun σ10748 h10749 g10750 => ?_)
      refine m_aload_n F rfl e_X10_begins_175 ?_
      refine r_getC F e_X10_begins_176 fl_X10_59 h10749 ((fld_eq (g10750 _ (by omega))).trans f10742) ?_
      refine m_iload_n F rfl e_X10_begins_179 ?_
      refine m_bipush F (v := 85) (by decide) e_X10_begins_180 ?_
      refine m_iadd F e_X10_begins_182 ?_
      refine Wm.topE (w := nI (160 * i + 85)) (nI_add (160 * i) 85) ?_
      refine m_iload_n F rfl e_X10_begins_183 ?_
      refine m_iadd F e_X10_begins_184 ?_
      refine Wm.topE (w := nI ((160 * i + 85) + k)) (nI_add (160 * i + 85) k) ?_
      refine m_aload_n F rfl e_X10_begins_185 ?_
      refine r_getC F e_X10_begins_186 fl_X10_37 h10749 ((fld_eq (g10750 _ (by omega))).trans f10743) ?_
      refine m_bipush F (v := 48) (by decide) e_X10_begins_189 ?_
      refine m_iload_n F rfl e_X10_begins_191 ?_
      refine m_imul F e_X10_begins_192 ?_
      refine Wm.topE (w := nI (48 * i)) (pk_mul 48 i) ?_
      refine m_iload_n F rfl e_X10_begins_193 ?_
      refine m_iadd F e_X10_begins_194 ?_
      refine Wm.topE (w := nI ((48 * i) + k)) (nI_add (48 * i) k) ?_
      refine r_iald F (len := 384) (j := (48 * i) + k) e_X10_begins_195 h10749 (fun _ h => h) (by decide) (nI_clamp (by omega)) (vp_in_nI (by omega) (by decide)) (fun x10751 h10752 f10753 => ?_)
      obtain rfl := Option.some.inj ((f10753).symm.trans ((elI_eq (g10750 _ (by omega))).trans f10746))
      refine m_i2l F e_X10_begins_196 ?_
      refine Wm.topl (fun x10754 _ => ?_)
      refine r_sst F (g' := (⟨T, Z, u, h, P, L1⟩ : RG)) (j := (160 * i + 85) + k) e_X10_begins_197 h10749 (by decide) (nI_clamp (by omega)) (vp_in_nI (by omega) (by decide)) (fun f q => EJ_same (EJ_lw (l := i) (r := ((160 * i + 85) + k) - 160 * i) (by omega) (by omega) (by omega)) q) (fun _ _ _ q => q) (fun σ10755 h10756 g10757 => ?_)
      refine m_iinc F (v := nI (k + 1)) (lv' := [(3, .int (nI (k + 1))), (0, .ref c), (1, .int (nI i)), (2, .int (nI (160 * i)))]) e_X10_begins_198 rfl (nI_add k 1) (by decide) rfl ?_
      refine m_goto F e_X10_begins_201 ?_
      refine Wm.lvsub (lv' := [(0, .ref c), (1, .int (nI i)), (2, .int (nI (160 * i))), (3, .int (nI (k + 1)))]) ?_ [1, 2, 3, 0] rfl
      exact ih i (k + 1) L1 _ h10756 hok1 ⟨by omega, hi.2.1, by omega, by omega⟩ (by omega)
set_option maxRecDepth 20000 in
theorem lq_X10_begins_96 {V : VX} {X : MX} {N : Nat} {σ : Mem} {c T Z u h : Nat} {P : NP} {L : Nat → LQ}   (F : Fx V X yX10_begins cX10_begins 4 none (rmd 3 0 0)) (hQ : Rt V X 0 0 N (fun r τ => ∃ L9, OKL P.n0 L9 ∧ HS V c (⟨T, Z, u, h, P, L9⟩ : RG) [0, 1, 2, 3, 4, 5, 6, 7, 8, 9, 10, 11, 12, 13, 14, 15, 16, 18, 19, 20, 21, 23] σ τ ∧ r = none)) (hob : OKB L) (hP : OKP P) (hp0 : P.n0 ≤ P.m0) (hp1 : P.n2 ≤ P.w2)  : ∀ (fuel : Nat) (i : Nat) (L1 : Nat → LQ) (τ : Mem), HS V c (⟨T, Z, u, h, P, L1⟩ : RG) [0, 1, 2, 3, 4, 5, 6, 7, 8, 9, 10, 11, 12, 13, 14, 15, 16, 18, 19, 20, 21, 23] σ τ → OKL i L1 → (∀ l, l < 4 → (L1 l).1 = 0 ∧ (L1 l).2.2.1 = 0 ∧ (L1 l).2.2.2 = 0) ∧ i ≤ P.n0 → 4 - i < fuel → Wm V X 4 N τ 0 0 96 [(0, .ref c), (1, .int (nI i))] [] := by
  intro fuel
  induction fuel with
  | zero => intros; rename_i hm; exact absurd hm (Nat.not_lt_zero _)
  | succ fuel ih =>
    intro i L1 τ h1 hok1 hi hm
    have hPP := hP
    unfold OKP at hPP
    refine m_iload_n F rfl e_X10_begins_96 ?_
    refine m_aload_n F rfl e_X10_begins_97 ?_
    refine r_callV F e_X10_begins_98 (q_X10_leases (x_l X) V c T Z u h P L1 _ _  h1.1 (hok1.b) hP ) cb_X10_leases ml_X10_221 im_X10_leases se_X10_leases h1 rfl rfl (rest := [.int (nI i)]) rfl (Nat.le_of_ble_eq_true rfl) ⟨Nat.le_of_ble_eq_true rfl, Nat.le_of_ble_eq_true rfl⟩ ⟨Nat.le_of_ble_eq_true rfl, Nat.le_of_ble_eq_true rfl⟩ (fun r σ10758 hp => ?_)
    obtain ⟨h10759, rfl⟩ := hp
    have h10760 := HS.trans h1 h10759 (by decide)
    refine m_icmp_ge F e_X10_begins_101 (fun q101 => ?_) (fun q101 => ?_)
    · have c101 : i ≥ P.n0 := (nI_leI (a := P.n0) (b := i) (by omega) (by omega)).mp q101
      have okf : OKL P.n0 L1 := by rw [show P.n0 = i by omega]; exact hok1
      have okf : OKL P.n0 L1 := by rw [show P.n0 = i by omega]; exact hok1
      exact m_vret F hQ e_X10_begins_274 (⟨L1, okf, h10760, rfl⟩)
    · have c101 : i < P.n0 := by have hh := mt (nI_leI (a := P.n0) (b := i) (by omega) (by omega)).mpr q101; omega
      refine m_sipush F (v := 160) (by decide) e_X10_begins_104 ?_
      refine m_iload_n F rfl e_X10_begins_107 ?_
      refine m_imul F e_X10_begins_108 ?_
      refine Wm.topE (w := nI (160 * i)) (pk_mul 160 i) ?_
      refine m_istore_n F (lv' := [(2, .int (nI (160 * i))), (0, .ref c), (1, .int (nI i))]) e_X10_begins_109 (by decide) rfl ?_
      refine m_aload_n F rfl e_X10_begins_110 ?_
      refine r_get F e_X10_begins_111 fl_X10_59 h10760 rfl (fun v hv f10761 => ?_)
      obtain rfl : v = .ref (c + 16) := hv
      refine m_iload_n F rfl e_X10_begins_114 ?_
      refine m_iconst F (v := 1) (by decide) e_X10_begins_115 ?_
      refine m_iadd F e_X10_begins_116 ?_
      refine Wm.topE (w := nI (160 * i + 1)) (nI_add (160 * i) 1) ?_
      refine m_aload_n F rfl e_X10_begins_117 ?_
      refine r_get F e_X10_begins_118 fl_X10_22 h10760 rfl (fun v hv f10762 => ?_)
      obtain rfl : v = .ref (c + 5) := hv
      refine m_iload_n F rfl e_X10_begins_121 ?_
      refine r_iald F (len := 8) (j := i) e_X10_begins_122 h10760 (fun _ h => h) (by decide) (nI_clamp (by omega)) (vp_in_nI (by omega) (by decide)) (fun x10763 h10764 f10765 => ?_)
      obtain ⟨n10766, hn10766, rfl, pn10766, rn10766⟩ := h10764
      refine m_i2l F e_X10_begins_123 ?_
      refine Wm.toplE (w := lN n10766) (nI_l (by omega)) ?_
      refine r_sst F (g' := (⟨T, Z, u, h, P, (updL L1 i ((L1 i).1, n10766, (L1 i).2.2.1, (L1 i).2.2.2))⟩ : RG)) (j := 160 * i + 1) e_X10_begins_124 h10760 (by decide) (nI_clamp (by omega)) (vp_in_nI (by omega) (by decide)) (fun f q => EJ_up (l := i) (r := 1) (by omega) (by decide) q rfl (by intro r' h1 h2 y hy; revert hy; unfold EL; split <;> simp_all)) CR.row (fun σ10767 h10768 g10769 => ?_)
      obtain ⟨L10770, eL10770⟩ : ∃ L9, L9 = (updL L1 i ((L1 i).1, n10766, (L1 i).2.2.1, (L1 i).2.2.2)) := ⟨_, rfl⟩
      rw [← eL10770] at h10768
      have fL10770 : L10770 i = ((L1 i).1, n10766, (L1 i).2.2.1, (L1 i).2.2.2) := by rw [eL10770]; exact if_pos rfl
      have fL107700 : (L10770 i).1 = (L1 i).1 := by rw [fL10770]
      have fL107701 : (L10770 i).2.1 = n10766 := by rw [fL10770]
      have fL107702 : (L10770 i).2.2.1 = (L1 i).2.2.1 := by rw [fL10770]
      have fL107703 : (L10770 i).2.2.2 = (L1 i).2.2.2 := by rw [fL10770]
      have oL10770 : ∀ i9, i9 ≠ i → L10770 i9 = L1 i9 := fun i9 hi9 => by rw [eL10770]; exact if_neg hi9
      have pL10770 : (L10770 4).1 = (L1 4).1 := by rw [oL10770 4 (by omega)]
      refine m_aload_n F rfl e_X10_begins_125 ?_
      refine r_getC F e_X10_begins_126 fl_X10_59 h10768 ((fld_eq (g10769 _ (by omega))).trans f10761) ?_
      refine m_iload_n F rfl e_X10_begins_129 ?_
      refine m_iconst F (v := 2) (by decide) e_X10_begins_130 ?_
      refine m_iadd F e_X10_begins_131 ?_
      refine Wm.topE (w := nI (160 * i + 2)) (nI_add (160 * i) 2) ?_
      refine m_aload_n F rfl e_X10_begins_132 ?_
      refine r_get F e_X10_begins_133 fl_X10_25 h10768 rfl (fun v hv f10771 => ?_)
      obtain rfl : v = .ref (c + 6) := hv
      refine m_iload_n F rfl e_X10_begins_136 ?_
      refine r_iald F (len := 8) (j := i) e_X10_begins_137 h10768 (fun _ h => h) (by decide) (nI_clamp (by omega)) (vp_in_nI (by omega) (by decide)) (fun x10772 h10773 f10774 => ?_)
      obtain ⟨n10775, hn10775, rfl⟩ := h10773
      refine m_i2l F e_X10_begins_138 ?_
      refine Wm.toplE (w := lN n10775) (nI_l (by omega)) ?_
      refine r_sst F (g' := (⟨T, Z, u, h, P, L10770⟩ : RG)) (j := 160 * i + 2) e_X10_begins_139 h10768 (by decide) (nI_clamp (by omega)) (vp_in_nI (by omega) (by decide)) (fun f q => EJ_same ((EJ_l (l := i) (r := 2) (by omega) (by decide)).mpr ⟨n10775, by omega, rfl⟩) q) (fun _ _ _ q => q) (fun σ10776 h10777 g10778 => ?_)
      refine m_iconst F (v := 0) (by decide) e_X10_begins_140 ?_
      refine m_istore_n F (lv' := [(3, .int 0), (2, .int (nI (160 * i))), (0, .ref c), (1, .int (nI i))]) e_X10_begins_141 (by decide) rfl ?_
      have hp9 : 1 ≤ n10766 := pn10766 (by omega) (show i < P.m0 by omega)
      have h9a := hok1.2 i (by omega)
      have h9b := hi.1 i (by omega)
      have okx : OKL (i + 1) L10770 := OKL.updS hok1 (by omega) (fun i9 hi9 => oL10770 i9 hi9) (by omega)
      have hz9 : ∀ l, l < 4 → (L10770 l).1 = 0 ∧ (L10770 l).2.2.1 = 0 ∧ (L10770 l).2.2.2 = 0 := by
        intro l hl
        by_cases e : l = i
        · subst e; omega
        · rw [oL10770 l e]; exact hi.1 l hl
      refine Wm.lvsub (lv' := [(0, .ref c), (1, .int (nI i)), (2, .int (nI (160 * i))), (3, .int 0)]) ?_ [2, 3, 1, 0] rfl
      exact lq_X10_begins_142 F hQ hob hP hp0 hp1 ih (48 - 0 + 1) i 0 L10770 _ h10777 okx ⟨by omega, hz9, by omega, by omega⟩ (Nat.lt_succ_self _)
set_option maxRecDepth 20000 in
theorem bg_45 {V : VX} {X : MX} {N : Nat} {σ : Mem} {c T Z u h : Nat} {P : NP} {L : Nat → LQ} (F : Fx V X yX10_begins cX10_begins 4 none (rmd 3 0 0)) (hQ : Rt V X 0 0 N (fun r τ => ∃ L9, OKL P.n0 L9 ∧ HS V c (⟨T, Z, u, h, P, L9⟩ : RG) [0, 1, 2, 3, 4, 5, 6, 7, 8, 9, 10, 11, 12, 13, 14, 15, 16, 18, 19, 20, 21, 23] σ τ ∧ r = none)) (h0 : HR V c ⟨T, Z, u, h, P, L⟩ σ) (hob : OKB L) (hP : OKP P) (hp0 : P.n0 ≤ P.m0) (hp1 : P.n2 ≤ P.w2) {fs : List Value} {fN fA fB : Nat → Int32} (e1 : σ c = some (ob 8 fs)) (e27 : fs[27]? = some (.ref (c + 16))) (e3 : fs[3]? = some (.ref (c + 2))) (e12 : fs[12]? = some (.ref (c + 11))) (e13 : fs[13]? = some (.ref (c + 12))) (eN : σ (c + 2) = some (aI V 10 fN)) (tN : fN 2 = nI P.n2) (eA : σ (c + 11) = some (aI V 16 fA)) (tA : ∀ i, i < 16 → bN 99 (fA i)) (eB : σ (c + 12) = some (aI V 16 fB)) (tB : ∀ i, i < 16 → EI P 13 i (fB i)) {fuelO : Nat} (hO : ∀ (p : Nat) (f : Nat → Int64) (τ : Mem), upto c 16 (aJ V 1113 f) σ τ → PZ p f → p ≤ 100 → 100 - p < fuelO → Wm V X 4 N τ 0 0 24 [(1, .int (nI p)), (0, .ref c)] []) : ∀ (fuel : Nat) (k p : Nat) (f : Nat → Int64) (τ : Mem), upto c 16 (aJ V 1113 f) σ τ → PZ (p + 1) f → p < 100 → 100 - p ≤ fuelO → k ≤ 8 → 8 - k < fuel → Wm V X 4 N τ 0 0 45 [(2, .int (nI k)), (1, .int (nI p)), (0, .ref c)] [] := by
  intro fuel
  induction fuel with
  | zero => intros; rename_i hm; exact absurd hm (Nat.not_lt_zero _)
  | succ fuel ih =>
    intro k p f τ hτ hz hp hf hk hm
    have hPP := hP
    unfold OKP at hPP
    refine m_iload_n F rfl e_X10_begins_45 ?_
    refine m_aload_n F rfl e_X10_begins_46 ?_
    refine m_get F e_X10_begins_47 fl_X10_13 ((hτ.2 c (by omega)).trans e1) e3 ?_
    refine m_iconst F (v := 2) (by decide) e_X10_begins_50 ?_
    refine m_iald F e_X10_begins_51 ((hτ.2 (c + 2) (by omega)).trans eN) (j := 2) (by decide) (by unfold vp_in; decide) ?_
    refine Wm.topE (w := nI P.n2) tN ?_
    refine m_icmp_ge F e_X10_begins_52 (fun q52 => ?_) (fun q52 => ?_)
    · have c52 : k ≥ P.n2 := (nI_leI (a := P.n2) (b := k) (by omega) (by omega)).mp q52
      refine m_iinc F (v := nI (p + 1)) (lv' := [(1, .int (nI (p + 1))), (2, .int (nI k)), (0, .ref c)]) e_X10_begins_88 rfl (nI_add p 1) (by decide) rfl ?_
      refine m_goto F e_X10_begins_91 ?_
      refine Wm.lvsub (lv' := [(1, .int (nI (p + 1))), (0, .ref c)]) ?_ [0, 2] rfl
      exact hO (p + 1) _ _ hτ hz (by omega) (by omega)
    · have c52 : k < P.n2 := by have hh := mt (nI_leI (a := P.n2) (b := k) (by omega) (by omega)).mpr q52; omega
      refine m_aload_n F rfl e_X10_begins_55 ?_
      refine m_get F e_X10_begins_56 fl_X10_40 ((hτ.2 c (by omega)).trans e1) e12 ?_
      refine m_iload_n F rfl e_X10_begins_59 ?_
      refine m_iald F e_X10_begins_60 ((hτ.2 (c + 11) (by omega)).trans eA) (j := k) (nI_clamp (by omega)) (vp_in_nI (by omega) (by decide)) ?_
      obtain ⟨na, ha, ea⟩ := tA k (by omega)
      refine Wm.topE (w := nI na) ea ?_
      refine m_iload_n F rfl e_X10_begins_61 ?_
      refine m_icmp_gt F e_X10_begins_62 (fun q62 => ?_) (fun q62 => ?_)
      · have c62 : na > p := (nI_ltI (a := p) (b := na) (by omega) (by omega)).mp q62
        refine m_iinc F (v := nI (k + 1)) (lv' := [(2, .int (nI (k + 1))), (1, .int (nI p)), (0, .ref c)]) e_X10_begins_82 rfl (nI_add k 1) (by decide) rfl ?_
        refine m_goto F e_X10_begins_85 ?_
        exact ih (k + 1) p _ _ hτ hz hp hf (by omega) (by omega)
      · have c62 : na ≤ p := by have hh := mt (nI_ltI (a := p) (b := na) (by omega) (by omega)).mpr q62; omega
        refine m_aload_n F rfl e_X10_begins_65 ?_
        refine m_get F e_X10_begins_66 fl_X10_59 ((hτ.2 c (by omega)).trans e1) e27 ?_
        refine m_sipush F (v := 644) (by decide) e_X10_begins_69 ?_
        refine m_iload_n F rfl e_X10_begins_72 ?_
        refine m_iadd F e_X10_begins_73 ?_
        refine Wm.topE (w := nI (644 + p)) (nI_add 644 p) ?_
        refine m_aload_n F rfl e_X10_begins_74 ?_
        refine m_get F e_X10_begins_75 fl_X10_43 ((hτ.2 c (by omega)).trans e1) e13 ?_
        refine m_iload_n F rfl e_X10_begins_78 ?_
        refine m_iald F e_X10_begins_79 ((hτ.2 (c + 12) (by omega)).trans eB) (j := k) (nI_clamp (by omega)) (vp_in_nI (by omega) (by decide)) ?_
        obtain ⟨nb, hb, eb, pb, rb⟩ := tB k (by omega)
        have hb9 := pb (by omega) (show k < P.w2 by omega)
        refine Wm.topE (w := nI nb) eb ?_
        refine m_i2l F e_X10_begins_80 ?_
        refine Wm.toplE (w := lN nb) (nI_l (by omega)) ?_
        refine m_last F e_X10_begins_81 hτ.1 (j := 644 + p) (nI_clamp (by omega)) (vp_in_nI (by omega) (by decide)) rfl rfl ?_
        have hτ2 := va_upto (e' := aJ V 1113 (vp_updL f (644 + p) (lN nb))) hτ
        refine m_iinc F (v := nI (k + 1)) (lv' := [(2, .int (nI (k + 1))), (1, .int (nI p)), (0, .ref c)]) e_X10_begins_82 rfl (nI_add k 1) (by decide) rfl ?_
        refine m_goto F e_X10_begins_85 ?_
        exact ih (k + 1) p _ _ hτ2 (PZ.put2 hz (by omega) ⟨by omega, by omega⟩) hp hf (by omega) (by omega)
set_option maxRecDepth 20000 in
theorem bg_24 {V : VX} {X : MX} {N : Nat} {σ : Mem} {c T Z u h : Nat} {P : NP} {L : Nat → LQ} (F : Fx V X yX10_begins cX10_begins 4 none (rmd 3 0 0)) (hQ : Rt V X 0 0 N (fun r τ => ∃ L9, OKL P.n0 L9 ∧ HS V c (⟨T, Z, u, h, P, L9⟩ : RG) [0, 1, 2, 3, 4, 5, 6, 7, 8, 9, 10, 11, 12, 13, 14, 15, 16, 18, 19, 20, 21, 23] σ τ ∧ r = none)) (h0 : HR V c ⟨T, Z, u, h, P, L⟩ σ) (hob : OKB L) (hP : OKP P) (hp0 : P.n0 ≤ P.m0) (hp1 : P.n2 ≤ P.w2) {fs : List Value} {fN fA fB : Nat → Int32} (e1 : σ c = some (ob 8 fs)) (e27 : fs[27]? = some (.ref (c + 16))) (e3 : fs[3]? = some (.ref (c + 2))) (e12 : fs[12]? = some (.ref (c + 11))) (e13 : fs[13]? = some (.ref (c + 12))) (eN : σ (c + 2) = some (aI V 10 fN)) (tN : fN 2 = nI P.n2) (eA : σ (c + 11) = some (aI V 16 fA)) (tA : ∀ i, i < 16 → bN 99 (fA i)) (eB : σ (c + 12) = some (aI V 16 fB)) (tB : ∀ i, i < 16 → EI P 13 i (fB i))  : ∀ (fuel : Nat) (p : Nat) (f : Nat → Int64) (τ : Mem), upto c 16 (aJ V 1113 f) σ τ → PZ p f → p ≤ 100 → 100 - p < fuel → Wm V X 4 N τ 0 0 24 [(1, .int (nI p)), (0, .ref c)] [] := by
  intro fuel
  induction fuel with
  | zero => intros; rename_i hm; exact absurd hm (Nat.not_lt_zero _)
  | succ fuel ih =>
    intro p f τ hτ hz hp hm
    have hPP := hP
    unfold OKP at hPP
    refine m_iload_n F rfl e_X10_begins_24 ?_
    refine m_bipush F (v := 99) (by decide) e_X10_begins_25 ?_
    refine m_icmp_gt F e_X10_begins_27 (fun q27 => ?_) (fun q27 => ?_)
    · have c27 : p > 99 := (nI_ltI (a := 99) (b := p) (by omega) (by omega)).mp q27
      refine m_iconst F (v := 0) (by decide) e_X10_begins_94 ?_
      refine m_istore_n F (lv' := [(1, .int 0), (0, .ref c)]) e_X10_begins_95 (by decide) rfl ?_
      refine Wm.lvsub (lv' := [(0, .ref c), (1, .int 0)]) ?_ [1, 0] rfl
      have hpz : PZ 100 f := by rw [show 100 = p by omega]; exact hz
      have h1 : HS V c ⟨T, Z, u, h, P, L0⟩ [0, 1, 2, 3, 4, 5, 6, 7, 8, 9, 10, 11, 12, 13, 14, 15, 16, 18, 19, 20, 21, 23] σ τ := HS.cp (k := 16) (HS.start h0) hτ (by decide) (by decide) ⟨_, rfl, PZ.typed hpz⟩ CR.row
      exact lq_X10_begins_96 F hQ hob hP hp0 hp1 5 0 L0 _ h1 OKL.zero ⟨fun _ _ => ⟨rfl, rfl, rfl⟩, by omega⟩ (by omega)
    · have c27 : p ≤ 99 := by have hh := mt (nI_ltI (a := 99) (b := p) (by omega) (by omega)).mpr q27; omega
      refine m_aload_n F rfl e_X10_begins_30 ?_
      refine m_get F e_X10_begins_31 fl_X10_59 ((hτ.2 c (by omega)).trans e1) e27 ?_
      refine m_sipush F (v := 644) (by decide) e_X10_begins_34 ?_
      refine m_iload_n F rfl e_X10_begins_37 ?_
      refine m_iadd F e_X10_begins_38 ?_
      refine Wm.topE (w := nI (644 + p)) (nI_add 644 p) ?_
      refine m_ldc2 F kc_X10_224 e_X10_begins_39 ?_
      refine m_last F e_X10_begins_42 hτ.1 (j := 644 + p) (nI_clamp (by omega)) (vp_in_nI (by omega) (by decide)) rfl rfl ?_
      have hτ2 := va_upto (e' := aJ V 1113 (vp_updL f (644 + p) 1000)) hτ
      refine m_iconst F (v := 0) (by decide) e_X10_begins_43 ?_
      refine m_istore_n F (lv' := [(2, .int 0), (1, .int (nI p)), (0, .ref c)]) e_X10_begins_44 (by decide) rfl ?_
      exact bg_45 F hQ h0 hob hP hp0 hp1 e1 e27 e3 e12 e13 eN tN eA tA eB tB (fun p f τ => ih p f τ) 9 0 p _ _ hτ2 (PZ.put (m := 1000) hz (by omega) ⟨by omega, by omega⟩) (by omega) (by omega) (by omega) (by omega)
set_option maxRecDepth 20000 in
theorem bg_2 {V : VX} {X : MX} {N : Nat} {σ : Mem} {c T Z u h : Nat} {P : NP} {L : Nat → LQ} (F : Fx V X yX10_begins cX10_begins 4 none (rmd 3 0 0)) (hQ : Rt V X 0 0 N (fun r τ => ∃ L9, OKL P.n0 L9 ∧ HS V c (⟨T, Z, u, h, P, L9⟩ : RG) [0, 1, 2, 3, 4, 5, 6, 7, 8, 9, 10, 11, 12, 13, 14, 15, 16, 18, 19, 20, 21, 23] σ τ ∧ r = none)) (h0 : HR V c ⟨T, Z, u, h, P, L⟩ σ) (hob : OKB L) (hP : OKP P) (hp0 : P.n0 ≤ P.m0) (hp1 : P.n2 ≤ P.w2) {fs : List Value} {fN fA fB : Nat → Int32} (e1 : σ c = some (ob 8 fs)) (e27 : fs[27]? = some (.ref (c + 16))) (e3 : fs[3]? = some (.ref (c + 2))) (e12 : fs[12]? = some (.ref (c + 11))) (e13 : fs[13]? = some (.ref (c + 12))) (eN : σ (c + 2) = some (aI V 10 fN)) (tN : fN 2 = nI P.n2) (eA : σ (c + 11) = some (aI V 16 fA)) (tA : ∀ i, i < 16 → bN 99 (fA i)) (eB : σ (c + 12) = some (aI V 16 fB)) (tB : ∀ i, i < 16 → EI P 13 i (fB i))  : ∀ (fuel : Nat) (k : Nat) (f : Nat → Int64) (τ : Mem), upto c 16 (aJ V 1113 f) σ τ → ZF k f → k ≤ 1113 → 1113 - k < fuel → Wm V X 4 N τ 0 0 2 [(1, .int (nI k)), (0, .ref c)] [] := by
  intro fuel
  induction fuel with
  | zero => intros; rename_i hm; exact absurd hm (Nat.not_lt_zero _)
  | succ fuel ih =>
    intro k f τ hτ hz hk hm
    have hPP := hP
    unfold OKP at hPP
    refine m_iload_n F rfl e_X10_begins_2 ?_
    refine m_sipush F (v := 1113) (by decide) e_X10_begins_3 ?_
    refine m_icmp_ge F e_X10_begins_6 (fun q6 => ?_) (fun q6 => ?_)
    · have c6 : k ≥ 1113 := (nI_leI (a := 1113) (b := k) (by omega) (by omega)).mp q6
      refine m_iconst F (v := 0) (by decide) e_X10_begins_22 ?_
      refine m_istore_n F (lv' := [(1, .int 0), (0, .ref c)]) e_X10_begins_23 (by decide) rfl ?_
      exact bg_24 F hQ h0 hob hP hp0 hp1 e1 e27 e3 e12 e13 eN tN eA tA eB tB 101 0 _ _ hτ (PZ.zero (by rw [show 1113 = k by omega]; exact hz)) (by omega) (by omega)
    · have c6 : k < 1113 := by have hh := mt (nI_leI (a := 1113) (b := k) (by omega) (by omega)).mpr q6; omega
      refine m_aload_n F rfl e_X10_begins_9 ?_
      refine m_get F e_X10_begins_10 fl_X10_59 ((hτ.2 c (by omega)).trans e1) e27 ?_
      refine m_iload_n F rfl e_X10_begins_13 ?_
      refine m_lconst F (v := 0) (by decide) e_X10_begins_14 ?_
      refine m_last F e_X10_begins_15 hτ.1 (j := k) (nI_clamp (by omega)) (vp_in_nI (by omega) (by decide)) rfl rfl ?_
      have hτ2 := va_upto (e' := aJ V 1113 (vp_updL f (k) 0)) hτ
      refine m_iinc F (v := nI (k + 1)) (lv' := [(1, .int (nI (k + 1))), (0, .ref c)]) e_X10_begins_16 rfl (nI_add k 1) (by decide) rfl ?_
      refine m_goto F e_X10_begins_19 ?_
      exact ih (k + 1) _ _ hτ2 (ZF.put hz) (by omega) (by omega)
set_option maxRecDepth 20000 in
theorem bg_start {V : VX} {X : MX} {N : Nat} {σ : Mem} {c T Z u h : Nat} {P : NP} {L : Nat → LQ} (F : Fx V X yX10_begins cX10_begins 4 none (rmd 3 0 0)) (hQ : Rt V X 0 0 N (fun r τ => ∃ L9, OKL P.n0 L9 ∧ HS V c (⟨T, Z, u, h, P, L9⟩ : RG) [0, 1, 2, 3, 4, 5, 6, 7, 8, 9, 10, 11, 12, 13, 14, 15, 16, 18, 19, 20, 21, 23] σ τ ∧ r = none)) (h0 : HR V c ⟨T, Z, u, h, P, L⟩ σ) (hob : OKB L) (hP : OKP P) (hp0 : P.n0 ≤ P.m0) (hp1 : P.n2 ≤ P.w2)  : Wm V X 4 N σ 0 0 0 [(0, .ref c)] [] := by
  refine m_iconst F (v := 0) (by decide) e_X10_begins_0 ?_
  refine m_istore_n F (lv' := [(1, .int 0), (0, .ref c)]) e_X10_begins_1 (by decide) rfl ?_
  obtain ⟨fs, e1, ty⟩ : ∃ fs, σ c = some (ob 8 fs) ∧ TyO c ⟨T, Z, u, h, P, L⟩ fs := h0.cell (k := 0) (by decide)
  obtain ⟨_, e27, rfl⟩ := ty.2 27 (3, 16) rfl
  obtain ⟨_, e3, rfl⟩ := ty.2 3 (3, 2) rfl
  obtain ⟨_, e12, rfl⟩ := ty.2 12 (3, 11) rfl
  obtain ⟨_, e13, rfl⟩ := ty.2 13 (3, 12) rfl
  obtain ⟨fN, eN, tN⟩ : ∃ f, σ (c + 2) = some (aI V 10 f) ∧ ∀ i, i < 10 → EI P 3 i (f i) := h0.cell (k := 2) (by decide)
  obtain ⟨fA, eA, tA⟩ : ∃ f, σ (c + 11) = some (aI V 16 f) ∧ ∀ i, i < 16 → EI P 12 i (f i) := h0.cell (k := 11) (by decide)
  obtain ⟨fB, eB, tB⟩ : ∃ f, σ (c + 12) = some (aI V 16 f) ∧ ∀ i, i < 16 → EI P 13 i (f i) := h0.cell (k := 12) (by decide)
  obtain ⟨f, e16, -⟩ : ∃ f, σ (c + 16) = some (aJ V 1113 f) ∧ ∀ i, i < 1113 → EJ L i (f i) := h0.cell (k := 16) (by decide)
  exact bg_2 F hQ h0 hob hP hp0 hp1 e1 e27 e3 e12 e13 eN ((tN 2 (by decide)).2.1 rfl) eA (fun i hi => tA i hi) eB tB 1114 0 f σ ⟨e16, fun _ _ => rfl⟩ (fun i hi => absurd hi (Nat.not_lt_zero _)) (by omega) (by omega)
set_option maxRecDepth 20000 in
theorem q_X10_begins (l : Launch) (V : VX) (c T Z u h : Nat) (P : NP) (L : Nat → LQ) (N : Nat) (σ : Mem)  (h0 : HR V c ⟨T, Z, u, h, P, L⟩ σ) (hob : OKB L) (hP : OKP P) (hp0 : P.n0 ≤ P.m0) (hp1 : P.n2 ≤ P.w2) : Ct l V yX10_begins cX10_begins 4 none 3 0 0 N σ [.ref c] (fun r τ => ∃ L9, OKL P.n0 L9 ∧ HS V c (⟨T, Z, u, h, P, L9⟩ : RG) [0, 1, 2, 3, 4, 5, 6, 7, 8, 9, 10, 11, 12, 13, 14, 15, 16, 18, 19, 20, 21, 23] σ τ ∧ r = none) := by
  refine Ct.of (by decide) (Nat.le_of_ble_eq_true rfl) [(0, .ref c)] rfl (fun X hX F hQ => ?_)
  have hPP := hP
  unfold OKP at hPP
  have h1 : HS V c ⟨T, Z, u, h, P, L⟩ [0, 1, 2, 3, 4, 5, 6, 7, 8, 9, 10, 11, 12, 13, 14, 15, 16, 18, 19, 20, 21, 23] σ σ := HS.start h0
  exact bg_start F hQ h0 hob hP hp0 hp1
def Gd (u h : Nat) (P : NP) (L : Nat → LQ) : Prop := u ≤ 20 ∧ h ≤ 1 ∧ OKP P ∧ P.kk = P.n0 ∧ P.n0 ≤ P.m0 ∧ P.n2 ≤ P.w2 ∧ OKL P.n0 L
set_option maxRecDepth 20000 in
theorem q_X10_text (l : Launch) (V : VX) (c T Z u h : Nat) (P : NP) (L : Nat → LQ) (N : Nat) (σ : Mem) (x901 : Int32) (h0 : HR V c ⟨T, Z, u, h, P, L⟩ σ) (hok : OKL P.n0 L) (hP : OKP P) (hp0 : u ≤ 20) (hp1 : h ≤ 1) (hp2 : P.kk = P.n0) (hp3 : T ≤ 700) (hp4 : P.n0 ≤ P.m0) (hp5 : P.n2 ≤ P.w2) : Ct l V yX10_text cX10_text 2 (some .int) 11 0 0 N σ [.ref c, .int x901] (fun r τ => (∃ x : Int32, r = some (.int x)) ∧ (((x901 < 0 ∨ ∃ n : Nat, n ≤ 2147483647 ∧ x901 = nI n ∧ T < n) ∧ HS V c (⟨T, Z, u, h, P, L⟩ : RG) [0, 2, 18, 19, 20, 21, 23] σ τ) ∨ ∃ n : Nat, x901 = nI n ∧ n ≤ T ∧ ∃ (u9 h9 : Nat) (P9 : NP) (L9 : Nat → LQ), Gd u9 h9 P9 L9 ∧ HS V c (⟨0, 1, u9, h9, P9, L9⟩ : RG) [0, 2, 18, 19, 20, 21, 23] σ τ)) := by
  refine Ct.of (by decide) (Nat.le_of_ble_eq_true rfl) [(0, .ref c), (1, .int x901)] rfl (fun X hX F hQ => ?_)
  have hPP := hP
  unfold OKP at hPP
  have h1 : HS V c ⟨T, Z, u, h, P, L⟩ [0, 2, 18, 19, 20, 21, 23] σ σ := HS.start h0
  refine m_aload_n F rfl e_X10_text_0 ?_
  refine m_iconst F (v := 0) (by decide) e_X10_text_1 ?_
  refine r_put F (g' := (⟨T, Z, u, h, P, L⟩ : RG)) e_X10_text_2 fp_X10_91 h1 (by decide) ⟨_, rfl⟩ (fun _ _ _ _ q => q) (fun _ _ _ q => q) rfl rfl (by decide) (fun σ10779 h10780 g10781 g10782 f10783 => ?_)
  refine m_iload_n F rfl e_X10_text_5 ?_
  refine m_if_lt F e_X10_text_6 (fun q6 => ?_) (fun q6 => ?_)
  · refine m_bipush F (v := (-2)) (by decide) e_X10_text_17 ?_
    exact m_iret F hQ e_X10_text_19 (⟨⟨_, rfl⟩, Or.inl ⟨Or.inl q6, h10780⟩⟩)
  · obtain ⟨n10784, hn10784, rfl⟩ := nI_nn (x := x901) (fun e => q6 (Int32.lt_of_lt_of_le e (by decide)))
    have c6 : n10784 ≥ 0 := by have hh := mt (nI_ltI (a := n10784) (b := 0) (by omega) (by omega)).mpr q6; omega
    refine m_iload_n F rfl e_X10_text_9 ?_
    refine m_aload_n F rfl e_X10_text_10 ?_
    refine r_get F e_X10_text_11 fl_X10_94 h10780 rfl (fun v hv f10785 => ?_)
    obtain rfl : v = .int (nI (T)) := hv
    refine m_icmp_le F e_X10_text_14 (fun q14 => ?_) (fun q14 => ?_)
    · have c14 : n10784 ≤ T := (nI_leI (a := n10784) (b := T) (by omega) (by omega)).mp q14
      refine m_aload_n F rfl e_X10_text_20 ?_
      refine m_iload_n F rfl e_X10_text_21 ?_
      refine r_callV F e_X10_text_22 (q_X10_readText (x_l X) V c T Z u h P L _ _ n10784 h10780.1 (hok.b) hP (by omega)) cb_X10_readText ml_X10_208 im_X10_readText se_X10_readText h10780 rfl rfl (rest := []) rfl (Nat.le_of_ble_eq_true rfl) ⟨Nat.le_of_ble_eq_true rfl, Nat.le_of_ble_eq_true rfl⟩ ⟨Nat.le_of_ble_eq_true rfl, Nat.le_of_ble_eq_true rfl⟩ (fun r σ10786 hp => ?_)
      obtain ⟨P10789, oP10789, rP10789, h10787, rfl⟩ := hp
      have h10788 := HS.trans h10780 h10787 (by decide)
      have xP10789 := oP10789
      unfold OKP at xP10789
      unfold RQ at rP10789
      refine m_aload_n F rfl e_X10_text_25 ?_
      refine m_iconst F (v := 0) (by decide) e_X10_text_26 ?_
      refine r_put F (g' := (⟨0, 1, u, h, P10789, L⟩ : RG)) e_X10_text_27 fp_X10_94 h10788 (by decide) rfl ctl_T CR.ctl rfl rfl (by decide) (fun σ10790 h10791 g10792 g10793 f10794 => ?_)
      refine m_aload_n F rfl e_X10_text_30 ?_
      refine m_aload_n F rfl e_X10_text_31 ?_
      refine r_get F e_X10_text_32 fl_X10_141 h10791 rfl (fun v hv f10795 => ?_)
      obtain ⟨x10796, hx10796, rfl⟩ := hv
      replace hx10796 : 1 = 0 → x10796 ≠ 0 := hx10796
      obtain ⟨nq10802, enq10802⟩ := nI_ex x10796
      refine r_put F (g' := (⟨0, 1, u, h, (mkP P10789.n0 P10789.n2 P10789.n5 P10789.n7 P10789.m0 P10789.m5 P10789.w2 P10789.w7 P10789.kk P10789.a nq10802 P10789.p), L⟩ : RG)) e_X10_text_35 fp_X10_211 h10791 (by decide) (congrArg Value.int enq10802) ctl_f CR.setF rfl rfl (by decide) (fun σ10797 h10798 g10799 g10800 f10801 => ?_)
      obtain ⟨P10803, eP10803⟩ : ∃ P9, P9 = (mkP P10789.n0 P10789.n2 P10789.n5 P10789.n7 P10789.m0 P10789.m5 P10789.w2 P10789.w7 P10789.kk P10789.a nq10802 P10789.p) := ⟨_, rfl⟩
      rw [← eP10803] at h10798
      have fP10803 : P10803.n0 = P10789.n0 ∧ P10803.n2 = P10789.n2 ∧ P10803.n5 = P10789.n5 ∧ P10803.n7 = P10789.n7 ∧ P10803.m0 = P10789.m0 ∧ P10803.m5 = P10789.m5 ∧ P10803.w2 = P10789.w2 ∧ P10803.w7 = P10789.w7 ∧ P10803.kk = P10789.kk ∧ P10803.a = P10789.a ∧ P10803.f = nq10802 ∧ P10803.p = P10789.p := by rw [eP10803]; exact ⟨rfl, rfl, rfl, rfl, rfl, rfl, rfl, rfl, rfl, rfl, rfl, rfl⟩
      refine m_aload_n F rfl e_X10_text_38 ?_
      refine m_aload_n F rfl e_X10_text_39 ?_
      refine r_getC F e_X10_text_40 fl_X10_141 h10798 ((g10800 23 (by decide)).trans f10795) ?_
      refine m_if_ne F e_X10_text_43 (fun q43 => ?_) (fun q43 => ?_)
      · have h10804 := HS.z0 h10798 ((g10800 23 (by decide)).trans f10795) q43
        refine m_aload_n F rfl e_X10_text_50 ?_
        refine r_get F e_X10_text_51 fl_X10_144 h10804 rfl (fun v hv f10805 => ?_)
        obtain ⟨x10806, rfl⟩ := hv
        obtain ⟨nq10812, enq10812⟩ := nI_ex x10806
        refine r_put F (g' := (⟨0, 0, u, h, (mkP P10803.n0 P10803.n2 P10803.n5 P10803.n7 P10803.m0 P10803.m5 P10803.w2 P10803.w7 P10803.kk P10803.a P10803.f nq10812), L⟩ : RG)) e_X10_text_54 fp_X10_55 h10804 (by decide) (congrArg Value.int enq10812) ctl_p CR.setP rfl rfl (by decide) (fun σ10807 h10808 g10809 g10810 f10811 => ?_)
        obtain ⟨P10813, eP10813⟩ : ∃ P9, P9 = (mkP P10803.n0 P10803.n2 P10803.n5 P10803.n7 P10803.m0 P10803.m5 P10803.w2 P10803.w7 P10803.kk P10803.a P10803.f nq10812) := ⟨_, rfl⟩
        rw [← eP10813] at h10808
        have fP10813 : P10813.n0 = P10803.n0 ∧ P10813.n2 = P10803.n2 ∧ P10813.n5 = P10803.n5 ∧ P10813.n7 = P10803.n7 ∧ P10813.m0 = P10803.m0 ∧ P10813.m5 = P10803.m5 ∧ P10813.w2 = P10803.w2 ∧ P10813.w7 = P10803.w7 ∧ P10813.kk = P10803.kk ∧ P10813.a = P10803.a ∧ P10813.f = P10803.f ∧ P10813.p = nq10812 := by rw [eP10813]; exact ⟨rfl, rfl, rfl, rfl, rfl, rfl, rfl, rfl, rfl, rfl, rfl, rfl⟩
        refine m_aload_n F rfl e_X10_text_57 ?_
        refine r_getC F e_X10_text_58 fl_X10_141 h10808 ((g10810 23 (by decide)).trans ((g10800 23 (by decide)).trans f10795)) ?_
        refine m_if_eq F e_X10_text_61 (fun q61 => ?_) (fun q61 => ?_)
        · first | exact absurd q61 (hx10796 rfl) | contradiction
        · have h10814 := HS.z0 h10808 ((g10810 23 (by decide)).trans ((g10800 23 (by decide)).trans f10795)) q61
          refine m_iconst F (v := (-1)) (by decide) e_X10_text_64 ?_
          have oP10815 : OKP P10813 := by unfold OKP; omega
          have h10816 : HS V c (⟨0, 1, u, h, P10813, L⟩ : RG) [0, 2, 18, 19, 20, 21, 23] _ _ := ⟨HR.mono (Z' := 1) (fun e => absurd e (by decide)) h10814.1, h10814.2⟩
          exact m_iret F hQ e_X10_text_65 (⟨⟨_, rfl⟩, Or.inr ⟨n10784, rfl, by omega, u, h, P10813, L, ⟨by omega, by omega, oP10815, by omega, by omega, by omega, by rw [show P10813.n0 = P.n0 by omega]; exact hok⟩, h10816⟩⟩)
      · subst q43
        refine m_iconst F (v := (-1)) (by decide) e_X10_text_46 ?_
        refine m_goto F e_X10_text_47 ?_
        refine r_put F (g' := (⟨0, 1, u, h, (mkP P10803.n0 P10803.n2 P10803.n5 P10803.n7 P10803.m0 P10803.m5 P10803.w2 P10803.w7 P10803.kk P10803.a P10803.f 4294967295), L⟩ : RG)) e_X10_text_54 fp_X10_55 h10798 (by decide) rfl ctl_p CR.setP rfl rfl (by decide) (fun σ10817 h10818 g10819 g10820 f10821 => ?_)
        obtain ⟨P10822, eP10822⟩ : ∃ P9, P9 = (mkP P10803.n0 P10803.n2 P10803.n5 P10803.n7 P10803.m0 P10803.m5 P10803.w2 P10803.w7 P10803.kk P10803.a P10803.f 4294967295) := ⟨_, rfl⟩
        rw [← eP10822] at h10818
        have fP10822 : P10822.n0 = P10803.n0 ∧ P10822.n2 = P10803.n2 ∧ P10822.n5 = P10803.n5 ∧ P10822.n7 = P10803.n7 ∧ P10822.m0 = P10803.m0 ∧ P10822.m5 = P10803.m5 ∧ P10822.w2 = P10803.w2 ∧ P10822.w7 = P10803.w7 ∧ P10822.kk = P10803.kk ∧ P10822.a = P10803.a ∧ P10822.f = P10803.f ∧ P10822.p = 4294967295 := by rw [eP10822]; exact ⟨rfl, rfl, rfl, rfl, rfl, rfl, rfl, rfl, rfl, rfl, rfl, rfl⟩
        refine m_aload_n F rfl e_X10_text_57 ?_
        refine r_getC F e_X10_text_58 fl_X10_141 h10818 ((g10820 23 (by decide)).trans ((g10800 23 (by decide)).trans f10795)) ?_
        refine m_if_eq F e_X10_text_61 (fun _ => ?_) (fun q => absurd (by decide) q)
        refine m_aload_n F rfl e_X10_text_66 ?_
        have oP10826 : OKP P10822 := by unfold OKP; omega
        refine r_callV F e_X10_text_67 (q_X10_takeText (x_l X) V c 0 1 u h P10822 L _ _  h10818.1 (hok.b) oP10826 ) cb_X10_takeText ml_X10_85 im_X10_takeText se_X10_takeText h10818 rfl rfl (rest := []) rfl (Nat.le_of_ble_eq_true rfl) ⟨Nat.le_of_ble_eq_true rfl, Nat.le_of_ble_eq_true rfl⟩ ⟨Nat.le_of_ble_eq_true rfl, Nat.le_of_ble_eq_true rfl⟩ (fun r σ10823 hp => ?_)
        obtain ⟨P10827, oP10827, rP10827, h10824, rfl⟩ := hp
        have h10825 := HS.trans h10818 h10824 (by decide)
        have xP10827 := oP10827
        unfold OKP at xP10827
        unfold RT at rP10827
        refine m_aload_n F rfl e_X10_text_70 ?_
        refine r_callV F e_X10_text_71 (q_X10_begins (x_l X) V c 0 1 u h P10827 L _ _  h10825.1 (hok.b) oP10827 (by first | omega | assumption | decide) (by first | omega | assumption | decide)) cb_X10_begins ml_X10_88 im_X10_begins se_X10_begins h10825 rfl rfl (rest := []) rfl (Nat.le_of_ble_eq_true rfl) ⟨Nat.le_of_ble_eq_true rfl, Nat.le_of_ble_eq_true rfl⟩ ⟨Nat.le_of_ble_eq_true rfl, Nat.le_of_ble_eq_true rfl⟩ (fun r σ10828 hp => ?_)
        obtain ⟨L10831, okL10831, h10829, rfl⟩ := hp
        have h10830 := HS.trans h10825 h10829 (by decide)
        refine m_aload_n F rfl e_X10_text_74 ?_
        refine m_iconst F (v := 0) (by decide) e_X10_text_75 ?_
        refine r_put F (g' := (⟨0, 1, 0, h, P10827, L10831⟩ : RG)) e_X10_text_76 fp_X10_214 h10830 (by decide) rfl ctl_u (CR.und (Nat.zero_le _)) rfl rfl (by decide) (fun σ10832 h10833 g10834 g10835 f10836 => ?_)
        refine m_aload_n F rfl e_X10_text_79 ?_
        refine m_iconst F (v := 0) (by decide) e_X10_text_80 ?_
        refine r_put F (g' := (⟨0, 1, 0, 0, P10827, L10831⟩ : RG)) e_X10_text_81 fp_X10_217 h10833 (by decide) rfl ctl_h CR.h0 (by decide) rfl (by decide) (fun σ10837 h10838 g10839 g10840 f10841 => ?_)
        refine m_aload_n F rfl e_X10_text_84 ?_
        refine r_get F e_X10_text_85 fl_X10_202 h10838 rfl (fun v hv f10842 => ?_)
        obtain ⟨x10843, rfl⟩ := hv
        have h10844 : HS V c (⟨0, 1, 0, 0, (mkP P10827.n0 P10827.n2 P10827.n5 P10827.n7 P10827.m0 P10827.m5 P10827.w2 P10827.w7 P10827.n0 P10827.a P10827.f P10827.p), L10831⟩ : RG) [0, 2, 18, 19, 20, 21, 23] _ _ := ⟨HR.kk0 (HR.mono (Z' := 1) (fun e => absurd e (by decide)) h10838.1), h10838.2⟩
        exact m_iret F hQ e_X10_text_88 (⟨⟨_, rfl⟩, Or.inr ⟨n10784, rfl, by omega, 0, 0, (mkP P10827.n0 P10827.n2 P10827.n5 P10827.n7 P10827.m0 P10827.m5 P10827.w2 P10827.w7 P10827.n0 P10827.a P10827.f P10827.p), L10831, ⟨by omega, by omega, oP10827, rfl, (show P10827.n0 ≤ P10827.m0 by omega), (show P10827.n2 ≤ P10827.w2 by omega), okL10831⟩, h10844⟩⟩)
    · have c14 : n10784 > T := by have hh := mt (nI_leI (a := n10784) (b := T) (by omega) (by omega)).mpr q14; omega
      refine m_bipush F (v := (-2)) (by decide) e_X10_text_17 ?_
      exact m_iret F hQ e_X10_text_19 (⟨⟨_, rfl⟩, Or.inl ⟨Or.inr ⟨n10784, by omega, rfl, by omega⟩, h10780⟩⟩)
