/-! a text taken: what may be forgotten, what begins anew -/
theorem HR.forget {V : VX} {c T Z u h : Nat} {P : NP} {L : Nat → LQ} {σ : Mem} (hh : HR V c ⟨T, Z, u, h, P, L⟩ σ) : HR V c ⟨T, Z, u, h, mkP P.n0 P.n2 P.n5 P.n7 0 P.m5 0 P.w7 P.kk P.a, L⟩ σ := by
  intro a
  have h1 := hh a
  by_cases h6 : kC c a = 6
  · rw [h6] at h1 ⊢
    obtain ⟨f, e, q⟩ := h1
    refine ⟨f, e, fun i hi => ?_⟩
    obtain ⟨n, a1, a2, a3, a4⟩ := q i hi
    exact ⟨n, a1, a2, fun _ h9 => absurd h9 (Nat.not_lt_zero _), a4⟩
  · by_cases h13 : kC c a = 13
    · rw [h13] at h1 ⊢
      obtain ⟨f, e, q⟩ := h1
      refine ⟨f, e, fun i hi => ?_⟩
      obtain ⟨n, a1, a2, a3, a4⟩ := q i hi
      exact ⟨n, a1, a2, fun _ h9 => absurd h9 (Nat.not_lt_zero _), a4⟩
    · revert h1
      generalize kC c a = i at h6 h13
      generalize σ a = x
      intro hx
      unfold CR at hx ⊢
      split at hx <;> first | exact hx | exact absurd rfl h6 | exact absurd rfl h13 | skip
      all_goals first | exact hx | (obtain ⟨f, e, q⟩ := hx; refine ⟨f, e, fun i hi => ?_⟩; have h9 := q i hi; unfold EI at h9 ⊢; split at h9 <;> first | exact h9 | trivial | contradiction | (exfalso; omega))
theorem HR.kk0 {V : VX} {c T Z : Nat} {P : NP} {L : Nat → LQ} {σ : Mem} {k : Nat} (hh : HR V c ⟨T, Z, 0, 0, P, L⟩ σ) : HR V c ⟨T, Z, 0, 0, mkP P.n0 P.n2 P.n5 P.n7 P.m0 P.m5 P.w2 P.w7 k P.a, L⟩ σ := by
  intro a
  have h1 := hh a
  by_cases h20 : kC c a = 20
  · rw [h20] at h1 ⊢
    obtain ⟨f, e, q⟩ := h1
    exact ⟨f, e, fun h9 => absurd h9 (by show ¬ (0 : Nat) = 1; decide)⟩
  · by_cases h21 : kC c a = 21
    · rw [h21] at h1 ⊢
      obtain ⟨f, e, q⟩ := h1
      exact ⟨f, e, fun j hj => absurd hj (Nat.not_lt_zero _)⟩
    · revert h1
      generalize kC c a = i at h20 h21
      generalize σ a = x
      intro hx
      unfold CR at hx ⊢
      split at hx <;> first | exact hx | exact absurd rfl h20 | exact absurd rfl h21
def RT (P Q : NP) : Prop := Q.n0 = P.n5 ∧ Q.kk = P.kk ∧ Q.n0 ≤ Q.m0 ∧ Q.n2 ≤ Q.w2
theorem OKL.updS {n : Nat} {L L' : Nat → LQ} (h : OKL n L) (hl4 : n < 4) (ho : ∀ i, i ≠ n → L' i = L i) (hl : (L' n).1 ≤ 2 ∧ (L' n).2.1 ≤ 72 ∧ (L' n).2.2.1 ≤ 2000 ∧ (L' n).2.2.2 ≤ 72 ∧ ((L' n).1 = 1 → (L' n).2.2.2 < (L' n).2.1 ∧ 1 ≤ (L' n).2.2.1) ∧ ((L' n).1 = 0 → (L' n).2.2.2 = 0) ∧ 1 ≤ (L' n).2.1) : OKL (n + 1) L' := by
  refine ⟨by rw [ho 4 (by omega)]; exact h.1, fun i hi => ?_⟩
  by_cases e : i = n
  · subst e; exact ⟨hl.1, hl.2.1, hl.2.2.1, hl.2.2.2.1, hl.2.2.2.2.1, hl.2.2.2.2.2.1, fun _ => hl.2.2.2.2.2.2⟩
  · have h9 := h.2 i hi
    rw [ho i e]; exact ⟨h9.1, h9.2.1, h9.2.2.1, h9.2.2.2.1, h9.2.2.2.2.1, h9.2.2.2.2.2.1, fun h8 => h9.2.2.2.2.2.2 (by omega)⟩
def L0 : Nat → LQ := fun _ => (0, 0, 0, 0)
theorem OKL.zero : OKL 0 L0 := ⟨by show (0 : Nat) ≤ 99; omega, fun l _ => ⟨by show (0 : Nat) ≤ 2; omega, by show (0 : Nat) ≤ 72; omega, by show (0 : Nat) ≤ 2000; omega, by show (0 : Nat) ≤ 72; omega, fun e => absurd e (by show ¬ (0 : Nat) = 1; omega), fun _ => rfl, fun e => absurd e (Nat.not_lt_zero _)⟩⟩
/-- s while it is made anew: 0 up to k -/
def ZF (k : Nat) (f : Nat → Int64) : Prop := ∀ i, i < k → f i = 0
/-- .. 0 all over, but for the INDEX of the periods up to p -/
def PZ (p : Nat) (f : Nat → Int64) : Prop := (∀ i, i < 1113 → (i < 644 ∨ 744 ≤ i) → f i = 0) ∧ ∀ i, 644 ≤ i → i < 644 + p → ∃ n : Nat, 1 ≤ n ∧ n ≤ 2000 ∧ f i = lN n
theorem PZ.zero {f : Nat → Int64} (h : ZF 1113 f) : PZ 0 f := ⟨fun i hi _ => h i hi, fun i h1 h2 => by omega⟩
theorem PZ.put {p m : Nat} {f : Nat → Int64} (h : PZ p f) (hp : p < 100) (hm : 1 ≤ m ∧ m ≤ 2000) : PZ (p + 1) (vp_updL f (644 + p) (lN m)) := by
  refine ⟨fun i hi h1 => ?_, fun i h1 h2 => ?_⟩
  · unfold vp_updL; rw [if_neg (by omega)]; exact h.1 i hi h1
  · unfold vp_updL
    by_cases e : i = 644 + p
    · rw [if_pos e]; exact ⟨m, hm.1, hm.2, rfl⟩
    · rw [if_neg e]; exact h.2 i h1 (by omega)
theorem PZ.put2 {p m : Nat} {f : Nat → Int64} (h : PZ (p + 1) f) (hp : p < 100) (hm : 1 ≤ m ∧ m ≤ 2000) : PZ (p + 1) (vp_updL f (644 + p) (lN m)) := by
  refine ⟨fun i hi h1 => ?_, fun i h1 h2 => ?_⟩
  · unfold vp_updL; rw [if_neg (by omega)]; exact h.1 i hi h1
  · unfold vp_updL
    by_cases e : i = 644 + p
    · rw [if_pos e]; exact ⟨m, hm.1, hm.2, rfl⟩
    · rw [if_neg e]; exact h.2 i h1 (by omega)
theorem ZF.put {k : Nat} {f : Nat → Int64} (h : ZF k f) : ZF (k + 1) (vp_updL f k 0) := by
  intro i hi
  unfold vp_updL
  by_cases e : i = k
  · rw [if_pos e]
  · rw [if_neg e]; exact h i (by omega)
theorem PZ.typed {f : Nat → Int64} (h : PZ 100 f) : ∀ i, i < 1113 → EJ L0 i (f i) := by
  intro i hi
  have h0 : (i < 644 ∨ 744 ≤ i) → f i = lN 0 := fun q => h.1 i hi q
  unfold EJ
  by_cases h1 : i < 640
  · rw [if_pos h1, h0 (by omega)]
    unfold EL
    split <;> first | rfl | exact ⟨0, by omega, rfl⟩ | trivial
  · rw [if_neg h1]
    by_cases h2 : i < 644
    · rw [if_pos h2]; trivial
    · rw [if_neg h2]
      by_cases h3 : i < 744
      · rw [if_pos h3]; exact h.2 i (by omega) (by omega)
      · rw [if_neg h3]
        by_cases h4 : i = 744
        · rw [if_pos h4, h0 (by omega)]; rfl
        · rw [if_neg h4]
          by_cases h5 : i = 751
          · rw [if_pos h5, h0 (by omega)]; exact ⟨0, by omega, rfl⟩
          · rw [if_neg h5]; trivial
set_option maxRecDepth 20000 in
theorem lq_X10_readText_28 {V : VX} {X : MX} {N : Nat} {σ : Mem} {c T Z u h : Nat} {P : NP} {L : Nat → LQ}  {n901 : Nat} (F : Fx V X yX10_readText cX10_readText 2 none (rmd 10 0 0)) (hQ : Rt V X 0 0 N (fun r τ => ∃ P9 : NP, OKP P9 ∧ RQ P P9 ∧ HS V c (⟨T, 1, u, h, P9, L⟩ : RG) [0, 2, 17, 18, 19, 20, 21, 22, 23] σ τ ∧ r = none)) (hob : OKB L) (hP : OKP P) (hn901 : n901 ≤ 700)  : ∀ (fuel : Nat) (x1 y1 : Int32) (P1 : NP) (τ : Mem), HS V c (⟨T, 1, u, h, P1, L⟩ : RG) [0, 2, 17, 18, 19, 20, 21, 22, 23] σ τ → OKP P1 → RQ P P1 → fld τ c 23 = some (.int x1) ∧ fld τ c 21 = some (.int y1) → (if x1 = 0 ∧ y1 ≠ 4 then 701 - P1.a else 0) < fuel → Wm V X 2 N τ 0 0 28 [(0, .ref c)] [] := by
  intro fuel
  induction fuel with
  | zero => intros; rename_i hm; exact absurd hm (Nat.not_lt_zero _)
  | succ fuel ih =>
    intro x1 y1 P1 τ h1 hP1 hR1 hi hm
    have hPP := hP
    unfold OKP at hPP
    have hPP1 := hP1
    unfold OKP at hPP1
    unfold RQ at hR1
    refine m_aload_n F rfl e_X10_readText_28 ?_
    refine r_getC F e_X10_readText_29 fl_X10_141 h1 (hi.1) ?_
    refine m_if_ne F e_X10_readText_32 (fun q32 => ?_) (fun q32 => ?_)
    · exact m_vret F hQ e_X10_readText_50 (⟨P1, hP1, (by unfold RQ; omega), h1, rfl⟩)
    · subst q32
      refine m_aload_n F rfl e_X10_readText_35 ?_
      refine r_getC F e_X10_readText_36 fl_X10_110 h1 (hi.2) ?_
      refine m_iconst F (v := 4) (by decide) e_X10_readText_39 ?_
      refine m_icmp_eq F e_X10_readText_40 (fun q40 => ?_) (fun q40 => ?_)
      · subst q40
        exact m_vret F hQ e_X10_readText_50 (⟨P1, hP1, (by unfold RQ; omega), h1, rfl⟩)
      · refine m_aload_n F rfl e_X10_readText_43 ?_
        refine r_callV F e_X10_readText_44 (q_X10_readLine (x_l X) V c T 1 u h P1 L _ _  h1.1 (hob) hP1 ) cb_X10_readLine ml_X10_205 im_X10_readLine se_X10_readLine h1 rfl rfl (rest := []) rfl (Nat.le_of_ble_eq_true rfl) ⟨Nat.le_of_ble_eq_true rfl, Nat.le_of_ble_eq_true rfl⟩ ⟨Nat.le_of_ble_eq_true rfl, Nat.le_of_ble_eq_true rfl⟩ (fun r σ10093 hp => ?_)
        obtain ⟨P10096, oP10096, rP10096, pr10097, h10094, rfl⟩ := hp
        have h10095 := HS.trans h1 h10094 (by decide)
        have xP10096 := oP10096
        unfold OKP at xP10096
        unfold RP at rP10096
        refine m_goto F e_X10_readText_47 ?_
        obtain ⟨x9, y9, e9, e8, d9⟩ := pr10097
        have hmm : (if x9 = 0 ∧ y9 ≠ (4 : Int32) then 701 - P10096.a else 0) < fuel := by
          rw [if_pos ⟨rfl, q40⟩] at hm
          by_cases hc : x9 = 0 ∧ y9 ≠ (4 : Int32)
          · rw [if_pos hc]
            rcases d9 with d | d | d
            · exact absurd hc.1 d
            · exact absurd d hc.2
            · omega
          · rw [if_neg hc]; omega
        exact ih x9 y9 P10096 _ h10095 oP10096 (by unfold RQ; omega) ⟨e9, e8⟩ hmm
set_option maxRecDepth 20000 in
theorem q_X10_readText (l : Launch) (V : VX) (c T Z u h : Nat) (P : NP) (L : Nat → LQ) (N : Nat) (σ : Mem) (n901 : Nat) (h0 : HR V c ⟨T, Z, u, h, P, L⟩ σ) (hob : OKB L) (hP : OKP P) (hn901 : n901 ≤ 700) : Ct l V yX10_readText cX10_readText 2 none 10 0 0 N σ [.ref c, .int (nI n901)] (fun r τ => ∃ P9 : NP, OKP P9 ∧ RQ P P9 ∧ HS V c (⟨T, 1, u, h, P9, L⟩ : RG) [0, 2, 17, 18, 19, 20, 21, 22, 23] σ τ ∧ r = none) := by
  refine Ct.of (by decide) (Nat.le_of_ble_eq_true rfl) [(0, .ref c), (1, .int (nI n901))] rfl (fun X hX F hQ => ?_)
  have hPP := hP
  unfold OKP at hPP
  have h1 : HS V c ⟨T, Z, u, h, P, L⟩ [0, 2, 17, 18, 19, 20, 21, 22, 23] σ σ := HS.start h0
  refine m_aload_n F rfl e_X10_readText_0 ?_
  refine m_iload_n F rfl e_X10_readText_1 ?_
  refine r_put F (g' := (⟨T, Z, u, h, P, L⟩ : RG)) e_X10_readText_2 fp_X10_100 h1 (by decide) ⟨n901, (show n901 ≤ 700 by omega), rfl⟩ (fun _ _ _ _ q => q) (fun _ _ _ q => q) rfl rfl (by decide) (fun σ10098 h10099 g10100 g10101 f10102 => ?_)
  refine m_aload_n F rfl e_X10_readText_5 ?_
  refine m_iconst F (v := 0) (by decide) e_X10_readText_6 ?_
  refine r_put F (g' := (⟨T, Z, u, h, (mkP P.n0 P.n2 P.n5 P.n7 P.m0 P.m5 P.w2 P.w7 P.kk 0), L⟩ : RG)) e_X10_readText_7 fp_X10_97 h10099 (by decide) rfl ctl_a CR.setA rfl rfl (by decide) (fun σ10103 h10104 g10105 g10106 f10107 => ?_)
  obtain ⟨P10108, eP10108⟩ : ∃ P9, P9 = (mkP P.n0 P.n2 P.n5 P.n7 P.m0 P.m5 P.w2 P.w7 P.kk 0) := ⟨_, rfl⟩
  rw [← eP10108] at h10104
  have fP10108 : P10108.n0 = P.n0 ∧ P10108.n2 = P.n2 ∧ P10108.n5 = P.n5 ∧ P10108.n7 = P.n7 ∧ P10108.m0 = P.m0 ∧ P10108.m5 = P.m5 ∧ P10108.w2 = P.w2 ∧ P10108.w7 = P.w7 ∧ P10108.kk = P.kk ∧ P10108.a = 0 := by rw [eP10108]; exact ⟨rfl, rfl, rfl, rfl, rfl, rfl, rfl, rfl, rfl, rfl⟩
  refine m_aload_n F rfl e_X10_readText_10 ?_
  refine m_iconst F (v := 0) (by decide) e_X10_readText_11 ?_
  refine r_put F (g' := (⟨T, 1, u, h, P10108, L⟩ : RG)) e_X10_readText_12 fp_X10_141 h10104 (by decide) ⟨_, (fun e => absurd e (show ¬ (1 : Nat) = 0 by decide)), rfl⟩ ctl_Z CR.ctl rfl rfl (by decide) (fun σ10109 h10110 g10111 g10112 f10113 => ?_)
  refine m_aload_n F rfl e_X10_readText_15 ?_
  refine m_iconst F (v := 0) (by decide) e_X10_readText_16 ?_
  refine r_put F (g' := (⟨T, 1, u, h, P10108, L⟩ : RG)) e_X10_readText_17 fp_X10_202 h10110 (by decide) ⟨_, rfl⟩ (fun _ _ _ _ q => q) (fun _ _ _ q => q) rfl rfl (by decide) (fun σ10114 h10115 g10116 g10117 f10118 => ?_)
  refine m_aload_n F rfl e_X10_readText_20 ?_
  have oP10122 : OKP P10108 := by unfold OKP; omega
  refine r_callV F e_X10_readText_21 (q_X10_freshText (x_l X) V c T 1 u h P10108 L _ _  h10115.1 (hob) oP10122 ) cb_X10_freshText ml_X10_82 im_X10_freshText se_X10_freshText h10115 rfl rfl (rest := []) rfl (Nat.le_of_ble_eq_true rfl) ⟨Nat.le_of_ble_eq_true rfl, Nat.le_of_ble_eq_true rfl⟩ ⟨Nat.le_of_ble_eq_true rfl, Nat.le_of_ble_eq_true rfl⟩ (fun r σ10119 hp => ?_)
  obtain ⟨P10123, oP10123, rP10123, h10120, rfl⟩ := hp
  have h10121 := HS.trans h10115 h10120 (by decide)
  have xP10123 := oP10123
  unfold OKP at xP10123
  unfold RP at rP10123
  refine m_aload_n F rfl e_X10_readText_24 ?_
  refine r_callV F e_X10_readText_25 (q_X10_token (x_l X) V c T 1 u h P10123 L _ _  h10121.1 (hob) oP10123 ) cb_X10_token ml_X10_147 im_X10_token se_X10_token h10121 rfl rfl (rest := []) rfl (Nat.le_of_ble_eq_true rfl) ⟨Nat.le_of_ble_eq_true rfl, Nat.le_of_ble_eq_true rfl⟩ ⟨Nat.le_of_ble_eq_true rfl, Nat.le_of_ble_eq_true rfl⟩ (fun r σ10124 hp => ?_)
  obtain ⟨P10127, oP10127, rP10127, pr10128, h10125, rfl⟩ := hp
  have h10126 := HS.trans h10121 h10125 (by decide)
  have xP10127 := oP10127
  unfold OKP at xP10127
  unfold RA at rP10127
  refine Wm.lvsub (lv' := [(0, .ref c)]) ?_ [0] rfl
  obtain ⟨y9, e8⟩ := h10126.1.f21
  obtain ⟨x9, e9⟩ := h10126.1.f23
  exact lq_X10_readText_28 (Z := Z) F hQ hob hP hn901 ((if x9 = 0 ∧ y9 ≠ 4 then 701 - P10127.a else 0) + 1) x9 y9 P10127 _ h10126 oP10127 (by unfold RQ; omega) ⟨e9, e8⟩ (Nat.lt_succ_self _)
def RT3 (P Q : NP) : Prop := Q.n0 = P.n5 ∧ Q.n2 = P.n7 ∧ Q.kk = P.kk ∧ Q.n0 ≤ Q.m0 ∧ Q.w7 = P.w7 ∧ Q.w2 = 0
set_option maxRecDepth 20000 in
theorem lq_X10_takeText_179 {V : VX} {X : MX} {N : Nat} {σ : Mem} {c T Z u h : Nat} {P : NP} {L : Nat → LQ}   (F : Fx V X yX10_takeText cX10_takeText 2 none (rmd 1 0 0)) (hQ : Rt V X 0 0 N (fun r τ => ∃ P9 : NP, OKP P9 ∧ RT P P9 ∧ HS V c (⟨T, Z, u, h, P9, L⟩ : RG) [0, 1, 2, 17, 18, 19, 20, 21, 22, 23] σ τ ∧ r = none)) (hob : OKB L) (hP : OKP P)   : ∀ (fuel : Nat) (i : Nat) (P1 : NP) (τ : Mem), HS V c (⟨T, Z, u, h, P1, L⟩ : RG) [0, 1, 2, 17, 18, 19, 20, 21, 22, 23] σ τ → OKP P1 → RT3 P P1 → i ≤ 192 → 192 - i < fuel → Wm V X 2 N τ 0 0 179 [(0, .ref c), (1, .int (nI i))] [] := by
  intro fuel
  induction fuel with
  | zero => intros; rename_i hm; exact absurd hm (Nat.not_lt_zero _)
  | succ fuel ih =>
    intro i P1 τ h1 hP1 hR1 hi hm
    have hPP := hP
    unfold OKP at hPP
    have hPP1 := hP1
    unfold OKP at hPP1
    unfold RT3 at hR1
    refine m_iload_n F rfl e_X10_takeText_179 ?_
    refine m_sipush F (v := 192) (by decide) e_X10_takeText_180 ?_
    refine m_icmp_ge F e_X10_takeText_183 (fun q183 => ?_) (fun q183 => ?_)
    · have c183 : i ≥ 192 := (nI_leI (a := 192) (b := i) (by omega) (by omega)).mp q183
      refine m_iconst F (v := 0) (by decide) e_X10_takeText_208 ?_
      refine m_istore_n F (lv' := [(1, .int 0), (0, .ref c)]) e_X10_takeText_209 (by decide) rfl ?_
      refine m_iload_n F rfl e_X10_takeText_210 ?_
      refine m_bipush F (v := 8) (by decide) e_X10_takeText_211 ?_
      refine m_icmp_ge F e_X10_takeText_213 (fun q => absurd q (by decide)) (fun _ => ?_)
      refine m_aload_n F rfl e_X10_takeText_216 ?_
      refine r_get F e_X10_takeText_217 fl_X10_40 h1 rfl (fun v hv f10129 => ?_)
      obtain rfl : v = .ref (c + 11) := hv
      refine m_iload_n F rfl e_X10_takeText_220 ?_
      refine m_aload_n F rfl e_X10_takeText_221 ?_
      refine r_getC F e_X10_takeText_222 fl_X10_40 h1 (f10129) ?_
      refine m_bipush F (v := 8) (by decide) e_X10_takeText_225 ?_
      refine m_iload_n F rfl e_X10_takeText_227 ?_
      refine m_iadd F e_X10_takeText_228 ?_
      refine Wm.topE (w := 8) (by decide) ?_
      refine r_iald F (len := 16) (j := 8) e_X10_takeText_229 h1 (fun _ h => h) (by decide) (by decide) (by unfold vp_in; decide) (fun x10130 h10131 f10132 => ?_)
      obtain ⟨n10133, hn10133, rfl⟩ := h10131
      refine r_iast F (g' := (⟨T, Z, u, h, P1, L⟩ : RG)) (len := 16) (j := 0) e_X10_takeText_230 h1 (fun _ h => h) (fun f h => ⟨f, rfl, h⟩) (by decide) (by decide) (by decide) (by unfold vp_in; decide) ⟨n10133, by omega, rfl⟩ (fun _ _ _ h => h) (fun _ _ _ h => h) (fun σ10134 h10135 g10136 f10137 g10138 => ?_)
      refine m_aload_n F rfl e_X10_takeText_231 ?_
      refine r_get F e_X10_takeText_232 fl_X10_43 h10135 rfl (fun v hv f10139 => ?_)
      obtain rfl : v = .ref (c + 12) := hv
      refine m_iload_n F rfl e_X10_takeText_235 ?_
      refine m_aload_n F rfl e_X10_takeText_236 ?_
      refine r_getC F e_X10_takeText_237 fl_X10_43 h10135 (f10139) ?_
      refine m_bipush F (v := 8) (by decide) e_X10_takeText_240 ?_
      refine m_iload_n F rfl e_X10_takeText_242 ?_
      refine m_iadd F e_X10_takeText_243 ?_
      refine Wm.topE (w := 8) (by decide) ?_
      refine r_iald F (len := 16) (j := 8) e_X10_takeText_244 h10135 (fun _ h => h) (by decide) (by decide) (by unfold vp_in; decide) (fun x10140 h10141 f10142 => ?_)
      obtain ⟨n10143, hn10143, rfl, pn10143, rn10143⟩ := h10141
      refine r_iast F (g' := (⟨T, Z, u, h, (mkP P1.n0 P1.n2 P1.n5 P1.n7 P1.m0 P1.m5 (min 1 P1.w7) P1.w7 P1.kk P1.a), L⟩ : RG)) (len := 16) (j := 0) e_X10_takeText_245 h10135 (fun _ h => h) (fun f h => ⟨f, rfl, h⟩) (by decide) (by decide) (by decide) (by unfold vp_in; decide) ⟨n10143, by omega, rfl, fun _ h8 => rn10143 (by omega) (show 8 < 8 + P1.w7 by have h6 : 0 < min 1 P1.w7 := h8; omega), fun h7 _ => absurd h7 (by omega)⟩ (fun i hi y hy => by obtain ⟨n9, a9, b9, c9, d9⟩ := hy; exact ⟨n9, a9, b9, fun h7 h8 => c9 h7 (show i < P1.w2 by have h6 : i < min 1 P1.w7 := h8; omega), d9⟩) (CR.chg (by intro k hk i x h; unfold EI at h ⊢; split at h <;> first | exact h | exact absurd rfl hk | trivial) rfl rfl) (fun σ10144 h10145 g10146 f10147 g10148 => ?_)
      obtain ⟨P10149, eP10149⟩ : ∃ P9, P9 = (mkP P1.n0 P1.n2 P1.n5 P1.n7 P1.m0 P1.m5 (min 1 P1.w7) P1.w7 P1.kk P1.a) := ⟨_, rfl⟩
      rw [← eP10149] at h10145
      have fP10149 : P10149.n0 = P1.n0 ∧ P10149.n2 = P1.n2 ∧ P10149.n5 = P1.n5 ∧ P10149.n7 = P1.n7 ∧ P10149.m0 = P1.m0 ∧ P10149.m5 = P1.m5 ∧ P10149.w2 = min 1 P1.w7 ∧ P10149.w7 = P1.w7 ∧ P10149.kk = P1.kk ∧ P10149.a = P1.a := by rw [eP10149]; exact ⟨rfl, rfl, rfl, rfl, rfl, rfl, rfl, rfl, rfl, rfl⟩
      refine m_iinc F (v := 1) (lv' := [(1, .int 1), (0, .ref c)]) e_X10_takeText_246 rfl (by decide) (by decide) rfl ?_
      refine m_goto F e_X10_takeText_249 ?_
      refine m_iload_n F rfl e_X10_takeText_210 ?_
      refine m_bipush F (v := 8) (by decide) e_X10_takeText_211 ?_
      refine m_icmp_ge F e_X10_takeText_213 (fun q => absurd q (by decide)) (fun _ => ?_)
      refine m_aload_n F rfl e_X10_takeText_216 ?_
      refine r_getC F e_X10_takeText_217 fl_X10_40 h10145 ((fld_eq (g10146 _ (by omega))).trans ((fld_eq (g10136 _ (by omega))).trans f10129)) ?_
      refine m_iload_n F rfl e_X10_takeText_220 ?_
      refine m_aload_n F rfl e_X10_takeText_221 ?_
      refine r_getC F e_X10_takeText_222 fl_X10_40 h10145 ((fld_eq (g10146 _ (by omega))).trans ((fld_eq (g10136 _ (by omega))).trans f10129)) ?_
      refine m_bipush F (v := 8) (by decide) e_X10_takeText_225 ?_
      refine m_iload_n F rfl e_X10_takeText_227 ?_
      refine m_iadd F e_X10_takeText_228 ?_
      refine Wm.topE (w := 9) (by decide) ?_
      refine r_iald F (len := 16) (j := 9) e_X10_takeText_229 h10145 (fun _ h => h) (by decide) (by decide) (by unfold vp_in; decide) (fun x10150 h10151 f10152 => ?_)
      obtain ⟨n10153, hn10153, rfl⟩ := h10151
      refine r_iast F (g' := (⟨T, Z, u, h, P10149, L⟩ : RG)) (len := 16) (j := 1) e_X10_takeText_230 h10145 (fun _ h => h) (fun f h => ⟨f, rfl, h⟩) (by decide) (by decide) (by decide) (by unfold vp_in; decide) ⟨n10153, by omega, rfl⟩ (fun _ _ _ h => h) (fun _ _ _ h => h) (fun σ10154 h10155 g10156 f10157 g10158 => ?_)
      refine m_aload_n F rfl e_X10_takeText_231 ?_
      refine r_getC F e_X10_takeText_232 fl_X10_43 h10155 ((fld_eq (g10156 _ (by omega))).trans ((fld_eq (g10146 _ (by omega))).trans f10139)) ?_
      refine m_iload_n F rfl e_X10_takeText_235 ?_
      refine m_aload_n F rfl e_X10_takeText_236 ?_
      refine r_getC F e_X10_takeText_237 fl_X10_43 h10155 ((fld_eq (g10156 _ (by omega))).trans ((fld_eq (g10146 _ (by omega))).trans f10139)) ?_
      refine m_bipush F (v := 8) (by decide) e_X10_takeText_240 ?_
      refine m_iload_n F rfl e_X10_takeText_242 ?_
      refine m_iadd F e_X10_takeText_243 ?_
      refine Wm.topE (w := 9) (by decide) ?_
      refine r_iald F (len := 16) (j := 9) e_X10_takeText_244 h10155 (fun _ h => h) (by decide) (by decide) (by unfold vp_in; decide) (fun x10159 h10160 f10161 => ?_)
      obtain ⟨n10162, hn10162, rfl, pn10162, rn10162⟩ := h10160
      refine r_iast F (g' := (⟨T, Z, u, h, (mkP P10149.n0 P10149.n2 P10149.n5 P10149.n7 P10149.m0 P10149.m5 (min 2 P10149.w7) P10149.w7 P10149.kk P10149.a), L⟩ : RG)) (len := 16) (j := 1) e_X10_takeText_245 h10155 (fun _ h => h) (fun f h => ⟨f, rfl, h⟩) (by decide) (by decide) (by decide) (by unfold vp_in; decide) ⟨n10162, by omega, rfl, fun _ h8 => rn10162 (by omega) (show 9 < 8 + P10149.w7 by have h6 : 1 < min 2 P10149.w7 := h8; omega), fun h7 _ => absurd h7 (by omega)⟩ (fun i hi y hy => by obtain ⟨n9, a9, b9, c9, d9⟩ := hy; exact ⟨n9, a9, b9, fun h7 h8 => c9 h7 (show i < P10149.w2 by have h6 : i < min 2 P10149.w7 := h8; omega), d9⟩) (CR.chg (by intro k hk i x h; unfold EI at h ⊢; split at h <;> first | exact h | exact absurd rfl hk | trivial) rfl rfl) (fun σ10163 h10164 g10165 f10166 g10167 => ?_)
      obtain ⟨P10168, eP10168⟩ : ∃ P9, P9 = (mkP P10149.n0 P10149.n2 P10149.n5 P10149.n7 P10149.m0 P10149.m5 (min 2 P10149.w7) P10149.w7 P10149.kk P10149.a) := ⟨_, rfl⟩
      rw [← eP10168] at h10164
      have fP10168 : P10168.n0 = P10149.n0 ∧ P10168.n2 = P10149.n2 ∧ P10168.n5 = P10149.n5 ∧ P10168.n7 = P10149.n7 ∧ P10168.m0 = P10149.m0 ∧ P10168.m5 = P10149.m5 ∧ P10168.w2 = min 2 P10149.w7 ∧ P10168.w7 = P10149.w7 ∧ P10168.kk = P10149.kk ∧ P10168.a = P10149.a := by rw [eP10168]; exact ⟨rfl, rfl, rfl, rfl, rfl, rfl, rfl, rfl, rfl, rfl⟩
      refine m_iinc F (v := 2) (lv' := [(1, .int 2), (0, .ref c)]) e_X10_takeText_246 rfl (by decide) (by decide) rfl ?_
      refine m_goto F e_X10_takeText_249 ?_
      refine m_iload_n F rfl e_X10_takeText_210 ?_
      refine m_bipush F (v := 8) (by decide) e_X10_takeText_211 ?_
      refine m_icmp_ge F e_X10_takeText_213 (fun q => absurd q (by decide)) (fun _ => ?_)
      refine m_aload_n F rfl e_X10_takeText_216 ?_
      refine r_getC F e_X10_takeText_217 fl_X10_40 h10164 ((fld_eq (g10165 _ (by omega))).trans ((fld_eq (g10156 _ (by omega))).trans ((fld_eq (g10146 _ (by omega))).trans ((fld_eq (g10136 _ (by omega))).trans f10129)))) ?_
      refine m_iload_n F rfl e_X10_takeText_220 ?_
      refine m_aload_n F rfl e_X10_takeText_221 ?_
      refine r_getC F e_X10_takeText_222 fl_X10_40 h10164 ((fld_eq (g10165 _ (by omega))).trans ((fld_eq (g10156 _ (by omega))).trans ((fld_eq (g10146 _ (by omega))).trans ((fld_eq (g10136 _ (by omega))).trans f10129)))) ?_
      refine m_bipush F (v := 8) (by decide) e_X10_takeText_225 ?_
      refine m_iload_n F rfl e_X10_takeText_227 ?_
      refine m_iadd F e_X10_takeText_228 ?_
      refine Wm.topE (w := 10) (by decide) ?_
      refine r_iald F (len := 16) (j := 10) e_X10_takeText_229 h10164 (fun _ h => h) (by decide) (by decide) (by unfold vp_in; decide) (fun x10169 h10170 f10171 => ?_)
      obtain ⟨n10172, hn10172, rfl⟩ := h10170
      refine r_iast F (g' := (⟨T, Z, u, h, P10168, L⟩ : RG)) (len := 16) (j := 2) e_X10_takeText_230 h10164 (fun _ h => h) (fun f h => ⟨f, rfl, h⟩) (by decide) (by decide) (by decide) (by unfold vp_in; decide) ⟨n10172, by omega, rfl⟩ (fun _ _ _ h => h) (fun _ _ _ h => h) (fun σ10173 h10174 g10175 f10176 g10177 => ?_)
      refine m_aload_n F rfl e_X10_takeText_231 ?_
      refine r_getC F e_X10_takeText_232 fl_X10_43 h10174 ((fld_eq (g10175 _ (by omega))).trans ((fld_eq (g10165 _ (by omega))).trans ((fld_eq (g10156 _ (by omega))).trans ((fld_eq (g10146 _ (by omega))).trans f10139)))) ?_
      refine m_iload_n F rfl e_X10_takeText_235 ?_
      refine m_aload_n F rfl e_X10_takeText_236 ?_
      refine r_getC F e_X10_takeText_237 fl_X10_43 h10174 ((fld_eq (g10175 _ (by omega))).trans ((fld_eq (g10165 _ (by omega))).trans ((fld_eq (g10156 _ (by omega))).trans ((fld_eq (g10146 _ (by omega))).trans f10139)))) ?_
      refine m_bipush F (v := 8) (by decide) e_X10_takeText_240 ?_
      refine m_iload_n F rfl e_X10_takeText_242 ?_
      refine m_iadd F e_X10_takeText_243 ?_
      refine Wm.topE (w := 10) (by decide) ?_
      refine r_iald F (len := 16) (j := 10) e_X10_takeText_244 h10174 (fun _ h => h) (by decide) (by decide) (by unfold vp_in; decide) (fun x10178 h10179 f10180 => ?_)
      obtain ⟨n10181, hn10181, rfl, pn10181, rn10181⟩ := h10179
      refine r_iast F (g' := (⟨T, Z, u, h, (mkP P10168.n0 P10168.n2 P10168.n5 P10168.n7 P10168.m0 P10168.m5 (min 3 P10168.w7) P10168.w7 P10168.kk P10168.a), L⟩ : RG)) (len := 16) (j := 2) e_X10_takeText_245 h10174 (fun _ h => h) (fun f h => ⟨f, rfl, h⟩) (by decide) (by decide) (by decide) (by unfold vp_in; decide) ⟨n10181, by omega, rfl, fun _ h8 => rn10181 (by omega) (show 10 < 8 + P10168.w7 by have h6 : 2 < min 3 P10168.w7 := h8; omega), fun h7 _ => absurd h7 (by omega)⟩ (fun i hi y hy => by obtain ⟨n9, a9, b9, c9, d9⟩ := hy; exact ⟨n9, a9, b9, fun h7 h8 => c9 h7 (show i < P10168.w2 by have h6 : i < min 3 P10168.w7 := h8; omega), d9⟩) (CR.chg (by intro k hk i x h; unfold EI at h ⊢; split at h <;> first | exact h | exact absurd rfl hk | trivial) rfl rfl) (fun σ10182 h10183 g10184 f10185 g10186 => ?_)
      obtain ⟨P10187, eP10187⟩ : ∃ P9, P9 = (mkP P10168.n0 P10168.n2 P10168.n5 P10168.n7 P10168.m0 P10168.m5 (min 3 P10168.w7) P10168.w7 P10168.kk P10168.a) := ⟨_, rfl⟩
      rw [← eP10187] at h10183
      have fP10187 : P10187.n0 = P10168.n0 ∧ P10187.n2 = P10168.n2 ∧ P10187.n5 = P10168.n5 ∧ P10187.n7 = P10168.n7 ∧ P10187.m0 = P10168.m0 ∧ P10187.m5 = P10168.m5 ∧ P10187.w2 = min 3 P10168.w7 ∧ P10187.w7 = P10168.w7 ∧ P10187.kk = P10168.kk ∧ P10187.a = P10168.a := by rw [eP10187]; exact ⟨rfl, rfl, rfl, rfl, rfl, rfl, rfl, rfl, rfl, rfl⟩
      refine m_iinc F (v := 3) (lv' := [(1, .int 3), (0, .ref c)]) e_X10_takeText_246 rfl (by decide) (by decide) rfl ?_
      refine m_goto F e_X10_takeText_249 ?_
      refine m_iload_n F rfl e_X10_takeText_210 ?_
      refine m_bipush F (v := 8) (by decide) e_X10_takeText_211 ?_
      refine m_icmp_ge F e_X10_takeText_213 (fun q => absurd q (by decide)) (fun _ => ?_)
      refine m_aload_n F rfl e_X10_takeText_216 ?_
      refine r_getC F e_X10_takeText_217 fl_X10_40 h10183 ((fld_eq (g10184 _ (by omega))).trans ((fld_eq (g10175 _ (by omega))).trans ((fld_eq (g10165 _ (by omega))).trans ((fld_eq (g10156 _ (by omega))).trans ((fld_eq (g10146 _ (by omega))).trans ((fld_eq (g10136 _ (by omega))).trans f10129)))))) ?_
      refine m_iload_n F rfl e_X10_takeText_220 ?_
      refine m_aload_n F rfl e_X10_takeText_221 ?_
      refine r_getC F e_X10_takeText_222 fl_X10_40 h10183 ((fld_eq (g10184 _ (by omega))).trans ((fld_eq (g10175 _ (by omega))).trans ((fld_eq (g10165 _ (by omega))).trans ((fld_eq (g10156 _ (by omega))).trans ((fld_eq (g10146 _ (by omega))).trans ((fld_eq (g10136 _ (by omega))).trans f10129)))))) ?_
      refine m_bipush F (v := 8) (by decide) e_X10_takeText_225 ?_
      refine m_iload_n F rfl e_X10_takeText_227 ?_
      refine m_iadd F e_X10_takeText_228 ?_
      refine Wm.topE (w := 11) (by decide) ?_
      refine r_iald F (len := 16) (j := 11) e_X10_takeText_229 h10183 (fun _ h => h) (by decide) (by decide) (by unfold vp_in; decide) (fun x10188 h10189 f10190 => ?_)
      obtain ⟨n10191, hn10191, rfl⟩ := h10189
      refine r_iast F (g' := (⟨T, Z, u, h, P10187, L⟩ : RG)) (len := 16) (j := 3) e_X10_takeText_230 h10183 (fun _ h => h) (fun f h => ⟨f, rfl, h⟩) (by decide) (by decide) (by decide) (by unfold vp_in; decide) ⟨n10191, by omega, rfl⟩ (fun _ _ _ h => h) (fun _ _ _ h => h) (fun σ10192 h10193 g10194 f10195 g10196 => ?_)
      refine m_aload_n F rfl e_X10_takeText_231 ?_
      refine r_getC F e_X10_takeText_232 fl_X10_43 h10193 ((fld_eq (g10194 _ (by omega))).trans ((fld_eq (g10184 _ (by omega))).trans ((fld_eq (g10175 _ (by omega))).trans ((fld_eq (g10165 _ (by omega))).trans ((fld_eq (g10156 _ (by omega))).trans ((fld_eq (g10146 _ (by omega))).trans f10139)))))) ?_
      refine m_iload_n F rfl e_X10_takeText_235 ?_
      refine m_aload_n F rfl e_X10_takeText_236 ?_
      refine r_getC F e_X10_takeText_237 fl_X10_43 h10193 ((fld_eq (g10194 _ (by omega))).trans ((fld_eq (g10184 _ (by omega))).trans ((fld_eq (g10175 _ (by omega))).trans ((fld_eq (g10165 _ (by omega))).trans ((fld_eq (g10156 _ (by omega))).trans ((fld_eq (g10146 _ (by omega))).trans f10139)))))) ?_
      refine m_bipush F (v := 8) (by decide) e_X10_takeText_240 ?_
      refine m_iload_n F rfl e_X10_takeText_242 ?_
      refine m_iadd F e_X10_takeText_243 ?_
      refine Wm.topE (w := 11) (by decide) ?_
      refine r_iald F (len := 16) (j := 11) e_X10_takeText_244 h10193 (fun _ h => h) (by decide) (by decide) (by unfold vp_in; decide) (fun x10197 h10198 f10199 => ?_)
      obtain ⟨n10200, hn10200, rfl, pn10200, rn10200⟩ := h10198
      refine r_iast F (g' := (⟨T, Z, u, h, (mkP P10187.n0 P10187.n2 P10187.n5 P10187.n7 P10187.m0 P10187.m5 (min 4 P10187.w7) P10187.w7 P10187.kk P10187.a), L⟩ : RG)) (len := 16) (j := 3) e_X10_takeText_245 h10193 (fun _ h => h) (fun f h => ⟨f, rfl, h⟩) (by decide) (by decide) (by decide) (by unfold vp_in; decide) ⟨n10200, by omega, rfl, fun _ h8 => rn10200 (by omega) (show 11 < 8 + P10187.w7 by have h6 : 3 < min 4 P10187.w7 := h8; omega), fun h7 _ => absurd h7 (by omega)⟩ (fun i hi y hy => by obtain ⟨n9, a9, b9, c9, d9⟩ := hy; exact ⟨n9, a9, b9, fun h7 h8 => c9 h7 (show i < P10187.w2 by have h6 : i < min 4 P10187.w7 := h8; omega), d9⟩) (CR.chg (by intro k hk i x h; unfold EI at h ⊢; split at h <;> first | exact h | exact absurd rfl hk | trivial) rfl rfl) (fun σ10201 h10202 g10203 f10204 g10205 => ?_)
      obtain ⟨P10206, eP10206⟩ : ∃ P9, P9 = (mkP P10187.n0 P10187.n2 P10187.n5 P10187.n7 P10187.m0 P10187.m5 (min 4 P10187.w7) P10187.w7 P10187.kk P10187.a) := ⟨_, rfl⟩
      rw [← eP10206] at h10202
      have fP10206 : P10206.n0 = P10187.n0 ∧ P10206.n2 = P10187.n2 ∧ P10206.n5 = P10187.n5 ∧ P10206.n7 = P10187.n7 ∧ P10206.m0 = P10187.m0 ∧ P10206.m5 = P10187.m5 ∧ P10206.w2 = min 4 P10187.w7 ∧ P10206.w7 = P10187.w7 ∧ P10206.kk = P10187.kk ∧ P10206.a = P10187.a := by rw [eP10206]; exact ⟨rfl, rfl, rfl, rfl, rfl, rfl, rfl, rfl, rfl, rfl⟩
      refine m_iinc F (v := 4) (lv' := [(1, .int 4), (0, .ref c)]) e_X10_takeText_246 rfl (by decide) (by decide) rfl ?_
      refine m_goto F e_X10_takeText_249 ?_
      refine m_iload_n F rfl e_X10_takeText_210 ?_
      refine m_bipush F (v := 8) (by decide) e_X10_takeText_211 ?_
      refine m_icmp_ge F e_X10_takeText_213 (fun q => absurd q (by decide)) (fun _ => ?_)
      refine m_aload_n F rfl e_X10_takeText_216 ?_
      refine r_getC F e_X10_takeText_217 fl_X10_40 h10202 ((fld_eq (g10203 _ (by omega))).trans ((fld_eq (g10194 _ (by omega))).trans ((fld_eq (g10184 _ (by omega))).trans ((fld_eq (g10175 _ (by omega))).trans ((fld_eq (g10165 _ (by omega))).trans ((fld_eq (g10156 _ (by omega))).trans ((fld_eq (g10146 _ (by omega))).trans ((fld_eq (g10136 _ (by omega))).trans f10129)))))))) ?_
      refine m_iload_n F rfl e_X10_takeText_220 ?_
      refine m_aload_n F rfl e_X10_takeText_221 ?_
      refine r_getC F e_X10_takeText_222 fl_X10_40 h10202 ((fld_eq (g10203 _ (by omega))).trans ((fld_eq (g10194 _ (by omega))).trans ((fld_eq (g10184 _ (by omega))).trans ((fld_eq (g10175 _ (by omega))).trans ((fld_eq (g10165 _ (by omega))).trans ((fld_eq (g10156 _ (by omega))).trans ((fld_eq (g10146 _ (by omega))).trans ((fld_eq (g10136 _ (by omega))).trans f10129)))))))) ?_
      refine m_bipush F (v := 8) (by decide) e_X10_takeText_225 ?_
      refine m_iload_n F rfl e_X10_takeText_227 ?_
      refine m_iadd F e_X10_takeText_228 ?_
      refine Wm.topE (w := 12) (by decide) ?_
      refine r_iald F (len := 16) (j := 12) e_X10_takeText_229 h10202 (fun _ h => h) (by decide) (by decide) (by unfold vp_in; decide) (fun x10207 h10208 f10209 => ?_)
      obtain ⟨n10210, hn10210, rfl⟩ := h10208
      refine r_iast F (g' := (⟨T, Z, u, h, P10206, L⟩ : RG)) (len := 16) (j := 4) e_X10_takeText_230 h10202 (fun _ h => h) (fun f h => ⟨f, rfl, h⟩) (by decide) (by decide) (by decide) (by unfold vp_in; decide) ⟨n10210, by omega, rfl⟩ (fun _ _ _ h => h) (fun _ _ _ h => h) (fun σ10211 h10212 g10213 f10214 g10215 => ?_)
      refine m_aload_n F rfl e_X10_takeText_231 ?_
      refine r_getC F e_X10_takeText_232 fl_X10_43 h10212 ((fld_eq (g10213 _ (by omega))).trans ((fld_eq (g10203 _ (by omega))).trans ((fld_eq (g10194 _ (by omega))).trans ((fld_eq (g10184 _ (by omega))).trans ((fld_eq (g10175 _ (by omega))).trans ((fld_eq (g10165 _ (by omega))).trans ((fld_eq (g10156 _ (by omega))).trans ((fld_eq (g10146 _ (by omega))).trans f10139)))))))) ?_
      refine m_iload_n F rfl e_X10_takeText_235 ?_
      refine m_aload_n F rfl e_X10_takeText_236 ?_
      refine r_getC F e_X10_takeText_237 fl_X10_43 h10212 ((fld_eq (g10213 _ (by omega))).trans ((fld_eq (g10203 _ (by omega))).trans ((fld_eq (g10194 _ (by omega))).trans ((fld_eq (g10184 _ (by omega))).trans ((fld_eq (g10175 _ (by omega))).trans ((fld_eq (g10165 _ (by omega))).trans ((fld_eq (g10156 _ (by omega))).trans ((fld_eq (g10146 _ (by omega))).trans f10139)))))))) ?_
      refine m_bipush F (v := 8) (by decide) e_X10_takeText_240 ?_
      refine m_iload_n F rfl e_X10_takeText_242 ?_
      refine m_iadd F e_X10_takeText_243 ?_
      refine Wm.topE (w := 12) (by decide) ?_
      refine r_iald F (len := 16) (j := 12) e_X10_takeText_244 h10212 (fun _ h => h) (by decide) (by decide) (by unfold vp_in; decide) (fun x10216 h10217 f10218 => ?_)
      obtain ⟨n10219, hn10219, rfl, pn10219, rn10219⟩ := h10217
      refine r_iast F (g' := (⟨T, Z, u, h, (mkP P10206.n0 P10206.n2 P10206.n5 P10206.n7 P10206.m0 P10206.m5 (min 5 P10206.w7) P10206.w7 P10206.kk P10206.a), L⟩ : RG)) (len := 16) (j := 4) e_X10_takeText_245 h10212 (fun _ h => h) (fun f h => ⟨f, rfl, h⟩) (by decide) (by decide) (by decide) (by unfold vp_in; decide) ⟨n10219, by omega, rfl, fun _ h8 => rn10219 (by omega) (show 12 < 8 + P10206.w7 by have h6 : 4 < min 5 P10206.w7 := h8; omega), fun h7 _ => absurd h7 (by omega)⟩ (fun i hi y hy => by obtain ⟨n9, a9, b9, c9, d9⟩ := hy; exact ⟨n9, a9, b9, fun h7 h8 => c9 h7 (show i < P10206.w2 by have h6 : i < min 5 P10206.w7 := h8; omega), d9⟩) (CR.chg (by intro k hk i x h; unfold EI at h ⊢; split at h <;> first | exact h | exact absurd rfl hk | trivial) rfl rfl) (fun σ10220 h10221 g10222 f10223 g10224 => ?_)
      obtain ⟨P10225, eP10225⟩ : ∃ P9, P9 = (mkP P10206.n0 P10206.n2 P10206.n5 P10206.n7 P10206.m0 P10206.m5 (min 5 P10206.w7) P10206.w7 P10206.kk P10206.a) := ⟨_, rfl⟩
      rw [← eP10225] at h10221
      have fP10225 : P10225.n0 = P10206.n0 ∧ P10225.n2 = P10206.n2 ∧ P10225.n5 = P10206.n5 ∧ P10225.n7 = P10206.n7 ∧ P10225.m0 = P10206.m0 ∧ P10225.m5 = P10206.m5 ∧ P10225.w2 = min 5 P10206.w7 ∧ P10225.w7 = P10206.w7 ∧ P10225.kk = P10206.kk ∧ P10225.a = P10206.a := by rw [eP10225]; exact ⟨rfl, rfl, rfl, rfl, rfl, rfl, rfl, rfl, rfl, rfl⟩
      refine m_iinc F (v := 5) (lv' := [(1, .int 5), (0, .ref c)]) e_X10_takeText_246 rfl (by decide) (by decide) rfl ?_
      refine m_goto F e_X10_takeText_249 ?_
      refine m_iload_n F rfl e_X10_takeText_210 ?_
      refine m_bipush F (v := 8) (by decide) e_X10_takeText_211 ?_
      refine m_icmp_ge F e_X10_takeText_213 (fun q => absurd q (by decide)) (fun _ => ?_)
      refine m_aload_n F rfl e_X10_takeText_216 ?_
      refine r_getC F e_X10_takeText_217 fl_X10_40 h10221 ((fld_eq (g10222 _ (by omega))).trans ((fld_eq (g10213 _ (by omega))).trans ((fld_eq (g10203 _ (by omega))).trans ((fld_eq (g10194 _ (by omega))).trans ((fld_eq (g10184 _ (by omega))).trans ((fld_eq (g10175 _ (by omega))).trans ((fld_eq (g10165 _ (by omega))).trans ((fld_eq (g10156 _ (by omega))).trans ((fld_eq (g10146 _ (by omega))).trans ((fld_eq (g10136 _ (by omega))).trans f10129)))))))))) ?_
      refine m_iload_n F rfl e_X10_takeText_220 ?_
      refine m_aload_n F rfl e_X10_takeText_221 ?_
      refine r_getC F e_X10_takeText_222 fl_X10_40 h10221 ((fld_eq (g10222 _ (by omega))).trans ((fld_eq (g10213 _ (by omega))).trans ((fld_eq (g10203 _ (by omega))).trans ((fld_eq (g10194 _ (by omega))).trans ((fld_eq (g10184 _ (by omega))).trans ((fld_eq (g10175 _ (by omega))).trans ((fld_eq (g10165 _ (by omega))).trans ((fld_eq (g10156 _ (by omega))).trans ((fld_eq (g10146 _ (by omega))).trans ((fld_eq (g10136 _ (by omega))).trans f10129)))))))))) ?_
      refine m_bipush F (v := 8) (by decide) e_X10_takeText_225 ?_
      refine m_iload_n F rfl e_X10_takeText_227 ?_
      refine m_iadd F e_X10_takeText_228 ?_
      refine Wm.topE (w := 13) (by decide) ?_
      refine r_iald F (len := 16) (j := 13) e_X10_takeText_229 h10221 (fun _ h => h) (by decide) (by decide) (by unfold vp_in; decide) (fun x10226 h10227 f10228 => ?_)
      obtain ⟨n10229, hn10229, rfl⟩ := h10227
      refine r_iast F (g' := (⟨T, Z, u, h, P10225, L⟩ : RG)) (len := 16) (j := 5) e_X10_takeText_230 h10221 (fun _ h => h) (fun f h => ⟨f, rfl, h⟩) (by decide) (by decide) (by decide) (by unfold vp_in; decide) ⟨n10229, by omega, rfl⟩ (fun _ _ _ h => h) (fun _ _ _ h => h) (fun σ10230 h10231 g10232 f10233 g10234 => ?_)
      refine m_aload_n F rfl e_X10_takeText_231 ?_
      refine r_getC F e_X10_takeText_232 fl_X10_43 h10231 ((fld_eq (g10232 _ (by omega))).trans ((fld_eq (g10222 _ (by omega))).trans ((fld_eq (g10213 _ (by omega))).trans ((fld_eq (g10203 _ (by omega))).trans ((fld_eq (g10194 _ (by omega))).trans ((fld_eq (g10184 _ (by omega))).trans ((fld_eq (g10175 _ (by omega))).trans ((fld_eq (g10165 _ (by omega))).trans ((fld_eq (g10156 _ (by omega))).trans ((fld_eq (g10146 _ (by omega))).trans f10139)))))))))) ?_
      refine m_iload_n F rfl e_X10_takeText_235 ?_
      refine m_aload_n F rfl e_X10_takeText_236 ?_
      refine r_getC F e_X10_takeText_237 fl_X10_43 h10231 ((fld_eq (g10232 _ (by omega))).trans ((fld_eq (g10222 _ (by omega))).trans ((fld_eq (g10213 _ (by omega))).trans ((fld_eq (g10203 _ (by omega))).trans ((fld_eq (g10194 _ (by omega))).trans ((fld_eq (g10184 _ (by omega))).trans ((fld_eq (g10175 _ (by omega))).trans ((fld_eq (g10165 _ (by omega))).trans ((fld_eq (g10156 _ (by omega))).trans ((fld_eq (g10146 _ (by omega))).trans f10139)))))))))) ?_
      refine m_bipush F (v := 8) (by decide) e_X10_takeText_240 ?_
      refine m_iload_n F rfl e_X10_takeText_242 ?_
      refine m_iadd F e_X10_takeText_243 ?_
      refine Wm.topE (w := 13) (by decide) ?_
      refine r_iald F (len := 16) (j := 13) e_X10_takeText_244 h10231 (fun _ h => h) (by decide) (by decide) (by unfold vp_in; decide) (fun x10235 h10236 f10237 => ?_)
      obtain ⟨n10238, hn10238, rfl, pn10238, rn10238⟩ := h10236
      refine r_iast F (g' := (⟨T, Z, u, h, (mkP P10225.n0 P10225.n2 P10225.n5 P10225.n7 P10225.m0 P10225.m5 (min 6 P10225.w7) P10225.w7 P10225.kk P10225.a), L⟩ : RG)) (len := 16) (j := 5) e_X10_takeText_245 h10231 (fun _ h => h) (fun f h => ⟨f, rfl, h⟩) (by decide) (by decide) (by decide) (by unfold vp_in; decide) ⟨n10238, by omega, rfl, fun _ h8 => rn10238 (by omega) (show 13 < 8 + P10225.w7 by have h6 : 5 < min 6 P10225.w7 := h8; omega), fun h7 _ => absurd h7 (by omega)⟩ (fun i hi y hy => by obtain ⟨n9, a9, b9, c9, d9⟩ := hy; exact ⟨n9, a9, b9, fun h7 h8 => c9 h7 (show i < P10225.w2 by have h6 : i < min 6 P10225.w7 := h8; omega), d9⟩) (CR.chg (by intro k hk i x h; unfold EI at h ⊢; split at h <;> first | exact h | exact absurd rfl hk | trivial) rfl rfl) (fun σ10239 h10240 g10241 f10242 g10243 => ?_)
      obtain ⟨P10244, eP10244⟩ : ∃ P9, P9 = (mkP P10225.n0 P10225.n2 P10225.n5 P10225.n7 P10225.m0 P10225.m5 (min 6 P10225.w7) P10225.w7 P10225.kk P10225.a) := ⟨_, rfl⟩
      rw [← eP10244] at h10240
      have fP10244 : P10244.n0 = P10225.n0 ∧ P10244.n2 = P10225.n2 ∧ P10244.n5 = P10225.n5 ∧ P10244.n7 = P10225.n7 ∧ P10244.m0 = P10225.m0 ∧ P10244.m5 = P10225.m5 ∧ P10244.w2 = min 6 P10225.w7 ∧ P10244.w7 = P10225.w7 ∧ P10244.kk = P10225.kk ∧ P10244.a = P10225.a := by rw [eP10244]; exact ⟨rfl, rfl, rfl, rfl, rfl, rfl, rfl, rfl, rfl, rfl⟩
      refine m_iinc F (v := 6) (lv' := [(1, .int 6), (0, .ref c)]) e_X10_takeText_246 rfl (by decide) (by decide) rfl ?_
      refine m_goto F e_X10_takeText_249 ?_
      refine m_iload_n F rfl e_X10_takeText_210 ?_
      refine m_bipush F (v := 8) (by decide) e_X10_takeText_211 ?_
      refine m_icmp_ge F e_X10_takeText_213 (fun q => absurd q (by decide)) (fun _ => ?_)
      refine m_aload_n F rfl e_X10_takeText_216 ?_
      refine r_getC F e_X10_takeText_217 fl_X10_40 h10240 ((fld_eq (g10241 _ (by omega))).trans ((fld_eq (g10232 _ (by omega))).trans ((fld_eq (g10222 _ (by omega))).trans ((fld_eq (g10213 _ (by omega))).trans ((fld_eq (g10203 _ (by omega))).trans ((fld_eq (g10194 _ (by omega))).trans ((fld_eq (g10184 _ (by omega))).trans ((fld_eq (g10175 _ (by omega))).trans ((fld_eq (g10165 _ (by omega))).trans ((fld_eq (g10156 _ (by omega))).trans ((fld_eq (g10146 _ (by omega))).trans ((fld_eq (g10136 _ (by omega))).trans f10129)))))))))))) ?_
      refine m_iload_n F rfl e_X10_takeText_220 ?_
      refine m_aload_n F rfl e_X10_takeText_221 ?_
      refine r_getC F e_X10_takeText_222 fl_X10_40 h10240 ((fld_eq (g10241 _ (by omega))).trans ((fld_eq (g10232 _ (by omega))).trans ((fld_eq (g10222 _ (by omega))).trans ((fld_eq (g10213 _ (by omega))).trans ((fld_eq (g10203 _ (by omega))).trans ((fld_eq (g10194 _ (by omega))).trans ((fld_eq (g10184 _ (by omega))).trans ((fld_eq (g10175 _ (by omega))).trans ((fld_eq (g10165 _ (by omega))).trans ((fld_eq (g10156 _ (by omega))).trans ((fld_eq (g10146 _ (by omega))).trans ((fld_eq (g10136 _ (by omega))).trans f10129)))))))))))) ?_
      refine m_bipush F (v := 8) (by decide) e_X10_takeText_225 ?_
      refine m_iload_n F rfl e_X10_takeText_227 ?_
      refine m_iadd F e_X10_takeText_228 ?_
      refine Wm.topE (w := 14) (by decide) ?_
      refine r_iald F (len := 16) (j := 14) e_X10_takeText_229 h10240 (fun _ h => h) (by decide) (by decide) (by unfold vp_in; decide) (fun x10245 h10246 f10247 => ?_)
      obtain ⟨n10248, hn10248, rfl⟩ := h10246
      refine r_iast F (g' := (⟨T, Z, u, h, P10244, L⟩ : RG)) (len := 16) (j := 6) e_X10_takeText_230 h10240 (fun _ h => h) (fun f h => ⟨f, rfl, h⟩) (by decide) (by decide) (by decide) (by unfold vp_in; decide) ⟨n10248, by omega, rfl⟩ (fun _ _ _ h => h) (fun _ _ _ h => h) (fun σ10249 h10250 g10251 f10252 g10253 => ?_)
      refine m_aload_n F rfl e_X10_takeText_231 ?_
      refine r_getC F e_X10_takeText_232 fl_X10_43 h10250 ((fld_eq (g10251 _ (by omega))).trans ((fld_eq (g10241 _ (by omega))).trans ((fld_eq (g10232 _ (by omega))).trans ((fld_eq (g10222 _ (by omega))).trans ((fld_eq (g10213 _ (by omega))).trans ((fld_eq (g10203 _ (by omega))).trans ((fld_eq (g10194 _ (by omega))).trans ((fld_eq (g10184 _ (by omega))).trans ((fld_eq (g10175 _ (by omega))).trans ((fld_eq (g10165 _ (by omega))).trans ((fld_eq (g10156 _ (by omega))).trans ((fld_eq (g10146 _ (by omega))).trans f10139)))))))))))) ?_
      refine m_iload_n F rfl e_X10_takeText_235 ?_
      refine m_aload_n F rfl e_X10_takeText_236 ?_
      refine r_getC F e_X10_takeText_237 fl_X10_43 h10250 ((fld_eq (g10251 _ (by omega))).trans ((fld_eq (g10241 _ (by omega))).trans ((fld_eq (g10232 _ (by omega))).trans ((fld_eq (g10222 _ (by omega))).trans ((fld_eq (g10213 _ (by omega))).trans ((fld_eq (g10203 _ (by omega))).trans ((fld_eq (g10194 _ (by omega))).trans ((fld_eq (g10184 _ (by omega))).trans ((fld_eq (g10175 _ (by omega))).trans ((fld_eq (g10165 _ (by omega))).trans ((fld_eq (g10156 _ (by omega))).trans ((fld_eq (g10146 _ (by omega))).trans f10139)))))))))))) ?_
      refine m_bipush F (v := 8) (by decide) e_X10_takeText_240 ?_
      refine m_iload_n F rfl e_X10_takeText_242 ?_
      refine m_iadd F e_X10_takeText_243 ?_
      refine Wm.topE (w := 14) (by decide) ?_
      refine r_iald F (len := 16) (j := 14) e_X10_takeText_244 h10250 (fun _ h => h) (by decide) (by decide) (by unfold vp_in; decide) (fun x10254 h10255 f10256 => ?_)
      obtain ⟨n10257, hn10257, rfl, pn10257, rn10257⟩ := h10255
      refine r_iast F (g' := (⟨T, Z, u, h, (mkP P10244.n0 P10244.n2 P10244.n5 P10244.n7 P10244.m0 P10244.m5 (min 7 P10244.w7) P10244.w7 P10244.kk P10244.a), L⟩ : RG)) (len := 16) (j := 6) e_X10_takeText_245 h10250 (fun _ h => h) (fun f h => ⟨f, rfl, h⟩) (by decide) (by decide) (by decide) (by unfold vp_in; decide) ⟨n10257, by omega, rfl, fun _ h8 => rn10257 (by omega) (show 14 < 8 + P10244.w7 by have h6 : 6 < min 7 P10244.w7 := h8; omega), fun h7 _ => absurd h7 (by omega)⟩ (fun i hi y hy => by obtain ⟨n9, a9, b9, c9, d9⟩ := hy; exact ⟨n9, a9, b9, fun h7 h8 => c9 h7 (show i < P10244.w2 by have h6 : i < min 7 P10244.w7 := h8; omega), d9⟩) (CR.chg (by intro k hk i x h; unfold EI at h ⊢; split at h <;> first | exact h | exact absurd rfl hk | trivial) rfl rfl) (fun σ10258 h10259 g10260 f10261 g10262 => ?_)
      obtain ⟨P10263, eP10263⟩ : ∃ P9, P9 = (mkP P10244.n0 P10244.n2 P10244.n5 P10244.n7 P10244.m0 P10244.m5 (min 7 P10244.w7) P10244.w7 P10244.kk P10244.a) := ⟨_, rfl⟩
      rw [← eP10263] at h10259
      have fP10263 : P10263.n0 = P10244.n0 ∧ P10263.n2 = P10244.n2 ∧ P10263.n5 = P10244.n5 ∧ P10263.n7 = P10244.n7 ∧ P10263.m0 = P10244.m0 ∧ P10263.m5 = P10244.m5 ∧ P10263.w2 = min 7 P10244.w7 ∧ P10263.w7 = P10244.w7 ∧ P10263.kk = P10244.kk ∧ P10263.a = P10244.a := by rw [eP10263]; exact ⟨rfl, rfl, rfl, rfl, rfl, rfl, rfl, rfl, rfl, rfl⟩
      refine m_iinc F (v := 7) (lv' := [(1, .int 7), (0, .ref c)]) e_X10_takeText_246 rfl (by decide) (by decide) rfl ?_
      refine m_goto F e_X10_takeText_249 ?_
      refine m_iload_n F rfl e_X10_takeText_210 ?_
      refine m_bipush F (v := 8) (by decide) e_X10_takeText_211 ?_
      refine m_icmp_ge F e_X10_takeText_213 (fun q => absurd q (by decide)) (fun _ => ?_)
      refine m_aload_n F rfl e_X10_takeText_216 ?_
      refine r_getC F e_X10_takeText_217 fl_X10_40 h10259 ((fld_eq (g10260 _ (by omega))).trans ((fld_eq (g10251 _ (by omega))).trans ((fld_eq (g10241 _ (by omega))).trans ((fld_eq (g10232 _ (by omega))).trans ((fld_eq (g10222 _ (by omega))).trans ((fld_eq (g10213 _ (by omega))).trans ((fld_eq (g10203 _ (by omega))).trans ((fld_eq (g10194 _ (by omega))).trans ((fld_eq (g10184 _ (by omega))).trans ((fld_eq (g10175 _ (by omega))).trans ((fld_eq (g10165 _ (by omega))).trans ((fld_eq (g10156 _ (by omega))).trans ((fld_eq (g10146 _ (by omega))).trans ((fld_eq (g10136 _ (by omega))).trans f10129)))))))))))))) ?_
      refine m_iload_n F rfl e_X10_takeText_220 ?_
      refine m_aload_n F rfl e_X10_takeText_221 ?_
      refine r_getC F e_X10_takeText_222 fl_X10_40 h10259 ((fld_eq (g10260 _ (by omega))).trans ((fld_eq (g10251 _ (by omega))).trans ((fld_eq (g10241 _ (by omega))).trans ((fld_eq (g10232 _ (by omega))).trans ((fld_eq (g10222 _ (by omega))).trans ((fld_eq (g10213 _ (by omega))).trans ((fld_eq (g10203 _ (by omega))).trans ((fld_eq (g10194 _ (by omega))).trans ((fld_eq (g10184 _ (by omega))).trans ((fld_eq (g10175 _ (by omega))).trans ((fld_eq (g10165 _ (by omega))).trans ((fld_eq (g10156 _ (by omega))).trans ((fld_eq (g10146 _ (by omega))).trans ((fld_eq (g10136 _ (by omega))).trans f10129)))))))))))))) ?_
      refine m_bipush F (v := 8) (by decide) e_X10_takeText_225 ?_
      refine m_iload_n F rfl e_X10_takeText_227 ?_
      refine m_iadd F e_X10_takeText_228 ?_
      refine Wm.topE (w := 15) (by decide) ?_
      refine r_iald F (len := 16) (j := 15) e_X10_takeText_229 h10259 (fun _ h => h) (by decide) (by decide) (by unfold vp_in; decide) (fun x10264 h10265 f10266 => ?_)
      obtain ⟨n10267, hn10267, rfl⟩ := h10265
      refine r_iast F (g' := (⟨T, Z, u, h, P10263, L⟩ : RG)) (len := 16) (j := 7) e_X10_takeText_230 h10259 (fun _ h => h) (fun f h => ⟨f, rfl, h⟩) (by decide) (by decide) (by decide) (by unfold vp_in; decide) ⟨n10267, by omega, rfl⟩ (fun _ _ _ h => h) (fun _ _ _ h => h) (fun σ10268 h10269 g10270 f10271 g10272 => ?_)
      refine m_aload_n F rfl e_X10_takeText_231 ?_
      refine r_getC F e_X10_takeText_232 fl_X10_43 h10269 ((fld_eq (g10270 _ (by omega))).trans ((fld_eq (g10260 _ (by omega))).trans ((fld_eq (g10251 _ (by omega))).trans ((fld_eq (g10241 _ (by omega))).trans ((fld_eq (g10232 _ (by omega))).trans ((fld_eq (g10222 _ (by omega))).trans ((fld_eq (g10213 _ (by omega))).trans ((fld_eq (g10203 _ (by omega))).trans ((fld_eq (g10194 _ (by omega))).trans ((fld_eq (g10184 _ (by omega))).trans ((fld_eq (g10175 _ (by omega))).trans ((fld_eq (g10165 _ (by omega))).trans ((fld_eq (g10156 _ (by omega))).trans ((fld_eq (g10146 _ (by omega))).trans f10139)))))))))))))) ?_
      refine m_iload_n F rfl e_X10_takeText_235 ?_
      refine m_aload_n F rfl e_X10_takeText_236 ?_
      refine r_getC F e_X10_takeText_237 fl_X10_43 h10269 ((fld_eq (g10270 _ (by omega))).trans ((fld_eq (g10260 _ (by omega))).trans ((fld_eq (g10251 _ (by omega))).trans ((fld_eq (g10241 _ (by omega))).trans ((fld_eq (g10232 _ (by omega))).trans ((fld_eq (g10222 _ (by omega))).trans ((fld_eq (g10213 _ (by omega))).trans ((fld_eq (g10203 _ (by omega))).trans ((fld_eq (g10194 _ (by omega))).trans ((fld_eq (g10184 _ (by omega))).trans ((fld_eq (g10175 _ (by omega))).trans ((fld_eq (g10165 _ (by omega))).trans ((fld_eq (g10156 _ (by omega))).trans ((fld_eq (g10146 _ (by omega))).trans f10139)))))))))))))) ?_
      refine m_bipush F (v := 8) (by decide) e_X10_takeText_240 ?_
      refine m_iload_n F rfl e_X10_takeText_242 ?_
      refine m_iadd F e_X10_takeText_243 ?_
      refine Wm.topE (w := 15) (by decide) ?_
      refine r_iald F (len := 16) (j := 15) e_X10_takeText_244 h10269 (fun _ h => h) (by decide) (by decide) (by unfold vp_in; decide) (fun x10273 h10274 f10275 => ?_)
      obtain ⟨n10276, hn10276, rfl, pn10276, rn10276⟩ := h10274
      refine r_iast F (g' := (⟨T, Z, u, h, (mkP P10263.n0 P10263.n2 P10263.n5 P10263.n7 P10263.m0 P10263.m5 (min 8 P10263.w7) P10263.w7 P10263.kk P10263.a), L⟩ : RG)) (len := 16) (j := 7) e_X10_takeText_245 h10269 (fun _ h => h) (fun f h => ⟨f, rfl, h⟩) (by decide) (by decide) (by decide) (by unfold vp_in; decide) ⟨n10276, by omega, rfl, fun _ h8 => rn10276 (by omega) (show 15 < 8 + P10263.w7 by have h6 : 7 < min 8 P10263.w7 := h8; omega), fun h7 _ => absurd h7 (by omega)⟩ (fun i hi y hy => by obtain ⟨n9, a9, b9, c9, d9⟩ := hy; exact ⟨n9, a9, b9, fun h7 h8 => c9 h7 (show i < P10263.w2 by have h6 : i < min 8 P10263.w7 := h8; omega), d9⟩) (CR.chg (by intro k hk i x h; unfold EI at h ⊢; split at h <;> first | exact h | exact absurd rfl hk | trivial) rfl rfl) (fun σ10277 h10278 g10279 f10280 g10281 => ?_)
      obtain ⟨P10282, eP10282⟩ : ∃ P9, P9 = (mkP P10263.n0 P10263.n2 P10263.n5 P10263.n7 P10263.m0 P10263.m5 (min 8 P10263.w7) P10263.w7 P10263.kk P10263.a) := ⟨_, rfl⟩
      rw [← eP10282] at h10278
      have fP10282 : P10282.n0 = P10263.n0 ∧ P10282.n2 = P10263.n2 ∧ P10282.n5 = P10263.n5 ∧ P10282.n7 = P10263.n7 ∧ P10282.m0 = P10263.m0 ∧ P10282.m5 = P10263.m5 ∧ P10282.w2 = min 8 P10263.w7 ∧ P10282.w7 = P10263.w7 ∧ P10282.kk = P10263.kk ∧ P10282.a = P10263.a := by rw [eP10282]; exact ⟨rfl, rfl, rfl, rfl, rfl, rfl, rfl, rfl, rfl, rfl⟩
      refine m_iinc F (v := 8) (lv' := [(1, .int 8), (0, .ref c)]) e_X10_takeText_246 rfl (by decide) (by decide) rfl ?_
      refine m_goto F e_X10_takeText_249 ?_
      refine m_iload_n F rfl e_X10_takeText_210 ?_
      refine m_bipush F (v := 8) (by decide) e_X10_takeText_211 ?_
      refine m_icmp_ge F e_X10_takeText_213 (fun _ => ?_) (fun q => absurd (by decide) q)
      have oP10283 : OKP P10282 := by unfold OKP; omega
      exact m_vret F hQ e_X10_takeText_252 (⟨P10282, oP10283, (by unfold RT; omega), h10278, rfl⟩)
    · have c183 : i < 192 := by have hh := mt (nI_leI (a := 192) (b := i) (by omega) (by omega)).mpr q183; omega
      refine m_aload_n F rfl e_X10_takeText_186 ?_
      refine r_get F e_X10_takeText_187 fl_X10_37 h1 rfl (fun v hv f10284 => ?_)
      obtain rfl : v = .ref (c + 10) := hv
      refine m_iload_n F rfl e_X10_takeText_190 ?_
      refine m_aload_n F rfl e_X10_takeText_191 ?_
      refine r_getC F e_X10_takeText_192 fl_X10_37 h1 (f10284) ?_
      refine m_sipush F (v := 192) (by decide) e_X10_takeText_195 ?_
      refine m_iload_n F rfl e_X10_takeText_198 ?_
      refine m_iadd F e_X10_takeText_199 ?_
      refine Wm.topE (w := nI (192 + i)) (nI_add 192 i) ?_
      refine r_iald F (len := 384) (j := 192 + i) e_X10_takeText_200 h1 (fun _ h => h) (by decide) (nI_clamp (by omega)) (vp_in_nI (by omega) (by decide)) (fun x10285 h10286 f10287 => ?_)
      refine r_iast F (g' := (⟨T, Z, u, h, P1, L⟩ : RG)) (len := 384) (j := i) e_X10_takeText_201 h1 (fun _ h => h) (fun f h => ⟨f, rfl, h⟩) (by decide) (by decide) (nI_clamp (by omega)) (vp_in_nI (by omega) (by decide)) trivial (fun _ _ _ h => h) (fun _ _ _ h => h) (fun σ10288 h10289 g10290 f10291 g10292 => ?_)
      refine m_iinc F (v := nI (i + 1)) (lv' := [(1, .int (nI (i + 1))), (0, .ref c)]) e_X10_takeText_202 rfl (nI_add i 1) (by decide) rfl ?_
      refine m_goto F e_X10_takeText_205 ?_
      refine Wm.lvsub (lv' := [(0, .ref c), (1, .int (nI (i + 1)))]) ?_ [1, 0] rfl
      exact ih (i + 1) P1 _ h10289 hP1 (by unfold RT3; omega) (by omega) (by omega)
set_option maxRecDepth 20000 in
theorem q_X10_takeText (l : Launch) (V : VX) (c T Z u h : Nat) (P : NP) (L : Nat → LQ) (N : Nat) (σ : Mem)  (h0 : HR V c ⟨T, Z, u, h, P, L⟩ σ) (hob : OKB L) (hP : OKP P)  : Ct l V yX10_takeText cX10_takeText 2 none 1 0 0 N σ [.ref c] (fun r τ => ∃ P9 : NP, OKP P9 ∧ RT P P9 ∧ HS V c (⟨T, Z, u, h, P9, L⟩ : RG) [0, 1, 2, 17, 18, 19, 20, 21, 22, 23] σ τ ∧ r = none) := by
  refine Ct.of (by decide) (Nat.le_of_ble_eq_true rfl) [(0, .ref c)] rfl (fun X hX F hQ => ?_)
  have hPP := hP
  unfold OKP at hPP
  have h1 : HS V c ⟨T, Z, u, h, P, L⟩ [0, 1, 2, 17, 18, 19, 20, 21, 22, 23] σ σ := HS.start h0
  have h2 : HS V c (⟨T, Z, u, h, (mkP P.n0 P.n2 P.n5 P.n7 0 P.m5 0 P.w7 P.kk P.a), L⟩ : RG) [0, 1, 2, 17, 18, 19, 20, 21, 22, 23] σ σ := HS.start (HR.forget h0)
  obtain ⟨P10293, eP10293⟩ : ∃ P9, P9 = (mkP P.n0 P.n2 P.n5 P.n7 0 P.m5 0 P.w7 P.kk P.a) := ⟨_, rfl⟩
  rw [← eP10293] at h2
  have fP10293 : P10293.n0 = P.n0 ∧ P10293.n2 = P.n2 ∧ P10293.n5 = P.n5 ∧ P10293.n7 = P.n7 ∧ P10293.m0 = 0 ∧ P10293.m5 = P.m5 ∧ P10293.w2 = 0 ∧ P10293.w7 = P.w7 ∧ P10293.kk = P.kk ∧ P10293.a = P.a := by rw [eP10293]; exact ⟨rfl, rfl, rfl, rfl, rfl, rfl, rfl, rfl, rfl, rfl⟩
  refine m_iconst F (v := 0) (by decide) e_X10_takeText_0 ?_
  refine m_istore_n F (lv' := [(1, .int 0), (0, .ref c)]) e_X10_takeText_1 (by decide) rfl ?_
  refine m_iload_n F rfl e_X10_takeText_2 ?_
  refine m_iconst F (v := 5) (by decide) e_X10_takeText_3 ?_
  refine m_icmp_ge F e_X10_takeText_4 (fun q => absurd q (by decide)) (fun _ => ?_)
  refine m_aload_n F rfl e_X10_takeText_7 ?_
  refine r_get F e_X10_takeText_8 fl_X10_13 h2 rfl (fun v hv f10294 => ?_)
  obtain rfl : v = .ref (c + 2) := hv
  refine m_iload_n F rfl e_X10_takeText_11 ?_
  refine m_aload_n F rfl e_X10_takeText_12 ?_
  refine m_iload_n F rfl e_X10_takeText_13 ?_
  have oP10298 : OKP P10293 := by unfold OKP; omega
  refine r_callV F e_X10_takeText_14 (q_X10_reading0 (x_l X) V c T Z u h P10293 L _ _  h2.1 (hob) oP10298 ) cb_X10_reading ml_X10_157 im_X10_reading se_X10_reading h2 rfl rfl (rest := [.int 0, .ref (c + 2)]) rfl (Nat.le_of_ble_eq_true rfl) ⟨Nat.le_of_ble_eq_true rfl, Nat.le_of_ble_eq_true rfl⟩ ⟨Nat.le_of_ble_eq_true rfl, Nat.le_of_ble_eq_true rfl⟩ (fun r σ10295 hp => ?_)
  obtain ⟨h10296, rfl⟩ := hp
  have h10297 := HS.trans h2 h10296 (by decide)
  refine r_iast F (g' := (⟨T, Z, u, h, (mkP P10293.n5 P10293.n2 P10293.n5 P10293.n7 P10293.m0 P10293.m5 P10293.w2 P10293.w7 P10293.kk P10293.a), L⟩ : RG)) (len := 10) (j := 0) e_X10_takeText_17 h10297 (fun _ h => h) (fun f h => ⟨f, rfl, h⟩) (by decide) (by decide) (by decide) (by unfold vp_in; decide) (by refine ⟨?_, ?_, ?_, ?_, ?_, ?_⟩ <;> intro e <;> first | exact absurd e (by decide) | rfl | exact ⟨_, by omega, rfl⟩) (fun i hi y hy => ⟨fun e => absurd e hi, hy.2.1, hy.2.2.1, hy.2.2.2.1, hy.2.2.2.2.1, hy.2.2.2.2.2⟩) (CR.chg (by intro k hk i x h; unfold EI at h ⊢; split at h <;> first | exact h | exact absurd rfl hk | trivial) rfl rfl) (fun σ10299 h10300 g10301 f10302 g10303 => ?_)
  obtain ⟨P10304, eP10304⟩ : ∃ P9, P9 = (mkP P10293.n5 P10293.n2 P10293.n5 P10293.n7 P10293.m0 P10293.m5 P10293.w2 P10293.w7 P10293.kk P10293.a) := ⟨_, rfl⟩
  rw [← eP10304] at h10300
  have fP10304 : P10304.n0 = P10293.n5 ∧ P10304.n2 = P10293.n2 ∧ P10304.n5 = P10293.n5 ∧ P10304.n7 = P10293.n7 ∧ P10304.m0 = P10293.m0 ∧ P10304.m5 = P10293.m5 ∧ P10304.w2 = P10293.w2 ∧ P10304.w7 = P10293.w7 ∧ P10304.kk = P10293.kk ∧ P10304.a = P10293.a := by rw [eP10304]; exact ⟨rfl, rfl, rfl, rfl, rfl, rfl, rfl, rfl, rfl, rfl⟩
  refine m_iinc F (v := 1) (lv' := [(1, .int 1), (0, .ref c)]) e_X10_takeText_18 rfl (by decide) (by decide) rfl ?_
  refine m_goto F e_X10_takeText_21 ?_
  refine m_iload_n F rfl e_X10_takeText_2 ?_
  refine m_iconst F (v := 5) (by decide) e_X10_takeText_3 ?_
  refine m_icmp_ge F e_X10_takeText_4 (fun q => absurd q (by decide)) (fun _ => ?_)
  refine m_aload_n F rfl e_X10_takeText_7 ?_
  refine r_getC F e_X10_takeText_8 fl_X10_13 h10300 ((fld_eq (g10301 _ (by omega))).trans ((fld_eq (h10296.2 c (by rw [show kC c c = 1 from kC_at (k := 0) (by decide)]; decide))).trans f10294)) ?_
  refine m_iload_n F rfl e_X10_takeText_11 ?_
  refine m_aload_n F rfl e_X10_takeText_12 ?_
  refine m_iload_n F rfl e_X10_takeText_13 ?_
  have oP10308 : OKP P10304 := by unfold OKP; omega
  refine r_callV F e_X10_takeText_14 (q_X10_reading1 (x_l X) V c T Z u h P10304 L _ _  h10300.1 (hob) oP10308 ) cb_X10_reading ml_X10_157 im_X10_reading se_X10_reading h10300 rfl rfl (rest := [.int 1, .ref (c + 2)]) rfl (Nat.le_of_ble_eq_true rfl) ⟨Nat.le_of_ble_eq_true rfl, Nat.le_of_ble_eq_true rfl⟩ ⟨Nat.le_of_ble_eq_true rfl, Nat.le_of_ble_eq_true rfl⟩ (fun r σ10305 hp => ?_)
  obtain ⟨h10306, x10309, rfl⟩ := hp
  have h10307 := HS.trans h10300 h10306 (by decide)
  refine r_iast F (g' := (⟨T, Z, u, h, P10304, L⟩ : RG)) (len := 10) (j := 1) e_X10_takeText_17 h10307 (fun _ h => h) (fun f h => ⟨f, rfl, h⟩) (by decide) (by decide) (by decide) (by unfold vp_in; decide) (by refine ⟨?_, ?_, ?_, ?_, ?_, ?_⟩ <;> intro e <;> first | exact absurd e (by decide) | rfl | exact ⟨_, by omega, rfl⟩) (fun _ _ _ h => h) (fun _ _ _ h => h) (fun σ10310 h10311 g10312 f10313 g10314 => ?_)
  refine m_iinc F (v := 2) (lv' := [(1, .int 2), (0, .ref c)]) e_X10_takeText_18 rfl (by decide) (by decide) rfl ?_
  refine m_goto F e_X10_takeText_21 ?_
  refine m_iload_n F rfl e_X10_takeText_2 ?_
  refine m_iconst F (v := 5) (by decide) e_X10_takeText_3 ?_
  refine m_icmp_ge F e_X10_takeText_4 (fun q => absurd q (by decide)) (fun _ => ?_)
  refine m_aload_n F rfl e_X10_takeText_7 ?_
  refine r_getC F e_X10_takeText_8 fl_X10_13 h10311 ((fld_eq (g10312 _ (by omega))).trans ((fld_eq (h10306.2 c (by rw [show kC c c = 1 from kC_at (k := 0) (by decide)]; decide))).trans ((fld_eq (g10301 _ (by omega))).trans ((fld_eq (h10296.2 c (by rw [show kC c c = 1 from kC_at (k := 0) (by decide)]; decide))).trans f10294)))) ?_
  refine m_iload_n F rfl e_X10_takeText_11 ?_
  refine m_aload_n F rfl e_X10_takeText_12 ?_
  refine m_iload_n F rfl e_X10_takeText_13 ?_
  refine r_callV F e_X10_takeText_14 (q_X10_reading2 (x_l X) V c T Z u h P10304 L _ _  h10311.1 (hob) oP10308 ) cb_X10_reading ml_X10_157 im_X10_reading se_X10_reading h10311 rfl rfl (rest := [.int 2, .ref (c + 2)]) rfl (Nat.le_of_ble_eq_true rfl) ⟨Nat.le_of_ble_eq_true rfl, Nat.le_of_ble_eq_true rfl⟩ ⟨Nat.le_of_ble_eq_true rfl, Nat.le_of_ble_eq_true rfl⟩ (fun r σ10315 hp => ?_)
  obtain ⟨h10316, rfl⟩ := hp
  have h10317 := HS.trans h10311 h10316 (by decide)
  refine r_iast F (g' := (⟨T, Z, u, h, (mkP P10304.n0 P10304.n7 P10304.n5 P10304.n7 P10304.m0 P10304.m5 P10304.w2 P10304.w7 P10304.kk P10304.a), L⟩ : RG)) (len := 10) (j := 2) e_X10_takeText_17 h10317 (fun _ h => h) (fun f h => ⟨f, rfl, h⟩) (by decide) (by decide) (by decide) (by unfold vp_in; decide) (by refine ⟨?_, ?_, ?_, ?_, ?_, ?_⟩ <;> intro e <;> first | exact absurd e (by decide) | rfl | exact ⟨_, by omega, rfl⟩) (fun i hi y hy => ⟨hy.1, fun e => absurd e hi, hy.2.2.1, hy.2.2.2.1, hy.2.2.2.2.1, hy.2.2.2.2.2⟩) (CR.chg (by intro k hk i x h; unfold EI at h ⊢; split at h <;> first | exact h | exact absurd rfl hk | trivial) rfl rfl) (fun σ10318 h10319 g10320 f10321 g10322 => ?_)
  obtain ⟨P10323, eP10323⟩ : ∃ P9, P9 = (mkP P10304.n0 P10304.n7 P10304.n5 P10304.n7 P10304.m0 P10304.m5 P10304.w2 P10304.w7 P10304.kk P10304.a) := ⟨_, rfl⟩
  rw [← eP10323] at h10319
  have fP10323 : P10323.n0 = P10304.n0 ∧ P10323.n2 = P10304.n7 ∧ P10323.n5 = P10304.n5 ∧ P10323.n7 = P10304.n7 ∧ P10323.m0 = P10304.m0 ∧ P10323.m5 = P10304.m5 ∧ P10323.w2 = P10304.w2 ∧ P10323.w7 = P10304.w7 ∧ P10323.kk = P10304.kk ∧ P10323.a = P10304.a := by rw [eP10323]; exact ⟨rfl, rfl, rfl, rfl, rfl, rfl, rfl, rfl, rfl, rfl⟩
  refine m_iinc F (v := 3) (lv' := [(1, .int 3), (0, .ref c)]) e_X10_takeText_18 rfl (by decide) (by decide) rfl ?_
  refine m_goto F e_X10_takeText_21 ?_
  refine m_iload_n F rfl e_X10_takeText_2 ?_
  refine m_iconst F (v := 5) (by decide) e_X10_takeText_3 ?_
  refine m_icmp_ge F e_X10_takeText_4 (fun q => absurd q (by decide)) (fun _ => ?_)
  refine m_aload_n F rfl e_X10_takeText_7 ?_
  refine r_getC F e_X10_takeText_8 fl_X10_13 h10319 ((fld_eq (g10320 _ (by omega))).trans ((fld_eq (h10316.2 c (by rw [show kC c c = 1 from kC_at (k := 0) (by decide)]; decide))).trans ((fld_eq (g10312 _ (by omega))).trans ((fld_eq (h10306.2 c (by rw [show kC c c = 1 from kC_at (k := 0) (by decide)]; decide))).trans ((fld_eq (g10301 _ (by omega))).trans ((fld_eq (h10296.2 c (by rw [show kC c c = 1 from kC_at (k := 0) (by decide)]; decide))).trans f10294)))))) ?_
  refine m_iload_n F rfl e_X10_takeText_11 ?_
  refine m_aload_n F rfl e_X10_takeText_12 ?_
  refine m_iload_n F rfl e_X10_takeText_13 ?_
  have oP10327 : OKP P10323 := by unfold OKP; omega
  refine r_callV F e_X10_takeText_14 (q_X10_reading3 (x_l X) V c T Z u h P10323 L _ _  h10319.1 (hob) oP10327 ) cb_X10_reading ml_X10_157 im_X10_reading se_X10_reading h10319 rfl rfl (rest := [.int 3, .ref (c + 2)]) rfl (Nat.le_of_ble_eq_true rfl) ⟨Nat.le_of_ble_eq_true rfl, Nat.le_of_ble_eq_true rfl⟩ ⟨Nat.le_of_ble_eq_true rfl, Nat.le_of_ble_eq_true rfl⟩ (fun r σ10324 hp => ?_)
  obtain ⟨h10325, n10328, hn10328, f10329, rfl⟩ := hp
  have h10326 := HS.trans h10319 h10325 (by decide)
  refine r_iast F (g' := (⟨T, Z, u, h, P10323, L⟩ : RG)) (len := 10) (j := 3) e_X10_takeText_17 h10326 (fun _ h => h) (fun f h => ⟨f, rfl, h⟩) (by decide) (by decide) (by decide) (by unfold vp_in; decide) (by refine ⟨?_, ?_, ?_, ?_, ?_, ?_⟩ <;> intro e <;> first | exact absurd e (by decide) | rfl | exact ⟨_, by omega, rfl⟩) (fun _ _ _ h => h) (fun _ _ _ h => h) (fun σ10330 h10331 g10332 f10333 g10334 => ?_)
  refine m_iinc F (v := 4) (lv' := [(1, .int 4), (0, .ref c)]) e_X10_takeText_18 rfl (by decide) (by decide) rfl ?_
  refine m_goto F e_X10_takeText_21 ?_
  refine m_iload_n F rfl e_X10_takeText_2 ?_
  refine m_iconst F (v := 5) (by decide) e_X10_takeText_3 ?_
  refine m_icmp_ge F e_X10_takeText_4 (fun q => absurd q (by decide)) (fun _ => ?_)
  refine m_aload_n F rfl e_X10_takeText_7 ?_
  refine r_getC F e_X10_takeText_8 fl_X10_13 h10331 ((fld_eq (g10332 _ (by omega))).trans ((fld_eq (h10325.2 c (by rw [show kC c c = 1 from kC_at (k := 0) (by decide)]; decide))).trans ((fld_eq (g10320 _ (by omega))).trans ((fld_eq (h10316.2 c (by rw [show kC c c = 1 from kC_at (k := 0) (by decide)]; decide))).trans ((fld_eq (g10312 _ (by omega))).trans ((fld_eq (h10306.2 c (by rw [show kC c c = 1 from kC_at (k := 0) (by decide)]; decide))).trans ((fld_eq (g10301 _ (by omega))).trans ((fld_eq (h10296.2 c (by rw [show kC c c = 1 from kC_at (k := 0) (by decide)]; decide))).trans f10294)))))))) ?_
  refine m_iload_n F rfl e_X10_takeText_11 ?_
  refine m_aload_n F rfl e_X10_takeText_12 ?_
  refine m_iload_n F rfl e_X10_takeText_13 ?_
  refine r_callV F e_X10_takeText_14 (q_X10_reading4 (x_l X) V c T Z u h P10323 L _ _  h10331.1 (hob) oP10327 ) cb_X10_reading ml_X10_157 im_X10_reading se_X10_reading h10331 rfl rfl (rest := [.int 4, .ref (c + 2)]) rfl (Nat.le_of_ble_eq_true rfl) ⟨Nat.le_of_ble_eq_true rfl, Nat.le_of_ble_eq_true rfl⟩ ⟨Nat.le_of_ble_eq_true rfl, Nat.le_of_ble_eq_true rfl⟩ (fun r σ10335 hp => ?_)
  obtain ⟨h10336, x10338, rfl⟩ := hp
  have h10337 := HS.trans h10331 h10336 (by decide)
  refine r_iast F (g' := (⟨T, Z, u, h, P10323, L⟩ : RG)) (len := 10) (j := 4) e_X10_takeText_17 h10337 (fun _ h => h) (fun f h => ⟨f, rfl, h⟩) (by decide) (by decide) (by decide) (by unfold vp_in; decide) (by refine ⟨?_, ?_, ?_, ?_, ?_, ?_⟩ <;> intro e <;> first | exact absurd e (by decide) | rfl | exact ⟨_, by omega, rfl⟩) (fun _ _ _ h => h) (fun _ _ _ h => h) (fun σ10339 h10340 g10341 f10342 g10343 => ?_)
  refine m_iinc F (v := 5) (lv' := [(1, .int 5), (0, .ref c)]) e_X10_takeText_18 rfl (by decide) (by decide) rfl ?_
  refine m_goto F e_X10_takeText_21 ?_
  refine m_iload_n F rfl e_X10_takeText_2 ?_
  refine m_iconst F (v := 5) (by decide) e_X10_takeText_3 ?_
  refine m_icmp_ge F e_X10_takeText_4 (fun _ => ?_) (fun q => absurd (by decide) q)
  refine m_iconst F (v := 0) (by decide) e_X10_takeText_24 ?_
  refine m_istore_n F (lv' := [(1, .int 0), (0, .ref c)]) e_X10_takeText_25 (by decide) rfl ?_
  refine m_iload_n F rfl e_X10_takeText_26 ?_
  refine m_iconst F (v := 4) (by decide) e_X10_takeText_27 ?_
  refine m_icmp_ge F e_X10_takeText_28 (fun q => absurd q (by decide)) (fun _ => ?_)
  refine m_aload_n F rfl e_X10_takeText_31 ?_
  refine r_get F e_X10_takeText_32 fl_X10_16 h10340 rfl (fun v hv f10344 => ?_)
  obtain rfl : v = .ref (c + 3) := hv
  refine m_iload_n F rfl e_X10_takeText_35 ?_
  refine m_aload_n F rfl e_X10_takeText_36 ?_
  refine r_getC F e_X10_takeText_37 fl_X10_16 h10340 (f10344) ?_
  refine m_iconst F (v := 4) (by decide) e_X10_takeText_40 ?_
  refine m_iload_n F rfl e_X10_takeText_41 ?_
  refine m_iadd F e_X10_takeText_42 ?_
  refine Wm.topE (w := 4) (by decide) ?_
  refine r_iald F (len := 8) (j := 4) e_X10_takeText_43 h10340 (fun _ h => h) (by decide) (by decide) (by unfold vp_in; decide) (fun x10345 h10346 f10347 => ?_)
  refine r_iast F (g' := (⟨T, Z, u, h, P10323, L⟩ : RG)) (len := 8) (j := 0) e_X10_takeText_44 h10340 (fun _ h => h) (fun f h => ⟨f, rfl, h⟩) (by decide) (by decide) (by decide) (by unfold vp_in; decide) trivial (fun _ _ _ h => h) (fun _ _ _ h => h) (fun σ10348 h10349 g10350 f10351 g10352 => ?_)
  refine m_aload_n F rfl e_X10_takeText_45 ?_
  refine r_get F e_X10_takeText_46 fl_X10_19 h10349 rfl (fun v hv f10353 => ?_)
  obtain rfl : v = .ref (c + 4) := hv
  refine m_iload_n F rfl e_X10_takeText_49 ?_
  refine m_aload_n F rfl e_X10_takeText_50 ?_
  refine r_getC F e_X10_takeText_51 fl_X10_19 h10349 (f10353) ?_
  refine m_iconst F (v := 4) (by decide) e_X10_takeText_54 ?_
  refine m_iload_n F rfl e_X10_takeText_55 ?_
  refine m_iadd F e_X10_takeText_56 ?_
  refine Wm.topE (w := 4) (by decide) ?_
  refine r_iald F (len := 8) (j := 4) e_X10_takeText_57 h10349 (fun _ h => h) (by decide) (by decide) (by unfold vp_in; decide) (fun x10354 h10355 f10356 => ?_)
  refine r_iast F (g' := (⟨T, Z, u, h, P10323, L⟩ : RG)) (len := 8) (j := 0) e_X10_takeText_58 h10349 (fun _ h => h) (fun f h => ⟨f, rfl, h⟩) (by decide) (by decide) (by decide) (by unfold vp_in; decide) trivial (fun _ _ _ h => h) (fun _ _ _ h => h) (fun σ10357 h10358 g10359 f10360 g10361 => ?_)
  refine m_aload_n F rfl e_X10_takeText_59 ?_
  refine r_get F e_X10_takeText_60 fl_X10_22 h10358 rfl (fun v hv f10362 => ?_)
  obtain rfl : v = .ref (c + 5) := hv
  refine m_iload_n F rfl e_X10_takeText_63 ?_
  refine m_aload_n F rfl e_X10_takeText_64 ?_
  refine r_getC F e_X10_takeText_65 fl_X10_22 h10358 (f10362) ?_
  refine m_iconst F (v := 4) (by decide) e_X10_takeText_68 ?_
  refine m_iload_n F rfl e_X10_takeText_69 ?_
  refine m_iadd F e_X10_takeText_70 ?_
  refine Wm.topE (w := 4) (by decide) ?_
  refine r_iald F (len := 8) (j := 4) e_X10_takeText_71 h10358 (fun _ h => h) (by decide) (by decide) (by unfold vp_in; decide) (fun x10363 h10364 f10365 => ?_)
  obtain ⟨n10366, hn10366, rfl, pn10366, rn10366⟩ := h10364
  refine r_iast F (g' := (⟨T, Z, u, h, (mkP P10323.n0 P10323.n2 P10323.n5 P10323.n7 (min 1 P10323.m5) P10323.m5 P10323.w2 P10323.w7 P10323.kk P10323.a), L⟩ : RG)) (len := 8) (j := 0) e_X10_takeText_72 h10358 (fun _ h => h) (fun f h => ⟨f, rfl, h⟩) (by decide) (by decide) (by decide) (by unfold vp_in; decide) ⟨n10366, by omega, rfl, fun _ h8 => rn10366 (by omega) (show 4 < 4 + P10323.m5 by have h6 : 0 < min 1 P10323.m5 := h8; omega), fun h7 _ => absurd h7 (by omega)⟩ (fun i hi y hy => by obtain ⟨n9, a9, b9, c9, d9⟩ := hy; exact ⟨n9, a9, b9, fun h7 h8 => c9 h7 (show i < P10323.m0 by have h6 : i < min 1 P10323.m5 := h8; omega), d9⟩) (CR.chg (by intro k hk i x h; unfold EI at h ⊢; split at h <;> first | exact h | exact absurd rfl hk | trivial) rfl rfl) (fun σ10367 h10368 g10369 f10370 g10371 => ?_)
  obtain ⟨P10372, eP10372⟩ : ∃ P9, P9 = (mkP P10323.n0 P10323.n2 P10323.n5 P10323.n7 (min 1 P10323.m5) P10323.m5 P10323.w2 P10323.w7 P10323.kk P10323.a) := ⟨_, rfl⟩
  rw [← eP10372] at h10368
  have fP10372 : P10372.n0 = P10323.n0 ∧ P10372.n2 = P10323.n2 ∧ P10372.n5 = P10323.n5 ∧ P10372.n7 = P10323.n7 ∧ P10372.m0 = min 1 P10323.m5 ∧ P10372.m5 = P10323.m5 ∧ P10372.w2 = P10323.w2 ∧ P10372.w7 = P10323.w7 ∧ P10372.kk = P10323.kk ∧ P10372.a = P10323.a := by rw [eP10372]; exact ⟨rfl, rfl, rfl, rfl, rfl, rfl, rfl, rfl, rfl, rfl⟩
  refine m_aload_n F rfl e_X10_takeText_73 ?_
  refine r_get F e_X10_takeText_74 fl_X10_25 h10368 rfl (fun v hv f10373 => ?_)
  obtain rfl : v = .ref (c + 6) := hv
  refine m_iload_n F rfl e_X10_takeText_77 ?_
  refine m_aload_n F rfl e_X10_takeText_78 ?_
  refine r_getC F e_X10_takeText_79 fl_X10_25 h10368 (f10373) ?_
  refine m_iconst F (v := 4) (by decide) e_X10_takeText_82 ?_
  refine m_iload_n F rfl e_X10_takeText_83 ?_
  refine m_iadd F e_X10_takeText_84 ?_
  refine Wm.topE (w := 4) (by decide) ?_
  refine r_iald F (len := 8) (j := 4) e_X10_takeText_85 h10368 (fun _ h => h) (by decide) (by decide) (by unfold vp_in; decide) (fun x10374 h10375 f10376 => ?_)
  obtain ⟨n10377, hn10377, rfl⟩ := h10375
  refine r_iast F (g' := (⟨T, Z, u, h, P10372, L⟩ : RG)) (len := 8) (j := 0) e_X10_takeText_86 h10368 (fun _ h => h) (fun f h => ⟨f, rfl, h⟩) (by decide) (by decide) (by decide) (by unfold vp_in; decide) ⟨n10377, by omega, rfl⟩ (fun _ _ _ h => h) (fun _ _ _ h => h) (fun σ10378 h10379 g10380 f10381 g10382 => ?_)
  refine m_aload_n F rfl e_X10_takeText_87 ?_
  refine r_get F e_X10_takeText_88 fl_X10_28 h10379 rfl (fun v hv f10383 => ?_)
  obtain rfl : v = .ref (c + 7) := hv
  refine m_iload_n F rfl e_X10_takeText_91 ?_
  refine m_aload_n F rfl e_X10_takeText_92 ?_
  refine r_getC F e_X10_takeText_93 fl_X10_28 h10379 (f10383) ?_
  refine m_iconst F (v := 4) (by decide) e_X10_takeText_96 ?_
  refine m_iload_n F rfl e_X10_takeText_97 ?_
  refine m_iadd F e_X10_takeText_98 ?_
  refine Wm.topE (w := 4) (by decide) ?_
  refine r_iald F (len := 8) (j := 4) e_X10_takeText_99 h10379 (fun _ h => h) (by decide) (by decide) (by unfold vp_in; decide) (fun x10384 h10385 f10386 => ?_)
  refine r_iast F (g' := (⟨T, Z, u, h, P10372, L⟩ : RG)) (len := 8) (j := 0) e_X10_takeText_100 h10379 (fun _ h => h) (fun f h => ⟨f, rfl, h⟩) (by decide) (by decide) (by decide) (by unfold vp_in; decide) trivial (fun _ _ _ h => h) (fun _ _ _ h => h) (fun σ10387 h10388 g10389 f10390 g10391 => ?_)
  refine m_aload_n F rfl e_X10_takeText_101 ?_
  refine r_get F e_X10_takeText_102 fl_X10_31 h10388 rfl (fun v hv f10392 => ?_)
  obtain rfl : v = .ref (c + 8) := hv
  refine m_iload_n F rfl e_X10_takeText_105 ?_
  refine m_aload_n F rfl e_X10_takeText_106 ?_
  refine r_getC F e_X10_takeText_107 fl_X10_31 h10388 (f10392) ?_
  refine m_iconst F (v := 4) (by decide) e_X10_takeText_110 ?_
  refine m_iload_n F rfl e_X10_takeText_111 ?_
  refine m_iadd F e_X10_takeText_112 ?_
  refine Wm.topE (w := 4) (by decide) ?_
  refine r_iald F (len := 8) (j := 4) e_X10_takeText_113 h10388 (fun _ h => h) (by decide) (by decide) (by unfold vp_in; decide) (fun x10393 h10394 f10395 => ?_)
  refine r_iast F (g' := (⟨T, Z, u, h, P10372, L⟩ : RG)) (len := 8) (j := 0) e_X10_takeText_114 h10388 (fun _ h => h) (fun f h => ⟨f, rfl, h⟩) (by decide) (by decide) (by decide) (by unfold vp_in; decide) trivial (fun _ _ _ h => h) (fun _ _ _ h => h) (fun σ10396 h10397 g10398 f10399 g10400 => ?_)
  refine m_aload_n F rfl e_X10_takeText_115 ?_
  refine r_get F e_X10_takeText_116 fl_X10_34 h10397 rfl (fun v hv f10401 => ?_)
  obtain rfl : v = .ref (c + 9) := hv
  refine m_iload_n F rfl e_X10_takeText_119 ?_
  refine m_aload_n F rfl e_X10_takeText_120 ?_
  refine r_getC F e_X10_takeText_121 fl_X10_34 h10397 (f10401) ?_
  refine m_iconst F (v := 4) (by decide) e_X10_takeText_124 ?_
  refine m_iload_n F rfl e_X10_takeText_125 ?_
  refine m_iadd F e_X10_takeText_126 ?_
  refine Wm.topE (w := 4) (by decide) ?_
  refine r_iald F (len := 8) (j := 4) e_X10_takeText_127 h10397 (fun _ h => h) (by decide) (by decide) (by unfold vp_in; decide) (fun x10402 h10403 f10404 => ?_)
  refine r_iast F (g' := (⟨T, Z, u, h, P10372, L⟩ : RG)) (len := 8) (j := 0) e_X10_takeText_128 h10397 (fun _ h => h) (fun f h => ⟨f, rfl, h⟩) (by decide) (by decide) (by decide) (by unfold vp_in; decide) trivial (fun _ _ _ h => h) (fun _ _ _ h => h) (fun σ10405 h10406 g10407 f10408 g10409 => ?_)
  refine m_aload_n F rfl e_X10_takeText_129 ?_
  refine r_get F e_X10_takeText_130 fl_X10_46 h10406 rfl (fun v hv f10410 => ?_)
  obtain rfl : v = .ref (c + 13) := hv
  refine m_iload_n F rfl e_X10_takeText_133 ?_
  refine m_aload_n F rfl e_X10_takeText_134 ?_
  refine r_getC F e_X10_takeText_135 fl_X10_46 h10406 (f10410) ?_
  refine m_iconst F (v := 4) (by decide) e_X10_takeText_138 ?_
  refine m_iload_n F rfl e_X10_takeText_139 ?_
  refine m_iadd F e_X10_takeText_140 ?_
  refine Wm.topE (w := 4) (by decide) ?_
  refine r_iald F (len := 8) (j := 4) e_X10_takeText_141 h10406 (fun _ h => h) (by decide) (by decide) (by unfold vp_in; decide) (fun x10411 h10412 f10413 => ?_)
  obtain ⟨n10414, hn10414, rfl⟩ := h10412
  refine r_iast F (g' := (⟨T, Z, u, h, P10372, L⟩ : RG)) (len := 8) (j := 0) e_X10_takeText_142 h10406 (fun _ h => h) (fun f h => ⟨f, rfl, h⟩) (by decide) (by decide) (by decide) (by unfold vp_in; decide) ⟨n10414, by omega, rfl⟩ (fun _ _ _ h => h) (fun _ _ _ h => h) (fun σ10415 h10416 g10417 f10418 g10419 => ?_)
  refine m_aload_n F rfl e_X10_takeText_143 ?_
  refine r_get F e_X10_takeText_144 fl_X10_49 h10416 rfl (fun v hv f10420 => ?_)
  obtain rfl : v = .ref (c + 14) := hv
  refine m_iload_n F rfl e_X10_takeText_147 ?_
  refine m_aload_n F rfl e_X10_takeText_148 ?_
  refine r_getC F e_X10_takeText_149 fl_X10_49 h10416 (f10420) ?_
  refine m_iconst F (v := 4) (by decide) e_X10_takeText_152 ?_
  refine m_iload_n F rfl e_X10_takeText_153 ?_
  refine m_iadd F e_X10_takeText_154 ?_
  refine Wm.topE (w := 4) (by decide) ?_
  refine r_iald F (len := 8) (j := 4) e_X10_takeText_155 h10416 (fun _ h => h) (by decide) (by decide) (by unfold vp_in; decide) (fun x10421 h10422 f10423 => ?_)
  obtain ⟨n10424, hn10424, rfl⟩ := h10422
  refine r_iast F (g' := (⟨T, Z, u, h, P10372, L⟩ : RG)) (len := 8) (j := 0) e_X10_takeText_156 h10416 (fun _ h => h) (fun f h => ⟨f, rfl, h⟩) (by decide) (by decide) (by decide) (by unfold vp_in; decide) ⟨n10424, by omega, rfl⟩ (fun _ _ _ h => h) (fun _ _ _ h => h) (fun σ10425 h10426 g10427 f10428 g10429 => ?_)
  refine m_aload_n F rfl e_X10_takeText_157 ?_
  refine r_get F e_X10_takeText_158 fl_X10_52 h10426 rfl (fun v hv f10430 => ?_)
  obtain rfl : v = .ref (c + 15) := hv
  refine m_iload_n F rfl e_X10_takeText_161 ?_
  refine m_aload_n F rfl e_X10_takeText_162 ?_
  refine r_getC F e_X10_takeText_163 fl_X10_52 h10426 (f10430) ?_
  refine m_iconst F (v := 4) (by decide) e_X10_takeText_166 ?_
  refine m_iload_n F rfl e_X10_takeText_167 ?_
  refine m_iadd F e_X10_takeText_168 ?_
  refine Wm.topE (w := 4) (by decide) ?_
  refine r_iald F (len := 8) (j := 4) e_X10_takeText_169 h10426 (fun _ h => h) (by decide) (by decide) (by unfold vp_in; decide) (fun x10431 h10432 f10433 => ?_)
  refine r_iast F (g' := (⟨T, Z, u, h, P10372, L⟩ : RG)) (len := 8) (j := 0) e_X10_takeText_170 h10426 (fun _ h => h) (fun f h => ⟨f, rfl, h⟩) (by decide) (by decide) (by decide) (by unfold vp_in; decide) trivial (fun _ _ _ h => h) (fun _ _ _ h => h) (fun σ10434 h10435 g10436 f10437 g10438 => ?_)
  refine m_iinc F (v := 1) (lv' := [(1, .int 1), (0, .ref c)]) e_X10_takeText_171 rfl (by decide) (by decide) rfl ?_
  refine m_goto F e_X10_takeText_174 ?_
  refine m_iload_n F rfl e_X10_takeText_26 ?_
  refine m_iconst F (v := 4) (by decide) e_X10_takeText_27 ?_
  refine m_icmp_ge F e_X10_takeText_28 (fun q => absurd q (by decide)) (fun _ => ?_)
  refine m_aload_n F rfl e_X10_takeText_31 ?_
  refine r_getC F e_X10_takeText_32 fl_X10_16 h10435 ((fld_eq (g10436 _ (by omega))).trans ((fld_eq (g10427 _ (by omega))).trans ((fld_eq (g10417 _ (by omega))).trans ((fld_eq (g10407 _ (by omega))).trans ((fld_eq (g10398 _ (by omega))).trans ((fld_eq (g10389 _ (by omega))).trans ((fld_eq (g10380 _ (by omega))).trans ((fld_eq (g10369 _ (by omega))).trans ((fld_eq (g10359 _ (by omega))).trans ((fld_eq (g10350 _ (by omega))).trans f10344)))))))))) ?_
  refine m_iload_n F rfl e_X10_takeText_35 ?_
  refine m_aload_n F rfl e_X10_takeText_36 ?_
  refine r_getC F e_X10_takeText_37 fl_X10_16 h10435 ((fld_eq (g10436 _ (by omega))).trans ((fld_eq (g10427 _ (by omega))).trans ((fld_eq (g10417 _ (by omega))).trans ((fld_eq (g10407 _ (by omega))).trans ((fld_eq (g10398 _ (by omega))).trans ((fld_eq (g10389 _ (by omega))).trans ((fld_eq (g10380 _ (by omega))).trans ((fld_eq (g10369 _ (by omega))).trans ((fld_eq (g10359 _ (by omega))).trans ((fld_eq (g10350 _ (by omega))).trans f10344)))))))))) ?_
  refine m_iconst F (v := 4) (by decide) e_X10_takeText_40 ?_
  refine m_iload_n F rfl e_X10_takeText_41 ?_
  refine m_iadd F e_X10_takeText_42 ?_
  refine Wm.topE (w := 5) (by decide) ?_
  refine r_iald F (len := 8) (j := 5) e_X10_takeText_43 h10435 (fun _ h => h) (by decide) (by decide) (by unfold vp_in; decide) (fun x10439 h10440 f10441 => ?_)
  refine r_iast F (g' := (⟨T, Z, u, h, P10372, L⟩ : RG)) (len := 8) (j := 1) e_X10_takeText_44 h10435 (fun _ h => h) (fun f h => ⟨f, rfl, h⟩) (by decide) (by decide) (by decide) (by unfold vp_in; decide) trivial (fun _ _ _ h => h) (fun _ _ _ h => h) (fun σ10442 h10443 g10444 f10445 g10446 => ?_)
  refine m_aload_n F rfl e_X10_takeText_45 ?_
  refine r_getC F e_X10_takeText_46 fl_X10_19 h10443 ((fld_eq (g10444 _ (by omega))).trans ((fld_eq (g10436 _ (by omega))).trans ((fld_eq (g10427 _ (by omega))).trans ((fld_eq (g10417 _ (by omega))).trans ((fld_eq (g10407 _ (by omega))).trans ((fld_eq (g10398 _ (by omega))).trans ((fld_eq (g10389 _ (by omega))).trans ((fld_eq (g10380 _ (by omega))).trans ((fld_eq (g10369 _ (by omega))).trans ((fld_eq (g10359 _ (by omega))).trans f10353)))))))))) ?_
  refine m_iload_n F rfl e_X10_takeText_49 ?_
  refine m_aload_n F rfl e_X10_takeText_50 ?_
  refine r_getC F e_X10_takeText_51 fl_X10_19 h10443 ((fld_eq (g10444 _ (by omega))).trans ((fld_eq (g10436 _ (by omega))).trans ((fld_eq (g10427 _ (by omega))).trans ((fld_eq (g10417 _ (by omega))).trans ((fld_eq (g10407 _ (by omega))).trans ((fld_eq (g10398 _ (by omega))).trans ((fld_eq (g10389 _ (by omega))).trans ((fld_eq (g10380 _ (by omega))).trans ((fld_eq (g10369 _ (by omega))).trans ((fld_eq (g10359 _ (by omega))).trans f10353)))))))))) ?_
  refine m_iconst F (v := 4) (by decide) e_X10_takeText_54 ?_
  refine m_iload_n F rfl e_X10_takeText_55 ?_
  refine m_iadd F e_X10_takeText_56 ?_
  refine Wm.topE (w := 5) (by decide) ?_
  refine r_iald F (len := 8) (j := 5) e_X10_takeText_57 h10443 (fun _ h => h) (by decide) (by decide) (by unfold vp_in; decide) (fun x10447 h10448 f10449 => ?_)
  refine r_iast F (g' := (⟨T, Z, u, h, P10372, L⟩ : RG)) (len := 8) (j := 1) e_X10_takeText_58 h10443 (fun _ h => h) (fun f h => ⟨f, rfl, h⟩) (by decide) (by decide) (by decide) (by unfold vp_in; decide) trivial (fun _ _ _ h => h) (fun _ _ _ h => h) (fun σ10450 h10451 g10452 f10453 g10454 => ?_)
  refine m_aload_n F rfl e_X10_takeText_59 ?_
  refine r_getC F e_X10_takeText_60 fl_X10_22 h10451 ((fld_eq (g10452 _ (by omega))).trans ((fld_eq (g10444 _ (by omega))).trans ((fld_eq (g10436 _ (by omega))).trans ((fld_eq (g10427 _ (by omega))).trans ((fld_eq (g10417 _ (by omega))).trans ((fld_eq (g10407 _ (by omega))).trans ((fld_eq (g10398 _ (by omega))).trans ((fld_eq (g10389 _ (by omega))).trans ((fld_eq (g10380 _ (by omega))).trans ((fld_eq (g10369 _ (by omega))).trans f10362)))))))))) ?_
  refine m_iload_n F rfl e_X10_takeText_63 ?_
  refine m_aload_n F rfl e_X10_takeText_64 ?_
  refine r_getC F e_X10_takeText_65 fl_X10_22 h10451 ((fld_eq (g10452 _ (by omega))).trans ((fld_eq (g10444 _ (by omega))).trans ((fld_eq (g10436 _ (by omega))).trans ((fld_eq (g10427 _ (by omega))).trans ((fld_eq (g10417 _ (by omega))).trans ((fld_eq (g10407 _ (by omega))).trans ((fld_eq (g10398 _ (by omega))).trans ((fld_eq (g10389 _ (by omega))).trans ((fld_eq (g10380 _ (by omega))).trans ((fld_eq (g10369 _ (by omega))).trans f10362)))))))))) ?_
  refine m_iconst F (v := 4) (by decide) e_X10_takeText_68 ?_
  refine m_iload_n F rfl e_X10_takeText_69 ?_
  refine m_iadd F e_X10_takeText_70 ?_
  refine Wm.topE (w := 5) (by decide) ?_
  refine r_iald F (len := 8) (j := 5) e_X10_takeText_71 h10451 (fun _ h => h) (by decide) (by decide) (by unfold vp_in; decide) (fun x10455 h10456 f10457 => ?_)
  obtain ⟨n10458, hn10458, rfl, pn10458, rn10458⟩ := h10456
  refine r_iast F (g' := (⟨T, Z, u, h, (mkP P10372.n0 P10372.n2 P10372.n5 P10372.n7 (min 2 P10372.m5) P10372.m5 P10372.w2 P10372.w7 P10372.kk P10372.a), L⟩ : RG)) (len := 8) (j := 1) e_X10_takeText_72 h10451 (fun _ h => h) (fun f h => ⟨f, rfl, h⟩) (by decide) (by decide) (by decide) (by unfold vp_in; decide) ⟨n10458, by omega, rfl, fun _ h8 => rn10458 (by omega) (show 5 < 4 + P10372.m5 by have h6 : 1 < min 2 P10372.m5 := h8; omega), fun h7 _ => absurd h7 (by omega)⟩ (fun i hi y hy => by obtain ⟨n9, a9, b9, c9, d9⟩ := hy; exact ⟨n9, a9, b9, fun h7 h8 => c9 h7 (show i < P10372.m0 by have h6 : i < min 2 P10372.m5 := h8; omega), d9⟩) (CR.chg (by intro k hk i x h; unfold EI at h ⊢; split at h <;> first | exact h | exact absurd rfl hk | trivial) rfl rfl) (fun σ10459 h10460 g10461 f10462 g10463 => ?_)
  obtain ⟨P10464, eP10464⟩ : ∃ P9, P9 = (mkP P10372.n0 P10372.n2 P10372.n5 P10372.n7 (min 2 P10372.m5) P10372.m5 P10372.w2 P10372.w7 P10372.kk P10372.a) := ⟨_, rfl⟩
  rw [← eP10464] at h10460
  have fP10464 : P10464.n0 = P10372.n0 ∧ P10464.n2 = P10372.n2 ∧ P10464.n5 = P10372.n5 ∧ P10464.n7 = P10372.n7 ∧ P10464.m0 = min 2 P10372.m5 ∧ P10464.m5 = P10372.m5 ∧ P10464.w2 = P10372.w2 ∧ P10464.w7 = P10372.w7 ∧ P10464.kk = P10372.kk ∧ P10464.a = P10372.a := by rw [eP10464]; exact ⟨rfl, rfl, rfl, rfl, rfl, rfl, rfl, rfl, rfl, rfl⟩
  refine m_aload_n F rfl e_X10_takeText_73 ?_
  refine r_getC F e_X10_takeText_74 fl_X10_25 h10460 ((fld_eq (g10461 _ (by omega))).trans ((fld_eq (g10452 _ (by omega))).trans ((fld_eq (g10444 _ (by omega))).trans ((fld_eq (g10436 _ (by omega))).trans ((fld_eq (g10427 _ (by omega))).trans ((fld_eq (g10417 _ (by omega))).trans ((fld_eq (g10407 _ (by omega))).trans ((fld_eq (g10398 _ (by omega))).trans ((fld_eq (g10389 _ (by omega))).trans ((fld_eq (g10380 _ (by omega))).trans f10373)))))))))) ?_
  refine m_iload_n F rfl e_X10_takeText_77 ?_
  refine m_aload_n F rfl e_X10_takeText_78 ?_
  refine r_getC F e_X10_takeText_79 fl_X10_25 h10460 ((fld_eq (g10461 _ (by omega))).trans ((fld_eq (g10452 _ (by omega))).trans ((fld_eq (g10444 _ (by omega))).trans ((fld_eq (g10436 _ (by omega))).trans ((fld_eq (g10427 _ (by omega))).trans ((fld_eq (g10417 _ (by omega))).trans ((fld_eq (g10407 _ (by omega))).trans ((fld_eq (g10398 _ (by omega))).trans ((fld_eq (g10389 _ (by omega))).trans ((fld_eq (g10380 _ (by omega))).trans f10373)))))))))) ?_
  refine m_iconst F (v := 4) (by decide) e_X10_takeText_82 ?_
  refine m_iload_n F rfl e_X10_takeText_83 ?_
  refine m_iadd F e_X10_takeText_84 ?_
  refine Wm.topE (w := 5) (by decide) ?_
  refine r_iald F (len := 8) (j := 5) e_X10_takeText_85 h10460 (fun _ h => h) (by decide) (by decide) (by unfold vp_in; decide) (fun x10465 h10466 f10467 => ?_)
  obtain ⟨n10468, hn10468, rfl⟩ := h10466
  refine r_iast F (g' := (⟨T, Z, u, h, P10464, L⟩ : RG)) (len := 8) (j := 1) e_X10_takeText_86 h10460 (fun _ h => h) (fun f h => ⟨f, rfl, h⟩) (by decide) (by decide) (by decide) (by unfold vp_in; decide) ⟨n10468, by omega, rfl⟩ (fun _ _ _ h => h) (fun _ _ _ h => h) (fun σ10469 h10470 g10471 f10472 g10473 => ?_)
  refine m_aload_n F rfl e_X10_takeText_87 ?_
  refine r_getC F e_X10_takeText_88 fl_X10_28 h10470 ((fld_eq (g10471 _ (by omega))).trans ((fld_eq (g10461 _ (by omega))).trans ((fld_eq (g10452 _ (by omega))).trans ((fld_eq (g10444 _ (by omega))).trans ((fld_eq (g10436 _ (by omega))).trans ((fld_eq (g10427 _ (by omega))).trans ((fld_eq (g10417 _ (by omega))).trans ((fld_eq (g10407 _ (by omega))).trans ((fld_eq (g10398 _ (by omega))).trans ((fld_eq (g10389 _ (by omega))).trans f10383)))))))))) ?_
  refine m_iload_n F rfl e_X10_takeText_91 ?_
  refine m_aload_n F rfl e_X10_takeText_92 ?_
  refine r_getC F e_X10_takeText_93 fl_X10_28 h10470 ((fld_eq (g10471 _ (by omega))).trans ((fld_eq (g10461 _ (by omega))).trans ((fld_eq (g10452 _ (by omega))).trans ((fld_eq (g10444 _ (by omega))).trans ((fld_eq (g10436 _ (by omega))).trans ((fld_eq (g10427 _ (by omega))).trans ((fld_eq (g10417 _ (by omega))).trans ((fld_eq (g10407 _ (by omega))).trans ((fld_eq (g10398 _ (by omega))).trans ((fld_eq (g10389 _ (by omega))).trans f10383)))))))))) ?_
  refine m_iconst F (v := 4) (by decide) e_X10_takeText_96 ?_
  refine m_iload_n F rfl e_X10_takeText_97 ?_
  refine m_iadd F e_X10_takeText_98 ?_
  refine Wm.topE (w := 5) (by decide) ?_
  refine r_iald F (len := 8) (j := 5) e_X10_takeText_99 h10470 (fun _ h => h) (by decide) (by decide) (by unfold vp_in; decide) (fun x10474 h10475 f10476 => ?_)
  refine r_iast F (g' := (⟨T, Z, u, h, P10464, L⟩ : RG)) (len := 8) (j := 1) e_X10_takeText_100 h10470 (fun _ h => h) (fun f h => ⟨f, rfl, h⟩) (by decide) (by decide) (by decide) (by unfold vp_in; decide) trivial (fun _ _ _ h => h) (fun _ _ _ h => h) (fun σ10477 h10478 g10479 f10480 g10481 => ?_)
  refine m_aload_n F rfl e_X10_takeText_101 ?_
  refine r_getC F e_X10_takeText_102 fl_X10_31 h10478 ((fld_eq (g10479 _ (by omega))).trans ((fld_eq (g10471 _ (by omega))).trans ((fld_eq (g10461 _ (by omega))).trans ((fld_eq (g10452 _ (by omega))).trans ((fld_eq (g10444 _ (by omega))).trans ((fld_eq (g10436 _ (by omega))).trans ((fld_eq (g10427 _ (by omega))).trans ((fld_eq (g10417 _ (by omega))).trans ((fld_eq (g10407 _ (by omega))).trans ((fld_eq (g10398 _ (by omega))).trans f10392)))))))))) ?_
  refine m_iload_n F rfl e_X10_takeText_105 ?_
  refine m_aload_n F rfl e_X10_takeText_106 ?_
  refine r_getC F e_X10_takeText_107 fl_X10_31 h10478 ((fld_eq (g10479 _ (by omega))).trans ((fld_eq (g10471 _ (by omega))).trans ((fld_eq (g10461 _ (by omega))).trans ((fld_eq (g10452 _ (by omega))).trans ((fld_eq (g10444 _ (by omega))).trans ((fld_eq (g10436 _ (by omega))).trans ((fld_eq (g10427 _ (by omega))).trans ((fld_eq (g10417 _ (by omega))).trans ((fld_eq (g10407 _ (by omega))).trans ((fld_eq (g10398 _ (by omega))).trans f10392)))))))))) ?_
  refine m_iconst F (v := 4) (by decide) e_X10_takeText_110 ?_
  refine m_iload_n F rfl e_X10_takeText_111 ?_
  refine m_iadd F e_X10_takeText_112 ?_
  refine Wm.topE (w := 5) (by decide) ?_
  refine r_iald F (len := 8) (j := 5) e_X10_takeText_113 h10478 (fun _ h => h) (by decide) (by decide) (by unfold vp_in; decide) (fun x10482 h10483 f10484 => ?_)
  refine r_iast F (g' := (⟨T, Z, u, h, P10464, L⟩ : RG)) (len := 8) (j := 1) e_X10_takeText_114 h10478 (fun _ h => h) (fun f h => ⟨f, rfl, h⟩) (by decide) (by decide) (by decide) (by unfold vp_in; decide) trivial (fun _ _ _ h => h) (fun _ _ _ h => h) (fun σ10485 h10486 g10487 f10488 g10489 => ?_)
  refine m_aload_n F rfl e_X10_takeText_115 ?_
  refine r_getC F e_X10_takeText_116 fl_X10_34 h10486 ((fld_eq (g10487 _ (by omega))).trans ((fld_eq (g10479 _ (by omega))).trans ((fld_eq (g10471 _ (by omega))).trans ((fld_eq (g10461 _ (by omega))).trans ((fld_eq (g10452 _ (by omega))).trans ((fld_eq (g10444 _ (by omega))).trans ((fld_eq (g10436 _ (by omega))).trans ((fld_eq (g10427 _ (by omega))).trans ((fld_eq (g10417 _ (by omega))).trans ((fld_eq (g10407 _ (by omega))).trans f10401)))))))))) ?_
  refine m_iload_n F rfl e_X10_takeText_119 ?_
  refine m_aload_n F rfl e_X10_takeText_120 ?_
  refine r_getC F e_X10_takeText_121 fl_X10_34 h10486 ((fld_eq (g10487 _ (by omega))).trans ((fld_eq (g10479 _ (by omega))).trans ((fld_eq (g10471 _ (by omega))).trans ((fld_eq (g10461 _ (by omega))).trans ((fld_eq (g10452 _ (by omega))).trans ((fld_eq (g10444 _ (by omega))).trans ((fld_eq (g10436 _ (by omega))).trans ((fld_eq (g10427 _ (by omega))).trans ((fld_eq (g10417 _ (by omega))).trans ((fld_eq (g10407 _ (by omega))).trans f10401)))))))))) ?_
  refine m_iconst F (v := 4) (by decide) e_X10_takeText_124 ?_
  refine m_iload_n F rfl e_X10_takeText_125 ?_
  refine m_iadd F e_X10_takeText_126 ?_
  refine Wm.topE (w := 5) (by decide) ?_
  refine r_iald F (len := 8) (j := 5) e_X10_takeText_127 h10486 (fun _ h => h) (by decide) (by decide) (by unfold vp_in; decide) (fun x10490 h10491 f10492 => ?_)
  refine r_iast F (g' := (⟨T, Z, u, h, P10464, L⟩ : RG)) (len := 8) (j := 1) e_X10_takeText_128 h10486 (fun _ h => h) (fun f h => ⟨f, rfl, h⟩) (by decide) (by decide) (by decide) (by unfold vp_in; decide) trivial (fun _ _ _ h => h) (fun _ _ _ h => h) (fun σ10493 h10494 g10495 f10496 g10497 => ?_)
  refine m_aload_n F rfl e_X10_takeText_129 ?_
  refine r_getC F e_X10_takeText_130 fl_X10_46 h10494 ((fld_eq (g10495 _ (by omega))).trans ((fld_eq (g10487 _ (by omega))).trans ((fld_eq (g10479 _ (by omega))).trans ((fld_eq (g10471 _ (by omega))).trans ((fld_eq (g10461 _ (by omega))).trans ((fld_eq (g10452 _ (by omega))).trans ((fld_eq (g10444 _ (by omega))).trans ((fld_eq (g10436 _ (by omega))).trans ((fld_eq (g10427 _ (by omega))).trans ((fld_eq (g10417 _ (by omega))).trans f10410)))))))))) ?_
  refine m_iload_n F rfl e_X10_takeText_133 ?_
  refine m_aload_n F rfl e_X10_takeText_134 ?_
  refine r_getC F e_X10_takeText_135 fl_X10_46 h10494 ((fld_eq (g10495 _ (by omega))).trans ((fld_eq (g10487 _ (by omega))).trans ((fld_eq (g10479 _ (by omega))).trans ((fld_eq (g10471 _ (by omega))).trans ((fld_eq (g10461 _ (by omega))).trans ((fld_eq (g10452 _ (by omega))).trans ((fld_eq (g10444 _ (by omega))).trans ((fld_eq (g10436 _ (by omega))).trans ((fld_eq (g10427 _ (by omega))).trans ((fld_eq (g10417 _ (by omega))).trans f10410)))))))))) ?_
  refine m_iconst F (v := 4) (by decide) e_X10_takeText_138 ?_
  refine m_iload_n F rfl e_X10_takeText_139 ?_
  refine m_iadd F e_X10_takeText_140 ?_
  refine Wm.topE (w := 5) (by decide) ?_
  refine r_iald F (len := 8) (j := 5) e_X10_takeText_141 h10494 (fun _ h => h) (by decide) (by decide) (by unfold vp_in; decide) (fun x10498 h10499 f10500 => ?_)
  obtain ⟨n10501, hn10501, rfl⟩ := h10499
  refine r_iast F (g' := (⟨T, Z, u, h, P10464, L⟩ : RG)) (len := 8) (j := 1) e_X10_takeText_142 h10494 (fun _ h => h) (fun f h => ⟨f, rfl, h⟩) (by decide) (by decide) (by decide) (by unfold vp_in; decide) ⟨n10501, by omega, rfl⟩ (fun _ _ _ h => h) (fun _ _ _ h => h) (fun σ10502 h10503 g10504 f10505 g10506 => ?_)
  refine m_aload_n F rfl e_X10_takeText_143 ?_
  refine r_getC F e_X10_takeText_144 fl_X10_49 h10503 ((fld_eq (g10504 _ (by omega))).trans ((fld_eq (g10495 _ (by omega))).trans ((fld_eq (g10487 _ (by omega))).trans ((fld_eq (g10479 _ (by omega))).trans ((fld_eq (g10471 _ (by omega))).trans ((fld_eq (g10461 _ (by omega))).trans ((fld_eq (g10452 _ (by omega))).trans ((fld_eq (g10444 _ (by omega))).trans ((fld_eq (g10436 _ (by omega))).trans ((fld_eq (g10427 _ (by omega))).trans f10420)))))))))) ?_
  refine m_iload_n F rfl e_X10_takeText_147 ?_
  refine m_aload_n F rfl e_X10_takeText_148 ?_
  refine r_getC F e_X10_takeText_149 fl_X10_49 h10503 ((fld_eq (g10504 _ (by omega))).trans ((fld_eq (g10495 _ (by omega))).trans ((fld_eq (g10487 _ (by omega))).trans ((fld_eq (g10479 _ (by omega))).trans ((fld_eq (g10471 _ (by omega))).trans ((fld_eq (g10461 _ (by omega))).trans ((fld_eq (g10452 _ (by omega))).trans ((fld_eq (g10444 _ (by omega))).trans ((fld_eq (g10436 _ (by omega))).trans ((fld_eq (g10427 _ (by omega))).trans f10420)))))))))) ?_
  refine m_iconst F (v := 4) (by decide) e_X10_takeText_152 ?_
  refine m_iload_n F rfl e_X10_takeText_153 ?_
  refine m_iadd F e_X10_takeText_154 ?_
  refine Wm.topE (w := 5) (by decide) ?_
  refine r_iald F (len := 8) (j := 5) e_X10_takeText_155 h10503 (fun _ h => h) (by decide) (by decide) (by unfold vp_in; decide) (fun x10507 h10508 f10509 => ?_)
  obtain ⟨n10510, hn10510, rfl⟩ := h10508
  refine r_iast F (g' := (⟨T, Z, u, h, P10464, L⟩ : RG)) (len := 8) (j := 1) e_X10_takeText_156 h10503 (fun _ h => h) (fun f h => ⟨f, rfl, h⟩) (by decide) (by decide) (by decide) (by unfold vp_in; decide) ⟨n10510, by omega, rfl⟩ (fun _ _ _ h => h) (fun _ _ _ h => h) (fun σ10511 h10512 g10513 f10514 g10515 => ?_)
  refine m_aload_n F rfl e_X10_takeText_157 ?_
  refine r_getC F e_X10_takeText_158 fl_X10_52 h10512 ((fld_eq (g10513 _ (by omega))).trans ((fld_eq (g10504 _ (by omega))).trans ((fld_eq (g10495 _ (by omega))).trans ((fld_eq (g10487 _ (by omega))).trans ((fld_eq (g10479 _ (by omega))).trans ((fld_eq (g10471 _ (by omega))).trans ((fld_eq (g10461 _ (by omega))).trans ((fld_eq (g10452 _ (by omega))).trans ((fld_eq (g10444 _ (by omega))).trans ((fld_eq (g10436 _ (by omega))).trans f10430)))))))))) ?_
  refine m_iload_n F rfl e_X10_takeText_161 ?_
  refine m_aload_n F rfl e_X10_takeText_162 ?_
  refine r_getC F e_X10_takeText_163 fl_X10_52 h10512 ((fld_eq (g10513 _ (by omega))).trans ((fld_eq (g10504 _ (by omega))).trans ((fld_eq (g10495 _ (by omega))).trans ((fld_eq (g10487 _ (by omega))).trans ((fld_eq (g10479 _ (by omega))).trans ((fld_eq (g10471 _ (by omega))).trans ((fld_eq (g10461 _ (by omega))).trans ((fld_eq (g10452 _ (by omega))).trans ((fld_eq (g10444 _ (by omega))).trans ((fld_eq (g10436 _ (by omega))).trans f10430)))))))))) ?_
  refine m_iconst F (v := 4) (by decide) e_X10_takeText_166 ?_
  refine m_iload_n F rfl e_X10_takeText_167 ?_
  refine m_iadd F e_X10_takeText_168 ?_
  refine Wm.topE (w := 5) (by decide) ?_
  refine r_iald F (len := 8) (j := 5) e_X10_takeText_169 h10512 (fun _ h => h) (by decide) (by decide) (by unfold vp_in; decide) (fun x10516 h10517 f10518 => ?_)
  refine r_iast F (g' := (⟨T, Z, u, h, P10464, L⟩ : RG)) (len := 8) (j := 1) e_X10_takeText_170 h10512 (fun _ h => h) (fun f h => ⟨f, rfl, h⟩) (by decide) (by decide) (by decide) (by unfold vp_in; decide) trivial (fun _ _ _ h => h) (fun _ _ _ h => h) (fun σ10519 h10520 g10521 f10522 g10523 => ?_)
  refine m_iinc F (v := 2) (lv' := [(1, .int 2), (0, .ref c)]) e_X10_takeText_171 rfl (by decide) (by decide) rfl ?_
  refine m_goto F e_X10_takeText_174 ?_
  refine m_iload_n F rfl e_X10_takeText_26 ?_
  refine m_iconst F (v := 4) (by decide) e_X10_takeText_27 ?_
  refine m_icmp_ge F e_X10_takeText_28 (fun q => absurd q (by decide)) (fun _ => ?_)
  refine m_aload_n F rfl e_X10_takeText_31 ?_
  refine r_getC F e_X10_takeText_32 fl_X10_16 h10520 ((fld_eq (g10521 _ (by omega))).trans ((fld_eq (g10513 _ (by omega))).trans ((fld_eq (g10504 _ (by omega))).trans ((fld_eq (g10495 _ (by omega))).trans ((fld_eq (g10487 _ (by omega))).trans ((fld_eq (g10479 _ (by omega))).trans ((fld_eq (g10471 _ (by omega))).trans ((fld_eq (g10461 _ (by omega))).trans ((fld_eq (g10452 _ (by omega))).trans ((fld_eq (g10444 _ (by omega))).trans ((fld_eq (g10436 _ (by omega))).trans ((fld_eq (g10427 _ (by omega))).trans ((fld_eq (g10417 _ (by omega))).trans ((fld_eq (g10407 _ (by omega))).trans ((fld_eq (g10398 _ (by omega))).trans ((fld_eq (g10389 _ (by omega))).trans ((fld_eq (g10380 _ (by omega))).trans ((fld_eq (g10369 _ (by omega))).trans ((fld_eq (g10359 _ (by omega))).trans ((fld_eq (g10350 _ (by omega))).trans f10344)))))))))))))))))))) ?_
  refine m_iload_n F rfl e_X10_takeText_35 ?_
  refine m_aload_n F rfl e_X10_takeText_36 ?_
  refine r_getC F e_X10_takeText_37 fl_X10_16 h10520 ((fld_eq (g10521 _ (by omega))).trans ((fld_eq (g10513 _ (by omega))).trans ((fld_eq (g10504 _ (by omega))).trans ((fld_eq (g10495 _ (by omega))).trans ((fld_eq (g10487 _ (by omega))).trans ((fld_eq (g10479 _ (by omega))).trans ((fld_eq (g10471 _ (by omega))).trans ((fld_eq (g10461 _ (by omega))).trans ((fld_eq (g10452 _ (by omega))).trans ((fld_eq (g10444 _ (by omega))).trans ((fld_eq (g10436 _ (by omega))).trans ((fld_eq (g10427 _ (by omega))).trans ((fld_eq (g10417 _ (by omega))).trans ((fld_eq (g10407 _ (by omega))).trans ((fld_eq (g10398 _ (by omega))).trans ((fld_eq (g10389 _ (by omega))).trans ((fld_eq (g10380 _ (by omega))).trans ((fld_eq (g10369 _ (by omega))).trans ((fld_eq (g10359 _ (by omega))).trans ((fld_eq (g10350 _ (by omega))).trans f10344)))))))))))))))))))) ?_
  refine m_iconst F (v := 4) (by decide) e_X10_takeText_40 ?_
  refine m_iload_n F rfl e_X10_takeText_41 ?_
  refine m_iadd F e_X10_takeText_42 ?_
  refine Wm.topE (w := 6) (by decide) ?_
  refine r_iald F (len := 8) (j := 6) e_X10_takeText_43 h10520 (fun _ h => h) (by decide) (by decide) (by unfold vp_in; decide) (fun x10524 h10525 f10526 => ?_)
  refine r_iast F (g' := (⟨T, Z, u, h, P10464, L⟩ : RG)) (len := 8) (j := 2) e_X10_takeText_44 h10520 (fun _ h => h) (fun f h => ⟨f, rfl, h⟩) (by decide) (by decide) (by decide) (by unfold vp_in; decide) trivial (fun _ _ _ h => h) (fun _ _ _ h => h) (fun σ10527 h10528 g10529 f10530 g10531 => ?_)
  refine m_aload_n F rfl e_X10_takeText_45 ?_
  refine r_getC F e_X10_takeText_46 fl_X10_19 h10528 ((fld_eq (g10529 _ (by omega))).trans ((fld_eq (g10521 _ (by omega))).trans ((fld_eq (g10513 _ (by omega))).trans ((fld_eq (g10504 _ (by omega))).trans ((fld_eq (g10495 _ (by omega))).trans ((fld_eq (g10487 _ (by omega))).trans ((fld_eq (g10479 _ (by omega))).trans ((fld_eq (g10471 _ (by omega))).trans ((fld_eq (g10461 _ (by omega))).trans ((fld_eq (g10452 _ (by omega))).trans ((fld_eq (g10444 _ (by omega))).trans ((fld_eq (g10436 _ (by omega))).trans ((fld_eq (g10427 _ (by omega))).trans ((fld_eq (g10417 _ (by omega))).trans ((fld_eq (g10407 _ (by omega))).trans ((fld_eq (g10398 _ (by omega))).trans ((fld_eq (g10389 _ (by omega))).trans ((fld_eq (g10380 _ (by omega))).trans ((fld_eq (g10369 _ (by omega))).trans ((fld_eq (g10359 _ (by omega))).trans f10353)))))))))))))))))))) ?_
  refine m_iload_n F rfl e_X10_takeText_49 ?_
  refine m_aload_n F rfl e_X10_takeText_50 ?_
  refine r_getC F e_X10_takeText_51 fl_X10_19 h10528 ((fld_eq (g10529 _ (by omega))).trans ((fld_eq (g10521 _ (by omega))).trans ((fld_eq (g10513 _ (by omega))).trans ((fld_eq (g10504 _ (by omega))).trans ((fld_eq (g10495 _ (by omega))).trans ((fld_eq (g10487 _ (by omega))).trans ((fld_eq (g10479 _ (by omega))).trans ((fld_eq (g10471 _ (by omega))).trans ((fld_eq (g10461 _ (by omega))).trans ((fld_eq (g10452 _ (by omega))).trans ((fld_eq (g10444 _ (by omega))).trans ((fld_eq (g10436 _ (by omega))).trans ((fld_eq (g10427 _ (by omega))).trans ((fld_eq (g10417 _ (by omega))).trans ((fld_eq (g10407 _ (by omega))).trans ((fld_eq (g10398 _ (by omega))).trans ((fld_eq (g10389 _ (by omega))).trans ((fld_eq (g10380 _ (by omega))).trans ((fld_eq (g10369 _ (by omega))).trans ((fld_eq (g10359 _ (by omega))).trans f10353)))))))))))))))))))) ?_
  refine m_iconst F (v := 4) (by decide) e_X10_takeText_54 ?_
  refine m_iload_n F rfl e_X10_takeText_55 ?_
  refine m_iadd F e_X10_takeText_56 ?_
  refine Wm.topE (w := 6) (by decide) ?_
  refine r_iald F (len := 8) (j := 6) e_X10_takeText_57 h10528 (fun _ h => h) (by decide) (by decide) (by unfold vp_in; decide) (fun x10532 h10533 f10534 => ?_)
  refine r_iast F (g' := (⟨T, Z, u, h, P10464, L⟩ : RG)) (len := 8) (j := 2) e_X10_takeText_58 h10528 (fun _ h => h) (fun f h => ⟨f, rfl, h⟩) (by decide) (by decide) (by decide) (by unfold vp_in; decide) trivial (fun _ _ _ h => h) (fun _ _ _ h => h) (fun σ10535 h10536 g10537 f10538 g10539 => ?_)
  refine m_aload_n F rfl e_X10_takeText_59 ?_
  refine r_getC F e_X10_takeText_60 fl_X10_22 h10536 ((fld_eq (g10537 _ (by omega))).trans ((fld_eq (g10529 _ (by omega))).trans ((fld_eq (g10521 _ (by omega))).trans ((fld_eq (g10513 _ (by omega))).trans ((fld_eq (g10504 _ (by omega))).trans ((fld_eq (g10495 _ (by omega))).trans ((fld_eq (g10487 _ (by omega))).trans ((fld_eq (g10479 _ (by omega))).trans ((fld_eq (g10471 _ (by omega))).trans ((fld_eq (g10461 _ (by omega))).trans ((fld_eq (g10452 _ (by omega))).trans ((fld_eq (g10444 _ (by omega))).trans ((fld_eq (g10436 _ (by omega))).trans ((fld_eq (g10427 _ (by omega))).trans ((fld_eq (g10417 _ (by omega))).trans ((fld_eq (g10407 _ (by omega))).trans ((fld_eq (g10398 _ (by omega))).trans ((fld_eq (g10389 _ (by omega))).trans ((fld_eq (g10380 _ (by omega))).trans ((fld_eq (g10369 _ (by omega))).trans f10362)))))))))))))))))))) ?_
  refine m_iload_n F rfl e_X10_takeText_63 ?_
  refine m_aload_n F rfl e_X10_takeText_64 ?_
  refine r_getC F e_X10_takeText_65 fl_X10_22 h10536 ((fld_eq (g10537 _ (by omega))).trans ((fld_eq (g10529 _ (by omega))).trans ((fld_eq (g10521 _ (by omega))).trans ((fld_eq (g10513 _ (by omega))).trans ((fld_eq (g10504 _ (by omega))).trans ((fld_eq (g10495 _ (by omega))).trans ((fld_eq (g10487 _ (by omega))).trans ((fld_eq (g10479 _ (by omega))).trans ((fld_eq (g10471 _ (by omega))).trans ((fld_eq (g10461 _ (by omega))).trans ((fld_eq (g10452 _ (by omega))).trans ((fld_eq (g10444 _ (by omega))).trans ((fld_eq (g10436 _ (by omega))).trans ((fld_eq (g10427 _ (by omega))).trans ((fld_eq (g10417 _ (by omega))).trans ((fld_eq (g10407 _ (by omega))).trans ((fld_eq (g10398 _ (by omega))).trans ((fld_eq (g10389 _ (by omega))).trans ((fld_eq (g10380 _ (by omega))).trans ((fld_eq (g10369 _ (by omega))).trans f10362)))))))))))))))))))) ?_
  refine m_iconst F (v := 4) (by decide) e_X10_takeText_68 ?_
  refine m_iload_n F rfl e_X10_takeText_69 ?_
  refine m_iadd F e_X10_takeText_70 ?_
  refine Wm.topE (w := 6) (by decide) ?_
  refine r_iald F (len := 8) (j := 6) e_X10_takeText_71 h10536 (fun _ h => h) (by decide) (by decide) (by unfold vp_in; decide) (fun x10540 h10541 f10542 => ?_)
  obtain ⟨n10543, hn10543, rfl, pn10543, rn10543⟩ := h10541
  refine r_iast F (g' := (⟨T, Z, u, h, (mkP P10464.n0 P10464.n2 P10464.n5 P10464.n7 (min 3 P10464.m5) P10464.m5 P10464.w2 P10464.w7 P10464.kk P10464.a), L⟩ : RG)) (len := 8) (j := 2) e_X10_takeText_72 h10536 (fun _ h => h) (fun f h => ⟨f, rfl, h⟩) (by decide) (by decide) (by decide) (by unfold vp_in; decide) ⟨n10543, by omega, rfl, fun _ h8 => rn10543 (by omega) (show 6 < 4 + P10464.m5 by have h6 : 2 < min 3 P10464.m5 := h8; omega), fun h7 _ => absurd h7 (by omega)⟩ (fun i hi y hy => by obtain ⟨n9, a9, b9, c9, d9⟩ := hy; exact ⟨n9, a9, b9, fun h7 h8 => c9 h7 (show i < P10464.m0 by have h6 : i < min 3 P10464.m5 := h8; omega), d9⟩) (CR.chg (by intro k hk i x h; unfold EI at h ⊢; split at h <;> first | exact h | exact absurd rfl hk | trivial) rfl rfl) (fun σ10544 h10545 g10546 f10547 g10548 => ?_)
  obtain ⟨P10549, eP10549⟩ : ∃ P9, P9 = (mkP P10464.n0 P10464.n2 P10464.n5 P10464.n7 (min 3 P10464.m5) P10464.m5 P10464.w2 P10464.w7 P10464.kk P10464.a) := ⟨_, rfl⟩
  rw [← eP10549] at h10545
  have fP10549 : P10549.n0 = P10464.n0 ∧ P10549.n2 = P10464.n2 ∧ P10549.n5 = P10464.n5 ∧ P10549.n7 = P10464.n7 ∧ P10549.m0 = min 3 P10464.m5 ∧ P10549.m5 = P10464.m5 ∧ P10549.w2 = P10464.w2 ∧ P10549.w7 = P10464.w7 ∧ P10549.kk = P10464.kk ∧ P10549.a = P10464.a := by rw [eP10549]; exact ⟨rfl, rfl, rfl, rfl, rfl, rfl, rfl, rfl, rfl, rfl⟩
  refine m_aload_n F rfl e_X10_takeText_73 ?_
  refine r_getC F e_X10_takeText_74 fl_X10_25 h10545 ((fld_eq (g10546 _ (by omega))).trans ((fld_eq (g10537 _ (by omega))).trans ((fld_eq (g10529 _ (by omega))).trans ((fld_eq (g10521 _ (by omega))).trans ((fld_eq (g10513 _ (by omega))).trans ((fld_eq (g10504 _ (by omega))).trans ((fld_eq (g10495 _ (by omega))).trans ((fld_eq (g10487 _ (by omega))).trans ((fld_eq (g10479 _ (by omega))).trans ((fld_eq (g10471 _ (by omega))).trans ((fld_eq (g10461 _ (by omega))).trans ((fld_eq (g10452 _ (by omega))).trans ((fld_eq (g10444 _ (by omega))).trans ((fld_eq (g10436 _ (by omega))).trans ((fld_eq (g10427 _ (by omega))).trans ((fld_eq (g10417 _ (by omega))).trans ((fld_eq (g10407 _ (by omega))).trans ((fld_eq (g10398 _ (by omega))).trans ((fld_eq (g10389 _ (by omega))).trans ((fld_eq (g10380 _ (by omega))).trans f10373)))))))))))))))))))) ?_
  refine m_iload_n F rfl e_X10_takeText_77 ?_
  refine m_aload_n F rfl e_X10_takeText_78 ?_
  refine r_getC F e_X10_takeText_79 fl_X10_25 h10545 ((fld_eq (g10546 _ (by omega))).trans ((fld_eq (g10537 _ (by omega))).trans ((fld_eq (g10529 _ (by omega))).trans ((fld_eq (g10521 _ (by omega))).trans ((fld_eq (g10513 _ (by omega))).trans ((fld_eq (g10504 _ (by omega))).trans ((fld_eq (g10495 _ (by omega))).trans ((fld_eq (g10487 _ (by omega))).trans ((fld_eq (g10479 _ (by omega))).trans ((fld_eq (g10471 _ (by omega))).trans ((fld_eq (g10461 _ (by omega))).trans ((fld_eq (g10452 _ (by omega))).trans ((fld_eq (g10444 _ (by omega))).trans ((fld_eq (g10436 _ (by omega))).trans ((fld_eq (g10427 _ (by omega))).trans ((fld_eq (g10417 _ (by omega))).trans ((fld_eq (g10407 _ (by omega))).trans ((fld_eq (g10398 _ (by omega))).trans ((fld_eq (g10389 _ (by omega))).trans ((fld_eq (g10380 _ (by omega))).trans f10373)))))))))))))))))))) ?_
  refine m_iconst F (v := 4) (by decide) e_X10_takeText_82 ?_
  refine m_iload_n F rfl e_X10_takeText_83 ?_
  refine m_iadd F e_X10_takeText_84 ?_
  refine Wm.topE (w := 6) (by decide) ?_
  refine r_iald F (len := 8) (j := 6) e_X10_takeText_85 h10545 (fun _ h => h) (by decide) (by decide) (by unfold vp_in; decide) (fun x10550 h10551 f10552 => ?_)
  obtain ⟨n10553, hn10553, rfl⟩ := h10551
  refine r_iast F (g' := (⟨T, Z, u, h, P10549, L⟩ : RG)) (len := 8) (j := 2) e_X10_takeText_86 h10545 (fun _ h => h) (fun f h => ⟨f, rfl, h⟩) (by decide) (by decide) (by decide) (by unfold vp_in; decide) ⟨n10553, by omega, rfl⟩ (fun _ _ _ h => h) (fun _ _ _ h => h) (fun σ10554 h10555 g10556 f10557 g10558 => ?_)
  refine m_aload_n F rfl e_X10_takeText_87 ?_
  refine r_getC F e_X10_takeText_88 fl_X10_28 h10555 ((fld_eq (g10556 _ (by omega))).trans ((fld_eq (g10546 _ (by omega))).trans ((fld_eq (g10537 _ (by omega))).trans ((fld_eq (g10529 _ (by omega))).trans ((fld_eq (g10521 _ (by omega))).trans ((fld_eq (g10513 _ (by omega))).trans ((fld_eq (g10504 _ (by omega))).trans ((fld_eq (g10495 _ (by omega))).trans ((fld_eq (g10487 _ (by omega))).trans ((fld_eq (g10479 _ (by omega))).trans ((fld_eq (g10471 _ (by omega))).trans ((fld_eq (g10461 _ (by omega))).trans ((fld_eq (g10452 _ (by omega))).trans ((fld_eq (g10444 _ (by omega))).trans ((fld_eq (g10436 _ (by omega))).trans ((fld_eq (g10427 _ (by omega))).trans ((fld_eq (g10417 _ (by omega))).trans ((fld_eq (g10407 _ (by omega))).trans ((fld_eq (g10398 _ (by omega))).trans ((fld_eq (g10389 _ (by omega))).trans f10383)))))))))))))))))))) ?_
  refine m_iload_n F rfl e_X10_takeText_91 ?_
  refine m_aload_n F rfl e_X10_takeText_92 ?_
  refine r_getC F e_X10_takeText_93 fl_X10_28 h10555 ((fld_eq (g10556 _ (by omega))).trans ((fld_eq (g10546 _ (by omega))).trans ((fld_eq (g10537 _ (by omega))).trans ((fld_eq (g10529 _ (by omega))).trans ((fld_eq (g10521 _ (by omega))).trans ((fld_eq (g10513 _ (by omega))).trans ((fld_eq (g10504 _ (by omega))).trans ((fld_eq (g10495 _ (by omega))).trans ((fld_eq (g10487 _ (by omega))).trans ((fld_eq (g10479 _ (by omega))).trans ((fld_eq (g10471 _ (by omega))).trans ((fld_eq (g10461 _ (by omega))).trans ((fld_eq (g10452 _ (by omega))).trans ((fld_eq (g10444 _ (by omega))).trans ((fld_eq (g10436 _ (by omega))).trans ((fld_eq (g10427 _ (by omega))).trans ((fld_eq (g10417 _ (by omega))).trans ((fld_eq (g10407 _ (by omega))).trans ((fld_eq (g10398 _ (by omega))).trans ((fld_eq (g10389 _ (by omega))).trans f10383)))))))))))))))))))) ?_
  refine m_iconst F (v := 4) (by decide) e_X10_takeText_96 ?_
  refine m_iload_n F rfl e_X10_takeText_97 ?_
  refine m_iadd F e_X10_takeText_98 ?_
  refine Wm.topE (w := 6) (by decide) ?_
  refine r_iald F (len := 8) (j := 6) e_X10_takeText_99 h10555 (fun _ h => h) (by decide) (by decide) (by unfold vp_in; decide) (fun x10559 h10560 f10561 => ?_)
  refine r_iast F (g' := (⟨T, Z, u, h, P10549, L⟩ : RG)) (len := 8) (j := 2) e_X10_takeText_100 h10555 (fun _ h => h) (fun f h => ⟨f, rfl, h⟩) (by decide) (by decide) (by decide) (by unfold vp_in; decide) trivial (fun _ _ _ h => h) (fun _ _ _ h => h) (fun σ10562 h10563 g10564 f10565 g10566 => ?_)
  refine m_aload_n F rfl e_X10_takeText_101 ?_
  refine r_getC F e_X10_takeText_102 fl_X10_31 h10563 ((fld_eq (g10564 _ (by omega))).trans ((fld_eq (g10556 _ (by omega))).trans ((fld_eq (g10546 _ (by omega))).trans ((fld_eq (g10537 _ (by omega))).trans ((fld_eq (g10529 _ (by omega))).trans ((fld_eq (g10521 _ (by omega))).trans ((fld_eq (g10513 _ (by omega))).trans ((fld_eq (g10504 _ (by omega))).trans ((fld_eq (g10495 _ (by omega))).trans ((fld_eq (g10487 _ (by omega))).trans ((fld_eq (g10479 _ (by omega))).trans ((fld_eq (g10471 _ (by omega))).trans ((fld_eq (g10461 _ (by omega))).trans ((fld_eq (g10452 _ (by omega))).trans ((fld_eq (g10444 _ (by omega))).trans ((fld_eq (g10436 _ (by omega))).trans ((fld_eq (g10427 _ (by omega))).trans ((fld_eq (g10417 _ (by omega))).trans ((fld_eq (g10407 _ (by omega))).trans ((fld_eq (g10398 _ (by omega))).trans f10392)))))))))))))))))))) ?_
  refine m_iload_n F rfl e_X10_takeText_105 ?_
  refine m_aload_n F rfl e_X10_takeText_106 ?_
  refine r_getC F e_X10_takeText_107 fl_X10_31 h10563 ((fld_eq (g10564 _ (by omega))).trans ((fld_eq (g10556 _ (by omega))).trans ((fld_eq (g10546 _ (by omega))).trans ((fld_eq (g10537 _ (by omega))).trans ((fld_eq (g10529 _ (by omega))).trans ((fld_eq (g10521 _ (by omega))).trans ((fld_eq (g10513 _ (by omega))).trans ((fld_eq (g10504 _ (by omega))).trans ((fld_eq (g10495 _ (by omega))).trans ((fld_eq (g10487 _ (by omega))).trans ((fld_eq (g10479 _ (by omega))).trans ((fld_eq (g10471 _ (by omega))).trans ((fld_eq (g10461 _ (by omega))).trans ((fld_eq (g10452 _ (by omega))).trans ((fld_eq (g10444 _ (by omega))).trans ((fld_eq (g10436 _ (by omega))).trans ((fld_eq (g10427 _ (by omega))).trans ((fld_eq (g10417 _ (by omega))).trans ((fld_eq (g10407 _ (by omega))).trans ((fld_eq (g10398 _ (by omega))).trans f10392)))))))))))))))))))) ?_
  refine m_iconst F (v := 4) (by decide) e_X10_takeText_110 ?_
  refine m_iload_n F rfl e_X10_takeText_111 ?_
  refine m_iadd F e_X10_takeText_112 ?_
  refine Wm.topE (w := 6) (by decide) ?_
  refine r_iald F (len := 8) (j := 6) e_X10_takeText_113 h10563 (fun _ h => h) (by decide) (by decide) (by unfold vp_in; decide) (fun x10567 h10568 f10569 => ?_)
  refine r_iast F (g' := (⟨T, Z, u, h, P10549, L⟩ : RG)) (len := 8) (j := 2) e_X10_takeText_114 h10563 (fun _ h => h) (fun f h => ⟨f, rfl, h⟩) (by decide) (by decide) (by decide) (by unfold vp_in; decide) trivial (fun _ _ _ h => h) (fun _ _ _ h => h) (fun σ10570 h10571 g10572 f10573 g10574 => ?_)
  refine m_aload_n F rfl e_X10_takeText_115 ?_
  refine r_getC F e_X10_takeText_116 fl_X10_34 h10571 ((fld_eq (g10572 _ (by omega))).trans ((fld_eq (g10564 _ (by omega))).trans ((fld_eq (g10556 _ (by omega))).trans ((fld_eq (g10546 _ (by omega))).trans ((fld_eq (g10537 _ (by omega))).trans ((fld_eq (g10529 _ (by omega))).trans ((fld_eq (g10521 _ (by omega))).trans ((fld_eq (g10513 _ (by omega))).trans ((fld_eq (g10504 _ (by omega))).trans ((fld_eq (g10495 _ (by omega))).trans ((fld_eq (g10487 _ (by omega))).trans ((fld_eq (g10479 _ (by omega))).trans ((fld_eq (g10471 _ (by omega))).trans ((fld_eq (g10461 _ (by omega))).trans ((fld_eq (g10452 _ (by omega))).trans ((fld_eq (g10444 _ (by omega))).trans ((fld_eq (g10436 _ (by omega))).trans ((fld_eq (g10427 _ (by omega))).trans ((fld_eq (g10417 _ (by omega))).trans ((fld_eq (g10407 _ (by omega))).trans f10401)))))))))))))))))))) ?_
  refine m_iload_n F rfl e_X10_takeText_119 ?_
  refine m_aload_n F rfl e_X10_takeText_120 ?_
  refine r_getC F e_X10_takeText_121 fl_X10_34 h10571 ((fld_eq (g10572 _ (by omega))).trans ((fld_eq (g10564 _ (by omega))).trans ((fld_eq (g10556 _ (by omega))).trans ((fld_eq (g10546 _ (by omega))).trans ((fld_eq (g10537 _ (by omega))).trans ((fld_eq (g10529 _ (by omega))).trans ((fld_eq (g10521 _ (by omega))).trans ((fld_eq (g10513 _ (by omega))).trans ((fld_eq (g10504 _ (by omega))).trans ((fld_eq (g10495 _ (by omega))).trans ((fld_eq (g10487 _ (by omega))).trans ((fld_eq (g10479 _ (by omega))).trans ((fld_eq (g10471 _ (by omega))).trans ((fld_eq (g10461 _ (by omega))).trans ((fld_eq (g10452 _ (by omega))).trans ((fld_eq (g10444 _ (by omega))).trans ((fld_eq (g10436 _ (by omega))).trans ((fld_eq (g10427 _ (by omega))).trans ((fld_eq (g10417 _ (by omega))).trans ((fld_eq (g10407 _ (by omega))).trans f10401)))))))))))))))))))) ?_
  refine m_iconst F (v := 4) (by decide) e_X10_takeText_124 ?_
  refine m_iload_n F rfl e_X10_takeText_125 ?_
  refine m_iadd F e_X10_takeText_126 ?_
  refine Wm.topE (w := 6) (by decide) ?_
  refine r_iald F (len := 8) (j := 6) e_X10_takeText_127 h10571 (fun _ h => h) (by decide) (by decide) (by unfold vp_in; decide) (fun x10575 h10576 f10577 => ?_)
  refine r_iast F (g' := (⟨T, Z, u, h, P10549, L⟩ : RG)) (len := 8) (j := 2) e_X10_takeText_128 h10571 (fun _ h => h) (fun f h => ⟨f, rfl, h⟩) (by decide) (by decide) (by decide) (by unfold vp_in; decide) trivial (fun _ _ _ h => h) (fun _ _ _ h => h) (fun σ10578 h10579 g10580 f10581 g10582 => ?_)
  refine m_aload_n F rfl e_X10_takeText_129 ?_
  refine r_getC F e_X10_takeText_130 fl_X10_46 h10579 ((fld_eq (g10580 _ (by omega))).trans ((fld_eq (g10572 _ (by omega))).trans ((fld_eq (g10564 _ (by omega))).trans ((fld_eq (g10556 _ (by omega))).trans ((fld_eq (g10546 _ (by omega))).trans ((fld_eq (g10537 _ (by omega))).trans ((fld_eq (g10529 _ (by omega))).trans ((fld_eq (g10521 _ (by omega))).trans ((fld_eq (g10513 _ (by omega))).trans ((fld_eq (g10504 _ (by omega))).trans ((fld_eq (g10495 _ (by omega))).trans ((fld_eq (g10487 _ (by omega))).trans ((fld_eq (g10479 _ (by omega))).trans ((fld_eq (g10471 _ (by omega))).trans ((fld_eq (g10461 _ (by omega))).trans ((fld_eq (g10452 _ (by omega))).trans ((fld_eq (g10444 _ (by omega))).trans ((fld_eq (g10436 _ (by omega))).trans ((fld_eq (g10427 _ (by omega))).trans ((fld_eq (g10417 _ (by omega))).trans f10410)))))))))))))))))))) ?_
  refine m_iload_n F rfl e_X10_takeText_133 ?_
  refine m_aload_n F rfl e_X10_takeText_134 ?_
  refine r_getC F e_X10_takeText_135 fl_X10_46 h10579 ((fld_eq (g10580 _ (by omega))).trans ((fld_eq (g10572 _ (by omega))).trans ((fld_eq (g10564 _ (by omega))).trans ((fld_eq (g10556 _ (by omega))).trans ((fld_eq (g10546 _ (by omega))).trans ((fld_eq (g10537 _ (by omega))).trans ((fld_eq (g10529 _ (by omega))).trans ((fld_eq (g10521 _ (by omega))).trans ((fld_eq (g10513 _ (by omega))).trans ((fld_eq (g10504 _ (by omega))).trans ((fld_eq (g10495 _ (by omega))).trans ((fld_eq (g10487 _ (by omega))).trans ((fld_eq (g10479 _ (by omega))).trans ((fld_eq (g10471 _ (by omega))).trans ((fld_eq (g10461 _ (by omega))).trans ((fld_eq (g10452 _ (by omega))).trans ((fld_eq (g10444 _ (by omega))).trans ((fld_eq (g10436 _ (by omega))).trans ((fld_eq (g10427 _ (by omega))).trans ((fld_eq (g10417 _ (by omega))).trans f10410)))))))))))))))))))) ?_
  refine m_iconst F (v := 4) (by decide) e_X10_takeText_138 ?_
  refine m_iload_n F rfl e_X10_takeText_139 ?_
  refine m_iadd F e_X10_takeText_140 ?_
  refine Wm.topE (w := 6) (by decide) ?_
  refine r_iald F (len := 8) (j := 6) e_X10_takeText_141 h10579 (fun _ h => h) (by decide) (by decide) (by unfold vp_in; decide) (fun x10583 h10584 f10585 => ?_)
  obtain ⟨n10586, hn10586, rfl⟩ := h10584
  refine r_iast F (g' := (⟨T, Z, u, h, P10549, L⟩ : RG)) (len := 8) (j := 2) e_X10_takeText_142 h10579 (fun _ h => h) (fun f h => ⟨f, rfl, h⟩) (by decide) (by decide) (by decide) (by unfold vp_in; decide) ⟨n10586, by omega, rfl⟩ (fun _ _ _ h => h) (fun _ _ _ h => h) (fun σ10587 h10588 g10589 f10590 g10591 => ?_)
  refine m_aload_n F rfl e_X10_takeText_143 ?_
  refine r_getC F e_X10_takeText_144 fl_X10_49 h10588 ((fld_eq (g10589 _ (by omega))).trans ((fld_eq (g10580 _ (by omega))).trans ((fld_eq (g10572 _ (by omega))).trans ((fld_eq (g10564 _ (by omega))).trans ((fld_eq (g10556 _ (by omega))).trans ((fld_eq (g10546 _ (by omega))).trans ((fld_eq (g10537 _ (by omega))).trans ((fld_eq (g10529 _ (by omega))).trans ((fld_eq (g10521 _ (by omega))).trans ((fld_eq (g10513 _ (by omega))).trans ((fld_eq (g10504 _ (by omega))).trans ((fld_eq (g10495 _ (by omega))).trans ((fld_eq (g10487 _ (by omega))).trans ((fld_eq (g10479 _ (by omega))).trans ((fld_eq (g10471 _ (by omega))).trans ((fld_eq (g10461 _ (by omega))).trans ((fld_eq (g10452 _ (by omega))).trans ((fld_eq (g10444 _ (by omega))).trans ((fld_eq (g10436 _ (by omega))).trans ((fld_eq (g10427 _ (by omega))).trans f10420)))))))))))))))))))) ?_
  refine m_iload_n F rfl e_X10_takeText_147 ?_
  refine m_aload_n F rfl e_X10_takeText_148 ?_
  refine r_getC F e_X10_takeText_149 fl_X10_49 h10588 ((fld_eq (g10589 _ (by omega))).trans ((fld_eq (g10580 _ (by omega))).trans ((fld_eq (g10572 _ (by omega))).trans ((fld_eq (g10564 _ (by omega))).trans ((fld_eq (g10556 _ (by omega))).trans ((fld_eq (g10546 _ (by omega))).trans ((fld_eq (g10537 _ (by omega))).trans ((fld_eq (g10529 _ (by omega))).trans ((fld_eq (g10521 _ (by omega))).trans ((fld_eq (g10513 _ (by omega))).trans ((fld_eq (g10504 _ (by omega))).trans ((fld_eq (g10495 _ (by omega))).trans ((fld_eq (g10487 _ (by omega))).trans ((fld_eq (g10479 _ (by omega))).trans ((fld_eq (g10471 _ (by omega))).trans ((fld_eq (g10461 _ (by omega))).trans ((fld_eq (g10452 _ (by omega))).trans ((fld_eq (g10444 _ (by omega))).trans ((fld_eq (g10436 _ (by omega))).trans ((fld_eq (g10427 _ (by omega))).trans f10420)))))))))))))))))))) ?_
  refine m_iconst F (v := 4) (by decide) e_X10_takeText_152 ?_
  refine m_iload_n F rfl e_X10_takeText_153 ?_
  refine m_iadd F e_X10_takeText_154 ?_
  refine Wm.topE (w := 6) (by decide) ?_
  refine r_iald F (len := 8) (j := 6) e_X10_takeText_155 h10588 (fun _ h => h) (by decide) (by decide) (by unfold vp_in; decide) (fun x10592 h10593 f10594 => ?_)
  obtain ⟨n10595, hn10595, rfl⟩ := h10593
  refine r_iast F (g' := (⟨T, Z, u, h, P10549, L⟩ : RG)) (len := 8) (j := 2) e_X10_takeText_156 h10588 (fun _ h => h) (fun f h => ⟨f, rfl, h⟩) (by decide) (by decide) (by decide) (by unfold vp_in; decide) ⟨n10595, by omega, rfl⟩ (fun _ _ _ h => h) (fun _ _ _ h => h) (fun σ10596 h10597 g10598 f10599 g10600 => ?_)
  refine m_aload_n F rfl e_X10_takeText_157 ?_
  refine r_getC F e_X10_takeText_158 fl_X10_52 h10597 ((fld_eq (g10598 _ (by omega))).trans ((fld_eq (g10589 _ (by omega))).trans ((fld_eq (g10580 _ (by omega))).trans ((fld_eq (g10572 _ (by omega))).trans ((fld_eq (g10564 _ (by omega))).trans ((fld_eq (g10556 _ (by omega))).trans ((fld_eq (g10546 _ (by omega))).trans ((fld_eq (g10537 _ (by omega))).trans ((fld_eq (g10529 _ (by omega))).trans ((fld_eq (g10521 _ (by omega))).trans ((fld_eq (g10513 _ (by omega))).trans ((fld_eq (g10504 _ (by omega))).trans ((fld_eq (g10495 _ (by omega))).trans ((fld_eq (g10487 _ (by omega))).trans ((fld_eq (g10479 _ (by omega))).trans ((fld_eq (g10471 _ (by omega))).trans ((fld_eq (g10461 _ (by omega))).trans ((fld_eq (g10452 _ (by omega))).trans ((fld_eq (g10444 _ (by omega))).trans ((fld_eq (g10436 _ (by omega))).trans f10430)))))))))))))))))))) ?_
  refine m_iload_n F rfl e_X10_takeText_161 ?_
  refine m_aload_n F rfl e_X10_takeText_162 ?_
  refine r_getC F e_X10_takeText_163 fl_X10_52 h10597 ((fld_eq (g10598 _ (by omega))).trans ((fld_eq (g10589 _ (by omega))).trans ((fld_eq (g10580 _ (by omega))).trans ((fld_eq (g10572 _ (by omega))).trans ((fld_eq (g10564 _ (by omega))).trans ((fld_eq (g10556 _ (by omega))).trans ((fld_eq (g10546 _ (by omega))).trans ((fld_eq (g10537 _ (by omega))).trans ((fld_eq (g10529 _ (by omega))).trans ((fld_eq (g10521 _ (by omega))).trans ((fld_eq (g10513 _ (by omega))).trans ((fld_eq (g10504 _ (by omega))).trans ((fld_eq (g10495 _ (by omega))).trans ((fld_eq (g10487 _ (by omega))).trans ((fld_eq (g10479 _ (by omega))).trans ((fld_eq (g10471 _ (by omega))).trans ((fld_eq (g10461 _ (by omega))).trans ((fld_eq (g10452 _ (by omega))).trans ((fld_eq (g10444 _ (by omega))).trans ((fld_eq (g10436 _ (by omega))).trans f10430)))))))))))))))))))) ?_
  refine m_iconst F (v := 4) (by decide) e_X10_takeText_166 ?_
  refine m_iload_n F rfl e_X10_takeText_167 ?_
  refine m_iadd F e_X10_takeText_168 ?_
  refine Wm.topE (w := 6) (by decide) ?_
  refine r_iald F (len := 8) (j := 6) e_X10_takeText_169 h10597 (fun _ h => h) (by decide) (by decide) (by unfold vp_in; decide) (fun x10601 h10602 f10603 => ?_)
  refine r_iast F (g' := (⟨T, Z, u, h, P10549, L⟩ : RG)) (len := 8) (j := 2) e_X10_takeText_170 h10597 (fun _ h => h) (fun f h => ⟨f, rfl, h⟩) (by decide) (by decide) (by decide) (by unfold vp_in; decide) trivial (fun _ _ _ h => h) (fun _ _ _ h => h) (fun σ10604 h10605 g10606 f10607 g10608 => ?_)
  refine m_iinc F (v := 3) (lv' := [(1, .int 3), (0, .ref c)]) e_X10_takeText_171 rfl (by decide) (by decide) rfl ?_
  refine m_goto F e_X10_takeText_174 ?_
  refine m_iload_n F rfl e_X10_takeText_26 ?_
  refine m_iconst F (v := 4) (by decide) e_X10_takeText_27 ?_
  refine m_icmp_ge F e_X10_takeText_28 (fun q => absurd q (by decide)) (fun _ => ?_)
  refine m_aload_n F rfl e_X10_takeText_31 ?_
  refine r_getC F e_X10_takeText_32 fl_X10_16 h10605 ((fld_eq (g10606 _ (by omega))).trans ((fld_eq (g10598 _ (by omega))).trans ((fld_eq (g10589 _ (by omega))).trans ((fld_eq (g10580 _ (by omega))).trans ((fld_eq (g10572 _ (by omega))).trans ((fld_eq (g10564 _ (by omega))).trans ((fld_eq (g10556 _ (by omega))).trans ((fld_eq (g10546 _ (by omega))).trans ((fld_eq (g10537 _ (by omega))).trans ((fld_eq (g10529 _ (by omega))).trans ((fld_eq (g10521 _ (by omega))).trans ((fld_eq (g10513 _ (by omega))).trans ((fld_eq (g10504 _ (by omega))).trans ((fld_eq (g10495 _ (by omega))).trans ((fld_eq (g10487 _ (by omega))).trans ((fld_eq (g10479 _ (by omega))).trans ((fld_eq (g10471 _ (by omega))).trans ((fld_eq (g10461 _ (by omega))).trans ((fld_eq (g10452 _ (by omega))).trans ((fld_eq (g10444 _ (by omega))).trans ((fld_eq (g10436 _ (by omega))).trans ((fld_eq (g10427 _ (by omega))).trans ((fld_eq (g10417 _ (by omega))).trans ((fld_eq (g10407 _ (by omega))).trans ((fld_eq (g10398 _ (by omega))).trans ((fld_eq (g10389 _ (by omega))).trans ((fld_eq (g10380 _ (by omega))).trans ((fld_eq (g10369 _ (by omega))).trans ((fld_eq (g10359 _ (by omega))).trans ((fld_eq (g10350 _ (by omega))).trans f10344)))))))))))))))))))))))))))))) ?_
  refine m_iload_n F rfl e_X10_takeText_35 ?_
  refine m_aload_n F rfl e_X10_takeText_36 ?_
  refine r_getC F e_X10_takeText_37 fl_X10_16 h10605 ((fld_eq (g10606 _ (by omega))).trans ((fld_eq (g10598 _ (by omega))).trans ((fld_eq (g10589 _ (by omega))).trans ((fld_eq (g10580 _ (by omega))).trans ((fld_eq (g10572 _ (by omega))).trans ((fld_eq (g10564 _ (by omega))).trans ((fld_eq (g10556 _ (by omega))).trans ((fld_eq (g10546 _ (by omega))).trans ((fld_eq (g10537 _ (by omega))).trans ((fld_eq (g10529 _ (by omega))).trans ((fld_eq (g10521 _ (by omega))).trans ((fld_eq (g10513 _ (by omega))).trans ((fld_eq (g10504 _ (by omega))).trans ((fld_eq (g10495 _ (by omega))).trans ((fld_eq (g10487 _ (by omega))).trans ((fld_eq (g10479 _ (by omega))).trans ((fld_eq (g10471 _ (by omega))).trans ((fld_eq (g10461 _ (by omega))).trans ((fld_eq (g10452 _ (by omega))).trans ((fld_eq (g10444 _ (by omega))).trans ((fld_eq (g10436 _ (by omega))).trans ((fld_eq (g10427 _ (by omega))).trans ((fld_eq (g10417 _ (by omega))).trans ((fld_eq (g10407 _ (by omega))).trans ((fld_eq (g10398 _ (by omega))).trans ((fld_eq (g10389 _ (by omega))).trans ((fld_eq (g10380 _ (by omega))).trans ((fld_eq (g10369 _ (by omega))).trans ((fld_eq (g10359 _ (by omega))).trans ((fld_eq (g10350 _ (by omega))).trans f10344)))))))))))))))))))))))))))))) ?_
  refine m_iconst F (v := 4) (by decide) e_X10_takeText_40 ?_
  refine m_iload_n F rfl e_X10_takeText_41 ?_
  refine m_iadd F e_X10_takeText_42 ?_
  refine Wm.topE (w := 7) (by decide) ?_
  refine r_iald F (len := 8) (j := 7) e_X10_takeText_43 h10605 (fun _ h => h) (by decide) (by decide) (by unfold vp_in; decide) (fun x10609 h10610 f10611 => ?_)
  refine r_iast F (g' := (⟨T, Z, u, h, P10549, L⟩ : RG)) (len := 8) (j := 3) e_X10_takeText_44 h10605 (fun _ h => h) (fun f h => ⟨f, rfl, h⟩) (by decide) (by decide) (by decide) (by unfold vp_in; decide) trivial (fun _ _ _ h => h) (fun _ _ _ h => h) (fun σ10612 h10613 g10614 f10615 g10616 => ?_)
  refine m_aload_n F rfl e_X10_takeText_45 ?_
  refine r_getC F e_X10_takeText_46 fl_X10_19 h10613 ((fld_eq (g10614 _ (by omega))).trans ((fld_eq (g10606 _ (by omega))).trans ((fld_eq (g10598 _ (by omega))).trans ((fld_eq (g10589 _ (by omega))).trans ((fld_eq (g10580 _ (by omega))).trans ((fld_eq (g10572 _ (by omega))).trans ((fld_eq (g10564 _ (by omega))).trans ((fld_eq (g10556 _ (by omega))).trans ((fld_eq (g10546 _ (by omega))).trans ((fld_eq (g10537 _ (by omega))).trans ((fld_eq (g10529 _ (by omega))).trans ((fld_eq (g10521 _ (by omega))).trans ((fld_eq (g10513 _ (by omega))).trans ((fld_eq (g10504 _ (by omega))).trans ((fld_eq (g10495 _ (by omega))).trans ((fld_eq (g10487 _ (by omega))).trans ((fld_eq (g10479 _ (by omega))).trans ((fld_eq (g10471 _ (by omega))).trans ((fld_eq (g10461 _ (by omega))).trans ((fld_eq (g10452 _ (by omega))).trans ((fld_eq (g10444 _ (by omega))).trans ((fld_eq (g10436 _ (by omega))).trans ((fld_eq (g10427 _ (by omega))).trans ((fld_eq (g10417 _ (by omega))).trans ((fld_eq (g10407 _ (by omega))).trans ((fld_eq (g10398 _ (by omega))).trans ((fld_eq (g10389 _ (by omega))).trans ((fld_eq (g10380 _ (by omega))).trans ((fld_eq (g10369 _ (by omega))).trans ((fld_eq (g10359 _ (by omega))).trans f10353)))))))))))))))))))))))))))))) ?_
  refine m_iload_n F rfl e_X10_takeText_49 ?_
  refine m_aload_n F rfl e_X10_takeText_50 ?_
  refine r_getC F e_X10_takeText_51 fl_X10_19 h10613 ((fld_eq (g10614 _ (by omega))).trans ((fld_eq (g10606 _ (by omega))).trans ((fld_eq (g10598 _ (by omega))).trans ((fld_eq (g10589 _ (by omega))).trans ((fld_eq (g10580 _ (by omega))).trans ((fld_eq (g10572 _ (by omega))).trans ((fld_eq (g10564 _ (by omega))).trans ((fld_eq (g10556 _ (by omega))).trans ((fld_eq (g10546 _ (by omega))).trans ((fld_eq (g10537 _ (by omega))).trans ((fld_eq (g10529 _ (by omega))).trans ((fld_eq (g10521 _ (by omega))).trans ((fld_eq (g10513 _ (by omega))).trans ((fld_eq (g10504 _ (by omega))).trans ((fld_eq (g10495 _ (by omega))).trans ((fld_eq (g10487 _ (by omega))).trans ((fld_eq (g10479 _ (by omega))).trans ((fld_eq (g10471 _ (by omega))).trans ((fld_eq (g10461 _ (by omega))).trans ((fld_eq (g10452 _ (by omega))).trans ((fld_eq (g10444 _ (by omega))).trans ((fld_eq (g10436 _ (by omega))).trans ((fld_eq (g10427 _ (by omega))).trans ((fld_eq (g10417 _ (by omega))).trans ((fld_eq (g10407 _ (by omega))).trans ((fld_eq (g10398 _ (by omega))).trans ((fld_eq (g10389 _ (by omega))).trans ((fld_eq (g10380 _ (by omega))).trans ((fld_eq (g10369 _ (by omega))).trans ((fld_eq (g10359 _ (by omega))).trans f10353)))))))))))))))))))))))))))))) ?_
  refine m_iconst F (v := 4) (by decide) e_X10_takeText_54 ?_
  refine m_iload_n F rfl e_X10_takeText_55 ?_
  refine m_iadd F e_X10_takeText_56 ?_
  refine Wm.topE (w := 7) (by decide) ?_
  refine r_iald F (len := 8) (j := 7) e_X10_takeText_57 h10613 (fun _ h => h) (by decide) (by decide) (by unfold vp_in; decide) (fun x10617 h10618 f10619 => ?_)
  refine r_iast F (g' := (⟨T, Z, u, h, P10549, L⟩ : RG)) (len := 8) (j := 3) e_X10_takeText_58 h10613 (fun _ h => h) (fun f h => ⟨f, rfl, h⟩) (by decide) (by decide) (by decide) (by unfold vp_in; decide) trivial (fun _ _ _ h => h) (fun _ _ _ h => h) (fun σ10620 h10621 g10622 f10623 g10624 => ?_)
  refine m_aload_n F rfl e_X10_takeText_59 ?_
  refine r_getC F e_X10_takeText_60 fl_X10_22 h10621 ((fld_eq (g10622 _ (by omega))).trans ((fld_eq (g10614 _ (by omega))).trans ((fld_eq (g10606 _ (by omega))).trans ((fld_eq (g10598 _ (by omega))).trans ((fld_eq (g10589 _ (by omega))).trans ((fld_eq (g10580 _ (by omega))).trans ((fld_eq (g10572 _ (by omega))).trans ((fld_eq (g10564 _ (by omega))).trans ((fld_eq (g10556 _ (by omega))).trans ((fld_eq (g10546 _ (by omega))).trans ((fld_eq (g10537 _ (by omega))).trans ((fld_eq (g10529 _ (by omega))).trans ((fld_eq (g10521 _ (by omega))).trans ((fld_eq (g10513 _ (by omega))).trans ((fld_eq (g10504 _ (by omega))).trans ((fld_eq (g10495 _ (by omega))).trans ((fld_eq (g10487 _ (by omega))).trans ((fld_eq (g10479 _ (by omega))).trans ((fld_eq (g10471 _ (by omega))).trans ((fld_eq (g10461 _ (by omega))).trans ((fld_eq (g10452 _ (by omega))).trans ((fld_eq (g10444 _ (by omega))).trans ((fld_eq (g10436 _ (by omega))).trans ((fld_eq (g10427 _ (by omega))).trans ((fld_eq (g10417 _ (by omega))).trans ((fld_eq (g10407 _ (by omega))).trans ((fld_eq (g10398 _ (by omega))).trans ((fld_eq (g10389 _ (by omega))).trans ((fld_eq (g10380 _ (by omega))).trans ((fld_eq (g10369 _ (by omega))).trans f10362)))))))))))))))))))))))))))))) ?_
  refine m_iload_n F rfl e_X10_takeText_63 ?_
  refine m_aload_n F rfl e_X10_takeText_64 ?_
  refine r_getC F e_X10_takeText_65 fl_X10_22 h10621 ((fld_eq (g10622 _ (by omega))).trans ((fld_eq (g10614 _ (by omega))).trans ((fld_eq (g10606 _ (by omega))).trans ((fld_eq (g10598 _ (by omega))).trans ((fld_eq (g10589 _ (by omega))).trans ((fld_eq (g10580 _ (by omega))).trans ((fld_eq (g10572 _ (by omega))).trans ((fld_eq (g10564 _ (by omega))).trans ((fld_eq (g10556 _ (by omega))).trans ((fld_eq (g10546 _ (by omega))).trans ((fld_eq (g10537 _ (by omega))).trans ((fld_eq (g10529 _ (by omega))).trans ((fld_eq (g10521 _ (by omega))).trans ((fld_eq (g10513 _ (by omega))).trans ((fld_eq (g10504 _ (by omega))).trans ((fld_eq (g10495 _ (by omega))).trans ((fld_eq (g10487 _ (by omega))).trans ((fld_eq (g10479 _ (by omega))).trans ((fld_eq (g10471 _ (by omega))).trans ((fld_eq (g10461 _ (by omega))).trans ((fld_eq (g10452 _ (by omega))).trans ((fld_eq (g10444 _ (by omega))).trans ((fld_eq (g10436 _ (by omega))).trans ((fld_eq (g10427 _ (by omega))).trans ((fld_eq (g10417 _ (by omega))).trans ((fld_eq (g10407 _ (by omega))).trans ((fld_eq (g10398 _ (by omega))).trans ((fld_eq (g10389 _ (by omega))).trans ((fld_eq (g10380 _ (by omega))).trans ((fld_eq (g10369 _ (by omega))).trans f10362)))))))))))))))))))))))))))))) ?_
  refine m_iconst F (v := 4) (by decide) e_X10_takeText_68 ?_
  refine m_iload_n F rfl e_X10_takeText_69 ?_
  refine m_iadd F e_X10_takeText_70 ?_
  refine Wm.topE (w := 7) (by decide) ?_
  refine r_iald F (len := 8) (j := 7) e_X10_takeText_71 h10621 (fun _ h => h) (by decide) (by decide) (by unfold vp_in; decide) (fun x10625 h10626 f10627 => ?_)
  obtain ⟨n10628, hn10628, rfl, pn10628, rn10628⟩ := h10626
  refine r_iast F (g' := (⟨T, Z, u, h, (mkP P10549.n0 P10549.n2 P10549.n5 P10549.n7 (min 4 P10549.m5) P10549.m5 P10549.w2 P10549.w7 P10549.kk P10549.a), L⟩ : RG)) (len := 8) (j := 3) e_X10_takeText_72 h10621 (fun _ h => h) (fun f h => ⟨f, rfl, h⟩) (by decide) (by decide) (by decide) (by unfold vp_in; decide) ⟨n10628, by omega, rfl, fun _ h8 => rn10628 (by omega) (show 7 < 4 + P10549.m5 by have h6 : 3 < min 4 P10549.m5 := h8; omega), fun h7 _ => absurd h7 (by omega)⟩ (fun i hi y hy => by obtain ⟨n9, a9, b9, c9, d9⟩ := hy; exact ⟨n9, a9, b9, fun h7 h8 => c9 h7 (show i < P10549.m0 by have h6 : i < min 4 P10549.m5 := h8; omega), d9⟩) (CR.chg (by intro k hk i x h; unfold EI at h ⊢; split at h <;> first | exact h | exact absurd rfl hk | trivial) rfl rfl) (fun σ10629 h10630 g10631 f10632 g10633 => ?_)
  obtain ⟨P10634, eP10634⟩ : ∃ P9, P9 = (mkP P10549.n0 P10549.n2 P10549.n5 P10549.n7 (min 4 P10549.m5) P10549.m5 P10549.w2 P10549.w7 P10549.kk P10549.a) := ⟨_, rfl⟩
  rw [← eP10634] at h10630
  have fP10634 : P10634.n0 = P10549.n0 ∧ P10634.n2 = P10549.n2 ∧ P10634.n5 = P10549.n5 ∧ P10634.n7 = P10549.n7 ∧ P10634.m0 = min 4 P10549.m5 ∧ P10634.m5 = P10549.m5 ∧ P10634.w2 = P10549.w2 ∧ P10634.w7 = P10549.w7 ∧ P10634.kk = P10549.kk ∧ P10634.a = P10549.a := by rw [eP10634]; exact ⟨rfl, rfl, rfl, rfl, rfl, rfl, rfl, rfl, rfl, rfl⟩
  refine m_aload_n F rfl e_X10_takeText_73 ?_
  refine r_getC F e_X10_takeText_74 fl_X10_25 h10630 ((fld_eq (g10631 _ (by omega))).trans ((fld_eq (g10622 _ (by omega))).trans ((fld_eq (g10614 _ (by omega))).trans ((fld_eq (g10606 _ (by omega))).trans ((fld_eq (g10598 _ (by omega))).trans ((fld_eq (g10589 _ (by omega))).trans ((fld_eq (g10580 _ (by omega))).trans ((fld_eq (g10572 _ (by omega))).trans ((fld_eq (g10564 _ (by omega))).trans ((fld_eq (g10556 _ (by omega))).trans ((fld_eq (g10546 _ (by omega))).trans ((fld_eq (g10537 _ (by omega))).trans ((fld_eq (g10529 _ (by omega))).trans ((fld_eq (g10521 _ (by omega))).trans ((fld_eq (g10513 _ (by omega))).trans ((fld_eq (g10504 _ (by omega))).trans ((fld_eq (g10495 _ (by omega))).trans ((fld_eq (g10487 _ (by omega))).trans ((fld_eq (g10479 _ (by omega))).trans ((fld_eq (g10471 _ (by omega))).trans ((fld_eq (g10461 _ (by omega))).trans ((fld_eq (g10452 _ (by omega))).trans ((fld_eq (g10444 _ (by omega))).trans ((fld_eq (g10436 _ (by omega))).trans ((fld_eq (g10427 _ (by omega))).trans ((fld_eq (g10417 _ (by omega))).trans ((fld_eq (g10407 _ (by omega))).trans ((fld_eq (g10398 _ (by omega))).trans ((fld_eq (g10389 _ (by omega))).trans ((fld_eq (g10380 _ (by omega))).trans f10373)))))))))))))))))))))))))))))) ?_
  refine m_iload_n F rfl e_X10_takeText_77 ?_
  refine m_aload_n F rfl e_X10_takeText_78 ?_
  refine r_getC F e_X10_takeText_79 fl_X10_25 h10630 ((fld_eq (g10631 _ (by omega))).trans ((fld_eq (g10622 _ (by omega))).trans ((fld_eq (g10614 _ (by omega))).trans ((fld_eq (g10606 _ (by omega))).trans ((fld_eq (g10598 _ (by omega))).trans ((fld_eq (g10589 _ (by omega))).trans ((fld_eq (g10580 _ (by omega))).trans ((fld_eq (g10572 _ (by omega))).trans ((fld_eq (g10564 _ (by omega))).trans ((fld_eq (g10556 _ (by omega))).trans ((fld_eq (g10546 _ (by omega))).trans ((fld_eq (g10537 _ (by omega))).trans ((fld_eq (g10529 _ (by omega))).trans ((fld_eq (g10521 _ (by omega))).trans ((fld_eq (g10513 _ (by omega))).trans ((fld_eq (g10504 _ (by omega))).trans ((fld_eq (g10495 _ (by omega))).trans ((fld_eq (g10487 _ (by omega))).trans ((fld_eq (g10479 _ (by omega))).trans ((fld_eq (g10471 _ (by omega))).trans ((fld_eq (g10461 _ (by omega))).trans ((fld_eq (g10452 _ (by omega))).trans ((fld_eq (g10444 _ (by omega))).trans ((fld_eq (g10436 _ (by omega))).trans ((fld_eq (g10427 _ (by omega))).trans ((fld_eq (g10417 _ (by omega))).trans ((fld_eq (g10407 _ (by omega))).trans ((fld_eq (g10398 _ (by omega))).trans ((fld_eq (g10389 _ (by omega))).trans ((fld_eq (g10380 _ (by omega))).trans f10373)))))))))))))))))))))))))))))) ?_
  refine m_iconst F (v := 4) (by decide) e_X10_takeText_82 ?_
  refine m_iload_n F rfl e_X10_takeText_83 ?_
  refine m_iadd F e_X10_takeText_84 ?_
  refine Wm.topE (w := 7) (by decide) ?_
  refine r_iald F (len := 8) (j := 7) e_X10_takeText_85 h10630 (fun _ h => h) (by decide) (by decide) (by unfold vp_in; decide) (fun x10635 h10636 f10637 => ?_)
  obtain ⟨n10638, hn10638, rfl⟩ := h10636
  refine r_iast F (g' := (⟨T, Z, u, h, P10634, L⟩ : RG)) (len := 8) (j := 3) e_X10_takeText_86 h10630 (fun _ h => h) (fun f h => ⟨f, rfl, h⟩) (by decide) (by decide) (by decide) (by unfold vp_in; decide) ⟨n10638, by omega, rfl⟩ (fun _ _ _ h => h) (fun _ _ _ h => h) (fun σ10639 h10640 g10641 f10642 g10643 => ?_)
  refine m_aload_n F rfl e_X10_takeText_87 ?_
  refine r_getC F e_X10_takeText_88 fl_X10_28 h10640 ((fld_eq (g10641 _ (by omega))).trans ((fld_eq (g10631 _ (by omega))).trans ((fld_eq (g10622 _ (by omega))).trans ((fld_eq (g10614 _ (by omega))).trans ((fld_eq (g10606 _ (by omega))).trans ((fld_eq (g10598 _ (by omega))).trans ((fld_eq (g10589 _ (by omega))).trans ((fld_eq (g10580 _ (by omega))).trans ((fld_eq (g10572 _ (by omega))).trans ((fld_eq (g10564 _ (by omega))).trans ((fld_eq (g10556 _ (by omega))).trans ((fld_eq (g10546 _ (by omega))).trans ((fld_eq (g10537 _ (by omega))).trans ((fld_eq (g10529 _ (by omega))).trans ((fld_eq (g10521 _ (by omega))).trans ((fld_eq (g10513 _ (by omega))).trans ((fld_eq (g10504 _ (by omega))).trans ((fld_eq (g10495 _ (by omega))).trans ((fld_eq (g10487 _ (by omega))).trans ((fld_eq (g10479 _ (by omega))).trans ((fld_eq (g10471 _ (by omega))).trans ((fld_eq (g10461 _ (by omega))).trans ((fld_eq (g10452 _ (by omega))).trans ((fld_eq (g10444 _ (by omega))).trans ((fld_eq (g10436 _ (by omega))).trans ((fld_eq (g10427 _ (by omega))).trans ((fld_eq (g10417 _ (by omega))).trans ((fld_eq (g10407 _ (by omega))).trans ((fld_eq (g10398 _ (by omega))).trans ((fld_eq (g10389 _ (by omega))).trans f10383)))))))))))))))))))))))))))))) ?_
  refine m_iload_n F rfl e_X10_takeText_91 ?_
  refine m_aload_n F rfl e_X10_takeText_92 ?_
  refine r_getC F e_X10_takeText_93 fl_X10_28 h10640 ((fld_eq (g10641 _ (by omega))).trans ((fld_eq (g10631 _ (by omega))).trans ((fld_eq (g10622 _ (by omega))).trans ((fld_eq (g10614 _ (by omega))).trans ((fld_eq (g10606 _ (by omega))).trans ((fld_eq (g10598 _ (by omega))).trans ((fld_eq (g10589 _ (by omega))).trans ((fld_eq (g10580 _ (by omega))).trans ((fld_eq (g10572 _ (by omega))).trans ((fld_eq (g10564 _ (by omega))).trans ((fld_eq (g10556 _ (by omega))).trans ((fld_eq (g10546 _ (by omega))).trans ((fld_eq (g10537 _ (by omega))).trans ((fld_eq (g10529 _ (by omega))).trans ((fld_eq (g10521 _ (by omega))).trans ((fld_eq (g10513 _ (by omega))).trans ((fld_eq (g10504 _ (by omega))).trans ((fld_eq (g10495 _ (by omega))).trans ((fld_eq (g10487 _ (by omega))).trans ((fld_eq (g10479 _ (by omega))).trans ((fld_eq (g10471 _ (by omega))).trans ((fld_eq (g10461 _ (by omega))).trans ((fld_eq (g10452 _ (by omega))).trans ((fld_eq (g10444 _ (by omega))).trans ((fld_eq (g10436 _ (by omega))).trans ((fld_eq (g10427 _ (by omega))).trans ((fld_eq (g10417 _ (by omega))).trans ((fld_eq (g10407 _ (by omega))).trans ((fld_eq (g10398 _ (by omega))).trans ((fld_eq (g10389 _ (by omega))).trans f10383)))))))))))))))))))))))))))))) ?_
  refine m_iconst F (v := 4) (by decide) e_X10_takeText_96 ?_
  refine m_iload_n F rfl e_X10_takeText_97 ?_
  refine m_iadd F e_X10_takeText_98 ?_
  refine Wm.topE (w := 7) (by decide) ?_
  refine r_iald F (len := 8) (j := 7) e_X10_takeText_99 h10640 (fun _ h => h) (by decide) (by decide) (by unfold vp_in; decide) (fun x10644 h10645 f10646 => ?_)
  refine r_iast F (g' := (⟨T, Z, u, h, P10634, L⟩ : RG)) (len := 8) (j := 3) e_X10_takeText_100 h10640 (fun _ h => h) (fun f h => ⟨f, rfl, h⟩) (by decide) (by decide) (by decide) (by unfold vp_in; decide) trivial (fun _ _ _ h => h) (fun _ _ _ h => h) (fun σ10647 h10648 g10649 f10650 g10651 => ?_)
  refine m_aload_n F rfl e_X10_takeText_101 ?_
  refine r_getC F e_X10_takeText_102 fl_X10_31 h10648 ((fld_eq (g10649 _ (by omega))).trans ((fld_eq (g10641 _ (by omega))).trans ((fld_eq (g10631 _ (by omega))).trans ((fld_eq (g10622 _ (by omega))).trans ((fld_eq (g10614 _ (by omega))).trans ((fld_eq (g10606 _ (by omega))).trans ((fld_eq (g10598 _ (by omega))).trans ((fld_eq (g10589 _ (by omega))).trans ((fld_eq (g10580 _ (by omega))).trans ((fld_eq (g10572 _ (by omega))).trans ((fld_eq (g10564 _ (by omega))).trans ((fld_eq (g10556 _ (by omega))).trans ((fld_eq (g10546 _ (by omega))).trans ((fld_eq (g10537 _ (by omega))).trans ((fld_eq (g10529 _ (by omega))).trans ((fld_eq (g10521 _ (by omega))).trans ((fld_eq (g10513 _ (by omega))).trans ((fld_eq (g10504 _ (by omega))).trans ((fld_eq (g10495 _ (by omega))).trans ((fld_eq (g10487 _ (by omega))).trans ((fld_eq (g10479 _ (by omega))).trans ((fld_eq (g10471 _ (by omega))).trans ((fld_eq (g10461 _ (by omega))).trans ((fld_eq (g10452 _ (by omega))).trans ((fld_eq (g10444 _ (by omega))).trans ((fld_eq (g10436 _ (by omega))).trans ((fld_eq (g10427 _ (by omega))).trans ((fld_eq (g10417 _ (by omega))).trans ((fld_eq (g10407 _ (by omega))).trans ((fld_eq (g10398 _ (by omega))).trans f10392)))))))))))))))))))))))))))))) ?_
  refine m_iload_n F rfl e_X10_takeText_105 ?_
  refine m_aload_n F rfl e_X10_takeText_106 ?_
  refine r_getC F e_X10_takeText_107 fl_X10_31 h10648 ((fld_eq (g10649 _ (by omega))).trans ((fld_eq (g10641 _ (by omega))).trans ((fld_eq (g10631 _ (by omega))).trans ((fld_eq (g10622 _ (by omega))).trans ((fld_eq (g10614 _ (by omega))).trans ((fld_eq (g10606 _ (by omega))).trans ((fld_eq (g10598 _ (by omega))).trans ((fld_eq (g10589 _ (by omega))).trans ((fld_eq (g10580 _ (by omega))).trans ((fld_eq (g10572 _ (by omega))).trans ((fld_eq (g10564 _ (by omega))).trans ((fld_eq (g10556 _ (by omega))).trans ((fld_eq (g10546 _ (by omega))).trans ((fld_eq (g10537 _ (by omega))).trans ((fld_eq (g10529 _ (by omega))).trans ((fld_eq (g10521 _ (by omega))).trans ((fld_eq (g10513 _ (by omega))).trans ((fld_eq (g10504 _ (by omega))).trans ((fld_eq (g10495 _ (by omega))).trans ((fld_eq (g10487 _ (by omega))).trans ((fld_eq (g10479 _ (by omega))).trans ((fld_eq (g10471 _ (by omega))).trans ((fld_eq (g10461 _ (by omega))).trans ((fld_eq (g10452 _ (by omega))).trans ((fld_eq (g10444 _ (by omega))).trans ((fld_eq (g10436 _ (by omega))).trans ((fld_eq (g10427 _ (by omega))).trans ((fld_eq (g10417 _ (by omega))).trans ((fld_eq (g10407 _ (by omega))).trans ((fld_eq (g10398 _ (by omega))).trans f10392)))))))))))))))))))))))))))))) ?_
  refine m_iconst F (v := 4) (by decide) e_X10_takeText_110 ?_
  refine m_iload_n F rfl e_X10_takeText_111 ?_
  refine m_iadd F e_X10_takeText_112 ?_
  refine Wm.topE (w := 7) (by decide) ?_
  refine r_iald F (len := 8) (j := 7) e_X10_takeText_113 h10648 (fun _ h => h) (by decide) (by decide) (by unfold vp_in; decide) (fun x10652 h10653 f10654 => ?_)
  refine r_iast F (g' := (⟨T, Z, u, h, P10634, L⟩ : RG)) (len := 8) (j := 3) e_X10_takeText_114 h10648 (fun _ h => h) (fun f h => ⟨f, rfl, h⟩) (by decide) (by decide) (by decide) (by unfold vp_in; decide) trivial (fun _ _ _ h => h) (fun _ _ _ h => h) (fun σ10655 h10656 g10657 f10658 g10659 => ?_)
  refine m_aload_n F rfl e_X10_takeText_115 ?_
  refine r_getC F e_X10_takeText_116 fl_X10_34 h10656 ((fld_eq (g10657 _ (by omega))).trans ((fld_eq (g10649 _ (by omega))).trans ((fld_eq (g10641 _ (by omega))).trans ((fld_eq (g10631 _ (by omega))).trans ((fld_eq (g10622 _ (by omega))).trans ((fld_eq (g10614 _ (by omega))).trans ((fld_eq (g10606 _ (by omega))).trans ((fld_eq (g10598 _ (by omega))).trans ((fld_eq (g10589 _ (by omega))).trans ((fld_eq (g10580 _ (by omega))).trans ((fld_eq (g10572 _ (by omega))).trans ((fld_eq (g10564 _ (by omega))).trans ((fld_eq (g10556 _ (by omega))).trans ((fld_eq (g10546 _ (by omega))).trans ((fld_eq (g10537 _ (by omega))).trans ((fld_eq (g10529 _ (by omega))).trans ((fld_eq (g10521 _ (by omega))).trans ((fld_eq (g10513 _ (by omega))).trans ((fld_eq (g10504 _ (by omega))).trans ((fld_eq (g10495 _ (by omega))).trans ((fld_eq (g10487 _ (by omega))).trans ((fld_eq (g10479 _ (by omega))).trans ((fld_eq (g10471 _ (by omega))).trans ((fld_eq (g10461 _ (by omega))).trans ((fld_eq (g10452 _ (by omega))).trans ((fld_eq (g10444 _ (by omega))).trans ((fld_eq (g10436 _ (by omega))).trans ((fld_eq (g10427 _ (by omega))).trans ((fld_eq (g10417 _ (by omega))).trans ((fld_eq (g10407 _ (by omega))).trans f10401)))))))))))))))))))))))))))))) ?_
  refine m_iload_n F rfl e_X10_takeText_119 ?_
  refine m_aload_n F rfl e_X10_takeText_120 ?_
  refine r_getC F e_X10_takeText_121 fl_X10_34 h10656 ((fld_eq (g10657 _ (by omega))).trans ((fld_eq (g10649 _ (by omega))).trans ((fld_eq (g10641 _ (by omega))).trans ((fld_eq (g10631 _ (by omega))).trans ((fld_eq (g10622 _ (by omega))).trans ((fld_eq (g10614 _ (by omega))).trans ((fld_eq (g10606 _ (by omega))).trans ((fld_eq (g10598 _ (by omega))).trans ((fld_eq (g10589 _ (by omega))).trans ((fld_eq (g10580 _ (by omega))).trans ((fld_eq (g10572 _ (by omega))).trans ((fld_eq (g10564 _ (by omega))).trans ((fld_eq (g10556 _ (by omega))).trans ((fld_eq (g10546 _ (by omega))).trans ((fld_eq (g10537 _ (by omega))).trans ((fld_eq (g10529 _ (by omega))).trans ((fld_eq (g10521 _ (by omega))).trans ((fld_eq (g10513 _ (by omega))).trans ((fld_eq (g10504 _ (by omega))).trans ((fld_eq (g10495 _ (by omega))).trans ((fld_eq (g10487 _ (by omega))).trans ((fld_eq (g10479 _ (by omega))).trans ((fld_eq (g10471 _ (by omega))).trans ((fld_eq (g10461 _ (by omega))).trans ((fld_eq (g10452 _ (by omega))).trans ((fld_eq (g10444 _ (by omega))).trans ((fld_eq (g10436 _ (by omega))).trans ((fld_eq (g10427 _ (by omega))).trans ((fld_eq (g10417 _ (by omega))).trans ((fld_eq (g10407 _ (by omega))).trans f10401)))))))))))))))))))))))))))))) ?_
  refine m_iconst F (v := 4) (by decide) e_X10_takeText_124 ?_
  refine m_iload_n F rfl e_X10_takeText_125 ?_
  refine m_iadd F e_X10_takeText_126 ?_
  refine Wm.topE (w := 7) (by decide) ?_
  refine r_iald F (len := 8) (j := 7) e_X10_takeText_127 h10656 (fun _ h => h) (by decide) (by decide) (by unfold vp_in; decide) (fun x10660 h10661 f10662 => ?_)
  refine r_iast F (g' := (⟨T, Z, u, h, P10634, L⟩ : RG)) (len := 8) (j := 3) e_X10_takeText_128 h10656 (fun _ h => h) (fun f h => ⟨f, rfl, h⟩) (by decide) (by decide) (by decide) (by unfold vp_in; decide) trivial (fun _ _ _ h => h) (fun _ _ _ h => h) (fun σ10663 h10664 g10665 f10666 g10667 => ?_)
  refine m_aload_n F rfl e_X10_takeText_129 ?_
  refine r_getC F e_X10_takeText_130 fl_X10_46 h10664 ((fld_eq (g10665 _ (by omega))).trans ((fld_eq (g10657 _ (by omega))).trans ((fld_eq (g10649 _ (by omega))).trans ((fld_eq (g10641 _ (by omega))).trans ((fld_eq (g10631 _ (by omega))).trans ((fld_eq (g10622 _ (by omega))).trans ((fld_eq (g10614 _ (by omega))).trans ((fld_eq (g10606 _ (by omega))).trans ((fld_eq (g10598 _ (by omega))).trans ((fld_eq (g10589 _ (by omega))).trans ((fld_eq (g10580 _ (by omega))).trans ((fld_eq (g10572 _ (by omega))).trans ((fld_eq (g10564 _ (by omega))).trans ((fld_eq (g10556 _ (by omega))).trans ((fld_eq (g10546 _ (by omega))).trans ((fld_eq (g10537 _ (by omega))).trans ((fld_eq (g10529 _ (by omega))).trans ((fld_eq (g10521 _ (by omega))).trans ((fld_eq (g10513 _ (by omega))).trans ((fld_eq (g10504 _ (by omega))).trans ((fld_eq (g10495 _ (by omega))).trans ((fld_eq (g10487 _ (by omega))).trans ((fld_eq (g10479 _ (by omega))).trans ((fld_eq (g10471 _ (by omega))).trans ((fld_eq (g10461 _ (by omega))).trans ((fld_eq (g10452 _ (by omega))).trans ((fld_eq (g10444 _ (by omega))).trans ((fld_eq (g10436 _ (by omega))).trans ((fld_eq (g10427 _ (by omega))).trans ((fld_eq (g10417 _ (by omega))).trans f10410)))))))))))))))))))))))))))))) ?_
  refine m_iload_n F rfl e_X10_takeText_133 ?_
  refine m_aload_n F rfl e_X10_takeText_134 ?_
  refine r_getC F e_X10_takeText_135 fl_X10_46 h10664 ((fld_eq (g10665 _ (by omega))).trans ((fld_eq (g10657 _ (by omega))).trans ((fld_eq (g10649 _ (by omega))).trans ((fld_eq (g10641 _ (by omega))).trans ((fld_eq (g10631 _ (by omega))).trans ((fld_eq (g10622 _ (by omega))).trans ((fld_eq (g10614 _ (by omega))).trans ((fld_eq (g10606 _ (by omega))).trans ((fld_eq (g10598 _ (by omega))).trans ((fld_eq (g10589 _ (by omega))).trans ((fld_eq (g10580 _ (by omega))).trans ((fld_eq (g10572 _ (by omega))).trans ((fld_eq (g10564 _ (by omega))).trans ((fld_eq (g10556 _ (by omega))).trans ((fld_eq (g10546 _ (by omega))).trans ((fld_eq (g10537 _ (by omega))).trans ((fld_eq (g10529 _ (by omega))).trans ((fld_eq (g10521 _ (by omega))).trans ((fld_eq (g10513 _ (by omega))).trans ((fld_eq (g10504 _ (by omega))).trans ((fld_eq (g10495 _ (by omega))).trans ((fld_eq (g10487 _ (by omega))).trans ((fld_eq (g10479 _ (by omega))).trans ((fld_eq (g10471 _ (by omega))).trans ((fld_eq (g10461 _ (by omega))).trans ((fld_eq (g10452 _ (by omega))).trans ((fld_eq (g10444 _ (by omega))).trans ((fld_eq (g10436 _ (by omega))).trans ((fld_eq (g10427 _ (by omega))).trans ((fld_eq (g10417 _ (by omega))).trans f10410)))))))))))))))))))))))))))))) ?_
  refine m_iconst F (v := 4) (by decide) e_X10_takeText_138 ?_
  refine m_iload_n F rfl e_X10_takeText_139 ?_
  refine m_iadd F e_X10_takeText_140 ?_
  refine Wm.topE (w := 7) (by decide) ?_
  refine r_iald F (len := 8) (j := 7) e_X10_takeText_141 h10664 (fun _ h => h) (by decide) (by decide) (by unfold vp_in; decide) (fun x10668 h10669 f10670 => ?_)
  obtain ⟨n10671, hn10671, rfl⟩ := h10669
  refine r_iast F (g' := (⟨T, Z, u, h, P10634, L⟩ : RG)) (len := 8) (j := 3) e_X10_takeText_142 h10664 (fun _ h => h) (fun f h => ⟨f, rfl, h⟩) (by decide) (by decide) (by decide) (by unfold vp_in; decide) ⟨n10671, by omega, rfl⟩ (fun _ _ _ h => h) (fun _ _ _ h => h) (fun σ10672 h10673 g10674 f10675 g10676 => ?_)
  refine m_aload_n F rfl e_X10_takeText_143 ?_
  refine r_getC F e_X10_takeText_144 fl_X10_49 h10673 ((fld_eq (g10674 _ (by omega))).trans ((fld_eq (g10665 _ (by omega))).trans ((fld_eq (g10657 _ (by omega))).trans ((fld_eq (g10649 _ (by omega))).trans ((fld_eq (g10641 _ (by omega))).trans ((fld_eq (g10631 _ (by omega))).trans ((fld_eq (g10622 _ (by omega))).trans ((fld_eq (g10614 _ (by omega))).trans ((fld_eq (g10606 _ (by omega))).trans ((fld_eq (g10598 _ (by omega))).trans ((fld_eq (g10589 _ (by omega))).trans ((fld_eq (g10580 _ (by omega))).trans ((fld_eq (g10572 _ (by omega))).trans ((fld_eq (g10564 _ (by omega))).trans ((fld_eq (g10556 _ (by omega))).trans ((fld_eq (g10546 _ (by omega))).trans ((fld_eq (g10537 _ (by omega))).trans ((fld_eq (g10529 _ (by omega))).trans ((fld_eq (g10521 _ (by omega))).trans ((fld_eq (g10513 _ (by omega))).trans ((fld_eq (g10504 _ (by omega))).trans ((fld_eq (g10495 _ (by omega))).trans ((fld_eq (g10487 _ (by omega))).trans ((fld_eq (g10479 _ (by omega))).trans ((fld_eq (g10471 _ (by omega))).trans ((fld_eq (g10461 _ (by omega))).trans ((fld_eq (g10452 _ (by omega))).trans ((fld_eq (g10444 _ (by omega))).trans ((fld_eq (g10436 _ (by omega))).trans ((fld_eq (g10427 _ (by omega))).trans f10420)))))))))))))))))))))))))))))) ?_
  refine m_iload_n F rfl e_X10_takeText_147 ?_
  refine m_aload_n F rfl e_X10_takeText_148 ?_
  refine r_getC F e_X10_takeText_149 fl_X10_49 h10673 ((fld_eq (g10674 _ (by omega))).trans ((fld_eq (g10665 _ (by omega))).trans ((fld_eq (g10657 _ (by omega))).trans ((fld_eq (g10649 _ (by omega))).trans ((fld_eq (g10641 _ (by omega))).trans ((fld_eq (g10631 _ (by omega))).trans ((fld_eq (g10622 _ (by omega))).trans ((fld_eq (g10614 _ (by omega))).trans ((fld_eq (g10606 _ (by omega))).trans ((fld_eq (g10598 _ (by omega))).trans ((fld_eq (g10589 _ (by omega))).trans ((fld_eq (g10580 _ (by omega))).trans ((fld_eq (g10572 _ (by omega))).trans ((fld_eq (g10564 _ (by omega))).trans ((fld_eq (g10556 _ (by omega))).trans ((fld_eq (g10546 _ (by omega))).trans ((fld_eq (g10537 _ (by omega))).trans ((fld_eq (g10529 _ (by omega))).trans ((fld_eq (g10521 _ (by omega))).trans ((fld_eq (g10513 _ (by omega))).trans ((fld_eq (g10504 _ (by omega))).trans ((fld_eq (g10495 _ (by omega))).trans ((fld_eq (g10487 _ (by omega))).trans ((fld_eq (g10479 _ (by omega))).trans ((fld_eq (g10471 _ (by omega))).trans ((fld_eq (g10461 _ (by omega))).trans ((fld_eq (g10452 _ (by omega))).trans ((fld_eq (g10444 _ (by omega))).trans ((fld_eq (g10436 _ (by omega))).trans ((fld_eq (g10427 _ (by omega))).trans f10420)))))))))))))))))))))))))))))) ?_
  refine m_iconst F (v := 4) (by decide) e_X10_takeText_152 ?_
  refine m_iload_n F rfl e_X10_takeText_153 ?_
  refine m_iadd F e_X10_takeText_154 ?_
  refine Wm.topE (w := 7) (by decide) ?_
  refine r_iald F (len := 8) (j := 7) e_X10_takeText_155 h10673 (fun _ h => h) (by decide) (by decide) (by unfold vp_in; decide) (fun x10677 h10678 f10679 => ?_)
  obtain ⟨n10680, hn10680, rfl⟩ := h10678
  refine r_iast F (g' := (⟨T, Z, u, h, P10634, L⟩ : RG)) (len := 8) (j := 3) e_X10_takeText_156 h10673 (fun _ h => h) (fun f h => ⟨f, rfl, h⟩) (by decide) (by decide) (by decide) (by unfold vp_in; decide) ⟨n10680, by omega, rfl⟩ (fun _ _ _ h => h) (fun _ _ _ h => h) (fun σ10681 h10682 g10683 f10684 g10685 => ?_)
  refine m_aload_n F rfl e_X10_takeText_157 ?_
  refine r_getC F e_X10_takeText_158 fl_X10_52 h10682 ((fld_eq (g10683 _ (by omega))).trans ((fld_eq (g10674 _ (by omega))).trans ((fld_eq (g10665 _ (by omega))).trans ((fld_eq (g10657 _ (by omega))).trans ((fld_eq (g10649 _ (by omega))).trans ((fld_eq (g10641 _ (by omega))).trans ((fld_eq (g10631 _ (by omega))).trans ((fld_eq (g10622 _ (by omega))).trans ((fld_eq (g10614 _ (by omega))).trans ((fld_eq (g10606 _ (by omega))).trans ((fld_eq (g10598 _ (by omega))).trans ((fld_eq (g10589 _ (by omega))).trans ((fld_eq (g10580 _ (by omega))).trans ((fld_eq (g10572 _ (by omega))).trans ((fld_eq (g10564 _ (by omega))).trans ((fld_eq (g10556 _ (by omega))).trans ((fld_eq (g10546 _ (by omega))).trans ((fld_eq (g10537 _ (by omega))).trans ((fld_eq (g10529 _ (by omega))).trans ((fld_eq (g10521 _ (by omega))).trans ((fld_eq (g10513 _ (by omega))).trans ((fld_eq (g10504 _ (by omega))).trans ((fld_eq (g10495 _ (by omega))).trans ((fld_eq (g10487 _ (by omega))).trans ((fld_eq (g10479 _ (by omega))).trans ((fld_eq (g10471 _ (by omega))).trans ((fld_eq (g10461 _ (by omega))).trans ((fld_eq (g10452 _ (by omega))).trans ((fld_eq (g10444 _ (by omega))).trans ((fld_eq (g10436 _ (by omega))).trans f10430)))))))))))))))))))))))))))))) ?_
  refine m_iload_n F rfl e_X10_takeText_161 ?_
  refine m_aload_n F rfl e_X10_takeText_162 ?_
  refine r_getC F e_X10_takeText_163 fl_X10_52 h10682 ((fld_eq (g10683 _ (by omega))).trans ((fld_eq (g10674 _ (by omega))).trans ((fld_eq (g10665 _ (by omega))).trans ((fld_eq (g10657 _ (by omega))).trans ((fld_eq (g10649 _ (by omega))).trans ((fld_eq (g10641 _ (by omega))).trans ((fld_eq (g10631 _ (by omega))).trans ((fld_eq (g10622 _ (by omega))).trans ((fld_eq (g10614 _ (by omega))).trans ((fld_eq (g10606 _ (by omega))).trans ((fld_eq (g10598 _ (by omega))).trans ((fld_eq (g10589 _ (by omega))).trans ((fld_eq (g10580 _ (by omega))).trans ((fld_eq (g10572 _ (by omega))).trans ((fld_eq (g10564 _ (by omega))).trans ((fld_eq (g10556 _ (by omega))).trans ((fld_eq (g10546 _ (by omega))).trans ((fld_eq (g10537 _ (by omega))).trans ((fld_eq (g10529 _ (by omega))).trans ((fld_eq (g10521 _ (by omega))).trans ((fld_eq (g10513 _ (by omega))).trans ((fld_eq (g10504 _ (by omega))).trans ((fld_eq (g10495 _ (by omega))).trans ((fld_eq (g10487 _ (by omega))).trans ((fld_eq (g10479 _ (by omega))).trans ((fld_eq (g10471 _ (by omega))).trans ((fld_eq (g10461 _ (by omega))).trans ((fld_eq (g10452 _ (by omega))).trans ((fld_eq (g10444 _ (by omega))).trans ((fld_eq (g10436 _ (by omega))).trans f10430)))))))))))))))))))))))))))))) ?_
  refine m_iconst F (v := 4) (by decide) e_X10_takeText_166 ?_
  refine m_iload_n F rfl e_X10_takeText_167 ?_
  refine m_iadd F e_X10_takeText_168 ?_
  refine Wm.topE (w := 7) (by decide) ?_
  refine r_iald F (len := 8) (j := 7) e_X10_takeText_169 h10682 (fun _ h => h) (by decide) (by decide) (by unfold vp_in; decide) (fun x10686 h10687 f10688 => ?_)
  refine r_iast F (g' := (⟨T, Z, u, h, P10634, L⟩ : RG)) (len := 8) (j := 3) e_X10_takeText_170 h10682 (fun _ h => h) (fun f h => ⟨f, rfl, h⟩) (by decide) (by decide) (by decide) (by unfold vp_in; decide) trivial (fun _ _ _ h => h) (fun _ _ _ h => h) (fun σ10689 h10690 g10691 f10692 g10693 => ?_)
  refine m_iinc F (v := 4) (lv' := [(1, .int 4), (0, .ref c)]) e_X10_takeText_171 rfl (by decide) (by decide) rfl ?_
  refine m_goto F e_X10_takeText_174 ?_
  refine m_iload_n F rfl e_X10_takeText_26 ?_
  refine m_iconst F (v := 4) (by decide) e_X10_takeText_27 ?_
  refine m_icmp_ge F e_X10_takeText_28 (fun _ => ?_) (fun q => absurd (by decide) q)
  refine m_iconst F (v := 0) (by decide) e_X10_takeText_177 ?_
  refine m_istore_n F (lv' := [(1, .int 0), (0, .ref c)]) e_X10_takeText_178 (by decide) rfl ?_
  refine Wm.lvsub (lv' := [(0, .ref c), (1, .int 0)]) ?_ [1, 0] rfl
  have oP10694 : OKP P10634 := by unfold OKP; omega
  exact lq_X10_takeText_179 F hQ hob hP  (192 - 0 + 1) 0 P10634 _ h10690 oP10694 (by unfold RT3; omega) (by omega) (Nat.lt_succ_self _)
set_option maxRecDepth 20000 in
theorem lq_X10_begins_142 {V : VX} {X : MX} {N : Nat} {σ : Mem} {c T Z u h : Nat} {P : NP} {L : Nat → LQ}   (F : Fx V X yX10_begins cX10_begins 4 none (rmd 3 0 0)) (hQ : Rt V X 0 0 N (fun r τ => ∃ L9, OKL P.n0 L9 ∧ HS V c (⟨T, Z, u, h, P, L9⟩ : RG) [0, 1, 2, 3, 4, 5, 6, 7, 8, 9, 10, 11, 12, 13, 14, 15, 16, 18, 19, 20, 21, 23] σ τ ∧ r = none)) (hob : OKB L) (hP : OKP P) (hp0 : P.n0 ≤ P.m0) (hp1 : P.n2 ≤ P.w2) {fuelO : Nat} (hO : ∀ (i : Nat) (L1 : Nat → LQ) (τ : Mem), HS V c (⟨T, Z, u, h, P, L1⟩ : RG) [0, 1, 2, 3, 4, 5, 6, 7, 8, 9, 10, 11, 12, 13, 14, 15, 16, 18, 19, 20, 21, 23] σ τ → OKL i L1 → (∀ l, l < 4 → (L1 l).1 = 0 ∧ (L1 l).2.2.1 = 0 ∧ (L1 l).2.2.2 = 0) ∧ i ≤ P.n0 → 4 - i < fuelO → Wm V X 4 N τ 0 0 96 [(0, .ref c), (1, .int (nI i))] []) : ∀ (fuel : Nat) (i : Nat) (k : Nat) (L1 : Nat → LQ) (τ : Mem), HS V c (⟨T, Z, u, h, P, L1⟩ : RG) [0, 1, 2, 3, 4, 5, 6, 7, 8, 9, 10, 11, 12, 13, 14, 15, 16, 18, 19, 20, 21, 23] σ τ → OKL (i + 1) L1 → i < P.n0 ∧ (∀ l, l < 4 → (L1 l).1 = 0 ∧ (L1 l).2.2.1 = 0 ∧ (L1 l).2.2.2 = 0) ∧ k ≤ 48 ∧ 4 - i ≤ fuelO → 48 - k < fuel → Wm V X 4 N τ 0 0 142 [(0, .ref c), (1, .int (nI i)), (2, .int (nI (160 * i))), (3, .int (nI k))] [] := by
  intro fuel
  induction fuel with
  | zero => intros; rename_i hm; exact absurd hm (Nat.not_lt_zero _)
  | succ fuel ih =>
    intro i k L1 τ h1 hok1 hi hm
    have hPP := hP
    unfold OKP at hPP
    refine m_iload_n F rfl e_X10_begins_142 ?_
    refine m_aload_n F rfl e_X10_begins_143 ?_
    refine r_get F e_X10_begins_144 fl_X10_22 h1 rfl (fun v hv f10695 => ?_)
    obtain rfl : v = .ref (c + 5) := hv
    refine m_iload_n F rfl e_X10_begins_147 ?_
    refine r_iald F (len := 8) (j := i) e_X10_begins_148 h1 (fun _ h => h) (by decide) (nI_clamp (by omega)) (vp_in_nI (by omega) (by decide)) (fun x10696 h10697 f10698 => ?_)
    obtain ⟨n10699, hn10699, rfl, pn10699, rn10699⟩ := h10697
    refine m_icmp_ge F e_X10_begins_149 (fun q149 => ?_) (fun q149 => ?_)
    · have c149 : k ≥ n10699 := (nI_leI (a := n10699) (b := k) (by omega) (by omega)).mp q149
      refine m_aload_n F rfl e_X10_begins_204 ?_
      refine r_get F e_X10_begins_205 fl_X10_31 h1 rfl (fun v hv f10700 => ?_)
      obtain rfl : v = .ref (c + 8) := hv
      refine m_iload_n F rfl e_X10_begins_208 ?_
      refine r_iald F (len := 8) (j := i) e_X10_begins_209 h1 (fun _ h => h) (by decide) (nI_clamp (by omega)) (vp_in_nI (by omega) (by decide)) (fun x10701 h10702 f10703 => ?_)
      refine m_if_ne F e_X10_begins_210 (fun q210 => ?_) (fun q210 => ?_)
      · refine m_aload_n F rfl e_X10_begins_218 ?_
        refine m_iload_n F rfl e_X10_begins_219 ?_
        refine m_iconst F (v := 1) (by decide) e_X10_begins_220 ?_
        refine m_aload_n F rfl e_X10_begins_221 ?_
        refine r_getC F e_X10_begins_222 fl_X10_31 h1 (f10700) ?_
        refine m_iload_n F rfl e_X10_begins_225 ?_
        refine r_iald F (len := 8) (j := i) e_X10_begins_226 h1 (fun _ h => h) (by decide) (nI_clamp (by omega)) (vp_in_nI (by omega) (by decide)) (fun x10704 h10705 f10706 => ?_)
        obtain rfl := Option.some.inj ((f10706).symm.trans (f10703))
        refine m_i2l F e_X10_begins_227 ?_
        refine Wm.topl (fun x10707 _ => ?_)
        refine r_callV F e_X10_begins_228 (q_X10_rateFor (x_l X) V c T Z u h P L1 _ _ i 1 x10707 h1.1 (hok1.b) hP (by omega) (by omega) (by first | omega | assumption | decide)) cb_X10_rateFor ml_X10_226 im_X10_rateFor se_X10_rateFor h1 rfl rfl (rest := []) rfl (Nat.le_of_ble_eq_true rfl) ⟨Nat.le_of_ble_eq_true rfl, Nat.le_of_ble_eq_true rfl⟩ ⟨Nat.le_of_ble_eq_true rfl, Nat.le_of_ble_eq_true rfl⟩ (fun r σ10708 hp => ?_)
        obtain ⟨h10709, c10711⟩ := hp
        have h10710 := HS.trans h1 h10709 (by decide)
        rcases c10711 with rfl | ⟨n10712, hn10712, rfl⟩
        · refine m_istore_n F (lv' := [(3, .int (-2)), (0, .ref c), (1, .int (nI i)), (2, .int (nI (160 * i)))]) e_X10_begins_231 (by decide) rfl ?_
          refine m_aload_n F rfl e_X10_begins_232 ?_
          refine r_get F e_X10_begins_233 fl_X10_75 h10710 rfl (fun v hv f10713 => ?_)
          obtain rfl : v = .ref (c + 21) := hv
          refine m_iload_n F rfl e_X10_begins_236 ?_
          refine m_iload_n F rfl e_X10_begins_237 ?_
          refine m_bipush F (v := (-2)) (by decide) e_X10_begins_238 ?_
          refine m_icmp_eq F e_X10_begins_240 (fun _ => ?_) (fun q => absurd (by decide) q)
          refine m_iconst F (v := 0) (by decide) e_X10_begins_247 ?_
          refine r_zast F (j := i) (m := 0) e_X10_begins_248 h10710 (nI_clamp (by omega)) (vp_in_nI (by omega) (by decide)) (by omega) (by decide) (fun σ10714 h10715 g10716 ezσ10714 => ?_)
          refine m_aload_n F rfl e_X10_begins_249 ?_
          refine r_getC F e_X10_begins_250 fl_X10_75 h10715 ((fld_eq (g10716 _ (by omega))).trans f10713) ?_
          refine m_iload_n F rfl e_X10_begins_253 ?_
          refine r_zald F (j := i) e_X10_begins_254 h10715 (nI_clamp (by omega)) (vp_in_nI (by omega) (by decide)) (fun n10717 hn10717 f10718 => ?_)
          have gn10717 := nI_inj (by omega) (by omega) (Option.some.inj ((f10718).symm.trans (ezσ10714)))
          refine m_if_eq F e_X10_begins_255 (fun q255 => ?_) (fun q255 => ?_)
          · have c255 : n10717 = 0 := (nI_eq (a := n10717) (b := 0) (by omega) (by omega)).mp q255
            refine m_iinc F (v := nI (i + 1)) (lv' := [(1, .int (nI (i + 1))), (3, .int (-2)), (0, .ref c), (2, .int (nI (160 * i)))]) e_X10_begins_268 rfl (nI_add i 1) (by decide) rfl ?_
            refine m_goto F e_X10_begins_271 ?_
            refine Wm.lvsub (lv' := [(0, .ref c), (1, .int (nI (i + 1)))]) ?_ [2, 0] rfl
            exact hO (i + 1) L1 _ h10715 hok1 ⟨hi.2.1, by omega⟩ (by omega)
          · have c255 : n10717 ≠ 0 := by have hh := mt (nI_eq (a := n10717) (b := 0) (by omega) (by omega)).mpr q255; omega
            exfalso; omega
        · refine m_istore_n F (lv' := [(3, .int (nI n10712)), (0, .ref c), (1, .int (nI i)), (2, .int (nI (160 * i)))]) e_X10_begins_231 (by decide) rfl ?_
          refine m_aload_n F rfl e_X10_begins_232 ?_
          refine r_get F e_X10_begins_233 fl_X10_75 h10710 rfl (fun v hv f10719 => ?_)
          obtain rfl : v = .ref (c + 21) := hv
          refine m_iload_n F rfl e_X10_begins_236 ?_
          refine m_iload_n F rfl e_X10_begins_237 ?_
          refine m_bipush F (v := (-2)) (by decide) e_X10_begins_238 ?_
          refine m_icmp_eq F e_X10_begins_240 (fun q240 => ?_) (fun q240 => ?_)
          · refine m_iconst F (v := 0) (by decide) e_X10_begins_247 ?_
            refine r_zast F (j := i) (m := 0) e_X10_begins_248 h10710 (nI_clamp (by omega)) (vp_in_nI (by omega) (by decide)) (by omega) (by decide) (fun σ10720 h10721 g10722 ezσ10720 => ?_)
            refine m_aload_n F rfl e_X10_begins_249 ?_
            refine r_getC F e_X10_begins_250 fl_X10_75 h10721 ((fld_eq (g10722 _ (by omega))).trans f10719) ?_
            refine m_iload_n F rfl e_X10_begins_253 ?_
            refine r_zald F (j := i) e_X10_begins_254 h10721 (nI_clamp (by omega)) (vp_in_nI (by omega) (by decide)) (fun n10723 hn10723 f10724 => ?_)
            have gn10723 := nI_inj (by omega) (by omega) (Option.some.inj ((f10724).symm.trans (ezσ10720)))
            refine m_if_eq F e_X10_begins_255 (fun q255 => ?_) (fun q255 => ?_)
            · have c255 : n10723 = 0 := (nI_eq (a := n10723) (b := 0) (by omega) (by omega)).mp q255
              refine m_iinc F (v := nI (i + 1)) (lv' := [(1, .int (nI (i + 1))), (3, .int (nI n10712)), (0, .ref c), (2, .int (nI (160 * i)))]) e_X10_begins_268 rfl (nI_add i 1) (by decide) rfl ?_
              refine m_goto F e_X10_begins_271 ?_
              refine Wm.lvsub (lv' := [(0, .ref c), (1, .int (nI (i + 1)))]) ?_ [2, 0] rfl
              exact hO (i + 1) L1 _ h10721 hok1 ⟨hi.2.1, by omega⟩ (by omega)
            · have c255 : n10723 ≠ 0 := by have hh := mt (nI_eq (a := n10723) (b := 0) (by omega) (by omega)).mpr q255; omega
              refine m_aload_n F rfl e_X10_begins_258 ?_
              refine r_get F e_X10_begins_259 fl_X10_59 h10721 rfl (fun v hv f10725 => ?_)
              obtain rfl : v = .ref (c + 16) := hv
              refine m_iload_n F rfl e_X10_begins_262 ?_
              refine m_iconst F (v := 2) (by decide) e_X10_begins_263 ?_
              refine m_iadd F e_X10_begins_264 ?_
              refine Wm.topE (w := nI (160 * i + 2)) (nI_add (160 * i) 2) ?_
              refine m_iload_n F rfl e_X10_begins_265 ?_
              refine m_i2l F e_X10_begins_266 ?_
              refine Wm.toplE (w := lN n10712) (nI_l (by omega)) ?_
              refine r_sst F (g' := (⟨T, Z, u, h, P, L1⟩ : RG)) (j := 160 * i + 2) e_X10_begins_267 h10721 (by decide) (nI_clamp (by omega)) (vp_in_nI (by omega) (by decide)) (fun f q => EJ_same ((EJ_l (l := i) (r := 2) (by omega) (by decide)).mpr ⟨n10712, by omega, rfl⟩) q) (fun _ _ _ q => q) (fun σ10726 h10727 g10728 => ?_)
              refine m_iinc F (v := nI (i + 1)) (lv' := [(1, .int (nI (i + 1))), (3, .int (nI n10712)), (0, .ref c), (2, .int (nI (160 * i)))]) e_X10_begins_268 rfl (nI_add i 1) (by decide) rfl ?_
              refine m_goto F e_X10_begins_271 ?_
              refine Wm.lvsub (lv' := [(0, .ref c), (1, .int (nI (i + 1)))]) ?_ [2, 0] rfl
              exact hO (i + 1) L1 _ h10727 hok1 ⟨hi.2.1, by omega⟩ (by omega)
          · refine m_iconst F (v := 1) (by decide) e_X10_begins_243 ?_
            refine m_goto F e_X10_begins_244 ?_
            refine r_zast F (j := i) (m := 1) e_X10_begins_248 h10710 (nI_clamp (by omega)) (vp_in_nI (by omega) (by decide)) (by omega) (by decide) (fun σ10729 h10730 g10731 ezσ10729 => ?_)
            refine m_aload_n F rfl e_X10_begins_249 ?_
            refine r_getC F e_X10_begins_250 fl_X10_75 h10730 ((fld_eq (g10731 _ (by omega))).trans f10719) ?_
            refine m_iload_n F rfl e_X10_begins_253 ?_
            refine r_zald F (j := i) e_X10_begins_254 h10730 (nI_clamp (by omega)) (vp_in_nI (by omega) (by decide)) (fun n10732 hn10732 f10733 => ?_)
            have gn10732 := nI_inj (by omega) (by omega) (Option.some.inj ((f10733).symm.trans (ezσ10729)))
            refine m_if_eq F e_X10_begins_255 (fun q255 => ?_) (fun q255 => ?_)
            · have c255 : n10732 = 0 := (nI_eq (a := n10732) (b := 0) (by omega) (by omega)).mp q255
              refine m_iinc F (v := nI (i + 1)) (lv' := [(1, .int (nI (i + 1))), (3, .int (nI n10712)), (0, .ref c), (2, .int (nI (160 * i)))]) e_X10_begins_268 rfl (nI_add i 1) (by decide) rfl ?_
              refine m_goto F e_X10_begins_271 ?_
              refine Wm.lvsub (lv' := [(0, .ref c), (1, .int (nI (i + 1)))]) ?_ [2, 0] rfl
              exact hO (i + 1) L1 _ h10730 hok1 ⟨hi.2.1, by omega⟩ (by omega)
            · have c255 : n10732 ≠ 0 := by have hh := mt (nI_eq (a := n10732) (b := 0) (by omega) (by omega)).mpr q255; omega
              refine m_aload_n F rfl e_X10_begins_258 ?_
              refine r_get F e_X10_begins_259 fl_X10_59 h10730 rfl (fun v hv f10734 => ?_)
              obtain rfl : v = .ref (c + 16) := hv
              refine m_iload_n F rfl e_X10_begins_262 ?_
              refine m_iconst F (v := 2) (by decide) e_X10_begins_263 ?_
              refine m_iadd F e_X10_begins_264 ?_
              refine Wm.topE (w := nI (160 * i + 2)) (nI_add (160 * i) 2) ?_
              refine m_iload_n F rfl e_X10_begins_265 ?_
              refine m_i2l F e_X10_begins_266 ?_
              refine Wm.toplE (w := lN n10712) (nI_l (by omega)) ?_
              refine r_sst F (g' := (⟨T, Z, u, h, P, L1⟩ : RG)) (j := 160 * i + 2) e_X10_begins_267 h10730 (by decide) (nI_clamp (by omega)) (vp_in_nI (by omega) (by decide)) (fun f q => EJ_same ((EJ_l (l := i) (r := 2) (by omega) (by decide)).mpr ⟨n10712, by omega, rfl⟩) q) (fun _ _ _ q => q) (fun σ10735 h10736 g10737 => ?_)
              refine m_iinc F (v := nI (i + 1)) (lv' := [(1, .int (nI (i + 1))), (3, .int (nI n10712)), (0, .ref c), (2, .int (nI (160 * i)))]) e_X10_begins_268 rfl (nI_add i 1) (by decide) rfl ?_
              refine m_goto F e_X10_begins_271 ?_
              refine Wm.lvsub (lv' := [(0, .ref c), (1, .int (nI (i + 1)))]) ?_ [2, 0] rfl
              exact hO (i + 1) L1 _ h10736 hok1 ⟨hi.2.1, by omega⟩ (by omega)
      · subst q210
        refine m_bipush F (v := (-2)) (by decide) e_X10_begins_213 ?_
        refine m_goto F e_X10_begins_215 ?_
        refine m_istore_n F (lv' := [(3, .int (-2)), (0, .ref c), (1, .int (nI i)), (2, .int (nI (160 * i)))]) e_X10_begins_231 (by decide) rfl ?_
        refine m_aload_n F rfl e_X10_begins_232 ?_
        refine r_get F e_X10_begins_233 fl_X10_75 h1 rfl (fun v hv f10738 => ?_)
        obtain rfl : v = .ref (c + 21) := hv
        refine m_iload_n F rfl e_X10_begins_236 ?_
        refine m_iload_n F rfl e_X10_begins_237 ?_
        refine m_bipush F (v := (-2)) (by decide) e_X10_begins_238 ?_
        refine m_icmp_eq F e_X10_begins_240 (fun _ => ?_) (fun q => absurd (by decide) q)
        refine m_iconst F (v := 0) (by decide) e_X10_begins_247 ?_
        refine r_zast F (j := i) (m := 0) e_X10_begins_248 h1 (nI_clamp (by omega)) (vp_in_nI (by omega) (by decide)) (by omega) (by decide) (fun σ10739 h10740 g10741 ezσ10739 => ?_)
        refine m_aload_n F rfl e_X10_begins_249 ?_
        refine r_getC F e_X10_begins_250 fl_X10_75 h10740 ((fld_eq (g10741 _ (by omega))).trans f10738) ?_
        refine m_iload_n F rfl e_X10_begins_253 ?_
        refine r_zald F (j := i) e_X10_begins_254 h10740 (nI_clamp (by omega)) (vp_in_nI (by omega) (by decide)) (fun n10742 hn10742 f10743 => ?_)
        have gn10742 := nI_inj (by omega) (by omega) (Option.some.inj ((f10743).symm.trans (ezσ10739)))
        refine m_if_eq F e_X10_begins_255 (fun q255 => ?_) (fun q255 => ?_)
        · have c255 : n10742 = 0 := (nI_eq (a := n10742) (b := 0) (by omega) (by omega)).mp q255
          refine m_iinc F (v := nI (i + 1)) (lv' := [(1, .int (nI (i + 1))), (3, .int (-2)), (0, .ref c), (2, .int (nI (160 * i)))]) e_X10_begins_268 rfl (nI_add i 1) (by decide) rfl ?_
          refine m_goto F e_X10_begins_271 ?_
          refine Wm.lvsub (lv' := [(0, .ref c), (1, .int (nI (i + 1)))]) ?_ [2, 0] rfl
          exact hO (i + 1) L1 _ h10740 hok1 ⟨hi.2.1, by omega⟩ (by omega)
        · have c255 : n10742 ≠ 0 := by have hh := mt (nI_eq (a := n10742) (b := 0) (by omega) (by omega)).mpr q255; omega
          exfalso; omega
    · have c149 : k < n10699 := by have hh := mt (nI_leI (a := n10699) (b := k) (by omega) (by omega)).mpr q149; omega
      refine m_aload_n F rfl e_X10_begins_152 ?_
      refine r_get F e_X10_begins_153 fl_X10_59 h1 rfl (fun v hv f10744 => ?_)
      obtain rfl : v = .ref (c + 16) := hv
      refine m_iload_n F rfl e_X10_begins_156 ?_
      refine m_bipush F (v := 13) (by decide) e_X10_begins_157 ?_
      refine m_iadd F e_X10_begins_159 ?_
      refine Wm.topE (w := nI (160 * i + 13)) (nI_add (160 * i) 13) ?_
      refine m_iload_n F rfl e_X10_begins_160 ?_
      refine m_iadd F e_X10_begins_161 ?_
      refine Wm.topE (w := nI ((160 * i + 13) + k)) (nI_add (160 * i + 13) k) ?_
      refine m_aload_n F rfl e_X10_begins_162 ?_
      refine r_get F e_X10_begins_163 fl_X10_37 h1 rfl (fun v hv f10745 => ?_)
      obtain rfl : v = .ref (c + 10) := hv
      refine m_bipush F (v := 48) (by decide) e_X10_begins_166 ?_
      refine m_iload_n F rfl e_X10_begins_168 ?_
      refine m_imul F e_X10_begins_169 ?_
      refine Wm.topE (w := nI (48 * i)) (pk_mul 48 i) ?_
      refine m_iload_n F rfl e_X10_begins_170 ?_
      refine m_iadd F e_X10_begins_171 ?_
      refine Wm.topE (w := nI ((48 * i) + k)) (nI_add (48 * i) k) ?_
      refine r_iald F (len := 384) (j := (48 * i) + k) e_X10_begins_172 h1 (fun _ h => h) (by decide) (nI_clamp (by omega)) (vp_in_nI (by omega) (by decide)) (fun x10746 h10747 f10748 => ?_)
      refine m_i2l F e_X10_begins_173 ?_
      refine Wm.topl (fun x10749 _ => ?_)
      refine r_sst F (g' := (⟨T, Z, u, h, P, L1⟩ : RG)) (j := (160 * i + 13) + k) e_X10_begins_174 h1 (by decide) (nI_clamp (by omega)) (vp_in_nI (by omega) (by decide)) (fun f q => EJ_same (EJ_lw (l := i) (r := ((160 * i + 13) + k) - 160 * i) (by omega) (by omega) (by omega)) q) (fun _ _ _ q => q) (fun σ10750 h10751 g10752 => ?_)
      refine m_aload_n F rfl e_X10_begins_175 ?_
      refine r_getC F e_X10_begins_176 fl_X10_59 h10751 ((fld_eq (g10752 _ (by omega))).trans f10744) ?_
      refine m_iload_n F rfl e_X10_begins_179 ?_
      refine m_bipush F (v := 85) (by decide) e_X10_begins_180 ?_
      refine m_iadd F e_X10_begins_182 ?_
      refine Wm.topE (w := nI (160 * i + 85)) (nI_add (160 * i) 85) ?_
      refine m_iload_n F rfl e_X10_begins_183 ?_
      refine m_iadd F e_X10_begins_184 ?_
      refine Wm.topE (w := nI ((160 * i + 85) + k)) (nI_add (160 * i + 85) k) ?_
      refine m_aload_n F rfl e_X10_begins_185 ?_
      refine r_getC F e_X10_begins_186 fl_X10_37 h10751 ((fld_eq (g10752 _ (by omega))).trans f10745) ?_
      refine m_bipush F (v := 48) (by decide) e_X10_begins_189 ?_
      refine m_iload_n F rfl e_X10_begins_191 ?_
      refine m_imul F e_X10_begins_192 ?_
      refine Wm.topE (w := nI (48 * i)) (pk_mul 48 i) ?_
      refine m_iload_n F rfl e_X10_begins_193 ?_
      refine m_iadd F e_X10_begins_194 ?_
      refine Wm.topE (w := nI ((48 * i) + k)) (nI_add (48 * i) k) ?_
      refine r_iald F (len := 384) (j := (48 * i) + k) e_X10_begins_195 h10751 (fun _ h => h) (by decide) (nI_clamp (by omega)) (vp_in_nI (by omega) (by decide)) (fun x10753 h10754 f10755 => ?_)
      obtain rfl := Option.some.inj ((f10755).symm.trans ((elI_eq (g10752 _ (by omega))).trans f10748))
      refine m_i2l F e_X10_begins_196 ?_
      refine Wm.topl (fun x10756 _ => ?_)
      refine r_sst F (g' := (⟨T, Z, u, h, P, L1⟩ : RG)) (j := (160 * i + 85) + k) e_X10_begins_197 h10751 (by decide) (nI_clamp (by omega)) (vp_in_nI (by omega) (by decide)) (fun f q => EJ_same (EJ_lw (l := i) (r := ((160 * i + 85) + k) - 160 * i) (by omega) (by omega) (by omega)) q) (fun _ _ _ q => q) (fun σ10757 h10758 g10759 => ?_)
      refine m_iinc F (v := nI (k + 1)) (lv' := [(3, .int (nI (k + 1))), (0, .ref c), (1, .int (nI i)), (2, .int (nI (160 * i)))]) e_X10_begins_198 rfl (nI_add k 1) (by decide) rfl ?_
      refine m_goto F e_X10_begins_201 ?_
      refine Wm.lvsub (lv' := [(0, .ref c), (1, .int (nI i)), (2, .int (nI (160 * i))), (3, .int (nI (k + 1)))]) ?_ [1, 2, 3, 0] rfl
      exact ih i (k + 1) L1 _ h10758 hok1 ⟨by omega, hi.2.1, by omega, by omega⟩ (by omega)
set_option maxRecDepth 20000 in
theorem lq_X10_begins_96 {V : VX} {X : MX} {N : Nat} {σ : Mem} {c T Z u h : Nat} {P : NP} {L : Nat → LQ}   (F : Fx V X yX10_begins cX10_begins 4 none (rmd 3 0 0)) (hQ : Rt V X 0 0 N (fun r τ => ∃ L9, OKL P.n0 L9 ∧ HS V c (⟨T, Z, u, h, P, L9⟩ : RG) [0, 1, 2, 3, 4, 5, 6, 7, 8, 9, 10, 11, 12, 13, 14, 15, 16, 18, 19, 20, 21, 23] σ τ ∧ r = none)) (hob : OKB L) (hP : OKP P) (hp0 : P.n0 ≤ P.m0) (hp1 : P.n2 ≤ P.w2)  : ∀ (fuel : Nat) (i : Nat) (L1 : Nat → LQ) (τ : Mem), HS V c (⟨T, Z, u, h, P, L1⟩ : RG) [0, 1, 2, 3, 4, 5, 6, 7, 8, 9, 10, 11, 12, 13, 14, 15, 16, 18, 19, 20, 21, 23] σ τ → OKL i L1 → (∀ l, l < 4 → (L1 l).1 = 0 ∧ (L1 l).2.2.1 = 0 ∧ (L1 l).2.2.2 = 0) ∧ i ≤ P.n0 → 4 - i < fuel → Wm V X 4 N τ 0 0 96 [(0, .ref c), (1, .int (nI i))] [] := by
  intro fuel
  induction fuel with
  | zero => intros; rename_i hm; exact absurd hm (Nat.not_lt_zero _)
  | succ fuel ih =>
    intro i L1 τ h1 hok1 hi hm
    have hPP := hP
    unfold OKP at hPP
    refine m_iload_n F rfl e_X10_begins_96 ?_
    refine m_aload_n F rfl e_X10_begins_97 ?_
    refine r_callV F e_X10_begins_98 (q_X10_leases (x_l X) V c T Z u h P L1 _ _  h1.1 (hok1.b) hP ) cb_X10_leases ml_X10_221 im_X10_leases se_X10_leases h1 rfl rfl (rest := [.int (nI i)]) rfl (Nat.le_of_ble_eq_true rfl) ⟨Nat.le_of_ble_eq_true rfl, Nat.le_of_ble_eq_true rfl⟩ ⟨Nat.le_of_ble_eq_true rfl, Nat.le_of_ble_eq_true rfl⟩ (fun r σ10760 hp => ?_)
    obtain ⟨h10761, rfl⟩ := hp
    have h10762 := HS.trans h1 h10761 (by decide)
    refine m_icmp_ge F e_X10_begins_101 (fun q101 => ?_) (fun q101 => ?_)
    · have c101 : i ≥ P.n0 := (nI_leI (a := P.n0) (b := i) (by omega) (by omega)).mp q101
      have okf : OKL P.n0 L1 := by rw [show P.n0 = i by omega]; exact hok1
      have okf : OKL P.n0 L1 := by rw [show P.n0 = i by omega]; exact hok1
      exact m_vret F hQ e_X10_begins_274 (⟨L1, okf, h10762, rfl⟩)
    · have c101 : i < P.n0 := by have hh := mt (nI_leI (a := P.n0) (b := i) (by omega) (by omega)).mpr q101; omega
      refine m_sipush F (v := 160) (by decide) e_X10_begins_104 ?_
      refine m_iload_n F rfl e_X10_begins_107 ?_
      refine m_imul F e_X10_begins_108 ?_
      refine Wm.topE (w := nI (160 * i)) (pk_mul 160 i) ?_
      refine m_istore_n F (lv' := [(2, .int (nI (160 * i))), (0, .ref c), (1, .int (nI i))]) e_X10_begins_109 (by decide) rfl ?_
      refine m_aload_n F rfl e_X10_begins_110 ?_
      refine r_get F e_X10_begins_111 fl_X10_59 h10762 rfl (fun v hv f10763 => ?_)
      obtain rfl : v = .ref (c + 16) := hv
      refine m_iload_n F rfl e_X10_begins_114 ?_
      refine m_iconst F (v := 1) (by decide) e_X10_begins_115 ?_
      refine m_iadd F e_X10_begins_116 ?_
      refine Wm.topE (w := nI (160 * i + 1)) (nI_add (160 * i) 1) ?_
      refine m_aload_n F rfl e_X10_begins_117 ?_
      refine r_get F e_X10_begins_118 fl_X10_22 h10762 rfl (fun v hv f10764 => ?_)
      obtain rfl : v = .ref (c + 5) := hv
      refine m_iload_n F rfl e_X10_begins_121 ?_
      refine r_iald F (len := 8) (j := i) e_X10_begins_122 h10762 (fun _ h => h) (by decide) (nI_clamp (by omega)) (vp_in_nI (by omega) (by decide)) (fun x10765 h10766 f10767 => ?_)
      obtain ⟨n10768, hn10768, rfl, pn10768, rn10768⟩ := h10766
      refine m_i2l F e_X10_begins_123 ?_
      refine Wm.toplE (w := lN n10768) (nI_l (by omega)) ?_
      refine r_sst F (g' := (⟨T, Z, u, h, P, (updL L1 i ((L1 i).1, n10768, (L1 i).2.2.1, (L1 i).2.2.2))⟩ : RG)) (j := 160 * i + 1) e_X10_begins_124 h10762 (by decide) (nI_clamp (by omega)) (vp_in_nI (by omega) (by decide)) (fun f q => EJ_up (l := i) (r := 1) (by omega) (by decide) q rfl (by intro r' h1 h2 y hy; revert hy; unfold EL; split <;> simp_all)) CR.row (fun σ10769 h10770 g10771 => ?_)
      obtain ⟨L10772, eL10772⟩ : ∃ L9, L9 = (updL L1 i ((L1 i).1, n10768, (L1 i).2.2.1, (L1 i).2.2.2)) := ⟨_, rfl⟩
      rw [← eL10772] at h10770
      have fL10772 : L10772 i = ((L1 i).1, n10768, (L1 i).2.2.1, (L1 i).2.2.2) := by rw [eL10772]; exact if_pos rfl
      have fL107720 : (L10772 i).1 = (L1 i).1 := by rw [fL10772]
      have fL107721 : (L10772 i).2.1 = n10768 := by rw [fL10772]
      have fL107722 : (L10772 i).2.2.1 = (L1 i).2.2.1 := by rw [fL10772]
      have fL107723 : (L10772 i).2.2.2 = (L1 i).2.2.2 := by rw [fL10772]
      have oL10772 : ∀ i9, i9 ≠ i → L10772 i9 = L1 i9 := fun i9 hi9 => by rw [eL10772]; exact if_neg hi9
      have pL10772 : (L10772 4).1 = (L1 4).1 := by rw [oL10772 4 (by omega)]
      refine m_aload_n F rfl e_X10_begins_125 ?_
      refine r_getC F e_X10_begins_126 fl_X10_59 h10770 ((fld_eq (g10771 _ (by omega))).trans f10763) ?_
      refine m_iload_n F rfl e_X10_begins_129 ?_
      refine m_iconst F (v := 2) (by decide) e_X10_begins_130 ?_
      refine m_iadd F e_X10_begins_131 ?_
      refine Wm.topE (w := nI (160 * i + 2)) (nI_add (160 * i) 2) ?_
      refine m_aload_n F rfl e_X10_begins_132 ?_
      refine r_get F e_X10_begins_133 fl_X10_25 h10770 rfl (fun v hv f10773 => ?_)
      obtain rfl : v = .ref (c + 6) := hv
      refine m_iload_n F rfl e_X10_begins_136 ?_
      refine r_iald F (len := 8) (j := i) e_X10_begins_137 h10770 (fun _ h => h) (by decide) (nI_clamp (by omega)) (vp_in_nI (by omega) (by decide)) (fun x10774 h10775 f10776 => ?_)
      obtain ⟨n10777, hn10777, rfl⟩ := h10775
      refine m_i2l F e_X10_begins_138 ?_
      refine Wm.toplE (w := lN n10777) (nI_l (by omega)) ?_
      refine r_sst F (g' := (⟨T, Z, u, h, P, L10772⟩ : RG)) (j := 160 * i + 2) e_X10_begins_139 h10770 (by decide) (nI_clamp (by omega)) (vp_in_nI (by omega) (by decide)) (fun f q => EJ_same ((EJ_l (l := i) (r := 2) (by omega) (by decide)).mpr ⟨n10777, by omega, rfl⟩) q) (fun _ _ _ q => q) (fun σ10778 h10779 g10780 => ?_)
      refine m_iconst F (v := 0) (by decide) e_X10_begins_140 ?_
      refine m_istore_n F (lv' := [(3, .int 0), (2, .int (nI (160 * i))), (0, .ref c), (1, .int (nI i))]) e_X10_begins_141 (by decide) rfl ?_
      have hp9 : 1 ≤ n10768 := pn10768 (by omega) (show i < P.m0 by omega)
      have h9a := hok1.2 i (by omega)
      have h9b := hi.1 i (by omega)
      have okx : OKL (i + 1) L10772 := OKL.updS hok1 (by omega) (fun i9 hi9 => oL10772 i9 hi9) (by omega)
      have hz9 : ∀ l, l < 4 → (L10772 l).1 = 0 ∧ (L10772 l).2.2.1 = 0 ∧ (L10772 l).2.2.2 = 0 := by
        intro l hl
        by_cases e : l = i
        · subst e; omega
        · rw [oL10772 l e]; exact hi.1 l hl
      refine Wm.lvsub (lv' := [(0, .ref c), (1, .int (nI i)), (2, .int (nI (160 * i))), (3, .int 0)]) ?_ [2, 3, 1, 0] rfl
      exact lq_X10_begins_142 F hQ hob hP hp0 hp1 ih (48 - 0 + 1) i 0 L10772 _ h10779 okx ⟨by omega, hz9, by omega, by omega⟩ (Nat.lt_succ_self _)
set_option maxRecDepth 20000 in
theorem bg_45 {V : VX} {X : MX} {N : Nat} {σ : Mem} {c T Z u h : Nat} {P : NP} {L : Nat → LQ} (F : Fx V X yX10_begins cX10_begins 4 none (rmd 3 0 0)) (hQ : Rt V X 0 0 N (fun r τ => ∃ L9, OKL P.n0 L9 ∧ HS V c (⟨T, Z, u, h, P, L9⟩ : RG) [0, 1, 2, 3, 4, 5, 6, 7, 8, 9, 10, 11, 12, 13, 14, 15, 16, 18, 19, 20, 21, 23] σ τ ∧ r = none)) (h0 : HR V c ⟨T, Z, u, h, P, L⟩ σ) (hob : OKB L) (hP : OKP P) (hp0 : P.n0 ≤ P.m0) (hp1 : P.n2 ≤ P.w2) {fs : List Value} {fN fA fB : Nat → Int32} (e1 : σ c = some (ob 8 fs)) (e27 : fs[27]? = some (.ref (c + 16))) (e3 : fs[3]? = some (.ref (c + 2))) (e12 : fs[12]? = some (.ref (c + 11))) (e13 : fs[13]? = some (.ref (c + 12))) (eN : σ (c + 2) = some (aI V 10 fN)) (tN : fN 2 = nI P.n2) (eA : σ (c + 11) = some (aI V 16 fA)) (tA : ∀ i, i < 16 → bN 99 (fA i)) (eB : σ (c + 12) = some (aI V 16 fB)) (tB : ∀ i, i < 16 → EI P 13 i (fB i)) {fuelO : Nat} (hO : ∀ (p : Nat) (f : Nat → Int64) (τ : Mem), upto c 16 (aJ V 1113 f) σ τ → PZ p f → p ≤ 100 → 100 - p < fuelO → Wm V X 4 N τ 0 0 24 [(1, .int (nI p)), (0, .ref c)] []) : ∀ (fuel : Nat) (k p : Nat) (f : Nat → Int64) (τ : Mem), upto c 16 (aJ V 1113 f) σ τ → PZ (p + 1) f → p < 100 → 100 - p ≤ fuelO → k ≤ 8 → 8 - k < fuel → Wm V X 4 N τ 0 0 45 [(2, .int (nI k)), (1, .int (nI p)), (0, .ref c)] [] := by
  intro fuel
  induction fuel with
  | zero => intros; rename_i hm; exact absurd hm (Nat.not_lt_zero _)
  | succ fuel ih =>
    intro k p f τ hτ hz hp hf hk hm
    have hPP := hP
    unfold OKP at hPP
    refine m_iload_n F rfl e_X10_begins_45 ?_
    refine m_aload_n F rfl e_X10_begins_46 ?_
    refine m_get F e_X10_begins_47 fl_X10_13 ((hτ.2 c (by omega)).trans e1) e3 ?_
    refine m_iconst F (v := 2) (by decide) e_X10_begins_50 ?_
    refine m_iald F e_X10_begins_51 ((hτ.2 (c + 2) (by omega)).trans eN) (j := 2) (by decide) (by unfold vp_in; decide) ?_
    refine Wm.topE (w := nI P.n2) tN ?_
    refine m_icmp_ge F e_X10_begins_52 (fun q52 => ?_) (fun q52 => ?_)
    · have c52 : k ≥ P.n2 := (nI_leI (a := P.n2) (b := k) (by omega) (by omega)).mp q52
      refine m_iinc F (v := nI (p + 1)) (lv' := [(1, .int (nI (p + 1))), (2, .int (nI k)), (0, .ref c)]) e_X10_begins_88 rfl (nI_add p 1) (by decide) rfl ?_
      refine m_goto F e_X10_begins_91 ?_
      refine Wm.lvsub (lv' := [(1, .int (nI (p + 1))), (0, .ref c)]) ?_ [0, 2] rfl
      exact hO (p + 1) _ _ hτ hz (by omega) (by omega)
    · have c52 : k < P.n2 := by have hh := mt (nI_leI (a := P.n2) (b := k) (by omega) (by omega)).mpr q52; omega
      refine m_aload_n F rfl e_X10_begins_55 ?_
      refine m_get F e_X10_begins_56 fl_X10_40 ((hτ.2 c (by omega)).trans e1) e12 ?_
      refine m_iload_n F rfl e_X10_begins_59 ?_
      refine m_iald F e_X10_begins_60 ((hτ.2 (c + 11) (by omega)).trans eA) (j := k) (nI_clamp (by omega)) (vp_in_nI (by omega) (by decide)) ?_
      obtain ⟨na, ha, ea⟩ := tA k (by omega)
      refine Wm.topE (w := nI na) ea ?_
      refine m_iload_n F rfl e_X10_begins_61 ?_
      refine m_icmp_gt F e_X10_begins_62 (fun q62 => ?_) (fun q62 => ?_)
      · have c62 : na > p := (nI_ltI (a := p) (b := na) (by omega) (by omega)).mp q62
        refine m_iinc F (v := nI (k + 1)) (lv' := [(2, .int (nI (k + 1))), (1, .int (nI p)), (0, .ref c)]) e_X10_begins_82 rfl (nI_add k 1) (by decide) rfl ?_
        refine m_goto F e_X10_begins_85 ?_
        exact ih (k + 1) p _ _ hτ hz hp hf (by omega) (by omega)
      · have c62 : na ≤ p := by have hh := mt (nI_ltI (a := p) (b := na) (by omega) (by omega)).mpr q62; omega
        refine m_aload_n F rfl e_X10_begins_65 ?_
        refine m_get F e_X10_begins_66 fl_X10_59 ((hτ.2 c (by omega)).trans e1) e27 ?_
        refine m_sipush F (v := 644) (by decide) e_X10_begins_69 ?_
        refine m_iload_n F rfl e_X10_begins_72 ?_
        refine m_iadd F e_X10_begins_73 ?_
        refine Wm.topE (w := nI (644 + p)) (nI_add 644 p) ?_
        refine m_aload_n F rfl e_X10_begins_74 ?_
        refine m_get F e_X10_begins_75 fl_X10_43 ((hτ.2 c (by omega)).trans e1) e13 ?_
        refine m_iload_n F rfl e_X10_begins_78 ?_
        refine m_iald F e_X10_begins_79 ((hτ.2 (c + 12) (by omega)).trans eB) (j := k) (nI_clamp (by omega)) (vp_in_nI (by omega) (by decide)) ?_
        obtain ⟨nb, hb, eb, pb, rb⟩ := tB k (by omega)
        have hb9 := pb (by omega) (show k < P.w2 by omega)
        refine Wm.topE (w := nI nb) eb ?_
        refine m_i2l F e_X10_begins_80 ?_
        refine Wm.toplE (w := lN nb) (nI_l (by omega)) ?_
        refine m_last F e_X10_begins_81 hτ.1 (j := 644 + p) (nI_clamp (by omega)) (vp_in_nI (by omega) (by decide)) rfl rfl ?_
        have hτ2 := va_upto (e' := aJ V 1113 (vp_updL f (644 + p) (lN nb))) hτ
        refine m_iinc F (v := nI (k + 1)) (lv' := [(2, .int (nI (k + 1))), (1, .int (nI p)), (0, .ref c)]) e_X10_begins_82 rfl (nI_add k 1) (by decide) rfl ?_
        refine m_goto F e_X10_begins_85 ?_
        exact ih (k + 1) p _ _ hτ2 (PZ.put2 hz (by omega) ⟨by omega, by omega⟩) hp hf (by omega) (by omega)
set_option maxRecDepth 20000 in
theorem bg_24 {V : VX} {X : MX} {N : Nat} {σ : Mem} {c T Z u h : Nat} {P : NP} {L : Nat → LQ} (F : Fx V X yX10_begins cX10_begins 4 none (rmd 3 0 0)) (hQ : Rt V X 0 0 N (fun r τ => ∃ L9, OKL P.n0 L9 ∧ HS V c (⟨T, Z, u, h, P, L9⟩ : RG) [0, 1, 2, 3, 4, 5, 6, 7, 8, 9, 10, 11, 12, 13, 14, 15, 16, 18, 19, 20, 21, 23] σ τ ∧ r = none)) (h0 : HR V c ⟨T, Z, u, h, P, L⟩ σ) (hob : OKB L) (hP : OKP P) (hp0 : P.n0 ≤ P.m0) (hp1 : P.n2 ≤ P.w2) {fs : List Value} {fN fA fB : Nat → Int32} (e1 : σ c = some (ob 8 fs)) (e27 : fs[27]? = some (.ref (c + 16))) (e3 : fs[3]? = some (.ref (c + 2))) (e12 : fs[12]? = some (.ref (c + 11))) (e13 : fs[13]? = some (.ref (c + 12))) (eN : σ (c + 2) = some (aI V 10 fN)) (tN : fN 2 = nI P.n2) (eA : σ (c + 11) = some (aI V 16 fA)) (tA : ∀ i, i < 16 → bN 99 (fA i)) (eB : σ (c + 12) = some (aI V 16 fB)) (tB : ∀ i, i < 16 → EI P 13 i (fB i))  : ∀ (fuel : Nat) (p : Nat) (f : Nat → Int64) (τ : Mem), upto c 16 (aJ V 1113 f) σ τ → PZ p f → p ≤ 100 → 100 - p < fuel → Wm V X 4 N τ 0 0 24 [(1, .int (nI p)), (0, .ref c)] [] := by
  intro fuel
  induction fuel with
  | zero => intros; rename_i hm; exact absurd hm (Nat.not_lt_zero _)
  | succ fuel ih =>
    intro p f τ hτ hz hp hm
    have hPP := hP
    unfold OKP at hPP
    refine m_iload_n F rfl e_X10_begins_24 ?_
    refine m_bipush F (v := 99) (by decide) e_X10_begins_25 ?_
    refine m_icmp_gt F e_X10_begins_27 (fun q27 => ?_) (fun q27 => ?_)
    · have c27 : p > 99 := (nI_ltI (a := 99) (b := p) (by omega) (by omega)).mp q27
      refine m_iconst F (v := 0) (by decide) e_X10_begins_94 ?_
      refine m_istore_n F (lv' := [(1, .int 0), (0, .ref c)]) e_X10_begins_95 (by decide) rfl ?_
      refine Wm.lvsub (lv' := [(0, .ref c), (1, .int 0)]) ?_ [1, 0] rfl
      have hpz : PZ 100 f := by rw [show 100 = p by omega]; exact hz
      have h1 : HS V c ⟨T, Z, u, h, P, L0⟩ [0, 1, 2, 3, 4, 5, 6, 7, 8, 9, 10, 11, 12, 13, 14, 15, 16, 18, 19, 20, 21, 23] σ τ := HS.cp (k := 16) (HS.start h0) hτ (by decide) (by decide) ⟨_, rfl, PZ.typed hpz⟩ CR.row
      exact lq_X10_begins_96 F hQ hob hP hp0 hp1 5 0 L0 _ h1 OKL.zero ⟨fun _ _ => ⟨rfl, rfl, rfl⟩, by omega⟩ (by omega)
    · have c27 : p ≤ 99 := by have hh := mt (nI_ltI (a := 99) (b := p) (by omega) (by omega)).mpr q27; omega
      refine m_aload_n F rfl e_X10_begins_30 ?_
      refine m_get F e_X10_begins_31 fl_X10_59 ((hτ.2 c (by omega)).trans e1) e27 ?_
      refine m_sipush F (v := 644) (by decide) e_X10_begins_34 ?_
      refine m_iload_n F rfl e_X10_begins_37 ?_
      refine m_iadd F e_X10_begins_38 ?_
      refine Wm.topE (w := nI (644 + p)) (nI_add 644 p) ?_
      refine m_ldc2 F kc_X10_224 e_X10_begins_39 ?_
      refine m_last F e_X10_begins_42 hτ.1 (j := 644 + p) (nI_clamp (by omega)) (vp_in_nI (by omega) (by decide)) rfl rfl ?_
      have hτ2 := va_upto (e' := aJ V 1113 (vp_updL f (644 + p) 1000)) hτ
      refine m_iconst F (v := 0) (by decide) e_X10_begins_43 ?_
      refine m_istore_n F (lv' := [(2, .int 0), (1, .int (nI p)), (0, .ref c)]) e_X10_begins_44 (by decide) rfl ?_
      exact bg_45 F hQ h0 hob hP hp0 hp1 e1 e27 e3 e12 e13 eN tN eA tA eB tB (fun p f τ => ih p f τ) 9 0 p _ _ hτ2 (PZ.put (m := 1000) hz (by omega) ⟨by omega, by omega⟩) (by omega) (by omega) (by omega) (by omega)
set_option maxRecDepth 20000 in
theorem bg_2 {V : VX} {X : MX} {N : Nat} {σ : Mem} {c T Z u h : Nat} {P : NP} {L : Nat → LQ} (F : Fx V X yX10_begins cX10_begins 4 none (rmd 3 0 0)) (hQ : Rt V X 0 0 N (fun r τ => ∃ L9, OKL P.n0 L9 ∧ HS V c (⟨T, Z, u, h, P, L9⟩ : RG) [0, 1, 2, 3, 4, 5, 6, 7, 8, 9, 10, 11, 12, 13, 14, 15, 16, 18, 19, 20, 21, 23] σ τ ∧ r = none)) (h0 : HR V c ⟨T, Z, u, h, P, L⟩ σ) (hob : OKB L) (hP : OKP P) (hp0 : P.n0 ≤ P.m0) (hp1 : P.n2 ≤ P.w2) {fs : List Value} {fN fA fB : Nat → Int32} (e1 : σ c = some (ob 8 fs)) (e27 : fs[27]? = some (.ref (c + 16))) (e3 : fs[3]? = some (.ref (c + 2))) (e12 : fs[12]? = some (.ref (c + 11))) (e13 : fs[13]? = some (.ref (c + 12))) (eN : σ (c + 2) = some (aI V 10 fN)) (tN : fN 2 = nI P.n2) (eA : σ (c + 11) = some (aI V 16 fA)) (tA : ∀ i, i < 16 → bN 99 (fA i)) (eB : σ (c + 12) = some (aI V 16 fB)) (tB : ∀ i, i < 16 → EI P 13 i (fB i))  : ∀ (fuel : Nat) (k : Nat) (f : Nat → Int64) (τ : Mem), upto c 16 (aJ V 1113 f) σ τ → ZF k f → k ≤ 1113 → 1113 - k < fuel → Wm V X 4 N τ 0 0 2 [(1, .int (nI k)), (0, .ref c)] [] := by
  intro fuel
  induction fuel with
  | zero => intros; rename_i hm; exact absurd hm (Nat.not_lt_zero _)
  | succ fuel ih =>
    intro k f τ hτ hz hk hm
    have hPP := hP
    unfold OKP at hPP
    refine m_iload_n F rfl e_X10_begins_2 ?_
    refine m_sipush F (v := 1113) (by decide) e_X10_begins_3 ?_
    refine m_icmp_ge F e_X10_begins_6 (fun q6 => ?_) (fun q6 => ?_)
    · have c6 : k ≥ 1113 := (nI_leI (a := 1113) (b := k) (by omega) (by omega)).mp q6
      refine m_iconst F (v := 0) (by decide) e_X10_begins_22 ?_
      refine m_istore_n F (lv' := [(1, .int 0), (0, .ref c)]) e_X10_begins_23 (by decide) rfl ?_
      exact bg_24 F hQ h0 hob hP hp0 hp1 e1 e27 e3 e12 e13 eN tN eA tA eB tB 101 0 _ _ hτ (PZ.zero (by rw [show 1113 = k by omega]; exact hz)) (by omega) (by omega)
    · have c6 : k < 1113 := by have hh := mt (nI_leI (a := 1113) (b := k) (by omega) (by omega)).mpr q6; omega
      refine m_aload_n F rfl e_X10_begins_9 ?_
      refine m_get F e_X10_begins_10 fl_X10_59 ((hτ.2 c (by omega)).trans e1) e27 ?_
      refine m_iload_n F rfl e_X10_begins_13 ?_
      refine m_lconst F (v := 0) (by decide) e_X10_begins_14 ?_
      refine m_last F e_X10_begins_15 hτ.1 (j := k) (nI_clamp (by omega)) (vp_in_nI (by omega) (by decide)) rfl rfl ?_
      have hτ2 := va_upto (e' := aJ V 1113 (vp_updL f (k) 0)) hτ
      refine m_iinc F (v := nI (k + 1)) (lv' := [(1, .int (nI (k + 1))), (0, .ref c)]) e_X10_begins_16 rfl (nI_add k 1) (by decide) rfl ?_
      refine m_goto F e_X10_begins_19 ?_
      exact ih (k + 1) _ _ hτ2 (ZF.put hz) (by omega) (by omega)
set_option maxRecDepth 20000 in
theorem bg_start {V : VX} {X : MX} {N : Nat} {σ : Mem} {c T Z u h : Nat} {P : NP} {L : Nat → LQ} (F : Fx V X yX10_begins cX10_begins 4 none (rmd 3 0 0)) (hQ : Rt V X 0 0 N (fun r τ => ∃ L9, OKL P.n0 L9 ∧ HS V c (⟨T, Z, u, h, P, L9⟩ : RG) [0, 1, 2, 3, 4, 5, 6, 7, 8, 9, 10, 11, 12, 13, 14, 15, 16, 18, 19, 20, 21, 23] σ τ ∧ r = none)) (h0 : HR V c ⟨T, Z, u, h, P, L⟩ σ) (hob : OKB L) (hP : OKP P) (hp0 : P.n0 ≤ P.m0) (hp1 : P.n2 ≤ P.w2)  : Wm V X 4 N σ 0 0 0 [(0, .ref c)] [] := by
  refine m_iconst F (v := 0) (by decide) e_X10_begins_0 ?_
  refine m_istore_n F (lv' := [(1, .int 0), (0, .ref c)]) e_X10_begins_1 (by decide) rfl ?_
  obtain ⟨fs, e1, ty⟩ : ∃ fs, σ c = some (ob 8 fs) ∧ TyO c ⟨T, Z, u, h, P, L⟩ fs := h0.cell (k := 0) (by decide)
  obtain ⟨_, e27, rfl⟩ := ty.2 27 (3, 16) rfl
  obtain ⟨_, e3, rfl⟩ := ty.2 3 (3, 2) rfl
  obtain ⟨_, e12, rfl⟩ := ty.2 12 (3, 11) rfl
  obtain ⟨_, e13, rfl⟩ := ty.2 13 (3, 12) rfl
  obtain ⟨fN, eN, tN⟩ : ∃ f, σ (c + 2) = some (aI V 10 f) ∧ ∀ i, i < 10 → EI P 3 i (f i) := h0.cell (k := 2) (by decide)
  obtain ⟨fA, eA, tA⟩ : ∃ f, σ (c + 11) = some (aI V 16 f) ∧ ∀ i, i < 16 → EI P 12 i (f i) := h0.cell (k := 11) (by decide)
  obtain ⟨fB, eB, tB⟩ : ∃ f, σ (c + 12) = some (aI V 16 f) ∧ ∀ i, i < 16 → EI P 13 i (f i) := h0.cell (k := 12) (by decide)
  obtain ⟨f, e16, -⟩ : ∃ f, σ (c + 16) = some (aJ V 1113 f) ∧ ∀ i, i < 1113 → EJ L i (f i) := h0.cell (k := 16) (by decide)
  exact bg_2 F hQ h0 hob hP hp0 hp1 e1 e27 e3 e12 e13 eN ((tN 2 (by decide)).2.1 rfl) eA (fun i hi => tA i hi) eB tB 1114 0 f σ ⟨e16, fun _ _ => rfl⟩ (fun i hi => absurd hi (Nat.not_lt_zero _)) (by omega) (by omega)
set_option maxRecDepth 20000 in
theorem q_X10_begins (l : Launch) (V : VX) (c T Z u h : Nat) (P : NP) (L : Nat → LQ) (N : Nat) (σ : Mem)  (h0 : HR V c ⟨T, Z, u, h, P, L⟩ σ) (hob : OKB L) (hP : OKP P) (hp0 : P.n0 ≤ P.m0) (hp1 : P.n2 ≤ P.w2) : Ct l V yX10_begins cX10_begins 4 none 3 0 0 N σ [.ref c] (fun r τ => ∃ L9, OKL P.n0 L9 ∧ HS V c (⟨T, Z, u, h, P, L9⟩ : RG) [0, 1, 2, 3, 4, 5, 6, 7, 8, 9, 10, 11, 12, 13, 14, 15, 16, 18, 19, 20, 21, 23] σ τ ∧ r = none) := by
  refine Ct.of (by decide) (Nat.le_of_ble_eq_true rfl) [(0, .ref c)] rfl (fun X hX F hQ => ?_)
  have hPP := hP
  unfold OKP at hPP
  have h1 : HS V c ⟨T, Z, u, h, P, L⟩ [0, 1, 2, 3, 4, 5, 6, 7, 8, 9, 10, 11, 12, 13, 14, 15, 16, 18, 19, 20, 21, 23] σ σ := HS.start h0
  exact bg_start F hQ h0 hob hP hp0 hp1
def Gd (u h : Nat) (P : NP) (L : Nat → LQ) : Prop := u ≤ 20 ∧ h ≤ 1 ∧ OKP P ∧ P.kk = P.n0 ∧ P.n0 ≤ P.m0 ∧ P.n2 ≤ P.w2 ∧ OKL P.n0 L
set_option maxRecDepth 20000 in
theorem q_X10_text (l : Launch) (V : VX) (c T Z u h : Nat) (P : NP) (L : Nat → LQ) (N : Nat) (σ : Mem) (x901 : Int32) (h0 : HR V c ⟨T, Z, u, h, P, L⟩ σ) (hok : OKL P.n0 L) (hP : OKP P) (hp0 : u ≤ 20) (hp1 : h ≤ 1) (hp2 : P.kk = P.n0) (hp3 : T ≤ 700) (hp4 : P.n0 ≤ P.m0) (hp5 : P.n2 ≤ P.w2) : Ct l V yX10_text cX10_text 2 (some .int) 11 0 0 N σ [.ref c, .int x901] (fun r τ => (∃ x : Int32, r = some (.int x)) ∧ (((x901 < 0 ∨ ∃ n : Nat, n ≤ 2147483647 ∧ x901 = nI n ∧ T < n) ∧ HS V c (⟨T, Z, u, h, P, L⟩ : RG) [0, 2, 18, 19, 20, 21, 23] σ τ) ∨ ∃ n : Nat, x901 = nI n ∧ n ≤ T ∧ ∃ (u9 h9 : Nat) (P9 : NP) (L9 : Nat → LQ), Gd u9 h9 P9 L9 ∧ HS V c (⟨0, 1, u9, h9, P9, L9⟩ : RG) [0, 2, 18, 19, 20, 21, 23] σ τ)) := by
  refine Ct.of (by decide) (Nat.le_of_ble_eq_true rfl) [(0, .ref c), (1, .int x901)] rfl (fun X hX F hQ => ?_)
  have hPP := hP
  unfold OKP at hPP
  have h1 : HS V c ⟨T, Z, u, h, P, L⟩ [0, 2, 18, 19, 20, 21, 23] σ σ := HS.start h0
  refine m_aload_n F rfl e_X10_text_0 ?_
  refine m_iconst F (v := 0) (by decide) e_X10_text_1 ?_
  refine r_put F (g' := (⟨T, Z, u, h, P, L⟩ : RG)) e_X10_text_2 fp_X10_91 h1 (by decide) ⟨_, rfl⟩ (fun _ _ _ _ q => q) (fun _ _ _ q => q) rfl rfl (by decide) (fun σ10781 h10782 g10783 g10784 f10785 => ?_)
  refine m_iload_n F rfl e_X10_text_5 ?_
  refine m_if_lt F e_X10_text_6 (fun q6 => ?_) (fun q6 => ?_)
  · refine m_bipush F (v := (-2)) (by decide) e_X10_text_17 ?_
    exact m_iret F hQ e_X10_text_19 (⟨⟨_, rfl⟩, Or.inl ⟨Or.inl q6, h10782⟩⟩)
  · obtain ⟨n10786, hn10786, rfl⟩ := nI_nn (x := x901) (fun e => q6 (Int32.lt_of_lt_of_le e (by decide)))
    have c6 : n10786 ≥ 0 := by have hh := mt (nI_ltI (a := n10786) (b := 0) (by omega) (by omega)).mpr q6; omega
    refine m_iload_n F rfl e_X10_text_9 ?_
    refine m_aload_n F rfl e_X10_text_10 ?_
    refine r_get F e_X10_text_11 fl_X10_94 h10782 rfl (fun v hv f10787 => ?_)
    obtain rfl : v = .int (nI (T)) := hv
    refine m_icmp_le F e_X10_text_14 (fun q14 => ?_) (fun q14 => ?_)
    · have c14 : n10786 ≤ T := (nI_leI (a := n10786) (b := T) (by omega) (by omega)).mp q14
      refine m_aload_n F rfl e_X10_text_20 ?_
      refine m_iload_n F rfl e_X10_text_21 ?_
      refine r_callV F e_X10_text_22 (q_X10_readText (x_l X) V c T Z u h P L _ _ n10786 h10782.1 (hok.b) hP (by omega)) cb_X10_readText ml_X10_208 im_X10_readText se_X10_readText h10782 rfl rfl (rest := []) rfl (Nat.le_of_ble_eq_true rfl) ⟨Nat.le_of_ble_eq_true rfl, Nat.le_of_ble_eq_true rfl⟩ ⟨Nat.le_of_ble_eq_true rfl, Nat.le_of_ble_eq_true rfl⟩ (fun r σ10788 hp => ?_)
      obtain ⟨P10791, oP10791, rP10791, h10789, rfl⟩ := hp
      have h10790 := HS.trans h10782 h10789 (by decide)
      have xP10791 := oP10791
      unfold OKP at xP10791
      unfold RQ at rP10791
      refine m_aload_n F rfl e_X10_text_25 ?_
      refine m_iconst F (v := 0) (by decide) e_X10_text_26 ?_
      refine r_put F (g' := (⟨0, 1, u, h, P10791, L⟩ : RG)) e_X10_text_27 fp_X10_94 h10790 (by decide) rfl ctl_T CR.ctl rfl rfl (by decide) (fun σ10792 h10793 g10794 g10795 f10796 => ?_)
      refine m_aload_n F rfl e_X10_text_30 ?_
      refine m_aload_n F rfl e_X10_text_31 ?_
      refine r_get F e_X10_text_32 fl_X10_141 h10793 rfl (fun v hv f10797 => ?_)
      obtain ⟨x10798, hx10798, rfl⟩ := hv
      replace hx10798 : 1 = 0 → x10798 ≠ 0 := hx10798
      refine r_put F (g' := (⟨0, 1, u, h, P10791, L⟩ : RG)) e_X10_text_35 fp_X10_211 h10793 (by decide) ⟨_, rfl⟩ (fun _ _ _ _ q => q) (fun _ _ _ q => q) rfl rfl (by decide) (fun σ10799 h10800 g10801 g10802 f10803 => ?_)
      refine m_aload_n F rfl e_X10_text_38 ?_
      refine m_aload_n F rfl e_X10_text_39 ?_
      refine r_getC F e_X10_text_40 fl_X10_141 h10800 ((g10802 23 (by decide)).trans f10797) ?_
      refine m_if_ne F e_X10_text_43 (fun q43 => ?_) (fun q43 => ?_)
      · have h10804 := HS.z0 h10800 ((g10802 23 (by decide)).trans f10797) q43
        refine m_aload_n F rfl e_X10_text_50 ?_
        refine r_get F e_X10_text_51 fl_X10_144 h10804 rfl (fun v hv f10805 => ?_)
        obtain ⟨x10806, rfl⟩ := hv
        refine r_put F (g' := (⟨0, 0, u, h, P10791, L⟩ : RG)) e_X10_text_54 fp_X10_55 h10804 (by decide) ⟨_, rfl⟩ (fun _ _ _ _ q => q) (fun _ _ _ q => q) rfl rfl (by decide) (fun σ10807 h10808 g10809 g10810 f10811 => ?_)
        refine m_aload_n F rfl e_X10_text_57 ?_
        refine r_getC F e_X10_text_58 fl_X10_141 h10808 ((g10810 23 (by decide)).trans ((g10802 23 (by decide)).trans f10797)) ?_
        refine m_if_eq F e_X10_text_61 (fun q61 => ?_) (fun q61 => ?_)
        · first | exact absurd q61 (hx10798 rfl) | contradiction
        · have h10812 := HS.z0 h10808 ((g10810 23 (by decide)).trans ((g10802 23 (by decide)).trans f10797)) q61
          refine m_iconst F (v := (-1)) (by decide) e_X10_text_64 ?_
          have h10813 : HS V c (⟨0, 1, u, h, P10791, L⟩ : RG) [0, 2, 18, 19, 20, 21, 23] _ _ := ⟨HR.mono (Z' := 1) (fun e => absurd e (by decide)) h10812.1, h10812.2⟩
          exact m_iret F hQ e_X10_text_65 (⟨⟨_, rfl⟩, Or.inr ⟨n10786, rfl, by omega, u, h, P10791, L, ⟨by omega, by omega, oP10791, by omega, by omega, by omega, by rw [show P10791.n0 = P.n0 by omega]; exact hok⟩, h10813⟩⟩)
      · subst q43
        refine m_iconst F (v := (-1)) (by decide) e_X10_text_46 ?_
        refine m_goto F e_X10_text_47 ?_
        refine r_put F (g' := (⟨0, 1, u, h, P10791, L⟩ : RG)) e_X10_text_54 fp_X10_55 h10800 (by decide) ⟨_, rfl⟩ (fun _ _ _ _ q => q) (fun _ _ _ q => q) rfl rfl (by decide) (fun σ10814 h10815 g10816 g10817 f10818 => ?_)
        refine m_aload_n F rfl e_X10_text_57 ?_
        refine r_getC F e_X10_text_58 fl_X10_141 h10815 ((g10817 23 (by decide)).trans ((g10802 23 (by decide)).trans f10797)) ?_
        refine m_if_eq F e_X10_text_61 (fun _ => ?_) (fun q => absurd (by decide) q)
        refine m_aload_n F rfl e_X10_text_66 ?_
        refine r_callV F e_X10_text_67 (q_X10_takeText (x_l X) V c 0 1 u h P10791 L _ _  h10815.1 (hok.b) oP10791 ) cb_X10_takeText ml_X10_85 im_X10_takeText se_X10_takeText h10815 rfl rfl (rest := []) rfl (Nat.le_of_ble_eq_true rfl) ⟨Nat.le_of_ble_eq_true rfl, Nat.le_of_ble_eq_true rfl⟩ ⟨Nat.le_of_ble_eq_true rfl, Nat.le_of_ble_eq_true rfl⟩ (fun r σ10819 hp => ?_)
        obtain ⟨P10822, oP10822, rP10822, h10820, rfl⟩ := hp
        have h10821 := HS.trans h10815 h10820 (by decide)
        have xP10822 := oP10822
        unfold OKP at xP10822
        unfold RT at rP10822
        refine m_aload_n F rfl e_X10_text_70 ?_
        refine r_callV F e_X10_text_71 (q_X10_begins (x_l X) V c 0 1 u h P10822 L _ _  h10821.1 (hok.b) oP10822 (by first | omega | assumption | decide) (by first | omega | assumption | decide)) cb_X10_begins ml_X10_88 im_X10_begins se_X10_begins h10821 rfl rfl (rest := []) rfl (Nat.le_of_ble_eq_true rfl) ⟨Nat.le_of_ble_eq_true rfl, Nat.le_of_ble_eq_true rfl⟩ ⟨Nat.le_of_ble_eq_true rfl, Nat.le_of_ble_eq_true rfl⟩ (fun r σ10823 hp => ?_)
        obtain ⟨L10826, okL10826, h10824, rfl⟩ := hp
        have h10825 := HS.trans h10821 h10824 (by decide)
        refine m_aload_n F rfl e_X10_text_74 ?_
        refine m_iconst F (v := 0) (by decide) e_X10_text_75 ?_
        refine r_put F (g' := (⟨0, 1, 0, h, P10822, L10826⟩ : RG)) e_X10_text_76 fp_X10_214 h10825 (by decide) rfl ctl_u (CR.und (Nat.zero_le _)) rfl rfl (by decide) (fun σ10827 h10828 g10829 g10830 f10831 => ?_)
        refine m_aload_n F rfl e_X10_text_79 ?_
        refine m_iconst F (v := 0) (by decide) e_X10_text_80 ?_
        refine r_put F (g' := (⟨0, 1, 0, 0, P10822, L10826⟩ : RG)) e_X10_text_81 fp_X10_217 h10828 (by decide) rfl ctl_h CR.h0 (by decide) rfl (by decide) (fun σ10832 h10833 g10834 g10835 f10836 => ?_)
        refine m_aload_n F rfl e_X10_text_84 ?_
        refine r_get F e_X10_text_85 fl_X10_202 h10833 rfl (fun v hv f10837 => ?_)
        obtain ⟨x10838, rfl⟩ := hv
        have h10839 : HS V c (⟨0, 1, 0, 0, (mkP P10822.n0 P10822.n2 P10822.n5 P10822.n7 P10822.m0 P10822.m5 P10822.w2 P10822.w7 P10822.n0 P10822.a), L10826⟩ : RG) [0, 2, 18, 19, 20, 21, 23] _ _ := ⟨HR.kk0 (HR.mono (Z' := 1) (fun e => absurd e (by decide)) h10833.1), h10833.2⟩
        exact m_iret F hQ e_X10_text_88 (⟨⟨_, rfl⟩, Or.inr ⟨n10786, rfl, by omega, 0, 0, (mkP P10822.n0 P10822.n2 P10822.n5 P10822.n7 P10822.m0 P10822.m5 P10822.w2 P10822.w7 P10822.n0 P10822.a), L10826, ⟨by omega, by omega, oP10822, rfl, (show P10822.n0 ≤ P10822.m0 by omega), (show P10822.n2 ≤ P10822.w2 by omega), okL10826⟩, h10839⟩⟩)
    · have c14 : n10786 > T := by have hh := mt (nI_leI (a := n10786) (b := T) (by omega) (by omega)).mpr q14; omega
      refine m_bipush F (v := (-2)) (by decide) e_X10_text_17 ?_
      exact m_iret F hQ e_X10_text_19 (⟨⟨_, rfl⟩, Or.inl ⟨Or.inr ⟨n10786, by omega, rfl, by omega⟩, h10782⟩⟩)
