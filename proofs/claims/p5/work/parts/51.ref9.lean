/-! a text taken: what may be forgotten, what begins anew -/
theorem HR.forget {V : VX} {c T Z u h : Nat} {P : NP} {L : Nat → LQ} {σ : Mem} (hh : HR V c ⟨T, Z, u, h, P, L⟩ σ) : HR V c ⟨T, Z, u, h, mkP P.n0 P.n2 P.n5 P.n7 0 P.m5 0 P.w7 P.kk P.a P.b0 P.b1 P.b2 P.b3, L⟩ σ := by
  intro a
  have h1 := hh a
  by_cases h6 : kC c a = 6
  · rw [h6] at h1 ⊢
    obtain ⟨f, e, q⟩ := h1
    refine ⟨f, e, fun i hi => ?_⟩
    obtain ⟨n, a1, a2, a3, a4⟩ := q i hi
    exact ⟨n, a1, a2, fun _ h9 => absurd h9 (Nat.not_lt_zero _), a4⟩
  · by_cases h13 : kC c a = 13
    · rw [h13] at h1 ⊢
      obtain ⟨f, e, q⟩ := h1
      refine ⟨f, e, fun i hi => ?_⟩
      obtain ⟨n, a1, a2, a3, a4⟩ := q i hi
      exact ⟨n, a1, a2, fun _ h9 => absurd h9 (Nat.not_lt_zero _), a4⟩
    · revert h1
      generalize kC c a = i at h6 h13
      generalize σ a = x
      intro hx
      unfold CR at hx ⊢
      split at hx <;> first | exact hx | exact absurd rfl h6 | exact absurd rfl h13 | skip
      all_goals first | exact hx | (obtain ⟨f, e, q⟩ := hx; refine ⟨f, e, fun i hi => ?_⟩; have h9 := q i hi; unfold EI at h9 ⊢; split at h9 <;> first | exact h9 | trivial | contradiction | (exfalso; omega))
theorem HR.kk0 {V : VX} {c T Z : Nat} {P : NP} {L : Nat → LQ} {σ : Mem} {k : Nat} (hh : HR V c ⟨T, Z, 0, 0, P, L⟩ σ) : HR V c ⟨T, Z, 0, 0, mkP P.n0 P.n2 P.n5 P.n7 P.m0 P.m5 P.w2 P.w7 k P.a P.b0 P.b1 P.b2 P.b3, L⟩ σ := by
  intro a
  have h1 := hh a
  by_cases h20 : kC c a = 20
  · rw [h20] at h1 ⊢
    obtain ⟨f, e, q⟩ := h1
    exact ⟨f, e, fun h9 => absurd h9 (by show ¬ (0 : Nat) = 1; decide)⟩
  · by_cases h21 : kC c a = 21
    · rw [h21] at h1 ⊢
      obtain ⟨f, e, q⟩ := h1
      exact ⟨f, e, fun j hj => absurd hj (Nat.not_lt_zero _)⟩
    · revert h1
      generalize kC c a = i at h20 h21
      generalize σ a = x
      intro hx
      unfold CR at hx ⊢
      split at hx <;> first | exact hx | exact absurd rfl h20 | exact absurd rfl h21
def RT (P Q : NP) : Prop := Q.n0 = P.n5 ∧ Q.kk = P.kk ∧ Q.n0 ≤ Q.m0 ∧ Q.n2 ≤ Q.w2
theorem OKL.updS {n : Nat} {L L' : Nat → LQ} (h : OKL n L) (hl4 : n < 4) (ho : ∀ i, i ≠ n → L' i = L i) (hl : (L' n).1 ≤ 2 ∧ (L' n).2.1 ≤ 72 ∧ (L' n).2.2.1 ≤ 2000 ∧ (L' n).2.2.2 ≤ 72 ∧ ((L' n).1 = 1 → (L' n).2.2.2 < (L' n).2.1 ∧ 1 ≤ (L' n).2.2.1) ∧ ((L' n).1 = 0 → (L' n).2.2.2 = 0) ∧ 1 ≤ (L' n).2.1) : OKL (n + 1) L' := by
  refine ⟨by rw [ho 4 (by omega)]; exact h.1, fun i hi => ?_⟩
  by_cases e : i = n
  · subst e; exact ⟨hl.1, hl.2.1, hl.2.2.1, hl.2.2.2.1, hl.2.2.2.2.1, hl.2.2.2.2.2.1, fun _ => hl.2.2.2.2.2.2⟩
  · have h9 := h.2 i hi
    rw [ho i e]; exact ⟨h9.1, h9.2.1, h9.2.2.1, h9.2.2.2.1, h9.2.2.2.2.1, h9.2.2.2.2.2.1, fun h8 => h9.2.2.2.2.2.2 (by omega)⟩
def L0 : Nat → LQ := fun _ => (0, 0, 0, 0)
theorem OKL.zero : OKL 0 L0 := ⟨by show (0 : Nat) ≤ 99; omega, fun l _ => ⟨by show (0 : Nat) ≤ 2; omega, by show (0 : Nat) ≤ 72; omega, by show (0 : Nat) ≤ 2000; omega, by show (0 : Nat) ≤ 72; omega, fun e => absurd e (by show ¬ (0 : Nat) = 1; omega), fun _ => rfl, fun e => absurd e (Nat.not_lt_zero _)⟩⟩
/-- s while it is made anew: 0 up to k -/
def ZF (k : Nat) (f : Nat → Int64) : Prop := ∀ i, i < k → f i = 0
/-- .. 0 all over, but for the INDEX of the periods up to p -/
def PZ (p : Nat) (f : Nat → Int64) : Prop := (∀ i, i < 1113 → (i < 644 ∨ 744 ≤ i) → f i = 0) ∧ ∀ i, 644 ≤ i → i < 644 + p → ∃ n : Nat, 1 ≤ n ∧ n ≤ 2000 ∧ f i = lN n
theorem PZ.zero {f : Nat → Int64} (h : ZF 1113 f) : PZ 0 f := ⟨fun i hi _ => h i hi, fun i h1 h2 => by omega⟩
theorem PZ.put {p m : Nat} {f : Nat → Int64} (h : PZ p f) (hp : p < 100) (hm : 1 ≤ m ∧ m ≤ 2000) : PZ (p + 1) (vp_updL f (644 + p) (lN m)) := by
  refine ⟨fun i hi h1 => ?_, fun i h1 h2 => ?_⟩
  · unfold vp_updL; rw [if_neg (by omega)]; exact h.1 i hi h1
  · unfold vp_updL
    by_cases e : i = 644 + p
    · rw [if_pos e]; exact ⟨m, hm.1, hm.2, rfl⟩
    · rw [if_neg e]; exact h.2 i h1 (by omega)
theorem PZ.put2 {p m : Nat} {f : Nat → Int64} (h : PZ (p + 1) f) (hp : p < 100) (hm : 1 ≤ m ∧ m ≤ 2000) : PZ (p + 1) (vp_updL f (644 + p) (lN m)) := by
  refine ⟨fun i hi h1 => ?_, fun i h1 h2 => ?_⟩
  · unfold vp_updL; rw [if_neg (by omega)]; exact h.1 i hi h1
  · unfold vp_updL
    by_cases e : i = 644 + p
    · rw [if_pos e]; exact ⟨m, hm.1, hm.2, rfl⟩
    · rw [if_neg e]; exact h.2 i h1 (by omega)
theorem ZF.put {k : Nat} {f : Nat → Int64} (h : ZF k f) : ZF (k + 1) (vp_updL f k 0) := by
  intro i hi
  unfold vp_updL
  by_cases e : i = k
  · rw [if_pos e]
  · rw [if_neg e]; exact h i (by omega)
theorem PZ.typed {f : Nat → Int64} (h : PZ 100 f) : ∀ i, i < 1113 → EJ L0 i (f i) := by
  intro i hi
  have h0 : (i < 644 ∨ 744 ≤ i) → f i = lN 0 := fun q => h.1 i hi q
  unfold EJ
  by_cases h1 : i < 640
  · rw [if_pos h1, h0 (by omega)]
    unfold EL
    split <;> first | rfl | exact ⟨0, by omega, rfl⟩ | trivial
  · rw [if_neg h1]
    by_cases h2 : i < 644
    · rw [if_pos h2]; trivial
    · rw [if_neg h2]
      by_cases h3 : i < 744
      · rw [if_pos h3]; exact h.2 i (by omega) (by omega)
      · rw [if_neg h3]
        by_cases h4 : i = 744
        · rw [if_pos h4, h0 (by omega)]; rfl
        · rw [if_neg h4]
          by_cases h5 : i = 751
          · rw [if_pos h5, h0 (by omega)]; exact ⟨0, by omega, rfl⟩
          · rw [if_neg h5]; trivial
set_option maxRecDepth 20000 in
theorem lq_X10_readText_28 {V : VX} {X : MX} {N : Nat} {σ : Mem} {c T Z u h : Nat} {P : NP} {L : Nat → LQ}  {n901 : Nat} (F : Fx V X yX10_readText cX10_readText 2 none (rmd 10 0 0)) (hQ : Rt V X 0 0 N (fun r τ => ∃ P9 : NP, OKP P9 ∧ RQ P P9 ∧ HS V c (⟨T, 1, u, h, P9, L⟩ : RG) [0, 2, 17, 18, 19, 20, 21, 22, 23] σ τ ∧ r = none)) (hob : OKB L) (hP : OKP P) (hn901 : n901 ≤ 700)  : ∀ (fuel : Nat) (x1 y1 : Int32) (P1 : NP) (τ : Mem), HS V c (⟨T, 1, u, h, P1, L⟩ : RG) [0, 2, 17, 18, 19, 20, 21, 22, 23] σ τ → OKP P1 → RQ P P1 → fld τ c 23 = some (.int x1) ∧ fld τ c 21 = some (.int y1) → (if x1 = 0 ∧ y1 ≠ 4 then 701 - P1.a else 0) < fuel → Wm V X 2 N τ 0 0 28 [(0, .ref c)] [] := by
  intro fuel
  induction fuel with
  | zero => intros; rename_i hm; exact absurd hm (Nat.not_lt_zero _)
  | succ fuel ih =>
    intro x1 y1 P1 τ h1 hP1 hR1 hi hm
    have hPP := hP
    unfold OKP at hPP
    have hPP1 := hP1
    unfold OKP at hPP1
    unfold RQ at hR1
    refine m_aload_n F rfl e_X10_readText_28 ?_
    refine r_getC F e_X10_readText_29 fl_X10_141 h1 (hi.1) ?_
    refine m_if_ne F e_X10_readText_32 (fun q32 => ?_) (fun q32 => ?_)
    · exact m_vret F hQ e_X10_readText_50 (⟨P1, hP1, (by unfold RQ; omega), h1, rfl⟩)
    · subst q32
      refine m_aload_n F rfl e_X10_readText_35 ?_
      refine r_getC F e_X10_readText_36 fl_X10_110 h1 (hi.2) ?_
      refine m_iconst F (v := 4) (by decide) e_X10_readText_39 ?_
      refine m_icmp_eq F e_X10_readText_40 (fun q40 => ?_) (fun q40 => ?_)
      · subst q40
        exact m_vret F hQ e_X10_readText_50 (⟨P1, hP1, (by unfold RQ; omega), h1, rfl⟩)
      · refine m_aload_n F rfl e_X10_readText_43 ?_
        refine r_callV F e_X10_readText_44 (q_X10_readLine (x_l X) V c T 1 u h P1 L _ _  h1.1 (hob) hP1 ) cb_X10_readLine ml_X10_205 im_X10_readLine se_X10_readLine h1 rfl rfl (rest := []) rfl (Nat.le_of_ble_eq_true rfl) ⟨Nat.le_of_ble_eq_true rfl, Nat.le_of_ble_eq_true rfl⟩ ⟨Nat.le_of_ble_eq_true rfl, Nat.le_of_ble_eq_true rfl⟩ (fun r σ9988 hp => ?_)
        obtain ⟨P9991, oP9991, rP9991, pr9992, h9989, rfl⟩ := hp
        have h9990 := HS.trans h1 h9989 (by decide)
        have xP9991 := oP9991
        unfold OKP at xP9991
        unfold RP at rP9991
        refine m_goto F e_X10_readText_47 ?_
        obtain ⟨x9, y9, e9, e8, d9⟩ := pr9992
        have hmm : (if x9 = 0 ∧ y9 ≠ (4 : Int32) then 701 - P9991.a else 0) < fuel := by
          rw [if_pos ⟨rfl, q40⟩] at hm
          by_cases hc : x9 = 0 ∧ y9 ≠ (4 : Int32)
          · rw [if_pos hc]
            rcases d9 with d | d | d
            · exact absurd hc.1 d
            · exact absurd d hc.2
            · omega
          · rw [if_neg hc]; omega
        exact ih x9 y9 P9991 _ h9990 oP9991 (by unfold RQ; omega) ⟨e9, e8⟩ hmm
set_option maxRecDepth 20000 in
theorem q_X10_readText (l : Launch) (V : VX) (c T Z u h : Nat) (P : NP) (L : Nat → LQ) (N : Nat) (σ : Mem) (n901 : Nat) (h0 : HR V c ⟨T, Z, u, h, P, L⟩ σ) (hob : OKB L) (hP : OKP P) (hn901 : n901 ≤ 700) : Ct l V yX10_readText cX10_readText 2 none 10 0 0 N σ [.ref c, .int (nI n901)] (fun r τ => ∃ P9 : NP, OKP P9 ∧ RQ P P9 ∧ HS V c (⟨T, 1, u, h, P9, L⟩ : RG) [0, 2, 17, 18, 19, 20, 21, 22, 23] σ τ ∧ r = none) := by
  refine Ct.of (by decide) (Nat.le_of_ble_eq_true rfl) [(0, .ref c), (1, .int (nI n901))] rfl (fun X hX F hQ => ?_)
  have hPP := hP
  unfold OKP at hPP
  have h1 : HS V c ⟨T, Z, u, h, P, L⟩ [0, 2, 17, 18, 19, 20, 21, 22, 23] σ σ := HS.start h0
  refine m_aload_n F rfl e_X10_readText_0 ?_
  refine m_iload_n F rfl e_X10_readText_1 ?_
  refine r_put F (g' := (⟨T, Z, u, h, P, L⟩ : RG)) e_X10_readText_2 fp_X10_100 h1 (by decide) ⟨n901, (show n901 ≤ 700 by omega), rfl⟩ (fun _ _ _ _ q => q) (fun _ _ _ q => q) rfl rfl (by decide) (fun σ9993 h9994 g9995 g9996 f9997 => ?_)
  refine m_aload_n F rfl e_X10_readText_5 ?_
  refine m_iconst F (v := 0) (by decide) e_X10_readText_6 ?_
  refine r_put F (g' := (⟨T, Z, u, h, (mkP P.n0 P.n2 P.n5 P.n7 P.m0 P.m5 P.w2 P.w7 P.kk 0 P.b0 P.b1 P.b2 P.b3), L⟩ : RG)) e_X10_readText_7 fp_X10_97 h9994 (by decide) rfl ctl_a CR.setA rfl rfl (by decide) (fun σ9998 h9999 g10000 g10001 f10002 => ?_)
  obtain ⟨P10003, eP10003⟩ : ∃ P9, P9 = (mkP P.n0 P.n2 P.n5 P.n7 P.m0 P.m5 P.w2 P.w7 P.kk 0 P.b0 P.b1 P.b2 P.b3) := ⟨_, rfl⟩
  rw [← eP10003] at h9999
  have fP10003 : P10003.n0 = P.n0 ∧ P10003.n2 = P.n2 ∧ P10003.n5 = P.n5 ∧ P10003.n7 = P.n7 ∧ P10003.m0 = P.m0 ∧ P10003.m5 = P.m5 ∧ P10003.w2 = P.w2 ∧ P10003.w7 = P.w7 ∧ P10003.kk = P.kk ∧ P10003.a = 0 ∧ P10003.b0 = P.b0 ∧ P10003.b1 = P.b1 ∧ P10003.b2 = P.b2 ∧ P10003.b3 = P.b3 := by rw [eP10003]; exact ⟨rfl, rfl, rfl, rfl, rfl, rfl, rfl, rfl, rfl, rfl, rfl, rfl, rfl, rfl⟩
  refine m_aload_n F rfl e_X10_readText_10 ?_
  refine m_iconst F (v := 0) (by decide) e_X10_readText_11 ?_
  refine r_put F (g' := (⟨T, 1, u, h, P10003, L⟩ : RG)) e_X10_readText_12 fp_X10_141 h9999 (by decide) ⟨_, (fun e => absurd e (show ¬ (1 : Nat) = 0 by decide)), rfl⟩ ctl_Z CR.ctl rfl rfl (by decide) (fun σ10004 h10005 g10006 g10007 f10008 => ?_)
  refine m_aload_n F rfl e_X10_readText_15 ?_
  refine m_iconst F (v := 0) (by decide) e_X10_readText_16 ?_
  refine r_put F (g' := (⟨T, 1, u, h, P10003, L⟩ : RG)) e_X10_readText_17 fp_X10_202 h10005 (by decide) ⟨_, rfl⟩ (fun _ _ _ _ q => q) (fun _ _ _ q => q) rfl rfl (by decide) (fun σ10009 h10010 g10011 g10012 f10013 => ?_)
  refine m_aload_n F rfl e_X10_readText_20 ?_
  have oP10017 : OKP P10003 := by unfold OKP; omega
  refine r_callV F e_X10_readText_21 (q_X10_freshText (x_l X) V c T 1 u h P10003 L _ _  h10010.1 (hob) oP10017 ) cb_X10_freshText ml_X10_82 im_X10_freshText se_X10_freshText h10010 rfl rfl (rest := []) rfl (Nat.le_of_ble_eq_true rfl) ⟨Nat.le_of_ble_eq_true rfl, Nat.le_of_ble_eq_true rfl⟩ ⟨Nat.le_of_ble_eq_true rfl, Nat.le_of_ble_eq_true rfl⟩ (fun r σ10014 hp => ?_)
  obtain ⟨P10018, oP10018, rP10018, h10015, rfl⟩ := hp
  have h10016 := HS.trans h10010 h10015 (by decide)
  have xP10018 := oP10018
  unfold OKP at xP10018
  unfold RP at rP10018
  refine m_aload_n F rfl e_X10_readText_24 ?_
  refine r_callV F e_X10_readText_25 (q_X10_token (x_l X) V c T 1 u h P10018 L _ _  h10016.1 (hob) oP10018 ) cb_X10_token ml_X10_147 im_X10_token se_X10_token h10016 rfl rfl (rest := []) rfl (Nat.le_of_ble_eq_true rfl) ⟨Nat.le_of_ble_eq_true rfl, Nat.le_of_ble_eq_true rfl⟩ ⟨Nat.le_of_ble_eq_true rfl, Nat.le_of_ble_eq_true rfl⟩ (fun r σ10019 hp => ?_)
  obtain ⟨P10022, oP10022, rP10022, pr10023, h10020, rfl⟩ := hp
  have h10021 := HS.trans h10016 h10020 (by decide)
  have xP10022 := oP10022
  unfold OKP at xP10022
  unfold RA at rP10022
  refine Wm.lvsub (lv' := [(0, .ref c)]) ?_ [0] rfl
  obtain ⟨y9, e8⟩ := h10021.1.f21
  obtain ⟨x9, e9⟩ := h10021.1.f23
  exact lq_X10_readText_28 (Z := Z) F hQ hob hP hn901 ((if x9 = 0 ∧ y9 ≠ 4 then 701 - P10022.a else 0) + 1) x9 y9 P10022 _ h10021 oP10022 (by unfold RQ; omega) ⟨e9, e8⟩ (Nat.lt_succ_self _)
def RT3 (P Q : NP) : Prop := Q.n0 = P.n5 ∧ Q.n2 = P.n7 ∧ Q.kk = P.kk ∧ Q.n0 ≤ Q.m0 ∧ Q.w7 = P.w7 ∧ Q.w2 = 0
set_option maxRecDepth 20000 in
theorem lq_X10_takeText_179 {V : VX} {X : MX} {N : Nat} {σ : Mem} {c T Z u h : Nat} {P : NP} {L : Nat → LQ}   (F : Fx V X yX10_takeText cX10_takeText 2 none (rmd 1 0 0)) (hQ : Rt V X 0 0 N (fun r τ => ∃ P9 : NP, OKP P9 ∧ RT P P9 ∧ HS V c (⟨T, Z, u, h, P9, L⟩ : RG) [0, 1, 2, 17, 18, 19, 20, 21, 22, 23] σ τ ∧ r = none)) (hob : OKB L) (hP : OKP P)   : ∀ (fuel : Nat) (i : Nat) (P1 : NP) (τ : Mem), HS V c (⟨T, Z, u, h, P1, L⟩ : RG) [0, 1, 2, 17, 18, 19, 20, 21, 22, 23] σ τ → OKP P1 → RT3 P P1 → i ≤ 192 → 192 - i < fuel → Wm V X 2 N τ 0 0 179 [(0, .ref c), (1, .int (nI i))] [] := by
  intro fuel
  induction fuel with
  | zero => intros; rename_i hm; exact absurd hm (Nat.not_lt_zero _)
  | succ fuel ih =>
    intro i P1 τ h1 hP1 hR1 hi hm
    have hPP := hP
    unfold OKP at hPP
    have hPP1 := hP1
    unfold OKP at hPP1
    unfold RT3 at hR1
    refine m_iload_n F rfl e_X10_takeText_179 ?_
    refine m_sipush F (v := 192) (by decide) e_X10_takeText_180 ?_
    refine m_icmp_ge F e_X10_takeText_183 (fun q183 => ?_) (fun q183 => ?_)
    · have c183 : i ≥ 192 := (nI_leI (a := 192) (b := i) (by omega) (by omega)).mp q183
      refine m_iconst F (v := 0) (by decide) e_X10_takeText_208 ?_
      refine m_istore_n F (lv' := [(1, .int 0), (0, .ref c)]) e_X10_takeText_209 (by decide) rfl ?_
      refine m_iload_n F rfl e_X10_takeText_210 ?_
      refine m_bipush F (v := 8) (by decide) e_X10_takeText_211 ?_
      refine m_icmp_ge F e_X10_takeText_213 (fun q => absurd q (by decide)) (fun _ => ?_)
      refine m_aload_n F rfl e_X10_takeText_216 ?_
      refine r_get F e_X10_takeText_217 fl_X10_40 h1 rfl (fun v hv f10024 => ?_)
      obtain rfl : v = .ref (c + 11) := hv
      refine m_iload_n F rfl e_X10_takeText_220 ?_
      refine m_aload_n F rfl e_X10_takeText_221 ?_
      refine r_getC F e_X10_takeText_222 fl_X10_40 h1 (f10024) ?_
      refine m_bipush F (v := 8) (by decide) e_X10_takeText_225 ?_
      refine m_iload_n F rfl e_X10_takeText_227 ?_
      refine m_iadd F e_X10_takeText_228 ?_
      refine Wm.topE (w := 8) (by decide) ?_
      refine r_iald F (len := 16) (j := 8) e_X10_takeText_229 h1 (fun _ h => h) (by decide) (by decide) (by unfold vp_in; decide) (fun x10025 h10026 f10027 => ?_)
      obtain ⟨n10028, hn10028, rfl⟩ := h10026
      refine r_iast F (g' := (⟨T, Z, u, h, P1, L⟩ : RG)) (len := 16) (j := 0) e_X10_takeText_230 h1 (fun _ h => h) (fun f h => ⟨f, rfl, h⟩) (by decide) (by decide) (by decide) (by unfold vp_in; decide) ⟨n10028, by omega, rfl⟩ (fun _ _ _ h => h) (fun _ _ _ h => h) (fun σ10029 h10030 g10031 f10032 g10033 => ?_)
      refine m_aload_n F rfl e_X10_takeText_231 ?_
      refine r_get F e_X10_takeText_232 fl_X10_43 h10030 rfl (fun v hv f10034 => ?_)
      obtain rfl : v = .ref (c + 12) := hv
      refine m_iload_n F rfl e_X10_takeText_235 ?_
      refine m_aload_n F rfl e_X10_takeText_236 ?_
      refine r_getC F e_X10_takeText_237 fl_X10_43 h10030 (f10034) ?_
      refine m_bipush F (v := 8) (by decide) e_X10_takeText_240 ?_
      refine m_iload_n F rfl e_X10_takeText_242 ?_
      refine m_iadd F e_X10_takeText_243 ?_
      refine Wm.topE (w := 8) (by decide) ?_
      refine r_iald F (len := 16) (j := 8) e_X10_takeText_244 h10030 (fun _ h => h) (by decide) (by decide) (by unfold vp_in; decide) (fun x10035 h10036 f10037 => ?_)
      obtain ⟨n10038, hn10038, rfl, pn10038, rn10038⟩ := h10036
      refine r_iast F (g' := (⟨T, Z, u, h, (mkP P1.n0 P1.n2 P1.n5 P1.n7 P1.m0 P1.m5 (min 1 P1.w7) P1.w7 P1.kk P1.a P1.b0 P1.b1 P1.b2 P1.b3), L⟩ : RG)) (len := 16) (j := 0) e_X10_takeText_245 h10030 (fun _ h => h) (fun f h => ⟨f, rfl, h⟩) (by decide) (by decide) (by decide) (by unfold vp_in; decide) ⟨n10038, by omega, rfl, fun _ h8 => rn10038 (by omega) (show 8 < 8 + P1.w7 by have h6 : 0 < min 1 P1.w7 := h8; omega), fun h7 _ => absurd h7 (by omega)⟩ (fun i hi y hy => by obtain ⟨n9, a9, b9, c9, d9⟩ := hy; exact ⟨n9, a9, b9, fun h7 h8 => c9 h7 (show i < P1.w2 by have h6 : i < min 1 P1.w7 := h8; omega), d9⟩) (CR.chg (by intro k hk i x h; unfold EI at h ⊢; split at h <;> first | exact h | exact absurd rfl hk | trivial) rfl rfl) (fun σ10039 h10040 g10041 f10042 g10043 => ?_)
      obtain ⟨P10044, eP10044⟩ : ∃ P9, P9 = (mkP P1.n0 P1.n2 P1.n5 P1.n7 P1.m0 P1.m5 (min 1 P1.w7) P1.w7 P1.kk P1.a P1.b0 P1.b1 P1.b2 P1.b3) := ⟨_, rfl⟩
      rw [← eP10044] at h10040
      have fP10044 : P10044.n0 = P1.n0 ∧ P10044.n2 = P1.n2 ∧ P10044.n5 = P1.n5 ∧ P10044.n7 = P1.n7 ∧ P10044.m0 = P1.m0 ∧ P10044.m5 = P1.m5 ∧ P10044.w2 = min 1 P1.w7 ∧ P10044.w7 = P1.w7 ∧ P10044.kk = P1.kk ∧ P10044.a = P1.a ∧ P10044.b0 = P1.b0 ∧ P10044.b1 = P1.b1 ∧ P10044.b2 = P1.b2 ∧ P10044.b3 = P1.b3 := by rw [eP10044]; exact ⟨rfl, rfl, rfl, rfl, rfl, rfl, rfl, rfl, rfl, rfl, rfl, rfl, rfl, rfl⟩
      refine m_iinc F (v := 1) (lv' := [(1, .int 1), (0, .ref c)]) e_X10_takeText_246 rfl (by decide) (by decide) rfl ?_
      refine m_goto F e_X10_takeText_249 ?_
      refine m_iload_n F rfl e_X10_takeText_210 ?_
      refine m_bipush F (v := 8) (by decide) e_X10_takeText_211 ?_
      refine m_icmp_ge F e_X10_takeText_213 (fun q => absurd q (by decide)) (fun _ => ?_)
      refine m_aload_n F rfl e_X10_takeText_216 ?_
      refine r_getC F e_X10_takeText_217 fl_X10_40 h10040 ((fld_eq (g10041 _ (by omega))).trans ((fld_eq (g10031 _ (by omega))).trans f10024)) ?_
      refine m_iload_n F rfl e_X10_takeText_220 ?_
      refine m_aload_n F rfl e_X10_takeText_221 ?_
      refine r_getC F e_X10_takeText_222 fl_X10_40 h10040 ((fld_eq (g10041 _ (by omega))).trans ((fld_eq (g10031 _ (by omega))).trans f10024)) ?_
      refine m_bipush F (v := 8) (by decide) e_X10_takeText_225 ?_
      refine m_iload_n F rfl e_X10_takeText_227 ?_
      refine m_iadd F e_X10_takeText_228 ?_
      refine Wm.topE (w := 9) (by decide) ?_
      refine r_iald F (len := 16) (j := 9) e_X10_takeText_229 h10040 (fun _ h => h) (by decide) (by decide) (by unfold vp_in; decide) (fun x10045 h10046 f10047 => ?_)
      obtain ⟨n10048, hn10048, rfl⟩ := h10046
      refine r_iast F (g' := (⟨T, Z, u, h, P10044, L⟩ : RG)) (len := 16) (j := 1) e_X10_takeText_230 h10040 (fun _ h => h) (fun f h => ⟨f, rfl, h⟩) (by decide) (by decide) (by decide) (by unfold vp_in; decide) ⟨n10048, by omega, rfl⟩ (fun _ _ _ h => h) (fun _ _ _ h => h) (fun σ10049 h10050 g10051 f10052 g10053 => ?_)
      refine m_aload_n F rfl e_X10_takeText_231 ?_
      refine r_getC F e_X10_takeText_232 fl_X10_43 h10050 ((fld_eq (g10051 _ (by omega))).trans ((fld_eq (g10041 _ (by omega))).trans f10034)) ?_
      refine m_iload_n F rfl e_X10_takeText_235 ?_
      refine m_aload_n F rfl e_X10_takeText_236 ?_
      refine r_getC F e_X10_takeText_237 fl_X10_43 h10050 ((fld_eq (g10051 _ (by omega))).trans ((fld_eq (g10041 _ (by omega))).trans f10034)) ?_
      refine m_bipush F (v := 8) (by decide) e_X10_takeText_240 ?_
      refine m_iload_n F rfl e_X10_takeText_242 ?_
      refine m_iadd F e_X10_takeText_243 ?_
      refine Wm.topE (w := 9) (by decide) ?_
      refine r_iald F (len := 16) (j := 9) e_X10_takeText_244 h10050 (fun _ h => h) (by decide) (by decide) (by unfold vp_in; decide) (fun x10054 h10055 f10056 => ?_)
      obtain ⟨n10057, hn10057, rfl, pn10057, rn10057⟩ := h10055
      refine r_iast F (g' := (⟨T, Z, u, h, (mkP P10044.n0 P10044.n2 P10044.n5 P10044.n7 P10044.m0 P10044.m5 (min 2 P10044.w7) P10044.w7 P10044.kk P10044.a P10044.b0 P10044.b1 P10044.b2 P10044.b3), L⟩ : RG)) (len := 16) (j := 1) e_X10_takeText_245 h10050 (fun _ h => h) (fun f h => ⟨f, rfl, h⟩) (by decide) (by decide) (by decide) (by unfold vp_in; decide) ⟨n10057, by omega, rfl, fun _ h8 => rn10057 (by omega) (show 9 < 8 + P10044.w7 by have h6 : 1 < min 2 P10044.w7 := h8; omega), fun h7 _ => absurd h7 (by omega)⟩ (fun i hi y hy => by obtain ⟨n9, a9, b9, c9, d9⟩ := hy; exact ⟨n9, a9, b9, fun h7 h8 => c9 h7 (show i < P10044.w2 by have h6 : i < min 2 P10044.w7 := h8; omega), d9⟩) (CR.chg (by intro k hk i x h; unfold EI at h ⊢; split at h <;> first | exact h | exact absurd rfl hk | trivial) rfl rfl) (fun σ10058 h10059 g10060 f10061 g10062 => ?_)
      obtain ⟨P10063, eP10063⟩ : ∃ P9, P9 = (mkP P10044.n0 P10044.n2 P10044.n5 P10044.n7 P10044.m0 P10044.m5 (min 2 P10044.w7) P10044.w7 P10044.kk P10044.a P10044.b0 P10044.b1 P10044.b2 P10044.b3) := ⟨_, rfl⟩
      rw [← eP10063] at h10059
      have fP10063 : P10063.n0 = P10044.n0 ∧ P10063.n2 = P10044.n2 ∧ P10063.n5 = P10044.n5 ∧ P10063.n7 = P10044.n7 ∧ P10063.m0 = P10044.m0 ∧ P10063.m5 = P10044.m5 ∧ P10063.w2 = min 2 P10044.w7 ∧ P10063.w7 = P10044.w7 ∧ P10063.kk = P10044.kk ∧ P10063.a = P10044.a ∧ P10063.b0 = P10044.b0 ∧ P10063.b1 = P10044.b1 ∧ P10063.b2 = P10044.b2 ∧ P10063.b3 = P10044.b3 := by rw [eP10063]; exact ⟨rfl, rfl, rfl, rfl, rfl, rfl, rfl, rfl, rfl, rfl, rfl, rfl, rfl, rfl⟩
      refine m_iinc F (v := 2) (lv' := [(1, .int 2), (0, .ref c)]) e_X10_takeText_246 rfl (by decide) (by decide) rfl ?_
      refine m_goto F e_X10_takeText_249 ?_
      refine m_iload_n F rfl e_X10_takeText_210 ?_
      refine m_bipush F (v := 8) (by decide) e_X10_takeText_211 ?_
      refine m_icmp_ge F e_X10_takeText_213 (fun q => absurd q (by decide)) (fun _ => ?_)
      refine m_aload_n F rfl e_X10_takeText_216 ?_
      refine r_getC F e_X10_takeText_217 fl_X10_40 h10059 ((fld_eq (g10060 _ (by omega))).trans ((fld_eq (g10051 _ (by omega))).trans ((fld_eq (g10041 _ (by omega))).trans ((fld_eq (g10031 _ (by omega))).trans f10024)))) ?_
      refine m_iload_n F rfl e_X10_takeText_220 ?_
      refine m_aload_n F rfl e_X10_takeText_221 ?_
      refine r_getC F e_X10_takeText_222 fl_X10_40 h10059 ((fld_eq (g10060 _ (by omega))).trans ((fld_eq (g10051 _ (by omega))).trans ((fld_eq (g10041 _ (by omega))).trans ((fld_eq (g10031 _ (by omega))).trans f10024)))) ?_
      refine m_bipush F (v := 8) (by decide) e_X10_takeText_225 ?_
      refine m_iload_n F rfl e_X10_takeText_227 ?_
      refine m_iadd F e_X10_takeText_228 ?_
      refine Wm.topE (w := 10) (by decide) ?_
      refine r_iald F (len := 16) (j := 10) e_X10_takeText_229 h10059 (fun _ h => h) (by decide) (by decide) (by unfold vp_in; decide) (fun x10064 h10065 f10066 => ?_)
      obtain ⟨n10067, hn10067, rfl⟩ := h10065
      refine r_iast F (g' := (⟨T, Z, u, h, P10063, L⟩ : RG)) (len := 16) (j := 2) e_X10_takeText_230 h10059 (fun _ h => h) (fun f h => ⟨f, rfl, h⟩) (by decide) (by decide) (by decide) (by unfold vp_in; decide) ⟨n10067, by omega, rfl⟩ (fun _ _ _ h => h) (fun _ _ _ h => h) (fun σ10068 h10069 g10070 f10071 g10072 => ?_)
      refine m_aload_n F rfl e_X10_takeText_231 ?_
      refine r_getC F e_X10_takeText_232 fl_X10_43 h10069 ((fld_eq (g10070 _ (by omega))).trans ((fld_eq (g10060 _ (by omega))).trans ((fld_eq (g10051 _ (by omega))).trans ((fld_eq (g10041 _ (by omega))).trans f10034)))) ?_
      refine m_iload_n F rfl e_X10_takeText_235 ?_
      refine m_aload_n F rfl e_X10_takeText_236 ?_
      refine r_getC F e_X10_takeText_237 fl_X10_43 h10069 ((fld_eq (g10070 _ (by omega))).trans ((fld_eq (g10060 _ (by omega))).trans ((fld_eq (g10051 _ (by omega))).trans ((fld_eq (g10041 _ (by omega))).trans f10034)))) ?_
      refine m_bipush F (v := 8) (by decide) e_X10_takeText_240 ?_
      refine m_iload_n F rfl e_X10_takeText_242 ?_
      refine m_iadd F e_X10_takeText_243 ?_
      refine Wm.topE (w := 10) (by decide) ?_
      refine r_iald F (len := 16) (j := 10) e_X10_takeText_244 h10069 (fun _ h => h) (by decide) (by decide) (by unfold vp_in; decide) (fun x10073 h10074 f10075 => ?_)
      obtain ⟨n10076, hn10076, rfl, pn10076, rn10076⟩ := h10074
      refine r_iast F (g' := (⟨T, Z, u, h, (mkP P10063.n0 P10063.n2 P10063.n5 P10063.n7 P10063.m0 P10063.m5 (min 3 P10063.w7) P10063.w7 P10063.kk P10063.a P10063.b0 P10063.b1 P10063.b2 P10063.b3), L⟩ : RG)) (len := 16) (j := 2) e_X10_takeText_245 h10069 (fun _ h => h) (fun f h => ⟨f, rfl, h⟩) (by decide) (by decide) (by decide) (by unfold vp_in; decide) ⟨n10076, by omega, rfl, fun _ h8 => rn10076 (by omega) (show 10 < 8 + P10063.w7 by have h6 : 2 < min 3 P10063.w7 := h8; omega), fun h7 _ => absurd h7 (by omega)⟩ (fun i hi y hy => by obtain ⟨n9, a9, b9, c9, d9⟩ := hy; exact ⟨n9, a9, b9, fun h7 h8 => c9 h7 (show i < P10063.w2 by have h6 : i < min 3 P10063.w7 := h8; omega), d9⟩) (CR.chg (by intro k hk i x h; unfold EI at h ⊢; split at h <;> first | exact h | exact absurd rfl hk | trivial) rfl rfl) (fun σ10077 h10078 g10079 f10080 g10081 => ?_)
      obtain ⟨P10082, eP10082⟩ : ∃ P9, P9 = (mkP P10063.n0 P10063.n2 P10063.n5 P10063.n7 P10063.m0 P10063.m5 (min 3 P10063.w7) P10063.w7 P10063.kk P10063.a P10063.b0 P10063.b1 P10063.b2 P10063.b3) := ⟨_, rfl⟩
      rw [← eP10082] at h10078
      have fP10082 : P10082.n0 = P10063.n0 ∧ P10082.n2 = P10063.n2 ∧ P10082.n5 = P10063.n5 ∧ P10082.n7 = P10063.n7 ∧ P10082.m0 = P10063.m0 ∧ P10082.m5 = P10063.m5 ∧ P10082.w2 = min 3 P10063.w7 ∧ P10082.w7 = P10063.w7 ∧ P10082.kk = P10063.kk ∧ P10082.a = P10063.a ∧ P10082.b0 = P10063.b0 ∧ P10082.b1 = P10063.b1 ∧ P10082.b2 = P10063.b2 ∧ P10082.b3 = P10063.b3 := by rw [eP10082]; exact ⟨rfl, rfl, rfl, rfl, rfl, rfl, rfl, rfl, rfl, rfl, rfl, rfl, rfl, rfl⟩
      refine m_iinc F (v := 3) (lv' := [(1, .int 3), (0, .ref c)]) e_X10_takeText_246 rfl (by decide) (by decide) rfl ?_
      refine m_goto F e_X10_takeText_249 ?_
      refine m_iload_n F rfl e_X10_takeText_210 ?_
      refine m_bipush F (v := 8) (by decide) e_X10_takeText_211 ?_
      refine m_icmp_ge F e_X10_takeText_213 (fun q => absurd q (by decide)) (fun _ => ?_)
      refine m_aload_n F rfl e_X10_takeText_216 ?_
      refine r_getC F e_X10_takeText_217 fl_X10_40 h10078 ((fld_eq (g10079 _ (by omega))).trans ((fld_eq (g10070 _ (by omega))).trans ((fld_eq (g10060 _ (by omega))).trans ((fld_eq (g10051 _ (by omega))).trans ((fld_eq (g10041 _ (by omega))).trans ((fld_eq (g10031 _ (by omega))).trans f10024)))))) ?_
      refine m_iload_n F rfl e_X10_takeText_220 ?_
      refine m_aload_n F rfl e_X10_takeText_221 ?_
      refine r_getC F e_X10_takeText_222 fl_X10_40 h10078 ((fld_eq (g10079 _ (by omega))).trans ((fld_eq (g10070 _ (by omega))).trans ((fld_eq (g10060 _ (by omega))).trans ((fld_eq (g10051 _ (by omega))).trans ((fld_eq (g10041 _ (by omega))).trans ((fld_eq (g10031 _ (by omega))).trans f10024)))))) ?_
      refine m_bipush F (v := 8) (by decide) e_X10_takeText_225 ?_
      refine m_iload_n F rfl e_X10_takeText_227 ?_
      refine m_iadd F e_X10_takeText_228 ?_
      refine Wm.topE (w := 11) (by decide) ?_
      refine r_iald F (len := 16) (j := 11) e_X10_takeText_229 h10078 (fun _ h => h) (by decide) (by decide) (by unfold vp_in; decide) (fun x10083 h10084 f10085 => ?_)
      obtain ⟨n10086, hn10086, rfl⟩ := h10084
      refine r_iast F (g' := (⟨T, Z, u, h, P10082, L⟩ : RG)) (len := 16) (j := 3) e_X10_takeText_230 h10078 (fun _ h => h) (fun f h => ⟨f, rfl, h⟩) (by decide) (by decide) (by decide) (by unfold vp_in; decide) ⟨n10086, by omega, rfl⟩ (fun _ _ _ h => h) (fun _ _ _ h => h) (fun σ10087 h10088 g10089 f10090 g10091 => ?_)
      refine m_aload_n F rfl e_X10_takeText_231 ?_
      refine r_getC F e_X10_takeText_232 fl_X10_43 h10088 ((fld_eq (g10089 _ (by omega))).trans ((fld_eq (g10079 _ (by omega))).trans ((fld_eq (g10070 _ (by omega))).trans ((fld_eq (g10060 _ (by omega))).trans ((fld_eq (g10051 _ (by omega))).trans ((fld_eq (g10041 _ (by omega))).trans f10034)))))) ?_
      refine m_iload_n F rfl e_X10_takeText_235 ?_
      refine m_aload_n F rfl e_X10_takeText_236 ?_
      refine r_getC F e_X10_takeText_237 fl_X10_43 h10088 ((fld_eq (g10089 _ (by omega))).trans ((fld_eq (g10079 _ (by omega))).trans ((fld_eq (g10070 _ (by omega))).trans ((fld_eq (g10060 _ (by omega))).trans ((fld_eq (g10051 _ (by omega))).trans ((fld_eq (g10041 _ (by omega))).trans f10034)))))) ?_
      refine m_bipush F (v := 8) (by decide) e_X10_takeText_240 ?_
      refine m_iload_n F rfl e_X10_takeText_242 ?_
      refine m_iadd F e_X10_takeText_243 ?_
      refine Wm.topE (w := 11) (by decide) ?_
      refine r_iald F (len := 16) (j := 11) e_X10_takeText_244 h10088 (fun _ h => h) (by decide) (by decide) (by unfold vp_in; decide) (fun x10092 h10093 f10094 => ?_)
      obtain ⟨n10095, hn10095, rfl, pn10095, rn10095⟩ := h10093
      refine r_iast F (g' := (⟨T, Z, u, h, (mkP P10082.n0 P10082.n2 P10082.n5 P10082.n7 P10082.m0 P10082.m5 (min 4 P10082.w7) P10082.w7 P10082.kk P10082.a P10082.b0 P10082.b1 P10082.b2 P10082.b3), L⟩ : RG)) (len := 16) (j := 3) e_X10_takeText_245 h10088 (fun _ h => h) (fun f h => ⟨f, rfl, h⟩) (by decide) (by decide) (by decide) (by unfold vp_in; decide) ⟨n10095, by omega, rfl, fun _ h8 => rn10095 (by omega) (show 11 < 8 + P10082.w7 by have h6 : 3 < min 4 P10082.w7 := h8; omega), fun h7 _ => absurd h7 (by omega)⟩ (fun i hi y hy => by obtain ⟨n9, a9, b9, c9, d9⟩ := hy; exact ⟨n9, a9, b9, fun h7 h8 => c9 h7 (show i < P10082.w2 by have h6 : i < min 4 P10082.w7 := h8; omega), d9⟩) (CR.chg (by intro k hk i x h; unfold EI at h ⊢; split at h <;> first | exact h | exact absurd rfl hk | trivial) rfl rfl) (fun σ10096 h10097 g10098 f10099 g10100 => ?_)
      obtain ⟨P10101, eP10101⟩ : ∃ P9, P9 = (mkP P10082.n0 P10082.n2 P10082.n5 P10082.n7 P10082.m0 P10082.m5 (min 4 P10082.w7) P10082.w7 P10082.kk P10082.a P10082.b0 P10082.b1 P10082.b2 P10082.b3) := ⟨_, rfl⟩
      rw [← eP10101] at h10097
      have fP10101 : P10101.n0 = P10082.n0 ∧ P10101.n2 = P10082.n2 ∧ P10101.n5 = P10082.n5 ∧ P10101.n7 = P10082.n7 ∧ P10101.m0 = P10082.m0 ∧ P10101.m5 = P10082.m5 ∧ P10101.w2 = min 4 P10082.w7 ∧ P10101.w7 = P10082.w7 ∧ P10101.kk = P10082.kk ∧ P10101.a = P10082.a ∧ P10101.b0 = P10082.b0 ∧ P10101.b1 = P10082.b1 ∧ P10101.b2 = P10082.b2 ∧ P10101.b3 = P10082.b3 := by rw [eP10101]; exact ⟨rfl, rfl, rfl, rfl, rfl, rfl, rfl, rfl, rfl, rfl, rfl, rfl, rfl, rfl⟩
      refine m_iinc F (v := 4) (lv' := [(1, .int 4), (0, .ref c)]) e_X10_takeText_246 rfl (by decide) (by decide) rfl ?_
      refine m_goto F e_X10_takeText_249 ?_
      refine m_iload_n F rfl e_X10_takeText_210 ?_
      refine m_bipush F (v := 8) (by decide) e_X10_takeText_211 ?_
      refine m_icmp_ge F e_X10_takeText_213 (fun q => absurd q (by decide)) (fun _ => ?_)
      refine m_aload_n F rfl e_X10_takeText_216 ?_
      refine r_getC F e_X10_takeText_217 fl_X10_40 h10097 ((fld_eq (g10098 _ (by omega))).trans ((fld_eq (g10089 _ (by omega))).trans ((fld_eq (g10079 _ (by omega))).trans ((fld_eq (g10070 _ (by omega))).trans ((fld_eq (g10060 _ (by omega))).trans ((fld_eq (g10051 _ (by omega))).trans ((fld_eq (g10041 _ (by omega))).trans ((fld_eq (g10031 _ (by omega))).trans f10024)))))))) ?_
      refine m_iload_n F rfl e_X10_takeText_220 ?_
      refine m_aload_n F rfl e_X10_takeText_221 ?_
      refine r_getC F e_X10_takeText_222 fl_X10_40 h10097 ((fld_eq (g10098 _ (by omega))).trans ((fld_eq (g10089 _ (by omega))).trans ((fld_eq (g10079 _ (by omega))).trans ((fld_eq (g10070 _ (by omega))).trans ((fld_eq (g10060 _ (by omega))).trans ((fld_eq (g10051 _ (by omega))).trans ((fld_eq (g10041 _ (by omega))).trans ((fld_eq (g10031 _ (by omega))).trans f10024)))))))) ?_
      refine m_bipush F (v := 8) (by decide) e_X10_takeText_225 ?_
      refine m_iload_n F rfl e_X10_takeText_227 ?_
      refine m_iadd F e_X10_takeText_228 ?_
      refine Wm.topE (w := 12) (by decide) ?_
      refine r_iald F (len := 16) (j := 12) e_X10_takeText_229 h10097 (fun _ h => h) (by decide) (by decide) (by unfold vp_in; decide) (fun x10102 h10103 f10104 => ?_)
      obtain ⟨n10105, hn10105, rfl⟩ := h10103
      refine r_iast F (g' := (⟨T, Z, u, h, P10101, L⟩ : RG)) (len := 16) (j := 4) e_X10_takeText_230 h10097 (fun _ h => h) (fun f h => ⟨f, rfl, h⟩) (by decide) (by decide) (by decide) (by unfold vp_in; decide) ⟨n10105, by omega, rfl⟩ (fun _ _ _ h => h) (fun _ _ _ h => h) (fun σ10106 h10107 g10108 f10109 g10110 => ?_)
      refine m_aload_n F rfl e_X10_takeText_231 ?_
      refine r_getC F e_X10_takeText_232 fl_X10_43 h10107 ((fld_eq (g10108 _ (by omega))).trans ((fld_eq (g10098 _ (by omega))).trans ((fld_eq (g10089 _ (by omega))).trans ((fld_eq (g10079 _ (by omega))).trans ((fld_eq (g10070 _ (by omega))).trans ((fld_eq (g10060 _ (by omega))).trans ((fld_eq (g10051 _ (by omega))).trans ((fld_eq (g10041 _ (by omega))).trans f10034)))))))) ?_
      refine m_iload_n F rfl e_X10_takeText_235 ?_
      refine m_aload_n F rfl e_X10_takeText_236 ?_
      refine r_getC F e_X10_takeText_237 fl_X10_43 h10107 ((fld_eq (g10108 _ (by omega))).trans ((fld_eq (g10098 _ (by omega))).trans ((fld_eq (g10089 _ (by omega))).trans ((fld_eq (g10079 _ (by omega))).trans ((fld_eq (g10070 _ (by omega))).trans ((fld_eq (g10060 _ (by omega))).trans ((fld_eq (g10051 _ (by omega))).trans ((fld_eq (g10041 _ (by omega))).trans f10034)))))))) ?_
      refine m_bipush F (v := 8) (by decide) e_X10_takeText_240 ?_
      refine m_iload_n F rfl e_X10_takeText_242 ?_
      refine m_iadd F e_X10_takeText_243 ?_
      refine Wm.topE (w := 12) (by decide) ?_
      refine r_iald F (len := 16) (j := 12) e_X10_takeText_244 h10107 (fun _ h => h) (by decide) (by decide) (by unfold vp_in; decide) (fun x10111 h10112 f10113 => ?_)
      obtain ⟨n10114, hn10114, rfl, pn10114, rn10114⟩ := h10112
      refine r_iast F (g' := (⟨T, Z, u, h, (mkP P10101.n0 P10101.n2 P10101.n5 P10101.n7 P10101.m0 P10101.m5 (min 5 P10101.w7) P10101.w7 P10101.kk P10101.a P10101.b0 P10101.b1 P10101.b2 P10101.b3), L⟩ : RG)) (len := 16) (j := 4) e_X10_takeText_245 h10107 (fun _ h => h) (fun f h => ⟨f, rfl, h⟩) (by decide) (by decide) (by decide) (by unfold vp_in; decide) ⟨n10114, by omega, rfl, fun _ h8 => rn10114 (by omega) (show 12 < 8 + P10101.w7 by have h6 : 4 < min 5 P10101.w7 := h8; omega), fun h7 _ => absurd h7 (by omega)⟩ (fun i hi y hy => by obtain ⟨n9, a9, b9, c9, d9⟩ := hy; exact ⟨n9, a9, b9, fun h7 h8 => c9 h7 (show i < P10101.w2 by have h6 : i < min 5 P10101.w7 := h8; omega), d9⟩) (CR.chg (by intro k hk i x h; unfold EI at h ⊢; split at h <;> first | exact h | exact absurd rfl hk | trivial) rfl rfl) (fun σ10115 h10116 g10117 f10118 g10119 => ?_)
      obtain ⟨P10120, eP10120⟩ : ∃ P9, P9 = (mkP P10101.n0 P10101.n2 P10101.n5 P10101.n7 P10101.m0 P10101.m5 (min 5 P10101.w7) P10101.w7 P10101.kk P10101.a P10101.b0 P10101.b1 P10101.b2 P10101.b3) := ⟨_, rfl⟩
      rw [← eP10120] at h10116
      have fP10120 : P10120.n0 = P10101.n0 ∧ P10120.n2 = P10101.n2 ∧ P10120.n5 = P10101.n5 ∧ P10120.n7 = P10101.n7 ∧ P10120.m0 = P10101.m0 ∧ P10120.m5 = P10101.m5 ∧ P10120.w2 = min 5 P10101.w7 ∧ P10120.w7 = P10101.w7 ∧ P10120.kk = P10101.kk ∧ P10120.a = P10101.a ∧ P10120.b0 = P10101.b0 ∧ P10120.b1 = P10101.b1 ∧ P10120.b2 = P10101.b2 ∧ P10120.b3 = P10101.b3 := by rw [eP10120]; exact ⟨rfl, rfl, rfl, rfl, rfl, rfl, rfl, rfl, rfl, rfl, rfl, rfl, rfl, rfl⟩
      refine m_iinc F (v := 5) (lv' := [(1, .int 5), (0, .ref c)]) e_X10_takeText_246 rfl (by decide) (by decide) rfl ?_
      refine m_goto F e_X10_takeText_249 ?_
      refine m_iload_n F rfl e_X10_takeText_210 ?_
      refine m_bipush F (v := 8) (by decide) e_X10_takeText_211 ?_
      refine m_icmp_ge F e_X10_takeText_213 (fun q => absurd q (by decide)) (fun _ => ?_)
      refine m_aload_n F rfl e_X10_takeText_216 ?_
      refine r_getC F e_X10_takeText_217 fl_X10_40 h10116 ((fld_eq (g10117 _ (by omega))).trans ((fld_eq (g10108 _ (by omega))).trans ((fld_eq (g10098 _ (by omega))).trans ((fld_eq (g10089 _ (by omega))).trans ((fld_eq (g10079 _ (by omega))).trans ((fld_eq (g10070 _ (by omega))).trans ((fld_eq (g10060 _ (by omega))).trans ((fld_eq (g10051 _ (by omega))).trans ((fld_eq (g10041 _ (by omega))).trans ((fld_eq (g10031 _ (by omega))).trans f10024)))))))))) ?_
      refine m_iload_n F rfl e_X10_takeText_220 ?_
      refine m_aload_n F rfl e_X10_takeText_221 ?_
      refine r_getC F e_X10_takeText_222 fl_X10_40 h10116 ((fld_eq (g10117 _ (by omega))).trans ((fld_eq (g10108 _ (by omega))).trans ((fld_eq (g10098 _ (by omega))).trans ((fld_eq (g10089 _ (by omega))).trans ((fld_eq (g10079 _ (by omega))).trans ((fld_eq (g10070 _ (by omega))).trans ((fld_eq (g10060 _ (by omega))).trans ((fld_eq (g10051 _ (by omega))).trans ((fld_eq (g10041 _ (by omega))).trans ((fld_eq (g10031 _ (by omega))).trans f10024)))))))))) ?_
      refine m_bipush F (v := 8) (by decide) e_X10_takeText_225 ?_
      refine m_iload_n F rfl e_X10_takeText_227 ?_
      refine m_iadd F e_X10_takeText_228 ?_
      refine Wm.topE (w := 13) (by decide) ?_
      refine r_iald F (len := 16) (j := 13) e_X10_takeText_229 h10116 (fun _ h => h) (by decide) (by decide) (by unfold vp_in; decide) (fun x10121 h10122 f10123 => ?_)
      obtain ⟨n10124, hn10124, rfl⟩ := h10122
      refine r_iast F (g' := (⟨T, Z, u, h, P10120, L⟩ : RG)) (len := 16) (j := 5) e_X10_takeText_230 h10116 (fun _ h => h) (fun f h => ⟨f, rfl, h⟩) (by decide) (by decide) (by decide) (by unfold vp_in; decide) ⟨n10124, by omega, rfl⟩ (fun _ _ _ h => h) (fun _ _ _ h => h) (fun σ10125 h10126 g10127 f10128 g10129 => ?_)
      refine m_aload_n F rfl e_X10_takeText_231 ?_
      refine r_getC F e_X10_takeText_232 fl_X10_43 h10126 ((fld_eq (g10127 _ (by omega))).trans ((fld_eq (g10117 _ (by omega))).trans ((fld_eq (g10108 _ (by omega))).trans ((fld_eq (g10098 _ (by omega))).trans ((fld_eq (g10089 _ (by omega))).trans ((fld_eq (g10079 _ (by omega))).trans ((fld_eq (g10070 _ (by omega))).trans ((fld_eq (g10060 _ (by omega))).trans ((fld_eq (g10051 _ (by omega))).trans ((fld_eq (g10041 _ (by omega))).trans f10034)))))))))) ?_
      refine m_iload_n F rfl e_X10_takeText_235 ?_
      refine m_aload_n F rfl e_X10_takeText_236 ?_
      refine r_getC F e_X10_takeText_237 fl_X10_43 h10126 ((fld_eq (g10127 _ (by omega))).trans ((fld_eq (g10117 _ (by omega))).trans ((fld_eq (g10108 _ (by omega))).trans ((fld_eq (g10098 _ (by omega))).trans ((fld_eq (g10089 _ (by omega))).trans ((fld_eq (g10079 _ (by omega))).trans ((fld_eq (g10070 _ (by omega))).trans ((fld_eq (g10060 _ (by omega))).trans ((fld_eq (g10051 _ (by omega))).trans ((fld_eq (g10041 _ (by omega))).trans f10034)))))))))) ?_
      refine m_bipush F (v := 8) (by decide) e_X10_takeText_240 ?_
      refine m_iload_n F rfl e_X10_takeText_242 ?_
      refine m_iadd F e_X10_takeText_243 ?_
      refine Wm.topE (w := 13) (by decide) ?_
      refine r_iald F (len := 16) (j := 13) e_X10_takeText_244 h10126 (fun _ h => h) (by decide) (by decide) (by unfold vp_in; decide) (fun x10130 h10131 f10132 => ?_)
      obtain ⟨n10133, hn10133, rfl, pn10133, rn10133⟩ := h10131
      refine r_iast F (g' := (⟨T, Z, u, h, (mkP P10120.n0 P10120.n2 P10120.n5 P10120.n7 P10120.m0 P10120.m5 (min 6 P10120.w7) P10120.w7 P10120.kk P10120.a P10120.b0 P10120.b1 P10120.b2 P10120.b3), L⟩ : RG)) (len := 16) (j := 5) e_X10_takeText_245 h10126 (fun _ h => h) (fun f h => ⟨f, rfl, h⟩) (by decide) (by decide) (by decide) (by unfold vp_in; decide) ⟨n10133, by omega, rfl, fun _ h8 => rn10133 (by omega) (show 13 < 8 + P10120.w7 by have h6 : 5 < min 6 P10120.w7 := h8; omega), fun h7 _ => absurd h7 (by omega)⟩ (fun i hi y hy => by obtain ⟨n9, a9, b9, c9, d9⟩ := hy; exact ⟨n9, a9, b9, fun h7 h8 => c9 h7 (show i < P10120.w2 by have h6 : i < min 6 P10120.w7 := h8; omega), d9⟩) (CR.chg (by intro k hk i x h; unfold EI at h ⊢; split at h <;> first | exact h | exact absurd rfl hk | trivial) rfl rfl) (fun σ10134 h10135 g10136 f10137 g10138 => ?_)
      obtain ⟨P10139, eP10139⟩ : ∃ P9, P9 = (mkP P10120.n0 P10120.n2 P10120.n5 P10120.n7 P10120.m0 P10120.m5 (min 6 P10120.w7) P10120.w7 P10120.kk P10120.a P10120.b0 P10120.b1 P10120.b2 P10120.b3) := ⟨_, rfl⟩
      rw [← eP10139] at h10135
      have fP10139 : P10139.n0 = P10120.n0 ∧ P10139.n2 = P10120.n2 ∧ P10139.n5 = P10120.n5 ∧ P10139.n7 = P10120.n7 ∧ P10139.m0 = P10120.m0 ∧ P10139.m5 = P10120.m5 ∧ P10139.w2 = min 6 P10120.w7 ∧ P10139.w7 = P10120.w7 ∧ P10139.kk = P10120.kk ∧ P10139.a = P10120.a ∧ P10139.b0 = P10120.b0 ∧ P10139.b1 = P10120.b1 ∧ P10139.b2 = P10120.b2 ∧ P10139.b3 = P10120.b3 := by rw [eP10139]; exact ⟨rfl, rfl, rfl, rfl, rfl, rfl, rfl, rfl, rfl, rfl, rfl, rfl, rfl, rfl⟩
      refine m_iinc F (v := 6) (lv' := [(1, .int 6), (0, .ref c)]) e_X10_takeText_246 rfl (by decide) (by decide) rfl ?_
      refine m_goto F e_X10_takeText_249 ?_
      refine m_iload_n F rfl e_X10_takeText_210 ?_
      refine m_bipush F (v := 8) (by decide) e_X10_takeText_211 ?_
      refine m_icmp_ge F e_X10_takeText_213 (fun q => absurd q (by decide)) (fun _ => ?_)
      refine m_aload_n F rfl e_X10_takeText_216 ?_
      refine r_getC F e_X10_takeText_217 fl_X10_40 h10135 ((fld_eq (g10136 _ (by omega))).trans ((fld_eq (g10127 _ (by omega))).trans ((fld_eq (g10117 _ (by omega))).trans ((fld_eq (g10108 _ (by omega))).trans ((fld_eq (g10098 _ (by omega))).trans ((fld_eq (g10089 _ (by omega))).trans ((fld_eq (g10079 _ (by omega))).trans ((fld_eq (g10070 _ (by omega))).trans ((fld_eq (g10060 _ (by omega))).trans ((fld_eq (g10051 _ (by omega))).trans ((fld_eq (g10041 _ (by omega))).trans ((fld_eq (g10031 _ (by omega))).trans f10024)))))))))))) ?_
      refine m_iload_n F rfl e_X10_takeText_220 ?_
      refine m_aload_n F rfl e_X10_takeText_221 ?_
      refine r_getC F e_X10_takeText_222 fl_X10_40 h10135 ((fld_eq (g10136 _ (by omega))).trans ((fld_eq (g10127 _ (by omega))).trans ((fld_eq (g10117 _ (by omega))).trans ((fld_eq (g10108 _ (by omega))).trans ((fld_eq (g10098 _ (by omega))).trans ((fld_eq (g10089 _ (by omega))).trans ((fld_eq (g10079 _ (by omega))).trans ((fld_eq (g10070 _ (by omega))).trans ((fld_eq (g10060 _ (by omega))).trans ((fld_eq (g10051 _ (by omega))).trans ((fld_eq (g10041 _ (by omega))).trans ((fld_eq (g10031 _ (by omega))).trans f10024)))))))))))) ?_
      refine m_bipush F (v := 8) (by decide) e_X10_takeText_225 ?_
      refine m_iload_n F rfl e_X10_takeText_227 ?_
      refine m_iadd F e_X10_takeText_228 ?_
      refine Wm.topE (w := 14) (by decide) ?_
      refine r_iald F (len := 16) (j := 14) e_X10_takeText_229 h10135 (fun _ h => h) (by decide) (by decide) (by unfold vp_in; decide) (fun x10140 h10141 f10142 => ?_)
      obtain ⟨n10143, hn10143, rfl⟩ := h10141
      refine r_iast F (g' := (⟨T, Z, u, h, P10139, L⟩ : RG)) (len := 16) (j := 6) e_X10_takeText_230 h10135 (fun _ h => h) (fun f h => ⟨f, rfl, h⟩) (by decide) (by decide) (by decide) (by unfold vp_in; decide) ⟨n10143, by omega, rfl⟩ (fun _ _ _ h => h) (fun _ _ _ h => h) (fun σ10144 h10145 g10146 f10147 g10148 => ?_)
      refine m_aload_n F rfl e_X10_takeText_231 ?_
      refine r_getC F e_X10_takeText_232 fl_X10_43 h10145 ((fld_eq (g10146 _ (by omega))).trans ((fld_eq (g10136 _ (by omega))).trans ((fld_eq (g10127 _ (by omega))).trans ((fld_eq (g10117 _ (by omega))).trans ((fld_eq (g10108 _ (by omega))).trans ((fld_eq (g10098 _ (by omega))).trans ((fld_eq (g10089 _ (by omega))).trans ((fld_eq (g10079 _ (by omega))).trans ((fld_eq (g10070 _ (by omega))).trans ((fld_eq (g10060 _ (by omega))).trans ((fld_eq (g10051 _ (by omega))).trans ((fld_eq (g10041 _ (by omega))).trans f10034)))))))))))) ?_
      refine m_iload_n F rfl e_X10_takeText_235 ?_
      refine m_aload_n F rfl e_X10_takeText_236 ?_
      refine r_getC F e_X10_takeText_237 fl_X10_43 h10145 ((fld_eq (g10146 _ (by omega))).trans ((fld_eq (g10136 _ (by omega))).trans ((fld_eq (g10127 _ (by omega))).trans ((fld_eq (g10117 _ (by omega))).trans ((fld_eq (g10108 _ (by omega))).trans ((fld_eq (g10098 _ (by omega))).trans ((fld_eq (g10089 _ (by omega))).trans ((fld_eq (g10079 _ (by omega))).trans ((fld_eq (g10070 _ (by omega))).trans ((fld_eq (g10060 _ (by omega))).trans ((fld_eq (g10051 _ (by omega))).trans ((fld_eq (g10041 _ (by omega))).trans f10034)))))))))))) ?_
      refine m_bipush F (v := 8) (by decide) e_X10_takeText_240 ?_
      refine m_iload_n F rfl e_X10_takeText_242 ?_
      refine m_iadd F e_X10_takeText_243 ?_
      refine Wm.topE (w := 14) (by decide) ?_
      refine r_iald F (len := 16) (j := 14) e_X10_takeText_244 h10145 (fun _ h => h) (by decide) (by decide) (by unfold vp_in; decide) (fun x10149 h10150 f10151 => ?_)
      obtain ⟨n10152, hn10152, rfl, pn10152, rn10152⟩ := h10150
      refine r_iast F (g' := (⟨T, Z, u, h, (mkP P10139.n0 P10139.n2 P10139.n5 P10139.n7 P10139.m0 P10139.m5 (min 7 P10139.w7) P10139.w7 P10139.kk P10139.a P10139.b0 P10139.b1 P10139.b2 P10139.b3), L⟩ : RG)) (len := 16) (j := 6) e_X10_takeText_245 h10145 (fun _ h => h) (fun f h => ⟨f, rfl, h⟩) (by decide) (by decide) (by decide) (by unfold vp_in; decide) ⟨n10152, by omega, rfl, fun _ h8 => rn10152 (by omega) (show 14 < 8 + P10139.w7 by have h6 : 6 < min 7 P10139.w7 := h8; omega), fun h7 _ => absurd h7 (by omega)⟩ (fun i hi y hy => by obtain ⟨n9, a9, b9, c9, d9⟩ := hy; exact ⟨n9, a9, b9, fun h7 h8 => c9 h7 (show i < P10139.w2 by have h6 : i < min 7 P10139.w7 := h8; omega), d9⟩) (CR.chg (by intro k hk i x h; unfold EI at h ⊢; split at h <;> first | exact h | exact absurd rfl hk | trivial) rfl rfl) (fun σ10153 h10154 g10155 f10156 g10157 => ?_)
      obtain ⟨P10158, eP10158⟩ : ∃ P9, P9 = (mkP P10139.n0 P10139.n2 P10139.n5 P10139.n7 P10139.m0 P10139.m5 (min 7 P10139.w7) P10139.w7 P10139.kk P10139.a P10139.b0 P10139.b1 P10139.b2 P10139.b3) := ⟨_, rfl⟩
      rw [← eP10158] at h10154
      have fP10158 : P10158.n0 = P10139.n0 ∧ P10158.n2 = P10139.n2 ∧ P10158.n5 = P10139.n5 ∧ P10158.n7 = P10139.n7 ∧ P10158.m0 = P10139.m0 ∧ P10158.m5 = P10139.m5 ∧ P10158.w2 = min 7 P10139.w7 ∧ P10158.w7 = P10139.w7 ∧ P10158.kk = P10139.kk ∧ P10158.a = P10139.a ∧ P10158.b0 = P10139.b0 ∧ P10158.b1 = P10139.b1 ∧ P10158.b2 = P10139.b2 ∧ P10158.b3 = P10139.b3 := by rw [eP10158]; exact ⟨rfl, rfl, rfl, rfl, rfl, rfl, rfl, rfl, rfl, rfl, rfl, rfl, rfl, rfl⟩
      refine m_iinc F (v := 7) (lv' := [(1, .int 7), (0, .ref c)]) e_X10_takeText_246 rfl (by decide) (by decide) rfl ?_
      refine m_goto F e_X10_takeText_249 ?_
      refine m_iload_n F rfl e_X10_takeText_210 ?_
      refine m_bipush F (v := 8) (by decide) e_X10_takeText_211 ?_
      refine m_icmp_ge F e_X10_takeText_213 (fun q => absurd q (by decide)) (fun _ => ?_)
      refine m_aload_n F rfl e_X10_takeText_216 ?_
      refine r_getC F e_X10_takeText_217 fl_X10_40 h10154 ((fld_eq (g10155 _ (by omega))).trans ((fld_eq (g10146 _ (by omega))).trans ((fld_eq (g10136 _ (by omega))).trans ((fld_eq (g10127 _ (by omega))).trans ((fld_eq (g10117 _ (by omega))).trans ((fld_eq (g10108 _ (by omega))).trans ((fld_eq (g10098 _ (by omega))).trans ((fld_eq (g10089 _ (by omega))).trans ((fld_eq (g10079 _ (by omega))).trans ((fld_eq (g10070 _ (by omega))).trans ((fld_eq (g10060 _ (by omega))).trans ((fld_eq (g10051 _ (by omega))).trans ((fld_eq (g10041 _ (by omega))).trans ((fld_eq (g10031 _ (by omega))).trans f10024)))))))))))))) ?_
      refine m_iload_n F rfl e_X10_takeText_220 ?_
      refine m_aload_n F rfl e_X10_takeText_221 ?_
      refine r_getC F e_X10_takeText_222 fl_X10_40 h10154 ((fld_eq (g10155 _ (by omega))).trans ((fld_eq (g10146 _ (by omega))).trans ((fld_eq (g10136 _ (by omega))).trans ((fld_eq (g10127 _ (by omega))).trans ((fld_eq (g10117 _ (by omega))).trans ((fld_eq (g10108 _ (by omega))).trans ((fld_eq (g10098 _ (by omega))).trans ((fld_eq (g10089 _ (by omega))).trans ((fld_eq (g10079 _ (by omega))).trans ((fld_eq (g10070 _ (by omega))).trans ((fld_eq (g10060 _ (by omega))).trans ((fld_eq (g10051 _ (by omega))).trans ((fld_eq (g10041 _ (by omega))).trans ((fld_eq (g10031 _ (by omega))).trans f10024)))))))))))))) ?_
      refine m_bipush F (v := 8) (by decide) e_X10_takeText_225 ?_
      refine m_iload_n F rfl e_X10_takeText_227 ?_
      refine m_iadd F e_X10_takeText_228 ?_
      refine Wm.topE (w := 15) (by decide) ?_
      refine r_iald F (len := 16) (j := 15) e_X10_takeText_229 h10154 (fun _ h => h) (by decide) (by decide) (by unfold vp_in; decide) (fun x10159 h10160 f10161 => ?_)
      obtain ⟨n10162, hn10162, rfl⟩ := h10160
      refine r_iast F (g' := (⟨T, Z, u, h, P10158, L⟩ : RG)) (len := 16) (j := 7) e_X10_takeText_230 h10154 (fun _ h => h) (fun f h => ⟨f, rfl, h⟩) (by decide) (by decide) (by decide) (by unfold vp_in; decide) ⟨n10162, by omega, rfl⟩ (fun _ _ _ h => h) (fun _ _ _ h => h) (fun σ10163 h10164 g10165 f10166 g10167 => ?_)
      refine m_aload_n F rfl e_X10_takeText_231 ?_
      refine r_getC F e_X10_takeText_232 fl_X10_43 h10164 ((fld_eq (g10165 _ (by omega))).trans ((fld_eq (g10155 _ (by omega))).trans ((fld_eq (g10146 _ (by omega))).trans ((fld_eq (g10136 _ (by omega))).trans ((fld_eq (g10127 _ (by omega))).trans ((fld_eq (g10117 _ (by omega))).trans ((fld_eq (g10108 _ (by omega))).trans ((fld_eq (g10098 _ (by omega))).trans ((fld_eq (g10089 _ (by omega))).trans ((fld_eq (g10079 _ (by omega))).trans ((fld_eq (g10070 _ (by omega))).trans ((fld_eq (g10060 _ (by omega))).trans ((fld_eq (g10051 _ (by omega))).trans ((fld_eq (g10041 _ (by omega))).trans f10034)))))))))))))) ?_
      refine m_iload_n F rfl e_X10_takeText_235 ?_
      refine m_aload_n F rfl e_X10_takeText_236 ?_
      refine r_getC F e_X10_takeText_237 fl_X10_43 h10164 ((fld_eq (g10165 _ (by omega))).trans ((fld_eq (g10155 _ (by omega))).trans ((fld_eq (g10146 _ (by omega))).trans ((fld_eq (g10136 _ (by omega))).trans ((fld_eq (g10127 _ (by omega))).trans ((fld_eq (g10117 _ (by omega))).trans ((fld_eq (g10108 _ (by omega))).trans ((fld_eq (g10098 _ (by omega))).trans ((fld_eq (g10089 _ (by omega))).trans ((fld_eq (g10079 _ (by omega))).trans ((fld_eq (g10070 _ (by omega))).trans ((fld_eq (g10060 _ (by omega))).trans ((fld_eq (g10051 _ (by omega))).trans ((fld_eq (g10041 _ (by omega))).trans f10034)))))))))))))) ?_
      refine m_bipush F (v := 8) (by decide) e_X10_takeText_240 ?_
      refine m_iload_n F rfl e_X10_takeText_242 ?_
      refine m_iadd F e_X10_takeText_243 ?_
      refine Wm.topE (w := 15) (by decide) ?_
      refine r_iald F (len := 16) (j := 15) e_X10_takeText_244 h10164 (fun _ h => h) (by decide) (by decide) (by unfold vp_in; decide) (fun x10168 h10169 f10170 => ?_)
      obtain ⟨n10171, hn10171, rfl, pn10171, rn10171⟩ := h10169
      refine r_iast F (g' := (⟨T, Z, u, h, (mkP P10158.n0 P10158.n2 P10158.n5 P10158.n7 P10158.m0 P10158.m5 (min 8 P10158.w7) P10158.w7 P10158.kk P10158.a P10158.b0 P10158.b1 P10158.b2 P10158.b3), L⟩ : RG)) (len := 16) (j := 7) e_X10_takeText_245 h10164 (fun _ h => h) (fun f h => ⟨f, rfl, h⟩) (by decide) (by decide) (by decide) (by unfold vp_in; decide) ⟨n10171, by omega, rfl, fun _ h8 => rn10171 (by omega) (show 15 < 8 + P10158.w7 by have h6 : 7 < min 8 P10158.w7 := h8; omega), fun h7 _ => absurd h7 (by omega)⟩ (fun i hi y hy => by obtain ⟨n9, a9, b9, c9, d9⟩ := hy; exact ⟨n9, a9, b9, fun h7 h8 => c9 h7 (show i < P10158.w2 by have h6 : i < min 8 P10158.w7 := h8; omega), d9⟩) (CR.chg (by intro k hk i x h; unfold EI at h ⊢; split at h <;> first | exact h | exact absurd rfl hk | trivial) rfl rfl) (fun σ10172 h10173 g10174 f10175 g10176 => ?_)
      obtain ⟨P10177, eP10177⟩ : ∃ P9, P9 = (mkP P10158.n0 P10158.n2 P10158.n5 P10158.n7 P10158.m0 P10158.m5 (min 8 P10158.w7) P10158.w7 P10158.kk P10158.a P10158.b0 P10158.b1 P10158.b2 P10158.b3) := ⟨_, rfl⟩
      rw [← eP10177] at h10173
      have fP10177 : P10177.n0 = P10158.n0 ∧ P10177.n2 = P10158.n2 ∧ P10177.n5 = P10158.n5 ∧ P10177.n7 = P10158.n7 ∧ P10177.m0 = P10158.m0 ∧ P10177.m5 = P10158.m5 ∧ P10177.w2 = min 8 P10158.w7 ∧ P10177.w7 = P10158.w7 ∧ P10177.kk = P10158.kk ∧ P10177.a = P10158.a ∧ P10177.b0 = P10158.b0 ∧ P10177.b1 = P10158.b1 ∧ P10177.b2 = P10158.b2 ∧ P10177.b3 = P10158.b3 := by rw [eP10177]; exact ⟨rfl, rfl, rfl, rfl, rfl, rfl, rfl, rfl, rfl, rfl, rfl, rfl, rfl, rfl⟩
      refine m_iinc F (v := 8) (lv' := [(1, .int 8), (0, .ref c)]) e_X10_takeText_246 rfl (by decide) (by decide) rfl ?_
      refine m_goto F e_X10_takeText_249 ?_
      refine m_iload_n F rfl e_X10_takeText_210 ?_
      refine m_bipush F (v := 8) (by decide) e_X10_takeText_211 ?_
      refine m_icmp_ge F e_X10_takeText_213 (fun _ => ?_) (fun q => absurd (by decide) q)
      have oP10178 : OKP P10177 := by unfold OKP; omega
      exact m_vret F hQ e_X10_takeText_252 (⟨P10177, oP10178, (by unfold RT; omega), h10173, rfl⟩)
    · have c183 : i < 192 := by have hh := mt (nI_leI (a := 192) (b := i) (by omega) (by omega)).mpr q183; omega
      refine m_aload_n F rfl e_X10_takeText_186 ?_
      refine r_get F e_X10_takeText_187 fl_X10_37 h1 rfl (fun v hv f10179 => ?_)
      obtain rfl : v = .ref (c + 10) := hv
      refine m_iload_n F rfl e_X10_takeText_190 ?_
      refine m_aload_n F rfl e_X10_takeText_191 ?_
      refine r_getC F e_X10_takeText_192 fl_X10_37 h1 (f10179) ?_
      refine m_sipush F (v := 192) (by decide) e_X10_takeText_195 ?_
      refine m_iload_n F rfl e_X10_takeText_198 ?_
      refine m_iadd F e_X10_takeText_199 ?_
      refine Wm.topE (w := nI (192 + i)) (nI_add 192 i) ?_
      refine r_iald F (len := 384) (j := 192 + i) e_X10_takeText_200 h1 (fun _ h => h) (by decide) (nI_clamp (by omega)) (vp_in_nI (by omega) (by decide)) (fun x10180 h10181 f10182 => ?_)
      refine r_iast F (g' := (⟨T, Z, u, h, P1, L⟩ : RG)) (len := 384) (j := i) e_X10_takeText_201 h1 (fun _ h => h) (fun f h => ⟨f, rfl, h⟩) (by decide) (by decide) (nI_clamp (by omega)) (vp_in_nI (by omega) (by decide)) trivial (fun _ _ _ h => h) (fun _ _ _ h => h) (fun σ10183 h10184 g10185 f10186 g10187 => ?_)
      refine m_iinc F (v := nI (i + 1)) (lv' := [(1, .int (nI (i + 1))), (0, .ref c)]) e_X10_takeText_202 rfl (nI_add i 1) (by decide) rfl ?_
      refine m_goto F e_X10_takeText_205 ?_
      refine Wm.lvsub (lv' := [(0, .ref c), (1, .int (nI (i + 1)))]) ?_ [1, 0] rfl
      exact ih (i + 1) P1 _ h10184 hP1 (by unfold RT3; omega) (by omega) (by omega)
set_option maxHeartbeats 16000000 in
set_option maxRecDepth 20000 in
theorem q_X10_takeText (l : Launch) (V : VX) (c T Z u h : Nat) (P : NP) (L : Nat → LQ) (N : Nat) (σ : Mem)  (h0 : HR V c ⟨T, Z, u, h, P, L⟩ σ) (hob : OKB L) (hP : OKP P)  : Ct l V yX10_takeText cX10_takeText 2 none 1 0 0 N σ [.ref c] (fun r τ => ∃ P9 : NP, OKP P9 ∧ RT P P9 ∧ HS V c (⟨T, Z, u, h, P9, L⟩ : RG) [0, 1, 2, 17, 18, 19, 20, 21, 22, 23] σ τ ∧ r = none) := by
  refine Ct.of (by decide) (Nat.le_of_ble_eq_true rfl) [(0, .ref c)] rfl (fun X hX F hQ => ?_)
  have hPP := hP
  unfold OKP at hPP
  have h1 : HS V c ⟨T, Z, u, h, P, L⟩ [0, 1, 2, 17, 18, 19, 20, 21, 22, 23] σ σ := HS.start h0
  have h2 : HS V c (⟨T, Z, u, h, (mkP P.n0 P.n2 P.n5 P.n7 0 P.m5 0 P.w7 P.kk P.a P.b0 P.b1 P.b2 P.b3), L⟩ : RG) [0, 1, 2, 17, 18, 19, 20, 21, 22, 23] σ σ := HS.start (HR.forget h0)
  obtain ⟨P10188, eP10188⟩ : ∃ P9, P9 = (mkP P.n0 P.n2 P.n5 P.n7 0 P.m5 0 P.w7 P.kk P.a P.b0 P.b1 P.b2 P.b3) := ⟨_, rfl⟩
  rw [← eP10188] at h2
  have fP10188 : P10188.n0 = P.n0 ∧ P10188.n2 = P.n2 ∧ P10188.n5 = P.n5 ∧ P10188.n7 = P.n7 ∧ P10188.m0 = 0 ∧ P10188.m5 = P.m5 ∧ P10188.w2 = 0 ∧ P10188.w7 = P.w7 ∧ P10188.kk = P.kk ∧ P10188.a = P.a ∧ P10188.b0 = P.b0 ∧ P10188.b1 = P.b1 ∧ P10188.b2 = P.b2 ∧ P10188.b3 = P.b3 := by rw [eP10188]; exact ⟨rfl, rfl, rfl, rfl, rfl, rfl, rfl, rfl, rfl, rfl, rfl, rfl, rfl, rfl⟩
  refine m_iconst F (v := 0) (by decide) e_X10_takeText_0 ?_
  refine m_istore_n F (lv' := [(1, .int 0), (0, .ref c)]) e_X10_takeText_1 (by decide) rfl ?_
  refine m_iload_n F rfl e_X10_takeText_2 ?_
  refine m_iconst F (v := 5) (by decide) e_X10_takeText_3 ?_
  refine m_icmp_ge F e_X10_takeText_4 (fun q => absurd q (by decide)) (fun _ => ?_)
  refine m_aload_n F rfl e_X10_takeText_7 ?_
  refine r_get F e_X10_takeText_8 fl_X10_13 h2 rfl (fun v hv f10189 => ?_)
  obtain rfl : v = .ref (c + 2) := hv
  refine m_iload_n F rfl e_X10_takeText_11 ?_
  refine m_aload_n F rfl e_X10_takeText_12 ?_
  refine m_iload_n F rfl e_X10_takeText_13 ?_
  have oP10193 : OKP P10188 := by unfold OKP; omega
  refine r_callV F e_X10_takeText_14 (q_X10_reading0 (x_l X) V c T Z u h P10188 L _ _  h2.1 (hob) oP10193 ) cb_X10_reading ml_X10_157 im_X10_reading se_X10_reading h2 rfl rfl (rest := [.int 0, .ref (c + 2)]) rfl (Nat.le_of_ble_eq_true rfl) ⟨Nat.le_of_ble_eq_true rfl, Nat.le_of_ble_eq_true rfl⟩ ⟨Nat.le_of_ble_eq_true rfl, Nat.le_of_ble_eq_true rfl⟩ (fun r σ10190 hp => ?_)
  obtain ⟨h10191, rfl⟩ := hp
  have h10192 := HS.trans h2 h10191 (by decide)
  refine r_iast F (g' := (⟨T, Z, u, h, (mkP P10188.n5 P10188.n2 P10188.n5 P10188.n7 P10188.m0 P10188.m5 P10188.w2 P10188.w7 P10188.kk P10188.a P10188.b0 P10188.b1 P10188.b2 P10188.b3), L⟩ : RG)) (len := 10) (j := 0) e_X10_takeText_17 h10192 (fun _ h => h) (fun f h => ⟨f, rfl, h⟩) (by decide) (by decide) (by decide) (by unfold vp_in; decide) (by refine ⟨?_, ?_, ?_, ?_, ?_, ?_⟩ <;> intro e <;> first | exact absurd e (by decide) | rfl | exact ⟨_, by omega, rfl⟩) (fun i hi y hy => ⟨fun e => absurd e hi, hy.2.1, hy.2.2.1, hy.2.2.2.1, hy.2.2.2.2.1, hy.2.2.2.2.2⟩) (CR.chg (by intro k hk i x h; unfold EI at h ⊢; split at h <;> first | exact h | exact absurd rfl hk | trivial) rfl rfl) (fun σ10194 h10195 g10196 f10197 g10198 => ?_)
  obtain ⟨P10199, eP10199⟩ : ∃ P9, P9 = (mkP P10188.n5 P10188.n2 P10188.n5 P10188.n7 P10188.m0 P10188.m5 P10188.w2 P10188.w7 P10188.kk P10188.a P10188.b0 P10188.b1 P10188.b2 P10188.b3) := ⟨_, rfl⟩
  rw [← eP10199] at h10195
  have fP10199 : P10199.n0 = P10188.n5 ∧ P10199.n2 = P10188.n2 ∧ P10199.n5 = P10188.n5 ∧ P10199.n7 = P10188.n7 ∧ P10199.m0 = P10188.m0 ∧ P10199.m5 = P10188.m5 ∧ P10199.w2 = P10188.w2 ∧ P10199.w7 = P10188.w7 ∧ P10199.kk = P10188.kk ∧ P10199.a = P10188.a ∧ P10199.b0 = P10188.b0 ∧ P10199.b1 = P10188.b1 ∧ P10199.b2 = P10188.b2 ∧ P10199.b3 = P10188.b3 := by rw [eP10199]; exact ⟨rfl, rfl, rfl, rfl, rfl, rfl, rfl, rfl, rfl, rfl, rfl, rfl, rfl, rfl⟩
  refine m_iinc F (v := 1) (lv' := [(1, .int 1), (0, .ref c)]) e_X10_takeText_18 rfl (by decide) (by decide) rfl ?_
  refine m_goto F e_X10_takeText_21 ?_
  refine m_iload_n F rfl e_X10_takeText_2 ?_
  refine m_iconst F (v := 5) (by decide) e_X10_takeText_3 ?_
  refine m_icmp_ge F e_X10_takeText_4 (fun q => absurd q (by decide)) (fun _ => ?_)
  refine m_aload_n F rfl e_X10_takeText_7 ?_
  refine r_getC F e_X10_takeText_8 fl_X10_13 h10195 ((fld_eq (g10196 _ (by omega))).trans ((fld_eq (h10191.2 c (by rw [show kC c c = 1 from kC_at (k := 0) (by decide)]; decide))).trans f10189)) ?_
  refine m_iload_n F rfl e_X10_takeText_11 ?_
  refine m_aload_n F rfl e_X10_takeText_12 ?_
  refine m_iload_n F rfl e_X10_takeText_13 ?_
  have oP10203 : OKP P10199 := by unfold OKP; omega
  refine r_callV F e_X10_takeText_14 (q_X10_reading1 (x_l X) V c T Z u h P10199 L _ _  h10195.1 (hob) oP10203 ) cb_X10_reading ml_X10_157 im_X10_reading se_X10_reading h10195 rfl rfl (rest := [.int 1, .ref (c + 2)]) rfl (Nat.le_of_ble_eq_true rfl) ⟨Nat.le_of_ble_eq_true rfl, Nat.le_of_ble_eq_true rfl⟩ ⟨Nat.le_of_ble_eq_true rfl, Nat.le_of_ble_eq_true rfl⟩ (fun r σ10200 hp => ?_)
  obtain ⟨h10201, x10204, rfl⟩ := hp
  have h10202 := HS.trans h10195 h10201 (by decide)
  refine r_iast F (g' := (⟨T, Z, u, h, P10199, L⟩ : RG)) (len := 10) (j := 1) e_X10_takeText_17 h10202 (fun _ h => h) (fun f h => ⟨f, rfl, h⟩) (by decide) (by decide) (by decide) (by unfold vp_in; decide) (by refine ⟨?_, ?_, ?_, ?_, ?_, ?_⟩ <;> intro e <;> first | exact absurd e (by decide) | rfl | exact ⟨_, by omega, rfl⟩) (fun _ _ _ h => h) (fun _ _ _ h => h) (fun σ10205 h10206 g10207 f10208 g10209 => ?_)
  refine m_iinc F (v := 2) (lv' := [(1, .int 2), (0, .ref c)]) e_X10_takeText_18 rfl (by decide) (by decide) rfl ?_
  refine m_goto F e_X10_takeText_21 ?_
  refine m_iload_n F rfl e_X10_takeText_2 ?_
  refine m_iconst F (v := 5) (by decide) e_X10_takeText_3 ?_
  refine m_icmp_ge F e_X10_takeText_4 (fun q => absurd q (by decide)) (fun _ => ?_)
  refine m_aload_n F rfl e_X10_takeText_7 ?_
  refine r_getC F e_X10_takeText_8 fl_X10_13 h10206 ((fld_eq (g10207 _ (by omega))).trans ((fld_eq (h10201.2 c (by rw [show kC c c = 1 from kC_at (k := 0) (by decide)]; decide))).trans ((fld_eq (g10196 _ (by omega))).trans ((fld_eq (h10191.2 c (by rw [show kC c c = 1 from kC_at (k := 0) (by decide)]; decide))).trans f10189)))) ?_
  refine m_iload_n F rfl e_X10_takeText_11 ?_
  refine m_aload_n F rfl e_X10_takeText_12 ?_
  refine m_iload_n F rfl e_X10_takeText_13 ?_
  refine r_callV F e_X10_takeText_14 (q_X10_reading2 (x_l X) V c T Z u h P10199 L _ _  h10206.1 (hob) oP10203 ) cb_X10_reading ml_X10_157 im_X10_reading se_X10_reading h10206 rfl rfl (rest := [.int 2, .ref (c + 2)]) rfl (Nat.le_of_ble_eq_true rfl) ⟨Nat.le_of_ble_eq_true rfl, Nat.le_of_ble_eq_true rfl⟩ ⟨Nat.le_of_ble_eq_true rfl, Nat.le_of_ble_eq_true rfl⟩ (fun r σ10210 hp => ?_)
  obtain ⟨h10211, rfl⟩ := hp
  have h10212 := HS.trans h10206 h10211 (by decide)
  refine r_iast F (g' := (⟨T, Z, u, h, (mkP P10199.n0 P10199.n7 P10199.n5 P10199.n7 P10199.m0 P10199.m5 P10199.w2 P10199.w7 P10199.kk P10199.a P10199.b0 P10199.b1 P10199.b2 P10199.b3), L⟩ : RG)) (len := 10) (j := 2) e_X10_takeText_17 h10212 (fun _ h => h) (fun f h => ⟨f, rfl, h⟩) (by decide) (by decide) (by decide) (by unfold vp_in; decide) (by refine ⟨?_, ?_, ?_, ?_, ?_, ?_⟩ <;> intro e <;> first | exact absurd e (by decide) | rfl | exact ⟨_, by omega, rfl⟩) (fun i hi y hy => ⟨hy.1, fun e => absurd e hi, hy.2.2.1, hy.2.2.2.1, hy.2.2.2.2.1, hy.2.2.2.2.2⟩) (CR.chg (by intro k hk i x h; unfold EI at h ⊢; split at h <;> first | exact h | exact absurd rfl hk | trivial) rfl rfl) (fun σ10213 h10214 g10215 f10216 g10217 => ?_)
  obtain ⟨P10218, eP10218⟩ : ∃ P9, P9 = (mkP P10199.n0 P10199.n7 P10199.n5 P10199.n7 P10199.m0 P10199.m5 P10199.w2 P10199.w7 P10199.kk P10199.a P10199.b0 P10199.b1 P10199.b2 P10199.b3) := ⟨_, rfl⟩
  rw [← eP10218] at h10214
  have fP10218 : P10218.n0 = P10199.n0 ∧ P10218.n2 = P10199.n7 ∧ P10218.n5 = P10199.n5 ∧ P10218.n7 = P10199.n7 ∧ P10218.m0 = P10199.m0 ∧ P10218.m5 = P10199.m5 ∧ P10218.w2 = P10199.w2 ∧ P10218.w7 = P10199.w7 ∧ P10218.kk = P10199.kk ∧ P10218.a = P10199.a ∧ P10218.b0 = P10199.b0 ∧ P10218.b1 = P10199.b1 ∧ P10218.b2 = P10199.b2 ∧ P10218.b3 = P10199.b3 := by rw [eP10218]; exact ⟨rfl, rfl, rfl, rfl, rfl, rfl, rfl, rfl, rfl, rfl, rfl, rfl, rfl, rfl⟩
  refine m_iinc F (v := 3) (lv' := [(1, .int 3), (0, .ref c)]) e_X10_takeText_18 rfl (by decide) (by decide) rfl ?_
  refine m_goto F e_X10_takeText_21 ?_
  refine m_iload_n F rfl e_X10_takeText_2 ?_
  refine m_iconst F (v := 5) (by decide) e_X10_takeText_3 ?_
  refine m_icmp_ge F e_X10_takeText_4 (fun q => absurd q (by decide)) (fun _ => ?_)
  refine m_aload_n F rfl e_X10_takeText_7 ?_
  refine r_getC F e_X10_takeText_8 fl_X10_13 h10214 ((fld_eq (g10215 _ (by omega))).trans ((fld_eq (h10211.2 c (by rw [show kC c c = 1 from kC_at (k := 0) (by decide)]; decide))).trans ((fld_eq (g10207 _ (by omega))).trans ((fld_eq (h10201.2 c (by rw [show kC c c = 1 from kC_at (k := 0) (by decide)]; decide))).trans ((fld_eq (g10196 _ (by omega))).trans ((fld_eq (h10191.2 c (by rw [show kC c c = 1 from kC_at (k := 0) (by decide)]; decide))).trans f10189)))))) ?_
  refine m_iload_n F rfl e_X10_takeText_11 ?_
  refine m_aload_n F rfl e_X10_takeText_12 ?_
  refine m_iload_n F rfl e_X10_takeText_13 ?_
  have oP10222 : OKP P10218 := by unfold OKP; omega
  refine r_callV F e_X10_takeText_14 (q_X10_reading3 (x_l X) V c T Z u h P10218 L _ _  h10214.1 (hob) oP10222 ) cb_X10_reading ml_X10_157 im_X10_reading se_X10_reading h10214 rfl rfl (rest := [.int 3, .ref (c + 2)]) rfl (Nat.le_of_ble_eq_true rfl) ⟨Nat.le_of_ble_eq_true rfl, Nat.le_of_ble_eq_true rfl⟩ ⟨Nat.le_of_ble_eq_true rfl, Nat.le_of_ble_eq_true rfl⟩ (fun r σ10219 hp => ?_)
  obtain ⟨h10220, n10223, hn10223, f10224, rfl⟩ := hp
  have h10221 := HS.trans h10214 h10220 (by decide)
  refine r_iast F (g' := (⟨T, Z, u, h, P10218, L⟩ : RG)) (len := 10) (j := 3) e_X10_takeText_17 h10221 (fun _ h => h) (fun f h => ⟨f, rfl, h⟩) (by decide) (by decide) (by decide) (by unfold vp_in; decide) (by refine ⟨?_, ?_, ?_, ?_, ?_, ?_⟩ <;> intro e <;> first | exact absurd e (by decide) | rfl | exact ⟨_, by omega, rfl⟩) (fun _ _ _ h => h) (fun _ _ _ h => h) (fun σ10225 h10226 g10227 f10228 g10229 => ?_)
  refine m_iinc F (v := 4) (lv' := [(1, .int 4), (0, .ref c)]) e_X10_takeText_18 rfl (by decide) (by decide) rfl ?_
  refine m_goto F e_X10_takeText_21 ?_
  refine m_iload_n F rfl e_X10_takeText_2 ?_
  refine m_iconst F (v := 5) (by decide) e_X10_takeText_3 ?_
  refine m_icmp_ge F e_X10_takeText_4 (fun q => absurd q (by decide)) (fun _ => ?_)
  refine m_aload_n F rfl e_X10_takeText_7 ?_
  refine r_getC F e_X10_takeText_8 fl_X10_13 h10226 ((fld_eq (g10227 _ (by omega))).trans ((fld_eq (h10220.2 c (by rw [show kC c c = 1 from kC_at (k := 0) (by decide)]; decide))).trans ((fld_eq (g10215 _ (by omega))).trans ((fld_eq (h10211.2 c (by rw [show kC c c = 1 from kC_at (k := 0) (by decide)]; decide))).trans ((fld_eq (g10207 _ (by omega))).trans ((fld_eq (h10201.2 c (by rw [show kC c c = 1 from kC_at (k := 0) (by decide)]; decide))).trans ((fld_eq (g10196 _ (by omega))).trans ((fld_eq (h10191.2 c (by rw [show kC c c = 1 from kC_at (k := 0) (by decide)]; decide))).trans f10189)))))))) ?_
  refine m_iload_n F rfl e_X10_takeText_11 ?_
  refine m_aload_n F rfl e_X10_takeText_12 ?_
  refine m_iload_n F rfl e_X10_takeText_13 ?_
  refine r_callV F e_X10_takeText_14 (q_X10_reading4 (x_l X) V c T Z u h P10218 L _ _  h10226.1 (hob) oP10222 ) cb_X10_reading ml_X10_157 im_X10_reading se_X10_reading h10226 rfl rfl (rest := [.int 4, .ref (c + 2)]) rfl (Nat.le_of_ble_eq_true rfl) ⟨Nat.le_of_ble_eq_true rfl, Nat.le_of_ble_eq_true rfl⟩ ⟨Nat.le_of_ble_eq_true rfl, Nat.le_of_ble_eq_true rfl⟩ (fun r σ10230 hp => ?_)
  obtain ⟨h10231, x10233, rfl⟩ := hp
  have h10232 := HS.trans h10226 h10231 (by decide)
  refine r_iast F (g' := (⟨T, Z, u, h, P10218, L⟩ : RG)) (len := 10) (j := 4) e_X10_takeText_17 h10232 (fun _ h => h) (fun f h => ⟨f, rfl, h⟩) (by decide) (by decide) (by decide) (by unfold vp_in; decide) (by refine ⟨?_, ?_, ?_, ?_, ?_, ?_⟩ <;> intro e <;> first | exact absurd e (by decide) | rfl | exact ⟨_, by omega, rfl⟩) (fun _ _ _ h => h) (fun _ _ _ h => h) (fun σ10234 h10235 g10236 f10237 g10238 => ?_)
  refine m_iinc F (v := 5) (lv' := [(1, .int 5), (0, .ref c)]) e_X10_takeText_18 rfl (by decide) (by decide) rfl ?_
  refine m_goto F e_X10_takeText_21 ?_
  refine m_iload_n F rfl e_X10_takeText_2 ?_
  refine m_iconst F (v := 5) (by decide) e_X10_takeText_3 ?_
  refine m_icmp_ge F e_X10_takeText_4 (fun _ => ?_) (fun q => absurd (by decide) q)
  refine m_iconst F (v := 0) (by decide) e_X10_takeText_24 ?_
  refine m_istore_n F (lv' := [(1, .int 0), (0, .ref c)]) e_X10_takeText_25 (by decide) rfl ?_
  refine m_iload_n F rfl e_X10_takeText_26 ?_
  refine m_iconst F (v := 4) (by decide) e_X10_takeText_27 ?_
  refine m_icmp_ge F e_X10_takeText_28 (fun q => absurd q (by decide)) (fun _ => ?_)
  refine m_aload_n F rfl e_X10_takeText_31 ?_
  refine r_get F e_X10_takeText_32 fl_X10_16 h10235 rfl (fun v hv f10239 => ?_)
  obtain rfl : v = .ref (c + 3) := hv
  refine m_iload_n F rfl e_X10_takeText_35 ?_
  refine m_aload_n F rfl e_X10_takeText_36 ?_
  refine r_getC F e_X10_takeText_37 fl_X10_16 h10235 (f10239) ?_
  refine m_iconst F (v := 4) (by decide) e_X10_takeText_40 ?_
  refine m_iload_n F rfl e_X10_takeText_41 ?_
  refine m_iadd F e_X10_takeText_42 ?_
  refine Wm.topE (w := 4) (by decide) ?_
  refine r_iald F (len := 8) (j := 4) e_X10_takeText_43 h10235 (fun _ h => h) (by decide) (by decide) (by unfold vp_in; decide) (fun x10240 h10241 f10242 => ?_)
  obtain ⟨nb10248, enb10248⟩ := nI_ex x10240
  refine r_iast F (g' := (⟨T, Z, u, h, (mkP P10218.n0 P10218.n2 P10218.n5 P10218.n7 P10218.m0 P10218.m5 P10218.w2 P10218.w7 P10218.kk P10218.a nb10248 P10218.b1 P10218.b2 P10218.b3), L⟩ : RG)) (len := 8) (j := 0) e_X10_takeText_44 h10235 (fun _ h => h) (fun f h => ⟨f, rfl, h⟩) (by decide) (by decide) (by decide) (by unfold vp_in; decide) (fun _ => enb10248) (fun i hi y hy h4 => (hy h4).trans (congrArg nI (bselN0 hi h4))) (CR.chg (by intro k hk i x h; unfold EI at h ⊢; split at h <;> first | exact h | exact absurd rfl hk | trivial) rfl rfl) (fun σ10243 h10244 g10245 f10246 g10247 => ?_)
  obtain ⟨P10249, eP10249⟩ : ∃ P9, P9 = (mkP P10218.n0 P10218.n2 P10218.n5 P10218.n7 P10218.m0 P10218.m5 P10218.w2 P10218.w7 P10218.kk P10218.a nb10248 P10218.b1 P10218.b2 P10218.b3) := ⟨_, rfl⟩
  rw [← eP10249] at h10244
  have fP10249 : P10249.n0 = P10218.n0 ∧ P10249.n2 = P10218.n2 ∧ P10249.n5 = P10218.n5 ∧ P10249.n7 = P10218.n7 ∧ P10249.m0 = P10218.m0 ∧ P10249.m5 = P10218.m5 ∧ P10249.w2 = P10218.w2 ∧ P10249.w7 = P10218.w7 ∧ P10249.kk = P10218.kk ∧ P10249.a = P10218.a ∧ P10249.b0 = nb10248 ∧ P10249.b1 = P10218.b1 ∧ P10249.b2 = P10218.b2 ∧ P10249.b3 = P10218.b3 := by rw [eP10249]; exact ⟨rfl, rfl, rfl, rfl, rfl, rfl, rfl, rfl, rfl, rfl, rfl, rfl, rfl, rfl⟩
  refine m_aload_n F rfl e_X10_takeText_45 ?_
  refine r_get F e_X10_takeText_46 fl_X10_19 h10244 rfl (fun v hv f10250 => ?_)
  obtain rfl : v = .ref (c + 4) := hv
  refine m_iload_n F rfl e_X10_takeText_49 ?_
  refine m_aload_n F rfl e_X10_takeText_50 ?_
  refine r_getC F e_X10_takeText_51 fl_X10_19 h10244 (f10250) ?_
  refine m_iconst F (v := 4) (by decide) e_X10_takeText_54 ?_
  refine m_iload_n F rfl e_X10_takeText_55 ?_
  refine m_iadd F e_X10_takeText_56 ?_
  refine Wm.topE (w := 4) (by decide) ?_
  refine r_iald F (len := 8) (j := 4) e_X10_takeText_57 h10244 (fun _ h => h) (by decide) (by decide) (by unfold vp_in; decide) (fun x10251 h10252 f10253 => ?_)
  refine r_iast F (g' := (⟨T, Z, u, h, P10249, L⟩ : RG)) (len := 8) (j := 0) e_X10_takeText_58 h10244 (fun _ h => h) (fun f h => ⟨f, rfl, h⟩) (by decide) (by decide) (by decide) (by unfold vp_in; decide) trivial (fun _ _ _ h => h) (fun _ _ _ h => h) (fun σ10254 h10255 g10256 f10257 g10258 => ?_)
  refine m_aload_n F rfl e_X10_takeText_59 ?_
  refine r_get F e_X10_takeText_60 fl_X10_22 h10255 rfl (fun v hv f10259 => ?_)
  obtain rfl : v = .ref (c + 5) := hv
  refine m_iload_n F rfl e_X10_takeText_63 ?_
  refine m_aload_n F rfl e_X10_takeText_64 ?_
  refine r_getC F e_X10_takeText_65 fl_X10_22 h10255 (f10259) ?_
  refine m_iconst F (v := 4) (by decide) e_X10_takeText_68 ?_
  refine m_iload_n F rfl e_X10_takeText_69 ?_
  refine m_iadd F e_X10_takeText_70 ?_
  refine Wm.topE (w := 4) (by decide) ?_
  refine r_iald F (len := 8) (j := 4) e_X10_takeText_71 h10255 (fun _ h => h) (by decide) (by decide) (by unfold vp_in; decide) (fun x10260 h10261 f10262 => ?_)
  obtain ⟨n10263, hn10263, rfl, pn10263, rn10263⟩ := h10261
  refine r_iast F (g' := (⟨T, Z, u, h, (mkP P10249.n0 P10249.n2 P10249.n5 P10249.n7 (min 1 P10249.m5) P10249.m5 P10249.w2 P10249.w7 P10249.kk P10249.a P10249.b0 P10249.b1 P10249.b2 P10249.b3), L⟩ : RG)) (len := 8) (j := 0) e_X10_takeText_72 h10255 (fun _ h => h) (fun f h => ⟨f, rfl, h⟩) (by decide) (by decide) (by decide) (by unfold vp_in; decide) ⟨n10263, by omega, rfl, fun _ h8 => rn10263 (by omega) (show 4 < 4 + P10249.m5 by have h6 : 0 < min 1 P10249.m5 := h8; omega), fun h7 _ => absurd h7 (by omega)⟩ (fun i hi y hy => by obtain ⟨n9, a9, b9, c9, d9⟩ := hy; exact ⟨n9, a9, b9, fun h7 h8 => c9 h7 (show i < P10249.m0 by have h6 : i < min 1 P10249.m5 := h8; omega), d9⟩) (CR.chg (by intro k hk i x h; unfold EI at h ⊢; split at h <;> first | exact h | exact absurd rfl hk | trivial) rfl rfl) (fun σ10264 h10265 g10266 f10267 g10268 => ?_)
  obtain ⟨P10269, eP10269⟩ : ∃ P9, P9 = (mkP P10249.n0 P10249.n2 P10249.n5 P10249.n7 (min 1 P10249.m5) P10249.m5 P10249.w2 P10249.w7 P10249.kk P10249.a P10249.b0 P10249.b1 P10249.b2 P10249.b3) := ⟨_, rfl⟩
  rw [← eP10269] at h10265
  have fP10269 : P10269.n0 = P10249.n0 ∧ P10269.n2 = P10249.n2 ∧ P10269.n5 = P10249.n5 ∧ P10269.n7 = P10249.n7 ∧ P10269.m0 = min 1 P10249.m5 ∧ P10269.m5 = P10249.m5 ∧ P10269.w2 = P10249.w2 ∧ P10269.w7 = P10249.w7 ∧ P10269.kk = P10249.kk ∧ P10269.a = P10249.a ∧ P10269.b0 = P10249.b0 ∧ P10269.b1 = P10249.b1 ∧ P10269.b2 = P10249.b2 ∧ P10269.b3 = P10249.b3 := by rw [eP10269]; exact ⟨rfl, rfl, rfl, rfl, rfl, rfl, rfl, rfl, rfl, rfl, rfl, rfl, rfl, rfl⟩
  refine m_aload_n F rfl e_X10_takeText_73 ?_
  refine r_get F e_X10_takeText_74 fl_X10_25 h10265 rfl (fun v hv f10270 => ?_)
  obtain rfl : v = .ref (c + 6) := hv
  refine m_iload_n F rfl e_X10_takeText_77 ?_
  refine m_aload_n F rfl e_X10_takeText_78 ?_
  refine r_getC F e_X10_takeText_79 fl_X10_25 h10265 (f10270) ?_
  refine m_iconst F (v := 4) (by decide) e_X10_takeText_82 ?_
  refine m_iload_n F rfl e_X10_takeText_83 ?_
  refine m_iadd F e_X10_takeText_84 ?_
  refine Wm.topE (w := 4) (by decide) ?_
  refine r_iald F (len := 8) (j := 4) e_X10_takeText_85 h10265 (fun _ h => h) (by decide) (by decide) (by unfold vp_in; decide) (fun x10271 h10272 f10273 => ?_)
  obtain ⟨n10274, hn10274, rfl⟩ := h10272
  refine r_iast F (g' := (⟨T, Z, u, h, P10269, L⟩ : RG)) (len := 8) (j := 0) e_X10_takeText_86 h10265 (fun _ h => h) (fun f h => ⟨f, rfl, h⟩) (by decide) (by decide) (by decide) (by unfold vp_in; decide) ⟨n10274, by omega, rfl⟩ (fun _ _ _ h => h) (fun _ _ _ h => h) (fun σ10275 h10276 g10277 f10278 g10279 => ?_)
  refine m_aload_n F rfl e_X10_takeText_87 ?_
  refine r_get F e_X10_takeText_88 fl_X10_28 h10276 rfl (fun v hv f10280 => ?_)
  obtain rfl : v = .ref (c + 7) := hv
  refine m_iload_n F rfl e_X10_takeText_91 ?_
  refine m_aload_n F rfl e_X10_takeText_92 ?_
  refine r_getC F e_X10_takeText_93 fl_X10_28 h10276 (f10280) ?_
  refine m_iconst F (v := 4) (by decide) e_X10_takeText_96 ?_
  refine m_iload_n F rfl e_X10_takeText_97 ?_
  refine m_iadd F e_X10_takeText_98 ?_
  refine Wm.topE (w := 4) (by decide) ?_
  refine r_iald F (len := 8) (j := 4) e_X10_takeText_99 h10276 (fun _ h => h) (by decide) (by decide) (by unfold vp_in; decide) (fun x10281 h10282 f10283 => ?_)
  refine r_iast F (g' := (⟨T, Z, u, h, P10269, L⟩ : RG)) (len := 8) (j := 0) e_X10_takeText_100 h10276 (fun _ h => h) (fun f h => ⟨f, rfl, h⟩) (by decide) (by decide) (by decide) (by unfold vp_in; decide) trivial (fun _ _ _ h => h) (fun _ _ _ h => h) (fun σ10284 h10285 g10286 f10287 g10288 => ?_)
  refine m_aload_n F rfl e_X10_takeText_101 ?_
  refine r_get F e_X10_takeText_102 fl_X10_31 h10285 rfl (fun v hv f10289 => ?_)
  obtain rfl : v = .ref (c + 8) := hv
  refine m_iload_n F rfl e_X10_takeText_105 ?_
  refine m_aload_n F rfl e_X10_takeText_106 ?_
  refine r_getC F e_X10_takeText_107 fl_X10_31 h10285 (f10289) ?_
  refine m_iconst F (v := 4) (by decide) e_X10_takeText_110 ?_
  refine m_iload_n F rfl e_X10_takeText_111 ?_
  refine m_iadd F e_X10_takeText_112 ?_
  refine Wm.topE (w := 4) (by decide) ?_
  refine r_iald F (len := 8) (j := 4) e_X10_takeText_113 h10285 (fun _ h => h) (by decide) (by decide) (by unfold vp_in; decide) (fun x10290 h10291 f10292 => ?_)
  refine r_iast F (g' := (⟨T, Z, u, h, P10269, L⟩ : RG)) (len := 8) (j := 0) e_X10_takeText_114 h10285 (fun _ h => h) (fun f h => ⟨f, rfl, h⟩) (by decide) (by decide) (by decide) (by unfold vp_in; decide) trivial (fun _ _ _ h => h) (fun _ _ _ h => h) (fun σ10293 h10294 g10295 f10296 g10297 => ?_)
  refine m_aload_n F rfl e_X10_takeText_115 ?_
  refine r_get F e_X10_takeText_116 fl_X10_34 h10294 rfl (fun v hv f10298 => ?_)
  obtain rfl : v = .ref (c + 9) := hv
  refine m_iload_n F rfl e_X10_takeText_119 ?_
  refine m_aload_n F rfl e_X10_takeText_120 ?_
  refine r_getC F e_X10_takeText_121 fl_X10_34 h10294 (f10298) ?_
  refine m_iconst F (v := 4) (by decide) e_X10_takeText_124 ?_
  refine m_iload_n F rfl e_X10_takeText_125 ?_
  refine m_iadd F e_X10_takeText_126 ?_
  refine Wm.topE (w := 4) (by decide) ?_
  refine r_iald F (len := 8) (j := 4) e_X10_takeText_127 h10294 (fun _ h => h) (by decide) (by decide) (by unfold vp_in; decide) (fun x10299 h10300 f10301 => ?_)
  refine r_iast F (g' := (⟨T, Z, u, h, P10269, L⟩ : RG)) (len := 8) (j := 0) e_X10_takeText_128 h10294 (fun _ h => h) (fun f h => ⟨f, rfl, h⟩) (by decide) (by decide) (by decide) (by unfold vp_in; decide) trivial (fun _ _ _ h => h) (fun _ _ _ h => h) (fun σ10302 h10303 g10304 f10305 g10306 => ?_)
  refine m_aload_n F rfl e_X10_takeText_129 ?_
  refine r_get F e_X10_takeText_130 fl_X10_46 h10303 rfl (fun v hv f10307 => ?_)
  obtain rfl : v = .ref (c + 13) := hv
  refine m_iload_n F rfl e_X10_takeText_133 ?_
  refine m_aload_n F rfl e_X10_takeText_134 ?_
  refine r_getC F e_X10_takeText_135 fl_X10_46 h10303 (f10307) ?_
  refine m_iconst F (v := 4) (by decide) e_X10_takeText_138 ?_
  refine m_iload_n F rfl e_X10_takeText_139 ?_
  refine m_iadd F e_X10_takeText_140 ?_
  refine Wm.topE (w := 4) (by decide) ?_
  refine r_iald F (len := 8) (j := 4) e_X10_takeText_141 h10303 (fun _ h => h) (by decide) (by decide) (by unfold vp_in; decide) (fun x10308 h10309 f10310 => ?_)
  obtain ⟨n10311, hn10311, rfl⟩ := h10309
  refine r_iast F (g' := (⟨T, Z, u, h, P10269, L⟩ : RG)) (len := 8) (j := 0) e_X10_takeText_142 h10303 (fun _ h => h) (fun f h => ⟨f, rfl, h⟩) (by decide) (by decide) (by decide) (by unfold vp_in; decide) ⟨n10311, by omega, rfl⟩ (fun _ _ _ h => h) (fun _ _ _ h => h) (fun σ10312 h10313 g10314 f10315 g10316 => ?_)
  refine m_aload_n F rfl e_X10_takeText_143 ?_
  refine r_get F e_X10_takeText_144 fl_X10_49 h10313 rfl (fun v hv f10317 => ?_)
  obtain rfl : v = .ref (c + 14) := hv
  refine m_iload_n F rfl e_X10_takeText_147 ?_
  refine m_aload_n F rfl e_X10_takeText_148 ?_
  refine r_getC F e_X10_takeText_149 fl_X10_49 h10313 (f10317) ?_
  refine m_iconst F (v := 4) (by decide) e_X10_takeText_152 ?_
  refine m_iload_n F rfl e_X10_takeText_153 ?_
  refine m_iadd F e_X10_takeText_154 ?_
  refine Wm.topE (w := 4) (by decide) ?_
  refine r_iald F (len := 8) (j := 4) e_X10_takeText_155 h10313 (fun _ h => h) (by decide) (by decide) (by unfold vp_in; decide) (fun x10318 h10319 f10320 => ?_)
  obtain ⟨n10321, hn10321, rfl⟩ := h10319
  refine r_iast F (g' := (⟨T, Z, u, h, P10269, L⟩ : RG)) (len := 8) (j := 0) e_X10_takeText_156 h10313 (fun _ h => h) (fun f h => ⟨f, rfl, h⟩) (by decide) (by decide) (by decide) (by unfold vp_in; decide) ⟨n10321, by omega, rfl⟩ (fun _ _ _ h => h) (fun _ _ _ h => h) (fun σ10322 h10323 g10324 f10325 g10326 => ?_)
  refine m_aload_n F rfl e_X10_takeText_157 ?_
  refine r_get F e_X10_takeText_158 fl_X10_52 h10323 rfl (fun v hv f10327 => ?_)
  obtain rfl : v = .ref (c + 15) := hv
  refine m_iload_n F rfl e_X10_takeText_161 ?_
  refine m_aload_n F rfl e_X10_takeText_162 ?_
  refine r_getC F e_X10_takeText_163 fl_X10_52 h10323 (f10327) ?_
  refine m_iconst F (v := 4) (by decide) e_X10_takeText_166 ?_
  refine m_iload_n F rfl e_X10_takeText_167 ?_
  refine m_iadd F e_X10_takeText_168 ?_
  refine Wm.topE (w := 4) (by decide) ?_
  refine r_iald F (len := 8) (j := 4) e_X10_takeText_169 h10323 (fun _ h => h) (by decide) (by decide) (by unfold vp_in; decide) (fun x10328 h10329 f10330 => ?_)
  refine r_iast F (g' := (⟨T, Z, u, h, P10269, L⟩ : RG)) (len := 8) (j := 0) e_X10_takeText_170 h10323 (fun _ h => h) (fun f h => ⟨f, rfl, h⟩) (by decide) (by decide) (by decide) (by unfold vp_in; decide) trivial (fun _ _ _ h => h) (fun _ _ _ h => h) (fun σ10331 h10332 g10333 f10334 g10335 => ?_)
  refine m_iinc F (v := 1) (lv' := [(1, .int 1), (0, .ref c)]) e_X10_takeText_171 rfl (by decide) (by decide) rfl ?_
  refine m_goto F e_X10_takeText_174 ?_
  refine m_iload_n F rfl e_X10_takeText_26 ?_
  refine m_iconst F (v := 4) (by decide) e_X10_takeText_27 ?_
  refine m_icmp_ge F e_X10_takeText_28 (fun q => absurd q (by decide)) (fun _ => ?_)
  refine m_aload_n F rfl e_X10_takeText_31 ?_
  refine r_getC F e_X10_takeText_32 fl_X10_16 h10332 ((fld_eq (g10333 _ (by omega))).trans ((fld_eq (g10324 _ (by omega))).trans ((fld_eq (g10314 _ (by omega))).trans ((fld_eq (g10304 _ (by omega))).trans ((fld_eq (g10295 _ (by omega))).trans ((fld_eq (g10286 _ (by omega))).trans ((fld_eq (g10277 _ (by omega))).trans ((fld_eq (g10266 _ (by omega))).trans ((fld_eq (g10256 _ (by omega))).trans ((fld_eq (g10245 _ (by omega))).trans f10239)))))))))) ?_
  refine m_iload_n F rfl e_X10_takeText_35 ?_
  refine m_aload_n F rfl e_X10_takeText_36 ?_
  refine r_getC F e_X10_takeText_37 fl_X10_16 h10332 ((fld_eq (g10333 _ (by omega))).trans ((fld_eq (g10324 _ (by omega))).trans ((fld_eq (g10314 _ (by omega))).trans ((fld_eq (g10304 _ (by omega))).trans ((fld_eq (g10295 _ (by omega))).trans ((fld_eq (g10286 _ (by omega))).trans ((fld_eq (g10277 _ (by omega))).trans ((fld_eq (g10266 _ (by omega))).trans ((fld_eq (g10256 _ (by omega))).trans ((fld_eq (g10245 _ (by omega))).trans f10239)))))))))) ?_
  refine m_iconst F (v := 4) (by decide) e_X10_takeText_40 ?_
  refine m_iload_n F rfl e_X10_takeText_41 ?_
  refine m_iadd F e_X10_takeText_42 ?_
  refine Wm.topE (w := 5) (by decide) ?_
  refine r_iald F (len := 8) (j := 5) e_X10_takeText_43 h10332 (fun _ h => h) (by decide) (by decide) (by unfold vp_in; decide) (fun x10336 h10337 f10338 => ?_)
  obtain ⟨nb10344, enb10344⟩ := nI_ex x10336
  refine r_iast F (g' := (⟨T, Z, u, h, (mkP P10269.n0 P10269.n2 P10269.n5 P10269.n7 P10269.m0 P10269.m5 P10269.w2 P10269.w7 P10269.kk P10269.a P10269.b0 nb10344 P10269.b2 P10269.b3), L⟩ : RG)) (len := 8) (j := 1) e_X10_takeText_44 h10332 (fun _ h => h) (fun f h => ⟨f, rfl, h⟩) (by decide) (by decide) (by decide) (by unfold vp_in; decide) (fun _ => enb10344) (fun i hi y hy h4 => (hy h4).trans (congrArg nI (bselN1 hi h4))) (CR.chg (by intro k hk i x h; unfold EI at h ⊢; split at h <;> first | exact h | exact absurd rfl hk | trivial) rfl rfl) (fun σ10339 h10340 g10341 f10342 g10343 => ?_)
  obtain ⟨P10345, eP10345⟩ : ∃ P9, P9 = (mkP P10269.n0 P10269.n2 P10269.n5 P10269.n7 P10269.m0 P10269.m5 P10269.w2 P10269.w7 P10269.kk P10269.a P10269.b0 nb10344 P10269.b2 P10269.b3) := ⟨_, rfl⟩
  rw [← eP10345] at h10340
  have fP10345 : P10345.n0 = P10269.n0 ∧ P10345.n2 = P10269.n2 ∧ P10345.n5 = P10269.n5 ∧ P10345.n7 = P10269.n7 ∧ P10345.m0 = P10269.m0 ∧ P10345.m5 = P10269.m5 ∧ P10345.w2 = P10269.w2 ∧ P10345.w7 = P10269.w7 ∧ P10345.kk = P10269.kk ∧ P10345.a = P10269.a ∧ P10345.b0 = P10269.b0 ∧ P10345.b1 = nb10344 ∧ P10345.b2 = P10269.b2 ∧ P10345.b3 = P10269.b3 := by rw [eP10345]; exact ⟨rfl, rfl, rfl, rfl, rfl, rfl, rfl, rfl, rfl, rfl, rfl, rfl, rfl, rfl⟩
  refine m_aload_n F rfl e_X10_takeText_45 ?_
  refine r_getC F e_X10_takeText_46 fl_X10_19 h10340 ((fld_eq (g10341 _ (by omega))).trans ((fld_eq (g10333 _ (by omega))).trans ((fld_eq (g10324 _ (by omega))).trans ((fld_eq (g10314 _ (by omega))).trans ((fld_eq (g10304 _ (by omega))).trans ((fld_eq (g10295 _ (by omega))).trans ((fld_eq (g10286 _ (by omega))).trans ((fld_eq (g10277 _ (by omega))).trans ((fld_eq (g10266 _ (by omega))).trans ((fld_eq (g10256 _ (by omega))).trans f10250)))))))))) ?_
  refine m_iload_n F rfl e_X10_takeText_49 ?_
  refine m_aload_n F rfl e_X10_takeText_50 ?_
  refine r_getC F e_X10_takeText_51 fl_X10_19 h10340 ((fld_eq (g10341 _ (by omega))).trans ((fld_eq (g10333 _ (by omega))).trans ((fld_eq (g10324 _ (by omega))).trans ((fld_eq (g10314 _ (by omega))).trans ((fld_eq (g10304 _ (by omega))).trans ((fld_eq (g10295 _ (by omega))).trans ((fld_eq (g10286 _ (by omega))).trans ((fld_eq (g10277 _ (by omega))).trans ((fld_eq (g10266 _ (by omega))).trans ((fld_eq (g10256 _ (by omega))).trans f10250)))))))))) ?_
  refine m_iconst F (v := 4) (by decide) e_X10_takeText_54 ?_
  refine m_iload_n F rfl e_X10_takeText_55 ?_
  refine m_iadd F e_X10_takeText_56 ?_
  refine Wm.topE (w := 5) (by decide) ?_
  refine r_iald F (len := 8) (j := 5) e_X10_takeText_57 h10340 (fun _ h => h) (by decide) (by decide) (by unfold vp_in; decide) (fun x10346 h10347 f10348 => ?_)
  refine r_iast F (g' := (⟨T, Z, u, h, P10345, L⟩ : RG)) (len := 8) (j := 1) e_X10_takeText_58 h10340 (fun _ h => h) (fun f h => ⟨f, rfl, h⟩) (by decide) (by decide) (by decide) (by unfold vp_in; decide) trivial (fun _ _ _ h => h) (fun _ _ _ h => h) (fun σ10349 h10350 g10351 f10352 g10353 => ?_)
  refine m_aload_n F rfl e_X10_takeText_59 ?_
  refine r_getC F e_X10_takeText_60 fl_X10_22 h10350 ((fld_eq (g10351 _ (by omega))).trans ((fld_eq (g10341 _ (by omega))).trans ((fld_eq (g10333 _ (by omega))).trans ((fld_eq (g10324 _ (by omega))).trans ((fld_eq (g10314 _ (by omega))).trans ((fld_eq (g10304 _ (by omega))).trans ((fld_eq (g10295 _ (by omega))).trans ((fld_eq (g10286 _ (by omega))).trans ((fld_eq (g10277 _ (by omega))).trans ((fld_eq (g10266 _ (by omega))).trans f10259)))))))))) ?_
  refine m_iload_n F rfl e_X10_takeText_63 ?_
  refine m_aload_n F rfl e_X10_takeText_64 ?_
  refine r_getC F e_X10_takeText_65 fl_X10_22 h10350 ((fld_eq (g10351 _ (by omega))).trans ((fld_eq (g10341 _ (by omega))).trans ((fld_eq (g10333 _ (by omega))).trans ((fld_eq (g10324 _ (by omega))).trans ((fld_eq (g10314 _ (by omega))).trans ((fld_eq (g10304 _ (by omega))).trans ((fld_eq (g10295 _ (by omega))).trans ((fld_eq (g10286 _ (by omega))).trans ((fld_eq (g10277 _ (by omega))).trans ((fld_eq (g10266 _ (by omega))).trans f10259)))))))))) ?_
  refine m_iconst F (v := 4) (by decide) e_X10_takeText_68 ?_
  refine m_iload_n F rfl e_X10_takeText_69 ?_
  refine m_iadd F e_X10_takeText_70 ?_
  refine Wm.topE (w := 5) (by decide) ?_
  refine r_iald F (len := 8) (j := 5) e_X10_takeText_71 h10350 (fun _ h => h) (by decide) (by decide) (by unfold vp_in; decide) (fun x10354 h10355 f10356 => ?_)
  obtain ⟨n10357, hn10357, rfl, pn10357, rn10357⟩ := h10355
  refine r_iast F (g' := (⟨T, Z, u, h, (mkP P10345.n0 P10345.n2 P10345.n5 P10345.n7 (min 2 P10345.m5) P10345.m5 P10345.w2 P10345.w7 P10345.kk P10345.a P10345.b0 P10345.b1 P10345.b2 P10345.b3), L⟩ : RG)) (len := 8) (j := 1) e_X10_takeText_72 h10350 (fun _ h => h) (fun f h => ⟨f, rfl, h⟩) (by decide) (by decide) (by decide) (by unfold vp_in; decide) ⟨n10357, by omega, rfl, fun _ h8 => rn10357 (by omega) (show 5 < 4 + P10345.m5 by have h6 : 1 < min 2 P10345.m5 := h8; omega), fun h7 _ => absurd h7 (by omega)⟩ (fun i hi y hy => by obtain ⟨n9, a9, b9, c9, d9⟩ := hy; exact ⟨n9, a9, b9, fun h7 h8 => c9 h7 (show i < P10345.m0 by have h6 : i < min 2 P10345.m5 := h8; omega), d9⟩) (CR.chg (by intro k hk i x h; unfold EI at h ⊢; split at h <;> first | exact h | exact absurd rfl hk | trivial) rfl rfl) (fun σ10358 h10359 g10360 f10361 g10362 => ?_)
  obtain ⟨P10363, eP10363⟩ : ∃ P9, P9 = (mkP P10345.n0 P10345.n2 P10345.n5 P10345.n7 (min 2 P10345.m5) P10345.m5 P10345.w2 P10345.w7 P10345.kk P10345.a P10345.b0 P10345.b1 P10345.b2 P10345.b3) := ⟨_, rfl⟩
  rw [← eP10363] at h10359
  have fP10363 : P10363.n0 = P10345.n0 ∧ P10363.n2 = P10345.n2 ∧ P10363.n5 = P10345.n5 ∧ P10363.n7 = P10345.n7 ∧ P10363.m0 = min 2 P10345.m5 ∧ P10363.m5 = P10345.m5 ∧ P10363.w2 = P10345.w2 ∧ P10363.w7 = P10345.w7 ∧ P10363.kk = P10345.kk ∧ P10363.a = P10345.a ∧ P10363.b0 = P10345.b0 ∧ P10363.b1 = P10345.b1 ∧ P10363.b2 = P10345.b2 ∧ P10363.b3 = P10345.b3 := by rw [eP10363]; exact ⟨rfl, rfl, rfl, rfl, rfl, rfl, rfl, rfl, rfl, rfl, rfl, rfl, rfl, rfl⟩
  refine m_aload_n F rfl e_X10_takeText_73 ?_
  refine r_getC F e_X10_takeText_74 fl_X10_25 h10359 ((fld_eq (g10360 _ (by omega))).trans ((fld_eq (g10351 _ (by omega))).trans ((fld_eq (g10341 _ (by omega))).trans ((fld_eq (g10333 _ (by omega))).trans ((fld_eq (g10324 _ (by omega))).trans ((fld_eq (g10314 _ (by omega))).trans ((fld_eq (g10304 _ (by omega))).trans ((fld_eq (g10295 _ (by omega))).trans ((fld_eq (g10286 _ (by omega))).trans ((fld_eq (g10277 _ (by omega))).trans f10270)))))))))) ?_
  refine m_iload_n F rfl e_X10_takeText_77 ?_
  refine m_aload_n F rfl e_X10_takeText_78 ?_
  refine r_getC F e_X10_takeText_79 fl_X10_25 h10359 ((fld_eq (g10360 _ (by omega))).trans ((fld_eq (g10351 _ (by omega))).trans ((fld_eq (g10341 _ (by omega))).trans ((fld_eq (g10333 _ (by omega))).trans ((fld_eq (g10324 _ (by omega))).trans ((fld_eq (g10314 _ (by omega))).trans ((fld_eq (g10304 _ (by omega))).trans ((fld_eq (g10295 _ (by omega))).trans ((fld_eq (g10286 _ (by omega))).trans ((fld_eq (g10277 _ (by omega))).trans f10270)))))))))) ?_
  refine m_iconst F (v := 4) (by decide) e_X10_takeText_82 ?_
  refine m_iload_n F rfl e_X10_takeText_83 ?_
  refine m_iadd F e_X10_takeText_84 ?_
  refine Wm.topE (w := 5) (by decide) ?_
  refine r_iald F (len := 8) (j := 5) e_X10_takeText_85 h10359 (fun _ h => h) (by decide) (by decide) (by unfold vp_in; decide) (fun x10364 h10365 f10366 => ?_)
  obtain ⟨n10367, hn10367, rfl⟩ := h10365
  refine r_iast F (g' := (⟨T, Z, u, h, P10363, L⟩ : RG)) (len := 8) (j := 1) e_X10_takeText_86 h10359 (fun _ h => h) (fun f h => ⟨f, rfl, h⟩) (by decide) (by decide) (by decide) (by unfold vp_in; decide) ⟨n10367, by omega, rfl⟩ (fun _ _ _ h => h) (fun _ _ _ h => h) (fun σ10368 h10369 g10370 f10371 g10372 => ?_)
  refine m_aload_n F rfl e_X10_takeText_87 ?_
  refine r_getC F e_X10_takeText_88 fl_X10_28 h10369 ((fld_eq (g10370 _ (by omega))).trans ((fld_eq (g10360 _ (by omega))).trans ((fld_eq (g10351 _ (by omega))).trans ((fld_eq (g10341 _ (by omega))).trans ((fld_eq (g10333 _ (by omega))).trans ((fld_eq (g10324 _ (by omega))).trans ((fld_eq (g10314 _ (by omega))).trans ((fld_eq (g10304 _ (by omega))).trans ((fld_eq (g10295 _ (by omega))).trans ((fld_eq (g10286 _ (by omega))).trans f10280)))))))))) ?_
  refine m_iload_n F rfl e_X10_takeText_91 ?_
  refine m_aload_n F rfl e_X10_takeText_92 ?_
  refine r_getC F e_X10_takeText_93 fl_X10_28 h10369 ((fld_eq (g10370 _ (by omega))).trans ((fld_eq (g10360 _ (by omega))).trans ((fld_eq (g10351 _ (by omega))).trans ((fld_eq (g10341 _ (by omega))).trans ((fld_eq (g10333 _ (by omega))).trans ((fld_eq (g10324 _ (by omega))).trans ((fld_eq (g10314 _ (by omega))).trans ((fld_eq (g10304 _ (by omega))).trans ((fld_eq (g10295 _ (by omega))).trans ((fld_eq (g10286 _ (by omega))).trans f10280)))))))))) ?_
  refine m_iconst F (v := 4) (by decide) e_X10_takeText_96 ?_
  refine m_iload_n F rfl e_X10_takeText_97 ?_
  refine m_iadd F e_X10_takeText_98 ?_
  refine Wm.topE (w := 5) (by decide) ?_
  refine r_iald F (len := 8) (j := 5) e_X10_takeText_99 h10369 (fun _ h => h) (by decide) (by decide) (by unfold vp_in; decide) (fun x10373 h10374 f10375 => ?_)
  refine r_iast F (g' := (⟨T, Z, u, h, P10363, L⟩ : RG)) (len := 8) (j := 1) e_X10_takeText_100 h10369 (fun _ h => h) (fun f h => ⟨f, rfl, h⟩) (by decide) (by decide) (by decide) (by unfold vp_in; decide) trivial (fun _ _ _ h => h) (fun _ _ _ h => h) (fun σ10376 h10377 g10378 f10379 g10380 => ?_)
  refine m_aload_n F rfl e_X10_takeText_101 ?_
  refine r_getC F e_X10_takeText_102 fl_X10_31 h10377 ((fld_eq (g10378 _ (by omega))).trans ((fld_eq (g10370 _ (by omega))).trans ((fld_eq (g10360 _ (by omega))).trans ((fld_eq (g10351 _ (by omega))).trans ((fld_eq (g10341 _ (by omega))).trans ((fld_eq (g10333 _ (by omega))).trans ((fld_eq (g10324 _ (by omega))).trans ((fld_eq (g10314 _ (by omega))).trans ((fld_eq (g10304 _ (by omega))).trans ((fld_eq (g10295 _ (by omega))).trans f10289)))))))))) ?_
  refine m_iload_n F rfl e_X10_takeText_105 ?_
  refine m_aload_n F rfl e_X10_takeText_106 ?_
  refine r_getC F e_X10_takeText_107 fl_X10_31 h10377 ((fld_eq (g10378 _ (by omega))).trans ((fld_eq (g10370 _ (by omega))).trans ((fld_eq (g10360 _ (by omega))).trans ((fld_eq (g10351 _ (by omega))).trans ((fld_eq (g10341 _ (by omega))).trans ((fld_eq (g10333 _ (by omega))).trans ((fld_eq (g10324 _ (by omega))).trans ((fld_eq (g10314 _ (by omega))).trans ((fld_eq (g10304 _ (by omega))).trans ((fld_eq (g10295 _ (by omega))).trans f10289)))))))))) ?_
  refine m_iconst F (v := 4) (by decide) e_X10_takeText_110 ?_
  refine m_iload_n F rfl e_X10_takeText_111 ?_
  refine m_iadd F e_X10_takeText_112 ?_
  refine Wm.topE (w := 5) (by decide) ?_
  refine r_iald F (len := 8) (j := 5) e_X10_takeText_113 h10377 (fun _ h => h) (by decide) (by decide) (by unfold vp_in; decide) (fun x10381 h10382 f10383 => ?_)
  refine r_iast F (g' := (⟨T, Z, u, h, P10363, L⟩ : RG)) (len := 8) (j := 1) e_X10_takeText_114 h10377 (fun _ h => h) (fun f h => ⟨f, rfl, h⟩) (by decide) (by decide) (by decide) (by unfold vp_in; decide) trivial (fun _ _ _ h => h) (fun _ _ _ h => h) (fun σ10384 h10385 g10386 f10387 g10388 => ?_)
  refine m_aload_n F rfl e_X10_takeText_115 ?_
  refine r_getC F e_X10_takeText_116 fl_X10_34 h10385 ((fld_eq (g10386 _ (by omega))).trans ((fld_eq (g10378 _ (by omega))).trans ((fld_eq (g10370 _ (by omega))).trans ((fld_eq (g10360 _ (by omega))).trans ((fld_eq (g10351 _ (by omega))).trans ((fld_eq (g10341 _ (by omega))).trans ((fld_eq (g10333 _ (by omega))).trans ((fld_eq (g10324 _ (by omega))).trans ((fld_eq (g10314 _ (by omega))).trans ((fld_eq (g10304 _ (by omega))).trans f10298)))))))))) ?_
  refine m_iload_n F rfl e_X10_takeText_119 ?_
  refine m_aload_n F rfl e_X10_takeText_120 ?_
  refine r_getC F e_X10_takeText_121 fl_X10_34 h10385 ((fld_eq (g10386 _ (by omega))).trans ((fld_eq (g10378 _ (by omega))).trans ((fld_eq (g10370 _ (by omega))).trans ((fld_eq (g10360 _ (by omega))).trans ((fld_eq (g10351 _ (by omega))).trans ((fld_eq (g10341 _ (by omega))).trans ((fld_eq (g10333 _ (by omega))).trans ((fld_eq (g10324 _ (by omega))).trans ((fld_eq (g10314 _ (by omega))).trans ((fld_eq (g10304 _ (by omega))).trans f10298)))))))))) ?_
  refine m_iconst F (v := 4) (by decide) e_X10_takeText_124 ?_
  refine m_iload_n F rfl e_X10_takeText_125 ?_
  refine m_iadd F e_X10_takeText_126 ?_
  refine Wm.topE (w := 5) (by decide) ?_
  refine r_iald F (len := 8) (j := 5) e_X10_takeText_127 h10385 (fun _ h => h) (by decide) (by decide) (by unfold vp_in; decide) (fun x10389 h10390 f10391 => ?_)
  refine r_iast F (g' := (⟨T, Z, u, h, P10363, L⟩ : RG)) (len := 8) (j := 1) e_X10_takeText_128 h10385 (fun _ h => h) (fun f h => ⟨f, rfl, h⟩) (by decide) (by decide) (by decide) (by unfold vp_in; decide) trivial (fun _ _ _ h => h) (fun _ _ _ h => h) (fun σ10392 h10393 g10394 f10395 g10396 => ?_)
  refine m_aload_n F rfl e_X10_takeText_129 ?_
  refine r_getC F e_X10_takeText_130 fl_X10_46 h10393 ((fld_eq (g10394 _ (by omega))).trans ((fld_eq (g10386 _ (by omega))).trans ((fld_eq (g10378 _ (by omega))).trans ((fld_eq (g10370 _ (by omega))).trans ((fld_eq (g10360 _ (by omega))).trans ((fld_eq (g10351 _ (by omega))).trans ((fld_eq (g10341 _ (by omega))).trans ((fld_eq (g10333 _ (by omega))).trans ((fld_eq (g10324 _ (by omega))).trans ((fld_eq (g10314 _ (by omega))).trans f10307)))))))))) ?_
  refine m_iload_n F rfl e_X10_takeText_133 ?_
  refine m_aload_n F rfl e_X10_takeText_134 ?_
  refine r_getC F e_X10_takeText_135 fl_X10_46 h10393 ((fld_eq (g10394 _ (by omega))).trans ((fld_eq (g10386 _ (by omega))).trans ((fld_eq (g10378 _ (by omega))).trans ((fld_eq (g10370 _ (by omega))).trans ((fld_eq (g10360 _ (by omega))).trans ((fld_eq (g10351 _ (by omega))).trans ((fld_eq (g10341 _ (by omega))).trans ((fld_eq (g10333 _ (by omega))).trans ((fld_eq (g10324 _ (by omega))).trans ((fld_eq (g10314 _ (by omega))).trans f10307)))))))))) ?_
  refine m_iconst F (v := 4) (by decide) e_X10_takeText_138 ?_
  refine m_iload_n F rfl e_X10_takeText_139 ?_
  refine m_iadd F e_X10_takeText_140 ?_
  refine Wm.topE (w := 5) (by decide) ?_
  refine r_iald F (len := 8) (j := 5) e_X10_takeText_141 h10393 (fun _ h => h) (by decide) (by decide) (by unfold vp_in; decide) (fun x10397 h10398 f10399 => ?_)
  obtain ⟨n10400, hn10400, rfl⟩ := h10398
  refine r_iast F (g' := (⟨T, Z, u, h, P10363, L⟩ : RG)) (len := 8) (j := 1) e_X10_takeText_142 h10393 (fun _ h => h) (fun f h => ⟨f, rfl, h⟩) (by decide) (by decide) (by decide) (by unfold vp_in; decide) ⟨n10400, by omega, rfl⟩ (fun _ _ _ h => h) (fun _ _ _ h => h) (fun σ10401 h10402 g10403 f10404 g10405 => ?_)
  refine m_aload_n F rfl e_X10_takeText_143 ?_
  refine r_getC F e_X10_takeText_144 fl_X10_49 h10402 ((fld_eq (g10403 _ (by omega))).trans ((fld_eq (g10394 _ (by omega))).trans ((fld_eq (g10386 _ (by omega))).trans ((fld_eq (g10378 _ (by omega))).trans ((fld_eq (g10370 _ (by omega))).trans ((fld_eq (g10360 _ (by omega))).trans ((fld_eq (g10351 _ (by omega))).trans ((fld_eq (g10341 _ (by omega))).trans ((fld_eq (g10333 _ (by omega))).trans ((fld_eq (g10324 _ (by omega))).trans f10317)))))))))) ?_
  refine m_iload_n F rfl e_X10_takeText_147 ?_
  refine m_aload_n F rfl e_X10_takeText_148 ?_
  refine r_getC F e_X10_takeText_149 fl_X10_49 h10402 ((fld_eq (g10403 _ (by omega))).trans ((fld_eq (g10394 _ (by omega))).trans ((fld_eq (g10386 _ (by omega))).trans ((fld_eq (g10378 _ (by omega))).trans ((fld_eq (g10370 _ (by omega))).trans ((fld_eq (g10360 _ (by omega))).trans ((fld_eq (g10351 _ (by omega))).trans ((fld_eq (g10341 _ (by omega))).trans ((fld_eq (g10333 _ (by omega))).trans ((fld_eq (g10324 _ (by omega))).trans f10317)))))))))) ?_
  refine m_iconst F (v := 4) (by decide) e_X10_takeText_152 ?_
  refine m_iload_n F rfl e_X10_takeText_153 ?_
  refine m_iadd F e_X10_takeText_154 ?_
  refine Wm.topE (w := 5) (by decide) ?_
  refine r_iald F (len := 8) (j := 5) e_X10_takeText_155 h10402 (fun _ h => h) (by decide) (by decide) (by unfold vp_in; decide) (fun x10406 h10407 f10408 => ?_)
  obtain ⟨n10409, hn10409, rfl⟩ := h10407
  refine r_iast F (g' := (⟨T, Z, u, h, P10363, L⟩ : RG)) (len := 8) (j := 1) e_X10_takeText_156 h10402 (fun _ h => h) (fun f h => ⟨f, rfl, h⟩) (by decide) (by decide) (by decide) (by unfold vp_in; decide) ⟨n10409, by omega, rfl⟩ (fun _ _ _ h => h) (fun _ _ _ h => h) (fun σ10410 h10411 g10412 f10413 g10414 => ?_)
  refine m_aload_n F rfl e_X10_takeText_157 ?_
  refine r_getC F e_X10_takeText_158 fl_X10_52 h10411 ((fld_eq (g10412 _ (by omega))).trans ((fld_eq (g10403 _ (by omega))).trans ((fld_eq (g10394 _ (by omega))).trans ((fld_eq (g10386 _ (by omega))).trans ((fld_eq (g10378 _ (by omega))).trans ((fld_eq (g10370 _ (by omega))).trans ((fld_eq (g10360 _ (by omega))).trans ((fld_eq (g10351 _ (by omega))).trans ((fld_eq (g10341 _ (by omega))).trans ((fld_eq (g10333 _ (by omega))).trans f10327)))))))))) ?_
  refine m_iload_n F rfl e_X10_takeText_161 ?_
  refine m_aload_n F rfl e_X10_takeText_162 ?_
  refine r_getC F e_X10_takeText_163 fl_X10_52 h10411 ((fld_eq (g10412 _ (by omega))).trans ((fld_eq (g10403 _ (by omega))).trans ((fld_eq (g10394 _ (by omega))).trans ((fld_eq (g10386 _ (by omega))).trans ((fld_eq (g10378 _ (by omega))).trans ((fld_eq (g10370 _ (by omega))).trans ((fld_eq (g10360 _ (by omega))).trans ((fld_eq (g10351 _ (by omega))).trans ((fld_eq (g10341 _ (by omega))).trans ((fld_eq (g10333 _ (by omega))).trans f10327)))))))))) ?_
  refine m_iconst F (v := 4) (by decide) e_X10_takeText_166 ?_
  refine m_iload_n F rfl e_X10_takeText_167 ?_
  refine m_iadd F e_X10_takeText_168 ?_
  refine Wm.topE (w := 5) (by decide) ?_
  refine r_iald F (len := 8) (j := 5) e_X10_takeText_169 h10411 (fun _ h => h) (by decide) (by decide) (by unfold vp_in; decide) (fun x10415 h10416 f10417 => ?_)
  refine r_iast F (g' := (⟨T, Z, u, h, P10363, L⟩ : RG)) (len := 8) (j := 1) e_X10_takeText_170 h10411 (fun _ h => h) (fun f h => ⟨f, rfl, h⟩) (by decide) (by decide) (by decide) (by unfold vp_in; decide) trivial (fun _ _ _ h => h) (fun _ _ _ h => h) (fun σ10418 h10419 g10420 f10421 g10422 => ?_)
  refine m_iinc F (v := 2) (lv' := [(1, .int 2), (0, .ref c)]) e_X10_takeText_171 rfl (by decide) (by decide) rfl ?_
  refine m_goto F e_X10_takeText_174 ?_
  refine m_iload_n F rfl e_X10_takeText_26 ?_
  refine m_iconst F (v := 4) (by decide) e_X10_takeText_27 ?_
  refine m_icmp_ge F e_X10_takeText_28 (fun q => absurd q (by decide)) (fun _ => ?_)
  refine m_aload_n F rfl e_X10_takeText_31 ?_
  refine r_getC F e_X10_takeText_32 fl_X10_16 h10419 ((fld_eq (g10420 _ (by omega))).trans ((fld_eq (g10412 _ (by omega))).trans ((fld_eq (g10403 _ (by omega))).trans ((fld_eq (g10394 _ (by omega))).trans ((fld_eq (g10386 _ (by omega))).trans ((fld_eq (g10378 _ (by omega))).trans ((fld_eq (g10370 _ (by omega))).trans ((fld_eq (g10360 _ (by omega))).trans ((fld_eq (g10351 _ (by omega))).trans ((fld_eq (g10341 _ (by omega))).trans ((fld_eq (g10333 _ (by omega))).trans ((fld_eq (g10324 _ (by omega))).trans ((fld_eq (g10314 _ (by omega))).trans ((fld_eq (g10304 _ (by omega))).trans ((fld_eq (g10295 _ (by omega))).trans ((fld_eq (g10286 _ (by omega))).trans ((fld_eq (g10277 _ (by omega))).trans ((fld_eq (g10266 _ (by omega))).trans ((fld_eq (g10256 _ (by omega))).trans ((fld_eq (g10245 _ (by omega))).trans f10239)))))))))))))))))))) ?_
  refine m_iload_n F rfl e_X10_takeText_35 ?_
  refine m_aload_n F rfl e_X10_takeText_36 ?_
  refine r_getC F e_X10_takeText_37 fl_X10_16 h10419 ((fld_eq (g10420 _ (by omega))).trans ((fld_eq (g10412 _ (by omega))).trans ((fld_eq (g10403 _ (by omega))).trans ((fld_eq (g10394 _ (by omega))).trans ((fld_eq (g10386 _ (by omega))).trans ((fld_eq (g10378 _ (by omega))).trans ((fld_eq (g10370 _ (by omega))).trans ((fld_eq (g10360 _ (by omega))).trans ((fld_eq (g10351 _ (by omega))).trans ((fld_eq (g10341 _ (by omega))).trans ((fld_eq (g10333 _ (by omega))).trans ((fld_eq (g10324 _ (by omega))).trans ((fld_eq (g10314 _ (by omega))).trans ((fld_eq (g10304 _ (by omega))).trans ((fld_eq (g10295 _ (by omega))).trans ((fld_eq (g10286 _ (by omega))).trans ((fld_eq (g10277 _ (by omega))).trans ((fld_eq (g10266 _ (by omega))).trans ((fld_eq (g10256 _ (by omega))).trans ((fld_eq (g10245 _ (by omega))).trans f10239)))))))))))))))))))) ?_
  refine m_iconst F (v := 4) (by decide) e_X10_takeText_40 ?_
  refine m_iload_n F rfl e_X10_takeText_41 ?_
  refine m_iadd F e_X10_takeText_42 ?_
  refine Wm.topE (w := 6) (by decide) ?_
  refine r_iald F (len := 8) (j := 6) e_X10_takeText_43 h10419 (fun _ h => h) (by decide) (by decide) (by unfold vp_in; decide) (fun x10423 h10424 f10425 => ?_)
  obtain ⟨nb10431, enb10431⟩ := nI_ex x10423
  refine r_iast F (g' := (⟨T, Z, u, h, (mkP P10363.n0 P10363.n2 P10363.n5 P10363.n7 P10363.m0 P10363.m5 P10363.w2 P10363.w7 P10363.kk P10363.a P10363.b0 P10363.b1 nb10431 P10363.b3), L⟩ : RG)) (len := 8) (j := 2) e_X10_takeText_44 h10419 (fun _ h => h) (fun f h => ⟨f, rfl, h⟩) (by decide) (by decide) (by decide) (by unfold vp_in; decide) (fun _ => enb10431) (fun i hi y hy h4 => (hy h4).trans (congrArg nI (bselN2 hi h4))) (CR.chg (by intro k hk i x h; unfold EI at h ⊢; split at h <;> first | exact h | exact absurd rfl hk | trivial) rfl rfl) (fun σ10426 h10427 g10428 f10429 g10430 => ?_)
  obtain ⟨P10432, eP10432⟩ : ∃ P9, P9 = (mkP P10363.n0 P10363.n2 P10363.n5 P10363.n7 P10363.m0 P10363.m5 P10363.w2 P10363.w7 P10363.kk P10363.a P10363.b0 P10363.b1 nb10431 P10363.b3) := ⟨_, rfl⟩
  rw [← eP10432] at h10427
  have fP10432 : P10432.n0 = P10363.n0 ∧ P10432.n2 = P10363.n2 ∧ P10432.n5 = P10363.n5 ∧ P10432.n7 = P10363.n7 ∧ P10432.m0 = P10363.m0 ∧ P10432.m5 = P10363.m5 ∧ P10432.w2 = P10363.w2 ∧ P10432.w7 = P10363.w7 ∧ P10432.kk = P10363.kk ∧ P10432.a = P10363.a ∧ P10432.b0 = P10363.b0 ∧ P10432.b1 = P10363.b1 ∧ P10432.b2 = nb10431 ∧ P10432.b3 = P10363.b3 := by rw [eP10432]; exact ⟨rfl, rfl, rfl, rfl, rfl, rfl, rfl, rfl, rfl, rfl, rfl, rfl, rfl, rfl⟩
  refine m_aload_n F rfl e_X10_takeText_45 ?_
  refine r_getC F e_X10_takeText_46 fl_X10_19 h10427 ((fld_eq (g10428 _ (by omega))).trans ((fld_eq (g10420 _ (by omega))).trans ((fld_eq (g10412 _ (by omega))).trans ((fld_eq (g10403 _ (by omega))).trans ((fld_eq (g10394 _ (by omega))).trans ((fld_eq (g10386 _ (by omega))).trans ((fld_eq (g10378 _ (by omega))).trans ((fld_eq (g10370 _ (by omega))).trans ((fld_eq (g10360 _ (by omega))).trans ((fld_eq (g10351 _ (by omega))).trans ((fld_eq (g10341 _ (by omega))).trans ((fld_eq (g10333 _ (by omega))).trans ((fld_eq (g10324 _ (by omega))).trans ((fld_eq (g10314 _ (by omega))).trans ((fld_eq (g10304 _ (by omega))).trans ((fld_eq (g10295 _ (by omega))).trans ((fld_eq (g10286 _ (by omega))).trans ((fld_eq (g10277 _ (by omega))).trans ((fld_eq (g10266 _ (by omega))).trans ((fld_eq (g10256 _ (by omega))).trans f10250)))))))))))))))))))) ?_
  refine m_iload_n F rfl e_X10_takeText_49 ?_
  refine m_aload_n F rfl e_X10_takeText_50 ?_
  refine r_getC F e_X10_takeText_51 fl_X10_19 h10427 ((fld_eq (g10428 _ (by omega))).trans ((fld_eq (g10420 _ (by omega))).trans ((fld_eq (g10412 _ (by omega))).trans ((fld_eq (g10403 _ (by omega))).trans ((fld_eq (g10394 _ (by omega))).trans ((fld_eq (g10386 _ (by omega))).trans ((fld_eq (g10378 _ (by omega))).trans ((fld_eq (g10370 _ (by omega))).trans ((fld_eq (g10360 _ (by omega))).trans ((fld_eq (g10351 _ (by omega))).trans ((fld_eq (g10341 _ (by omega))).trans ((fld_eq (g10333 _ (by omega))).trans ((fld_eq (g10324 _ (by omega))).trans ((fld_eq (g10314 _ (by omega))).trans ((fld_eq (g10304 _ (by omega))).trans ((fld_eq (g10295 _ (by omega))).trans ((fld_eq (g10286 _ (by omega))).trans ((fld_eq (g10277 _ (by omega))).trans ((fld_eq (g10266 _ (by omega))).trans ((fld_eq (g10256 _ (by omega))).trans f10250)))))))))))))))))))) ?_
  refine m_iconst F (v := 4) (by decide) e_X10_takeText_54 ?_
  refine m_iload_n F rfl e_X10_takeText_55 ?_
  refine m_iadd F e_X10_takeText_56 ?_
  refine Wm.topE (w := 6) (by decide) ?_
  refine r_iald F (len := 8) (j := 6) e_X10_takeText_57 h10427 (fun _ h => h) (by decide) (by decide) (by unfold vp_in; decide) (fun x10433 h10434 f10435 => ?_)
  refine r_iast F (g' := (⟨T, Z, u, h, P10432, L⟩ : RG)) (len := 8) (j := 2) e_X10_takeText_58 h10427 (fun _ h => h) (fun f h => ⟨f, rfl, h⟩) (by decide) (by decide) (by decide) (by unfold vp_in; decide) trivial (fun _ _ _ h => h) (fun _ _ _ h => h) (fun σ10436 h10437 g10438 f10439 g10440 => ?_)
  refine m_aload_n F rfl e_X10_takeText_59 ?_
  refine r_getC F e_X10_takeText_60 fl_X10_22 h10437 ((fld_eq (g10438 _ (by omega))).trans ((fld_eq (g10428 _ (by omega))).trans ((fld_eq (g10420 _ (by omega))).trans ((fld_eq (g10412 _ (by omega))).trans ((fld_eq (g10403 _ (by omega))).trans ((fld_eq (g10394 _ (by omega))).trans ((fld_eq (g10386 _ (by omega))).trans ((fld_eq (g10378 _ (by omega))).trans ((fld_eq (g10370 _ (by omega))).trans ((fld_eq (g10360 _ (by omega))).trans ((fld_eq (g10351 _ (by omega))).trans ((fld_eq (g10341 _ (by omega))).trans ((fld_eq (g10333 _ (by omega))).trans ((fld_eq (g10324 _ (by omega))).trans ((fld_eq (g10314 _ (by omega))).trans ((fld_eq (g10304 _ (by omega))).trans ((fld_eq (g10295 _ (by omega))).trans ((fld_eq (g10286 _ (by omega))).trans ((fld_eq (g10277 _ (by omega))).trans ((fld_eq (g10266 _ (by omega))).trans f10259)))))))))))))))))))) ?_
  refine m_iload_n F rfl e_X10_takeText_63 ?_
  refine m_aload_n F rfl e_X10_takeText_64 ?_
  refine r_getC F e_X10_takeText_65 fl_X10_22 h10437 ((fld_eq (g10438 _ (by omega))).trans ((fld_eq (g10428 _ (by omega))).trans ((fld_eq (g10420 _ (by omega))).trans ((fld_eq (g10412 _ (by omega))).trans ((fld_eq (g10403 _ (by omega))).trans ((fld_eq (g10394 _ (by omega))).trans ((fld_eq (g10386 _ (by omega))).trans ((fld_eq (g10378 _ (by omega))).trans ((fld_eq (g10370 _ (by omega))).trans ((fld_eq (g10360 _ (by omega))).trans ((fld_eq (g10351 _ (by omega))).trans ((fld_eq (g10341 _ (by omega))).trans ((fld_eq (g10333 _ (by omega))).trans ((fld_eq (g10324 _ (by omega))).trans ((fld_eq (g10314 _ (by omega))).trans ((fld_eq (g10304 _ (by omega))).trans ((fld_eq (g10295 _ (by omega))).trans ((fld_eq (g10286 _ (by omega))).trans ((fld_eq (g10277 _ (by omega))).trans ((fld_eq (g10266 _ (by omega))).trans f10259)))))))))))))))))))) ?_
  refine m_iconst F (v := 4) (by decide) e_X10_takeText_68 ?_
  refine m_iload_n F rfl e_X10_takeText_69 ?_
  refine m_iadd F e_X10_takeText_70 ?_
  refine Wm.topE (w := 6) (by decide) ?_
  refine r_iald F (len := 8) (j := 6) e_X10_takeText_71 h10437 (fun _ h => h) (by decide) (by decide) (by unfold vp_in; decide) (fun x10441 h10442 f10443 => ?_)
  obtain ⟨n10444, hn10444, rfl, pn10444, rn10444⟩ := h10442
  refine r_iast F (g' := (⟨T, Z, u, h, (mkP P10432.n0 P10432.n2 P10432.n5 P10432.n7 (min 3 P10432.m5) P10432.m5 P10432.w2 P10432.w7 P10432.kk P10432.a P10432.b0 P10432.b1 P10432.b2 P10432.b3), L⟩ : RG)) (len := 8) (j := 2) e_X10_takeText_72 h10437 (fun _ h => h) (fun f h => ⟨f, rfl, h⟩) (by decide) (by decide) (by decide) (by unfold vp_in; decide) ⟨n10444, by omega, rfl, fun _ h8 => rn10444 (by omega) (show 6 < 4 + P10432.m5 by have h6 : 2 < min 3 P10432.m5 := h8; omega), fun h7 _ => absurd h7 (by omega)⟩ (fun i hi y hy => by obtain ⟨n9, a9, b9, c9, d9⟩ := hy; exact ⟨n9, a9, b9, fun h7 h8 => c9 h7 (show i < P10432.m0 by have h6 : i < min 3 P10432.m5 := h8; omega), d9⟩) (CR.chg (by intro k hk i x h; unfold EI at h ⊢; split at h <;> first | exact h | exact absurd rfl hk | trivial) rfl rfl) (fun σ10445 h10446 g10447 f10448 g10449 => ?_)
  obtain ⟨P10450, eP10450⟩ : ∃ P9, P9 = (mkP P10432.n0 P10432.n2 P10432.n5 P10432.n7 (min 3 P10432.m5) P10432.m5 P10432.w2 P10432.w7 P10432.kk P10432.a P10432.b0 P10432.b1 P10432.b2 P10432.b3) := ⟨_, rfl⟩
  rw [← eP10450] at h10446
  have fP10450 : P10450.n0 = P10432.n0 ∧ P10450.n2 = P10432.n2 ∧ P10450.n5 = P10432.n5 ∧ P10450.n7 = P10432.n7 ∧ P10450.m0 = min 3 P10432.m5 ∧ P10450.m5 = P10432.m5 ∧ P10450.w2 = P10432.w2 ∧ P10450.w7 = P10432.w7 ∧ P10450.kk = P10432.kk ∧ P10450.a = P10432.a ∧ P10450.b0 = P10432.b0 ∧ P10450.b1 = P10432.b1 ∧ P10450.b2 = P10432.b2 ∧ P10450.b3 = P10432.b3 := by rw [eP10450]; exact ⟨rfl, rfl, rfl, rfl, rfl, rfl, rfl, rfl, rfl, rfl, rfl, rfl, rfl, rfl⟩
  refine m_aload_n F rfl e_X10_takeText_73 ?_
  refine r_getC F e_X10_takeText_74 fl_X10_25 h10446 ((fld_eq (g10447 _ (by omega))).trans ((fld_eq (g10438 _ (by omega))).trans ((fld_eq (g10428 _ (by omega))).trans ((fld_eq (g10420 _ (by omega))).trans ((fld_eq (g10412 _ (by omega))).trans ((fld_eq (g10403 _ (by omega))).trans ((fld_eq (g10394 _ (by omega))).trans ((fld_eq (g10386 _ (by omega))).trans ((fld_eq (g10378 _ (by omega))).trans ((fld_eq (g10370 _ (by omega))).trans ((fld_eq (g10360 _ (by omega))).trans ((fld_eq (g10351 _ (by omega))).trans ((fld_eq (g10341 _ (by omega))).trans ((fld_eq (g10333 _ (by omega))).trans ((fld_eq (g10324 _ (by omega))).trans ((fld_eq (g10314 _ (by omega))).trans ((fld_eq (g10304 _ (by omega))).trans ((fld_eq (g10295 _ (by omega))).trans ((fld_eq (g10286 _ (by omega))).trans ((fld_eq (g10277 _ (by omega))).trans f10270)))))))))))))))))))) ?_
  refine m_iload_n F rfl e_X10_takeText_77 ?_
  refine m_aload_n F rfl e_X10_takeText_78 ?_
  refine r_getC F e_X10_takeText_79 fl_X10_25 h10446 ((fld_eq (g10447 _ (by omega))).trans ((fld_eq (g10438 _ (by omega))).trans ((fld_eq (g10428 _ (by omega))).trans ((fld_eq (g10420 _ (by omega))).trans ((fld_eq (g10412 _ (by omega))).trans ((fld_eq (g10403 _ (by omega))).trans ((fld_eq (g10394 _ (by omega))).trans ((fld_eq (g10386 _ (by omega))).trans ((fld_eq (g10378 _ (by omega))).trans ((fld_eq (g10370 _ (by omega))).trans ((fld_eq (g10360 _ (by omega))).trans ((fld_eq (g10351 _ (by omega))).trans ((fld_eq (g10341 _ (by omega))).trans ((fld_eq (g10333 _ (by omega))).trans ((fld_eq (g10324 _ (by omega))).trans ((fld_eq (g10314 _ (by omega))).trans ((fld_eq (g10304 _ (by omega))).trans ((fld_eq (g10295 _ (by omega))).trans ((fld_eq (g10286 _ (by omega))).trans ((fld_eq (g10277 _ (by omega))).trans f10270)))))))))))))))))))) ?_
  refine m_iconst F (v := 4) (by decide) e_X10_takeText_82 ?_
  refine m_iload_n F rfl e_X10_takeText_83 ?_
  refine m_iadd F e_X10_takeText_84 ?_
  refine Wm.topE (w := 6) (by decide) ?_
  refine r_iald F (len := 8) (j := 6) e_X10_takeText_85 h10446 (fun _ h => h) (by decide) (by decide) (by unfold vp_in; decide) (fun x10451 h10452 f10453 => ?_)
  obtain ⟨n10454, hn10454, rfl⟩ := h10452
  refine r_iast F (g' := (⟨T, Z, u, h, P10450, L⟩ : RG)) (len := 8) (j := 2) e_X10_takeText_86 h10446 (fun _ h => h) (fun f h => ⟨f, rfl, h⟩) (by decide) (by decide) (by decide) (by unfold vp_in; decide) ⟨n10454, by omega, rfl⟩ (fun _ _ _ h => h) (fun _ _ _ h => h) (fun σ10455 h10456 g10457 f10458 g10459 => ?_)
  refine m_aload_n F rfl e_X10_takeText_87 ?_
  refine r_getC F e_X10_takeText_88 fl_X10_28 h10456 ((fld_eq (g10457 _ (by omega))).trans ((fld_eq (g10447 _ (by omega))).trans ((fld_eq (g10438 _ (by omega))).trans ((fld_eq (g10428 _ (by omega))).trans ((fld_eq (g10420 _ (by omega))).trans ((fld_eq (g10412 _ (by omega))).trans ((fld_eq (g10403 _ (by omega))).trans ((fld_eq (g10394 _ (by omega))).trans ((fld_eq (g10386 _ (by omega))).trans ((fld_eq (g10378 _ (by omega))).trans ((fld_eq (g10370 _ (by omega))).trans ((fld_eq (g10360 _ (by omega))).trans ((fld_eq (g10351 _ (by omega))).trans ((fld_eq (g10341 _ (by omega))).trans ((fld_eq (g10333 _ (by omega))).trans ((fld_eq (g10324 _ (by omega))).trans ((fld_eq (g10314 _ (by omega))).trans ((fld_eq (g10304 _ (by omega))).trans ((fld_eq (g10295 _ (by omega))).trans ((fld_eq (g10286 _ (by omega))).trans f10280)))))))))))))))))))) ?_
  refine m_iload_n F rfl e_X10_takeText_91 ?_
  refine m_aload_n F rfl e_X10_takeText_92 ?_
  refine r_getC F e_X10_takeText_93 fl_X10_28 h10456 ((fld_eq (g10457 _ (by omega))).trans ((fld_eq (g10447 _ (by omega))).trans ((fld_eq (g10438 _ (by omega))).trans ((fld_eq (g10428 _ (by omega))).trans ((fld_eq (g10420 _ (by omega))).trans ((fld_eq (g10412 _ (by omega))).trans ((fld_eq (g10403 _ (by omega))).trans ((fld_eq (g10394 _ (by omega))).trans ((fld_eq (g10386 _ (by omega))).trans ((fld_eq (g10378 _ (by omega))).trans ((fld_eq (g10370 _ (by omega))).trans ((fld_eq (g10360 _ (by omega))).trans ((fld_eq (g10351 _ (by omega))).trans ((fld_eq (g10341 _ (by omega))).trans ((fld_eq (g10333 _ (by omega))).trans ((fld_eq (g10324 _ (by omega))).trans ((fld_eq (g10314 _ (by omega))).trans ((fld_eq (g10304 _ (by omega))).trans ((fld_eq (g10295 _ (by omega))).trans ((fld_eq (g10286 _ (by omega))).trans f10280)))))))))))))))))))) ?_
  refine m_iconst F (v := 4) (by decide) e_X10_takeText_96 ?_
  refine m_iload_n F rfl e_X10_takeText_97 ?_
  refine m_iadd F e_X10_takeText_98 ?_
  refine Wm.topE (w := 6) (by decide) ?_
  refine r_iald F (len := 8) (j := 6) e_X10_takeText_99 h10456 (fun _ h => h) (by decide) (by decide) (by unfold vp_in; decide) (fun x10460 h10461 f10462 => ?_)
  refine r_iast F (g' := (⟨T, Z, u, h, P10450, L⟩ : RG)) (len := 8) (j := 2) e_X10_takeText_100 h10456 (fun _ h => h) (fun f h => ⟨f, rfl, h⟩) (by decide) (by decide) (by decide) (by unfold vp_in; decide) trivial (fun _ _ _ h => h) (fun _ _ _ h => h) (fun σ10463 h10464 g10465 f10466 g10467 => ?_)
  refine m_aload_n F rfl e_X10_takeText_101 ?_
  refine r_getC F e_X10_takeText_102 fl_X10_31 h10464 ((fld_eq (g10465 _ (by omega))).trans ((fld_eq (g10457 _ (by omega))).trans ((fld_eq (g10447 _ (by omega))).trans ((fld_eq (g10438 _ (by omega))).trans ((fld_eq (g10428 _ (by omega))).trans ((fld_eq (g10420 _ (by omega))).trans ((fld_eq (g10412 _ (by omega))).trans ((fld_eq (g10403 _ (by omega))).trans ((fld_eq (g10394 _ (by omega))).trans ((fld_eq (g10386 _ (by omega))).trans ((fld_eq (g10378 _ (by omega))).trans ((fld_eq (g10370 _ (by omega))).trans ((fld_eq (g10360 _ (by omega))).trans ((fld_eq (g10351 _ (by omega))).trans ((fld_eq (g10341 _ (by omega))).trans ((fld_eq (g10333 _ (by omega))).trans ((fld_eq (g10324 _ (by omega))).trans ((fld_eq (g10314 _ (by omega))).trans ((fld_eq (g10304 _ (by omega))).trans ((fld_eq (g10295 _ (by omega))).trans f10289)))))))))))))))))))) ?_
  refine m_iload_n F rfl e_X10_takeText_105 ?_
  refine m_aload_n F rfl e_X10_takeText_106 ?_
  refine r_getC F e_X10_takeText_107 fl_X10_31 h10464 ((fld_eq (g10465 _ (by omega))).trans ((fld_eq (g10457 _ (by omega))).trans ((fld_eq (g10447 _ (by omega))).trans ((fld_eq (g10438 _ (by omega))).trans ((fld_eq (g10428 _ (by omega))).trans ((fld_eq (g10420 _ (by omega))).trans ((fld_eq (g10412 _ (by omega))).trans ((fld_eq (g10403 _ (by omega))).trans ((fld_eq (g10394 _ (by omega))).trans ((fld_eq (g10386 _ (by omega))).trans ((fld_eq (g10378 _ (by omega))).trans ((fld_eq (g10370 _ (by omega))).trans ((fld_eq (g10360 _ (by omega))).trans ((fld_eq (g10351 _ (by omega))).trans ((fld_eq (g10341 _ (by omega))).trans ((fld_eq (g10333 _ (by omega))).trans ((fld_eq (g10324 _ (by omega))).trans ((fld_eq (g10314 _ (by omega))).trans ((fld_eq (g10304 _ (by omega))).trans ((fld_eq (g10295 _ (by omega))).trans f10289)))))))))))))))))))) ?_
  refine m_iconst F (v := 4) (by decide) e_X10_takeText_110 ?_
  refine m_iload_n F rfl e_X10_takeText_111 ?_
  refine m_iadd F e_X10_takeText_112 ?_
  refine Wm.topE (w := 6) (by decide) ?_
  refine r_iald F (len := 8) (j := 6) e_X10_takeText_113 h10464 (fun _ h => h) (by decide) (by decide) (by unfold vp_in; decide) (fun x10468 h10469 f10470 => ?_)
  refine r_iast F (g' := (⟨T, Z, u, h, P10450, L⟩ : RG)) (len := 8) (j := 2) e_X10_takeText_114 h10464 (fun _ h => h) (fun f h => ⟨f, rfl, h⟩) (by decide) (by decide) (by decide) (by unfold vp_in; decide) trivial (fun _ _ _ h => h) (fun _ _ _ h => h) (fun σ10471 h10472 g10473 f10474 g10475 => ?_)
  refine m_aload_n F rfl e_X10_takeText_115 ?_
  refine r_getC F e_X10_takeText_116 fl_X10_34 h10472 ((fld_eq (g10473 _ (by omega))).trans ((fld_eq (g10465 _ (by omega))).trans ((fld_eq (g10457 _ (by omega))).trans ((fld_eq (g10447 _ (by omega))).trans ((fld_eq (g10438 _ (by omega))).trans ((fld_eq (g10428 _ (by omega))).trans ((fld_eq (g10420 _ (by omega))).trans ((fld_eq (g10412 _ (by omega))).trans ((fld_eq (g10403 _ (by omega))).trans ((fld_eq (g10394 _ (by omega))).trans ((fld_eq (g10386 _ (by omega))).trans ((fld_eq (g10378 _ (by omega))).trans ((fld_eq (g10370 _ (by omega))).trans ((fld_eq (g10360 _ (by omega))).trans ((fld_eq (g10351 _ (by omega))).trans ((fld_eq (g10341 _ (by omega))).trans ((fld_eq (g10333 _ (by omega))).trans ((fld_eq (g10324 _ (by omega))).trans ((fld_eq (g10314 _ (by omega))).trans ((fld_eq (g10304 _ (by omega))).trans f10298)))))))))))))))))))) ?_
  refine m_iload_n F rfl e_X10_takeText_119 ?_
  refine m_aload_n F rfl e_X10_takeText_120 ?_
  refine r_getC F e_X10_takeText_121 fl_X10_34 h10472 ((fld_eq (g10473 _ (by omega))).trans ((fld_eq (g10465 _ (by omega))).trans ((fld_eq (g10457 _ (by omega))).trans ((fld_eq (g10447 _ (by omega))).trans ((fld_eq (g10438 _ (by omega))).trans ((fld_eq (g10428 _ (by omega))).trans ((fld_eq (g10420 _ (by omega))).trans ((fld_eq (g10412 _ (by omega))).trans ((fld_eq (g10403 _ (by omega))).trans ((fld_eq (g10394 _ (by omega))).trans ((fld_eq (g10386 _ (by omega))).trans ((fld_eq (g10378 _ (by omega))).trans ((fld_eq (g10370 _ (by omega))).trans ((fld_eq (g10360 _ (by omega))).trans ((fld_eq (g10351 _ (by omega))).trans ((fld_eq (g10341 _ (by omega))).trans ((fld_eq (g10333 _ (by omega))).trans ((fld_eq (g10324 _ (by omega))).trans ((fld_eq (g10314 _ (by omega))).trans ((fld_eq (g10304 _ (by omega))).trans f10298)))))))))))))))))))) ?_
  refine m_iconst F (v := 4) (by decide) e_X10_takeText_124 ?_
  refine m_iload_n F rfl e_X10_takeText_125 ?_
  refine m_iadd F e_X10_takeText_126 ?_
  refine Wm.topE (w := 6) (by decide) ?_
  refine r_iald F (len := 8) (j := 6) e_X10_takeText_127 h10472 (fun _ h => h) (by decide) (by decide) (by unfold vp_in; decide) (fun x10476 h10477 f10478 => ?_)
  refine r_iast F (g' := (⟨T, Z, u, h, P10450, L⟩ : RG)) (len := 8) (j := 2) e_X10_takeText_128 h10472 (fun _ h => h) (fun f h => ⟨f, rfl, h⟩) (by decide) (by decide) (by decide) (by unfold vp_in; decide) trivial (fun _ _ _ h => h) (fun _ _ _ h => h) (fun σ10479 h10480 g10481 f10482 g10483 => ?_)
  refine m_aload_n F rfl e_X10_takeText_129 ?_
  refine r_getC F e_X10_takeText_130 fl_X10_46 h10480 ((fld_eq (g10481 _ (by omega))).trans ((fld_eq (g10473 _ (by omega))).trans ((fld_eq (g10465 _ (by omega))).trans ((fld_eq (g10457 _ (by omega))).trans ((fld_eq (g10447 _ (by omega))).trans ((fld_eq (g10438 _ (by omega))).trans ((fld_eq (g10428 _ (by omega))).trans ((fld_eq (g10420 _ (by omega))).trans ((fld_eq (g10412 _ (by omega))).trans ((fld_eq (g10403 _ (by omega))).trans ((fld_eq (g10394 _ (by omega))).trans ((fld_eq (g10386 _ (by omega))).trans ((fld_eq (g10378 _ (by omega))).trans ((fld_eq (g10370 _ (by omega))).trans ((fld_eq (g10360 _ (by omega))).trans ((fld_eq (g10351 _ (by omega))).trans ((fld_eq (g10341 _ (by omega))).trans ((fld_eq (g10333 _ (by omega))).trans ((fld_eq (g10324 _ (by omega))).trans ((fld_eq (g10314 _ (by omega))).trans f10307)))))))))))))))))))) ?_
  refine m_iload_n F rfl e_X10_takeText_133 ?_
  refine m_aload_n F rfl e_X10_takeText_134 ?_
  refine r_getC F e_X10_takeText_135 fl_X10_46 h10480 ((fld_eq (g10481 _ (by omega))).trans ((fld_eq (g10473 _ (by omega))).trans ((fld_eq (g10465 _ (by omega))).trans ((fld_eq (g10457 _ (by omega))).trans ((fld_eq (g10447 _ (by omega))).trans ((fld_eq (g10438 _ (by omega))).trans ((fld_eq (g10428 _ (by omega))).trans ((fld_eq (g10420 _ (by omega))).trans ((fld_eq (g10412 _ (by omega))).trans ((fld_eq (g10403 _ (by omega))).trans ((fld_eq (g10394 _ (by omega))).trans ((fld_eq (g10386 _ (by omega))).trans ((fld_eq (g10378 _ (by omega))).trans ((fld_eq (g10370 _ (by omega))).trans ((fld_eq (g10360 _ (by omega))).trans ((fld_eq (g10351 _ (by omega))).trans ((fld_eq (g10341 _ (by omega))).trans ((fld_eq (g10333 _ (by omega))).trans ((fld_eq (g10324 _ (by omega))).trans ((fld_eq (g10314 _ (by omega))).trans f10307)))))))))))))))))))) ?_
  refine m_iconst F (v := 4) (by decide) e_X10_takeText_138 ?_
  refine m_iload_n F rfl e_X10_takeText_139 ?_
  refine m_iadd F e_X10_takeText_140 ?_
  refine Wm.topE (w := 6) (by decide) ?_
  refine r_iald F (len := 8) (j := 6) e_X10_takeText_141 h10480 (fun _ h => h) (by decide) (by decide) (by unfold vp_in; decide) (fun x10484 h10485 f10486 => ?_)
  obtain ⟨n10487, hn10487, rfl⟩ := h10485
  refine r_iast F (g' := (⟨T, Z, u, h, P10450, L⟩ : RG)) (len := 8) (j := 2) e_X10_takeText_142 h10480 (fun _ h => h) (fun f h => ⟨f, rfl, h⟩) (by decide) (by decide) (by decide) (by unfold vp_in; decide) ⟨n10487, by omega, rfl⟩ (fun _ _ _ h => h) (fun _ _ _ h => h) (fun σ10488 h10489 g10490 f10491 g10492 => ?_)
  refine m_aload_n F rfl e_X10_takeText_143 ?_
  refine r_getC F e_X10_takeText_144 fl_X10_49 h10489 ((fld_eq (g10490 _ (by omega))).trans ((fld_eq (g10481 _ (by omega))).trans ((fld_eq (g10473 _ (by omega))).trans ((fld_eq (g10465 _ (by omega))).trans ((fld_eq (g10457 _ (by omega))).trans ((fld_eq (g10447 _ (by omega))).trans ((fld_eq (g10438 _ (by omega))).trans ((fld_eq (g10428 _ (by omega))).trans ((fld_eq (g10420 _ (by omega))).trans ((fld_eq (g10412 _ (by omega))).trans ((fld_eq (g10403 _ (by omega))).trans ((fld_eq (g10394 _ (by omega))).trans ((fld_eq (g10386 _ (by omega))).trans ((fld_eq (g10378 _ (by omega))).trans ((fld_eq (g10370 _ (by omega))).trans ((fld_eq (g10360 _ (by omega))).trans ((fld_eq (g10351 _ (by omega))).trans ((fld_eq (g10341 _ (by omega))).trans ((fld_eq (g10333 _ (by omega))).trans ((fld_eq (g10324 _ (by omega))).trans f10317)))))))))))))))))))) ?_
  refine m_iload_n F rfl e_X10_takeText_147 ?_
  refine m_aload_n F rfl e_X10_takeText_148 ?_
  refine r_getC F e_X10_takeText_149 fl_X10_49 h10489 ((fld_eq (g10490 _ (by omega))).trans ((fld_eq (g10481 _ (by omega))).trans ((fld_eq (g10473 _ (by omega))).trans ((fld_eq (g10465 _ (by omega))).trans ((fld_eq (g10457 _ (by omega))).trans ((fld_eq (g10447 _ (by omega))).trans ((fld_eq (g10438 _ (by omega))).trans ((fld_eq (g10428 _ (by omega))).trans ((fld_eq (g10420 _ (by omega))).trans ((fld_eq (g10412 _ (by omega))).trans ((fld_eq (g10403 _ (by omega))).trans ((fld_eq (g10394 _ (by omega))).trans ((fld_eq (g10386 _ (by omega))).trans ((fld_eq (g10378 _ (by omega))).trans ((fld_eq (g10370 _ (by omega))).trans ((fld_eq (g10360 _ (by omega))).trans ((fld_eq (g10351 _ (by omega))).trans ((fld_eq (g10341 _ (by omega))).trans ((fld_eq (g10333 _ (by omega))).trans ((fld_eq (g10324 _ (by omega))).trans f10317)))))))))))))))))))) ?_
  refine m_iconst F (v := 4) (by decide) e_X10_takeText_152 ?_
  refine m_iload_n F rfl e_X10_takeText_153 ?_
  refine m_iadd F e_X10_takeText_154 ?_
  refine Wm.topE (w := 6) (by decide) ?_
  refine r_iald F (len := 8) (j := 6) e_X10_takeText_155 h10489 (fun _ h => h) (by decide) (by decide) (by unfold vp_in; decide) (fun x10493 h10494 f10495 => ?_)
  obtain ⟨n10496, hn10496, rfl⟩ := h10494
  refine r_iast F (g' := (⟨T, Z, u, h, P10450, L⟩ : RG)) (len := 8) (j := 2) e_X10_takeText_156 h10489 (fun _ h => h) (fun f h => ⟨f, rfl, h⟩) (by decide) (by decide) (by decide) (by unfold vp_in; decide) ⟨n10496, by omega, rfl⟩ (fun _ _ _ h => h) (fun _ _ _ h => h) (fun σ10497 h10498 g10499 f10500 g10501 => ?_)
  refine m_aload_n F rfl e_X10_takeText_157 ?_
  refine r_getC F e_X10_takeText_158 fl_X10_52 h10498 ((fld_eq (g10499 _ (by omega))).trans ((fld_eq (g10490 _ (by omega))).trans ((fld_eq (g10481 _ (by omega))).trans ((fld_eq (g10473 _ (by omega))).trans ((fld_eq (g10465 _ (by omega))).trans ((fld_eq (g10457 _ (by omega))).trans ((fld_eq (g10447 _ (by omega))).trans ((fld_eq (g10438 _ (by omega))).trans ((fld_eq (g10428 _ (by omega))).trans ((fld_eq (g10420 _ (by omega))).trans ((fld_eq (g10412 _ (by omega))).trans ((fld_eq (g10403 _ (by omega))).trans ((fld_eq (g10394 _ (by omega))).trans ((fld_eq (g10386 _ (by omega))).trans ((fld_eq (g10378 _ (by omega))).trans ((fld_eq (g10370 _ (by omega))).trans ((fld_eq (g10360 _ (by omega))).trans ((fld_eq (g10351 _ (by omega))).trans ((fld_eq (g10341 _ (by omega))).trans ((fld_eq (g10333 _ (by omega))).trans f10327)))))))))))))))))))) ?_
  refine m_iload_n F rfl e_X10_takeText_161 ?_
  refine m_aload_n F rfl e_X10_takeText_162 ?_
  refine r_getC F e_X10_takeText_163 fl_X10_52 h10498 ((fld_eq (g10499 _ (by omega))).trans ((fld_eq (g10490 _ (by omega))).trans ((fld_eq (g10481 _ (by omega))).trans ((fld_eq (g10473 _ (by omega))).trans ((fld_eq (g10465 _ (by omega))).trans ((fld_eq (g10457 _ (by omega))).trans ((fld_eq (g10447 _ (by omega))).trans ((fld_eq (g10438 _ (by omega))).trans ((fld_eq (g10428 _ (by omega))).trans ((fld_eq (g10420 _ (by omega))).trans ((fld_eq (g10412 _ (by omega))).trans ((fld_eq (g10403 _ (by omega))).trans ((fld_eq (g10394 _ (by omega))).trans ((fld_eq (g10386 _ (by omega))).trans ((fld_eq (g10378 _ (by omega))).trans ((fld_eq (g10370 _ (by omega))).trans ((fld_eq (g10360 _ (by omega))).trans ((fld_eq (g10351 _ (by omega))).trans ((fld_eq (g10341 _ (by omega))).trans ((fld_eq (g10333 _ (by omega))).trans f10327)))))))))))))))))))) ?_
  refine m_iconst F (v := 4) (by decide) e_X10_takeText_166 ?_
  refine m_iload_n F rfl e_X10_takeText_167 ?_
  refine m_iadd F e_X10_takeText_168 ?_
  refine Wm.topE (w := 6) (by decide) ?_
  refine r_iald F (len := 8) (j := 6) e_X10_takeText_169 h10498 (fun _ h => h) (by decide) (by decide) (by unfold vp_in; decide) (fun x10502 h10503 f10504 => ?_)
  refine r_iast F (g' := (⟨T, Z, u, h, P10450, L⟩ : RG)) (len := 8) (j := 2) e_X10_takeText_170 h10498 (fun _ h => h) (fun f h => ⟨f, rfl, h⟩) (by decide) (by decide) (by decide) (by unfold vp_in; decide) trivial (fun _ _ _ h => h) (fun _ _ _ h => h) (fun σ10505 h10506 g10507 f10508 g10509 => ?_)
  refine m_iinc F (v := 3) (lv' := [(1, .int 3), (0, .ref c)]) e_X10_takeText_171 rfl (by decide) (by decide) rfl ?_
  refine m_goto F e_X10_takeText_174 ?_
  refine m_iload_n F rfl e_X10_takeText_26 ?_
  refine m_iconst F (v := 4) (by decide) e_X10_takeText_27 ?_
  refine m_icmp_ge F e_X10_takeText_28 (fun q => absurd q (by decide)) (fun _ => ?_)
  refine m_aload_n F rfl e_X10_takeText_31 ?_
  refine r_getC F e_X10_takeText_32 fl_X10_16 h10506 ((fld_eq (g10507 _ (by omega))).trans ((fld_eq (g10499 _ (by omega))).trans ((fld_eq (g10490 _ (by omega))).trans ((fld_eq (g10481 _ (by omega))).trans ((fld_eq (g10473 _ (by omega))).trans ((fld_eq (g10465 _ (by omega))).trans ((fld_eq (g10457 _ (by omega))).trans ((fld_eq (g10447 _ (by omega))).trans ((fld_eq (g10438 _ (by omega))).trans ((fld_eq (g10428 _ (by omega))).trans ((fld_eq (g10420 _ (by omega))).trans ((fld_eq (g10412 _ (by omega))).trans ((fld_eq (g10403 _ (by omega))).trans ((fld_eq (g10394 _ (by omega))).trans ((fld_eq (g10386 _ (by omega))).trans ((fld_eq (g10378 _ (by omega))).trans ((fld_eq (g10370 _ (by omega))).trans ((fld_eq (g10360 _ (by omega))).trans ((fld_eq (g10351 _ (by omega))).trans ((fld_eq (g10341 _ (by omega))).trans ((fld_eq (g10333 _ (by omega))).trans ((fld_eq (g10324 _ (by omega))).trans ((fld_eq (g10314 _ (by omega))).trans ((fld_eq (g10304 _ (by omega))).trans ((fld_eq (g10295 _ (by omega))).trans ((fld_eq (g10286 _ (by omega))).trans ((fld_eq (g10277 _ (by omega))).trans ((fld_eq (g10266 _ (by omega))).trans ((fld_eq (g10256 _ (by omega))).trans ((fld_eq (g10245 _ (by omega))).trans f10239)))))))))))))))))))))))))))))) ?_
  refine m_iload_n F rfl e_X10_takeText_35 ?_
  refine m_aload_n F rfl e_X10_takeText_36 ?_
  refine r_getC F e_X10_takeText_37 fl_X10_16 h10506 ((fld_eq (g10507 _ (by omega))).trans ((fld_eq (g10499 _ (by omega))).trans ((fld_eq (g10490 _ (by omega))).trans ((fld_eq (g10481 _ (by omega))).trans ((fld_eq (g10473 _ (by omega))).trans ((fld_eq (g10465 _ (by omega))).trans ((fld_eq (g10457 _ (by omega))).trans ((fld_eq (g10447 _ (by omega))).trans ((fld_eq (g10438 _ (by omega))).trans ((fld_eq (g10428 _ (by omega))).trans ((fld_eq (g10420 _ (by omega))).trans ((fld_eq (g10412 _ (by omega))).trans ((fld_eq (g10403 _ (by omega))).trans ((fld_eq (g10394 _ (by omega))).trans ((fld_eq (g10386 _ (by omega))).trans ((fld_eq (g10378 _ (by omega))).trans ((fld_eq (g10370 _ (by omega))).trans ((fld_eq (g10360 _ (by omega))).trans ((fld_eq (g10351 _ (by omega))).trans ((fld_eq (g10341 _ (by omega))).trans ((fld_eq (g10333 _ (by omega))).trans ((fld_eq (g10324 _ (by omega))).trans ((fld_eq (g10314 _ (by omega))).trans ((fld_eq (g10304 _ (by omega))).trans ((fld_eq (g10295 _ (by omega))).trans ((fld_eq (g10286 _ (by omega))).trans ((fld_eq (g10277 _ (by omega))).trans ((fld_eq (g10266 _ (by omega))).trans ((fld_eq (g10256 _ (by omega))).trans ((fld_eq (g10245 _ (by omega))).trans f10239)))))))))))))))))))))))))))))) ?_
  refine m_iconst F (v := 4) (by decide) e_X10_takeText_40 ?_
  refine m_iload_n F rfl e_X10_takeText_41 ?_
  refine m_iadd F e_X10_takeText_42 ?_
  refine Wm.topE (w := 7) (by decide) ?_
  refine r_iald F (len := 8) (j := 7) e_X10_takeText_43 h10506 (fun _ h => h) (by decide) (by decide) (by unfold vp_in; decide) (fun x10510 h10511 f10512 => ?_)
  obtain ⟨nb10518, enb10518⟩ := nI_ex x10510
  refine r_iast F (g' := (⟨T, Z, u, h, (mkP P10450.n0 P10450.n2 P10450.n5 P10450.n7 P10450.m0 P10450.m5 P10450.w2 P10450.w7 P10450.kk P10450.a P10450.b0 P10450.b1 P10450.b2 nb10518), L⟩ : RG)) (len := 8) (j := 3) e_X10_takeText_44 h10506 (fun _ h => h) (fun f h => ⟨f, rfl, h⟩) (by decide) (by decide) (by decide) (by unfold vp_in; decide) (fun _ => enb10518) (fun i hi y hy h4 => (hy h4).trans (congrArg nI (bselN3 hi h4))) (CR.chg (by intro k hk i x h; unfold EI at h ⊢; split at h <;> first | exact h | exact absurd rfl hk | trivial) rfl rfl) (fun σ10513 h10514 g10515 f10516 g10517 => ?_)
  obtain ⟨P10519, eP10519⟩ : ∃ P9, P9 = (mkP P10450.n0 P10450.n2 P10450.n5 P10450.n7 P10450.m0 P10450.m5 P10450.w2 P10450.w7 P10450.kk P10450.a P10450.b0 P10450.b1 P10450.b2 nb10518) := ⟨_, rfl⟩
  rw [← eP10519] at h10514
  have fP10519 : P10519.n0 = P10450.n0 ∧ P10519.n2 = P10450.n2 ∧ P10519.n5 = P10450.n5 ∧ P10519.n7 = P10450.n7 ∧ P10519.m0 = P10450.m0 ∧ P10519.m5 = P10450.m5 ∧ P10519.w2 = P10450.w2 ∧ P10519.w7 = P10450.w7 ∧ P10519.kk = P10450.kk ∧ P10519.a = P10450.a ∧ P10519.b0 = P10450.b0 ∧ P10519.b1 = P10450.b1 ∧ P10519.b2 = P10450.b2 ∧ P10519.b3 = nb10518 := by rw [eP10519]; exact ⟨rfl, rfl, rfl, rfl, rfl, rfl, rfl, rfl, rfl, rfl, rfl, rfl, rfl, rfl⟩
  refine m_aload_n F rfl e_X10_takeText_45 ?_
  refine r_getC F e_X10_takeText_46 fl_X10_19 h10514 ((fld_eq (g10515 _ (by omega))).trans ((fld_eq (g10507 _ (by omega))).trans ((fld_eq (g10499 _ (by omega))).trans ((fld_eq (g10490 _ (by omega))).trans ((fld_eq (g10481 _ (by omega))).trans ((fld_eq (g10473 _ (by omega))).trans ((fld_eq (g10465 _ (by omega))).trans ((fld_eq (g10457 _ (by omega))).trans ((fld_eq (g10447 _ (by omega))).trans ((fld_eq (g10438 _ (by omega))).trans ((fld_eq (g10428 _ (by omega))).trans ((fld_eq (g10420 _ (by omega))).trans ((fld_eq (g10412 _ (by omega))).trans ((fld_eq (g10403 _ (by omega))).trans ((fld_eq (g10394 _ (by omega))).trans ((fld_eq (g10386 _ (by omega))).trans ((fld_eq (g10378 _ (by omega))).trans ((fld_eq (g10370 _ (by omega))).trans ((fld_eq (g10360 _ (by omega))).trans ((fld_eq (g10351 _ (by omega))).trans ((fld_eq (g10341 _ (by omega))).trans ((fld_eq (g10333 _ (by omega))).trans ((fld_eq (g10324 _ (by omega))).trans ((fld_eq (g10314 _ (by omega))).trans ((fld_eq (g10304 _ (by omega))).trans ((fld_eq (g10295 _ (by omega))).trans ((fld_eq (g10286 _ (by omega))).trans ((fld_eq (g10277 _ (by omega))).trans ((fld_eq (g10266 _ (by omega))).trans ((fld_eq (g10256 _ (by omega))).trans f10250)))))))))))))))))))))))))))))) ?_
  refine m_iload_n F rfl e_X10_takeText_49 ?_
  refine m_aload_n F rfl e_X10_takeText_50 ?_
  refine r_getC F e_X10_takeText_51 fl_X10_19 h10514 ((fld_eq (g10515 _ (by omega))).trans ((fld_eq (g10507 _ (by omega))).trans ((fld_eq (g10499 _ (by omega))).trans ((fld_eq (g10490 _ (by omega))).trans ((fld_eq (g10481 _ (by omega))).trans ((fld_eq (g10473 _ (by omega))).trans ((fld_eq (g10465 _ (by omega))).trans ((fld_eq (g10457 _ (by omega))).trans ((fld_eq (g10447 _ (by omega))).trans ((fld_eq (g10438 _ (by omega))).trans ((fld_eq (g10428 _ (by omega))).trans ((fld_eq (g10420 _ (by omega))).trans ((fld_eq (g10412 _ (by omega))).trans ((fld_eq (g10403 _ (by omega))).trans ((fld_eq (g10394 _ (by omega))).trans ((fld_eq (g10386 _ (by omega))).trans ((fld_eq (g10378 _ (by omega))).trans ((fld_eq (g10370 _ (by omega))).trans ((fld_eq (g10360 _ (by omega))).trans ((fld_eq (g10351 _ (by omega))).trans ((fld_eq (g10341 _ (by omega))).trans ((fld_eq (g10333 _ (by omega))).trans ((fld_eq (g10324 _ (by omega))).trans ((fld_eq (g10314 _ (by omega))).trans ((fld_eq (g10304 _ (by omega))).trans ((fld_eq (g10295 _ (by omega))).trans ((fld_eq (g10286 _ (by omega))).trans ((fld_eq (g10277 _ (by omega))).trans ((fld_eq (g10266 _ (by omega))).trans ((fld_eq (g10256 _ (by omega))).trans f10250)))))))))))))))))))))))))))))) ?_
  refine m_iconst F (v := 4) (by decide) e_X10_takeText_54 ?_
  refine m_iload_n F rfl e_X10_takeText_55 ?_
  refine m_iadd F e_X10_takeText_56 ?_
  refine Wm.topE (w := 7) (by decide) ?_
  refine r_iald F (len := 8) (j := 7) e_X10_takeText_57 h10514 (fun _ h => h) (by decide) (by decide) (by unfold vp_in; decide) (fun x10520 h10521 f10522 => ?_)
  refine r_iast F (g' := (⟨T, Z, u, h, P10519, L⟩ : RG)) (len := 8) (j := 3) e_X10_takeText_58 h10514 (fun _ h => h) (fun f h => ⟨f, rfl, h⟩) (by decide) (by decide) (by decide) (by unfold vp_in; decide) trivial (fun _ _ _ h => h) (fun _ _ _ h => h) (fun σ10523 h10524 g10525 f10526 g10527 => ?_)
  refine m_aload_n F rfl e_X10_takeText_59 ?_
  refine r_getC F e_X10_takeText_60 fl_X10_22 h10524 ((fld_eq (g10525 _ (by omega))).trans ((fld_eq (g10515 _ (by omega))).trans ((fld_eq (g10507 _ (by omega))).trans ((fld_eq (g10499 _ (by omega))).trans ((fld_eq (g10490 _ (by omega))).trans ((fld_eq (g10481 _ (by omega))).trans ((fld_eq (g10473 _ (by omega))).trans ((fld_eq (g10465 _ (by omega))).trans ((fld_eq (g10457 _ (by omega))).trans ((fld_eq (g10447 _ (by omega))).trans ((fld_eq (g10438 _ (by omega))).trans ((fld_eq (g10428 _ (by omega))).trans ((fld_eq (g10420 _ (by omega))).trans ((fld_eq (g10412 _ (by omega))).trans ((fld_eq (g10403 _ (by omega))).trans ((fld_eq (g10394 _ (by omega))).trans ((fld_eq (g10386 _ (by omega))).trans ((fld_eq (g10378 _ (by omega))).trans ((fld_eq (g10370 _ (by omega))).trans ((fld_eq (g10360 _ (by omega))).trans ((fld_eq (g10351 _ (by omega))).trans ((fld_eq (g10341 _ (by omega))).trans ((fld_eq (g10333 _ (by omega))).trans ((fld_eq (g10324 _ (by omega))).trans ((fld_eq (g10314 _ (by omega))).trans ((fld_eq (g10304 _ (by omega))).trans ((fld_eq (g10295 _ (by omega))).trans ((fld_eq (g10286 _ (by omega))).trans ((fld_eq (g10277 _ (by omega))).trans ((fld_eq (g10266 _ (by omega))).trans f10259)))))))))))))))))))))))))))))) ?_
  refine m_iload_n F rfl e_X10_takeText_63 ?_
  refine m_aload_n F rfl e_X10_takeText_64 ?_
  refine r_getC F e_X10_takeText_65 fl_X10_22 h10524 ((fld_eq (g10525 _ (by omega))).trans ((fld_eq (g10515 _ (by omega))).trans ((fld_eq (g10507 _ (by omega))).trans ((fld_eq (g10499 _ (by omega))).trans ((fld_eq (g10490 _ (by omega))).trans ((fld_eq (g10481 _ (by omega))).trans ((fld_eq (g10473 _ (by omega))).trans ((fld_eq (g10465 _ (by omega))).trans ((fld_eq (g10457 _ (by omega))).trans ((fld_eq (g10447 _ (by omega))).trans ((fld_eq (g10438 _ (by omega))).trans ((fld_eq (g10428 _ (by omega))).trans ((fld_eq (g10420 _ (by omega))).trans ((fld_eq (g10412 _ (by omega))).trans ((fld_eq (g10403 _ (by omega))).trans ((fld_eq (g10394 _ (by omega))).trans ((fld_eq (g10386 _ (by omega))).trans ((fld_eq (g10378 _ (by omega))).trans ((fld_eq (g10370 _ (by omega))).trans ((fld_eq (g10360 _ (by omega))).trans ((fld_eq (g10351 _ (by omega))).trans ((fld_eq (g10341 _ (by omega))).trans ((fld_eq (g10333 _ (by omega))).trans ((fld_eq (g10324 _ (by omega))).trans ((fld_eq (g10314 _ (by omega))).trans ((fld_eq (g10304 _ (by omega))).trans ((fld_eq (g10295 _ (by omega))).trans ((fld_eq (g10286 _ (by omega))).trans ((fld_eq (g10277 _ (by omega))).trans ((fld_eq (g10266 _ (by omega))).trans f10259)))))))))))))))))))))))))))))) ?_
  refine m_iconst F (v := 4) (by decide) e_X10_takeText_68 ?_
  refine m_iload_n F rfl e_X10_takeText_69 ?_
  refine m_iadd F e_X10_takeText_70 ?_
  refine Wm.topE (w := 7) (by decide) ?_
  refine r_iald F (len := 8) (j := 7) e_X10_takeText_71 h10524 (fun _ h => h) (by decide) (by decide) (by unfold vp_in; decide) (fun x10528 h10529 f10530 => ?_)
  obtain ⟨n10531, hn10531, rfl, pn10531, rn10531⟩ := h10529
  refine r_iast F (g' := (⟨T, Z, u, h, (mkP P10519.n0 P10519.n2 P10519.n5 P10519.n7 (min 4 P10519.m5) P10519.m5 P10519.w2 P10519.w7 P10519.kk P10519.a P10519.b0 P10519.b1 P10519.b2 P10519.b3), L⟩ : RG)) (len := 8) (j := 3) e_X10_takeText_72 h10524 (fun _ h => h) (fun f h => ⟨f, rfl, h⟩) (by decide) (by decide) (by decide) (by unfold vp_in; decide) ⟨n10531, by omega, rfl, fun _ h8 => rn10531 (by omega) (show 7 < 4 + P10519.m5 by have h6 : 3 < min 4 P10519.m5 := h8; omega), fun h7 _ => absurd h7 (by omega)⟩ (fun i hi y hy => by obtain ⟨n9, a9, b9, c9, d9⟩ := hy; exact ⟨n9, a9, b9, fun h7 h8 => c9 h7 (show i < P10519.m0 by have h6 : i < min 4 P10519.m5 := h8; omega), d9⟩) (CR.chg (by intro k hk i x h; unfold EI at h ⊢; split at h <;> first | exact h | exact absurd rfl hk | trivial) rfl rfl) (fun σ10532 h10533 g10534 f10535 g10536 => ?_)
  obtain ⟨P10537, eP10537⟩ : ∃ P9, P9 = (mkP P10519.n0 P10519.n2 P10519.n5 P10519.n7 (min 4 P10519.m5) P10519.m5 P10519.w2 P10519.w7 P10519.kk P10519.a P10519.b0 P10519.b1 P10519.b2 P10519.b3) := ⟨_, rfl⟩
  rw [← eP10537] at h10533
  have fP10537 : P10537.n0 = P10519.n0 ∧ P10537.n2 = P10519.n2 ∧ P10537.n5 = P10519.n5 ∧ P10537.n7 = P10519.n7 ∧ P10537.m0 = min 4 P10519.m5 ∧ P10537.m5 = P10519.m5 ∧ P10537.w2 = P10519.w2 ∧ P10537.w7 = P10519.w7 ∧ P10537.kk = P10519.kk ∧ P10537.a = P10519.a ∧ P10537.b0 = P10519.b0 ∧ P10537.b1 = P10519.b1 ∧ P10537.b2 = P10519.b2 ∧ P10537.b3 = P10519.b3 := by rw [eP10537]; exact ⟨rfl, rfl, rfl, rfl, rfl, rfl, rfl, rfl, rfl, rfl, rfl, rfl, rfl, rfl⟩
  refine m_aload_n F rfl e_X10_takeText_73 ?_
  refine r_getC F e_X10_takeText_74 fl_X10_25 h10533 ((fld_eq (g10534 _ (by omega))).trans ((fld_eq (g10525 _ (by omega))).trans ((fld_eq (g10515 _ (by omega))).trans ((fld_eq (g10507 _ (by omega))).trans ((fld_eq (g10499 _ (by omega))).trans ((fld_eq (g10490 _ (by omega))).trans ((fld_eq (g10481 _ (by omega))).trans ((fld_eq (g10473 _ (by omega))).trans ((fld_eq (g10465 _ (by omega))).trans ((fld_eq (g10457 _ (by omega))).trans ((fld_eq (g10447 _ (by omega))).trans ((fld_eq (g10438 _ (by omega))).trans ((fld_eq (g10428 _ (by omega))).trans ((fld_eq (g10420 _ (by omega))).trans ((fld_eq (g10412 _ (by omega))).trans ((fld_eq (g10403 _ (by omega))).trans ((fld_eq (g10394 _ (by omega))).trans ((fld_eq (g10386 _ (by omega))).trans ((fld_eq (g10378 _ (by omega))).trans ((fld_eq (g10370 _ (by omega))).trans ((fld_eq (g10360 _ (by omega))).trans ((fld_eq (g10351 _ (by omega))).trans ((fld_eq (g10341 _ (by omega))).trans ((fld_eq (g10333 _ (by omega))).trans ((fld_eq (g10324 _ (by omega))).trans ((fld_eq (g10314 _ (by omega))).trans ((fld_eq (g10304 _ (by omega))).trans ((fld_eq (g10295 _ (by omega))).trans ((fld_eq (g10286 _ (by omega))).trans ((fld_eq (g10277 _ (by omega))).trans f10270)))))))))))))))))))))))))))))) ?_
  refine m_iload_n F rfl e_X10_takeText_77 ?_
  refine m_aload_n F rfl e_X10_takeText_78 ?_
  refine r_getC F e_X10_takeText_79 fl_X10_25 h10533 ((fld_eq (g10534 _ (by omega))).trans ((fld_eq (g10525 _ (by omega))).trans ((fld_eq (g10515 _ (by omega))).trans ((fld_eq (g10507 _ (by omega))).trans ((fld_eq (g10499 _ (by omega))).trans ((fld_eq (g10490 _ (by omega))).trans ((fld_eq (g10481 _ (by omega))).trans ((fld_eq (g10473 _ (by omega))).trans ((fld_eq (g10465 _ (by omega))).trans ((fld_eq (g10457 _ (by omega))).trans ((fld_eq (g10447 _ (by omega))).trans ((fld_eq (g10438 _ (by omega))).trans ((fld_eq (g10428 _ (by omega))).trans ((fld_eq (g10420 _ (by omega))).trans ((fld_eq (g10412 _ (by omega))).trans ((fld_eq (g10403 _ (by omega))).trans ((fld_eq (g10394 _ (by omega))).trans ((fld_eq (g10386 _ (by omega))).trans ((fld_eq (g10378 _ (by omega))).trans ((fld_eq (g10370 _ (by omega))).trans ((fld_eq (g10360 _ (by omega))).trans ((fld_eq (g10351 _ (by omega))).trans ((fld_eq (g10341 _ (by omega))).trans ((fld_eq (g10333 _ (by omega))).trans ((fld_eq (g10324 _ (by omega))).trans ((fld_eq (g10314 _ (by omega))).trans ((fld_eq (g10304 _ (by omega))).trans ((fld_eq (g10295 _ (by omega))).trans ((fld_eq (g10286 _ (by omega))).trans ((fld_eq (g10277 _ (by omega))).trans f10270)))))))))))))))))))))))))))))) ?_
  refine m_iconst F (v := 4) (by decide) e_X10_takeText_82 ?_
  refine m_iload_n F rfl e_X10_takeText_83 ?_
  refine m_iadd F e_X10_takeText_84 ?_
  refine Wm.topE (w := 7) (by decide) ?_
  refine r_iald F (len := 8) (j := 7) e_X10_takeText_85 h10533 (fun _ h => h) (by decide) (by decide) (by unfold vp_in; decide) (fun x10538 h10539 f10540 => ?_)
  obtain ⟨n10541, hn10541, rfl⟩ := h10539
  refine r_iast F (g' := (⟨T, Z, u, h, P10537, L⟩ : RG)) (len := 8) (j := 3) e_X10_takeText_86 h10533 (fun _ h => h) (fun f h => ⟨f, rfl, h⟩) (by decide) (by decide) (by decide) (by unfold vp_in; decide) ⟨n10541, by omega, rfl⟩ (fun _ _ _ h => h) (fun _ _ _ h => h) (fun σ10542 h10543 g10544 f10545 g10546 => ?_)
  refine m_aload_n F rfl e_X10_takeText_87 ?_
  refine r_getC F e_X10_takeText_88 fl_X10_28 h10543 ((fld_eq (g10544 _ (by omega))).trans ((fld_eq (g10534 _ (by omega))).trans ((fld_eq (g10525 _ (by omega))).trans ((fld_eq (g10515 _ (by omega))).trans ((fld_eq (g10507 _ (by omega))).trans ((fld_eq (g10499 _ (by omega))).trans ((fld_eq (g10490 _ (by omega))).trans ((fld_eq (g10481 _ (by omega))).trans ((fld_eq (g10473 _ (by omega))).trans ((fld_eq (g10465 _ (by omega))).trans ((fld_eq (g10457 _ (by omega))).trans ((fld_eq (g10447 _ (by omega))).trans ((fld_eq (g10438 _ (by omega))).trans ((fld_eq (g10428 _ (by omega))).trans ((fld_eq (g10420 _ (by omega))).trans ((fld_eq (g10412 _ (by omega))).trans ((fld_eq (g10403 _ (by omega))).trans ((fld_eq (g10394 _ (by omega))).trans ((fld_eq (g10386 _ (by omega))).trans ((fld_eq (g10378 _ (by omega))).trans ((fld_eq (g10370 _ (by omega))).trans ((fld_eq (g10360 _ (by omega))).trans ((fld_eq (g10351 _ (by omega))).trans ((fld_eq (g10341 _ (by omega))).trans ((fld_eq (g10333 _ (by omega))).trans ((fld_eq (g10324 _ (by omega))).trans ((fld_eq (g10314 _ (by omega))).trans ((fld_eq (g10304 _ (by omega))).trans ((fld_eq (g10295 _ (by omega))).trans ((fld_eq (g10286 _ (by omega))).trans f10280)))))))))))))))))))))))))))))) ?_
  refine m_iload_n F rfl e_X10_takeText_91 ?_
  refine m_aload_n F rfl e_X10_takeText_92 ?_
  refine r_getC F e_X10_takeText_93 fl_X10_28 h10543 ((fld_eq (g10544 _ (by omega))).trans ((fld_eq (g10534 _ (by omega))).trans ((fld_eq (g10525 _ (by omega))).trans ((fld_eq (g10515 _ (by omega))).trans ((fld_eq (g10507 _ (by omega))).trans ((fld_eq (g10499 _ (by omega))).trans ((fld_eq (g10490 _ (by omega))).trans ((fld_eq (g10481 _ (by omega))).trans ((fld_eq (g10473 _ (by omega))).trans ((fld_eq (g10465 _ (by omega))).trans ((fld_eq (g10457 _ (by omega))).trans ((fld_eq (g10447 _ (by omega))).trans ((fld_eq (g10438 _ (by omega))).trans ((fld_eq (g10428 _ (by omega))).trans ((fld_eq (g10420 _ (by omega))).trans ((fld_eq (g10412 _ (by omega))).trans ((fld_eq (g10403 _ (by omega))).trans ((fld_eq (g10394 _ (by omega))).trans ((fld_eq (g10386 _ (by omega))).trans ((fld_eq (g10378 _ (by omega))).trans ((fld_eq (g10370 _ (by omega))).trans ((fld_eq (g10360 _ (by omega))).trans ((fld_eq (g10351 _ (by omega))).trans ((fld_eq (g10341 _ (by omega))).trans ((fld_eq (g10333 _ (by omega))).trans ((fld_eq (g10324 _ (by omega))).trans ((fld_eq (g10314 _ (by omega))).trans ((fld_eq (g10304 _ (by omega))).trans ((fld_eq (g10295 _ (by omega))).trans ((fld_eq (g10286 _ (by omega))).trans f10280)))))))))))))))))))))))))))))) ?_
  refine m_iconst F (v := 4) (by decide) e_X10_takeText_96 ?_
  refine m_iload_n F rfl e_X10_takeText_97 ?_
  refine m_iadd F e_X10_takeText_98 ?_
  refine Wm.topE (w := 7) (by decide) ?_
  refine r_iald F (len := 8) (j := 7) e_X10_takeText_99 h10543 (fun _ h => h) (by decide) (by decide) (by unfold vp_in; decide) (fun x10547 h10548 f10549 => ?_)
  refine r_iast F (g' := (⟨T, Z, u, h, P10537, L⟩ : RG)) (len := 8) (j := 3) e_X10_takeText_100 h10543 (fun _ h => h) (fun f h => ⟨f, rfl, h⟩) (by decide) (by decide) (by decide) (by unfold vp_in; decide) trivial (fun _ _ _ h => h) (fun _ _ _ h => h) (fun σ10550 h10551 g10552 f10553 g10554 => ?_)
  refine m_aload_n F rfl e_X10_takeText_101 ?_
  refine r_getC F e_X10_takeText_102 fl_X10_31 h10551 ((fld_eq (g10552 _ (by omega))).trans ((fld_eq (g10544 _ (by omega))).trans ((fld_eq (g10534 _ (by omega))).trans ((fld_eq (g10525 _ (by omega))).trans ((fld_eq (g10515 _ (by omega))).trans ((fld_eq (g10507 _ (by omega))).trans ((fld_eq (g10499 _ (by omega))).trans ((fld_eq (g10490 _ (by omega))).trans ((fld_eq (g10481 _ (by omega))).trans ((fld_eq (g10473 _ (by omega))).trans ((fld_eq (g10465 _ (by omega))).trans ((fld_eq (g10457 _ (by omega))).trans ((fld_eq (g10447 _ (by omega))).trans ((fld_eq (g10438 _ (by omega))).trans ((fld_eq (g10428 _ (by omega))).trans ((fld_eq (g10420 _ (by omega))).trans ((fld_eq (g10412 _ (by omega))).trans ((fld_eq (g10403 _ (by omega))).trans ((fld_eq (g10394 _ (by omega))).trans ((fld_eq (g10386 _ (by omega))).trans ((fld_eq (g10378 _ (by omega))).trans ((fld_eq (g10370 _ (by omega))).trans ((fld_eq (g10360 _ (by omega))).trans ((fld_eq (g10351 _ (by omega))).trans ((fld_eq (g10341 _ (by omega))).trans ((fld_eq (g10333 _ (by omega))).trans ((fld_eq (g10324 _ (by omega))).trans ((fld_eq (g10314 _ (by omega))).trans ((fld_eq (g10304 _ (by omega))).trans ((fld_eq (g10295 _ (by omega))).trans f10289)))))))))))))))))))))))))))))) ?_
  refine m_iload_n F rfl e_X10_takeText_105 ?_
  refine m_aload_n F rfl e_X10_takeText_106 ?_
  refine r_getC F e_X10_takeText_107 fl_X10_31 h10551 ((fld_eq (g10552 _ (by omega))).trans ((fld_eq (g10544 _ (by omega))).trans ((fld_eq (g10534 _ (by omega))).trans ((fld_eq (g10525 _ (by omega))).trans ((fld_eq (g10515 _ (by omega))).trans ((fld_eq (g10507 _ (by omega))).trans ((fld_eq (g10499 _ (by omega))).trans ((fld_eq (g10490 _ (by omega))).trans ((fld_eq (g10481 _ (by omega))).trans ((fld_eq (g10473 _ (by omega))).trans ((fld_eq (g10465 _ (by omega))).trans ((fld_eq (g10457 _ (by omega))).trans ((fld_eq (g10447 _ (by omega))).trans ((fld_eq (g10438 _ (by omega))).trans ((fld_eq (g10428 _ (by omega))).trans ((fld_eq (g10420 _ (by omega))).trans ((fld_eq (g10412 _ (by omega))).trans ((fld_eq (g10403 _ (by omega))).trans ((fld_eq (g10394 _ (by omega))).trans ((fld_eq (g10386 _ (by omega))).trans ((fld_eq (g10378 _ (by omega))).trans ((fld_eq (g10370 _ (by omega))).trans ((fld_eq (g10360 _ (by omega))).trans ((fld_eq (g10351 _ (by omega))).trans ((fld_eq (g10341 _ (by omega))).trans ((fld_eq (g10333 _ (by omega))).trans ((fld_eq (g10324 _ (by omega))).trans ((fld_eq (g10314 _ (by omega))).trans ((fld_eq (g10304 _ (by omega))).trans ((fld_eq (g10295 _ (by omega))).trans f10289)))))))))))))))))))))))))))))) ?_
  refine m_iconst F (v := 4) (by decide) e_X10_takeText_110 ?_
  refine m_iload_n F rfl e_X10_takeText_111 ?_
  refine m_iadd F e_X10_takeText_112 ?_
  refine Wm.topE (w := 7) (by decide) ?_
  refine r_iald F (len := 8) (j := 7) e_X10_takeText_113 h10551 (fun _ h => h) (by decide) (by decide) (by unfold vp_in; decide) (fun x10555 h10556 f10557 => ?_)
  refine r_iast F (g' := (⟨T, Z, u, h, P10537, L⟩ : RG)) (len := 8) (j := 3) e_X10_takeText_114 h10551 (fun _ h => h) (fun f h => ⟨f, rfl, h⟩) (by decide) (by decide) (by decide) (by unfold vp_in; decide) trivial (fun _ _ _ h => h) (fun _ _ _ h => h) (fun σ10558 h10559 g10560 f10561 g10562 => ?_)
  refine m_aload_n F rfl e_X10_takeText_115 ?_
  refine r_getC F e_X10_takeText_116 fl_X10_34 h10559 ((fld_eq (g10560 _ (by omega))).trans ((fld_eq (g10552 _ (by omega))).trans ((fld_eq (g10544 _ (by omega))).trans ((fld_eq (g10534 _ (by omega))).trans ((fld_eq (g10525 _ (by omega))).trans ((fld_eq (g10515 _ (by omega))).trans ((fld_eq (g10507 _ (by omega))).trans ((fld_eq (g10499 _ (by omega))).trans ((fld_eq (g10490 _ (by omega))).trans ((fld_eq (g10481 _ (by omega))).trans ((fld_eq (g10473 _ (by omega))).trans ((fld_eq (g10465 _ (by omega))).trans ((fld_eq (g10457 _ (by omega))).trans ((fld_eq (g10447 _ (by omega))).trans ((fld_eq (g10438 _ (by omega))).trans ((fld_eq (g10428 _ (by omega))).trans ((fld_eq (g10420 _ (by omega))).trans ((fld_eq (g10412 _ (by omega))).trans ((fld_eq (g10403 _ (by omega))).trans ((fld_eq (g10394 _ (by omega))).trans ((fld_eq (g10386 _ (by omega))).trans ((fld_eq (g10378 _ (by omega))).trans ((fld_eq (g10370 _ (by omega))).trans ((fld_eq (g10360 _ (by omega))).trans ((fld_eq (g10351 _ (by omega))).trans ((fld_eq (g10341 _ (by omega))).trans ((fld_eq (g10333 _ (by omega))).trans ((fld_eq (g10324 _ (by omega))).trans ((fld_eq (g10314 _ (by omega))).trans ((fld_eq (g10304 _ (by omega))).trans f10298)))))))))))))))))))))))))))))) ?_
  refine m_iload_n F rfl e_X10_takeText_119 ?_
  refine m_aload_n F rfl e_X10_takeText_120 ?_
  refine r_getC F e_X10_takeText_121 fl_X10_34 h10559 ((fld_eq (g10560 _ (by omega))).trans ((fld_eq (g10552 _ (by omega))).trans ((fld_eq (g10544 _ (by omega))).trans ((fld_eq (g10534 _ (by omega))).trans ((fld_eq (g10525 _ (by omega))).trans ((fld_eq (g10515 _ (by omega))).trans ((fld_eq (g10507 _ (by omega))).trans ((fld_eq (g10499 _ (by omega))).trans ((fld_eq (g10490 _ (by omega))).trans ((fld_eq (g10481 _ (by omega))).trans ((fld_eq (g10473 _ (by omega))).trans ((fld_eq (g10465 _ (by omega))).trans ((fld_eq (g10457 _ (by omega))).trans ((fld_eq (g10447 _ (by omega))).trans ((fld_eq (g10438 _ (by omega))).trans ((fld_eq (g10428 _ (by omega))).trans ((fld_eq (g10420 _ (by omega))).trans ((fld_eq (g10412 _ (by omega))).trans ((fld_eq (g10403 _ (by omega))).trans ((fld_eq (g10394 _ (by omega))).trans ((fld_eq (g10386 _ (by omega))).trans ((fld_eq (g10378 _ (by omega))).trans ((fld_eq (g10370 _ (by omega))).trans ((fld_eq (g10360 _ (by omega))).trans ((fld_eq (g10351 _ (by omega))).trans ((fld_eq (g10341 _ (by omega))).trans ((fld_eq (g10333 _ (by omega))).trans ((fld_eq (g10324 _ (by omega))).trans ((fld_eq (g10314 _ (by omega))).trans ((fld_eq (g10304 _ (by omega))).trans f10298)))))))))))))))))))))))))))))) ?_
  refine m_iconst F (v := 4) (by decide) e_X10_takeText_124 ?_
  refine m_iload_n F rfl e_X10_takeText_125 ?_
  refine m_iadd F e_X10_takeText_126 ?_
  refine Wm.topE (w := 7) (by decide) ?_
  refine r_iald F (len := 8) (j := 7) e_X10_takeText_127 h10559 (fun _ h => h) (by decide) (by decide) (by unfold vp_in; decide) (fun x10563 h10564 f10565 => ?_)
  refine r_iast F (g' := (⟨T, Z, u, h, P10537, L⟩ : RG)) (len := 8) (j := 3) e_X10_takeText_128 h10559 (fun _ h => h) (fun f h => ⟨f, rfl, h⟩) (by decide) (by decide) (by decide) (by unfold vp_in; decide) trivial (fun _ _ _ h => h) (fun _ _ _ h => h) (fun σ10566 h10567 g10568 f10569 g10570 => ?_)
  refine m_aload_n F rfl e_X10_takeText_129 ?_
  refine r_getC F e_X10_takeText_130 fl_X10_46 h10567 ((fld_eq (g10568 _ (by omega))).trans ((fld_eq (g10560 _ (by omega))).trans ((fld_eq (g10552 _ (by omega))).trans ((fld_eq (g10544 _ (by omega))).trans ((fld_eq (g10534 _ (by omega))).trans ((fld_eq (g10525 _ (by omega))).trans ((fld_eq (g10515 _ (by omega))).trans ((fld_eq (g10507 _ (by omega))).trans ((fld_eq (g10499 _ (by omega))).trans ((fld_eq (g10490 _ (by omega))).trans ((fld_eq (g10481 _ (by omega))).trans ((fld_eq (g10473 _ (by omega))).trans ((fld_eq (g10465 _ (by omega))).trans ((fld_eq (g10457 _ (by omega))).trans ((fld_eq (g10447 _ (by omega))).trans ((fld_eq (g10438 _ (by omega))).trans ((fld_eq (g10428 _ (by omega))).trans ((fld_eq (g10420 _ (by omega))).trans ((fld_eq (g10412 _ (by omega))).trans ((fld_eq (g10403 _ (by omega))).trans ((fld_eq (g10394 _ (by omega))).trans ((fld_eq (g10386 _ (by omega))).trans ((fld_eq (g10378 _ (by omega))).trans ((fld_eq (g10370 _ (by omega))).trans ((fld_eq (g10360 _ (by omega))).trans ((fld_eq (g10351 _ (by omega))).trans ((fld_eq (g10341 _ (by omega))).trans ((fld_eq (g10333 _ (by omega))).trans ((fld_eq (g10324 _ (by omega))).trans ((fld_eq (g10314 _ (by omega))).trans f10307)))))))))))))))))))))))))))))) ?_
  refine m_iload_n F rfl e_X10_takeText_133 ?_
  refine m_aload_n F rfl e_X10_takeText_134 ?_
  refine r_getC F e_X10_takeText_135 fl_X10_46 h10567 ((fld_eq (g10568 _ (by omega))).trans ((fld_eq (g10560 _ (by omega))).trans ((fld_eq (g10552 _ (by omega))).trans ((fld_eq (g10544 _ (by omega))).trans ((fld_eq (g10534 _ (by omega))).trans ((fld_eq (g10525 _ (by omega))).trans ((fld_eq (g10515 _ (by omega))).trans ((fld_eq (g10507 _ (by omega))).trans ((fld_eq (g10499 _ (by omega))).trans ((fld_eq (g10490 _ (by omega))).trans ((fld_eq (g10481 _ (by omega))).trans ((fld_eq (g10473 _ (by omega))).trans ((fld_eq (g10465 _ (by omega))).trans ((fld_eq (g10457 _ (by omega))).trans ((fld_eq (g10447 _ (by omega))).trans ((fld_eq (g10438 _ (by omega))).trans ((fld_eq (g10428 _ (by omega))).trans ((fld_eq (g10420 _ (by omega))).trans ((fld_eq (g10412 _ (by omega))).trans ((fld_eq (g10403 _ (by omega))).trans ((fld_eq (g10394 _ (by omega))).trans ((fld_eq (g10386 _ (by omega))).trans ((fld_eq (g10378 _ (by omega))).trans ((fld_eq (g10370 _ (by omega))).trans ((fld_eq (g10360 _ (by omega))).trans ((fld_eq (g10351 _ (by omega))).trans ((fld_eq (g10341 _ (by omega))).trans ((fld_eq (g10333 _ (by omega))).trans ((fld_eq (g10324 _ (by omega))).trans ((fld_eq (g10314 _ (by omega))).trans f10307)))))))))))))))))))))))))))))) ?_
  refine m_iconst F (v := 4) (by decide) e_X10_takeText_138 ?_
  refine m_iload_n F rfl e_X10_takeText_139 ?_
  refine m_iadd F e_X10_takeText_140 ?_
  refine Wm.topE (w := 7) (by decide) ?_
  refine r_iald F (len := 8) (j := 7) e_X10_takeText_141 h10567 (fun _ h => h) (by decide) (by decide) (by unfold vp_in; decide) (fun x10571 h10572 f10573 => ?_)
  obtain ⟨n10574, hn10574, rfl⟩ := h10572
  refine r_iast F (g' := (⟨T, Z, u, h, P10537, L⟩ : RG)) (len := 8) (j := 3) e_X10_takeText_142 h10567 (fun _ h => h) (fun f h => ⟨f, rfl, h⟩) (by decide) (by decide) (by decide) (by unfold vp_in; decide) ⟨n10574, by omega, rfl⟩ (fun _ _ _ h => h) (fun _ _ _ h => h) (fun σ10575 h10576 g10577 f10578 g10579 => ?_)
  refine m_aload_n F rfl e_X10_takeText_143 ?_
  refine r_getC F e_X10_takeText_144 fl_X10_49 h10576 ((fld_eq (g10577 _ (by omega))).trans ((fld_eq (g10568 _ (by omega))).trans ((fld_eq (g10560 _ (by omega))).trans ((fld_eq (g10552 _ (by omega))).trans ((fld_eq (g10544 _ (by omega))).trans ((fld_eq (g10534 _ (by omega))).trans ((fld_eq (g10525 _ (by omega))).trans ((fld_eq (g10515 _ (by omega))).trans ((fld_eq (g10507 _ (by omega))).trans ((fld_eq (g10499 _ (by omega))).trans ((fld_eq (g10490 _ (by omega))).trans ((fld_eq (g10481 _ (by omega))).trans ((fld_eq (g10473 _ (by omega))).trans ((fld_eq (g10465 _ (by omega))).trans ((fld_eq (g10457 _ (by omega))).trans ((fld_eq (g10447 _ (by omega))).trans ((fld_eq (g10438 _ (by omega))).trans ((fld_eq (g10428 _ (by omega))).trans ((fld_eq (g10420 _ (by omega))).trans ((fld_eq (g10412 _ (by omega))).trans ((fld_eq (g10403 _ (by omega))).trans ((fld_eq (g10394 _ (by omega))).trans ((fld_eq (g10386 _ (by omega))).trans ((fld_eq (g10378 _ (by omega))).trans ((fld_eq (g10370 _ (by omega))).trans ((fld_eq (g10360 _ (by omega))).trans ((fld_eq (g10351 _ (by omega))).trans ((fld_eq (g10341 _ (by omega))).trans ((fld_eq (g10333 _ (by omega))).trans ((fld_eq (g10324 _ (by omega))).trans f10317)))))))))))))))))))))))))))))) ?_
  refine m_iload_n F rfl e_X10_takeText_147 ?_
  refine m_aload_n F rfl e_X10_takeText_148 ?_
  refine r_getC F e_X10_takeText_149 fl_X10_49 h10576 ((fld_eq (g10577 _ (by omega))).trans ((fld_eq (g10568 _ (by omega))).trans ((fld_eq (g10560 _ (by omega))).trans ((fld_eq (g10552 _ (by omega))).trans ((fld_eq (g10544 _ (by omega))).trans ((fld_eq (g10534 _ (by omega))).trans ((fld_eq (g10525 _ (by omega))).trans ((fld_eq (g10515 _ (by omega))).trans ((fld_eq (g10507 _ (by omega))).trans ((fld_eq (g10499 _ (by omega))).trans ((fld_eq (g10490 _ (by omega))).trans ((fld_eq (g10481 _ (by omega))).trans ((fld_eq (g10473 _ (by omega))).trans ((fld_eq (g10465 _ (by omega))).trans ((fld_eq (g10457 _ (by omega))).trans ((fld_eq (g10447 _ (by omega))).trans ((fld_eq (g10438 _ (by omega))).trans ((fld_eq (g10428 _ (by omega))).trans ((fld_eq (g10420 _ (by omega))).trans ((fld_eq (g10412 _ (by omega))).trans ((fld_eq (g10403 _ (by omega))).trans ((fld_eq (g10394 _ (by omega))).trans ((fld_eq (g10386 _ (by omega))).trans ((fld_eq (g10378 _ (by omega))).trans ((fld_eq (g10370 _ (by omega))).trans ((fld_eq (g10360 _ (by omega))).trans ((fld_eq (g10351 _ (by omega))).trans ((fld_eq (g10341 _ (by omega))).trans ((fld_eq (g10333 _ (by omega))).trans ((fld_eq (g10324 _ (by omega))).trans f10317)))))))))))))))))))))))))))))) ?_
  refine m_iconst F (v := 4) (by decide) e_X10_takeText_152 ?_
  refine m_iload_n F rfl e_X10_takeText_153 ?_
  refine m_iadd F e_X10_takeText_154 ?_
  refine Wm.topE (w := 7) (by decide) ?_
  refine r_iald F (len := 8) (j := 7) e_X10_takeText_155 h10576 (fun _ h => h) (by decide) (by decide) (by unfold vp_in; decide) (fun x10580 h10581 f10582 => ?_)
  obtain ⟨n10583, hn10583, rfl⟩ := h10581
  refine r_iast F (g' := (⟨T, Z, u, h, P10537, L⟩ : RG)) (len := 8) (j := 3) e_X10_takeText_156 h10576 (fun _ h => h) (fun f h => ⟨f, rfl, h⟩) (by decide) (by decide) (by decide) (by unfold vp_in; decide) ⟨n10583, by omega, rfl⟩ (fun _ _ _ h => h) (fun _ _ _ h => h) (fun σ10584 h10585 g10586 f10587 g10588 => ?_)
  refine m_aload_n F rfl e_X10_takeText_157 ?_
  refine r_getC F e_X10_takeText_158 fl_X10_52 h10585 ((fld_eq (g10586 _ (by omega))).trans ((fld_eq (g10577 _ (by omega))).trans ((fld_eq (g10568 _ (by omega))).trans ((fld_eq (g10560 _ (by omega))).trans ((fld_eq (g10552 _ (by omega))).trans ((fld_eq (g10544 _ (by omega))).trans ((fld_eq (g10534 _ (by omega))).trans ((fld_eq (g10525 _ (by omega))).trans ((fld_eq (g10515 _ (by omega))).trans ((fld_eq (g10507 _ (by omega))).trans ((fld_eq (g10499 _ (by omega))).trans ((fld_eq (g10490 _ (by omega))).trans ((fld_eq (g10481 _ (by omega))).trans ((fld_eq (g10473 _ (by omega))).trans ((fld_eq (g10465 _ (by omega))).trans ((fld_eq (g10457 _ (by omega))).trans ((fld_eq (g10447 _ (by omega))).trans ((fld_eq (g10438 _ (by omega))).trans ((fld_eq (g10428 _ (by omega))).trans ((fld_eq (g10420 _ (by omega))).trans ((fld_eq (g10412 _ (by omega))).trans ((fld_eq (g10403 _ (by omega))).trans ((fld_eq (g10394 _ (by omega))).trans ((fld_eq (g10386 _ (by omega))).trans ((fld_eq (g10378 _ (by omega))).trans ((fld_eq (g10370 _ (by omega))).trans ((fld_eq (g10360 _ (by omega))).trans ((fld_eq (g10351 _ (by omega))).trans ((fld_eq (g10341 _ (by omega))).trans ((fld_eq (g10333 _ (by omega))).trans f10327)))))))))))))))))))))))))))))) ?_
  refine m_iload_n F rfl e_X10_takeText_161 ?_
  refine m_aload_n F rfl e_X10_takeText_162 ?_
  refine r_getC F e_X10_takeText_163 fl_X10_52 h10585 ((fld_eq (g10586 _ (by omega))).trans ((fld_eq (g10577 _ (by omega))).trans ((fld_eq (g10568 _ (by omega))).trans ((fld_eq (g10560 _ (by omega))).trans ((fld_eq (g10552 _ (by omega))).trans ((fld_eq (g10544 _ (by omega))).trans ((fld_eq (g10534 _ (by omega))).trans ((fld_eq (g10525 _ (by omega))).trans ((fld_eq (g10515 _ (by omega))).trans ((fld_eq (g10507 _ (by omega))).trans ((fld_eq (g10499 _ (by omega))).trans ((fld_eq (g10490 _ (by omega))).trans ((fld_eq (g10481 _ (by omega))).trans ((fld_eq (g10473 _ (by omega))).trans ((fld_eq (g10465 _ (by omega))).trans ((fld_eq (g10457 _ (by omega))).trans ((fld_eq (g10447 _ (by omega))).trans ((fld_eq (g10438 _ (by omega))).trans ((fld_eq (g10428 _ (by omega))).trans ((fld_eq (g10420 _ (by omega))).trans ((fld_eq (g10412 _ (by omega))).trans ((fld_eq (g10403 _ (by omega))).trans ((fld_eq (g10394 _ (by omega))).trans ((fld_eq (g10386 _ (by omega))).trans ((fld_eq (g10378 _ (by omega))).trans ((fld_eq (g10370 _ (by omega))).trans ((fld_eq (g10360 _ (by omega))).trans ((fld_eq (g10351 _ (by omega))).trans ((fld_eq (g10341 _ (by omega))).trans ((fld_eq (g10333 _ (by omega))).trans f10327)))))))))))))))))))))))))))))) ?_
  refine m_iconst F (v := 4) (by decide) e_X10_takeText_166 ?_
  refine m_iload_n F rfl e_X10_takeText_167 ?_
  refine m_iadd F e_X10_takeText_168 ?_
  refine Wm.topE (w := 7) (by decide) ?_
  refine r_iald F (len := 8) (j := 7) e_X10_takeText_169 h10585 (fun _ h => h) (by decide) (by decide) (by unfold vp_in; decide) (fun x10589 h10590 f10591 => ?_)
  refine r_iast F (g' := (⟨T, Z, u, h, P10537, L⟩ : RG)) (len := 8) (j := 3) e_X10_takeText_170 h10585 (fun _ h => h) (fun f h => ⟨f, rfl, h⟩) (by decide) (by decide) (by decide) (by unfold vp_in; decide) trivial (fun _ _ _ h => h) (fun _ _ _ h => h) (fun σ10592 h10593 g10594 f10595 g10596 => ?_)
  refine m_iinc F (v := 4) (lv' := [(1, .int 4), (0, .ref c)]) e_X10_takeText_171 rfl (by decide) (by decide) rfl ?_
  refine m_goto F e_X10_takeText_174 ?_
  refine m_iload_n F rfl e_X10_takeText_26 ?_
  refine m_iconst F (v := 4) (by decide) e_X10_takeText_27 ?_
  refine m_icmp_ge F e_X10_takeText_28 (fun _ => ?_) (fun q => absurd (by decide) q)
  refine m_iconst F (v := 0) (by decide) e_X10_takeText_177 ?_
  refine m_istore_n F (lv' := [(1, .int 0), (0, .ref c)]) e_X10_takeText_178 (by decide) rfl ?_
  refine Wm.lvsub (lv' := [(0, .ref c), (1, .int 0)]) ?_ [1, 0] rfl
  have oP10597 : OKP P10537 := by unfold OKP; omega
  exact lq_X10_takeText_179 F hQ hob hP  (192 - 0 + 1) 0 P10537 _ h10593 oP10597 (by unfold RT3; omega) (by omega) (Nat.lt_succ_self _)
set_option maxRecDepth 20000 in
theorem lq_X10_begins_142 {V : VX} {X : MX} {N : Nat} {σ : Mem} {c T Z u h : Nat} {P : NP} {L : Nat → LQ}   (F : Fx V X yX10_begins cX10_begins 4 none (rmd 3 0 0)) (hQ : Rt V X 0 0 N (fun r τ => ∃ L9, OKL P.n0 L9 ∧ HS V c (⟨T, Z, u, h, P, L9⟩ : RG) [0, 1, 2, 3, 4, 5, 6, 7, 8, 9, 10, 11, 12, 13, 14, 15, 16, 18, 19, 20, 21, 23] σ τ ∧ r = none)) (hob : OKB L) (hP : OKP P) (hp0 : P.n0 ≤ P.m0) (hp1 : P.n2 ≤ P.w2) {fuelO : Nat} (hO : ∀ (i : Nat) (L1 : Nat → LQ) (τ : Mem), HS V c (⟨T, Z, u, h, P, L1⟩ : RG) [0, 1, 2, 3, 4, 5, 6, 7, 8, 9, 10, 11, 12, 13, 14, 15, 16, 18, 19, 20, 21, 23] σ τ → OKL i L1 → (∀ l, l < 4 → (L1 l).1 = 0 ∧ (L1 l).2.2.1 = 0 ∧ (L1 l).2.2.2 = 0) ∧ i ≤ P.n0 → 4 - i < fuelO → Wm V X 4 N τ 0 0 96 [(0, .ref c), (1, .int (nI i))] []) : ∀ (fuel : Nat) (i : Nat) (k : Nat) (L1 : Nat → LQ) (τ : Mem), HS V c (⟨T, Z, u, h, P, L1⟩ : RG) [0, 1, 2, 3, 4, 5, 6, 7, 8, 9, 10, 11, 12, 13, 14, 15, 16, 18, 19, 20, 21, 23] σ τ → OKL (i + 1) L1 → i < P.n0 ∧ (∀ l, l < 4 → (L1 l).1 = 0 ∧ (L1 l).2.2.1 = 0 ∧ (L1 l).2.2.2 = 0) ∧ k ≤ 48 ∧ 4 - i ≤ fuelO → 48 - k < fuel → Wm V X 4 N τ 0 0 142 [(0, .ref c), (1, .int (nI i)), (2, .int (nI (160 * i))), (3, .int (nI k))] [] := by
  intro fuel
  induction fuel with
  | zero => intros; rename_i hm; exact absurd hm (Nat.not_lt_zero _)
  | succ fuel ih =>
    intro i k L1 τ h1 hok1 hi hm
    have hPP := hP
    unfold OKP at hPP
    refine m_iload_n F rfl e_X10_begins_142 ?_
    refine m_aload_n F rfl e_X10_begins_143 ?_
    refine r_get F e_X10_begins_144 fl_X10_22 h1 rfl (fun v hv f10598 => ?_)
    obtain rfl : v = .ref (c + 5) := hv
    refine m_iload_n F rfl e_X10_begins_147 ?_
    refine r_iald F (len := 8) (j := i) e_X10_begins_148 h1 (fun _ h => h) (by decide) (nI_clamp (by omega)) (vp_in_nI (by omega) (by decide)) (fun x10599 h10600 f10601 => ?_)
    obtain ⟨n10602, hn10602, rfl, pn10602, rn10602⟩ := h10600
    refine m_icmp_ge F e_X10_begins_149 (fun q149 => ?_) (fun q149 => ?_)
    · have c149 : k ≥ n10602 := (nI_leI (a := n10602) (b := k) (by omega) (by omega)).mp q149
      refine m_aload_n F rfl e_X10_begins_204 ?_
      refine r_get F e_X10_begins_205 fl_X10_31 h1 rfl (fun v hv f10603 => ?_)
      obtain rfl : v = .ref (c + 8) := hv
      refine m_iload_n F rfl e_X10_begins_208 ?_
      refine r_iald F (len := 8) (j := i) e_X10_begins_209 h1 (fun _ h => h) (by decide) (nI_clamp (by omega)) (vp_in_nI (by omega) (by decide)) (fun x10604 h10605 f10606 => ?_)
      refine m_if_ne F e_X10_begins_210 (fun q210 => ?_) (fun q210 => ?_)
      · refine m_aload_n F rfl e_X10_begins_218 ?_
        refine m_iload_n F rfl e_X10_begins_219 ?_
        refine m_iconst F (v := 1) (by decide) e_X10_begins_220 ?_
        refine m_aload_n F rfl e_X10_begins_221 ?_
        refine r_getC F e_X10_begins_222 fl_X10_31 h1 (f10603) ?_
        refine m_iload_n F rfl e_X10_begins_225 ?_
        refine r_iald F (len := 8) (j := i) e_X10_begins_226 h1 (fun _ h => h) (by decide) (nI_clamp (by omega)) (vp_in_nI (by omega) (by decide)) (fun x10607 h10608 f10609 => ?_)
        obtain rfl := Option.some.inj ((f10609).symm.trans (f10606))
        refine m_i2l F e_X10_begins_227 ?_
        refine Wm.topl (fun x10610 _ => ?_)
        refine r_callV F e_X10_begins_228 (q_X10_rateFor (x_l X) V c T Z u h P L1 _ _ i 1 x10610 h1.1 (hok1.b) hP (by omega) (by omega) (by first | omega | assumption | decide)) cb_X10_rateFor ml_X10_226 im_X10_rateFor se_X10_rateFor h1 rfl rfl (rest := []) rfl (Nat.le_of_ble_eq_true rfl) ⟨Nat.le_of_ble_eq_true rfl, Nat.le_of_ble_eq_true rfl⟩ ⟨Nat.le_of_ble_eq_true rfl, Nat.le_of_ble_eq_true rfl⟩ (fun r σ10611 hp => ?_)
        obtain ⟨h10612, c10614⟩ := hp
        have h10613 := HS.trans h1 h10612 (by decide)
        rcases c10614 with rfl | ⟨n10615, hn10615, rfl⟩
        · refine m_istore_n F (lv' := [(3, .int (-2)), (0, .ref c), (1, .int (nI i)), (2, .int (nI (160 * i)))]) e_X10_begins_231 (by decide) rfl ?_
          refine m_aload_n F rfl e_X10_begins_232 ?_
          refine r_get F e_X10_begins_233 fl_X10_75 h10613 rfl (fun v hv f10616 => ?_)
          obtain rfl : v = .ref (c + 21) := hv
          refine m_iload_n F rfl e_X10_begins_236 ?_
          refine m_iload_n F rfl e_X10_begins_237 ?_
          refine m_bipush F (v := (-2)) (by decide) e_X10_begins_238 ?_
          refine m_icmp_eq F e_X10_begins_240 (fun _ => ?_) (fun q => absurd (by decide) q)
          refine m_iconst F (v := 0) (by decide) e_X10_begins_247 ?_
          refine r_zast F (j := i) (m := 0) e_X10_begins_248 h10613 (nI_clamp (by omega)) (vp_in_nI (by omega) (by decide)) (by omega) (by decide) (fun σ10617 h10618 g10619 ezσ10617 => ?_)
          refine m_aload_n F rfl e_X10_begins_249 ?_
          refine r_getC F e_X10_begins_250 fl_X10_75 h10618 ((fld_eq (g10619 _ (by omega))).trans f10616) ?_
          refine m_iload_n F rfl e_X10_begins_253 ?_
          refine r_zald F (j := i) e_X10_begins_254 h10618 (nI_clamp (by omega)) (vp_in_nI (by omega) (by decide)) (fun n10620 hn10620 f10621 => ?_)
          have gn10620 := nI_inj (by omega) (by omega) (Option.some.inj ((f10621).symm.trans (ezσ10617)))
          refine m_if_eq F e_X10_begins_255 (fun q255 => ?_) (fun q255 => ?_)
          · have c255 : n10620 = 0 := (nI_eq (a := n10620) (b := 0) (by omega) (by omega)).mp q255
            refine m_iinc F (v := nI (i + 1)) (lv' := [(1, .int (nI (i + 1))), (3, .int (-2)), (0, .ref c), (2, .int (nI (160 * i)))]) e_X10_begins_268 rfl (nI_add i 1) (by decide) rfl ?_
            refine m_goto F e_X10_begins_271 ?_
            refine Wm.lvsub (lv' := [(0, .ref c), (1, .int (nI (i + 1)))]) ?_ [2, 0] rfl
            exact hO (i + 1) L1 _ h10618 hok1 ⟨hi.2.1, by omega⟩ (by omega)
          · have c255 : n10620 ≠ 0 := by have hh := mt (nI_eq (a := n10620) (b := 0) (by omega) (by omega)).mpr q255; omega
            exfalso; omega
        · refine m_istore_n F (lv' := [(3, .int (nI n10615)), (0, .ref c), (1, .int (nI i)), (2, .int (nI (160 * i)))]) e_X10_begins_231 (by decide) rfl ?_
          refine m_aload_n F rfl e_X10_begins_232 ?_
          refine r_get F e_X10_begins_233 fl_X10_75 h10613 rfl (fun v hv f10622 => ?_)
          obtain rfl : v = .ref (c + 21) := hv
          refine m_iload_n F rfl e_X10_begins_236 ?_
          refine m_iload_n F rfl e_X10_begins_237 ?_
          refine m_bipush F (v := (-2)) (by decide) e_X10_begins_238 ?_
          refine m_icmp_eq F e_X10_begins_240 (fun q240 => ?_) (fun q240 => ?_)
          · refine m_iconst F (v := 0) (by decide) e_X10_begins_247 ?_
            refine r_zast F (j := i) (m := 0) e_X10_begins_248 h10613 (nI_clamp (by omega)) (vp_in_nI (by omega) (by decide)) (by omega) (by decide) (fun σ10623 h10624 g10625 ezσ10623 => ?_)
            refine m_aload_n F rfl e_X10_begins_249 ?_
            refine r_getC F e_X10_begins_250 fl_X10_75 h10624 ((fld_eq (g10625 _ (by omega))).trans f10622) ?_
            refine m_iload_n F rfl e_X10_begins_253 ?_
            refine r_zald F (j := i) e_X10_begins_254 h10624 (nI_clamp (by omega)) (vp_in_nI (by omega) (by decide)) (fun n10626 hn10626 f10627 => ?_)
            have gn10626 := nI_inj (by omega) (by omega) (Option.some.inj ((f10627).symm.trans (ezσ10623)))
            refine m_if_eq F e_X10_begins_255 (fun q255 => ?_) (fun q255 => ?_)
            · have c255 : n10626 = 0 := (nI_eq (a := n10626) (b := 0) (by omega) (by omega)).mp q255
              refine m_iinc F (v := nI (i + 1)) (lv' := [(1, .int (nI (i + 1))), (3, .int (nI n10615)), (0, .ref c), (2, .int (nI (160 * i)))]) e_X10_begins_268 rfl (nI_add i 1) (by decide) rfl ?_
              refine m_goto F e_X10_begins_271 ?_
              refine Wm.lvsub (lv' := [(0, .ref c), (1, .int (nI (i + 1)))]) ?_ [2, 0] rfl
              exact hO (i + 1) L1 _ h10624 hok1 ⟨hi.2.1, by omega⟩ (by omega)
            · have c255 : n10626 ≠ 0 := by have hh := mt (nI_eq (a := n10626) (b := 0) (by omega) (by omega)).mpr q255; omega
              refine m_aload_n F rfl e_X10_begins_258 ?_
              refine r_get F e_X10_begins_259 fl_X10_59 h10624 rfl (fun v hv f10628 => ?_)
              obtain rfl : v = .ref (c + 16) := hv
              refine m_iload_n F rfl e_X10_begins_262 ?_
              refine m_iconst F (v := 2) (by decide) e_X10_begins_263 ?_
              refine m_iadd F e_X10_begins_264 ?_
              refine Wm.topE (w := nI (160 * i + 2)) (nI_add (160 * i) 2) ?_
              refine m_iload_n F rfl e_X10_begins_265 ?_
              refine m_i2l F e_X10_begins_266 ?_
              refine Wm.toplE (w := lN n10615) (nI_l (by omega)) ?_
              refine r_sst F (g' := (⟨T, Z, u, h, P, L1⟩ : RG)) (j := 160 * i + 2) e_X10_begins_267 h10624 (by decide) (nI_clamp (by omega)) (vp_in_nI (by omega) (by decide)) (fun f q => EJ_same ((EJ_l (l := i) (r := 2) (by omega) (by decide)).mpr ⟨n10615, by omega, rfl⟩) q) (fun _ _ _ q => q) (fun σ10629 h10630 g10631 => ?_)
              refine m_iinc F (v := nI (i + 1)) (lv' := [(1, .int (nI (i + 1))), (3, .int (nI n10615)), (0, .ref c), (2, .int (nI (160 * i)))]) e_X10_begins_268 rfl (nI_add i 1) (by decide) rfl ?_
              refine m_goto F e_X10_begins_271 ?_
              refine Wm.lvsub (lv' := [(0, .ref c), (1, .int (nI (i + 1)))]) ?_ [2, 0] rfl
              exact hO (i + 1) L1 _ h10630 hok1 ⟨hi.2.1, by omega⟩ (by omega)
          · refine m_iconst F (v := 1) (by decide) e_X10_begins_243 ?_
            refine m_goto F e_X10_begins_244 ?_
            refine r_zast F (j := i) (m := 1) e_X10_begins_248 h10613 (nI_clamp (by omega)) (vp_in_nI (by omega) (by decide)) (by omega) (by decide) (fun σ10632 h10633 g10634 ezσ10632 => ?_)
            refine m_aload_n F rfl e_X10_begins_249 ?_
            refine r_getC F e_X10_begins_250 fl_X10_75 h10633 ((fld_eq (g10634 _ (by omega))).trans f10622) ?_
            refine m_iload_n F rfl e_X10_begins_253 ?_
            refine r_zald F (j := i) e_X10_begins_254 h10633 (nI_clamp (by omega)) (vp_in_nI (by omega) (by decide)) (fun n10635 hn10635 f10636 => ?_)
            have gn10635 := nI_inj (by omega) (by omega) (Option.some.inj ((f10636).symm.trans (ezσ10632)))
            refine m_if_eq F e_X10_begins_255 (fun q255 => ?_) (fun q255 => ?_)
            · have c255 : n10635 = 0 := (nI_eq (a := n10635) (b := 0) (by omega) (by omega)).mp q255
              refine m_iinc F (v := nI (i + 1)) (lv' := [(1, .int (nI (i + 1))), (3, .int (nI n10615)), (0, .ref c), (2, .int (nI (160 * i)))]) e_X10_begins_268 rfl (nI_add i 1) (by decide) rfl ?_
              refine m_goto F e_X10_begins_271 ?_
              refine Wm.lvsub (lv' := [(0, .ref c), (1, .int (nI (i + 1)))]) ?_ [2, 0] rfl
              exact hO (i + 1) L1 _ h10633 hok1 ⟨hi.2.1, by omega⟩ (by omega)
            · have c255 : n10635 ≠ 0 := by have hh := mt (nI_eq (a := n10635) (b := 0) (by omega) (by omega)).mpr q255; omega
              refine m_aload_n F rfl e_X10_begins_258 ?_
              refine r_get F e_X10_begins_259 fl_X10_59 h10633 rfl (fun v hv f10637 => ?_)
              obtain rfl : v = .ref (c + 16) := hv
              refine m_iload_n F rfl e_X10_begins_262 ?_
              refine m_iconst F (v := 2) (by decide) e_X10_begins_263 ?_
              refine m_iadd F e_X10_begins_264 ?_
              refine Wm.topE (w := nI (160 * i + 2)) (nI_add (160 * i) 2) ?_
              refine m_iload_n F rfl e_X10_begins_265 ?_
              refine m_i2l F e_X10_begins_266 ?_
              refine Wm.toplE (w := lN n10615) (nI_l (by omega)) ?_
              refine r_sst F (g' := (⟨T, Z, u, h, P, L1⟩ : RG)) (j := 160 * i + 2) e_X10_begins_267 h10633 (by decide) (nI_clamp (by omega)) (vp_in_nI (by omega) (by decide)) (fun f q => EJ_same ((EJ_l (l := i) (r := 2) (by omega) (by decide)).mpr ⟨n10615, by omega, rfl⟩) q) (fun _ _ _ q => q) (fun σ10638 h10639 g10640 => ?_)
              refine m_iinc F (v := nI (i + 1)) (lv' := [(1, .int (nI (i + 1))), (3, .int (nI n10615)), (0, .ref c), (2, .int (nI (160 * i)))]) e_X10_begins_268 rfl (nI_add i 1) (by decide) rfl ?_
              refine m_goto F e_X10_begins_271 ?_
              refine Wm.lvsub (lv' := [(0, .ref c), (1, .int (nI (i + 1)))]) ?_ [2, 0] rfl
              exact hO (i + 1) L1 _ h10639 hok1 ⟨hi.2.1, by omega⟩ (by omega)
      · subst q210
        refine m_bipush F (v := (-2)) (by decide) e_X10_begins_213 ?_
        refine m_goto F e_X10_begins_215 ?_
        refine m_istore_n F (lv' := [(3, .int (-2)), (0, .ref c), (1, .int (nI i)), (2, .int (nI (160 * i)))]) e_X10_begins_231 (by decide) rfl ?_
        refine m_aload_n F rfl e_X10_begins_232 ?_
        refine r_get F e_X10_begins_233 fl_X10_75 h1 rfl (fun v hv f10641 => ?_)
        obtain rfl : v = .ref (c + 21) := hv
        refine m_iload_n F rfl e_X10_begins_236 ?_
        refine m_iload_n F rfl e_X10_begins_237 ?_
        refine m_bipush F (v := (-2)) (by decide) e_X10_begins_238 ?_
        refine m_icmp_eq F e_X10_begins_240 (fun _ => ?_) (fun q => absurd (by decide) q)
        refine m_iconst F (v := 0) (by decide) e_X10_begins_247 ?_
        refine r_zast F (j := i) (m := 0) e_X10_begins_248 h1 (nI_clamp (by omega)) (vp_in_nI (by omega) (by decide)) (by omega) (by decide) (fun σ10642 h10643 g10644 ezσ10642 => ?_)
        refine m_aload_n F rfl e_X10_begins_249 ?_
        refine r_getC F e_X10_begins_250 fl_X10_75 h10643 ((fld_eq (g10644 _ (by omega))).trans f10641) ?_
        refine m_iload_n F rfl e_X10_begins_253 ?_
        refine r_zald F (j := i) e_X10_begins_254 h10643 (nI_clamp (by omega)) (vp_in_nI (by omega) (by decide)) (fun n10645 hn10645 f10646 => ?_)
        have gn10645 := nI_inj (by omega) (by omega) (Option.some.inj ((f10646).symm.trans (ezσ10642)))
        refine m_if_eq F e_X10_begins_255 (fun q255 => ?_) (fun q255 => ?_)
        · have c255 : n10645 = 0 := (nI_eq (a := n10645) (b := 0) (by omega) (by omega)).mp q255
          refine m_iinc F (v := nI (i + 1)) (lv' := [(1, .int (nI (i + 1))), (3, .int (-2)), (0, .ref c), (2, .int (nI (160 * i)))]) e_X10_begins_268 rfl (nI_add i 1) (by decide) rfl ?_
          refine m_goto F e_X10_begins_271 ?_
          refine Wm.lvsub (lv' := [(0, .ref c), (1, .int (nI (i + 1)))]) ?_ [2, 0] rfl
          exact hO (i + 1) L1 _ h10643 hok1 ⟨hi.2.1, by omega⟩ (by omega)
        · have c255 : n10645 ≠ 0 := by have hh := mt (nI_eq (a := n10645) (b := 0) (by omega) (by omega)).mpr q255; omega
          exfalso; omega
    · have c149 : k < n10602 := by have hh := mt (nI_leI (a := n10602) (b := k) (by omega) (by omega)).mpr q149; omega
      refine m_aload_n F rfl e_X10_begins_152 ?_
      refine r_get F e_X10_begins_153 fl_X10_59 h1 rfl (fun v hv f10647 => ?_)
      obtain rfl : v = .ref (c + 16) := hv
      refine m_iload_n F rfl e_X10_begins_156 ?_
      refine m_bipush F (v := 13) (by decide) e_X10_begins_157 ?_
      refine m_iadd F e_X10_begins_159 ?_
      refine Wm.topE (w := nI (160 * i + 13)) (nI_add (160 * i) 13) ?_
      refine m_iload_n F rfl e_X10_begins_160 ?_
      refine m_iadd F e_X10_begins_161 ?_
      refine Wm.topE (w := nI ((160 * i + 13) + k)) (nI_add (160 * i + 13) k) ?_
      refine m_aload_n F rfl e_X10_begins_162 ?_
      refine r_get F e_X10_begins_163 fl_X10_37 h1 rfl (fun v hv f10648 => ?_)
      obtain rfl : v = .ref (c + 10) := hv
      refine m_bipush F (v := 48) (by decide) e_X10_begins_166 ?_
      refine m_iload_n F rfl e_X10_begins_168 ?_
      refine m_imul F e_X10_begins_169 ?_
      refine Wm.topE (w := nI (48 * i)) (pk_mul 48 i) ?_
      refine m_iload_n F rfl e_X10_begins_170 ?_
      refine m_iadd F e_X10_begins_171 ?_
      refine Wm.topE (w := nI ((48 * i) + k)) (nI_add (48 * i) k) ?_
      refine r_iald F (len := 384) (j := (48 * i) + k) e_X10_begins_172 h1 (fun _ h => h) (by decide) (nI_clamp (by omega)) (vp_in_nI (by omega) (by decide)) (fun x10649 h10650 f10651 => ?_)
      refine m_i2l F e_X10_begins_173 ?_
      refine Wm.topl (fun x10652 _ => ?_)
      refine r_sst F (g' := (⟨T, Z, u, h, P, L1⟩ : RG)) (j := (160 * i + 13) + k) e_X10_begins_174 h1 (by decide) (nI_clamp (by omega)) (vp_in_nI (by omega) (by decide)) (fun f q => EJ_same (EJ_lw (l := i) (r := ((160 * i + 13) + k) - 160 * i) (by omega) (by omega) (by omega)) q) (fun _ _ _ q => q) (fun σ10653 h10654 g10655 => ?_)
      refine m_aload_n F rfl e_X10_begins_175 ?_
      refine r_getC F e_X10_begins_176 fl_X10_59 h10654 ((fld_eq (g10655 _ (by omega))).trans f10647) ?_
      refine m_iload_n F rfl e_X10_begins_179 ?_
      refine m_bipush F (v := 85) (by decide) e_X10_begins_180 ?_
      refine m_iadd F e_X10_begins_182 ?_
      refine Wm.topE (w := nI (160 * i + 85)) (nI_add (160 * i) 85) ?_
      refine m_iload_n F rfl e_X10_begins_183 ?_
      refine m_iadd F e_X10_begins_184 ?_
      refine Wm.topE (w := nI ((160 * i + 85) + k)) (nI_add (160 * i + 85) k) ?_
      refine m_aload_n F rfl e_X10_begins_185 ?_
      refine r_getC F e_X10_begins_186 fl_X10_37 h10654 ((fld_eq (g10655 _ (by omega))).trans f10648) ?_
      refine m_bipush F (v := 48) (by decide) e_X10_begins_189 ?_
      refine m_iload_n F rfl e_X10_begins_191 ?_
      refine m_imul F e_X10_begins_192 ?_
      refine Wm.topE (w := nI (48 * i)) (pk_mul 48 i) ?_
      refine m_iload_n F rfl e_X10_begins_193 ?_
      refine m_iadd F e_X10_begins_194 ?_
      refine Wm.topE (w := nI ((48 * i) + k)) (nI_add (48 * i) k) ?_
      refine r_iald F (len := 384) (j := (48 * i) + k) e_X10_begins_195 h10654 (fun _ h => h) (by decide) (nI_clamp (by omega)) (vp_in_nI (by omega) (by decide)) (fun x10656 h10657 f10658 => ?_)
      obtain rfl := Option.some.inj ((f10658).symm.trans ((elI_eq (g10655 _ (by omega))).trans f10651))
      refine m_i2l F e_X10_begins_196 ?_
      refine Wm.topl (fun x10659 _ => ?_)
      refine r_sst F (g' := (⟨T, Z, u, h, P, L1⟩ : RG)) (j := (160 * i + 85) + k) e_X10_begins_197 h10654 (by decide) (nI_clamp (by omega)) (vp_in_nI (by omega) (by decide)) (fun f q => EJ_same (EJ_lw (l := i) (r := ((160 * i + 85) + k) - 160 * i) (by omega) (by omega) (by omega)) q) (fun _ _ _ q => q) (fun σ10660 h10661 g10662 => ?_)
      refine m_iinc F (v := nI (k + 1)) (lv' := [(3, .int (nI (k + 1))), (0, .ref c), (1, .int (nI i)), (2, .int (nI (160 * i)))]) e_X10_begins_198 rfl (nI_add k 1) (by decide) rfl ?_
      refine m_goto F e_X10_begins_201 ?_
      refine Wm.lvsub (lv' := [(0, .ref c), (1, .int (nI i)), (2, .int (nI (160 * i))), (3, .int (nI (k + 1)))]) ?_ [1, 2, 3, 0] rfl
      exact ih i (k + 1) L1 _ h10661 hok1 ⟨by omega, hi.2.1, by omega, by omega⟩ (by omega)
set_option maxRecDepth 20000 in
theorem lq_X10_begins_96 {V : VX} {X : MX} {N : Nat} {σ : Mem} {c T Z u h : Nat} {P : NP} {L : Nat → LQ}   (F : Fx V X yX10_begins cX10_begins 4 none (rmd 3 0 0)) (hQ : Rt V X 0 0 N (fun r τ => ∃ L9, OKL P.n0 L9 ∧ HS V c (⟨T, Z, u, h, P, L9⟩ : RG) [0, 1, 2, 3, 4, 5, 6, 7, 8, 9, 10, 11, 12, 13, 14, 15, 16, 18, 19, 20, 21, 23] σ τ ∧ r = none)) (hob : OKB L) (hP : OKP P) (hp0 : P.n0 ≤ P.m0) (hp1 : P.n2 ≤ P.w2)  : ∀ (fuel : Nat) (i : Nat) (L1 : Nat → LQ) (τ : Mem), HS V c (⟨T, Z, u, h, P, L1⟩ : RG) [0, 1, 2, 3, 4, 5, 6, 7, 8, 9, 10, 11, 12, 13, 14, 15, 16, 18, 19, 20, 21, 23] σ τ → OKL i L1 → (∀ l, l < 4 → (L1 l).1 = 0 ∧ (L1 l).2.2.1 = 0 ∧ (L1 l).2.2.2 = 0) ∧ i ≤ P.n0 → 4 - i < fuel → Wm V X 4 N τ 0 0 96 [(0, .ref c), (1, .int (nI i))] [] := by
  intro fuel
  induction fuel with
  | zero => intros; rename_i hm; exact absurd hm (Nat.not_lt_zero _)
  | succ fuel ih =>
    intro i L1 τ h1 hok1 hi hm
    have hPP := hP
    unfold OKP at hPP
    refine m_iload_n F rfl e_X10_begins_96 ?_
    refine m_aload_n F rfl e_X10_begins_97 ?_
    refine r_callV F e_X10_begins_98 (q_X10_leases (x_l X) V c T Z u h P L1 _ _  h1.1 (hok1.b) hP ) cb_X10_leases ml_X10_221 im_X10_leases se_X10_leases h1 rfl rfl (rest := [.int (nI i)]) rfl (Nat.le_of_ble_eq_true rfl) ⟨Nat.le_of_ble_eq_true rfl, Nat.le_of_ble_eq_true rfl⟩ ⟨Nat.le_of_ble_eq_true rfl, Nat.le_of_ble_eq_true rfl⟩ (fun r σ10663 hp => ?_)
    obtain ⟨h10664, rfl⟩ := hp
    have h10665 := HS.trans h1 h10664 (by decide)
    refine m_icmp_ge F e_X10_begins_101 (fun q101 => ?_) (fun q101 => ?_)
    · have c101 : i ≥ P.n0 := (nI_leI (a := P.n0) (b := i) (by omega) (by omega)).mp q101
      have okf : OKL P.n0 L1 := by rw [show P.n0 = i by omega]; exact hok1
      have okf : OKL P.n0 L1 := by rw [show P.n0 = i by omega]; exact hok1
      exact m_vret F hQ e_X10_begins_274 (⟨L1, okf, h10665, rfl⟩)
    · have c101 : i < P.n0 := by have hh := mt (nI_leI (a := P.n0) (b := i) (by omega) (by omega)).mpr q101; omega
      refine m_sipush F (v := 160) (by decide) e_X10_begins_104 ?_
      refine m_iload_n F rfl e_X10_begins_107 ?_
      refine m_imul F e_X10_begins_108 ?_
      refine Wm.topE (w := nI (160 * i)) (pk_mul 160 i) ?_
      refine m_istore_n F (lv' := [(2, .int (nI (160 * i))), (0, .ref c), (1, .int (nI i))]) e_X10_begins_109 (by decide) rfl ?_
      refine m_aload_n F rfl e_X10_begins_110 ?_
      refine r_get F e_X10_begins_111 fl_X10_59 h10665 rfl (fun v hv f10666 => ?_)
      obtain rfl : v = .ref (c + 16) := hv
      refine m_iload_n F rfl e_X10_begins_114 ?_
      refine m_iconst F (v := 1) (by decide) e_X10_begins_115 ?_
      refine m_iadd F e_X10_begins_116 ?_
      refine Wm.topE (w := nI (160 * i + 1)) (nI_add (160 * i) 1) ?_
      refine m_aload_n F rfl e_X10_begins_117 ?_
      refine r_get F e_X10_begins_118 fl_X10_22 h10665 rfl (fun v hv f10667 => ?_)
      obtain rfl : v = .ref (c + 5) := hv
      refine m_iload_n F rfl e_X10_begins_121 ?_
      refine r_iald F (len := 8) (j := i) e_X10_begins_122 h10665 (fun _ h => h) (by decide) (nI_clamp (by omega)) (vp_in_nI (by omega) (by decide)) (fun x10668 h10669 f10670 => ?_)
      obtain ⟨n10671, hn10671, rfl, pn10671, rn10671⟩ := h10669
      refine m_i2l F e_X10_begins_123 ?_
      refine Wm.toplE (w := lN n10671) (nI_l (by omega)) ?_
      refine r_sst F (g' := (⟨T, Z, u, h, P, (updL L1 i ((L1 i).1, n10671, (L1 i).2.2.1, (L1 i).2.2.2))⟩ : RG)) (j := 160 * i + 1) e_X10_begins_124 h10665 (by decide) (nI_clamp (by omega)) (vp_in_nI (by omega) (by decide)) (fun f q => EJ_up (l := i) (r := 1) (by omega) (by decide) q rfl (by intro r' h1 h2 y hy; revert hy; unfold EL; split <;> simp_all)) CR.row (fun σ10672 h10673 g10674 => ?_)
      obtain ⟨L10675, eL10675⟩ : ∃ L9, L9 = (updL L1 i ((L1 i).1, n10671, (L1 i).2.2.1, (L1 i).2.2.2)) := ⟨_, rfl⟩
      rw [← eL10675] at h10673
      have fL10675 : L10675 i = ((L1 i).1, n10671, (L1 i).2.2.1, (L1 i).2.2.2) := by rw [eL10675]; exact if_pos rfl
      have fL106750 : (L10675 i).1 = (L1 i).1 := by rw [fL10675]
      have fL106751 : (L10675 i).2.1 = n10671 := by rw [fL10675]
      have fL106752 : (L10675 i).2.2.1 = (L1 i).2.2.1 := by rw [fL10675]
      have fL106753 : (L10675 i).2.2.2 = (L1 i).2.2.2 := by rw [fL10675]
      have oL10675 : ∀ i9, i9 ≠ i → L10675 i9 = L1 i9 := fun i9 hi9 => by rw [eL10675]; exact if_neg hi9
      have pL10675 : (L10675 4).1 = (L1 4).1 := by rw [oL10675 4 (by omega)]
      refine m_aload_n F rfl e_X10_begins_125 ?_
      refine r_getC F e_X10_begins_126 fl_X10_59 h10673 ((fld_eq (g10674 _ (by omega))).trans f10666) ?_
      refine m_iload_n F rfl e_X10_begins_129 ?_
      refine m_iconst F (v := 2) (by decide) e_X10_begins_130 ?_
      refine m_iadd F e_X10_begins_131 ?_
      refine Wm.topE (w := nI (160 * i + 2)) (nI_add (160 * i) 2) ?_
      refine m_aload_n F rfl e_X10_begins_132 ?_
      refine r_get F e_X10_begins_133 fl_X10_25 h10673 rfl (fun v hv f10676 => ?_)
      obtain rfl : v = .ref (c + 6) := hv
      refine m_iload_n F rfl e_X10_begins_136 ?_
      refine r_iald F (len := 8) (j := i) e_X10_begins_137 h10673 (fun _ h => h) (by decide) (nI_clamp (by omega)) (vp_in_nI (by omega) (by decide)) (fun x10677 h10678 f10679 => ?_)
      obtain ⟨n10680, hn10680, rfl⟩ := h10678
      refine m_i2l F e_X10_begins_138 ?_
      refine Wm.toplE (w := lN n10680) (nI_l (by omega)) ?_
      refine r_sst F (g' := (⟨T, Z, u, h, P, L10675⟩ : RG)) (j := 160 * i + 2) e_X10_begins_139 h10673 (by decide) (nI_clamp (by omega)) (vp_in_nI (by omega) (by decide)) (fun f q => EJ_same ((EJ_l (l := i) (r := 2) (by omega) (by decide)).mpr ⟨n10680, by omega, rfl⟩) q) (fun _ _ _ q => q) (fun σ10681 h10682 g10683 => ?_)
      refine m_iconst F (v := 0) (by decide) e_X10_begins_140 ?_
      refine m_istore_n F (lv' := [(3, .int 0), (2, .int (nI (160 * i))), (0, .ref c), (1, .int (nI i))]) e_X10_begins_141 (by decide) rfl ?_
      have hp9 : 1 ≤ n10671 := pn10671 (by omega) (show i < P.m0 by omega)
      have h9a := hok1.2 i (by omega)
      have h9b := hi.1 i (by omega)
      have okx : OKL (i + 1) L10675 := OKL.updS hok1 (by omega) (fun i9 hi9 => oL10675 i9 hi9) (by omega)
      have hz9 : ∀ l, l < 4 → (L10675 l).1 = 0 ∧ (L10675 l).2.2.1 = 0 ∧ (L10675 l).2.2.2 = 0 := by
        intro l hl
        by_cases e : l = i
        · subst e; omega
        · rw [oL10675 l e]; exact hi.1 l hl
      refine Wm.lvsub (lv' := [(0, .ref c), (1, .int (nI i)), (2, .int (nI (160 * i))), (3, .int 0)]) ?_ [2, 3, 1, 0] rfl
      exact lq_X10_begins_142 F hQ hob hP hp0 hp1 ih (48 - 0 + 1) i 0 L10675 _ h10682 okx ⟨by omega, hz9, by omega, by omega⟩ (Nat.lt_succ_self _)
set_option maxRecDepth 20000 in
theorem bg_45 {V : VX} {X : MX} {N : Nat} {σ : Mem} {c T Z u h : Nat} {P : NP} {L : Nat → LQ} (F : Fx V X yX10_begins cX10_begins 4 none (rmd 3 0 0)) (hQ : Rt V X 0 0 N (fun r τ => ∃ L9, OKL P.n0 L9 ∧ HS V c (⟨T, Z, u, h, P, L9⟩ : RG) [0, 1, 2, 3, 4, 5, 6, 7, 8, 9, 10, 11, 12, 13, 14, 15, 16, 18, 19, 20, 21, 23] σ τ ∧ r = none)) (h0 : HR V c ⟨T, Z, u, h, P, L⟩ σ) (hob : OKB L) (hP : OKP P) (hp0 : P.n0 ≤ P.m0) (hp1 : P.n2 ≤ P.w2) {fs : List Value} {fN fA fB : Nat → Int32} (e1 : σ c = some (ob 8 fs)) (e27 : fs[27]? = some (.ref (c + 16))) (e3 : fs[3]? = some (.ref (c + 2))) (e12 : fs[12]? = some (.ref (c + 11))) (e13 : fs[13]? = some (.ref (c + 12))) (eN : σ (c + 2) = some (aI V 10 fN)) (tN : fN 2 = nI P.n2) (eA : σ (c + 11) = some (aI V 16 fA)) (tA : ∀ i, i < 16 → bN 99 (fA i)) (eB : σ (c + 12) = some (aI V 16 fB)) (tB : ∀ i, i < 16 → EI P 13 i (fB i)) {fuelO : Nat} (hO : ∀ (p : Nat) (f : Nat → Int64) (τ : Mem), upto c 16 (aJ V 1113 f) σ τ → PZ p f → p ≤ 100 → 100 - p < fuelO → Wm V X 4 N τ 0 0 24 [(1, .int (nI p)), (0, .ref c)] []) : ∀ (fuel : Nat) (k p : Nat) (f : Nat → Int64) (τ : Mem), upto c 16 (aJ V 1113 f) σ τ → PZ (p + 1) f → p < 100 → 100 - p ≤ fuelO → k ≤ 8 → 8 - k < fuel → Wm V X 4 N τ 0 0 45 [(2, .int (nI k)), (1, .int (nI p)), (0, .ref c)] [] := by
  intro fuel
  induction fuel with
  | zero => intros; rename_i hm; exact absurd hm (Nat.not_lt_zero _)
  | succ fuel ih =>
    intro k p f τ hτ hz hp hf hk hm
    have hPP := hP
    unfold OKP at hPP
    refine m_iload_n F rfl e_X10_begins_45 ?_
    refine m_aload_n F rfl e_X10_begins_46 ?_
    refine m_get F e_X10_begins_47 fl_X10_13 ((hτ.2 c (by omega)).trans e1) e3 ?_
    refine m_iconst F (v := 2) (by decide) e_X10_begins_50 ?_
    refine m_iald F e_X10_begins_51 ((hτ.2 (c + 2) (by omega)).trans eN) (j := 2) (by decide) (by unfold vp_in; decide) ?_
    refine Wm.topE (w := nI P.n2) tN ?_
    refine m_icmp_ge F e_X10_begins_52 (fun q52 => ?_) (fun q52 => ?_)
    · have c52 : k ≥ P.n2 := (nI_leI (a := P.n2) (b := k) (by omega) (by omega)).mp q52
      refine m_iinc F (v := nI (p + 1)) (lv' := [(1, .int (nI (p + 1))), (2, .int (nI k)), (0, .ref c)]) e_X10_begins_88 rfl (nI_add p 1) (by decide) rfl ?_
      refine m_goto F e_X10_begins_91 ?_
      refine Wm.lvsub (lv' := [(1, .int (nI (p + 1))), (0, .ref c)]) ?_ [0, 2] rfl
      exact hO (p + 1) _ _ hτ hz (by omega) (by omega)
    · have c52 : k < P.n2 := by have hh := mt (nI_leI (a := P.n2) (b := k) (by omega) (by omega)).mpr q52; omega
      refine m_aload_n F rfl e_X10_begins_55 ?_
      refine m_get F e_X10_begins_56 fl_X10_40 ((hτ.2 c (by omega)).trans e1) e12 ?_
      refine m_iload_n F rfl e_X10_begins_59 ?_
      refine m_iald F e_X10_begins_60 ((hτ.2 (c + 11) (by omega)).trans eA) (j := k) (nI_clamp (by omega)) (vp_in_nI (by omega) (by decide)) ?_
      obtain ⟨na, ha, ea⟩ := tA k (by omega)
      refine Wm.topE (w := nI na) ea ?_
      refine m_iload_n F rfl e_X10_begins_61 ?_
      refine m_icmp_gt F e_X10_begins_62 (fun q62 => ?_) (fun q62 => ?_)
      · have c62 : na > p := (nI_ltI (a := p) (b := na) (by omega) (by omega)).mp q62
        refine m_iinc F (v := nI (k + 1)) (lv' := [(2, .int (nI (k + 1))), (1, .int (nI p)), (0, .ref c)]) e_X10_begins_82 rfl (nI_add k 1) (by decide) rfl ?_
        refine m_goto F e_X10_begins_85 ?_
        exact ih (k + 1) p _ _ hτ hz hp hf (by omega) (by omega)
      · have c62 : na ≤ p := by have hh := mt (nI_ltI (a := p) (b := na) (by omega) (by omega)).mpr q62; omega
        refine m_aload_n F rfl e_X10_begins_65 ?_
        refine m_get F e_X10_begins_66 fl_X10_59 ((hτ.2 c (by omega)).trans e1) e27 ?_
        refine m_sipush F (v := 644) (by decide) e_X10_begins_69 ?_
        refine m_iload_n F rfl e_X10_begins_72 ?_
        refine m_iadd F e_X10_begins_73 ?_
        refine Wm.topE (w := nI (644 + p)) (nI_add 644 p) ?_
        refine m_aload_n F rfl e_X10_begins_74 ?_
        refine m_get F e_X10_begins_75 fl_X10_43 ((hτ.2 c (by omega)).trans e1) e13 ?_
        refine m_iload_n F rfl e_X10_begins_78 ?_
        refine m_iald F e_X10_begins_79 ((hτ.2 (c + 12) (by omega)).trans eB) (j := k) (nI_clamp (by omega)) (vp_in_nI (by omega) (by decide)) ?_
        obtain ⟨nb, hb, eb, pb, rb⟩ := tB k (by omega)
        have hb9 := pb (by omega) (show k < P.w2 by omega)
        refine Wm.topE (w := nI nb) eb ?_
        refine m_i2l F e_X10_begins_80 ?_
        refine Wm.toplE (w := lN nb) (nI_l (by omega)) ?_
        refine m_last F e_X10_begins_81 hτ.1 (j := 644 + p) (nI_clamp (by omega)) (vp_in_nI (by omega) (by decide)) rfl rfl ?_
        have hτ2 := va_upto (e' := aJ V 1113 (vp_updL f (644 + p) (lN nb))) hτ
        refine m_iinc F (v := nI (k + 1)) (lv' := [(2, .int (nI (k + 1))), (1, .int (nI p)), (0, .ref c)]) e_X10_begins_82 rfl (nI_add k 1) (by decide) rfl ?_
        refine m_goto F e_X10_begins_85 ?_
        exact ih (k + 1) p _ _ hτ2 (PZ.put2 hz (by omega) ⟨by omega, by omega⟩) hp hf (by omega) (by omega)
set_option maxRecDepth 20000 in
theorem bg_24 {V : VX} {X : MX} {N : Nat} {σ : Mem} {c T Z u h : Nat} {P : NP} {L : Nat → LQ} (F : Fx V X yX10_begins cX10_begins 4 none (rmd 3 0 0)) (hQ : Rt V X 0 0 N (fun r τ => ∃ L9, OKL P.n0 L9 ∧ HS V c (⟨T, Z, u, h, P, L9⟩ : RG) [0, 1, 2, 3, 4, 5, 6, 7, 8, 9, 10, 11, 12, 13, 14, 15, 16, 18, 19, 20, 21, 23] σ τ ∧ r = none)) (h0 : HR V c ⟨T, Z, u, h, P, L⟩ σ) (hob : OKB L) (hP : OKP P) (hp0 : P.n0 ≤ P.m0) (hp1 : P.n2 ≤ P.w2) {fs : List Value} {fN fA fB : Nat → Int32} (e1 : σ c = some (ob 8 fs)) (e27 : fs[27]? = some (.ref (c + 16))) (e3 : fs[3]? = some (.ref (c + 2))) (e12 : fs[12]? = some (.ref (c + 11))) (e13 : fs[13]? = some (.ref (c + 12))) (eN : σ (c + 2) = some (aI V 10 fN)) (tN : fN 2 = nI P.n2) (eA : σ (c + 11) = some (aI V 16 fA)) (tA : ∀ i, i < 16 → bN 99 (fA i)) (eB : σ (c + 12) = some (aI V 16 fB)) (tB : ∀ i, i < 16 → EI P 13 i (fB i))  : ∀ (fuel : Nat) (p : Nat) (f : Nat → Int64) (τ : Mem), upto c 16 (aJ V 1113 f) σ τ → PZ p f → p ≤ 100 → 100 - p < fuel → Wm V X 4 N τ 0 0 24 [(1, .int (nI p)), (0, .ref c)] [] := by
  intro fuel
  induction fuel with
  | zero => intros; rename_i hm; exact absurd hm (Nat.not_lt_zero _)
  | succ fuel ih =>
    intro p f τ hτ hz hp hm
    have hPP := hP
    unfold OKP at hPP
    refine m_iload_n F rfl e_X10_begins_24 ?_
    refine m_bipush F (v := 99) (by decide) e_X10_begins_25 ?_
    refine m_icmp_gt F e_X10_begins_27 (fun q27 => ?_) (fun q27 => ?_)
    · have c27 : p > 99 := (nI_ltI (a := 99) (b := p) (by omega) (by omega)).mp q27
      refine m_iconst F (v := 0) (by decide) e_X10_begins_94 ?_
      refine m_istore_n F (lv' := [(1, .int 0), (0, .ref c)]) e_X10_begins_95 (by decide) rfl ?_
      refine Wm.lvsub (lv' := [(0, .ref c), (1, .int 0)]) ?_ [1, 0] rfl
      have hpz : PZ 100 f := by rw [show 100 = p by omega]; exact hz
      have h1 : HS V c ⟨T, Z, u, h, P, L0⟩ [0, 1, 2, 3, 4, 5, 6, 7, 8, 9, 10, 11, 12, 13, 14, 15, 16, 18, 19, 20, 21, 23] σ τ := HS.cp (k := 16) (HS.start h0) hτ (by decide) (by decide) ⟨_, rfl, PZ.typed hpz⟩ CR.row
      exact lq_X10_begins_96 F hQ hob hP hp0 hp1 5 0 L0 _ h1 OKL.zero ⟨fun _ _ => ⟨rfl, rfl, rfl⟩, by omega⟩ (by omega)
    · have c27 : p ≤ 99 := by have hh := mt (nI_ltI (a := 99) (b := p) (by omega) (by omega)).mpr q27; omega
      refine m_aload_n F rfl e_X10_begins_30 ?_
      refine m_get F e_X10_begins_31 fl_X10_59 ((hτ.2 c (by omega)).trans e1) e27 ?_
      refine m_sipush F (v := 644) (by decide) e_X10_begins_34 ?_
      refine m_iload_n F rfl e_X10_begins_37 ?_
      refine m_iadd F e_X10_begins_38 ?_
      refine Wm.topE (w := nI (644 + p)) (nI_add 644 p) ?_
      refine m_ldc2 F kc_X10_224 e_X10_begins_39 ?_
      refine m_last F e_X10_begins_42 hτ.1 (j := 644 + p) (nI_clamp (by omega)) (vp_in_nI (by omega) (by decide)) rfl rfl ?_
      have hτ2 := va_upto (e' := aJ V 1113 (vp_updL f (644 + p) 1000)) hτ
      refine m_iconst F (v := 0) (by decide) e_X10_begins_43 ?_
      refine m_istore_n F (lv' := [(2, .int 0), (1, .int (nI p)), (0, .ref c)]) e_X10_begins_44 (by decide) rfl ?_
      exact bg_45 F hQ h0 hob hP hp0 hp1 e1 e27 e3 e12 e13 eN tN eA tA eB tB (fun p f τ => ih p f τ) 9 0 p _ _ hτ2 (PZ.put (m := 1000) hz (by omega) ⟨by omega, by omega⟩) (by omega) (by omega) (by omega) (by omega)
set_option maxRecDepth 20000 in
theorem bg_2 {V : VX} {X : MX} {N : Nat} {σ : Mem} {c T Z u h : Nat} {P : NP} {L : Nat → LQ} (F : Fx V X yX10_begins cX10_begins 4 none (rmd 3 0 0)) (hQ : Rt V X 0 0 N (fun r τ => ∃ L9, OKL P.n0 L9 ∧ HS V c (⟨T, Z, u, h, P, L9⟩ : RG) [0, 1, 2, 3, 4, 5, 6, 7, 8, 9, 10, 11, 12, 13, 14, 15, 16, 18, 19, 20, 21, 23] σ τ ∧ r = none)) (h0 : HR V c ⟨T, Z, u, h, P, L⟩ σ) (hob : OKB L) (hP : OKP P) (hp0 : P.n0 ≤ P.m0) (hp1 : P.n2 ≤ P.w2) {fs : List Value} {fN fA fB : Nat → Int32} (e1 : σ c = some (ob 8 fs)) (e27 : fs[27]? = some (.ref (c + 16))) (e3 : fs[3]? = some (.ref (c + 2))) (e12 : fs[12]? = some (.ref (c + 11))) (e13 : fs[13]? = some (.ref (c + 12))) (eN : σ (c + 2) = some (aI V 10 fN)) (tN : fN 2 = nI P.n2) (eA : σ (c + 11) = some (aI V 16 fA)) (tA : ∀ i, i < 16 → bN 99 (fA i)) (eB : σ (c + 12) = some (aI V 16 fB)) (tB : ∀ i, i < 16 → EI P 13 i (fB i))  : ∀ (fuel : Nat) (k : Nat) (f : Nat → Int64) (τ : Mem), upto c 16 (aJ V 1113 f) σ τ → ZF k f → k ≤ 1113 → 1113 - k < fuel → Wm V X 4 N τ 0 0 2 [(1, .int (nI k)), (0, .ref c)] [] := by
  intro fuel
  induction fuel with
  | zero => intros; rename_i hm; exact absurd hm (Nat.not_lt_zero _)
  | succ fuel ih =>
    intro k f τ hτ hz hk hm
    have hPP := hP
    unfold OKP at hPP
    refine m_iload_n F rfl e_X10_begins_2 ?_
    refine m_sipush F (v := 1113) (by decide) e_X10_begins_3 ?_
    refine m_icmp_ge F e_X10_begins_6 (fun q6 => ?_) (fun q6 => ?_)
    · have c6 : k ≥ 1113 := (nI_leI (a := 1113) (b := k) (by omega) (by omega)).mp q6
      refine m_iconst F (v := 0) (by decide) e_X10_begins_22 ?_
      refine m_istore_n F (lv' := [(1, .int 0), (0, .ref c)]) e_X10_begins_23 (by decide) rfl ?_
      exact bg_24 F hQ h0 hob hP hp0 hp1 e1 e27 e3 e12 e13 eN tN eA tA eB tB 101 0 _ _ hτ (PZ.zero (by rw [show 1113 = k by omega]; exact hz)) (by omega) (by omega)
    · have c6 : k < 1113 := by have hh := mt (nI_leI (a := 1113) (b := k) (by omega) (by omega)).mpr q6; omega
      refine m_aload_n F rfl e_X10_begins_9 ?_
      refine m_get F e_X10_begins_10 fl_X10_59 ((hτ.2 c (by omega)).trans e1) e27 ?_
      refine m_iload_n F rfl e_X10_begins_13 ?_
      refine m_lconst F (v := 0) (by decide) e_X10_begins_14 ?_
      refine m_last F e_X10_begins_15 hτ.1 (j := k) (nI_clamp (by omega)) (vp_in_nI (by omega) (by decide)) rfl rfl ?_
      have hτ2 := va_upto (e' := aJ V 1113 (vp_updL f (k) 0)) hτ
      refine m_iinc F (v := nI (k + 1)) (lv' := [(1, .int (nI (k + 1))), (0, .ref c)]) e_X10_begins_16 rfl (nI_add k 1) (by decide) rfl ?_
      refine m_goto F e_X10_begins_19 ?_
      exact ih (k + 1) _ _ hτ2 (ZF.put hz) (by omega) (by omega)
set_option maxRecDepth 20000 in
theorem bg_start {V : VX} {X : MX} {N : Nat} {σ : Mem} {c T Z u h : Nat} {P : NP} {L : Nat → LQ} (F : Fx V X yX10_begins cX10_begins 4 none (rmd 3 0 0)) (hQ : Rt V X 0 0 N (fun r τ => ∃ L9, OKL P.n0 L9 ∧ HS V c (⟨T, Z, u, h, P, L9⟩ : RG) [0, 1, 2, 3, 4, 5, 6, 7, 8, 9, 10, 11, 12, 13, 14, 15, 16, 18, 19, 20, 21, 23] σ τ ∧ r = none)) (h0 : HR V c ⟨T, Z, u, h, P, L⟩ σ) (hob : OKB L) (hP : OKP P) (hp0 : P.n0 ≤ P.m0) (hp1 : P.n2 ≤ P.w2)  : Wm V X 4 N σ 0 0 0 [(0, .ref c)] [] := by
  refine m_iconst F (v := 0) (by decide) e_X10_begins_0 ?_
  refine m_istore_n F (lv' := [(1, .int 0), (0, .ref c)]) e_X10_begins_1 (by decide) rfl ?_
  obtain ⟨fs, e1, ty⟩ : ∃ fs, σ c = some (ob 8 fs) ∧ TyO c ⟨T, Z, u, h, P, L⟩ fs := h0.cell (k := 0) (by decide)
  obtain ⟨_, e27, rfl⟩ := ty.2 27 (3, 16) rfl
  obtain ⟨_, e3, rfl⟩ := ty.2 3 (3, 2) rfl
  obtain ⟨_, e12, rfl⟩ := ty.2 12 (3, 11) rfl
  obtain ⟨_, e13, rfl⟩ := ty.2 13 (3, 12) rfl
  obtain ⟨fN, eN, tN⟩ : ∃ f, σ (c + 2) = some (aI V 10 f) ∧ ∀ i, i < 10 → EI P 3 i (f i) := h0.cell (k := 2) (by decide)
  obtain ⟨fA, eA, tA⟩ : ∃ f, σ (c + 11) = some (aI V 16 f) ∧ ∀ i, i < 16 → EI P 12 i (f i) := h0.cell (k := 11) (by decide)
  obtain ⟨fB, eB, tB⟩ : ∃ f, σ (c + 12) = some (aI V 16 f) ∧ ∀ i, i < 16 → EI P 13 i (f i) := h0.cell (k := 12) (by decide)
  obtain ⟨f, e16, -⟩ : ∃ f, σ (c + 16) = some (aJ V 1113 f) ∧ ∀ i, i < 1113 → EJ L i (f i) := h0.cell (k := 16) (by decide)
  exact bg_2 F hQ h0 hob hP hp0 hp1 e1 e27 e3 e12 e13 eN ((tN 2 (by decide)).2.1 rfl) eA (fun i hi => tA i hi) eB tB 1114 0 f σ ⟨e16, fun _ _ => rfl⟩ (fun i hi => absurd hi (Nat.not_lt_zero _)) (by omega) (by omega)
set_option maxRecDepth 20000 in
theorem q_X10_begins (l : Launch) (V : VX) (c T Z u h : Nat) (P : NP) (L : Nat → LQ) (N : Nat) (σ : Mem)  (h0 : HR V c ⟨T, Z, u, h, P, L⟩ σ) (hob : OKB L) (hP : OKP P) (hp0 : P.n0 ≤ P.m0) (hp1 : P.n2 ≤ P.w2) : Ct l V yX10_begins cX10_begins 4 none 3 0 0 N σ [.ref c] (fun r τ => ∃ L9, OKL P.n0 L9 ∧ HS V c (⟨T, Z, u, h, P, L9⟩ : RG) [0, 1, 2, 3, 4, 5, 6, 7, 8, 9, 10, 11, 12, 13, 14, 15, 16, 18, 19, 20, 21, 23] σ τ ∧ r = none) := by
  refine Ct.of (by decide) (Nat.le_of_ble_eq_true rfl) [(0, .ref c)] rfl (fun X hX F hQ => ?_)
  have hPP := hP
  unfold OKP at hPP
  have h1 : HS V c ⟨T, Z, u, h, P, L⟩ [0, 1, 2, 3, 4, 5, 6, 7, 8, 9, 10, 11, 12, 13, 14, 15, 16, 18, 19, 20, 21, 23] σ σ := HS.start h0
  exact bg_start F hQ h0 hob hP hp0 hp1
def Gd (u h : Nat) (P : NP) (L : Nat → LQ) : Prop := u ≤ 20 ∧ h ≤ 1 ∧ OKP P ∧ P.kk = P.n0 ∧ P.n0 ≤ P.m0 ∧ P.n2 ≤ P.w2 ∧ OKL P.n0 L
set_option maxRecDepth 20000 in
theorem q_X10_text (l : Launch) (V : VX) (c T Z u h : Nat) (P : NP) (L : Nat → LQ) (N : Nat) (σ : Mem) (x901 : Int32) (h0 : HR V c ⟨T, Z, u, h, P, L⟩ σ) (hok : OKL P.n0 L) (hP : OKP P) (hp0 : u ≤ 20) (hp1 : h ≤ 1) (hp2 : P.kk = P.n0) (hp3 : T ≤ 700) (hp4 : P.n0 ≤ P.m0) (hp5 : P.n2 ≤ P.w2) : Ct l V yX10_text cX10_text 2 (some .int) 11 0 0 N σ [.ref c, .int x901] (fun r τ => (∃ x : Int32, r = some (.int x)) ∧ (((x901 < 0 ∨ ∃ n : Nat, n ≤ 2147483647 ∧ x901 = nI n ∧ T < n) ∧ HS V c (⟨T, Z, u, h, P, L⟩ : RG) [0, 2, 18, 19, 20, 21, 23] σ τ) ∨ ∃ n : Nat, x901 = nI n ∧ n ≤ T ∧ ∃ (u9 h9 : Nat) (P9 : NP) (L9 : Nat → LQ), Gd u9 h9 P9 L9 ∧ HS V c (⟨0, 1, u9, h9, P9, L9⟩ : RG) [0, 2, 18, 19, 20, 21, 23] σ τ)) := by
  refine Ct.of (by decide) (Nat.le_of_ble_eq_true rfl) [(0, .ref c), (1, .int x901)] rfl (fun X hX F hQ => ?_)
  have hPP := hP
  unfold OKP at hPP
  have h1 : HS V c ⟨T, Z, u, h, P, L⟩ [0, 2, 18, 19, 20, 21, 23] σ σ := HS.start h0
  refine m_aload_n F rfl e_X10_text_0 ?_
  refine m_iconst F (v := 0) (by decide) e_X10_text_1 ?_
  refine r_put F (g' := (⟨T, Z, u, h, P, L⟩ : RG)) e_X10_text_2 fp_X10_91 h1 (by decide) ⟨_, rfl⟩ (fun _ _ _ _ q => q) (fun _ _ _ q => q) rfl rfl (by decide) (fun σ10684 h10685 g10686 g10687 f10688 => ?_)
  refine m_iload_n F rfl e_X10_text_5 ?_
  refine m_if_lt F e_X10_text_6 (fun q6 => ?_) (fun q6 => ?_)
  · refine m_bipush F (v := (-2)) (by decide) e_X10_text_17 ?_
    exact m_iret F hQ e_X10_text_19 (⟨⟨_, rfl⟩, Or.inl ⟨Or.inl q6, h10685⟩⟩)
  · obtain ⟨n10689, hn10689, rfl⟩ := nI_nn (x := x901) (fun e => q6 (Int32.lt_of_lt_of_le e (by decide)))
    have c6 : n10689 ≥ 0 := by have hh := mt (nI_ltI (a := n10689) (b := 0) (by omega) (by omega)).mpr q6; omega
    refine m_iload_n F rfl e_X10_text_9 ?_
    refine m_aload_n F rfl e_X10_text_10 ?_
    refine r_get F e_X10_text_11 fl_X10_94 h10685 rfl (fun v hv f10690 => ?_)
    obtain rfl : v = .int (nI (T)) := hv
    refine m_icmp_le F e_X10_text_14 (fun q14 => ?_) (fun q14 => ?_)
    · have c14 : n10689 ≤ T := (nI_leI (a := n10689) (b := T) (by omega) (by omega)).mp q14
      refine m_aload_n F rfl e_X10_text_20 ?_
      refine m_iload_n F rfl e_X10_text_21 ?_
      refine r_callV F e_X10_text_22 (q_X10_readText (x_l X) V c T Z u h P L _ _ n10689 h10685.1 (hok.b) hP (by omega)) cb_X10_readText ml_X10_208 im_X10_readText se_X10_readText h10685 rfl rfl (rest := []) rfl (Nat.le_of_ble_eq_true rfl) ⟨Nat.le_of_ble_eq_true rfl, Nat.le_of_ble_eq_true rfl⟩ ⟨Nat.le_of_ble_eq_true rfl, Nat.le_of_ble_eq_true rfl⟩ (fun r σ10691 hp => ?_)
      obtain ⟨P10694, oP10694, rP10694, h10692, rfl⟩ := hp
      have h10693 := HS.trans h10685 h10692 (by decide)
      have xP10694 := oP10694
      unfold OKP at xP10694
      unfold RQ at rP10694
      refine m_aload_n F rfl e_X10_text_25 ?_
      refine m_iconst F (v := 0) (by decide) e_X10_text_26 ?_
      refine r_put F (g' := (⟨0, 1, u, h, P10694, L⟩ : RG)) e_X10_text_27 fp_X10_94 h10693 (by decide) rfl ctl_T CR.ctl rfl rfl (by decide) (fun σ10695 h10696 g10697 g10698 f10699 => ?_)
      refine m_aload_n F rfl e_X10_text_30 ?_
      refine m_aload_n F rfl e_X10_text_31 ?_
      refine r_get F e_X10_text_32 fl_X10_141 h10696 rfl (fun v hv f10700 => ?_)
      obtain ⟨x10701, hx10701, rfl⟩ := hv
      replace hx10701 : 1 = 0 → x10701 ≠ 0 := hx10701
      refine r_put F (g' := (⟨0, 1, u, h, P10694, L⟩ : RG)) e_X10_text_35 fp_X10_211 h10696 (by decide) ⟨_, rfl⟩ (fun _ _ _ _ q => q) (fun _ _ _ q => q) rfl rfl (by decide) (fun σ10702 h10703 g10704 g10705 f10706 => ?_)
      refine m_aload_n F rfl e_X10_text_38 ?_
      refine m_aload_n F rfl e_X10_text_39 ?_
      refine r_getC F e_X10_text_40 fl_X10_141 h10703 ((g10705 23 (by decide)).trans f10700) ?_
      refine m_if_ne F e_X10_text_43 (fun q43 => ?_) (fun q43 => ?_)
      · have h10707 := HS.z0 h10703 ((g10705 23 (by decide)).trans f10700) q43
        refine m_aload_n F rfl e_X10_text_50 ?_
        refine r_get F e_X10_text_51 fl_X10_144 h10707 rfl (fun v hv f10708 => ?_)
        obtain ⟨x10709, rfl⟩ := hv
        refine r_put F (g' := (⟨0, 0, u, h, P10694, L⟩ : RG)) e_X10_text_54 fp_X10_55 h10707 (by decide) ⟨_, rfl⟩ (fun _ _ _ _ q => q) (fun _ _ _ q => q) rfl rfl (by decide) (fun σ10710 h10711 g10712 g10713 f10714 => ?_)
        refine m_aload_n F rfl e_X10_text_57 ?_
        refine r_getC F e_X10_text_58 fl_X10_141 h10711 ((g10713 23 (by decide)).trans ((g10705 23 (by decide)).trans f10700)) ?_
        refine m_if_eq F e_X10_text_61 (fun q61 => ?_) (fun q61 => ?_)
        · first | exact absurd q61 (hx10701 rfl) | contradiction
        · have h10715 := HS.z0 h10711 ((g10713 23 (by decide)).trans ((g10705 23 (by decide)).trans f10700)) q61
          refine m_iconst F (v := (-1)) (by decide) e_X10_text_64 ?_
          have h10716 : HS V c (⟨0, 1, u, h, P10694, L⟩ : RG) [0, 2, 18, 19, 20, 21, 23] _ _ := ⟨HR.mono (Z' := 1) (fun e => absurd e (by decide)) h10715.1, h10715.2⟩
          exact m_iret F hQ e_X10_text_65 (⟨⟨_, rfl⟩, Or.inr ⟨n10689, rfl, by omega, u, h, P10694, L, ⟨by omega, by omega, oP10694, by omega, by omega, by omega, by rw [show P10694.n0 = P.n0 by omega]; exact hok⟩, h10716⟩⟩)
      · subst q43
        refine m_iconst F (v := (-1)) (by decide) e_X10_text_46 ?_
        refine m_goto F e_X10_text_47 ?_
        refine r_put F (g' := (⟨0, 1, u, h, P10694, L⟩ : RG)) e_X10_text_54 fp_X10_55 h10703 (by decide) ⟨_, rfl⟩ (fun _ _ _ _ q => q) (fun _ _ _ q => q) rfl rfl (by decide) (fun σ10717 h10718 g10719 g10720 f10721 => ?_)
        refine m_aload_n F rfl e_X10_text_57 ?_
        refine r_getC F e_X10_text_58 fl_X10_141 h10718 ((g10720 23 (by decide)).trans ((g10705 23 (by decide)).trans f10700)) ?_
        refine m_if_eq F e_X10_text_61 (fun _ => ?_) (fun q => absurd (by decide) q)
        refine m_aload_n F rfl e_X10_text_66 ?_
        refine r_callV F e_X10_text_67 (q_X10_takeText (x_l X) V c 0 1 u h P10694 L _ _  h10718.1 (hok.b) oP10694 ) cb_X10_takeText ml_X10_85 im_X10_takeText se_X10_takeText h10718 rfl rfl (rest := []) rfl (Nat.le_of_ble_eq_true rfl) ⟨Nat.le_of_ble_eq_true rfl, Nat.le_of_ble_eq_true rfl⟩ ⟨Nat.le_of_ble_eq_true rfl, Nat.le_of_ble_eq_true rfl⟩ (fun r σ10722 hp => ?_)
        obtain ⟨P10725, oP10725, rP10725, h10723, rfl⟩ := hp
        have h10724 := HS.trans h10718 h10723 (by decide)
        have xP10725 := oP10725
        unfold OKP at xP10725
        unfold RT at rP10725
        refine m_aload_n F rfl e_X10_text_70 ?_
        refine r_callV F e_X10_text_71 (q_X10_begins (x_l X) V c 0 1 u h P10725 L _ _  h10724.1 (hok.b) oP10725 (by first | omega | assumption | decide) (by first | omega | assumption | decide)) cb_X10_begins ml_X10_88 im_X10_begins se_X10_begins h10724 rfl rfl (rest := []) rfl (Nat.le_of_ble_eq_true rfl) ⟨Nat.le_of_ble_eq_true rfl, Nat.le_of_ble_eq_true rfl⟩ ⟨Nat.le_of_ble_eq_true rfl, Nat.le_of_ble_eq_true rfl⟩ (fun r σ10726 hp => ?_)
        obtain ⟨L10729, okL10729, h10727, rfl⟩ := hp
        have h10728 := HS.trans h10724 h10727 (by decide)
        refine m_aload_n F rfl e_X10_text_74 ?_
        refine m_iconst F (v := 0) (by decide) e_X10_text_75 ?_
        refine r_put F (g' := (⟨0, 1, 0, h, P10725, L10729⟩ : RG)) e_X10_text_76 fp_X10_214 h10728 (by decide) rfl ctl_u (CR.und (Nat.zero_le _)) rfl rfl (by decide) (fun σ10730 h10731 g10732 g10733 f10734 => ?_)
        refine m_aload_n F rfl e_X10_text_79 ?_
        refine m_iconst F (v := 0) (by decide) e_X10_text_80 ?_
        refine r_put F (g' := (⟨0, 1, 0, 0, P10725, L10729⟩ : RG)) e_X10_text_81 fp_X10_217 h10731 (by decide) rfl ctl_h CR.h0 (by decide) rfl (by decide) (fun σ10735 h10736 g10737 g10738 f10739 => ?_)
        refine m_aload_n F rfl e_X10_text_84 ?_
        refine r_get F e_X10_text_85 fl_X10_202 h10736 rfl (fun v hv f10740 => ?_)
        obtain ⟨x10741, rfl⟩ := hv
        have h10742 : HS V c (⟨0, 1, 0, 0, (mkP P10725.n0 P10725.n2 P10725.n5 P10725.n7 P10725.m0 P10725.m5 P10725.w2 P10725.w7 P10725.n0 P10725.a P10725.b0 P10725.b1 P10725.b2 P10725.b3), L10729⟩ : RG) [0, 2, 18, 19, 20, 21, 23] _ _ := ⟨HR.kk0 (HR.mono (Z' := 1) (fun e => absurd e (by decide)) h10736.1), h10736.2⟩
        exact m_iret F hQ e_X10_text_88 (⟨⟨_, rfl⟩, Or.inr ⟨n10689, rfl, by omega, 0, 0, (mkP P10725.n0 P10725.n2 P10725.n5 P10725.n7 P10725.m0 P10725.m5 P10725.w2 P10725.w7 P10725.n0 P10725.a P10725.b0 P10725.b1 P10725.b2 P10725.b3), L10729, ⟨by omega, by omega, oP10725, rfl, (show P10725.n0 ≤ P10725.m0 by omega), (show P10725.n2 ≤ P10725.w2 by omega), okL10729⟩, h10742⟩⟩)
    · have c14 : n10689 > T := by have hh := mt (nI_leI (a := n10689) (b := T) (by omega) (by omega)).mpr q14; omega
      refine m_bipush F (v := (-2)) (by decide) e_X10_text_17 ?_
      exact m_iret F hQ e_X10_text_19 (⟨⟨_, rfl⟩, Or.inl ⟨Or.inr ⟨n10689, by omega, rfl, by omega⟩, h10685⟩⟩)
