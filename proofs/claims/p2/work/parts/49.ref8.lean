/-! the reader of the reference: its place is a ghost too -/
abbrev mkP (n0 n2 n5 n7 m0 m5 w2 w7 kk a : Nat) : NP := (n0, n2, n5, n7, m0, m5, w2, w7, kk, a)
def RA (P Q : NP) : Prop := Q.n0 = P.n0 ∧ Q.n2 = P.n2 ∧ Q.n5 = P.n5 ∧ Q.n7 = P.n7 ∧ Q.m0 = P.m0 ∧ Q.m5 = P.m5 ∧ Q.w2 = P.w2 ∧ Q.w7 = P.w7 ∧ Q.kk = P.kk ∧ P.a ≤ Q.a
def RP (P Q : NP) : Prop := Q.n0 = P.n0 ∧ Q.n2 = P.n2 ∧ Q.m0 = P.m0 ∧ Q.w2 = P.w2 ∧ Q.kk = P.kk ∧ P.a ≤ Q.a
def RQ (P Q : NP) : Prop := Q.n0 = P.n0 ∧ Q.n2 = P.n2 ∧ Q.m0 = P.m0 ∧ Q.w2 = P.w2 ∧ Q.kk = P.kk
theorem CR.setA {V : VX} {c T Z u h a : Nat} {P : NP} {L : Nat → LQ} : ∀ i, i ≠ 1 → ∀ x, CR V c ⟨T, Z, u, h, P, L⟩ i x → CR V c ⟨T, Z, u, h, mkP P.n0 P.n2 P.n5 P.n7 P.m0 P.m5 P.w2 P.w7 P.kk a, L⟩ i x := by
  intro i hi x hx
  unfold CR at hx ⊢
  split at hx <;> first | exact hx | exact absurd rfl hi
theorem ctl_a {c T Z u h a : Nat} {P : NP} {L : Nat → LQ} : ∀ i, i < rL.length → i ≠ 19 → ∀ w, TyW c ⟨T, Z, u, h, P, L⟩ (rL.getD i (0, 0)) w → TyW c ⟨T, Z, u, h, mkP P.n0 P.n2 P.n5 P.n7 P.m0 P.m5 P.w2 P.w7 P.kk a, L⟩ (rL.getD i (0, 0)) w := by
  intro i hi hne w hw
  have key : ∀ i, i < 37 → i ≠ 19 → (rL.getD i (0, 0)).1 ≠ 9 := by decide
  have hk := key i hi hne
  unfold TyW at hw ⊢
  split at hw <;> simp_all
/-- fault isn't 0: the ghost says so -/
theorem HS.z0 {V : VX} {c T Z u h : Nat} {P : NP} {L : Nat → LQ} {ks : List Nat} {σ0 σ : Mem} {x : Int32} (hh : HS V c ⟨T, Z, u, h, P, L⟩ ks σ0 σ) (hf : fld σ c 23 = some (.int x)) (hx : ¬ x = 0) : HS V c ⟨T, 0, u, h, P, L⟩ ks σ0 σ := by
  refine ⟨fun a => ?_, hh.2⟩
  by_cases ha : kC c a = 1
  · have h8 := kC_un (k := 0) ha
    have h9 : a = c := h8
    subst h9
    have h1 := hh.1 a
    rw [ha] at h1 ⊢
    obtain ⟨fs, e, q1, q2⟩ := h1
    refine ⟨fs, e, q1, fun j t ht => ?_⟩
    obtain ⟨v, h2, h3⟩ := q2 j t ht
    refine ⟨v, h2, ?_⟩
    by_cases hj : j = 23
    · subst hj
      have h4 : fs[23]? = some (.int x) := fld_ob e hf
      rw [h4] at h2
      cases h2
      obtain rfl : t = (5, 0) := (Option.some.inj ht).symm
      exact ⟨x, fun _ => hx, rfl⟩
    · have hl : j < rL.length := (List.getElem?_eq_some_iff.mp ht).1
      have hu' : rL.getD j (0, 0) = t := by rw [List.getD_eq_getElem?_getD, ht]; rfl
      rw [← hu'] at h3 ⊢
      exact ctl_Z j hl hj v h3
  · exact CR.ctl _ ha _ (hh.1 a)
/-- what stands at the reader's place -/
def HE (σ : Mem) (c a : Nat) (x : Int32) : Prop := ∃ z : Nat, z ≤ 700 ∧ fld σ c 18 = some (.int (nI z)) ∧ ((z ≤ a ∧ x = -1) ∨ (a < z ∧ elI σ (c + 1) a = some x))
theorem HE.of {σ τ : Mem} {c a : Nat} {x : Int32} (h : HE σ c a x) (e1 : fld τ c 18 = fld σ c 18) (e2 : elI τ (c + 1) a = elI σ (c + 1) a) : HE τ c a x := by
  obtain ⟨z, hz, h1, h2⟩ := h
  exact ⟨z, hz, e1.trans h1, h2.imp id (fun q => ⟨q.1, e2.trans q.2⟩)⟩
theorem HE.uniq {σ : Mem} {c a : Nat} {x y : Int32} (h : HE σ c a x) (h' : HE σ c a y) : x = y := by
  obtain ⟨z, hz, h1, h2⟩ := h
  obtain ⟨z', hz', h1', h2'⟩ := h'
  have e : z = z' := by
    rw [h1] at h1'
    have h3 : nI z = nI z' := by injection (Option.some.inj h1')
    exact nI_inj (by omega) (by omega) h3
  subst e
  rcases h2 with ⟨a1, a2⟩ | ⟨a1, a2⟩ <;> rcases h2' with ⟨b1, b2⟩ | ⟨b1, b2⟩
  · exact a2.trans b2.symm
  · omega
  · omega
  · exact Option.some.inj (a2.symm.trans b2)
theorem HE.lt {σ : Mem} {c a : Nat} {x : Int32} (h : HE σ c a x) (hx : ¬ x = -1) : a < 700 := by
  obtain ⟨z, hz, -, ⟨-, h2⟩ | ⟨h2, -⟩⟩ := h
  · exact absurd h2 hx
  · omega
/-- a line or a step of the reader: a fault, the end, or further on -/
def PG (c a b : Nat) (τ : Mem) : Prop := ∃ x y : Int32, fld τ c 23 = some (.int x) ∧ fld τ c 21 = some (.int y) ∧ (x ≠ 0 ∨ y = 4 ∨ a < b)
theorem PG.of {c a b : Nat} {σ τ : Mem} (h : PG c a b σ) (e1 : fld τ c 23 = fld σ c 23) (e2 : fld τ c 21 = fld σ c 21) : PG c a b τ := by
  obtain ⟨x, y, h1, h2, h3⟩ := h
  exact ⟨x, y, e1.trans h1, e2.trans h2, h3⟩
theorem PG.mono {c a a' b : Nat} {σ : Mem} (h : PG c a b σ) (e : a' ≤ a) : PG c a' b σ := by
  obtain ⟨x, y, h1, h2, h3⟩ := h
  exact ⟨x, y, h1, h2, h3.imp id (fun q => q.imp id (fun q => Nat.lt_of_le_of_lt e q))⟩
theorem HR.f21 {V : VX} {c : Nat} {g : RG} {σ : Mem} (h : HR V c g σ) : ∃ y : Int32, fld σ c 21 = some (.int y) := by
  obtain ⟨fs, e, q1, q2⟩ : ∃ fs, σ c = some (ob 8 fs) ∧ TyO c g fs := h.cell (k := 0) (by decide)
  obtain ⟨v, h2, x, rfl⟩ := q2 21 (0, 0) rfl
  exact ⟨x, fld_of e h2⟩
theorem HR.f23 {V : VX} {c : Nat} {g : RG} {σ : Mem} (h : HR V c g σ) : ∃ y : Int32, fld σ c 23 = some (.int y) := by
  obtain ⟨fs, e, q1, q2⟩ : ∃ fs, σ c = some (ob 8 fs) ∧ TyO c g fs := h.cell (k := 0) (by decide)
  obtain ⟨v, h2, x, hx, rfl⟩ := q2 23 (5, 0) rfl
  exact ⟨x, fld_of e h2⟩
theorem PG.a1 {V : VX} {c a b : Nat} {g : RG} {σ : Mem} {x : Int32} (h : HR V c g σ) (e : fld σ c 23 = some (.int x)) (hx : ¬ x = 0) : PG c a b σ := by
  obtain ⟨y, hy⟩ := h.f21
  exact ⟨x, y, e, hy, Or.inl hx⟩
theorem PG.a2 {V : VX} {c a b : Nat} {g : RG} {σ : Mem} (h : HR V c g σ) (e : fld σ c 21 = some (.int 4) ∨ a < b) : PG c a b σ := by
  obtain ⟨y, hy⟩ := h.f21
  obtain ⟨x, hx⟩ := h.f23
  rcases e with e | e
  · exact ⟨x, 4, hx, e, Or.inr (Or.inl rfl)⟩
  · exact ⟨x, y, hx, hy, Or.inr (Or.inr e)⟩
theorem nI_nm1 {n : Nat} (h : n < 2147483648) : nI n ≠ -1 := by
  intro e
  have h1 := congrArg Int32.toInt e
  rw [nI_ti h] at h1
  have h2 : (-1 : Int32).toInt = -1 := by decide
  omega
theorem CR.chg {V : VX} {c T Z u h K : Nat} {P P' : NP} {L : Nat → LQ} (hE : ∀ k, k ≠ K → ∀ i x, EI P k i x → EI P' k i x) (hk : P'.kk = P.kk) (ha : P'.a = P.a) : ∀ i, i ≠ K → ∀ x, CR V c ⟨T, Z, u, h, P, L⟩ i x → CR V c ⟨T, Z, u, h, P', L⟩ i x := by
  intro i hi x hx
  unfold CR at hx ⊢
  split at hx
  · trivial
  · obtain ⟨fs, e, q1, q2⟩ := hx
    refine ⟨fs, e, q1, fun j t ht => ?_⟩
    obtain ⟨v, h2, h3⟩ := q2 j t ht
    refine ⟨v, h2, ?_⟩
    obtain ⟨tc, tw⟩ := t
    unfold TyW at h3 ⊢
    split at h3 <;> first | exact h3 | (show v = .int (nI P'.a); rw [ha]; exact h3)
  · exact hx
  · exact hx
  · exact hx
  · show ∃ f, _ = some (aJ V 1113 f) ∧ (h = 1 → GR P'.kk f)
    rw [hk]; exact hx
  · show ∃ f, _ = some (aJ V 22260 f) ∧ ∀ j, j < u → GR P'.kk (fun i => f (1113 * j + i))
    rw [hk]; exact hx
  · obtain ⟨f, e, q⟩ := hx
    exact ⟨f, e, fun i9 h9 => hE _ hi i9 _ (q i9 h9)⟩
  · exact hx
  · obtain ⟨f, e, q⟩ := hx
    exact ⟨f, e, fun i9 h9 => hE _ hi i9 _ (q i9 h9)⟩
set_option maxRecDepth 20000 in
theorem q_X10_here (l : Launch) (V : VX) (c T Z u h : Nat) (P : NP) (L : Nat → LQ) (N : Nat) (σ : Mem)  (h0 : HR V c ⟨T, Z, u, h, P, L⟩ σ) (hob : OKB L) (hP : OKP P)  : Ct l V yX10_here cX10_here 1 (some .int) 0 0 0 N σ [.ref c] (fun r τ => HS V c (⟨T, Z, u, h, P, L⟩ : RG) [0, 1, 2, 3, 4, 5, 6, 7, 8, 9, 10, 11, 12, 13, 14, 15, 16, 17, 18, 19, 20, 21, 22, 23] σ τ ∧ ∃ x : Int32, HE τ c P.a x ∧ r = some (.int x)) := by
  refine Ct.of (by decide) (Nat.le_of_ble_eq_true rfl) [(0, .ref c)] rfl (fun X hX F hQ => ?_)
  have hPP := hP
  unfold OKP at hPP
  have h1 : HS V c ⟨T, Z, u, h, P, L⟩ [0, 1, 2, 3, 4, 5, 6, 7, 8, 9, 10, 11, 12, 13, 14, 15, 16, 17, 18, 19, 20, 21, 22, 23] σ σ := HS.start h0
  refine m_aload_n F rfl e_X10_here_0 ?_
  refine r_get F e_X10_here_1 fl_X10_97 h1 rfl (fun v hv f7762 => ?_)
  obtain rfl : v = .int (nI (P.a)) := hv
  refine m_aload_n F rfl e_X10_here_4 ?_
  refine r_get F e_X10_here_5 fl_X10_100 h1 rfl (fun v hv f7763 => ?_)
  obtain ⟨n7764, hn7764, rfl⟩ := hv
  replace hn7764 : n7764 ≤ 700 := hn7764
  refine m_icmp_ge F e_X10_here_8 (fun q8 => ?_) (fun q8 => ?_)
  · have c8 : P.a ≥ n7764 := (nI_leI (a := n7764) (b := P.a) (by omega) (by omega)).mp q8
    refine m_iconst F (v := (-1)) (by decide) e_X10_here_23 ?_
    exact m_iret F hQ e_X10_here_24 (⟨h1, -1, ⟨n7764, by omega, f7763, Or.inl ⟨by omega, rfl⟩⟩, rfl⟩)
  · have c8 : P.a < n7764 := by have hh := mt (nI_leI (a := n7764) (b := P.a) (by omega) (by omega)).mpr q8; omega
    refine m_aload_n F rfl e_X10_here_11 ?_
    refine r_get F e_X10_here_12 fl_X10_7 h1 rfl (fun v hv f7765 => ?_)
    obtain rfl : v = .ref (c + 1) := hv
    refine m_aload_n F rfl e_X10_here_15 ?_
    refine r_getC F e_X10_here_16 fl_X10_97 h1 (f7762) ?_
    refine r_iald F (len := 700) (j := P.a) e_X10_here_19 h1 (fun _ h => h) (by decide) (nI_clamp (by omega)) (vp_in_nI (by omega) (by decide)) (fun x7766 h7767 f7768 => ?_)
    refine m_goto F e_X10_here_20 ?_
    exact m_iret F hQ e_X10_here_24 (⟨h1, x7766, ⟨n7764, by omega, f7763, Or.inr ⟨by omega, f7768⟩⟩, rfl⟩)
set_option maxRecDepth 20000 in
theorem q_X10_isSmall2 (l : Launch) (V : VX) (N : Nat) (σ : Mem) (x901 : Int32)  : Ct l V yX10_isSmall cX10_isSmall 1 (some .boolean) 0 0 0 N σ [.int x901] (fun r τ => τ = σ ∧ (¬ (¬ x901 < 97 ∧ ¬ 122 < x901) ∧ r = some (.int 0) ∨ (¬ x901 < 97 ∧ ¬ 122 < x901) ∧ r = some (.int 1))) := by
  refine Ct.of (by decide) (Nat.le_of_ble_eq_true rfl) [(0, .int x901)] rfl (fun X hX F hQ => ?_)
  refine m_iload_n F rfl e_X10_isSmall_0 ?_
  refine m_bipush F (v := 97) (by decide) e_X10_isSmall_1 ?_
  refine m_icmp_lt F e_X10_isSmall_3 (fun q3 => ?_) (fun q3 => ?_)
  · refine m_iconst F (v := 0) (by decide) e_X10_isSmall_16 ?_
    exact m_zret F hQ e_X10_isSmall_17 (by decide) (⟨rfl, Or.inl ⟨fun e => e.1 q3, rfl⟩⟩)
  · obtain ⟨n7769, hn7769, rfl⟩ := nI_nn (x := x901) (fun e => q3 (Int32.lt_of_lt_of_le e (by decide)))
    have c3 : n7769 ≥ 97 := by have hh := mt (nI_ltI (a := n7769) (b := 97) (by omega) (by omega)).mpr q3; omega
    refine m_iload_n F rfl e_X10_isSmall_6 ?_
    refine m_bipush F (v := 122) (by decide) e_X10_isSmall_7 ?_
    refine m_icmp_gt F e_X10_isSmall_9 (fun q9 => ?_) (fun q9 => ?_)
    · have c9 : n7769 > 122 := (nI_ltI (a := 122) (b := n7769) (by omega) (by omega)).mp q9
      refine m_iconst F (v := 0) (by decide) e_X10_isSmall_16 ?_
      exact m_zret F hQ e_X10_isSmall_17 (by decide) (⟨rfl, Or.inl ⟨fun e => e.2 q9, rfl⟩⟩)
    · have c9 : n7769 ≤ 122 := by have hh := mt (nI_ltI (a := 122) (b := n7769) (by omega) (by omega)).mpr q9; omega
      refine m_iconst F (v := 1) (by decide) e_X10_isSmall_12 ?_
      refine m_goto F e_X10_isSmall_13 ?_
      exact m_zret F hQ e_X10_isSmall_17 (by decide) (⟨rfl, Or.inr ⟨⟨q3, q9⟩, rfl⟩⟩)
set_option maxRecDepth 20000 in
theorem q_X10_isDigit2 (l : Launch) (V : VX) (N : Nat) (σ : Mem) (x901 : Int32)  : Ct l V yX10_isDigit cX10_isDigit 1 (some .boolean) 0 0 0 N σ [.int x901] (fun r τ => τ = σ ∧ (¬ (¬ x901 < 48 ∧ ¬ 57 < x901) ∧ r = some (.int 0) ∨ (¬ x901 < 48 ∧ ¬ 57 < x901) ∧ r = some (.int 1))) := by
  refine Ct.of (by decide) (Nat.le_of_ble_eq_true rfl) [(0, .int x901)] rfl (fun X hX F hQ => ?_)
  refine m_iload_n F rfl e_X10_isDigit_0 ?_
  refine m_bipush F (v := 48) (by decide) e_X10_isDigit_1 ?_
  refine m_icmp_lt F e_X10_isDigit_3 (fun q3 => ?_) (fun q3 => ?_)
  · refine m_iconst F (v := 0) (by decide) e_X10_isDigit_16 ?_
    exact m_zret F hQ e_X10_isDigit_17 (by decide) (⟨rfl, Or.inl ⟨fun e => e.1 q3, rfl⟩⟩)
  · obtain ⟨n7770, hn7770, rfl⟩ := nI_nn (x := x901) (fun e => q3 (Int32.lt_of_lt_of_le e (by decide)))
    have c3 : n7770 ≥ 48 := by have hh := mt (nI_ltI (a := n7770) (b := 48) (by omega) (by omega)).mpr q3; omega
    refine m_iload_n F rfl e_X10_isDigit_6 ?_
    refine m_bipush F (v := 57) (by decide) e_X10_isDigit_7 ?_
    refine m_icmp_gt F e_X10_isDigit_9 (fun q9 => ?_) (fun q9 => ?_)
    · have c9 : n7770 > 57 := (nI_ltI (a := 57) (b := n7770) (by omega) (by omega)).mp q9
      refine m_iconst F (v := 0) (by decide) e_X10_isDigit_16 ?_
      exact m_zret F hQ e_X10_isDigit_17 (by decide) (⟨rfl, Or.inl ⟨fun e => e.2 q9, rfl⟩⟩)
    · have c9 : n7770 ≤ 57 := by have hh := mt (nI_ltI (a := 57) (b := n7770) (by omega) (by omega)).mpr q9; omega
      refine m_iconst F (v := 1) (by decide) e_X10_isDigit_12 ?_
      refine m_goto F e_X10_isDigit_13 ?_
      exact m_zret F hQ e_X10_isDigit_17 (by decide) (⟨rfl, Or.inr ⟨⟨q3, q9⟩, rfl⟩⟩)
set_option maxRecDepth 20000 in
theorem lq_X10_wordHere_97 {V : VX} {X : MX} {N : Nat} {σ : Mem} {c T Z u h : Nat} {P : NP} {L : Nat → LQ}   (F : Fx V X yX10_wordHere cX10_wordHere 4 (some .int) (rmd 4 0 0)) (hQ : Rt V X 0 0 N (fun r τ => HS V c (⟨T, Z, u, h, P, L⟩ : RG) [0, 1, 2, 3, 4, 5, 6, 7, 8, 9, 10, 11, 12, 13, 14, 15, 16, 17, 18, 19, 20, 21, 22, 23] σ τ ∧ ∃ x : Int32, r = some (.int x))) (hob : OKB L) (hP : OKP P)  {fuelO : Nat} (hO : ∀ (n1 : Int32) (k : Nat) (τ : Mem), HS V c (⟨T, Z, u, h, P, L⟩ : RG) [0, 1, 2, 3, 4, 5, 6, 7, 8, 9, 10, 11, 12, 13, 14, 15, 16, 17, 18, 19, 20, 21, 22, 23] σ τ → k ≤ 48 → 48 - k < fuelO → Wm V X 4 N τ 0 0 4 [(0, .ref c), (1, .int n1), (2, .int (nI k))] []) : ∀ (fuel : Nat) (n1 : Int32) (k : Nat) (τ : Mem), HS V c (⟨T, Z, u, h, P, L⟩ : RG) [0, 1, 2, 3, 4, 5, 6, 7, 8, 9, 10, 11, 12, 13, 14, 15, 16, 17, 18, 19, 20, 21, 22, 23] σ τ → k ≤ 47 ∧ 48 - k ≤ fuelO → 48 - k < fuel → Wm V X 4 N τ 0 0 97 [(0, .ref c), (1, .int n1), (2, .int (nI k))] [] := by
  intro fuel
  induction fuel with
  | zero => intros; rename_i hm; exact absurd hm (Nat.not_lt_zero _)
  | succ fuel ih =>
    intro n1 k τ h1 hi hm
    have hPP := hP
    unfold OKP at hPP
    refine m_ldcS F e_X10_wordHere_97 F.sw.1.2.2 ?_
    refine m_iload_n F rfl e_X10_wordHere_99 ?_
    refine m_callO F e_X10_wordHere_100 (q_charAt (x_l X) V _ _ k (by omega)) cb_J0_charAt_5068e ml_X10_137 im_J0_charAt_5068e se_J0_charAt_5068e F.sw.2.2.2.2.2.2.1 rfl (rest := []) rfl (Nat.le_of_ble_eq_true rfl) ⟨Nat.le_of_ble_eq_true rfl, Nat.le_of_ble_eq_true rfl⟩ ⟨Nat.le_of_ble_eq_true rfl, Nat.le_of_ble_eq_true rfl⟩ (k' := 0) (z' := 0) (N' := N) rfl rfl rfl (fun r σ7771 hp => ?_)
    obtain ⟨rfl, rfl⟩ := hp
    refine m_bipush F (v := 32) (by decide) e_X10_wordHere_103 ?_
    refine m_icmp_eq F e_X10_wordHere_105 (fun q105 => ?_) (fun q105 => ?_)
    · refine m_iinc F (v := nI (k + 1)) (lv' := [(2, .int (nI (k + 1))), (0, .ref c), (1, .int n1)]) e_X10_wordHere_114 rfl (nI_add k 1) (by decide) rfl ?_
      refine m_iinc F (v := (n1 + 1)) (lv' := [(1, .int (n1 + 1)), (2, .int (nI (k + 1))), (0, .ref c)]) e_X10_wordHere_117 rfl rfl (by decide) rfl ?_
      refine m_goto F e_X10_wordHere_120 ?_
      refine Wm.lvsub (lv' := [(0, .ref c), (1, .int (n1 + 1)), (2, .int (nI (k + 1)))]) ?_ [2, 0, 1] rfl
      exact hO (n1 + 1) (k + 1) _ h1 (by omega) (by omega)
    · have hw105 := wb_47 (i := k) (by omega) q105
      refine m_iinc F (v := nI (k + 1)) (lv' := [(2, .int (nI (k + 1))), (0, .ref c), (1, .int n1)]) e_X10_wordHere_108 rfl (nI_add k 1) (by decide) rfl ?_
      refine m_goto F e_X10_wordHere_111 ?_
      refine Wm.lvsub (lv' := [(0, .ref c), (1, .int n1), (2, .int (nI (k + 1)))]) ?_ [1, 2, 0] rfl
      exact ih n1 (k + 1) _ h1 (by omega) (by omega)
set_option maxRecDepth 20000 in
theorem lq_X10_wordHere_15 {V : VX} {X : MX} {N : Nat} {σ : Mem} {c T Z u h : Nat} {P : NP} {L : Nat → LQ}   (F : Fx V X yX10_wordHere cX10_wordHere 4 (some .int) (rmd 4 0 0)) (hQ : Rt V X 0 0 N (fun r τ => HS V c (⟨T, Z, u, h, P, L⟩ : RG) [0, 1, 2, 3, 4, 5, 6, 7, 8, 9, 10, 11, 12, 13, 14, 15, 16, 17, 18, 19, 20, 21, 22, 23] σ τ ∧ ∃ x : Int32, r = some (.int x))) (hob : OKB L) (hP : OKP P)  {fuelO : Nat} (hO : ∀ (n1 : Int32) (k : Nat) (τ : Mem), HS V c (⟨T, Z, u, h, P, L⟩ : RG) [0, 1, 2, 3, 4, 5, 6, 7, 8, 9, 10, 11, 12, 13, 14, 15, 16, 17, 18, 19, 20, 21, 22, 23] σ τ → k ≤ 48 → 48 - k < fuelO → Wm V X 4 N τ 0 0 4 [(0, .ref c), (1, .int n1), (2, .int (nI k))] []) : ∀ (fuel : Nat) (n1 : Int32) (k : Nat) (i : Nat) (τ : Mem), HS V c (⟨T, Z, u, h, P, L⟩ : RG) [0, 1, 2, 3, 4, 5, 6, 7, 8, 9, 10, 11, 12, 13, 14, 15, 16, 17, 18, 19, 20, 21, 22, 23] σ τ → k + i ≤ 47 ∧ 48 - k ≤ fuelO → 48 - i < fuel → Wm V X 4 N τ 0 0 15 [(0, .ref c), (1, .int n1), (2, .int (nI k)), (3, .int (nI i))] [] := by
  intro fuel
  induction fuel with
  | zero => intros; rename_i hm; exact absurd hm (Nat.not_lt_zero _)
  | succ fuel ih =>
    intro n1 k i τ h1 hi hm
    have hPP := hP
    unfold OKP at hPP
    refine m_ldcS F e_X10_wordHere_15 F.sw.1.2.2 ?_
    refine m_iload_n F rfl e_X10_wordHere_17 ?_
    refine m_iload_n F rfl e_X10_wordHere_18 ?_
    refine m_iadd F e_X10_wordHere_19 ?_
    refine Wm.topE (w := nI (k + i)) (nI_add k i) ?_
    refine m_callO F e_X10_wordHere_20 (q_charAt (x_l X) V _ _ (k + i) (by omega)) cb_J0_charAt_5068e ml_X10_137 im_J0_charAt_5068e se_J0_charAt_5068e F.sw.2.2.2.2.2.2.1 rfl (rest := []) rfl (Nat.le_of_ble_eq_true rfl) ⟨Nat.le_of_ble_eq_true rfl, Nat.le_of_ble_eq_true rfl⟩ ⟨Nat.le_of_ble_eq_true rfl, Nat.le_of_ble_eq_true rfl⟩ (k' := 0) (z' := 0) (N' := N) rfl rfl rfl (fun r σ7772 hp => ?_)
    obtain ⟨rfl, rfl⟩ := hp
    refine m_bipush F (v := 32) (by decide) e_X10_wordHere_23 ?_
    refine m_icmp_eq F e_X10_wordHere_25 (fun q25 => ?_) (fun q25 => ?_)
    · refine m_ldcS F e_X10_wordHere_69 F.sw.1.2.2 ?_
      refine m_iload_n F rfl e_X10_wordHere_71 ?_
      refine m_iload_n F rfl e_X10_wordHere_72 ?_
      refine m_iadd F e_X10_wordHere_73 ?_
      refine Wm.topE (w := nI (k + i)) (nI_add k i) ?_
      refine m_callO F e_X10_wordHere_74 (q_charAt (x_l X) V _ _ (k + i) (by omega)) cb_J0_charAt_5068e ml_X10_137 im_J0_charAt_5068e se_J0_charAt_5068e F.sw.2.2.2.2.2.2.1 rfl (rest := []) rfl (Nat.le_of_ble_eq_true rfl) ⟨Nat.le_of_ble_eq_true rfl, Nat.le_of_ble_eq_true rfl⟩ ⟨Nat.le_of_ble_eq_true rfl, Nat.le_of_ble_eq_true rfl⟩ (k' := 0) (z' := 0) (N' := N) rfl rfl rfl (fun r σ7773 hp => ?_)
      obtain ⟨rfl, rfl⟩ := hp
      refine m_bipush F (v := 32) (by decide) e_X10_wordHere_77 ?_
      refine m_icmp_ne F e_X10_wordHere_79 (fun q79 => ?_) (fun q79 => ?_)
      · refine Wm.lvsub (lv' := [(0, .ref c), (1, .int n1), (2, .int (nI k))]) ?_ [0, 1, 2] rfl
        exact lq_X10_wordHere_97 F hQ hob hP  hO (48 - k + 1) n1 k _ h1 (by omega) (Nat.lt_succ_self _)
      · refine m_aload_n F rfl e_X10_wordHere_82 ?_
        refine r_get F e_X10_wordHere_83 fl_X10_107 h1 rfl (fun v hv f7774 => ?_)
        obtain ⟨n7775, hn7775, rfl⟩ := hv
        replace hn7775 : n7775 ≤ 700 := hn7775
        refine m_iload_n F rfl e_X10_wordHere_86 ?_
        refine m_iadd F e_X10_wordHere_87 ?_
        refine Wm.topE (w := nI (n7775 + i)) (nI_add n7775 i) ?_
        refine m_aload_n F rfl e_X10_wordHere_88 ?_
        refine r_get F e_X10_wordHere_89 fl_X10_97 h1 rfl (fun v hv f7776 => ?_)
        obtain rfl : v = .int (nI (P.a)) := hv
        refine m_icmp_ne F e_X10_wordHere_92 (fun q92 => ?_) (fun q92 => ?_)
        · have c92 : (n7775 + i) ≠ P.a := by have hh := mt (nI_eq (a := (n7775 + i)) (b := P.a) (by omega) (by omega)).mpr q92; omega
          refine Wm.lvsub (lv' := [(0, .ref c), (1, .int n1), (2, .int (nI k))]) ?_ [0, 1, 2] rfl
          exact lq_X10_wordHere_97 F hQ hob hP  hO (48 - k + 1) n1 k _ h1 (by omega) (Nat.lt_succ_self _)
        · have c92 : (n7775 + i) = P.a := (nI_eq (a := (n7775 + i)) (b := P.a) (by omega) (by omega)).mp q92
          refine m_iload_n F rfl e_X10_wordHere_95 ?_
          exact m_iret F hQ e_X10_wordHere_96 (⟨h1, _, rfl⟩)
    · have hw25 := wb_47 (i := k + i) (by omega) q25
      refine m_aload_n F rfl e_X10_wordHere_28 ?_
      refine r_get F e_X10_wordHere_29 fl_X10_107 h1 rfl (fun v hv f7777 => ?_)
      obtain ⟨n7778, hn7778, rfl⟩ := hv
      replace hn7778 : n7778 ≤ 700 := hn7778
      refine m_iload_n F rfl e_X10_wordHere_32 ?_
      refine m_iadd F e_X10_wordHere_33 ?_
      refine Wm.topE (w := nI (n7778 + i)) (nI_add n7778 i) ?_
      refine m_aload_n F rfl e_X10_wordHere_34 ?_
      refine r_get F e_X10_wordHere_35 fl_X10_97 h1 rfl (fun v hv f7779 => ?_)
      obtain rfl : v = .int (nI (P.a)) := hv
      refine m_icmp_ge F e_X10_wordHere_38 (fun q38 => ?_) (fun q38 => ?_)
      · have c38 : (n7778 + i) ≥ P.a := (nI_leI (a := P.a) (b := (n7778 + i)) (by omega) (by omega)).mp q38
        refine m_ldcS F e_X10_wordHere_69 F.sw.1.2.2 ?_
        refine m_iload_n F rfl e_X10_wordHere_71 ?_
        refine m_iload_n F rfl e_X10_wordHere_72 ?_
        refine m_iadd F e_X10_wordHere_73 ?_
        refine Wm.topE (w := nI (k + i)) (nI_add k i) ?_
        refine m_callO F e_X10_wordHere_74 (q_charAt (x_l X) V _ _ (k + i) (by omega)) cb_J0_charAt_5068e ml_X10_137 im_J0_charAt_5068e se_J0_charAt_5068e F.sw.2.2.2.2.2.2.1 rfl (rest := []) rfl (Nat.le_of_ble_eq_true rfl) ⟨Nat.le_of_ble_eq_true rfl, Nat.le_of_ble_eq_true rfl⟩ ⟨Nat.le_of_ble_eq_true rfl, Nat.le_of_ble_eq_true rfl⟩ (k' := 0) (z' := 0) (N' := N) rfl rfl rfl (fun r σ7780 hp => ?_)
        obtain ⟨rfl, rfl⟩ := hp
        refine m_bipush F (v := 32) (by decide) e_X10_wordHere_77 ?_
        refine m_icmp_ne F e_X10_wordHere_79 (fun q79 => ?_) (fun q79 => ?_)
        · refine Wm.lvsub (lv' := [(0, .ref c), (1, .int n1), (2, .int (nI k))]) ?_ [0, 1, 2] rfl
          exact lq_X10_wordHere_97 F hQ hob hP  hO (48 - k + 1) n1 k _ h1 (by omega) (Nat.lt_succ_self _)
        · refine m_aload_n F rfl e_X10_wordHere_82 ?_
          refine r_getC F e_X10_wordHere_83 fl_X10_107 h1 (f7777) ?_
          refine m_iload_n F rfl e_X10_wordHere_86 ?_
          refine m_iadd F e_X10_wordHere_87 ?_
          refine Wm.topE (w := nI (n7778 + i)) (nI_add n7778 i) ?_
          refine m_aload_n F rfl e_X10_wordHere_88 ?_
          refine r_getC F e_X10_wordHere_89 fl_X10_97 h1 (f7779) ?_
          refine m_icmp_ne F e_X10_wordHere_92 (fun q92 => ?_) (fun q92 => ?_)
          · have c92 : (n7778 + i) ≠ P.a := by have hh := mt (nI_eq (a := (n7778 + i)) (b := P.a) (by omega) (by omega)).mpr q92; omega
            refine Wm.lvsub (lv' := [(0, .ref c), (1, .int n1), (2, .int (nI k))]) ?_ [0, 1, 2] rfl
            exact lq_X10_wordHere_97 F hQ hob hP  hO (48 - k + 1) n1 k _ h1 (by omega) (Nat.lt_succ_self _)
          · have c92 : (n7778 + i) = P.a := (nI_eq (a := (n7778 + i)) (b := P.a) (by omega) (by omega)).mp q92
            refine m_iload_n F rfl e_X10_wordHere_95 ?_
            exact m_iret F hQ e_X10_wordHere_96 (⟨h1, _, rfl⟩)
      · have c38 : (n7778 + i) < P.a := by have hh := mt (nI_leI (a := P.a) (b := (n7778 + i)) (by omega) (by omega)).mpr q38; omega
        refine m_aload_n F rfl e_X10_wordHere_41 ?_
        refine r_get F e_X10_wordHere_42 fl_X10_7 h1 rfl (fun v hv f7781 => ?_)
        obtain rfl : v = .ref (c + 1) := hv
        refine m_aload_n F rfl e_X10_wordHere_45 ?_
        refine r_getC F e_X10_wordHere_46 fl_X10_107 h1 (f7777) ?_
        refine m_iload_n F rfl e_X10_wordHere_49 ?_
        refine m_iadd F e_X10_wordHere_50 ?_
        refine Wm.topE (w := nI (n7778 + i)) (nI_add n7778 i) ?_
        refine r_iald F (len := 700) (j := n7778 + i) e_X10_wordHere_51 h1 (fun _ h => h) (by decide) (nI_clamp (by omega)) (vp_in_nI (by omega) (by decide)) (fun x7782 h7783 f7784 => ?_)
        refine m_ldcS F e_X10_wordHere_52 F.sw.1.2.2 ?_
        refine m_iload_n F rfl e_X10_wordHere_54 ?_
        refine m_iload_n F rfl e_X10_wordHere_55 ?_
        refine m_iadd F e_X10_wordHere_56 ?_
        refine Wm.topE (w := nI (k + i)) (nI_add k i) ?_
        refine m_callO F e_X10_wordHere_57 (q_charAt (x_l X) V _ _ (k + i) (by omega)) cb_J0_charAt_5068e ml_X10_137 im_J0_charAt_5068e se_J0_charAt_5068e F.sw.2.2.2.2.2.2.1 rfl (rest := [.int x7782]) rfl (Nat.le_of_ble_eq_true rfl) ⟨Nat.le_of_ble_eq_true rfl, Nat.le_of_ble_eq_true rfl⟩ ⟨Nat.le_of_ble_eq_true rfl, Nat.le_of_ble_eq_true rfl⟩ (k' := 0) (z' := 0) (N' := N) rfl rfl rfl (fun r σ7785 hp => ?_)
        obtain ⟨rfl, rfl⟩ := hp
        refine m_icmp_ne F e_X10_wordHere_60 (fun q60 => ?_) (fun q60 => ?_)
        · refine m_ldcS F e_X10_wordHere_69 F.sw.1.2.2 ?_
          refine m_iload_n F rfl e_X10_wordHere_71 ?_
          refine m_iload_n F rfl e_X10_wordHere_72 ?_
          refine m_iadd F e_X10_wordHere_73 ?_
          refine Wm.topE (w := nI (k + i)) (nI_add k i) ?_
          refine m_callO F e_X10_wordHere_74 (q_charAt (x_l X) V _ _ (k + i) (by omega)) cb_J0_charAt_5068e ml_X10_137 im_J0_charAt_5068e se_J0_charAt_5068e F.sw.2.2.2.2.2.2.1 rfl (rest := []) rfl (Nat.le_of_ble_eq_true rfl) ⟨Nat.le_of_ble_eq_true rfl, Nat.le_of_ble_eq_true rfl⟩ ⟨Nat.le_of_ble_eq_true rfl, Nat.le_of_ble_eq_true rfl⟩ (k' := 0) (z' := 0) (N' := N) rfl rfl rfl (fun r σ7786 hp => ?_)
          obtain ⟨rfl, rfl⟩ := hp
          refine m_bipush F (v := 32) (by decide) e_X10_wordHere_77 ?_
          refine m_icmp_ne F e_X10_wordHere_79 (fun q79 => ?_) (fun q79 => ?_)
          · refine Wm.lvsub (lv' := [(0, .ref c), (1, .int n1), (2, .int (nI k))]) ?_ [0, 1, 2] rfl
            exact lq_X10_wordHere_97 F hQ hob hP  hO (48 - k + 1) n1 k _ h1 (by omega) (Nat.lt_succ_self _)
          · refine m_aload_n F rfl e_X10_wordHere_82 ?_
            refine r_getC F e_X10_wordHere_83 fl_X10_107 h1 (f7777) ?_
            refine m_iload_n F rfl e_X10_wordHere_86 ?_
            refine m_iadd F e_X10_wordHere_87 ?_
            refine Wm.topE (w := nI (n7778 + i)) (nI_add n7778 i) ?_
            refine m_aload_n F rfl e_X10_wordHere_88 ?_
            refine r_getC F e_X10_wordHere_89 fl_X10_97 h1 (f7779) ?_
            refine m_icmp_ne F e_X10_wordHere_92 (fun q92 => ?_) (fun q92 => ?_)
            · have c92 : (n7778 + i) ≠ P.a := by have hh := mt (nI_eq (a := (n7778 + i)) (b := P.a) (by omega) (by omega)).mpr q92; omega
              refine Wm.lvsub (lv' := [(0, .ref c), (1, .int n1), (2, .int (nI k))]) ?_ [0, 1, 2] rfl
              exact lq_X10_wordHere_97 F hQ hob hP  hO (48 - k + 1) n1 k _ h1 (by omega) (Nat.lt_succ_self _)
            · have c92 : (n7778 + i) = P.a := (nI_eq (a := (n7778 + i)) (b := P.a) (by omega) (by omega)).mp q92
              refine m_iload_n F rfl e_X10_wordHere_95 ?_
              exact m_iret F hQ e_X10_wordHere_96 (⟨h1, _, rfl⟩)
        · refine m_iinc F (v := nI (i + 1)) (lv' := [(3, .int (nI (i + 1))), (0, .ref c), (1, .int n1), (2, .int (nI k))]) e_X10_wordHere_63 rfl (nI_add i 1) (by decide) rfl ?_
          refine m_goto F e_X10_wordHere_66 ?_
          refine Wm.lvsub (lv' := [(0, .ref c), (1, .int n1), (2, .int (nI k)), (3, .int (nI (i + 1)))]) ?_ [1, 2, 3, 0] rfl
          exact ih n1 k (i + 1) _ h1 (by omega) (by omega)
set_option maxRecDepth 20000 in
theorem lq_X10_wordHere_4 {V : VX} {X : MX} {N : Nat} {σ : Mem} {c T Z u h : Nat} {P : NP} {L : Nat → LQ}   (F : Fx V X yX10_wordHere cX10_wordHere 4 (some .int) (rmd 4 0 0)) (hQ : Rt V X 0 0 N (fun r τ => HS V c (⟨T, Z, u, h, P, L⟩ : RG) [0, 1, 2, 3, 4, 5, 6, 7, 8, 9, 10, 11, 12, 13, 14, 15, 16, 17, 18, 19, 20, 21, 22, 23] σ τ ∧ ∃ x : Int32, r = some (.int x))) (hob : OKB L) (hP : OKP P)   : ∀ (fuel : Nat) (n1 : Int32) (k : Nat) (τ : Mem), HS V c (⟨T, Z, u, h, P, L⟩ : RG) [0, 1, 2, 3, 4, 5, 6, 7, 8, 9, 10, 11, 12, 13, 14, 15, 16, 17, 18, 19, 20, 21, 22, 23] σ τ → k ≤ 48 → 48 - k < fuel → Wm V X 4 N τ 0 0 4 [(0, .ref c), (1, .int n1), (2, .int (nI k))] [] := by
  intro fuel
  induction fuel with
  | zero => intros; rename_i hm; exact absurd hm (Nat.not_lt_zero _)
  | succ fuel ih =>
    intro n1 k τ h1 hi hm
    have hPP := hP
    unfold OKP at hPP
    refine m_iload_n F rfl e_X10_wordHere_4 ?_
    refine m_ldcS F e_X10_wordHere_5 F.sw.1.2.2 ?_
    refine m_callO F e_X10_wordHere_7 (q_length (x_l X) V _ _) cb_J0_length_8abf5 ml_X10_132 im_J0_length_8abf5 se_J0_length_8abf5 F.sw.2.2.2.2.2.2.1 rfl (rest := [.int (nI k)]) rfl (Nat.le_of_ble_eq_true rfl) ⟨Nat.le_of_ble_eq_true rfl, Nat.le_of_ble_eq_true rfl⟩ ⟨Nat.le_of_ble_eq_true rfl, Nat.le_of_ble_eq_true rfl⟩ (k' := 0) (z' := 0) (N' := N) rfl rfl rfl (fun r σ7787 hp => ?_)
    obtain ⟨rfl, rfl⟩ := hp
    refine m_icmp_ge F e_X10_wordHere_10 (fun q10 => ?_) (fun q10 => ?_)
    · have c10 : k ≥ 48 := (nI_leI (a := 48) (b := k) (by omega) (by omega)).mp q10
      refine m_iconst F (v := (-1)) (by decide) e_X10_wordHere_123 ?_
      exact m_iret F hQ e_X10_wordHere_124 (⟨h1, _, rfl⟩)
    · have c10 : k < 48 := by have hh := mt (nI_leI (a := 48) (b := k) (by omega) (by omega)).mpr q10; omega
      refine m_iconst F (v := 0) (by decide) e_X10_wordHere_13 ?_
      refine m_istore_n F (lv' := [(3, .int 0), (0, .ref c), (1, .int n1), (2, .int (nI k))]) e_X10_wordHere_14 (by decide) rfl ?_
      refine Wm.lvsub (lv' := [(0, .ref c), (1, .int n1), (2, .int (nI k)), (3, .int 0)]) ?_ [1, 2, 3, 0] rfl
      exact lq_X10_wordHere_15 F hQ hob hP  ih (48 - 0 + 1) n1 k 0 _ h1 (by omega) (Nat.lt_succ_self _)
set_option maxRecDepth 20000 in
theorem q_X10_wordHere (l : Launch) (V : VX) (c T Z u h : Nat) (P : NP) (L : Nat → LQ) (N : Nat) (σ : Mem)  (h0 : HR V c ⟨T, Z, u, h, P, L⟩ σ) (hob : OKB L) (hP : OKP P)  : Ct l V yX10_wordHere cX10_wordHere 4 (some .int) 4 0 0 N σ [.ref c] (fun r τ => HS V c (⟨T, Z, u, h, P, L⟩ : RG) [0, 1, 2, 3, 4, 5, 6, 7, 8, 9, 10, 11, 12, 13, 14, 15, 16, 17, 18, 19, 20, 21, 22, 23] σ τ ∧ ∃ x : Int32, r = some (.int x)) := by
  refine Ct.of (by decide) (Nat.le_of_ble_eq_true rfl) [(0, .ref c)] rfl (fun X hX F hQ => ?_)
  have hPP := hP
  unfold OKP at hPP
  have h1 : HS V c ⟨T, Z, u, h, P, L⟩ [0, 1, 2, 3, 4, 5, 6, 7, 8, 9, 10, 11, 12, 13, 14, 15, 16, 17, 18, 19, 20, 21, 22, 23] σ σ := HS.start h0
  refine m_iconst F (v := 0) (by decide) e_X10_wordHere_0 ?_
  refine m_istore_n F (lv' := [(1, .int 0), (0, .ref c)]) e_X10_wordHere_1 (by decide) rfl ?_
  refine m_iconst F (v := 0) (by decide) e_X10_wordHere_2 ?_
  refine m_istore_n F (lv' := [(2, .int 0), (1, .int 0), (0, .ref c)]) e_X10_wordHere_3 (by decide) rfl ?_
  refine Wm.lvsub (lv' := [(0, .ref c), (1, .int 0), (2, .int 0)]) ?_ [2, 1, 0] rfl
  exact lq_X10_wordHere_4 F hQ hob hP  (48 - 0 + 1) 0 0 _ h1 (by omega) (Nat.lt_succ_self _)
set_option maxRecDepth 20000 in
theorem lq_X10_nameHere_7 {V : VX} {X : MX} {N : Nat} {σ : Mem} {c T Z u h : Nat} {P : NP} {L : Nat → LQ}   (F : Fx V X yX10_nameHere cX10_nameHere 2 none (rmd 0 0 0)) (hQ : Rt V X 0 0 N (fun r τ => HS V c (⟨T, Z, u, h, P, L⟩ : RG) [0, 2, 3, 4, 5, 6, 7, 8, 9, 10, 11, 12, 13, 14, 15, 16, 17, 18, 19, 20, 21, 22, 23] σ τ ∧ r = none)) (hob : OKB L) (hP : OKP P)   : ∀ (fuel : Nat) (i : Nat) (τ : Mem), HS V c (⟨T, Z, u, h, P, L⟩ : RG) [0, 2, 3, 4, 5, 6, 7, 8, 9, 10, 11, 12, 13, 14, 15, 16, 17, 18, 19, 20, 21, 22, 23] σ τ → i ≤ 6 → 6 - i < fuel → Wm V X 2 N τ 0 0 7 [(0, .ref c), (1, .int (nI i))] [] := by
  intro fuel
  induction fuel with
  | zero => intros; rename_i hm; exact absurd hm (Nat.not_lt_zero _)
  | succ fuel ih =>
    intro i τ h1 hi hm
    have hPP := hP
    unfold OKP at hPP
    refine m_iload_n F rfl e_X10_nameHere_7 ?_
    refine m_bipush F (v := 6) (by decide) e_X10_nameHere_8 ?_
    refine m_icmp_ge F e_X10_nameHere_10 (fun q10 => ?_) (fun q10 => ?_)
    · have c10 : i ≥ 6 := (nI_leI (a := 6) (b := i) (by omega) (by omega)).mp q10
      exact m_vret F hQ e_X10_nameHere_63 (⟨h1, rfl⟩)
    · have c10 : i < 6 := by have hh := mt (nI_leI (a := 6) (b := i) (by omega) (by omega)).mpr q10; omega
      refine m_aload_n F rfl e_X10_nameHere_13 ?_
      refine m_aload_n F rfl e_X10_nameHere_14 ?_
      refine r_get F e_X10_nameHere_15 fl_X10_120 h1 rfl (fun v hv f7788 => ?_)
      obtain ⟨x7789, rfl⟩ := hv
      refine m_iconst F (v := 5) (by decide) e_X10_nameHere_18 ?_
      refine m_ishl F e_X10_nameHere_19 ?_
      refine Wm.top (fun x7790 _ => ?_)
      refine m_aload_n F rfl e_X10_nameHere_20 ?_
      refine r_get F e_X10_nameHere_21 fl_X10_107 h1 rfl (fun v hv f7791 => ?_)
      obtain ⟨n7792, hn7792, rfl⟩ := hv
      replace hn7792 : n7792 ≤ 700 := hn7792
      refine m_iload_n F rfl e_X10_nameHere_24 ?_
      refine m_iadd F e_X10_nameHere_25 ?_
      refine Wm.topE (w := nI (n7792 + i)) (nI_add n7792 i) ?_
      refine m_aload_n F rfl e_X10_nameHere_26 ?_
      refine r_get F e_X10_nameHere_27 fl_X10_97 h1 rfl (fun v hv f7793 => ?_)
      obtain rfl : v = .int (nI (P.a)) := hv
      refine m_icmp_ge F e_X10_nameHere_30 (fun q30 => ?_) (fun q30 => ?_)
      · have c30 : (n7792 + i) ≥ P.a := (nI_leI (a := P.a) (b := (n7792 + i)) (by omega) (by omega)).mp q30
        refine m_iconst F (v := 0) (by decide) e_X10_nameHere_52 ?_
        refine m_ior F e_X10_nameHere_53 ?_
        refine Wm.top (fun x7794 _ => ?_)
        refine r_put F (g' := (⟨T, Z, u, h, P, L⟩ : RG)) e_X10_nameHere_54 fp_X10_120 h1 (by decide) ⟨_, rfl⟩ (fun _ _ _ _ q => q) (fun _ _ _ q => q) rfl rfl (by decide) (fun σ7795 h7796 g7797 g7798 f7799 => ?_)
        refine m_iinc F (v := nI (i + 1)) (lv' := [(1, .int (nI (i + 1))), (0, .ref c)]) e_X10_nameHere_57 rfl (nI_add i 1) (by decide) rfl ?_
        refine m_goto F e_X10_nameHere_60 ?_
        refine Wm.lvsub (lv' := [(0, .ref c), (1, .int (nI (i + 1)))]) ?_ [1, 0] rfl
        exact ih (i + 1) _ h7796 (by omega) (by omega)
      · have c30 : (n7792 + i) < P.a := by have hh := mt (nI_leI (a := P.a) (b := (n7792 + i)) (by omega) (by omega)).mpr q30; omega
        refine m_aload_n F rfl e_X10_nameHere_33 ?_
        refine r_get F e_X10_nameHere_34 fl_X10_7 h1 rfl (fun v hv f7800 => ?_)
        obtain rfl : v = .ref (c + 1) := hv
        refine m_aload_n F rfl e_X10_nameHere_37 ?_
        refine r_getC F e_X10_nameHere_38 fl_X10_107 h1 (f7791) ?_
        refine m_iload_n F rfl e_X10_nameHere_41 ?_
        refine m_iadd F e_X10_nameHere_42 ?_
        refine Wm.topE (w := nI (n7792 + i)) (nI_add n7792 i) ?_
        refine r_iald F (len := 700) (j := n7792 + i) e_X10_nameHere_43 h1 (fun _ h => h) (by decide) (nI_clamp (by omega)) (vp_in_nI (by omega) (by decide)) (fun x7801 h7802 f7803 => ?_)
        refine m_bipush F (v := 97) (by decide) e_X10_nameHere_44 ?_
        refine m_isub F e_X10_nameHere_46 ?_
        refine Wm.top (fun x7804 _ => ?_)
        refine m_iconst F (v := 1) (by decide) e_X10_nameHere_47 ?_
        refine m_iadd F e_X10_nameHere_48 ?_
        refine Wm.top (fun x7805 _ => ?_)
        refine m_goto F e_X10_nameHere_49 ?_
        refine m_ior F e_X10_nameHere_53 ?_
        refine Wm.top (fun x7806 _ => ?_)
        refine r_put F (g' := (⟨T, Z, u, h, P, L⟩ : RG)) e_X10_nameHere_54 fp_X10_120 h1 (by decide) ⟨_, rfl⟩ (fun _ _ _ _ q => q) (fun _ _ _ q => q) rfl rfl (by decide) (fun σ7807 h7808 g7809 g7810 f7811 => ?_)
        refine m_iinc F (v := nI (i + 1)) (lv' := [(1, .int (nI (i + 1))), (0, .ref c)]) e_X10_nameHere_57 rfl (nI_add i 1) (by decide) rfl ?_
        refine m_goto F e_X10_nameHere_60 ?_
        refine Wm.lvsub (lv' := [(0, .ref c), (1, .int (nI (i + 1)))]) ?_ [1, 0] rfl
        exact ih (i + 1) _ h7808 (by omega) (by omega)
set_option maxRecDepth 20000 in
theorem q_X10_nameHere (l : Launch) (V : VX) (c T Z u h : Nat) (P : NP) (L : Nat → LQ) (N : Nat) (σ : Mem)  (h0 : HR V c ⟨T, Z, u, h, P, L⟩ σ) (hob : OKB L) (hP : OKP P)  : Ct l V yX10_nameHere cX10_nameHere 2 none 0 0 0 N σ [.ref c] (fun r τ => HS V c (⟨T, Z, u, h, P, L⟩ : RG) [0, 2, 3, 4, 5, 6, 7, 8, 9, 10, 11, 12, 13, 14, 15, 16, 17, 18, 19, 20, 21, 22, 23] σ τ ∧ r = none) := by
  refine Ct.of (by decide) (Nat.le_of_ble_eq_true rfl) [(0, .ref c)] rfl (fun X hX F hQ => ?_)
  have hPP := hP
  unfold OKP at hPP
  have h1 : HS V c ⟨T, Z, u, h, P, L⟩ [0, 2, 3, 4, 5, 6, 7, 8, 9, 10, 11, 12, 13, 14, 15, 16, 17, 18, 19, 20, 21, 22, 23] σ σ := HS.start h0
  refine m_aload_n F rfl e_X10_nameHere_0 ?_
  refine m_iconst F (v := 0) (by decide) e_X10_nameHere_1 ?_
  refine r_put F (g' := (⟨T, Z, u, h, P, L⟩ : RG)) e_X10_nameHere_2 fp_X10_120 h1 (by decide) ⟨_, rfl⟩ (fun _ _ _ _ q => q) (fun _ _ _ q => q) rfl rfl (by decide) (fun σ7812 h7813 g7814 g7815 f7816 => ?_)
  refine m_iconst F (v := 0) (by decide) e_X10_nameHere_5 ?_
  refine m_istore_n F (lv' := [(1, .int 0), (0, .ref c)]) e_X10_nameHere_6 (by decide) rfl ?_
  refine Wm.lvsub (lv' := [(0, .ref c), (1, .int 0)]) ?_ [1, 0] rfl
  exact lq_X10_nameHere_7 F hQ hob hP  (6 - 0 + 1) 0 _ h7813 (by omega) (Nat.lt_succ_self _)
set_option maxRecDepth 20000 in
theorem lq_X10_token_162 {V : VX} {X : MX} {N : Nat} {σ : Mem} {c T Z u h : Nat} {P : NP} {L : Nat → LQ}   (F : Fx V X yX10_token cX10_token 2 none (rmd 5 0 0)) (hQ : Rt V X 0 0 N (fun r τ => ∃ P9 : NP, OKP P9 ∧ RA P P9 ∧ (fld τ c 21 = some (.int 4) ∨ P.a < P9.a) ∧ HS V c (⟨T, Z, u, h, P9, L⟩ : RG) [0, 2, 3, 4, 5, 6, 7, 8, 9, 10, 11, 12, 13, 14, 15, 16, 17, 18, 19, 20, 21, 22, 23] σ τ ∧ r = none)) (hob : OKB L) (hP : OKP P)   : ∀ (fuel : Nat)  (P1 : NP) (τ : Mem), HS V c (⟨T, Z, u, h, P1, L⟩ : RG) [0, 2, 3, 4, 5, 6, 7, 8, 9, 10, 11, 12, 13, 14, 15, 16, 17, 18, 19, 20, 21, 22, 23] σ τ → OKP P1 → RA P P1 → P.a < P1.a → 700 - P1.a < fuel → Wm V X 2 N τ 0 0 162 [(0, .ref c)] [] := by
  intro fuel
  induction fuel with
  | zero => intros; rename_i hm; exact absurd hm (Nat.not_lt_zero _)
  | succ fuel ih =>
    intro  P1 τ h1 hP1 hR1 hi hm
    have hPP := hP
    unfold OKP at hPP
    have hPP1 := hP1
    unfold OKP at hPP1
    unfold RA at hR1
    refine m_aload_n F rfl e_X10_token_162 ?_
    refine r_callV F e_X10_token_163 (q_X10_here (x_l X) V c T Z u h P1 L _ _  h1.1 (hob) hP1 ) cb_X10_here ml_X10_103 im_X10_here se_X10_here h1 rfl rfl (rest := []) rfl (Nat.le_of_ble_eq_true rfl) ⟨Nat.le_of_ble_eq_true rfl, Nat.le_of_ble_eq_true rfl⟩ ⟨Nat.le_of_ble_eq_true rfl, Nat.le_of_ble_eq_true rfl⟩ (fun r σ7817 hp => ?_)
    obtain ⟨h7818, x7820, gex7820, rfl⟩ := hp
    have h7819 := HS.trans h1 h7818 (by decide)
    refine m_callS F e_X10_token_166 (q_X10_isDigit2 (x_l X) V _ _ x7820 ) cb_X10_isDigit ml_X10_126 sm_X10_isDigit rfl (rest := []) rfl (Nat.le_of_ble_eq_true rfl) ⟨Nat.le_of_ble_eq_true rfl, Nat.le_of_ble_eq_true rfl⟩ ⟨Nat.le_of_ble_eq_true rfl, Nat.le_of_ble_eq_true rfl⟩ (k' := 0) (z' := 0) (N' := N) rfl rfl rfl (fun r σ7821 hp => ?_)
    obtain ⟨rfl, c7824⟩ := hp
    rcases c7824 with ⟨g7825, rfl⟩ | ⟨g7825, rfl⟩
    · refine m_if_eq F e_X10_token_169 (fun _ => ?_) (fun q => absurd (by decide) q)
      exact m_vret F hQ e_X10_token_245 (⟨P1, hP1, (by unfold RA; omega), (Or.inr (by omega)), h7819, rfl⟩)
    · refine m_if_eq F e_X10_token_169 (fun q => absurd q (by decide)) (fun _ => ?_)
      have ha7826 := gex7820.lt (fun e => g7825.1 (by rw [e]; decide))
      have ha7827 := gex7820.lt (fun e => g7825.1 (by rw [e]; decide))
      have ha7828 := gex7820.lt (fun e => g7825.1 (by rw [e]; decide))
      refine m_aload_n F rfl e_X10_token_172 ?_
      refine m_aload_n F rfl e_X10_token_173 ?_
      refine r_get F e_X10_token_174 fl_X10_120 h7819 rfl (fun v hv f7829 => ?_)
      obtain ⟨x7830, rfl⟩ := hv
      refine m_ldc F kc_X10_129 e_X10_token_177 ?_
      refine m_icmp_le F e_X10_token_179 (fun q179 => ?_) (fun q179 => ?_)
      · refine m_bipush F (v := 10) (by decide) e_X10_token_189 ?_
        refine m_aload_n F rfl e_X10_token_191 ?_
        refine r_getC F e_X10_token_192 fl_X10_120 h7819 (f7829) ?_
        refine m_imul F e_X10_token_195 ?_
        refine Wm.top (fun x7831 _ => ?_)
        refine m_aload_n F rfl e_X10_token_196 ?_
        refine r_callV F e_X10_token_197 (q_X10_here (x_l X) V c T Z u h P1 L _ _  h7819.1 (hob) hP1 ) cb_X10_here ml_X10_103 im_X10_here se_X10_here h7819 rfl rfl (rest := [.int x7831, .ref c]) rfl (Nat.le_of_ble_eq_true rfl) ⟨Nat.le_of_ble_eq_true rfl, Nat.le_of_ble_eq_true rfl⟩ ⟨Nat.le_of_ble_eq_true rfl, Nat.le_of_ble_eq_true rfl⟩ (fun r σ7832 hp => ?_)
        obtain ⟨h7833, x7835, gex7835, rfl⟩ := hp
        have h7834 := HS.trans h7819 h7833 (by decide)
        have he7836 := gex7820.of (fld_eq (h7833.2 c (by rw [show kC c c = 1 from kC_at (k := 0) (by decide)]; decide))) (elI_eq (h7833.2 (c + 1) (by rw [kC_at (k := 1) (by decide)]; decide)))
        obtain rfl : x7820 = x7835 := HE.uniq he7836 gex7835
        refine m_iadd F e_X10_token_200 ?_
        refine Wm.top (fun x7837 _ => ?_)
        refine m_bipush F (v := 48) (by decide) e_X10_token_201 ?_
        refine m_isub F e_X10_token_203 ?_
        refine Wm.top (fun x7838 _ => ?_)
        refine r_put F (g' := (⟨T, Z, u, h, P1, L⟩ : RG)) e_X10_token_204 fp_X10_120 h7834 (by decide) ⟨_, rfl⟩ (fun _ _ _ _ q => q) (fun _ _ _ q => q) rfl rfl (by decide) (fun σ7839 h7840 g7841 g7842 f7843 => ?_)
        have he7844 := gex7835.of (g7842 18 (by decide)) (elI_eq (g7841 _ (by omega)))
        refine m_aload_n F rfl e_X10_token_207 ?_
        refine m_dup F rfl e_X10_token_208 ?_
        refine r_get F e_X10_token_209 fl_X10_97 h7840 rfl (fun v hv f7845 => ?_)
        obtain rfl : v = .int (nI (P1.a)) := hv
        refine m_iconst F (v := 1) (by decide) e_X10_token_212 ?_
        refine m_iadd F e_X10_token_213 ?_
        refine Wm.topE (w := nI (P1.a + 1)) (nI_add P1.a 1) ?_
        refine r_put F (g' := (⟨T, Z, u, h, (mkP P1.n0 P1.n2 P1.n5 P1.n7 P1.m0 P1.m5 P1.w2 P1.w7 P1.kk (P1.a + 1)), L⟩ : RG)) e_X10_token_214 fp_X10_97 h7840 (by decide) rfl ctl_a CR.setA rfl rfl (by decide) (fun σ7846 h7847 g7848 g7849 f7850 => ?_)
        obtain ⟨P7851, eP7851⟩ : ∃ P9, P9 = (mkP P1.n0 P1.n2 P1.n5 P1.n7 P1.m0 P1.m5 P1.w2 P1.w7 P1.kk (P1.a + 1)) := ⟨_, rfl⟩
        rw [← eP7851] at h7847
        have fP7851 : P7851.n0 = P1.n0 ∧ P7851.n2 = P1.n2 ∧ P7851.n5 = P1.n5 ∧ P7851.n7 = P1.n7 ∧ P7851.m0 = P1.m0 ∧ P7851.m5 = P1.m5 ∧ P7851.w2 = P1.w2 ∧ P7851.w7 = P1.w7 ∧ P7851.kk = P1.kk ∧ P7851.a = P1.a + 1 := by rw [eP7851]; exact ⟨rfl, rfl, rfl, rfl, rfl, rfl, rfl, rfl, rfl, rfl⟩
        have he7852 := he7844.of (g7849 18 (by decide)) (elI_eq (g7848 _ (by omega)))
        refine m_goto F e_X10_token_217 ?_
        have oP7853 : OKP P7851 := by unfold OKP; omega
        exact ih  P7851 _ h7847 oP7853 (by unfold RA; omega) (by omega) (by omega)
      · obtain ⟨n7854, hn7854, rfl⟩ := nI_nn (x := x7830) (fun e => q179 (Int32.le_trans (Int32.le_of_lt e) (by decide)))
        have c179 : n7854 > 9999999 := by have hh := mt (nI_leI (a := n7854) (b := 9999999) (by omega) (by omega)).mpr q179; omega
        refine m_aload_n F rfl e_X10_token_182 ?_
        refine r_getC F e_X10_token_183 fl_X10_120 h7819 (f7829) ?_
        refine m_goto F e_X10_token_186 ?_
        refine r_put F (g' := (⟨T, Z, u, h, P1, L⟩ : RG)) e_X10_token_204 fp_X10_120 h7819 (by decide) ⟨_, rfl⟩ (fun _ _ _ _ q => q) (fun _ _ _ q => q) rfl rfl (by decide) (fun σ7855 h7856 g7857 g7858 f7859 => ?_)
        have he7860 := gex7820.of (g7858 18 (by decide)) (elI_eq (g7857 _ (by omega)))
        refine m_aload_n F rfl e_X10_token_207 ?_
        refine m_dup F rfl e_X10_token_208 ?_
        refine r_get F e_X10_token_209 fl_X10_97 h7856 rfl (fun v hv f7861 => ?_)
        obtain rfl : v = .int (nI (P1.a)) := hv
        refine m_iconst F (v := 1) (by decide) e_X10_token_212 ?_
        refine m_iadd F e_X10_token_213 ?_
        refine Wm.topE (w := nI (P1.a + 1)) (nI_add P1.a 1) ?_
        refine r_put F (g' := (⟨T, Z, u, h, (mkP P1.n0 P1.n2 P1.n5 P1.n7 P1.m0 P1.m5 P1.w2 P1.w7 P1.kk (P1.a + 1)), L⟩ : RG)) e_X10_token_214 fp_X10_97 h7856 (by decide) rfl ctl_a CR.setA rfl rfl (by decide) (fun σ7862 h7863 g7864 g7865 f7866 => ?_)
        obtain ⟨P7867, eP7867⟩ : ∃ P9, P9 = (mkP P1.n0 P1.n2 P1.n5 P1.n7 P1.m0 P1.m5 P1.w2 P1.w7 P1.kk (P1.a + 1)) := ⟨_, rfl⟩
        rw [← eP7867] at h7863
        have fP7867 : P7867.n0 = P1.n0 ∧ P7867.n2 = P1.n2 ∧ P7867.n5 = P1.n5 ∧ P7867.n7 = P1.n7 ∧ P7867.m0 = P1.m0 ∧ P7867.m5 = P1.m5 ∧ P7867.w2 = P1.w2 ∧ P7867.w7 = P1.w7 ∧ P7867.kk = P1.kk ∧ P7867.a = P1.a + 1 := by rw [eP7867]; exact ⟨rfl, rfl, rfl, rfl, rfl, rfl, rfl, rfl, rfl, rfl⟩
        have he7868 := he7860.of (g7865 18 (by decide)) (elI_eq (g7864 _ (by omega)))
        refine m_goto F e_X10_token_217 ?_
        have oP7869 : OKP P7867 := by unfold OKP; omega
        exact ih  P7867 _ h7863 oP7869 (by unfold RA; omega) (by omega) (by omega)
set_option maxRecDepth 20000 in
theorem lq_X10_token_64 {V : VX} {X : MX} {N : Nat} {σ : Mem} {c T Z u h : Nat} {P : NP} {L : Nat → LQ}   (F : Fx V X yX10_token cX10_token 2 none (rmd 5 0 0)) (hQ : Rt V X 0 0 N (fun r τ => ∃ P9 : NP, OKP P9 ∧ RA P P9 ∧ (fld τ c 21 = some (.int 4) ∨ P.a < P9.a) ∧ HS V c (⟨T, Z, u, h, P9, L⟩ : RG) [0, 2, 3, 4, 5, 6, 7, 8, 9, 10, 11, 12, 13, 14, 15, 16, 17, 18, 19, 20, 21, 22, 23] σ τ ∧ r = none)) (hob : OKB L) (hP : OKP P)   : ∀ (fuel : Nat)  (P1 : NP) (τ : Mem), HS V c (⟨T, Z, u, h, P1, L⟩ : RG) [0, 2, 3, 4, 5, 6, 7, 8, 9, 10, 11, 12, 13, 14, 15, 16, 17, 18, 19, 20, 21, 22, 23] σ τ → OKP P1 → RA P P1 → P.a < P1.a → 700 - P1.a < fuel → Wm V X 2 N τ 0 0 64 [(0, .ref c)] [] := by
  intro fuel
  induction fuel with
  | zero => intros; rename_i hm; exact absurd hm (Nat.not_lt_zero _)
  | succ fuel ih =>
    intro  P1 τ h1 hP1 hR1 hi hm
    have hPP := hP
    unfold OKP at hPP
    have hPP1 := hP1
    unfold OKP at hPP1
    unfold RA at hR1
    refine m_aload_n F rfl e_X10_token_64 ?_
    refine r_callV F e_X10_token_65 (q_X10_here (x_l X) V c T Z u h P1 L _ _  h1.1 (hob) hP1 ) cb_X10_here ml_X10_103 im_X10_here se_X10_here h1 rfl rfl (rest := []) rfl (Nat.le_of_ble_eq_true rfl) ⟨Nat.le_of_ble_eq_true rfl, Nat.le_of_ble_eq_true rfl⟩ ⟨Nat.le_of_ble_eq_true rfl, Nat.le_of_ble_eq_true rfl⟩ (fun r σ7870 hp => ?_)
    obtain ⟨h7871, x7873, gex7873, rfl⟩ := hp
    have h7872 := HS.trans h1 h7871 (by decide)
    refine m_callS F e_X10_token_68 (q_X10_isSmall2 (x_l X) V _ _ x7873 ) cb_X10_isSmall ml_X10_113 sm_X10_isSmall rfl (rest := []) rfl (Nat.le_of_ble_eq_true rfl) ⟨Nat.le_of_ble_eq_true rfl, Nat.le_of_ble_eq_true rfl⟩ ⟨Nat.le_of_ble_eq_true rfl, Nat.le_of_ble_eq_true rfl⟩ (k' := 0) (z' := 0) (N' := N) rfl rfl rfl (fun r σ7874 hp => ?_)
    obtain ⟨rfl, c7877⟩ := hp
    rcases c7877 with ⟨g7878, rfl⟩ | ⟨g7878, rfl⟩
    · refine m_if_eq F e_X10_token_71 (fun _ => ?_) (fun q => absurd (by decide) q)
      refine m_aload_n F rfl e_X10_token_87 ?_
      refine m_aload_n F rfl e_X10_token_88 ?_
      refine r_callV F e_X10_token_89 (q_X10_wordHere (x_l X) V c T Z u h P1 L _ _  h7872.1 (hob) hP1 ) cb_X10_wordHere ml_X10_117 im_X10_wordHere se_X10_wordHere h7872 rfl rfl (rest := [.ref c]) rfl (Nat.le_of_ble_eq_true rfl) ⟨Nat.le_of_ble_eq_true rfl, Nat.le_of_ble_eq_true rfl⟩ ⟨Nat.le_of_ble_eq_true rfl, Nat.le_of_ble_eq_true rfl⟩ (fun r σ7879 hp => ?_)
      obtain ⟨h7880, x7882, rfl⟩ := hp
      have h7881 := HS.trans h7872 h7880 (by decide)
      have he7883 := gex7873.of (fld_eq (h7880.2 c (by rw [show kC c c = 1 from kC_at (k := 0) (by decide)]; decide))) (elI_eq (h7880.2 (c + 1) (by rw [kC_at (k := 1) (by decide)]; decide)))
      refine r_put F (g' := (⟨T, Z, u, h, P1, L⟩ : RG)) e_X10_token_92 fp_X10_120 h7881 (by decide) ⟨_, rfl⟩ (fun _ _ _ _ q => q) (fun _ _ _ q => q) rfl rfl (by decide) (fun σ7884 h7885 g7886 g7887 f7888 => ?_)
      have he7889 := he7883.of (g7887 18 (by decide)) (elI_eq (g7886 _ (by omega)))
      refine m_aload_n F rfl e_X10_token_95 ?_
      refine m_aload_n F rfl e_X10_token_96 ?_
      refine r_getC F e_X10_token_97 fl_X10_120 h7885 (f7888) ?_
      refine m_iconst F (v := (-1)) (by decide) e_X10_token_100 ?_
      refine m_icmp_eq F e_X10_token_101 (fun q101 => ?_) (fun q101 => ?_)
      · subst q101
        refine m_aload_n F rfl e_X10_token_108 ?_
        refine r_get F e_X10_token_109 fl_X10_97 h7885 rfl (fun v hv f7890 => ?_)
        obtain rfl : v = .int (nI (P1.a)) := hv
        refine m_aload_n F rfl e_X10_token_112 ?_
        refine r_get F e_X10_token_113 fl_X10_107 h7885 rfl (fun v hv f7891 => ?_)
        obtain ⟨n7892, hn7892, rfl⟩ := hv
        replace hn7892 : n7892 ≤ 700 := hn7892
        refine m_isub F e_X10_token_116 ?_
        refine Wm.top (fun x7893 _ => ?_)
        refine m_bipush F (v := 6) (by decide) e_X10_token_117 ?_
        refine m_icmp_le F e_X10_token_119 (fun q119 => ?_) (fun q119 => ?_)
        · refine m_iconst F (v := 1) (by decide) e_X10_token_126 ?_
          refine r_put F (g' := (⟨T, Z, u, h, P1, L⟩ : RG)) e_X10_token_127 fp_X10_110 h7885 (by decide) ⟨_, rfl⟩ (fun _ _ _ _ q => q) (fun _ _ _ q => q) rfl rfl (by decide) (fun σ7894 h7895 g7896 g7897 f7898 => ?_)
          have he7899 := he7889.of (g7897 18 (by decide)) (elI_eq (g7896 _ (by omega)))
          refine m_aload_n F rfl e_X10_token_130 ?_
          refine r_getC F e_X10_token_131 fl_X10_110 h7895 (f7898) ?_
          refine m_iconst F (v := 1) (by decide) e_X10_token_134 ?_
          refine m_icmp_ne F e_X10_token_135 (fun q => absurd (by decide) q) (fun _ => ?_)
          refine m_aload_n F rfl e_X10_token_138 ?_
          refine r_callV F e_X10_token_139 (q_X10_nameHere (x_l X) V c T Z u h P1 L _ _  h7895.1 (hob) hP1 ) cb_X10_nameHere ml_X10_123 im_X10_nameHere se_X10_nameHere h7895 rfl rfl (rest := []) rfl (Nat.le_of_ble_eq_true rfl) ⟨Nat.le_of_ble_eq_true rfl, Nat.le_of_ble_eq_true rfl⟩ ⟨Nat.le_of_ble_eq_true rfl, Nat.le_of_ble_eq_true rfl⟩ (fun r σ7900 hp => ?_)
          obtain ⟨h7901, rfl⟩ := hp
          have h7902 := HS.trans h7895 h7901 (by decide)
          refine m_goto F e_X10_token_142 ?_
          exact m_vret F hQ e_X10_token_245 (⟨P1, hP1, (by unfold RA; omega), (Or.inr (by omega)), h7902, rfl⟩)
        · obtain ⟨n7903, hn7903, rfl⟩ := nI_nn (x := x7893) (fun e => q119 (Int32.le_trans (Int32.le_of_lt e) (by decide)))
          have c119 : n7903 > 6 := by have hh := mt (nI_leI (a := n7903) (b := 6) (by omega) (by omega)).mpr q119; omega
          refine m_iconst F (v := 5) (by decide) e_X10_token_122 ?_
          refine m_goto F e_X10_token_123 ?_
          refine r_put F (g' := (⟨T, Z, u, h, P1, L⟩ : RG)) e_X10_token_127 fp_X10_110 h7885 (by decide) ⟨_, rfl⟩ (fun _ _ _ _ q => q) (fun _ _ _ q => q) rfl rfl (by decide) (fun σ7904 h7905 g7906 g7907 f7908 => ?_)
          have he7909 := he7889.of (g7907 18 (by decide)) (elI_eq (g7906 _ (by omega)))
          refine m_aload_n F rfl e_X10_token_130 ?_
          refine r_getC F e_X10_token_131 fl_X10_110 h7905 (f7908) ?_
          refine m_iconst F (v := 1) (by decide) e_X10_token_134 ?_
          refine m_icmp_ne F e_X10_token_135 (fun _ => ?_) (fun q => absurd q (by decide))
          exact m_vret F hQ e_X10_token_245 (⟨P1, hP1, (by unfold RA; omega), (Or.inr (by omega)), h7905, rfl⟩)
      · refine m_iconst F (v := 0) (by decide) e_X10_token_104 ?_
        refine m_goto F e_X10_token_105 ?_
        refine r_put F (g' := (⟨T, Z, u, h, P1, L⟩ : RG)) e_X10_token_127 fp_X10_110 h7885 (by decide) ⟨_, rfl⟩ (fun _ _ _ _ q => q) (fun _ _ _ q => q) rfl rfl (by decide) (fun σ7910 h7911 g7912 g7913 f7914 => ?_)
        have he7915 := he7889.of (g7913 18 (by decide)) (elI_eq (g7912 _ (by omega)))
        refine m_aload_n F rfl e_X10_token_130 ?_
        refine r_getC F e_X10_token_131 fl_X10_110 h7911 (f7914) ?_
        refine m_iconst F (v := 1) (by decide) e_X10_token_134 ?_
        refine m_icmp_ne F e_X10_token_135 (fun _ => ?_) (fun q => absurd q (by decide))
        exact m_vret F hQ e_X10_token_245 (⟨P1, hP1, (by unfold RA; omega), (Or.inr (by omega)), h7911, rfl⟩)
    · refine m_if_eq F e_X10_token_71 (fun q => absurd q (by decide)) (fun _ => ?_)
      have ha7916 := gex7873.lt (fun e => g7878.1 (by rw [e]; decide))
      have ha7917 := gex7873.lt (fun e => g7878.1 (by rw [e]; decide))
      have ha7918 := gex7873.lt (fun e => g7878.1 (by rw [e]; decide))
      refine m_aload_n F rfl e_X10_token_74 ?_
      refine m_dup F rfl e_X10_token_75 ?_
      refine r_get F e_X10_token_76 fl_X10_97 h7872 rfl (fun v hv f7919 => ?_)
      obtain rfl : v = .int (nI (P1.a)) := hv
      refine m_iconst F (v := 1) (by decide) e_X10_token_79 ?_
      refine m_iadd F e_X10_token_80 ?_
      refine Wm.topE (w := nI (P1.a + 1)) (nI_add P1.a 1) ?_
      refine r_put F (g' := (⟨T, Z, u, h, (mkP P1.n0 P1.n2 P1.n5 P1.n7 P1.m0 P1.m5 P1.w2 P1.w7 P1.kk (P1.a + 1)), L⟩ : RG)) e_X10_token_81 fp_X10_97 h7872 (by decide) rfl ctl_a CR.setA rfl rfl (by decide) (fun σ7920 h7921 g7922 g7923 f7924 => ?_)
      obtain ⟨P7925, eP7925⟩ : ∃ P9, P9 = (mkP P1.n0 P1.n2 P1.n5 P1.n7 P1.m0 P1.m5 P1.w2 P1.w7 P1.kk (P1.a + 1)) := ⟨_, rfl⟩
      rw [← eP7925] at h7921
      have fP7925 : P7925.n0 = P1.n0 ∧ P7925.n2 = P1.n2 ∧ P7925.n5 = P1.n5 ∧ P7925.n7 = P1.n7 ∧ P7925.m0 = P1.m0 ∧ P7925.m5 = P1.m5 ∧ P7925.w2 = P1.w2 ∧ P7925.w7 = P1.w7 ∧ P7925.kk = P1.kk ∧ P7925.a = P1.a + 1 := by rw [eP7925]; exact ⟨rfl, rfl, rfl, rfl, rfl, rfl, rfl, rfl, rfl, rfl⟩
      have he7926 := gex7873.of (g7923 18 (by decide)) (elI_eq (g7922 _ (by omega)))
      refine m_goto F e_X10_token_84 ?_
      have oP7927 : OKP P7925 := by unfold OKP; omega
      exact ih  P7925 _ h7921 oP7927 (by unfold RA; omega) (by omega) (by omega)
set_option maxRecDepth 20000 in
theorem lq_X10_token_0 {V : VX} {X : MX} {N : Nat} {σ : Mem} {c T Z u h : Nat} {P : NP} {L : Nat → LQ}   (F : Fx V X yX10_token cX10_token 2 none (rmd 5 0 0)) (hQ : Rt V X 0 0 N (fun r τ => ∃ P9 : NP, OKP P9 ∧ RA P P9 ∧ (fld τ c 21 = some (.int 4) ∨ P.a < P9.a) ∧ HS V c (⟨T, Z, u, h, P9, L⟩ : RG) [0, 2, 3, 4, 5, 6, 7, 8, 9, 10, 11, 12, 13, 14, 15, 16, 17, 18, 19, 20, 21, 22, 23] σ τ ∧ r = none)) (hob : OKB L) (hP : OKP P)   : ∀ (fuel : Nat)  (P1 : NP) (τ : Mem), HS V c (⟨T, Z, u, h, P1, L⟩ : RG) [0, 2, 3, 4, 5, 6, 7, 8, 9, 10, 11, 12, 13, 14, 15, 16, 17, 18, 19, 20, 21, 22, 23] σ τ → OKP P1 → RA P P1 → True → 700 - P1.a < fuel → Wm V X 2 N τ 0 0 0 [(0, .ref c)] [] := by
  intro fuel
  induction fuel with
  | zero => intros; rename_i hm; exact absurd hm (Nat.not_lt_zero _)
  | succ fuel ih =>
    intro  P1 τ h1 hP1 hR1 hi hm
    have hPP := hP
    unfold OKP at hPP
    have hPP1 := hP1
    unfold OKP at hPP1
    unfold RA at hR1
    refine m_aload_n F rfl e_X10_token_0 ?_
    refine r_callV F e_X10_token_1 (q_X10_here (x_l X) V c T Z u h P1 L _ _  h1.1 (hob) hP1 ) cb_X10_here ml_X10_103 im_X10_here se_X10_here h1 rfl rfl (rest := []) rfl (Nat.le_of_ble_eq_true rfl) ⟨Nat.le_of_ble_eq_true rfl, Nat.le_of_ble_eq_true rfl⟩ ⟨Nat.le_of_ble_eq_true rfl, Nat.le_of_ble_eq_true rfl⟩ (fun r σ7928 hp => ?_)
    obtain ⟨h7929, x7931, gex7931, rfl⟩ := hp
    have h7930 := HS.trans h1 h7929 (by decide)
    refine m_bipush F (v := 10) (by decide) e_X10_token_4 ?_
    refine m_icmp_eq F e_X10_token_6 (fun q6 => ?_) (fun q6 => ?_)
    · subst q6
      have ha7932 := gex7931.lt (by decide)
      refine m_aload_n F rfl e_X10_token_18 ?_
      refine m_dup F rfl e_X10_token_19 ?_
      refine r_get F e_X10_token_20 fl_X10_97 h7930 rfl (fun v hv f7933 => ?_)
      obtain rfl : v = .int (nI (P1.a)) := hv
      refine m_iconst F (v := 1) (by decide) e_X10_token_23 ?_
      refine m_iadd F e_X10_token_24 ?_
      refine Wm.topE (w := nI (P1.a + 1)) (nI_add P1.a 1) ?_
      refine r_put F (g' := (⟨T, Z, u, h, (mkP P1.n0 P1.n2 P1.n5 P1.n7 P1.m0 P1.m5 P1.w2 P1.w7 P1.kk (P1.a + 1)), L⟩ : RG)) e_X10_token_25 fp_X10_97 h7930 (by decide) rfl ctl_a CR.setA rfl rfl (by decide) (fun σ7934 h7935 g7936 g7937 f7938 => ?_)
      obtain ⟨P7939, eP7939⟩ : ∃ P9, P9 = (mkP P1.n0 P1.n2 P1.n5 P1.n7 P1.m0 P1.m5 P1.w2 P1.w7 P1.kk (P1.a + 1)) := ⟨_, rfl⟩
      rw [← eP7939] at h7935
      have fP7939 : P7939.n0 = P1.n0 ∧ P7939.n2 = P1.n2 ∧ P7939.n5 = P1.n5 ∧ P7939.n7 = P1.n7 ∧ P7939.m0 = P1.m0 ∧ P7939.m5 = P1.m5 ∧ P7939.w2 = P1.w2 ∧ P7939.w7 = P1.w7 ∧ P7939.kk = P1.kk ∧ P7939.a = P1.a + 1 := by rw [eP7939]; exact ⟨rfl, rfl, rfl, rfl, rfl, rfl, rfl, rfl, rfl, rfl⟩
      have he7940 := gex7931.of (g7937 18 (by decide)) (elI_eq (g7936 _ (by omega)))
      refine m_goto F e_X10_token_28 ?_
      have oP7941 : OKP P7939 := by unfold OKP; omega
      exact ih  P7939 _ h7935 oP7941 (by unfold RA; omega) trivial (by omega)
    · refine m_aload_n F rfl e_X10_token_9 ?_
      refine r_callV F e_X10_token_10 (q_X10_here (x_l X) V c T Z u h P1 L _ _  h7930.1 (hob) hP1 ) cb_X10_here ml_X10_103 im_X10_here se_X10_here h7930 rfl rfl (rest := []) rfl (Nat.le_of_ble_eq_true rfl) ⟨Nat.le_of_ble_eq_true rfl, Nat.le_of_ble_eq_true rfl⟩ ⟨Nat.le_of_ble_eq_true rfl, Nat.le_of_ble_eq_true rfl⟩ (fun r σ7942 hp => ?_)
      obtain ⟨h7943, x7945, gex7945, rfl⟩ := hp
      have h7944 := HS.trans h7930 h7943 (by decide)
      have he7946 := gex7931.of (fld_eq (h7943.2 c (by rw [show kC c c = 1 from kC_at (k := 0) (by decide)]; decide))) (elI_eq (h7943.2 (c + 1) (by rw [kC_at (k := 1) (by decide)]; decide)))
      obtain rfl : x7931 = x7945 := HE.uniq he7946 gex7945
      refine m_bipush F (v := 32) (by decide) e_X10_token_13 ?_
      refine m_icmp_ne F e_X10_token_15 (fun q15 => ?_) (fun q15 => ?_)
      · refine m_aload_n F rfl e_X10_token_31 ?_
        refine m_aload_n F rfl e_X10_token_32 ?_
        refine r_get F e_X10_token_33 fl_X10_97 h7944 rfl (fun v hv f7947 => ?_)
        obtain rfl : v = .int (nI (P1.a)) := hv
        refine r_put F (g' := (⟨T, Z, u, h, P1, L⟩ : RG)) e_X10_token_36 fp_X10_107 h7944 (by decide) ⟨P1.a, (show P1.a ≤ 700 by omega), rfl⟩ (fun _ _ _ _ q => q) (fun _ _ _ q => q) rfl rfl (by decide) (fun σ7948 h7949 g7950 g7951 f7952 => ?_)
        have he7953 := gex7945.of (g7951 18 (by decide)) (elI_eq (g7950 _ (by omega)))
        refine m_aload_n F rfl e_X10_token_39 ?_
        refine r_callV F e_X10_token_40 (q_X10_here (x_l X) V c T Z u h P1 L _ _  h7949.1 (hob) hP1 ) cb_X10_here ml_X10_103 im_X10_here se_X10_here h7949 rfl rfl (rest := []) rfl (Nat.le_of_ble_eq_true rfl) ⟨Nat.le_of_ble_eq_true rfl, Nat.le_of_ble_eq_true rfl⟩ ⟨Nat.le_of_ble_eq_true rfl, Nat.le_of_ble_eq_true rfl⟩ (fun r σ7954 hp => ?_)
        obtain ⟨h7955, x7957, gex7957, rfl⟩ := hp
        have h7956 := HS.trans h7949 h7955 (by decide)
        have he7958 := he7953.of (fld_eq (h7955.2 c (by rw [show kC c c = 1 from kC_at (k := 0) (by decide)]; decide))) (elI_eq (h7955.2 (c + 1) (by rw [kC_at (k := 1) (by decide)]; decide)))
        obtain rfl : x7931 = x7957 := HE.uniq he7958 gex7957
        refine m_istore_n F (lv' := [(1, .int x7931), (0, .ref c)]) e_X10_token_43 (by decide) rfl ?_
        refine m_iload_n F rfl e_X10_token_44 ?_
        refine m_iconst F (v := (-1)) (by decide) e_X10_token_45 ?_
        refine m_icmp_ne F e_X10_token_46 (fun q46 => ?_) (fun q46 => ?_)
        · have ha7959 := gex7957.lt q46
          refine m_iload_n F rfl e_X10_token_57 ?_
          refine m_callS F e_X10_token_58 (q_X10_isSmall2 (x_l X) V _ _ x7931 ) cb_X10_isSmall ml_X10_113 sm_X10_isSmall rfl (rest := []) rfl (Nat.le_of_ble_eq_true rfl) ⟨Nat.le_of_ble_eq_true rfl, Nat.le_of_ble_eq_true rfl⟩ ⟨Nat.le_of_ble_eq_true rfl, Nat.le_of_ble_eq_true rfl⟩ (k' := 0) (z' := 0) (N' := N) rfl rfl rfl (fun r σ7960 hp => ?_)
          obtain ⟨rfl, c7963⟩ := hp
          rcases c7963 with ⟨g7964, rfl⟩ | ⟨g7964, rfl⟩
          · refine m_if_eq F e_X10_token_61 (fun _ => ?_) (fun q => absurd (by decide) q)
            refine m_iload_n F rfl e_X10_token_145 ?_
            refine m_callS F e_X10_token_146 (q_X10_isDigit2 (x_l X) V _ _ x7931 ) cb_X10_isDigit ml_X10_126 sm_X10_isDigit rfl (rest := []) rfl (Nat.le_of_ble_eq_true rfl) ⟨Nat.le_of_ble_eq_true rfl, Nat.le_of_ble_eq_true rfl⟩ ⟨Nat.le_of_ble_eq_true rfl, Nat.le_of_ble_eq_true rfl⟩ (k' := 0) (z' := 0) (N' := N) rfl rfl rfl (fun r σ7965 hp => ?_)
            obtain ⟨rfl, c7968⟩ := hp
            rcases c7968 with ⟨g7969, rfl⟩ | ⟨g7969, rfl⟩
            · refine m_if_eq F e_X10_token_149 (fun _ => ?_) (fun q => absurd (by decide) q)
              refine m_aload_n F rfl e_X10_token_220 ?_
              refine m_iload_n F rfl e_X10_token_221 ?_
              refine m_bipush F (v := 59) (by decide) e_X10_token_222 ?_
              refine m_icmp_ne F e_X10_token_224 (fun q224 => ?_) (fun q224 => ?_)
              · refine m_iconst F (v := 5) (by decide) e_X10_token_231 ?_
                refine r_put F (g' := (⟨T, Z, u, h, P1, L⟩ : RG)) e_X10_token_232 fp_X10_110 h7956 (by decide) ⟨_, rfl⟩ (fun _ _ _ _ q => q) (fun _ _ _ q => q) rfl rfl (by decide) (fun σ7970 h7971 g7972 g7973 f7974 => ?_)
                have he7975 := gex7957.of (g7973 18 (by decide)) (elI_eq (g7972 _ (by omega)))
                refine m_aload_n F rfl e_X10_token_235 ?_
                refine m_dup F rfl e_X10_token_236 ?_
                refine r_getC F e_X10_token_237 fl_X10_97 h7971 ((g7973 19 (by decide)).trans ((fld_eq (h7955.2 c (by rw [show kC c c = 1 from kC_at (k := 0) (by decide)]; decide))).trans ((g7951 19 (by decide)).trans f7947))) ?_
                refine m_iconst F (v := 1) (by decide) e_X10_token_240 ?_
                refine m_iadd F e_X10_token_241 ?_
                refine Wm.topE (w := nI (P1.a + 1)) (nI_add P1.a 1) ?_
                refine r_put F (g' := (⟨T, Z, u, h, (mkP P1.n0 P1.n2 P1.n5 P1.n7 P1.m0 P1.m5 P1.w2 P1.w7 P1.kk (P1.a + 1)), L⟩ : RG)) e_X10_token_242 fp_X10_97 h7971 (by decide) rfl ctl_a CR.setA rfl rfl (by decide) (fun σ7976 h7977 g7978 g7979 f7980 => ?_)
                obtain ⟨P7981, eP7981⟩ : ∃ P9, P9 = (mkP P1.n0 P1.n2 P1.n5 P1.n7 P1.m0 P1.m5 P1.w2 P1.w7 P1.kk (P1.a + 1)) := ⟨_, rfl⟩
                rw [← eP7981] at h7977
                have fP7981 : P7981.n0 = P1.n0 ∧ P7981.n2 = P1.n2 ∧ P7981.n5 = P1.n5 ∧ P7981.n7 = P1.n7 ∧ P7981.m0 = P1.m0 ∧ P7981.m5 = P1.m5 ∧ P7981.w2 = P1.w2 ∧ P7981.w7 = P1.w7 ∧ P7981.kk = P1.kk ∧ P7981.a = P1.a + 1 := by rw [eP7981]; exact ⟨rfl, rfl, rfl, rfl, rfl, rfl, rfl, rfl, rfl, rfl⟩
                have he7982 := he7975.of (g7979 18 (by decide)) (elI_eq (g7978 _ (by omega)))
                have oP7983 : OKP P7981 := by unfold OKP; omega
                exact m_vret F hQ e_X10_token_245 (⟨P7981, oP7983, (by unfold RA; omega), (Or.inr (by omega)), h7977, rfl⟩)
              · subst q224
                refine m_iconst F (v := 3) (by decide) e_X10_token_227 ?_
                refine m_goto F e_X10_token_228 ?_
                refine r_put F (g' := (⟨T, Z, u, h, P1, L⟩ : RG)) e_X10_token_232 fp_X10_110 h7956 (by decide) ⟨_, rfl⟩ (fun _ _ _ _ q => q) (fun _ _ _ q => q) rfl rfl (by decide) (fun σ7984 h7985 g7986 g7987 f7988 => ?_)
                have he7989 := gex7957.of (g7987 18 (by decide)) (elI_eq (g7986 _ (by omega)))
                refine m_aload_n F rfl e_X10_token_235 ?_
                refine m_dup F rfl e_X10_token_236 ?_
                refine r_getC F e_X10_token_237 fl_X10_97 h7985 ((g7987 19 (by decide)).trans ((fld_eq (h7955.2 c (by rw [show kC c c = 1 from kC_at (k := 0) (by decide)]; decide))).trans ((g7951 19 (by decide)).trans f7947))) ?_
                refine m_iconst F (v := 1) (by decide) e_X10_token_240 ?_
                refine m_iadd F e_X10_token_241 ?_
                refine Wm.topE (w := nI (P1.a + 1)) (nI_add P1.a 1) ?_
                refine r_put F (g' := (⟨T, Z, u, h, (mkP P1.n0 P1.n2 P1.n5 P1.n7 P1.m0 P1.m5 P1.w2 P1.w7 P1.kk (P1.a + 1)), L⟩ : RG)) e_X10_token_242 fp_X10_97 h7985 (by decide) rfl ctl_a CR.setA rfl rfl (by decide) (fun σ7990 h7991 g7992 g7993 f7994 => ?_)
                obtain ⟨P7995, eP7995⟩ : ∃ P9, P9 = (mkP P1.n0 P1.n2 P1.n5 P1.n7 P1.m0 P1.m5 P1.w2 P1.w7 P1.kk (P1.a + 1)) := ⟨_, rfl⟩
                rw [← eP7995] at h7991
                have fP7995 : P7995.n0 = P1.n0 ∧ P7995.n2 = P1.n2 ∧ P7995.n5 = P1.n5 ∧ P7995.n7 = P1.n7 ∧ P7995.m0 = P1.m0 ∧ P7995.m5 = P1.m5 ∧ P7995.w2 = P1.w2 ∧ P7995.w7 = P1.w7 ∧ P7995.kk = P1.kk ∧ P7995.a = P1.a + 1 := by rw [eP7995]; exact ⟨rfl, rfl, rfl, rfl, rfl, rfl, rfl, rfl, rfl, rfl⟩
                have he7996 := he7989.of (g7993 18 (by decide)) (elI_eq (g7992 _ (by omega)))
                have oP7997 : OKP P7995 := by unfold OKP; omega
                exact m_vret F hQ e_X10_token_245 (⟨P7995, oP7997, (by unfold RA; omega), (Or.inr (by omega)), h7991, rfl⟩)
            · refine m_if_eq F e_X10_token_149 (fun q => absurd q (by decide)) (fun _ => ?_)
              refine m_aload_n F rfl e_X10_token_152 ?_
              refine m_iconst F (v := 2) (by decide) e_X10_token_153 ?_
              refine r_put F (g' := (⟨T, Z, u, h, P1, L⟩ : RG)) e_X10_token_154 fp_X10_110 h7956 (by decide) ⟨_, rfl⟩ (fun _ _ _ _ q => q) (fun _ _ _ q => q) rfl rfl (by decide) (fun σ7998 h7999 g8000 g8001 f8002 => ?_)
              have he8003 := gex7957.of (g8001 18 (by decide)) (elI_eq (g8000 _ (by omega)))
              refine m_aload_n F rfl e_X10_token_157 ?_
              refine m_iconst F (v := 0) (by decide) e_X10_token_158 ?_
              refine r_put F (g' := (⟨T, Z, u, h, P1, L⟩ : RG)) e_X10_token_159 fp_X10_120 h7999 (by decide) ⟨_, rfl⟩ (fun _ _ _ _ q => q) (fun _ _ _ q => q) rfl rfl (by decide) (fun σ8004 h8005 g8006 g8007 f8008 => ?_)
              have he8009 := he8003.of (g8007 18 (by decide)) (elI_eq (g8006 _ (by omega)))
              refine m_aload_n F rfl e_X10_token_162 ?_
              refine r_callV F e_X10_token_163 (q_X10_here (x_l X) V c T Z u h P1 L _ _  h8005.1 (hob) hP1 ) cb_X10_here ml_X10_103 im_X10_here se_X10_here h8005 rfl rfl (rest := []) rfl (Nat.le_of_ble_eq_true rfl) ⟨Nat.le_of_ble_eq_true rfl, Nat.le_of_ble_eq_true rfl⟩ ⟨Nat.le_of_ble_eq_true rfl, Nat.le_of_ble_eq_true rfl⟩ (fun r σ8010 hp => ?_)
              obtain ⟨h8011, x8013, gex8013, rfl⟩ := hp
              have h8012 := HS.trans h8005 h8011 (by decide)
              have he8014 := he8009.of (fld_eq (h8011.2 c (by rw [show kC c c = 1 from kC_at (k := 0) (by decide)]; decide))) (elI_eq (h8011.2 (c + 1) (by rw [kC_at (k := 1) (by decide)]; decide)))
              obtain rfl : x7931 = x8013 := HE.uniq he8014 gex8013
              refine m_callS F e_X10_token_166 (q_X10_isDigit2 (x_l X) V _ _ x7931 ) cb_X10_isDigit ml_X10_126 sm_X10_isDigit rfl (rest := []) rfl (Nat.le_of_ble_eq_true rfl) ⟨Nat.le_of_ble_eq_true rfl, Nat.le_of_ble_eq_true rfl⟩ ⟨Nat.le_of_ble_eq_true rfl, Nat.le_of_ble_eq_true rfl⟩ (k' := 0) (z' := 0) (N' := N) rfl rfl rfl (fun r σ8015 hp => ?_)
              obtain ⟨rfl, c8018⟩ := hp
              rcases c8018 with ⟨g8019, rfl⟩ | ⟨g8019, rfl⟩
              · exact absurd g7969 g8019
              · refine m_if_eq F e_X10_token_169 (fun q => absurd q (by decide)) (fun _ => ?_)
                have ha8020 := gex8013.lt (fun e => g8019.1 (by rw [e]; decide))
                have ha8021 := gex8013.lt (fun e => g8019.1 (by rw [e]; decide))
                have ha8022 := gex8013.lt (fun e => g8019.1 (by rw [e]; decide))
                refine m_aload_n F rfl e_X10_token_172 ?_
                refine m_aload_n F rfl e_X10_token_173 ?_
                refine r_getC F e_X10_token_174 fl_X10_120 h8012 ((fld_eq (h8011.2 c (by rw [show kC c c = 1 from kC_at (k := 0) (by decide)]; decide))).trans f8008) ?_
                refine m_ldc F kc_X10_129 e_X10_token_177 ?_
                refine m_icmp_le F e_X10_token_179 (fun _ => ?_) (fun q => absurd (by decide) q)
                refine m_bipush F (v := 10) (by decide) e_X10_token_189 ?_
                refine m_aload_n F rfl e_X10_token_191 ?_
                refine r_getC F e_X10_token_192 fl_X10_120 h8012 ((fld_eq (h8011.2 c (by rw [show kC c c = 1 from kC_at (k := 0) (by decide)]; decide))).trans f8008) ?_
                refine m_imul F e_X10_token_195 ?_
                refine Wm.topE (w := 0) (by decide) ?_
                refine m_aload_n F rfl e_X10_token_196 ?_
                refine r_callV F e_X10_token_197 (q_X10_here (x_l X) V c T Z u h P1 L _ _  h8012.1 (hob) hP1 ) cb_X10_here ml_X10_103 im_X10_here se_X10_here h8012 rfl rfl (rest := [.int 0, .ref c]) rfl (Nat.le_of_ble_eq_true rfl) ⟨Nat.le_of_ble_eq_true rfl, Nat.le_of_ble_eq_true rfl⟩ ⟨Nat.le_of_ble_eq_true rfl, Nat.le_of_ble_eq_true rfl⟩ (fun r σ8023 hp => ?_)
                obtain ⟨h8024, x8026, gex8026, rfl⟩ := hp
                have h8025 := HS.trans h8012 h8024 (by decide)
                have he8027 := gex8013.of (fld_eq (h8024.2 c (by rw [show kC c c = 1 from kC_at (k := 0) (by decide)]; decide))) (elI_eq (h8024.2 (c + 1) (by rw [kC_at (k := 1) (by decide)]; decide)))
                obtain rfl : x7931 = x8026 := HE.uniq he8027 gex8026
                refine m_iadd F e_X10_token_200 ?_
                refine Wm.top (fun x8028 _ => ?_)
                refine m_bipush F (v := 48) (by decide) e_X10_token_201 ?_
                refine m_isub F e_X10_token_203 ?_
                refine Wm.top (fun x8029 _ => ?_)
                refine r_put F (g' := (⟨T, Z, u, h, P1, L⟩ : RG)) e_X10_token_204 fp_X10_120 h8025 (by decide) ⟨_, rfl⟩ (fun _ _ _ _ q => q) (fun _ _ _ q => q) rfl rfl (by decide) (fun σ8030 h8031 g8032 g8033 f8034 => ?_)
                have he8035 := gex8026.of (g8033 18 (by decide)) (elI_eq (g8032 _ (by omega)))
                refine m_aload_n F rfl e_X10_token_207 ?_
                refine m_dup F rfl e_X10_token_208 ?_
                refine r_getC F e_X10_token_209 fl_X10_97 h8031 ((g8033 19 (by decide)).trans ((fld_eq (h8024.2 c (by rw [show kC c c = 1 from kC_at (k := 0) (by decide)]; decide))).trans ((fld_eq (h8011.2 c (by rw [show kC c c = 1 from kC_at (k := 0) (by decide)]; decide))).trans ((g8007 19 (by decide)).trans ((g8001 19 (by decide)).trans ((fld_eq (h7955.2 c (by rw [show kC c c = 1 from kC_at (k := 0) (by decide)]; decide))).trans ((g7951 19 (by decide)).trans f7947))))))) ?_
                refine m_iconst F (v := 1) (by decide) e_X10_token_212 ?_
                refine m_iadd F e_X10_token_213 ?_
                refine Wm.topE (w := nI (P1.a + 1)) (nI_add P1.a 1) ?_
                refine r_put F (g' := (⟨T, Z, u, h, (mkP P1.n0 P1.n2 P1.n5 P1.n7 P1.m0 P1.m5 P1.w2 P1.w7 P1.kk (P1.a + 1)), L⟩ : RG)) e_X10_token_214 fp_X10_97 h8031 (by decide) rfl ctl_a CR.setA rfl rfl (by decide) (fun σ8036 h8037 g8038 g8039 f8040 => ?_)
                obtain ⟨P8041, eP8041⟩ : ∃ P9, P9 = (mkP P1.n0 P1.n2 P1.n5 P1.n7 P1.m0 P1.m5 P1.w2 P1.w7 P1.kk (P1.a + 1)) := ⟨_, rfl⟩
                rw [← eP8041] at h8037
                have fP8041 : P8041.n0 = P1.n0 ∧ P8041.n2 = P1.n2 ∧ P8041.n5 = P1.n5 ∧ P8041.n7 = P1.n7 ∧ P8041.m0 = P1.m0 ∧ P8041.m5 = P1.m5 ∧ P8041.w2 = P1.w2 ∧ P8041.w7 = P1.w7 ∧ P8041.kk = P1.kk ∧ P8041.a = P1.a + 1 := by rw [eP8041]; exact ⟨rfl, rfl, rfl, rfl, rfl, rfl, rfl, rfl, rfl, rfl⟩
                have he8042 := he8035.of (g8039 18 (by decide)) (elI_eq (g8038 _ (by omega)))
                refine m_goto F e_X10_token_217 ?_
                refine Wm.lvsub (lv' := [(0, .ref c)]) ?_ [1] rfl
                have oP8043 : OKP P8041 := by unfold OKP; omega
                exact lq_X10_token_162 F hQ hob hP  (700 - P8041.a + 1)  P8041 _ h8037 oP8043 (by unfold RA; omega) (by omega) (Nat.lt_succ_self _)
          · refine m_if_eq F e_X10_token_61 (fun q => absurd q (by decide)) (fun _ => ?_)
            refine m_aload_n F rfl e_X10_token_64 ?_
            refine r_callV F e_X10_token_65 (q_X10_here (x_l X) V c T Z u h P1 L _ _  h7956.1 (hob) hP1 ) cb_X10_here ml_X10_103 im_X10_here se_X10_here h7956 rfl rfl (rest := []) rfl (Nat.le_of_ble_eq_true rfl) ⟨Nat.le_of_ble_eq_true rfl, Nat.le_of_ble_eq_true rfl⟩ ⟨Nat.le_of_ble_eq_true rfl, Nat.le_of_ble_eq_true rfl⟩ (fun r σ8044 hp => ?_)
            obtain ⟨h8045, x8047, gex8047, rfl⟩ := hp
            have h8046 := HS.trans h7956 h8045 (by decide)
            have he8048 := gex7957.of (fld_eq (h8045.2 c (by rw [show kC c c = 1 from kC_at (k := 0) (by decide)]; decide))) (elI_eq (h8045.2 (c + 1) (by rw [kC_at (k := 1) (by decide)]; decide)))
            obtain rfl : x7931 = x8047 := HE.uniq he8048 gex8047
            refine m_callS F e_X10_token_68 (q_X10_isSmall2 (x_l X) V _ _ x7931 ) cb_X10_isSmall ml_X10_113 sm_X10_isSmall rfl (rest := []) rfl (Nat.le_of_ble_eq_true rfl) ⟨Nat.le_of_ble_eq_true rfl, Nat.le_of_ble_eq_true rfl⟩ ⟨Nat.le_of_ble_eq_true rfl, Nat.le_of_ble_eq_true rfl⟩ (k' := 0) (z' := 0) (N' := N) rfl rfl rfl (fun r σ8049 hp => ?_)
            obtain ⟨rfl, c8052⟩ := hp
            rcases c8052 with ⟨g8053, rfl⟩ | ⟨g8053, rfl⟩
            · exact absurd g7964 g8053
            · refine m_if_eq F e_X10_token_71 (fun q => absurd q (by decide)) (fun _ => ?_)
              have ha8054 := gex8047.lt (fun e => g8053.1 (by rw [e]; decide))
              have ha8055 := gex8047.lt (fun e => g8053.1 (by rw [e]; decide))
              have ha8056 := gex8047.lt (fun e => g8053.1 (by rw [e]; decide))
              refine m_aload_n F rfl e_X10_token_74 ?_
              refine m_dup F rfl e_X10_token_75 ?_
              refine r_getC F e_X10_token_76 fl_X10_97 h8046 ((fld_eq (h8045.2 c (by rw [show kC c c = 1 from kC_at (k := 0) (by decide)]; decide))).trans ((fld_eq (h7955.2 c (by rw [show kC c c = 1 from kC_at (k := 0) (by decide)]; decide))).trans ((g7951 19 (by decide)).trans f7947))) ?_
              refine m_iconst F (v := 1) (by decide) e_X10_token_79 ?_
              refine m_iadd F e_X10_token_80 ?_
              refine Wm.topE (w := nI (P1.a + 1)) (nI_add P1.a 1) ?_
              refine r_put F (g' := (⟨T, Z, u, h, (mkP P1.n0 P1.n2 P1.n5 P1.n7 P1.m0 P1.m5 P1.w2 P1.w7 P1.kk (P1.a + 1)), L⟩ : RG)) e_X10_token_81 fp_X10_97 h8046 (by decide) rfl ctl_a CR.setA rfl rfl (by decide) (fun σ8057 h8058 g8059 g8060 f8061 => ?_)
              obtain ⟨P8062, eP8062⟩ : ∃ P9, P9 = (mkP P1.n0 P1.n2 P1.n5 P1.n7 P1.m0 P1.m5 P1.w2 P1.w7 P1.kk (P1.a + 1)) := ⟨_, rfl⟩
              rw [← eP8062] at h8058
              have fP8062 : P8062.n0 = P1.n0 ∧ P8062.n2 = P1.n2 ∧ P8062.n5 = P1.n5 ∧ P8062.n7 = P1.n7 ∧ P8062.m0 = P1.m0 ∧ P8062.m5 = P1.m5 ∧ P8062.w2 = P1.w2 ∧ P8062.w7 = P1.w7 ∧ P8062.kk = P1.kk ∧ P8062.a = P1.a + 1 := by rw [eP8062]; exact ⟨rfl, rfl, rfl, rfl, rfl, rfl, rfl, rfl, rfl, rfl⟩
              have he8063 := gex8047.of (g8060 18 (by decide)) (elI_eq (g8059 _ (by omega)))
              refine m_goto F e_X10_token_84 ?_
              refine Wm.lvsub (lv' := [(0, .ref c)]) ?_ [1] rfl
              have oP8064 : OKP P8062 := by unfold OKP; omega
              exact lq_X10_token_64 F hQ hob hP  (700 - P8062.a + 1)  P8062 _ h8058 oP8064 (by unfold RA; omega) (by omega) (Nat.lt_succ_self _)
        · subst q46
          refine m_aload_n F rfl e_X10_token_49 ?_
          refine m_iconst F (v := 4) (by decide) e_X10_token_50 ?_
          refine r_put F (g' := (⟨T, Z, u, h, P1, L⟩ : RG)) e_X10_token_51 fp_X10_110 h7956 (by decide) ⟨_, rfl⟩ (fun _ _ _ _ q => q) (fun _ _ _ q => q) rfl rfl (by decide) (fun σ8065 h8066 g8067 g8068 f8069 => ?_)
          have he8070 := gex7957.of (g8068 18 (by decide)) (elI_eq (g8067 _ (by omega)))
          refine m_goto F e_X10_token_54 ?_
          exact m_vret F hQ e_X10_token_245 (⟨P1, hP1, (by unfold RA; omega), (Or.inl (f8069)), h8066, rfl⟩)
      · subst q15
        have ha8071 := gex7945.lt (by decide)
        refine m_aload_n F rfl e_X10_token_18 ?_
        refine m_dup F rfl e_X10_token_19 ?_
        refine r_get F e_X10_token_20 fl_X10_97 h7944 rfl (fun v hv f8072 => ?_)
        obtain rfl : v = .int (nI (P1.a)) := hv
        refine m_iconst F (v := 1) (by decide) e_X10_token_23 ?_
        refine m_iadd F e_X10_token_24 ?_
        refine Wm.topE (w := nI (P1.a + 1)) (nI_add P1.a 1) ?_
        refine r_put F (g' := (⟨T, Z, u, h, (mkP P1.n0 P1.n2 P1.n5 P1.n7 P1.m0 P1.m5 P1.w2 P1.w7 P1.kk (P1.a + 1)), L⟩ : RG)) e_X10_token_25 fp_X10_97 h7944 (by decide) rfl ctl_a CR.setA rfl rfl (by decide) (fun σ8073 h8074 g8075 g8076 f8077 => ?_)
        obtain ⟨P8078, eP8078⟩ : ∃ P9, P9 = (mkP P1.n0 P1.n2 P1.n5 P1.n7 P1.m0 P1.m5 P1.w2 P1.w7 P1.kk (P1.a + 1)) := ⟨_, rfl⟩
        rw [← eP8078] at h8074
        have fP8078 : P8078.n0 = P1.n0 ∧ P8078.n2 = P1.n2 ∧ P8078.n5 = P1.n5 ∧ P8078.n7 = P1.n7 ∧ P8078.m0 = P1.m0 ∧ P8078.m5 = P1.m5 ∧ P8078.w2 = P1.w2 ∧ P8078.w7 = P1.w7 ∧ P8078.kk = P1.kk ∧ P8078.a = P1.a + 1 := by rw [eP8078]; exact ⟨rfl, rfl, rfl, rfl, rfl, rfl, rfl, rfl, rfl, rfl⟩
        have he8079 := gex7945.of (g8076 18 (by decide)) (elI_eq (g8075 _ (by omega)))
        refine m_goto F e_X10_token_28 ?_
        have oP8080 : OKP P8078 := by unfold OKP; omega
        exact ih  P8078 _ h8074 oP8080 (by unfold RA; omega) trivial (by omega)
set_option maxRecDepth 20000 in
theorem q_X10_token (l : Launch) (V : VX) (c T Z u h : Nat) (P : NP) (L : Nat → LQ) (N : Nat) (σ : Mem)  (h0 : HR V c ⟨T, Z, u, h, P, L⟩ σ) (hob : OKB L) (hP : OKP P)  : Ct l V yX10_token cX10_token 2 none 5 0 0 N σ [.ref c] (fun r τ => ∃ P9 : NP, OKP P9 ∧ RA P P9 ∧ (fld τ c 21 = some (.int 4) ∨ P.a < P9.a) ∧ HS V c (⟨T, Z, u, h, P9, L⟩ : RG) [0, 2, 3, 4, 5, 6, 7, 8, 9, 10, 11, 12, 13, 14, 15, 16, 17, 18, 19, 20, 21, 22, 23] σ τ ∧ r = none) := by
  refine Ct.of (by decide) (Nat.le_of_ble_eq_true rfl) [(0, .ref c)] rfl (fun X hX F hQ => ?_)
  have hPP := hP
  unfold OKP at hPP
  have h1 : HS V c ⟨T, Z, u, h, P, L⟩ [0, 2, 3, 4, 5, 6, 7, 8, 9, 10, 11, 12, 13, 14, 15, 16, 17, 18, 19, 20, 21, 22, 23] σ σ := HS.start h0
  exact lq_X10_token_0 F hQ hob hP  (700 - P.a + 1)  P _ h1 hP (by unfold RA; omega) trivial (Nat.lt_succ_self _)
set_option maxRecDepth 20000 in
theorem q_X10_wrong (l : Launch) (V : VX) (c T Z u h : Nat) (P : NP) (L : Nat → LQ) (N : Nat) (σ : Mem) (x901 : Int32) (h0 : HR V c ⟨T, Z, u, h, P, L⟩ σ) (hob : OKB L) (hP : OKP P) (hp0 : x901 ≠ 0) : Ct l V yX10_wrong cX10_wrong 2 none 0 0 0 N σ [.ref c, .int x901] (fun r τ => HS V c (⟨T, 0, u, h, P, L⟩ : RG) [0, 2, 3, 4, 5, 6, 7, 8, 9, 10, 11, 12, 13, 14, 15, 16, 17, 18, 19, 20, 21, 22, 23] σ τ ∧ r = none) := by
  refine Ct.of (by decide) (Nat.le_of_ble_eq_true rfl) [(0, .ref c), (1, .int x901)] rfl (fun X hX F hQ => ?_)
  have hPP := hP
  unfold OKP at hPP
  have h1 : HS V c ⟨T, Z, u, h, P, L⟩ [0, 2, 3, 4, 5, 6, 7, 8, 9, 10, 11, 12, 13, 14, 15, 16, 17, 18, 19, 20, 21, 22, 23] σ σ := HS.start h0
  refine m_aload_n F rfl e_X10_wrong_0 ?_
  refine r_get F e_X10_wrong_1 fl_X10_141 h1 rfl (fun v hv f8081 => ?_)
  obtain ⟨x8082, hx8082, rfl⟩ := hv
  replace hx8082 : Z = 0 → x8082 ≠ 0 := hx8082
  refine m_if_eq F e_X10_wrong_4 (fun q4 => ?_) (fun q4 => ?_)
  · subst q4
    refine m_aload_n F rfl e_X10_wrong_8 ?_
    refine m_iload_n F rfl e_X10_wrong_9 ?_
    refine r_put F (g' := (⟨T, 0, u, h, P, L⟩ : RG)) e_X10_wrong_10 fp_X10_141 h1 (by decide) ⟨_, (fun _ => hp0), rfl⟩ ctl_Z CR.ctl rfl rfl (by decide) (fun σ8083 h8084 g8085 g8086 f8087 => ?_)
    refine m_aload_n F rfl e_X10_wrong_13 ?_
    refine m_aload_n F rfl e_X10_wrong_14 ?_
    refine r_get F e_X10_wrong_15 fl_X10_107 h8084 rfl (fun v hv f8088 => ?_)
    obtain ⟨n8089, hn8089, rfl⟩ := hv
    replace hn8089 : n8089 ≤ 700 := hn8089
    refine r_put F (g' := (⟨T, 0, u, h, P, L⟩ : RG)) e_X10_wrong_18 fp_X10_144 h8084 (by decide) ⟨_, rfl⟩ (fun _ _ _ _ q => q) (fun _ _ _ q => q) rfl rfl (by decide) (fun σ8090 h8091 g8092 g8093 f8094 => ?_)
    exact m_vret F hQ e_X10_wrong_21 (⟨h8091, rfl⟩)
  · have h8095 := HS.z0 h1 (f8081) q4
    exact m_vret F hQ e_X10_wrong_7 (⟨h8095, rfl⟩)
set_option maxRecDepth 20000 in
theorem q_X10_goOn (l : Launch) (V : VX) (c T Z u h : Nat) (P : NP) (L : Nat → LQ) (N : Nat) (σ : Mem)  (h0 : HR V c ⟨T, Z, u, h, P, L⟩ σ) (hob : OKB L) (hP : OKP P)  : Ct l V yX10_goOn cX10_goOn 1 none 6 0 0 N σ [.ref c] (fun r τ => ∃ P9 : NP, OKP P9 ∧ RA P P9 ∧ PG c P.a P9.a τ ∧ HS V c (⟨T, Z, u, h, P9, L⟩ : RG) [0, 2, 3, 4, 5, 6, 7, 8, 9, 10, 11, 12, 13, 14, 15, 16, 17, 18, 19, 20, 21, 22, 23] σ τ ∧ r = none) := by
  refine Ct.of (by decide) (Nat.le_of_ble_eq_true rfl) [(0, .ref c)] rfl (fun X hX F hQ => ?_)
  have hPP := hP
  unfold OKP at hPP
  have h1 : HS V c ⟨T, Z, u, h, P, L⟩ [0, 2, 3, 4, 5, 6, 7, 8, 9, 10, 11, 12, 13, 14, 15, 16, 17, 18, 19, 20, 21, 22, 23] σ σ := HS.start h0
  refine m_aload_n F rfl e_X10_goOn_0 ?_
  refine r_get F e_X10_goOn_1 fl_X10_141 h1 rfl (fun v hv f8096 => ?_)
  obtain ⟨x8097, hx8097, rfl⟩ := hv
  replace hx8097 : Z = 0 → x8097 ≠ 0 := hx8097
  refine m_if_ne F e_X10_goOn_4 (fun q4 => ?_) (fun q4 => ?_)
  · have h8098 := HS.z0 h1 (f8096) q4
    have h8099 : HS V c _ [0, 2, 3, 4, 5, 6, 7, 8, 9, 10, 11, 12, 13, 14, 15, 16, 17, 18, 19, 20, 21, 22, 23] _ _ := ⟨HR.mono (Z' := Z) (by intro e; first | rfl | assumption | omega) h8098.1, h8098.2⟩
    exact m_vret F hQ e_X10_goOn_11 (⟨P, hP, (by unfold RA; omega), (PG.a1 h8098.1 (f8096) q4), h8099, rfl⟩)
  · subst q4
    refine m_aload_n F rfl e_X10_goOn_7 ?_
    refine r_callV F e_X10_goOn_8 (q_X10_token (x_l X) V c T Z u h P L _ _  h1.1 (hob) hP ) cb_X10_token ml_X10_147 im_X10_token se_X10_token h1 rfl rfl (rest := []) rfl (Nat.le_of_ble_eq_true rfl) ⟨Nat.le_of_ble_eq_true rfl, Nat.le_of_ble_eq_true rfl⟩ ⟨Nat.le_of_ble_eq_true rfl, Nat.le_of_ble_eq_true rfl⟩ (fun r σ8100 hp => ?_)
    obtain ⟨P8103, oP8103, rP8103, pr8104, h8101, rfl⟩ := hp
    have h8102 := HS.trans h1 h8101 (by decide)
    have xP8103 := oP8103
    unfold OKP at xP8103
    unfold RA at rP8103
    exact m_vret F hQ e_X10_goOn_11 (⟨P8103, oP8103, (by unfold RA; omega), (PG.a2 h8102.1 pr8104), h8102, rfl⟩)
set_option maxRecDepth 20000 in
theorem q_X10_numeral (l : Launch) (V : VX) (c T Z u h : Nat) (P : NP) (L : Nat → LQ) (N : Nat) (σ : Mem) (n901 : Nat) (n902 : Nat) (h0 : HR V c ⟨T, Z, u, h, P, L⟩ σ) (hob : OKB L) (hP : OKP P) (hn901 : n901 ≤ 10000000) (hn902 : n902 ≤ 10000000) : Ct l V yX10_numeral cX10_numeral 4 (some .int) 7 0 0 N σ [.ref c, .int (nI n901), .int (nI n902)] (fun r τ => ∃ P9 : NP, OKP P9 ∧ RA P P9 ∧ HS V c (⟨T, Z, u, h, P9, L⟩ : RG) [0, 2, 3, 4, 5, 6, 7, 8, 9, 10, 11, 12, 13, 14, 15, 16, 17, 18, 19, 20, 21, 22, 23] σ τ ∧ ((∃ n : Nat, n901 ≤ n ∧ n ≤ n902 ∧ r = some (.int (nI n))) ∨ (HR V c ⟨T, 0, u, h, P9, L⟩ τ ∧ r = some (.int (nI n901))))) := by
  refine Ct.of (by decide) (Nat.le_of_ble_eq_true rfl) [(0, .ref c), (1, .int (nI n901)), (2, .int (nI n902))] rfl (fun X hX F hQ => ?_)
  have hPP := hP
  unfold OKP at hPP
  have h1 : HS V c ⟨T, Z, u, h, P, L⟩ [0, 2, 3, 4, 5, 6, 7, 8, 9, 10, 11, 12, 13, 14, 15, 16, 17, 18, 19, 20, 21, 22, 23] σ σ := HS.start h0
  refine m_aload_n F rfl e_X10_numeral_0 ?_
  refine r_get F e_X10_numeral_1 fl_X10_141 h1 rfl (fun v hv f8105 => ?_)
  obtain ⟨x8106, hx8106, rfl⟩ := hv
  replace hx8106 : Z = 0 → x8106 ≠ 0 := hx8106
  refine m_if_eq F e_X10_numeral_4 (fun q4 => ?_) (fun q4 => ?_)
  · subst q4
    refine m_aload_n F rfl e_X10_numeral_9 ?_
    refine r_get F e_X10_numeral_10 fl_X10_110 h1 rfl (fun v hv f8107 => ?_)
    obtain ⟨x8108, rfl⟩ := hv
    refine m_iconst F (v := 2) (by decide) e_X10_numeral_13 ?_
    refine m_icmp_eq F e_X10_numeral_14 (fun q14 => ?_) (fun q14 => ?_)
    · subst q14
      refine m_aload_n F rfl e_X10_numeral_25 ?_
      refine r_get F e_X10_numeral_26 fl_X10_120 h1 rfl (fun v hv f8109 => ?_)
      obtain ⟨x8110, rfl⟩ := hv
      refine m_iload_n F rfl e_X10_numeral_29 ?_
      refine m_icmp_lt F e_X10_numeral_30 (fun q30 => ?_) (fun q30 => ?_)
      · refine m_aload_n F rfl e_X10_numeral_41 ?_
        refine m_iconst F (v := 2) (by decide) e_X10_numeral_42 ?_
        refine r_callV F e_X10_numeral_43 (q_X10_wrong (x_l X) V c T Z u h P L _ _ 2 h1.1 (hob) hP (by first | omega | assumption | decide)) cb_X10_wrong ml_X10_150 im_X10_wrong se_X10_wrong h1 rfl rfl (rest := []) rfl (Nat.le_of_ble_eq_true rfl) ⟨Nat.le_of_ble_eq_true rfl, Nat.le_of_ble_eq_true rfl⟩ ⟨Nat.le_of_ble_eq_true rfl, Nat.le_of_ble_eq_true rfl⟩ (fun r σ8111 hp => ?_)
        obtain ⟨h8112, rfl⟩ := hp
        have h8113 := HS.trans h1 h8112 (by decide)
        refine m_aload_n F rfl e_X10_numeral_46 ?_
        refine r_get F e_X10_numeral_47 fl_X10_141 h8113 rfl (fun v hv f8114 => ?_)
        obtain ⟨x8115, hx8115, rfl⟩ := hv
        replace hx8115 : 0 = 0 → x8115 ≠ 0 := hx8115
        refine m_if_ne F e_X10_numeral_50 (fun q50 => ?_) (fun q50 => ?_)
        · have h8116 := HS.z0 h8113 (f8114) q50
          refine m_iload_n F rfl e_X10_numeral_60 ?_
          refine m_istore_n F (lv' := [(3, .int (nI n901)), (0, .ref c), (1, .int (nI n901)), (2, .int (nI n902))]) e_X10_numeral_61 (by decide) rfl ?_
          refine m_aload_n F rfl e_X10_numeral_62 ?_
          refine r_callV F e_X10_numeral_63 (q_X10_goOn (x_l X) V c T 0 u h P L _ _  h8116.1 (hob) hP ) cb_X10_goOn ml_X10_154 im_X10_goOn se_X10_goOn h8116 rfl rfl (rest := []) rfl (Nat.le_of_ble_eq_true rfl) ⟨Nat.le_of_ble_eq_true rfl, Nat.le_of_ble_eq_true rfl⟩ ⟨Nat.le_of_ble_eq_true rfl, Nat.le_of_ble_eq_true rfl⟩ (fun r σ8117 hp => ?_)
          obtain ⟨P8120, oP8120, rP8120, pr8121, h8118, rfl⟩ := hp
          have h8119 := HS.trans h8116 h8118 (by decide)
          have xP8120 := oP8120
          unfold OKP at xP8120
          unfold RA at rP8120
          refine m_iload_n F rfl e_X10_numeral_66 ?_
          have h8122 : HS V c _ [0, 2, 3, 4, 5, 6, 7, 8, 9, 10, 11, 12, 13, 14, 15, 16, 17, 18, 19, 20, 21, 22, 23] _ _ := ⟨HR.mono (Z' := Z) (by intro e; first | rfl | assumption | omega) h8119.1, h8119.2⟩
          exact m_iret F hQ e_X10_numeral_67 (⟨P8120, oP8120, (by unfold RA; omega), h8122, Or.inr ⟨h8119.1, rfl⟩⟩)
        · first | exact absurd q50 (hx8115 rfl) | contradiction
      · obtain ⟨n8123, hn8123, rfl⟩ := nI_nn (x := x8110) (fun e => q30 (Int32.lt_of_lt_of_le e (nI_0le (by omega))))
        have c30 : n8123 ≥ n901 := by have hh := mt (nI_ltI (a := n8123) (b := n901) (by omega) (by omega)).mpr q30; omega
        refine m_aload_n F rfl e_X10_numeral_33 ?_
        refine r_getC F e_X10_numeral_34 fl_X10_120 h1 (f8109) ?_
        refine m_iload_n F rfl e_X10_numeral_37 ?_
        refine m_icmp_le F e_X10_numeral_38 (fun q38 => ?_) (fun q38 => ?_)
        · have c38 : n8123 ≤ n902 := (nI_leI (a := n8123) (b := n902) (by omega) (by omega)).mp q38
          refine m_aload_n F rfl e_X10_numeral_46 ?_
          refine r_getC F e_X10_numeral_47 fl_X10_141 h1 (f8105) ?_
          refine m_if_ne F e_X10_numeral_50 (fun q => absurd (by decide) q) (fun _ => ?_)
          refine m_aload_n F rfl e_X10_numeral_53 ?_
          refine r_getC F e_X10_numeral_54 fl_X10_120 h1 (f8109) ?_
          refine m_goto F e_X10_numeral_57 ?_
          refine m_istore_n F (lv' := [(3, .int (nI n8123)), (0, .ref c), (1, .int (nI n901)), (2, .int (nI n902))]) e_X10_numeral_61 (by decide) rfl ?_
          refine m_aload_n F rfl e_X10_numeral_62 ?_
          refine r_callV F e_X10_numeral_63 (q_X10_goOn (x_l X) V c T Z u h P L _ _  h1.1 (hob) hP ) cb_X10_goOn ml_X10_154 im_X10_goOn se_X10_goOn h1 rfl rfl (rest := []) rfl (Nat.le_of_ble_eq_true rfl) ⟨Nat.le_of_ble_eq_true rfl, Nat.le_of_ble_eq_true rfl⟩ ⟨Nat.le_of_ble_eq_true rfl, Nat.le_of_ble_eq_true rfl⟩ (fun r σ8124 hp => ?_)
          obtain ⟨P8127, oP8127, rP8127, pr8128, h8125, rfl⟩ := hp
          have h8126 := HS.trans h1 h8125 (by decide)
          have xP8127 := oP8127
          unfold OKP at xP8127
          unfold RA at rP8127
          refine m_iload_n F rfl e_X10_numeral_66 ?_
          exact m_iret F hQ e_X10_numeral_67 (⟨P8127, oP8127, (by unfold RA; omega), h8126, Or.inl ⟨n8123, by omega, by omega, rfl⟩⟩)
        · have c38 : n8123 > n902 := by have hh := mt (nI_leI (a := n8123) (b := n902) (by omega) (by omega)).mpr q38; omega
          refine m_aload_n F rfl e_X10_numeral_41 ?_
          refine m_iconst F (v := 2) (by decide) e_X10_numeral_42 ?_
          refine r_callV F e_X10_numeral_43 (q_X10_wrong (x_l X) V c T Z u h P L _ _ 2 h1.1 (hob) hP (by first | omega | assumption | decide)) cb_X10_wrong ml_X10_150 im_X10_wrong se_X10_wrong h1 rfl rfl (rest := []) rfl (Nat.le_of_ble_eq_true rfl) ⟨Nat.le_of_ble_eq_true rfl, Nat.le_of_ble_eq_true rfl⟩ ⟨Nat.le_of_ble_eq_true rfl, Nat.le_of_ble_eq_true rfl⟩ (fun r σ8129 hp => ?_)
          obtain ⟨h8130, rfl⟩ := hp
          have h8131 := HS.trans h1 h8130 (by decide)
          refine m_aload_n F rfl e_X10_numeral_46 ?_
          refine r_get F e_X10_numeral_47 fl_X10_141 h8131 rfl (fun v hv f8132 => ?_)
          obtain ⟨x8133, hx8133, rfl⟩ := hv
          replace hx8133 : 0 = 0 → x8133 ≠ 0 := hx8133
          refine m_if_ne F e_X10_numeral_50 (fun q50 => ?_) (fun q50 => ?_)
          · have h8134 := HS.z0 h8131 (f8132) q50
            refine m_iload_n F rfl e_X10_numeral_60 ?_
            refine m_istore_n F (lv' := [(3, .int (nI n901)), (0, .ref c), (1, .int (nI n901)), (2, .int (nI n902))]) e_X10_numeral_61 (by decide) rfl ?_
            refine m_aload_n F rfl e_X10_numeral_62 ?_
            refine r_callV F e_X10_numeral_63 (q_X10_goOn (x_l X) V c T 0 u h P L _ _  h8134.1 (hob) hP ) cb_X10_goOn ml_X10_154 im_X10_goOn se_X10_goOn h8134 rfl rfl (rest := []) rfl (Nat.le_of_ble_eq_true rfl) ⟨Nat.le_of_ble_eq_true rfl, Nat.le_of_ble_eq_true rfl⟩ ⟨Nat.le_of_ble_eq_true rfl, Nat.le_of_ble_eq_true rfl⟩ (fun r σ8135 hp => ?_)
            obtain ⟨P8138, oP8138, rP8138, pr8139, h8136, rfl⟩ := hp
            have h8137 := HS.trans h8134 h8136 (by decide)
            have xP8138 := oP8138
            unfold OKP at xP8138
            unfold RA at rP8138
            refine m_iload_n F rfl e_X10_numeral_66 ?_
            have h8140 : HS V c _ [0, 2, 3, 4, 5, 6, 7, 8, 9, 10, 11, 12, 13, 14, 15, 16, 17, 18, 19, 20, 21, 22, 23] _ _ := ⟨HR.mono (Z' := Z) (by intro e; first | rfl | assumption | omega) h8137.1, h8137.2⟩
            exact m_iret F hQ e_X10_numeral_67 (⟨P8138, oP8138, (by unfold RA; omega), h8140, Or.inr ⟨h8137.1, rfl⟩⟩)
          · first | exact absurd q50 (hx8133 rfl) | contradiction
    · refine m_aload_n F rfl e_X10_numeral_17 ?_
      refine m_iconst F (v := 1) (by decide) e_X10_numeral_18 ?_
      refine r_callV F e_X10_numeral_19 (q_X10_wrong (x_l X) V c T Z u h P L _ _ 1 h1.1 (hob) hP (by first | omega | assumption | decide)) cb_X10_wrong ml_X10_150 im_X10_wrong se_X10_wrong h1 rfl rfl (rest := []) rfl (Nat.le_of_ble_eq_true rfl) ⟨Nat.le_of_ble_eq_true rfl, Nat.le_of_ble_eq_true rfl⟩ ⟨Nat.le_of_ble_eq_true rfl, Nat.le_of_ble_eq_true rfl⟩ (fun r σ8141 hp => ?_)
      obtain ⟨h8142, rfl⟩ := hp
      have h8143 := HS.trans h1 h8142 (by decide)
      refine m_goto F e_X10_numeral_22 ?_
      refine m_aload_n F rfl e_X10_numeral_46 ?_
      refine r_get F e_X10_numeral_47 fl_X10_141 h8143 rfl (fun v hv f8144 => ?_)
      obtain ⟨x8145, hx8145, rfl⟩ := hv
      replace hx8145 : 0 = 0 → x8145 ≠ 0 := hx8145
      refine m_if_ne F e_X10_numeral_50 (fun q50 => ?_) (fun q50 => ?_)
      · have h8146 := HS.z0 h8143 (f8144) q50
        refine m_iload_n F rfl e_X10_numeral_60 ?_
        refine m_istore_n F (lv' := [(3, .int (nI n901)), (0, .ref c), (1, .int (nI n901)), (2, .int (nI n902))]) e_X10_numeral_61 (by decide) rfl ?_
        refine m_aload_n F rfl e_X10_numeral_62 ?_
        refine r_callV F e_X10_numeral_63 (q_X10_goOn (x_l X) V c T 0 u h P L _ _  h8146.1 (hob) hP ) cb_X10_goOn ml_X10_154 im_X10_goOn se_X10_goOn h8146 rfl rfl (rest := []) rfl (Nat.le_of_ble_eq_true rfl) ⟨Nat.le_of_ble_eq_true rfl, Nat.le_of_ble_eq_true rfl⟩ ⟨Nat.le_of_ble_eq_true rfl, Nat.le_of_ble_eq_true rfl⟩ (fun r σ8147 hp => ?_)
        obtain ⟨P8150, oP8150, rP8150, pr8151, h8148, rfl⟩ := hp
        have h8149 := HS.trans h8146 h8148 (by decide)
        have xP8150 := oP8150
        unfold OKP at xP8150
        unfold RA at rP8150
        refine m_iload_n F rfl e_X10_numeral_66 ?_
        have h8152 : HS V c _ [0, 2, 3, 4, 5, 6, 7, 8, 9, 10, 11, 12, 13, 14, 15, 16, 17, 18, 19, 20, 21, 22, 23] _ _ := ⟨HR.mono (Z' := Z) (by intro e; first | rfl | assumption | omega) h8149.1, h8149.2⟩
        exact m_iret F hQ e_X10_numeral_67 (⟨P8150, oP8150, (by unfold RA; omega), h8152, Or.inr ⟨h8149.1, rfl⟩⟩)
      · first | exact absurd q50 (hx8145 rfl) | contradiction
  · have h8153 := HS.z0 h1 (f8105) q4
    refine m_iload_n F rfl e_X10_numeral_7 ?_
    have h8154 : HS V c _ [0, 2, 3, 4, 5, 6, 7, 8, 9, 10, 11, 12, 13, 14, 15, 16, 17, 18, 19, 20, 21, 22, 23] _ _ := ⟨HR.mono (Z' := Z) (by intro e; first | rfl | assumption | omega) h8153.1, h8153.2⟩
    exact m_iret F hQ e_X10_numeral_8 (⟨P, hP, (by unfold RA; omega), h8154, Or.inr ⟨h8153.1, rfl⟩⟩)
set_option maxRecDepth 20000 in
theorem q_X10_reading0 (l : Launch) (V : VX) (c T Z u h : Nat) (P : NP) (L : Nat → LQ) (N : Nat) (σ : Mem)  (h0 : HR V c ⟨T, Z, u, h, P, L⟩ σ) (hob : OKB L) (hP : OKP P)  : Ct l V yX10_reading cX10_reading 2 (some .int) 0 0 0 N σ [.ref c, .int 0] (fun r τ => HS V c (⟨T, Z, u, h, P, L⟩ : RG) [0, 1, 2, 3, 4, 5, 6, 7, 8, 9, 10, 11, 12, 13, 14, 15, 16, 17, 18, 19, 20, 21, 22, 23] σ τ ∧ r = some (.int (nI P.n5))) := by
  refine Ct.of (by decide) (Nat.le_of_ble_eq_true rfl) [(0, .ref c), (1, .int 0)] rfl (fun X hX F hQ => ?_)
  have hPP := hP
  unfold OKP at hPP
  have h1 : HS V c ⟨T, Z, u, h, P, L⟩ [0, 1, 2, 3, 4, 5, 6, 7, 8, 9, 10, 11, 12, 13, 14, 15, 16, 17, 18, 19, 20, 21, 22, 23] σ σ := HS.start h0
  refine m_aload_n F rfl e_X10_reading_0 ?_
  refine r_get F e_X10_reading_1 fl_X10_13 h1 rfl (fun v hv f8155 => ?_)
  obtain rfl : v = .ref (c + 2) := hv
  refine m_iconst F (v := 5) (by decide) e_X10_reading_4 ?_
  refine m_iload_n F rfl e_X10_reading_5 ?_
  refine m_iadd F e_X10_reading_6 ?_
  refine Wm.topE (w := 5) (by decide) ?_
  refine r_iald F (len := 10) (j := 5) e_X10_reading_7 h1 (fun _ h => h) (by decide) (by decide) (by unfold vp_in; decide) (fun x8156 h8157 f8158 => ?_)
  obtain rfl : x8156 = nI P.n5 := h8157.2.2.1 rfl
  exact m_iret F hQ e_X10_reading_8 (⟨h1, rfl⟩)
set_option maxRecDepth 20000 in
theorem q_X10_reading2 (l : Launch) (V : VX) (c T Z u h : Nat) (P : NP) (L : Nat → LQ) (N : Nat) (σ : Mem)  (h0 : HR V c ⟨T, Z, u, h, P, L⟩ σ) (hob : OKB L) (hP : OKP P)  : Ct l V yX10_reading cX10_reading 2 (some .int) 0 0 0 N σ [.ref c, .int 2] (fun r τ => HS V c (⟨T, Z, u, h, P, L⟩ : RG) [0, 1, 2, 3, 4, 5, 6, 7, 8, 9, 10, 11, 12, 13, 14, 15, 16, 17, 18, 19, 20, 21, 22, 23] σ τ ∧ r = some (.int (nI P.n7))) := by
  refine Ct.of (by decide) (Nat.le_of_ble_eq_true rfl) [(0, .ref c), (1, .int 2)] rfl (fun X hX F hQ => ?_)
  have hPP := hP
  unfold OKP at hPP
  have h1 : HS V c ⟨T, Z, u, h, P, L⟩ [0, 1, 2, 3, 4, 5, 6, 7, 8, 9, 10, 11, 12, 13, 14, 15, 16, 17, 18, 19, 20, 21, 22, 23] σ σ := HS.start h0
  refine m_aload_n F rfl e_X10_reading_0 ?_
  refine r_get F e_X10_reading_1 fl_X10_13 h1 rfl (fun v hv f8159 => ?_)
  obtain rfl : v = .ref (c + 2) := hv
  refine m_iconst F (v := 5) (by decide) e_X10_reading_4 ?_
  refine m_iload_n F rfl e_X10_reading_5 ?_
  refine m_iadd F e_X10_reading_6 ?_
  refine Wm.topE (w := 7) (by decide) ?_
  refine r_iald F (len := 10) (j := 7) e_X10_reading_7 h1 (fun _ h => h) (by decide) (by decide) (by unfold vp_in; decide) (fun x8160 h8161 f8162 => ?_)
  obtain rfl : x8160 = nI P.n7 := h8161.2.2.2.1 rfl
  exact m_iret F hQ e_X10_reading_8 (⟨h1, rfl⟩)
set_option maxRecDepth 20000 in
theorem q_X10_reading3 (l : Launch) (V : VX) (c T Z u h : Nat) (P : NP) (L : Nat → LQ) (N : Nat) (σ : Mem)  (h0 : HR V c ⟨T, Z, u, h, P, L⟩ σ) (hob : OKB L) (hP : OKP P)  : Ct l V yX10_reading cX10_reading 2 (some .int) 0 0 0 N σ [.ref c, .int 3] (fun r τ => HS V c (⟨T, Z, u, h, P, L⟩ : RG) [0, 1, 2, 3, 4, 5, 6, 7, 8, 9, 10, 11, 12, 13, 14, 15, 16, 17, 18, 19, 20, 21, 22, 23] σ τ ∧ ∃ n : Nat, n ≤ 4 ∧ elI τ (c + 2) 8 = some (nI n) ∧ r = some (.int (nI n))) := by
  refine Ct.of (by decide) (Nat.le_of_ble_eq_true rfl) [(0, .ref c), (1, .int 3)] rfl (fun X hX F hQ => ?_)
  have hPP := hP
  unfold OKP at hPP
  have h1 : HS V c ⟨T, Z, u, h, P, L⟩ [0, 1, 2, 3, 4, 5, 6, 7, 8, 9, 10, 11, 12, 13, 14, 15, 16, 17, 18, 19, 20, 21, 22, 23] σ σ := HS.start h0
  refine m_aload_n F rfl e_X10_reading_0 ?_
  refine r_get F e_X10_reading_1 fl_X10_13 h1 rfl (fun v hv f8163 => ?_)
  obtain rfl : v = .ref (c + 2) := hv
  refine m_iconst F (v := 5) (by decide) e_X10_reading_4 ?_
  refine m_iload_n F rfl e_X10_reading_5 ?_
  refine m_iadd F e_X10_reading_6 ?_
  refine Wm.topE (w := 8) (by decide) ?_
  refine r_iald F (len := 10) (j := 8) e_X10_reading_7 h1 (fun _ h => h) (by decide) (by decide) (by unfold vp_in; decide) (fun x8164 h8165 f8166 => ?_)
  obtain ⟨n8167, hn8167, rfl⟩ := h8165.2.2.2.2.2 rfl
  exact m_iret F hQ e_X10_reading_8 (⟨h1, n8167, by omega, f8166, rfl⟩)
set_option maxRecDepth 20000 in
theorem q_X10_reading1 (l : Launch) (V : VX) (c T Z u h : Nat) (P : NP) (L : Nat → LQ) (N : Nat) (σ : Mem)  (h0 : HR V c ⟨T, Z, u, h, P, L⟩ σ) (hob : OKB L) (hP : OKP P)  : Ct l V yX10_reading cX10_reading 2 (some .int) 0 0 0 N σ [.ref c, .int 1] (fun r τ => HS V c (⟨T, Z, u, h, P, L⟩ : RG) [0, 1, 2, 3, 4, 5, 6, 7, 8, 9, 10, 11, 12, 13, 14, 15, 16, 17, 18, 19, 20, 21, 22, 23] σ τ ∧ ∃ x : Int32, r = some (.int x)) := by
  refine Ct.of (by decide) (Nat.le_of_ble_eq_true rfl) [(0, .ref c), (1, .int 1)] rfl (fun X hX F hQ => ?_)
  have hPP := hP
  unfold OKP at hPP
  have h1 : HS V c ⟨T, Z, u, h, P, L⟩ [0, 1, 2, 3, 4, 5, 6, 7, 8, 9, 10, 11, 12, 13, 14, 15, 16, 17, 18, 19, 20, 21, 22, 23] σ σ := HS.start h0
  refine m_aload_n F rfl e_X10_reading_0 ?_
  refine r_get F e_X10_reading_1 fl_X10_13 h1 rfl (fun v hv f8168 => ?_)
  obtain rfl : v = .ref (c + 2) := hv
  refine m_iconst F (v := 5) (by decide) e_X10_reading_4 ?_
  refine m_iload_n F rfl e_X10_reading_5 ?_
  refine m_iadd F e_X10_reading_6 ?_
  refine Wm.topE (w := 6) (by decide) ?_
  refine r_iald F (len := 10) (j := 6) e_X10_reading_7 h1 (fun _ h => h) (by decide) (by decide) (by unfold vp_in; decide) (fun x8169 h8170 f8171 => ?_)
  exact m_iret F hQ e_X10_reading_8 (⟨h1, _, rfl⟩)
set_option maxRecDepth 20000 in
theorem q_X10_reading4 (l : Launch) (V : VX) (c T Z u h : Nat) (P : NP) (L : Nat → LQ) (N : Nat) (σ : Mem)  (h0 : HR V c ⟨T, Z, u, h, P, L⟩ σ) (hob : OKB L) (hP : OKP P)  : Ct l V yX10_reading cX10_reading 2 (some .int) 0 0 0 N σ [.ref c, .int 4] (fun r τ => HS V c (⟨T, Z, u, h, P, L⟩ : RG) [0, 1, 2, 3, 4, 5, 6, 7, 8, 9, 10, 11, 12, 13, 14, 15, 16, 17, 18, 19, 20, 21, 22, 23] σ τ ∧ ∃ x : Int32, r = some (.int x)) := by
  refine Ct.of (by decide) (Nat.le_of_ble_eq_true rfl) [(0, .ref c), (1, .int 4)] rfl (fun X hX F hQ => ?_)
  have hPP := hP
  unfold OKP at hPP
  have h1 : HS V c ⟨T, Z, u, h, P, L⟩ [0, 1, 2, 3, 4, 5, 6, 7, 8, 9, 10, 11, 12, 13, 14, 15, 16, 17, 18, 19, 20, 21, 22, 23] σ σ := HS.start h0
  refine m_aload_n F rfl e_X10_reading_0 ?_
  refine r_get F e_X10_reading_1 fl_X10_13 h1 rfl (fun v hv f8172 => ?_)
  obtain rfl : v = .ref (c + 2) := hv
  refine m_iconst F (v := 5) (by decide) e_X10_reading_4 ?_
  refine m_iload_n F rfl e_X10_reading_5 ?_
  refine m_iadd F e_X10_reading_6 ?_
  refine Wm.topE (w := 9) (by decide) ?_
  refine r_iald F (len := 10) (j := 9) e_X10_reading_7 h1 (fun _ h => h) (by decide) (by decide) (by unfold vp_in; decide) (fun x8173 h8174 f8175 => ?_)
  exact m_iret F hQ e_X10_reading_8 (⟨h1, _, rfl⟩)
set_option maxRecDepth 20000 in
theorem q_X10_reads0 (l : Launch) (V : VX) (c T Z u h : Nat) (P : NP) (L : Nat → LQ) (N : Nat) (σ : Mem) (n902 : Nat) (h0 : HR V c ⟨T, Z, u, h, P, L⟩ σ) (hob : OKB L) (hP : OKP P) (hn902 : n902 ≤ 4) (hp0 : n902 ≤ P.m5) : Ct l V yX10_reads cX10_reads 3 none 0 0 0 N σ [.ref c, .int 0, .int (nI n902)] (fun r τ => HS V c (⟨T, Z, u, h, (mkP P.n0 P.n2 n902 P.n7 P.m0 P.m5 P.w2 P.w7 P.kk P.a), L⟩ : RG) [0, 1, 2, 4, 5, 6, 7, 8, 9, 10, 11, 12, 13, 14, 15, 16, 17, 18, 19, 20, 21, 22, 23] σ τ ∧ r = none) := by
  refine Ct.of (by decide) (Nat.le_of_ble_eq_true rfl) [(0, .ref c), (1, .int 0), (2, .int (nI n902))] rfl (fun X hX F hQ => ?_)
  have hPP := hP
  unfold OKP at hPP
  have h1 : HS V c ⟨T, Z, u, h, P, L⟩ [0, 1, 2, 4, 5, 6, 7, 8, 9, 10, 11, 12, 13, 14, 15, 16, 17, 18, 19, 20, 21, 22, 23] σ σ := HS.start h0
  refine m_aload_n F rfl e_X10_reads_0 ?_
  refine r_get F e_X10_reads_1 fl_X10_13 h1 rfl (fun v hv f8176 => ?_)
  obtain rfl : v = .ref (c + 2) := hv
  refine m_iconst F (v := 5) (by decide) e_X10_reads_4 ?_
  refine m_iload_n F rfl e_X10_reads_5 ?_
  refine m_iadd F e_X10_reads_6 ?_
  refine Wm.topE (w := 5) (by decide) ?_
  refine m_iload_n F rfl e_X10_reads_7 ?_
  refine r_iast F (g' := (⟨T, Z, u, h, (mkP P.n0 P.n2 n902 P.n7 P.m0 P.m5 P.w2 P.w7 P.kk P.a), L⟩ : RG)) (len := 10) (j := 5) e_X10_reads_8 h1 (fun _ h => h) (fun f h => ⟨f, rfl, h⟩) (by decide) (by decide) (by decide) (by unfold vp_in; decide) (by refine ⟨?_, ?_, ?_, ?_, ?_, ?_⟩ <;> intro e <;> first | exact absurd e (by decide) | rfl | exact ⟨_, by omega, rfl⟩) (fun i hi y hy => ⟨hy.1, hy.2.1, fun e => absurd e hi, hy.2.2.2.1, hy.2.2.2.2.1, hy.2.2.2.2.2⟩) (CR.chg (by intro k hk i x h; unfold EI at h ⊢; split at h <;> first | exact h | exact absurd rfl hk | trivial) rfl rfl) (fun σ8177 h8178 g8179 f8180 g8181 => ?_)
  exact m_vret F hQ e_X10_reads_9 (⟨h8178, rfl⟩)
set_option maxRecDepth 20000 in
theorem q_X10_reads2 (l : Launch) (V : VX) (c T Z u h : Nat) (P : NP) (L : Nat → LQ) (N : Nat) (σ : Mem) (n902 : Nat) (h0 : HR V c ⟨T, Z, u, h, P, L⟩ σ) (hob : OKB L) (hP : OKP P) (hn902 : n902 ≤ 8) (hp0 : n902 ≤ P.w7) : Ct l V yX10_reads cX10_reads 3 none 0 0 0 N σ [.ref c, .int 2, .int (nI n902)] (fun r τ => HS V c (⟨T, Z, u, h, (mkP P.n0 P.n2 P.n5 n902 P.m0 P.m5 P.w2 P.w7 P.kk P.a), L⟩ : RG) [0, 1, 2, 4, 5, 6, 7, 8, 9, 10, 11, 12, 13, 14, 15, 16, 17, 18, 19, 20, 21, 22, 23] σ τ ∧ r = none) := by
  refine Ct.of (by decide) (Nat.le_of_ble_eq_true rfl) [(0, .ref c), (1, .int 2), (2, .int (nI n902))] rfl (fun X hX F hQ => ?_)
  have hPP := hP
  unfold OKP at hPP
  have h1 : HS V c ⟨T, Z, u, h, P, L⟩ [0, 1, 2, 4, 5, 6, 7, 8, 9, 10, 11, 12, 13, 14, 15, 16, 17, 18, 19, 20, 21, 22, 23] σ σ := HS.start h0
  refine m_aload_n F rfl e_X10_reads_0 ?_
  refine r_get F e_X10_reads_1 fl_X10_13 h1 rfl (fun v hv f8182 => ?_)
  obtain rfl : v = .ref (c + 2) := hv
  refine m_iconst F (v := 5) (by decide) e_X10_reads_4 ?_
  refine m_iload_n F rfl e_X10_reads_5 ?_
  refine m_iadd F e_X10_reads_6 ?_
  refine Wm.topE (w := 7) (by decide) ?_
  refine m_iload_n F rfl e_X10_reads_7 ?_
  refine r_iast F (g' := (⟨T, Z, u, h, (mkP P.n0 P.n2 P.n5 n902 P.m0 P.m5 P.w2 P.w7 P.kk P.a), L⟩ : RG)) (len := 10) (j := 7) e_X10_reads_8 h1 (fun _ h => h) (fun f h => ⟨f, rfl, h⟩) (by decide) (by decide) (by decide) (by unfold vp_in; decide) (by refine ⟨?_, ?_, ?_, ?_, ?_, ?_⟩ <;> intro e <;> first | exact absurd e (by decide) | rfl | exact ⟨_, by omega, rfl⟩) (fun i hi y hy => ⟨hy.1, hy.2.1, hy.2.2.1, fun e => absurd e hi, hy.2.2.2.2.1, hy.2.2.2.2.2⟩) (CR.chg (by intro k hk i x h; unfold EI at h ⊢; split at h <;> first | exact h | exact absurd rfl hk | trivial) rfl rfl) (fun σ8183 h8184 g8185 f8186 g8187 => ?_)
  exact m_vret F hQ e_X10_reads_9 (⟨h8184, rfl⟩)
set_option maxRecDepth 20000 in
theorem q_X10_reads3 (l : Launch) (V : VX) (c T Z u h : Nat) (P : NP) (L : Nat → LQ) (N : Nat) (σ : Mem) (n902 : Nat) (h0 : HR V c ⟨T, Z, u, h, P, L⟩ σ) (hob : OKB L) (hP : OKP P) (hn902 : n902 ≤ 4) : Ct l V yX10_reads cX10_reads 3 none 0 0 0 N σ [.ref c, .int 3, .int (nI n902)] (fun r τ => HS V c (⟨T, Z, u, h, P, L⟩ : RG) [0, 1, 2, 4, 5, 6, 7, 8, 9, 10, 11, 12, 13, 14, 15, 16, 17, 18, 19, 20, 21, 22, 23] σ τ ∧ r = none) := by
  refine Ct.of (by decide) (Nat.le_of_ble_eq_true rfl) [(0, .ref c), (1, .int 3), (2, .int (nI n902))] rfl (fun X hX F hQ => ?_)
  have hPP := hP
  unfold OKP at hPP
  have h1 : HS V c ⟨T, Z, u, h, P, L⟩ [0, 1, 2, 4, 5, 6, 7, 8, 9, 10, 11, 12, 13, 14, 15, 16, 17, 18, 19, 20, 21, 22, 23] σ σ := HS.start h0
  refine m_aload_n F rfl e_X10_reads_0 ?_
  refine r_get F e_X10_reads_1 fl_X10_13 h1 rfl (fun v hv f8188 => ?_)
  obtain rfl : v = .ref (c + 2) := hv
  refine m_iconst F (v := 5) (by decide) e_X10_reads_4 ?_
  refine m_iload_n F rfl e_X10_reads_5 ?_
  refine m_iadd F e_X10_reads_6 ?_
  refine Wm.topE (w := 8) (by decide) ?_
  refine m_iload_n F rfl e_X10_reads_7 ?_
  refine r_iast F (g' := (⟨T, Z, u, h, P, L⟩ : RG)) (len := 10) (j := 8) e_X10_reads_8 h1 (fun _ h => h) (fun f h => ⟨f, rfl, h⟩) (by decide) (by decide) (by decide) (by unfold vp_in; decide) (by refine ⟨?_, ?_, ?_, ?_, ?_, ?_⟩ <;> intro e <;> first | exact absurd e (by decide) | rfl | exact ⟨_, by omega, rfl⟩) (fun _ _ _ h => h) (fun _ _ _ h => h) (fun σ8189 h8190 g8191 f8192 g8193 => ?_)
  exact m_vret F hQ e_X10_reads_9 (⟨h8190, rfl⟩)
set_option maxRecDepth 20000 in
theorem q_X10_reads1 (l : Launch) (V : VX) (c T Z u h : Nat) (P : NP) (L : Nat → LQ) (N : Nat) (σ : Mem) (x902 : Int32) (h0 : HR V c ⟨T, Z, u, h, P, L⟩ σ) (hob : OKB L) (hP : OKP P)  : Ct l V yX10_reads cX10_reads 3 none 0 0 0 N σ [.ref c, .int 1, .int x902] (fun r τ => HS V c (⟨T, Z, u, h, P, L⟩ : RG) [0, 1, 2, 4, 5, 6, 7, 8, 9, 10, 11, 12, 13, 14, 15, 16, 17, 18, 19, 20, 21, 22, 23] σ τ ∧ r = none) := by
  refine Ct.of (by decide) (Nat.le_of_ble_eq_true rfl) [(0, .ref c), (1, .int 1), (2, .int x902)] rfl (fun X hX F hQ => ?_)
  have hPP := hP
  unfold OKP at hPP
  have h1 : HS V c ⟨T, Z, u, h, P, L⟩ [0, 1, 2, 4, 5, 6, 7, 8, 9, 10, 11, 12, 13, 14, 15, 16, 17, 18, 19, 20, 21, 22, 23] σ σ := HS.start h0
  refine m_aload_n F rfl e_X10_reads_0 ?_
  refine r_get F e_X10_reads_1 fl_X10_13 h1 rfl (fun v hv f8194 => ?_)
  obtain rfl : v = .ref (c + 2) := hv
  refine m_iconst F (v := 5) (by decide) e_X10_reads_4 ?_
  refine m_iload_n F rfl e_X10_reads_5 ?_
  refine m_iadd F e_X10_reads_6 ?_
  refine Wm.topE (w := 6) (by decide) ?_
  refine m_iload_n F rfl e_X10_reads_7 ?_
  refine r_iast F (g' := (⟨T, Z, u, h, P, L⟩ : RG)) (len := 10) (j := 6) e_X10_reads_8 h1 (fun _ h => h) (fun f h => ⟨f, rfl, h⟩) (by decide) (by decide) (by decide) (by unfold vp_in; decide) (by refine ⟨?_, ?_, ?_, ?_, ?_, ?_⟩ <;> intro e <;> first | exact absurd e (by decide) | rfl | exact ⟨_, by omega, rfl⟩) (fun _ _ _ h => h) (fun _ _ _ h => h) (fun σ8195 h8196 g8197 f8198 g8199 => ?_)
  exact m_vret F hQ e_X10_reads_9 (⟨h8196, rfl⟩)
set_option maxRecDepth 20000 in
theorem q_X10_reads4 (l : Launch) (V : VX) (c T Z u h : Nat) (P : NP) (L : Nat → LQ) (N : Nat) (σ : Mem) (x902 : Int32) (h0 : HR V c ⟨T, Z, u, h, P, L⟩ σ) (hob : OKB L) (hP : OKP P)  : Ct l V yX10_reads cX10_reads 3 none 0 0 0 N σ [.ref c, .int 4, .int x902] (fun r τ => HS V c (⟨T, Z, u, h, P, L⟩ : RG) [0, 1, 2, 4, 5, 6, 7, 8, 9, 10, 11, 12, 13, 14, 15, 16, 17, 18, 19, 20, 21, 22, 23] σ τ ∧ r = none) := by
  refine Ct.of (by decide) (Nat.le_of_ble_eq_true rfl) [(0, .ref c), (1, .int 4), (2, .int x902)] rfl (fun X hX F hQ => ?_)
  have hPP := hP
  unfold OKP at hPP
  have h1 : HS V c ⟨T, Z, u, h, P, L⟩ [0, 1, 2, 4, 5, 6, 7, 8, 9, 10, 11, 12, 13, 14, 15, 16, 17, 18, 19, 20, 21, 22, 23] σ σ := HS.start h0
  refine m_aload_n F rfl e_X10_reads_0 ?_
  refine r_get F e_X10_reads_1 fl_X10_13 h1 rfl (fun v hv f8200 => ?_)
  obtain rfl : v = .ref (c + 2) := hv
  refine m_iconst F (v := 5) (by decide) e_X10_reads_4 ?_
  refine m_iload_n F rfl e_X10_reads_5 ?_
  refine m_iadd F e_X10_reads_6 ?_
  refine Wm.topE (w := 9) (by decide) ?_
  refine m_iload_n F rfl e_X10_reads_7 ?_
  refine r_iast F (g' := (⟨T, Z, u, h, P, L⟩ : RG)) (len := 10) (j := 9) e_X10_reads_8 h1 (fun _ h => h) (fun f h => ⟨f, rfl, h⟩) (by decide) (by decide) (by decide) (by unfold vp_in; decide) (by refine ⟨?_, ?_, ?_, ?_, ?_, ?_⟩ <;> intro e <;> first | exact absurd e (by decide) | rfl | exact ⟨_, by omega, rfl⟩) (fun _ _ _ h => h) (fun _ _ _ h => h) (fun σ8201 h8202 g8203 f8204 g8205 => ?_)
  exact m_vret F hQ e_X10_reads_9 (⟨h8202, rfl⟩)
set_option maxRecDepth 20000 in
theorem q_X10_atHand (l : Launch) (V : VX) (c T Z u h : Nat) (P : NP) (L : Nat → LQ) (N : Nat) (σ : Mem)  (h0 : HR V c ⟨T, Z, u, h, P, L⟩ σ) (hob : OKB L) (hP : OKP P)  : Ct l V yX10_atHand cX10_atHand 2 (some .int) 7 0 0 N σ [.ref c] (fun r τ => ∃ P9 : NP, OKP P9 ∧ RA P P9 ∧ HS V c (⟨T, Z, u, h, P9, L⟩ : RG) [0, 2, 3, 4, 5, 6, 7, 8, 9, 10, 11, 12, 13, 14, 15, 16, 17, 18, 19, 20, 21, 22, 23] σ τ ∧ ∃ n : Nat, 4 ≤ n ∧ n ≤ 7 ∧ r = some (.int (nI n))) := by
  refine Ct.of (by decide) (Nat.le_of_ble_eq_true rfl) [(0, .ref c)] rfl (fun X hX F hQ => ?_)
  have hPP := hP
  unfold OKP at hPP
  have h1 : HS V c ⟨T, Z, u, h, P, L⟩ [0, 2, 3, 4, 5, 6, 7, 8, 9, 10, 11, 12, 13, 14, 15, 16, 17, 18, 19, 20, 21, 22, 23] σ σ := HS.start h0
  refine m_aload_n F rfl e_X10_atHand_0 ?_
  refine r_callV F e_X10_atHand_1 (q_X10_goOn (x_l X) V c T Z u h P L _ _  h1.1 (hob) hP ) cb_X10_goOn ml_X10_154 im_X10_goOn se_X10_goOn h1 rfl rfl (rest := []) rfl (Nat.le_of_ble_eq_true rfl) ⟨Nat.le_of_ble_eq_true rfl, Nat.le_of_ble_eq_true rfl⟩ ⟨Nat.le_of_ble_eq_true rfl, Nat.le_of_ble_eq_true rfl⟩ (fun r σ8206 hp => ?_)
  obtain ⟨P8209, oP8209, rP8209, pr8210, h8207, rfl⟩ := hp
  have h8208 := HS.trans h1 h8207 (by decide)
  have xP8209 := oP8209
  unfold OKP at xP8209
  unfold RA at rP8209
  refine m_aload_n F rfl e_X10_atHand_4 ?_
  refine r_get F e_X10_atHand_5 fl_X10_141 h8208 rfl (fun v hv f8211 => ?_)
  obtain ⟨x8212, hx8212, rfl⟩ := hv
  replace hx8212 : Z = 0 → x8212 ≠ 0 := hx8212
  refine m_if_eq F e_X10_atHand_8 (fun q8 => ?_) (fun q8 => ?_)
  · subst q8
    refine m_aload_n F rfl e_X10_atHand_13 ?_
    refine r_get F e_X10_atHand_14 fl_X10_110 h8208 rfl (fun v hv f8213 => ?_)
    obtain ⟨x8214, rfl⟩ := hv
    refine m_iconst F (v := 1) (by decide) e_X10_atHand_17 ?_
    refine m_icmp_eq F e_X10_atHand_18 (fun q18 => ?_) (fun q18 => ?_)
    · subst q18
      refine m_aload_n F rfl e_X10_atHand_26 ?_
      refine r_getC F e_X10_atHand_27 fl_X10_141 h8208 (f8211) ?_
      refine m_if_ne F e_X10_atHand_30 (fun q => absurd (by decide) q) (fun _ => ?_)
      refine m_aload_n F rfl e_X10_atHand_33 ?_
      refine m_iconst F (v := 4) (by decide) e_X10_atHand_34 ?_
      refine m_aload_n F rfl e_X10_atHand_35 ?_
      refine m_iconst F (v := 0) (by decide) e_X10_atHand_36 ?_
      refine r_callV F e_X10_atHand_37 (q_X10_reading0 (x_l X) V c T Z u h P8209 L _ _  h8208.1 (hob) oP8209 ) cb_X10_reading ml_X10_157 im_X10_reading se_X10_reading h8208 rfl rfl (rest := [.int 4, .ref c]) rfl (Nat.le_of_ble_eq_true rfl) ⟨Nat.le_of_ble_eq_true rfl, Nat.le_of_ble_eq_true rfl⟩ ⟨Nat.le_of_ble_eq_true rfl, Nat.le_of_ble_eq_true rfl⟩ (fun r σ8215 hp => ?_)
      obtain ⟨h8216, rfl⟩ := hp
      have h8217 := HS.trans h8208 h8216 (by decide)
      refine m_aload_n F rfl e_X10_atHand_40 ?_
      refine r_get F e_X10_atHand_41 fl_X10_120 h8217 rfl (fun v hv f8218 => ?_)
      obtain ⟨x8219, rfl⟩ := hv
      refine r_callV F e_X10_atHand_44 (q_X10_namedAt (x_l X) V c T Z u h P8209 L _ _ 4 P8209.n5 x8219 h8217.1 (hob) oP8209 (by omega) (by omega)) cb_X10_namedAt ml_X10_161 im_X10_namedAt se_X10_namedAt h8217 rfl rfl (rest := []) rfl (Nat.le_of_ble_eq_true rfl) ⟨Nat.le_of_ble_eq_true rfl, Nat.le_of_ble_eq_true rfl⟩ ⟨Nat.le_of_ble_eq_true rfl, Nat.le_of_ble_eq_true rfl⟩ (fun r σ8220 hp => ?_)
      obtain ⟨h8221, c8223⟩ := hp
      have h8222 := HS.trans h8217 h8221 (by decide)
      rcases c8223 with rfl | ⟨n8224, hn8224, rfl⟩
      · refine m_goto F e_X10_atHand_47 ?_
        refine m_istore_n F (lv' := [(1, .int (-1)), (0, .ref c)]) e_X10_atHand_51 (by decide) rfl ?_
        refine m_iload_n F rfl e_X10_atHand_52 ?_
        refine m_iconst F (v := (-1)) (by decide) e_X10_atHand_53 ?_
        refine m_icmp_ne F e_X10_atHand_54 (fun q => absurd (by decide) q) (fun _ => ?_)
        refine m_aload_n F rfl e_X10_atHand_57 ?_
        refine m_iconst F (v := 4) (by decide) e_X10_atHand_58 ?_
        refine r_callV F e_X10_atHand_59 (q_X10_wrong (x_l X) V c T Z u h P8209 L _ _ 4 h8222.1 (hob) oP8209 (by first | omega | assumption | decide)) cb_X10_wrong ml_X10_150 im_X10_wrong se_X10_wrong h8222 rfl rfl (rest := []) rfl (Nat.le_of_ble_eq_true rfl) ⟨Nat.le_of_ble_eq_true rfl, Nat.le_of_ble_eq_true rfl⟩ ⟨Nat.le_of_ble_eq_true rfl, Nat.le_of_ble_eq_true rfl⟩ (fun r σ8225 hp => ?_)
        obtain ⟨h8226, rfl⟩ := hp
        have h8227 := HS.trans h8222 h8226 (by decide)
        refine m_aload_n F rfl e_X10_atHand_62 ?_
        refine r_get F e_X10_atHand_63 fl_X10_141 h8227 rfl (fun v hv f8228 => ?_)
        obtain ⟨x8229, hx8229, rfl⟩ := hv
        replace hx8229 : 0 = 0 → x8229 ≠ 0 := hx8229
        refine m_if_ne F e_X10_atHand_66 (fun q66 => ?_) (fun q66 => ?_)
        · have h8230 := HS.z0 h8227 (f8228) q66
          refine m_iconst F (v := 4) (by decide) e_X10_atHand_75 ?_
          have h8231 : HS V c _ [0, 2, 3, 4, 5, 6, 7, 8, 9, 10, 11, 12, 13, 14, 15, 16, 17, 18, 19, 20, 21, 22, 23] _ _ := ⟨HR.mono (Z' := Z) (by intro e; first | rfl | assumption | omega) h8230.1, h8230.2⟩
          exact m_iret F hQ e_X10_atHand_76 (⟨P8209, oP8209, (by unfold RA; omega), h8231, 4, by omega, by omega, rfl⟩)
        · first | exact absurd q66 (hx8229 rfl) | contradiction
      · refine m_goto F e_X10_atHand_47 ?_
        refine m_istore_n F (lv' := [(1, .int (nI n8224)), (0, .ref c)]) e_X10_atHand_51 (by decide) rfl ?_
        refine m_iload_n F rfl e_X10_atHand_52 ?_
        refine m_iconst F (v := (-1)) (by decide) e_X10_atHand_53 ?_
        refine m_icmp_ne F e_X10_atHand_54 (fun q54 => ?_) (fun q54 => ?_)
        · refine m_aload_n F rfl e_X10_atHand_62 ?_
          refine r_getC F e_X10_atHand_63 fl_X10_141 h8222 ((fld_eq (h8221.2 c (by rw [show kC c c = 1 from kC_at (k := 0) (by decide)]; decide))).trans ((fld_eq (h8216.2 c (by rw [show kC c c = 1 from kC_at (k := 0) (by decide)]; decide))).trans f8211)) ?_
          refine m_if_ne F e_X10_atHand_66 (fun q => absurd (by decide) q) (fun _ => ?_)
          refine m_iconst F (v := 4) (by decide) e_X10_atHand_69 ?_
          refine m_iload_n F rfl e_X10_atHand_70 ?_
          refine m_iadd F e_X10_atHand_71 ?_
          refine Wm.topE (w := nI (4 + n8224)) (nI_add 4 n8224) ?_
          refine m_goto F e_X10_atHand_72 ?_
          exact m_iret F hQ e_X10_atHand_76 (⟨P8209, oP8209, (by unfold RA; omega), h8222, 4 + n8224, by omega, by omega, rfl⟩)
        · refine m_aload_n F rfl e_X10_atHand_57 ?_
          refine m_iconst F (v := 4) (by decide) e_X10_atHand_58 ?_
          refine r_callV F e_X10_atHand_59 (q_X10_wrong (x_l X) V c T Z u h P8209 L _ _ 4 h8222.1 (hob) oP8209 (by first | omega | assumption | decide)) cb_X10_wrong ml_X10_150 im_X10_wrong se_X10_wrong h8222 rfl rfl (rest := []) rfl (Nat.le_of_ble_eq_true rfl) ⟨Nat.le_of_ble_eq_true rfl, Nat.le_of_ble_eq_true rfl⟩ ⟨Nat.le_of_ble_eq_true rfl, Nat.le_of_ble_eq_true rfl⟩ (fun r σ8232 hp => ?_)
          obtain ⟨h8233, rfl⟩ := hp
          have h8234 := HS.trans h8222 h8233 (by decide)
          refine m_aload_n F rfl e_X10_atHand_62 ?_
          refine r_get F e_X10_atHand_63 fl_X10_141 h8234 rfl (fun v hv f8235 => ?_)
          obtain ⟨x8236, hx8236, rfl⟩ := hv
          replace hx8236 : 0 = 0 → x8236 ≠ 0 := hx8236
          refine m_if_ne F e_X10_atHand_66 (fun q66 => ?_) (fun q66 => ?_)
          · have h8237 := HS.z0 h8234 (f8235) q66
            refine m_iconst F (v := 4) (by decide) e_X10_atHand_75 ?_
            have h8238 : HS V c _ [0, 2, 3, 4, 5, 6, 7, 8, 9, 10, 11, 12, 13, 14, 15, 16, 17, 18, 19, 20, 21, 22, 23] _ _ := ⟨HR.mono (Z' := Z) (by intro e; first | rfl | assumption | omega) h8237.1, h8237.2⟩
            exact m_iret F hQ e_X10_atHand_76 (⟨P8209, oP8209, (by unfold RA; omega), h8238, 4, by omega, by omega, rfl⟩)
          · first | exact absurd q66 (hx8236 rfl) | contradiction
    · refine m_aload_n F rfl e_X10_atHand_21 ?_
      refine m_iconst F (v := 1) (by decide) e_X10_atHand_22 ?_
      refine r_callV F e_X10_atHand_23 (q_X10_wrong (x_l X) V c T Z u h P8209 L _ _ 1 h8208.1 (hob) oP8209 (by first | omega | assumption | decide)) cb_X10_wrong ml_X10_150 im_X10_wrong se_X10_wrong h8208 rfl rfl (rest := []) rfl (Nat.le_of_ble_eq_true rfl) ⟨Nat.le_of_ble_eq_true rfl, Nat.le_of_ble_eq_true rfl⟩ ⟨Nat.le_of_ble_eq_true rfl, Nat.le_of_ble_eq_true rfl⟩ (fun r σ8239 hp => ?_)
      obtain ⟨h8240, rfl⟩ := hp
      have h8241 := HS.trans h8208 h8240 (by decide)
      refine m_aload_n F rfl e_X10_atHand_26 ?_
      refine r_get F e_X10_atHand_27 fl_X10_141 h8241 rfl (fun v hv f8242 => ?_)
      obtain ⟨x8243, hx8243, rfl⟩ := hv
      replace hx8243 : 0 = 0 → x8243 ≠ 0 := hx8243
      refine m_if_ne F e_X10_atHand_30 (fun q30 => ?_) (fun q30 => ?_)
      · have h8244 := HS.z0 h8241 (f8242) q30
        refine m_iconst F (v := 0) (by decide) e_X10_atHand_50 ?_
        refine m_istore_n F (lv' := [(1, .int 0), (0, .ref c)]) e_X10_atHand_51 (by decide) rfl ?_
        refine m_iload_n F rfl e_X10_atHand_52 ?_
        refine m_iconst F (v := (-1)) (by decide) e_X10_atHand_53 ?_
        refine m_icmp_ne F e_X10_atHand_54 (fun _ => ?_) (fun q => absurd q (by decide))
        refine m_aload_n F rfl e_X10_atHand_62 ?_
        refine r_getC F e_X10_atHand_63 fl_X10_141 h8244 (f8242) ?_
        refine m_if_ne F e_X10_atHand_66 (fun q66 => ?_) (fun q66 => ?_)
        · have h8245 := HS.z0 h8244 (f8242) q66
          refine m_iconst F (v := 4) (by decide) e_X10_atHand_75 ?_
          have h8246 : HS V c _ [0, 2, 3, 4, 5, 6, 7, 8, 9, 10, 11, 12, 13, 14, 15, 16, 17, 18, 19, 20, 21, 22, 23] _ _ := ⟨HR.mono (Z' := Z) (by intro e; first | rfl | assumption | omega) h8245.1, h8245.2⟩
          exact m_iret F hQ e_X10_atHand_76 (⟨P8209, oP8209, (by unfold RA; omega), h8246, 4, by omega, by omega, rfl⟩)
        · first | exact absurd q66 (hx8243 rfl) | contradiction
      · first | exact absurd q30 (hx8243 rfl) | contradiction
  · have h8247 := HS.z0 h8208 (f8211) q8
    refine m_iconst F (v := 4) (by decide) e_X10_atHand_11 ?_
    have h8248 : HS V c _ [0, 2, 3, 4, 5, 6, 7, 8, 9, 10, 11, 12, 13, 14, 15, 16, 17, 18, 19, 20, 21, 22, 23] _ _ := ⟨HR.mono (Z' := Z) (by intro e; first | rfl | assumption | omega) h8247.1, h8247.2⟩
    exact m_iret F hQ e_X10_atHand_12 (⟨P8209, oP8209, (by unfold RA; omega), h8248, 4, by omega, by omega, rfl⟩)
set_option maxRecDepth 20000 in
theorem lq_X10_readLease_157 {V : VX} {X : MX} {N : Nat} {σ : Mem} {c T Z u h : Nat} {P : NP} {L : Nat → LQ}   (F : Fx V X yX10_readLease cX10_readLease 3 none (rmd 8 0 0)) (hQ : Rt V X 0 0 N (fun r τ => ∃ P9 : NP, OKP P9 ∧ RP P P9 ∧ HS V c (⟨T, Z, u, h, P9, L⟩ : RG) [0, 2, 12, 13, 14, 15, 16, 17, 18, 19, 20, 21, 22, 23] σ τ ∧ r = none)) (hob : OKB L) (hP : OKP P)   : ∀ (fuel : Nat) (a : Nat) (i : Nat) (P1 : NP) (τ : Mem), HS V c (⟨T, Z, u, h, P1, L⟩ : RG) [0, 2, 12, 13, 14, 15, 16, 17, 18, 19, 20, 21, 22, 23] σ τ → OKP P1 → RP P P1 → a = 4 + P1.n5 ∧ i ≤ 48 ∧ P1.n5 ≤ 3 ∧ P1.n5 + 1 ≤ P1.m5 → 48 - i < fuel → Wm V X 3 N τ 0 0 157 [(0, .ref c), (1, .int (nI a)), (2, .int (nI i))] [] := by
  intro fuel
  induction fuel with
  | zero => intros; rename_i hm; exact absurd hm (Nat.not_lt_zero _)
  | succ fuel ih =>
    intro a i P1 τ h1 hP1 hR1 hi hm
    have hPP := hP
    unfold OKP at hPP
    have hPP1 := hP1
    unfold OKP at hPP1
    unfold RP at hR1
    refine m_iload_n F rfl e_X10_readLease_157 ?_
    refine m_bipush F (v := 48) (by decide) e_X10_readLease_158 ?_
    refine m_icmp_ge F e_X10_readLease_160 (fun q160 => ?_) (fun q160 => ?_)
    · have c160 : i ≥ 48 := (nI_leI (a := 48) (b := i) (by omega) (by omega)).mp q160
      refine m_aload_n F rfl e_X10_readLease_181 ?_
      refine m_iconst F (v := 0) (by decide) e_X10_readLease_182 ?_
      refine m_aload_n F rfl e_X10_readLease_183 ?_
      refine m_iconst F (v := 0) (by decide) e_X10_readLease_184 ?_
      refine r_callV F e_X10_readLease_185 (q_X10_reading0 (x_l X) V c T Z u h P1 L _ _  h1.1 (hob) hP1 ) cb_X10_reading ml_X10_157 im_X10_reading se_X10_reading h1 rfl rfl (rest := [.int 0, .ref c]) rfl (Nat.le_of_ble_eq_true rfl) ⟨Nat.le_of_ble_eq_true rfl, Nat.le_of_ble_eq_true rfl⟩ ⟨Nat.le_of_ble_eq_true rfl, Nat.le_of_ble_eq_true rfl⟩ (fun r σ8249 hp => ?_)
      obtain ⟨h8250, rfl⟩ := hp
      have h8251 := HS.trans h1 h8250 (by decide)
      refine m_iconst F (v := 1) (by decide) e_X10_readLease_188 ?_
      refine m_iadd F e_X10_readLease_189 ?_
      refine Wm.topE (w := nI (P1.n5 + 1)) (nI_add P1.n5 1) ?_
      refine r_callV F e_X10_readLease_190 (q_X10_reads0 (x_l X) V c T Z u h P1 L _ _ (P1.n5 + 1) h8251.1 (hob) hP1 (by omega) (by first | omega | assumption | decide)) cb_X10_reads ml_X10_170 im_X10_reads se_X10_reads h8251 rfl rfl (rest := []) rfl (Nat.le_of_ble_eq_true rfl) ⟨Nat.le_of_ble_eq_true rfl, Nat.le_of_ble_eq_true rfl⟩ ⟨Nat.le_of_ble_eq_true rfl, Nat.le_of_ble_eq_true rfl⟩ (fun r σ8252 hp => ?_)
      obtain ⟨h8253, rfl⟩ := hp
      have h8254 := HS.trans h8251 h8253 (by decide)
      obtain ⟨P8255, eP8255⟩ : ∃ P9, P9 = (mkP P1.n0 P1.n2 (P1.n5 + 1) P1.n7 P1.m0 P1.m5 P1.w2 P1.w7 P1.kk P1.a) := ⟨_, rfl⟩
      rw [← eP8255] at h8254
      have fP8255 : P8255.n0 = P1.n0 ∧ P8255.n2 = P1.n2 ∧ P8255.n5 = P1.n5 + 1 ∧ P8255.n7 = P1.n7 ∧ P8255.m0 = P1.m0 ∧ P8255.m5 = P1.m5 ∧ P8255.w2 = P1.w2 ∧ P8255.w7 = P1.w7 ∧ P8255.kk = P1.kk ∧ P8255.a = P1.a := by rw [eP8255]; exact ⟨rfl, rfl, rfl, rfl, rfl, rfl, rfl, rfl, rfl, rfl⟩
      have oP8256 : OKP P8255 := by unfold OKP; omega
      exact m_vret F hQ e_X10_readLease_193 (⟨P8255, oP8256, (by unfold RP; omega), h8254, rfl⟩)
    · have c160 : i < 48 := by have hh := mt (nI_leI (a := 48) (b := i) (by omega) (by omega)).mpr q160; omega
      refine m_aload_n F rfl e_X10_readLease_163 ?_
      refine r_get F e_X10_readLease_164 fl_X10_37 h1 rfl (fun v hv f8257 => ?_)
      obtain rfl : v = .ref (c + 10) := hv
      refine m_bipush F (v := 48) (by decide) e_X10_readLease_167 ?_
      refine m_iload_n F rfl e_X10_readLease_169 ?_
      refine m_imul F e_X10_readLease_170 ?_
      refine Wm.topE (w := nI (48 * a)) (pk_mul 48 a) ?_
      refine m_iload_n F rfl e_X10_readLease_171 ?_
      refine m_iadd F e_X10_readLease_172 ?_
      refine Wm.topE (w := nI ((48 * a) + i)) (nI_add (48 * a) i) ?_
      refine m_iconst F (v := 0) (by decide) e_X10_readLease_173 ?_
      refine r_iast F (g' := (⟨T, Z, u, h, P1, L⟩ : RG)) (len := 384) (j := (48 * a) + i) e_X10_readLease_174 h1 (fun _ h => h) (fun f h => ⟨f, rfl, h⟩) (by decide) (by decide) (nI_clamp (by omega)) (vp_in_nI (by omega) (by decide)) trivial (fun _ _ _ h => h) (fun _ _ _ h => h) (fun σ8258 h8259 g8260 f8261 g8262 => ?_)
      refine m_iinc F (v := nI (i + 1)) (lv' := [(2, .int (nI (i + 1))), (0, .ref c), (1, .int (nI a))]) e_X10_readLease_175 rfl (nI_add i 1) (by decide) rfl ?_
      refine m_goto F e_X10_readLease_178 ?_
      refine Wm.lvsub (lv' := [(0, .ref c), (1, .int (nI a)), (2, .int (nI (i + 1)))]) ?_ [1, 2, 0] rfl
      exact ih a (i + 1) P1 _ h8259 hP1 (by unfold RP; omega) (by omega) (by omega)
set_option maxRecDepth 20000 in
theorem q_X10_readLease (l : Launch) (V : VX) (c T Z u h : Nat) (P : NP) (L : Nat → LQ) (N : Nat) (σ : Mem)  (h0 : HR V c ⟨T, Z, u, h, P, L⟩ σ) (hob : OKB L) (hP : OKP P)  : Ct l V yX10_readLease cX10_readLease 3 none 8 0 0 N σ [.ref c] (fun r τ => ∃ P9 : NP, OKP P9 ∧ RP P P9 ∧ HS V c (⟨T, Z, u, h, P9, L⟩ : RG) [0, 2, 12, 13, 14, 15, 16, 17, 18, 19, 20, 21, 22, 23] σ τ ∧ r = none) := by
  refine Ct.of (by decide) (Nat.le_of_ble_eq_true rfl) [(0, .ref c)] rfl (fun X hX F hQ => ?_)
  have hPP := hP
  unfold OKP at hPP
  have h1 : HS V c ⟨T, Z, u, h, P, L⟩ [0, 2, 12, 13, 14, 15, 16, 17, 18, 19, 20, 21, 22, 23] σ σ := HS.start h0
  refine m_aload_n F rfl e_X10_readLease_0 ?_
  refine m_iconst F (v := 0) (by decide) e_X10_readLease_1 ?_
  refine r_callV F e_X10_readLease_2 (q_X10_reading0 (x_l X) V c T Z u h P L _ _  h1.1 (hob) hP ) cb_X10_reading ml_X10_157 im_X10_reading se_X10_reading h1 rfl rfl (rest := []) rfl (Nat.le_of_ble_eq_true rfl) ⟨Nat.le_of_ble_eq_true rfl, Nat.le_of_ble_eq_true rfl⟩ ⟨Nat.le_of_ble_eq_true rfl, Nat.le_of_ble_eq_true rfl⟩ (fun r σ8263 hp => ?_)
  obtain ⟨h8264, rfl⟩ := hp
  have h8265 := HS.trans h1 h8264 (by decide)
  refine m_iconst F (v := 4) (by decide) e_X10_readLease_5 ?_
  refine m_icmp_ne F e_X10_readLease_6 (fun q6 => ?_) (fun q6 => ?_)
  · have c6 : P.n5 ≠ 4 := by have hh := mt (nI_eq (a := P.n5) (b := 4) (by omega) (by omega)).mpr q6; omega
    refine m_aload_n F rfl e_X10_readLease_14 ?_
    refine r_callV F e_X10_readLease_15 (q_X10_goOn (x_l X) V c T Z u h P L _ _  h8265.1 (hob) hP ) cb_X10_goOn ml_X10_154 im_X10_goOn se_X10_goOn h8265 rfl rfl (rest := []) rfl (Nat.le_of_ble_eq_true rfl) ⟨Nat.le_of_ble_eq_true rfl, Nat.le_of_ble_eq_true rfl⟩ ⟨Nat.le_of_ble_eq_true rfl, Nat.le_of_ble_eq_true rfl⟩ (fun r σ8266 hp => ?_)
    obtain ⟨P8269, oP8269, rP8269, pr8270, h8267, rfl⟩ := hp
    have h8268 := HS.trans h8265 h8267 (by decide)
    have xP8269 := oP8269
    unfold OKP at xP8269
    unfold RA at rP8269
    refine m_aload_n F rfl e_X10_readLease_18 ?_
    refine r_get F e_X10_readLease_19 fl_X10_141 h8268 rfl (fun v hv f8271 => ?_)
    obtain ⟨x8272, hx8272, rfl⟩ := hv
    replace hx8272 : Z = 0 → x8272 ≠ 0 := hx8272
    refine m_if_eq F e_X10_readLease_22 (fun q22 => ?_) (fun q22 => ?_)
    · subst q22
      refine m_aload_n F rfl e_X10_readLease_26 ?_
      refine r_get F e_X10_readLease_27 fl_X10_110 h8268 rfl (fun v hv f8273 => ?_)
      obtain ⟨x8274, rfl⟩ := hv
      refine m_iconst F (v := 1) (by decide) e_X10_readLease_30 ?_
      refine m_icmp_eq F e_X10_readLease_31 (fun q31 => ?_) (fun q31 => ?_)
      · subst q31
        refine m_aload_n F rfl e_X10_readLease_42 ?_
        refine m_iconst F (v := 4) (by decide) e_X10_readLease_43 ?_
        refine m_aload_n F rfl e_X10_readLease_44 ?_
        refine m_iconst F (v := 0) (by decide) e_X10_readLease_45 ?_
        refine r_callV F e_X10_readLease_46 (q_X10_reading0 (x_l X) V c T Z u h P8269 L _ _  h8268.1 (hob) oP8269 ) cb_X10_reading ml_X10_157 im_X10_reading se_X10_reading h8268 rfl rfl (rest := [.int 4, .ref c]) rfl (Nat.le_of_ble_eq_true rfl) ⟨Nat.le_of_ble_eq_true rfl, Nat.le_of_ble_eq_true rfl⟩ ⟨Nat.le_of_ble_eq_true rfl, Nat.le_of_ble_eq_true rfl⟩ (fun r σ8275 hp => ?_)
        obtain ⟨h8276, rfl⟩ := hp
        have h8277 := HS.trans h8268 h8276 (by decide)
        refine m_aload_n F rfl e_X10_readLease_49 ?_
        refine r_get F e_X10_readLease_50 fl_X10_120 h8277 rfl (fun v hv f8278 => ?_)
        obtain ⟨x8279, rfl⟩ := hv
        refine r_callV F e_X10_readLease_53 (q_X10_namedAt (x_l X) V c T Z u h P8269 L _ _ 4 P8269.n5 x8279 h8277.1 (hob) oP8269 (by omega) (by omega)) cb_X10_namedAt ml_X10_161 im_X10_namedAt se_X10_namedAt h8277 rfl rfl (rest := []) rfl (Nat.le_of_ble_eq_true rfl) ⟨Nat.le_of_ble_eq_true rfl, Nat.le_of_ble_eq_true rfl⟩ ⟨Nat.le_of_ble_eq_true rfl, Nat.le_of_ble_eq_true rfl⟩ (fun r σ8280 hp => ?_)
        obtain ⟨h8281, c8283⟩ := hp
        have h8282 := HS.trans h8277 h8281 (by decide)
        rcases c8283 with rfl | ⟨n8284, hn8284, rfl⟩
        · refine m_iconst F (v := (-1)) (by decide) e_X10_readLease_56 ?_
          refine m_icmp_eq F e_X10_readLease_57 (fun _ => ?_) (fun q => absurd (by decide) q)
          refine m_aload_n F rfl e_X10_readLease_65 ?_
          refine r_getC F e_X10_readLease_66 fl_X10_141 h8282 ((fld_eq (h8281.2 c (by rw [show kC c c = 1 from kC_at (k := 0) (by decide)]; decide))).trans ((fld_eq (h8276.2 c (by rw [show kC c c = 1 from kC_at (k := 0) (by decide)]; decide))).trans f8271)) ?_
          refine m_if_eq F e_X10_readLease_69 (fun _ => ?_) (fun q => absurd (by decide) q)
          refine m_iconst F (v := 4) (by decide) e_X10_readLease_73 ?_
          refine m_aload_n F rfl e_X10_readLease_74 ?_
          refine m_iconst F (v := 0) (by decide) e_X10_readLease_75 ?_
          refine r_callV F e_X10_readLease_76 (q_X10_reading0 (x_l X) V c T Z u h P8269 L _ _  h8282.1 (hob) oP8269 ) cb_X10_reading ml_X10_157 im_X10_reading se_X10_reading h8282 rfl rfl (rest := [.int 4]) rfl (Nat.le_of_ble_eq_true rfl) ⟨Nat.le_of_ble_eq_true rfl, Nat.le_of_ble_eq_true rfl⟩ ⟨Nat.le_of_ble_eq_true rfl, Nat.le_of_ble_eq_true rfl⟩ (fun r σ8285 hp => ?_)
          obtain ⟨h8286, rfl⟩ := hp
          have h8287 := HS.trans h8282 h8286 (by decide)
          refine m_iadd F e_X10_readLease_79 ?_
          refine Wm.topE (w := nI (4 + P8269.n5)) (nI_add 4 P8269.n5) ?_
          refine m_istore_n F (lv' := [(1, .int (nI (4 + P8269.n5))), (0, .ref c)]) e_X10_readLease_80 (by decide) rfl ?_
          refine m_aload_n F rfl e_X10_readLease_81 ?_
          refine r_get F e_X10_readLease_82 fl_X10_16 h8287 rfl (fun v hv f8288 => ?_)
          obtain rfl : v = .ref (c + 3) := hv
          refine m_iload_n F rfl e_X10_readLease_85 ?_
          refine m_aload_n F rfl e_X10_readLease_86 ?_
          refine r_getC F e_X10_readLease_87 fl_X10_120 h8287 ((fld_eq (h8286.2 c (by rw [show kC c c = 1 from kC_at (k := 0) (by decide)]; decide))).trans ((fld_eq (h8281.2 c (by rw [show kC c c = 1 from kC_at (k := 0) (by decide)]; decide))).trans f8278)) ?_
          refine r_iast F (g' := (⟨T, Z, u, h, P8269, L⟩ : RG)) (len := 8) (j := 4 + P8269.n5) e_X10_readLease_90 h8287 (fun _ h => h) (fun f h => ⟨f, rfl, h⟩) (by decide) (by decide) (nI_clamp (by omega)) (vp_in_nI (by omega) (by decide)) trivial (fun _ _ _ h => h) (fun _ _ _ h => h) (fun σ8289 h8290 g8291 f8292 g8293 => ?_)
          refine m_aload_n F rfl e_X10_readLease_91 ?_
          refine r_callV F e_X10_readLease_92 (q_X10_token (x_l X) V c T Z u h P8269 L _ _  h8290.1 (hob) oP8269 ) cb_X10_token ml_X10_147 im_X10_token se_X10_token h8290 rfl rfl (rest := []) rfl (Nat.le_of_ble_eq_true rfl) ⟨Nat.le_of_ble_eq_true rfl, Nat.le_of_ble_eq_true rfl⟩ ⟨Nat.le_of_ble_eq_true rfl, Nat.le_of_ble_eq_true rfl⟩ (fun r σ8294 hp => ?_)
          obtain ⟨P8297, oP8297, rP8297, pr8298, h8295, rfl⟩ := hp
          have h8296 := HS.trans h8290 h8295 (by decide)
          have xP8297 := oP8297
          unfold OKP at xP8297
          unfold RA at rP8297
          refine m_aload_n F rfl e_X10_readLease_95 ?_
          refine r_get F e_X10_readLease_96 fl_X10_19 h8296 rfl (fun v hv f8299 => ?_)
          obtain rfl : v = .ref (c + 4) := hv
          refine m_iload_n F rfl e_X10_readLease_99 ?_
          refine m_aload_n F rfl e_X10_readLease_100 ?_
          refine m_iconst F (v := 0) (by decide) e_X10_readLease_101 ?_
          refine m_bipush F (v := 20) (by decide) e_X10_readLease_102 ?_
          refine r_callV F e_X10_readLease_104 (q_X10_numeral (x_l X) V c T Z u h P8297 L _ _ 0 20 h8296.1 (hob) oP8297 (by omega) (by omega)) cb_X10_numeral ml_X10_165 im_X10_numeral se_X10_numeral h8296 rfl rfl (rest := [.int (nI (4 + P8269.n5)), .ref (c + 4)]) rfl (Nat.le_of_ble_eq_true rfl) ⟨Nat.le_of_ble_eq_true rfl, Nat.le_of_ble_eq_true rfl⟩ ⟨Nat.le_of_ble_eq_true rfl, Nat.le_of_ble_eq_true rfl⟩ (fun r σ8300 hp => ?_)
          obtain ⟨P8304, oP8304, rP8304, h8301, c8303⟩ := hp
          have h8302 := HS.trans h8296 h8301 (by decide)
          have xP8304 := oP8304
          unfold OKP at xP8304
          unfold RA at rP8304
          rcases c8303 with ⟨n8305, gn8305, hn8305, rfl⟩ | ⟨h8306, rfl⟩
          · refine r_iast F (g' := (⟨T, Z, u, h, P8304, L⟩ : RG)) (len := 8) (j := 4 + P8269.n5) e_X10_readLease_107 h8302 (fun _ h => h) (fun f h => ⟨f, rfl, h⟩) (by decide) (by decide) (nI_clamp (by omega)) (vp_in_nI (by omega) (by decide)) trivial (fun _ _ _ h => h) (fun _ _ _ h => h) (fun σ8307 h8308 g8309 f8310 g8311 => ?_)
            refine m_aload_n F rfl e_X10_readLease_108 ?_
            refine r_get F e_X10_readLease_109 fl_X10_22 h8308 rfl (fun v hv f8312 => ?_)
            obtain rfl : v = .ref (c + 5) := hv
            refine m_iload_n F rfl e_X10_readLease_112 ?_
            refine m_aload_n F rfl e_X10_readLease_113 ?_
            refine m_iconst F (v := 1) (by decide) e_X10_readLease_114 ?_
            refine m_bipush F (v := 48) (by decide) e_X10_readLease_115 ?_
            refine r_callV F e_X10_readLease_117 (q_X10_numeral (x_l X) V c T Z u h P8304 L _ _ 1 48 h8308.1 (hob) oP8304 (by omega) (by omega)) cb_X10_numeral ml_X10_165 im_X10_numeral se_X10_numeral h8308 rfl rfl (rest := [.int (nI (4 + P8269.n5)), .ref (c + 5)]) rfl (Nat.le_of_ble_eq_true rfl) ⟨Nat.le_of_ble_eq_true rfl, Nat.le_of_ble_eq_true rfl⟩ ⟨Nat.le_of_ble_eq_true rfl, Nat.le_of_ble_eq_true rfl⟩ (fun r σ8313 hp => ?_)
            obtain ⟨P8317, oP8317, rP8317, h8314, c8316⟩ := hp
            have h8315 := HS.trans h8308 h8314 (by decide)
            have xP8317 := oP8317
            unfold OKP at xP8317
            unfold RA at rP8317
            rcases c8316 with ⟨n8318, gn8318, hn8318, rfl⟩ | ⟨h8319, rfl⟩
            · refine r_iast F (g' := (⟨T, Z, u, h, (mkP P8317.n0 P8317.n2 P8317.n5 P8317.n7 P8317.m0 (P8317.n5 + 1) P8317.w2 P8317.w7 P8317.kk P8317.a), L⟩ : RG)) (len := 8) (j := 4 + P8269.n5) e_X10_readLease_120 h8315 (fun _ h => h) (fun f h => ⟨f, rfl, h⟩) (by decide) (by decide) (nI_clamp (by omega)) (vp_in_nI (by omega) (by decide)) ⟨n8318, by omega, rfl, fun h7 _ => absurd h7 (by omega), fun _ _ => by omega⟩ (fun i hi y hy => by obtain ⟨n9, a9, b9, c9, d9⟩ := hy; exact ⟨n9, a9, b9, c9, fun h7 h8 => d9 h7 (show i < 4 + P8317.m5 by have h6 : i < 4 + (P8317.n5 + 1) := h8; omega)⟩) (CR.chg (by intro k hk i x h; unfold EI at h ⊢; split at h <;> first | exact h | exact absurd rfl hk | trivial) rfl rfl) (fun σ8320 h8321 g8322 f8323 g8324 => ?_)
              obtain ⟨P8325, eP8325⟩ : ∃ P9, P9 = (mkP P8317.n0 P8317.n2 P8317.n5 P8317.n7 P8317.m0 (P8317.n5 + 1) P8317.w2 P8317.w7 P8317.kk P8317.a) := ⟨_, rfl⟩
              rw [← eP8325] at h8321
              have fP8325 : P8325.n0 = P8317.n0 ∧ P8325.n2 = P8317.n2 ∧ P8325.n5 = P8317.n5 ∧ P8325.n7 = P8317.n7 ∧ P8325.m0 = P8317.m0 ∧ P8325.m5 = P8317.n5 + 1 ∧ P8325.w2 = P8317.w2 ∧ P8325.w7 = P8317.w7 ∧ P8325.kk = P8317.kk ∧ P8325.a = P8317.a := by rw [eP8325]; exact ⟨rfl, rfl, rfl, rfl, rfl, rfl, rfl, rfl, rfl, rfl⟩
              refine m_aload_n F rfl e_X10_readLease_121 ?_
              refine r_get F e_X10_readLease_122 fl_X10_25 h8321 rfl (fun v hv f8326 => ?_)
              obtain rfl : v = .ref (c + 6) := hv
              refine m_iload_n F rfl e_X10_readLease_125 ?_
              refine m_aload_n F rfl e_X10_readLease_126 ?_
              refine m_iconst F (v := 0) (by decide) e_X10_readLease_127 ?_
              refine m_ldc F kc_X10_169 e_X10_readLease_128 ?_
              have oP8330 : OKP P8325 := by unfold OKP; omega
              refine r_callV F e_X10_readLease_130 (q_X10_numeral (x_l X) V c T Z u h P8325 L _ _ 0 200000 h8321.1 (hob) oP8330 (by omega) (by omega)) cb_X10_numeral ml_X10_165 im_X10_numeral se_X10_numeral h8321 rfl rfl (rest := [.int (nI (4 + P8269.n5)), .ref (c + 6)]) rfl (Nat.le_of_ble_eq_true rfl) ⟨Nat.le_of_ble_eq_true rfl, Nat.le_of_ble_eq_true rfl⟩ ⟨Nat.le_of_ble_eq_true rfl, Nat.le_of_ble_eq_true rfl⟩ (fun r σ8327 hp => ?_)
              obtain ⟨P8332, oP8332, rP8332, h8328, c8331⟩ := hp
              have h8329 := HS.trans h8321 h8328 (by decide)
              have xP8332 := oP8332
              unfold OKP at xP8332
              unfold RA at rP8332
              rcases c8331 with ⟨n8333, gn8333, hn8333, rfl⟩ | ⟨h8334, rfl⟩
              · refine r_iast F (g' := (⟨T, Z, u, h, P8332, L⟩ : RG)) (len := 8) (j := 4 + P8269.n5) e_X10_readLease_133 h8329 (fun _ h => h) (fun f h => ⟨f, rfl, h⟩) (by decide) (by decide) (nI_clamp (by omega)) (vp_in_nI (by omega) (by decide)) ⟨n8333, by omega, rfl⟩ (fun _ _ _ h => h) (fun _ _ _ h => h) (fun σ8335 h8336 g8337 f8338 g8339 => ?_)
                refine m_aload_n F rfl e_X10_readLease_134 ?_
                refine r_get F e_X10_readLease_135 fl_X10_28 h8336 rfl (fun v hv f8340 => ?_)
                obtain rfl : v = .ref (c + 7) := hv
                refine m_iload_n F rfl e_X10_readLease_138 ?_
                refine m_iconst F (v := 0) (by decide) e_X10_readLease_139 ?_
                refine r_iast F (g' := (⟨T, Z, u, h, P8332, L⟩ : RG)) (len := 8) (j := 4 + P8269.n5) e_X10_readLease_140 h8336 (fun _ h => h) (fun f h => ⟨f, rfl, h⟩) (by decide) (by decide) (nI_clamp (by omega)) (vp_in_nI (by omega) (by decide)) trivial (fun _ _ _ h => h) (fun _ _ _ h => h) (fun σ8341 h8342 g8343 f8344 g8345 => ?_)
                refine m_aload_n F rfl e_X10_readLease_141 ?_
                refine r_get F e_X10_readLease_142 fl_X10_31 h8342 rfl (fun v hv f8346 => ?_)
                obtain rfl : v = .ref (c + 8) := hv
                refine m_iload_n F rfl e_X10_readLease_145 ?_
                refine m_iconst F (v := 0) (by decide) e_X10_readLease_146 ?_
                refine r_iast F (g' := (⟨T, Z, u, h, P8332, L⟩ : RG)) (len := 8) (j := 4 + P8269.n5) e_X10_readLease_147 h8342 (fun _ h => h) (fun f h => ⟨f, rfl, h⟩) (by decide) (by decide) (nI_clamp (by omega)) (vp_in_nI (by omega) (by decide)) trivial (fun _ _ _ h => h) (fun _ _ _ h => h) (fun σ8347 h8348 g8349 f8350 g8351 => ?_)
                refine m_aload_n F rfl e_X10_readLease_148 ?_
                refine r_get F e_X10_readLease_149 fl_X10_34 h8348 rfl (fun v hv f8352 => ?_)
                obtain rfl : v = .ref (c + 9) := hv
                refine m_iload_n F rfl e_X10_readLease_152 ?_
                refine m_iconst F (v := 0) (by decide) e_X10_readLease_153 ?_
                refine r_iast F (g' := (⟨T, Z, u, h, P8332, L⟩ : RG)) (len := 8) (j := 4 + P8269.n5) e_X10_readLease_154 h8348 (fun _ h => h) (fun f h => ⟨f, rfl, h⟩) (by decide) (by decide) (nI_clamp (by omega)) (vp_in_nI (by omega) (by decide)) trivial (fun _ _ _ h => h) (fun _ _ _ h => h) (fun σ8353 h8354 g8355 f8356 g8357 => ?_)
                refine m_iconst F (v := 0) (by decide) e_X10_readLease_155 ?_
                refine m_istore_n F (lv' := [(2, .int 0), (1, .int (nI (4 + P8269.n5))), (0, .ref c)]) e_X10_readLease_156 (by decide) rfl ?_
                refine Wm.lvsub (lv' := [(0, .ref c), (1, .int (nI (4 + P8269.n5))), (2, .int 0)]) ?_ [2, 1, 0] rfl
                exact lq_X10_readLease_157 F hQ hob hP  (48 - 0 + 1) (4 + P8269.n5) 0 P8332 _ h8354 oP8332 (by unfold RP; omega) (by omega) (Nat.lt_succ_self _)
              · have h8358 : HS V c (⟨T, 0, u, h, P8332, L⟩ : RG) [0, 2, 12, 13, 14, 15, 16, 17, 18, 19, 20, 21, 22, 23] _ _ := ⟨h8334, h8329.2⟩
                refine r_iast F (g' := (⟨T, 0, u, h, P8332, L⟩ : RG)) (len := 8) (j := 4 + P8269.n5) e_X10_readLease_133 h8358 (fun _ h => h) (fun f h => ⟨f, rfl, h⟩) (by decide) (by decide) (nI_clamp (by omega)) (vp_in_nI (by omega) (by decide)) ⟨0, by omega, rfl⟩ (fun _ _ _ h => h) (fun _ _ _ h => h) (fun σ8359 h8360 g8361 f8362 g8363 => ?_)
                refine m_aload_n F rfl e_X10_readLease_134 ?_
                refine r_get F e_X10_readLease_135 fl_X10_28 h8360 rfl (fun v hv f8364 => ?_)
                obtain rfl : v = .ref (c + 7) := hv
                refine m_iload_n F rfl e_X10_readLease_138 ?_
                refine m_iconst F (v := 0) (by decide) e_X10_readLease_139 ?_
                refine r_iast F (g' := (⟨T, 0, u, h, P8332, L⟩ : RG)) (len := 8) (j := 4 + P8269.n5) e_X10_readLease_140 h8360 (fun _ h => h) (fun f h => ⟨f, rfl, h⟩) (by decide) (by decide) (nI_clamp (by omega)) (vp_in_nI (by omega) (by decide)) trivial (fun _ _ _ h => h) (fun _ _ _ h => h) (fun σ8365 h8366 g8367 f8368 g8369 => ?_)
                refine m_aload_n F rfl e_X10_readLease_141 ?_
                refine r_get F e_X10_readLease_142 fl_X10_31 h8366 rfl (fun v hv f8370 => ?_)
                obtain rfl : v = .ref (c + 8) := hv
                refine m_iload_n F rfl e_X10_readLease_145 ?_
                refine m_iconst F (v := 0) (by decide) e_X10_readLease_146 ?_
                refine r_iast F (g' := (⟨T, 0, u, h, P8332, L⟩ : RG)) (len := 8) (j := 4 + P8269.n5) e_X10_readLease_147 h8366 (fun _ h => h) (fun f h => ⟨f, rfl, h⟩) (by decide) (by decide) (nI_clamp (by omega)) (vp_in_nI (by omega) (by decide)) trivial (fun _ _ _ h => h) (fun _ _ _ h => h) (fun σ8371 h8372 g8373 f8374 g8375 => ?_)
                refine m_aload_n F rfl e_X10_readLease_148 ?_
                refine r_get F e_X10_readLease_149 fl_X10_34 h8372 rfl (fun v hv f8376 => ?_)
                obtain rfl : v = .ref (c + 9) := hv
                refine m_iload_n F rfl e_X10_readLease_152 ?_
                refine m_iconst F (v := 0) (by decide) e_X10_readLease_153 ?_
                refine r_iast F (g' := (⟨T, 0, u, h, P8332, L⟩ : RG)) (len := 8) (j := 4 + P8269.n5) e_X10_readLease_154 h8372 (fun _ h => h) (fun f h => ⟨f, rfl, h⟩) (by decide) (by decide) (nI_clamp (by omega)) (vp_in_nI (by omega) (by decide)) trivial (fun _ _ _ h => h) (fun _ _ _ h => h) (fun σ8377 h8378 g8379 f8380 g8381 => ?_)
                refine m_iconst F (v := 0) (by decide) e_X10_readLease_155 ?_
                refine m_istore_n F (lv' := [(2, .int 0), (1, .int (nI (4 + P8269.n5))), (0, .ref c)]) e_X10_readLease_156 (by decide) rfl ?_
                refine Wm.lvsub (lv' := [(0, .ref c), (1, .int (nI (4 + P8269.n5))), (2, .int 0)]) ?_ [2, 1, 0] rfl
                exact lq_X10_readLease_157 F hQ hob hP  (48 - 0 + 1) (4 + P8269.n5) 0 P8332 _ ⟨HR.mono (Z' := Z) (by intro e9; first | rfl | assumption | omega) h8378.1, h8378.2⟩ oP8332 (by unfold RP; omega) (by omega) (Nat.lt_succ_self _)
            · have h8382 : HS V c (⟨T, 0, u, h, P8317, L⟩ : RG) [0, 2, 12, 13, 14, 15, 16, 17, 18, 19, 20, 21, 22, 23] _ _ := ⟨h8319, h8315.2⟩
              refine r_iast F (g' := (⟨T, 0, u, h, (mkP P8317.n0 P8317.n2 P8317.n5 P8317.n7 P8317.m0 (P8317.n5 + 1) P8317.w2 P8317.w7 P8317.kk P8317.a), L⟩ : RG)) (len := 8) (j := 4 + P8269.n5) e_X10_readLease_120 h8382 (fun _ h => h) (fun f h => ⟨f, rfl, h⟩) (by decide) (by decide) (nI_clamp (by omega)) (vp_in_nI (by omega) (by decide)) ⟨1, by omega, rfl, fun h7 _ => absurd h7 (by omega), fun _ _ => by omega⟩ (fun i hi y hy => by obtain ⟨n9, a9, b9, c9, d9⟩ := hy; exact ⟨n9, a9, b9, c9, fun h7 h8 => d9 h7 (show i < 4 + P8317.m5 by have h6 : i < 4 + (P8317.n5 + 1) := h8; omega)⟩) (CR.chg (by intro k hk i x h; unfold EI at h ⊢; split at h <;> first | exact h | exact absurd rfl hk | trivial) rfl rfl) (fun σ8383 h8384 g8385 f8386 g8387 => ?_)
              obtain ⟨P8388, eP8388⟩ : ∃ P9, P9 = (mkP P8317.n0 P8317.n2 P8317.n5 P8317.n7 P8317.m0 (P8317.n5 + 1) P8317.w2 P8317.w7 P8317.kk P8317.a) := ⟨_, rfl⟩
              rw [← eP8388] at h8384
              have fP8388 : P8388.n0 = P8317.n0 ∧ P8388.n2 = P8317.n2 ∧ P8388.n5 = P8317.n5 ∧ P8388.n7 = P8317.n7 ∧ P8388.m0 = P8317.m0 ∧ P8388.m5 = P8317.n5 + 1 ∧ P8388.w2 = P8317.w2 ∧ P8388.w7 = P8317.w7 ∧ P8388.kk = P8317.kk ∧ P8388.a = P8317.a := by rw [eP8388]; exact ⟨rfl, rfl, rfl, rfl, rfl, rfl, rfl, rfl, rfl, rfl⟩
              refine m_aload_n F rfl e_X10_readLease_121 ?_
              refine r_get F e_X10_readLease_122 fl_X10_25 h8384 rfl (fun v hv f8389 => ?_)
              obtain rfl : v = .ref (c + 6) := hv
              refine m_iload_n F rfl e_X10_readLease_125 ?_
              refine m_aload_n F rfl e_X10_readLease_126 ?_
              refine m_iconst F (v := 0) (by decide) e_X10_readLease_127 ?_
              refine m_ldc F kc_X10_169 e_X10_readLease_128 ?_
              have oP8393 : OKP P8388 := by unfold OKP; omega
              refine r_callV F e_X10_readLease_130 (q_X10_numeral (x_l X) V c T 0 u h P8388 L _ _ 0 200000 h8384.1 (hob) oP8393 (by omega) (by omega)) cb_X10_numeral ml_X10_165 im_X10_numeral se_X10_numeral h8384 rfl rfl (rest := [.int (nI (4 + P8269.n5)), .ref (c + 6)]) rfl (Nat.le_of_ble_eq_true rfl) ⟨Nat.le_of_ble_eq_true rfl, Nat.le_of_ble_eq_true rfl⟩ ⟨Nat.le_of_ble_eq_true rfl, Nat.le_of_ble_eq_true rfl⟩ (fun r σ8390 hp => ?_)
              obtain ⟨P8395, oP8395, rP8395, h8391, c8394⟩ := hp
              have h8392 := HS.trans h8384 h8391 (by decide)
              have xP8395 := oP8395
              unfold OKP at xP8395
              unfold RA at rP8395
              rcases c8394 with ⟨n8396, gn8396, hn8396, rfl⟩ | ⟨h8397, rfl⟩
              · refine r_iast F (g' := (⟨T, 0, u, h, P8395, L⟩ : RG)) (len := 8) (j := 4 + P8269.n5) e_X10_readLease_133 h8392 (fun _ h => h) (fun f h => ⟨f, rfl, h⟩) (by decide) (by decide) (nI_clamp (by omega)) (vp_in_nI (by omega) (by decide)) ⟨n8396, by omega, rfl⟩ (fun _ _ _ h => h) (fun _ _ _ h => h) (fun σ8398 h8399 g8400 f8401 g8402 => ?_)
                refine m_aload_n F rfl e_X10_readLease_134 ?_
                refine r_get F e_X10_readLease_135 fl_X10_28 h8399 rfl (fun v hv f8403 => ?_)
                obtain rfl : v = .ref (c + 7) := hv
                refine m_iload_n F rfl e_X10_readLease_138 ?_
                refine m_iconst F (v := 0) (by decide) e_X10_readLease_139 ?_
                refine r_iast F (g' := (⟨T, 0, u, h, P8395, L⟩ : RG)) (len := 8) (j := 4 + P8269.n5) e_X10_readLease_140 h8399 (fun _ h => h) (fun f h => ⟨f, rfl, h⟩) (by decide) (by decide) (nI_clamp (by omega)) (vp_in_nI (by omega) (by decide)) trivial (fun _ _ _ h => h) (fun _ _ _ h => h) (fun σ8404 h8405 g8406 f8407 g8408 => ?_)
                refine m_aload_n F rfl e_X10_readLease_141 ?_
                refine r_get F e_X10_readLease_142 fl_X10_31 h8405 rfl (fun v hv f8409 => ?_)
                obtain rfl : v = .ref (c + 8) := hv
                refine m_iload_n F rfl e_X10_readLease_145 ?_
                refine m_iconst F (v := 0) (by decide) e_X10_readLease_146 ?_
                refine r_iast F (g' := (⟨T, 0, u, h, P8395, L⟩ : RG)) (len := 8) (j := 4 + P8269.n5) e_X10_readLease_147 h8405 (fun _ h => h) (fun f h => ⟨f, rfl, h⟩) (by decide) (by decide) (nI_clamp (by omega)) (vp_in_nI (by omega) (by decide)) trivial (fun _ _ _ h => h) (fun _ _ _ h => h) (fun σ8410 h8411 g8412 f8413 g8414 => ?_)
                refine m_aload_n F rfl e_X10_readLease_148 ?_
                refine r_get F e_X10_readLease_149 fl_X10_34 h8411 rfl (fun v hv f8415 => ?_)
                obtain rfl : v = .ref (c + 9) := hv
                refine m_iload_n F rfl e_X10_readLease_152 ?_
                refine m_iconst F (v := 0) (by decide) e_X10_readLease_153 ?_
                refine r_iast F (g' := (⟨T, 0, u, h, P8395, L⟩ : RG)) (len := 8) (j := 4 + P8269.n5) e_X10_readLease_154 h8411 (fun _ h => h) (fun f h => ⟨f, rfl, h⟩) (by decide) (by decide) (nI_clamp (by omega)) (vp_in_nI (by omega) (by decide)) trivial (fun _ _ _ h => h) (fun _ _ _ h => h) (fun σ8416 h8417 g8418 f8419 g8420 => ?_)
                refine m_iconst F (v := 0) (by decide) e_X10_readLease_155 ?_
                refine m_istore_n F (lv' := [(2, .int 0), (1, .int (nI (4 + P8269.n5))), (0, .ref c)]) e_X10_readLease_156 (by decide) rfl ?_
                refine Wm.lvsub (lv' := [(0, .ref c), (1, .int (nI (4 + P8269.n5))), (2, .int 0)]) ?_ [2, 1, 0] rfl
                exact lq_X10_readLease_157 F hQ hob hP  (48 - 0 + 1) (4 + P8269.n5) 0 P8395 _ ⟨HR.mono (Z' := Z) (by intro e9; first | rfl | assumption | omega) h8417.1, h8417.2⟩ oP8395 (by unfold RP; omega) (by omega) (Nat.lt_succ_self _)
              · have h8421 : HS V c (⟨T, 0, u, h, P8395, L⟩ : RG) [0, 2, 12, 13, 14, 15, 16, 17, 18, 19, 20, 21, 22, 23] _ _ := ⟨h8397, h8392.2⟩
                refine r_iast F (g' := (⟨T, 0, u, h, P8395, L⟩ : RG)) (len := 8) (j := 4 + P8269.n5) e_X10_readLease_133 h8421 (fun _ h => h) (fun f h => ⟨f, rfl, h⟩) (by decide) (by decide) (nI_clamp (by omega)) (vp_in_nI (by omega) (by decide)) ⟨0, by omega, rfl⟩ (fun _ _ _ h => h) (fun _ _ _ h => h) (fun σ8422 h8423 g8424 f8425 g8426 => ?_)
                refine m_aload_n F rfl e_X10_readLease_134 ?_
                refine r_get F e_X10_readLease_135 fl_X10_28 h8423 rfl (fun v hv f8427 => ?_)
                obtain rfl : v = .ref (c + 7) := hv
                refine m_iload_n F rfl e_X10_readLease_138 ?_
                refine m_iconst F (v := 0) (by decide) e_X10_readLease_139 ?_
                refine r_iast F (g' := (⟨T, 0, u, h, P8395, L⟩ : RG)) (len := 8) (j := 4 + P8269.n5) e_X10_readLease_140 h8423 (fun _ h => h) (fun f h => ⟨f, rfl, h⟩) (by decide) (by decide) (nI_clamp (by omega)) (vp_in_nI (by omega) (by decide)) trivial (fun _ _ _ h => h) (fun _ _ _ h => h) (fun σ8428 h8429 g8430 f8431 g8432 => ?_)
                refine m_aload_n F rfl e_X10_readLease_141 ?_
                refine r_get F e_X10_readLease_142 fl_X10_31 h8429 rfl (fun v hv f8433 => ?_)
                obtain rfl : v = .ref (c + 8) := hv
                refine m_iload_n F rfl e_X10_readLease_145 ?_
                refine m_iconst F (v := 0) (by decide) e_X10_readLease_146 ?_
                refine r_iast F (g' := (⟨T, 0, u, h, P8395, L⟩ : RG)) (len := 8) (j := 4 + P8269.n5) e_X10_readLease_147 h8429 (fun _ h => h) (fun f h => ⟨f, rfl, h⟩) (by decide) (by decide) (nI_clamp (by omega)) (vp_in_nI (by omega) (by decide)) trivial (fun _ _ _ h => h) (fun _ _ _ h => h) (fun σ8434 h8435 g8436 f8437 g8438 => ?_)
                refine m_aload_n F rfl e_X10_readLease_148 ?_
                refine r_get F e_X10_readLease_149 fl_X10_34 h8435 rfl (fun v hv f8439 => ?_)
                obtain rfl : v = .ref (c + 9) := hv
                refine m_iload_n F rfl e_X10_readLease_152 ?_
                refine m_iconst F (v := 0) (by decide) e_X10_readLease_153 ?_
                refine r_iast F (g' := (⟨T, 0, u, h, P8395, L⟩ : RG)) (len := 8) (j := 4 + P8269.n5) e_X10_readLease_154 h8435 (fun _ h => h) (fun f h => ⟨f, rfl, h⟩) (by decide) (by decide) (nI_clamp (by omega)) (vp_in_nI (by omega) (by decide)) trivial (fun _ _ _ h => h) (fun _ _ _ h => h) (fun σ8440 h8441 g8442 f8443 g8444 => ?_)
                refine m_iconst F (v := 0) (by decide) e_X10_readLease_155 ?_
                refine m_istore_n F (lv' := [(2, .int 0), (1, .int (nI (4 + P8269.n5))), (0, .ref c)]) e_X10_readLease_156 (by decide) rfl ?_
                refine Wm.lvsub (lv' := [(0, .ref c), (1, .int (nI (4 + P8269.n5))), (2, .int 0)]) ?_ [2, 1, 0] rfl
                exact lq_X10_readLease_157 F hQ hob hP  (48 - 0 + 1) (4 + P8269.n5) 0 P8395 _ ⟨HR.mono (Z' := Z) (by intro e9; first | rfl | assumption | omega) h8441.1, h8441.2⟩ oP8395 (by unfold RP; omega) (by omega) (Nat.lt_succ_self _)
          · have h8445 : HS V c (⟨T, 0, u, h, P8304, L⟩ : RG) [0, 2, 12, 13, 14, 15, 16, 17, 18, 19, 20, 21, 22, 23] _ _ := ⟨h8306, h8302.2⟩
            refine r_iast F (g' := (⟨T, 0, u, h, P8304, L⟩ : RG)) (len := 8) (j := 4 + P8269.n5) e_X10_readLease_107 h8445 (fun _ h => h) (fun f h => ⟨f, rfl, h⟩) (by decide) (by decide) (nI_clamp (by omega)) (vp_in_nI (by omega) (by decide)) trivial (fun _ _ _ h => h) (fun _ _ _ h => h) (fun σ8446 h8447 g8448 f8449 g8450 => ?_)
            refine m_aload_n F rfl e_X10_readLease_108 ?_
            refine r_get F e_X10_readLease_109 fl_X10_22 h8447 rfl (fun v hv f8451 => ?_)
            obtain rfl : v = .ref (c + 5) := hv
            refine m_iload_n F rfl e_X10_readLease_112 ?_
            refine m_aload_n F rfl e_X10_readLease_113 ?_
            refine m_iconst F (v := 1) (by decide) e_X10_readLease_114 ?_
            refine m_bipush F (v := 48) (by decide) e_X10_readLease_115 ?_
            refine r_callV F e_X10_readLease_117 (q_X10_numeral (x_l X) V c T 0 u h P8304 L _ _ 1 48 h8447.1 (hob) oP8304 (by omega) (by omega)) cb_X10_numeral ml_X10_165 im_X10_numeral se_X10_numeral h8447 rfl rfl (rest := [.int (nI (4 + P8269.n5)), .ref (c + 5)]) rfl (Nat.le_of_ble_eq_true rfl) ⟨Nat.le_of_ble_eq_true rfl, Nat.le_of_ble_eq_true rfl⟩ ⟨Nat.le_of_ble_eq_true rfl, Nat.le_of_ble_eq_true rfl⟩ (fun r σ8452 hp => ?_)
            obtain ⟨P8456, oP8456, rP8456, h8453, c8455⟩ := hp
            have h8454 := HS.trans h8447 h8453 (by decide)
            have xP8456 := oP8456
            unfold OKP at xP8456
            unfold RA at rP8456
            rcases c8455 with ⟨n8457, gn8457, hn8457, rfl⟩ | ⟨h8458, rfl⟩
            · refine r_iast F (g' := (⟨T, 0, u, h, (mkP P8456.n0 P8456.n2 P8456.n5 P8456.n7 P8456.m0 (P8456.n5 + 1) P8456.w2 P8456.w7 P8456.kk P8456.a), L⟩ : RG)) (len := 8) (j := 4 + P8269.n5) e_X10_readLease_120 h8454 (fun _ h => h) (fun f h => ⟨f, rfl, h⟩) (by decide) (by decide) (nI_clamp (by omega)) (vp_in_nI (by omega) (by decide)) ⟨n8457, by omega, rfl, fun h7 _ => absurd h7 (by omega), fun _ _ => by omega⟩ (fun i hi y hy => by obtain ⟨n9, a9, b9, c9, d9⟩ := hy; exact ⟨n9, a9, b9, c9, fun h7 h8 => d9 h7 (show i < 4 + P8456.m5 by have h6 : i < 4 + (P8456.n5 + 1) := h8; omega)⟩) (CR.chg (by intro k hk i x h; unfold EI at h ⊢; split at h <;> first | exact h | exact absurd rfl hk | trivial) rfl rfl) (fun σ8459 h8460 g8461 f8462 g8463 => ?_)
              obtain ⟨P8464, eP8464⟩ : ∃ P9, P9 = (mkP P8456.n0 P8456.n2 P8456.n5 P8456.n7 P8456.m0 (P8456.n5 + 1) P8456.w2 P8456.w7 P8456.kk P8456.a) := ⟨_, rfl⟩
              rw [← eP8464] at h8460
              have fP8464 : P8464.n0 = P8456.n0 ∧ P8464.n2 = P8456.n2 ∧ P8464.n5 = P8456.n5 ∧ P8464.n7 = P8456.n7 ∧ P8464.m0 = P8456.m0 ∧ P8464.m5 = P8456.n5 + 1 ∧ P8464.w2 = P8456.w2 ∧ P8464.w7 = P8456.w7 ∧ P8464.kk = P8456.kk ∧ P8464.a = P8456.a := by rw [eP8464]; exact ⟨rfl, rfl, rfl, rfl, rfl, rfl, rfl, rfl, rfl, rfl⟩
              refine m_aload_n F rfl e_X10_readLease_121 ?_
              refine r_get F e_X10_readLease_122 fl_X10_25 h8460 rfl (fun v hv f8465 => ?_)
              obtain rfl : v = .ref (c + 6) := hv
              refine m_iload_n F rfl e_X10_readLease_125 ?_
              refine m_aload_n F rfl e_X10_readLease_126 ?_
              refine m_iconst F (v := 0) (by decide) e_X10_readLease_127 ?_
              refine m_ldc F kc_X10_169 e_X10_readLease_128 ?_
              have oP8469 : OKP P8464 := by unfold OKP; omega
              refine r_callV F e_X10_readLease_130 (q_X10_numeral (x_l X) V c T 0 u h P8464 L _ _ 0 200000 h8460.1 (hob) oP8469 (by omega) (by omega)) cb_X10_numeral ml_X10_165 im_X10_numeral se_X10_numeral h8460 rfl rfl (rest := [.int (nI (4 + P8269.n5)), .ref (c + 6)]) rfl (Nat.le_of_ble_eq_true rfl) ⟨Nat.le_of_ble_eq_true rfl, Nat.le_of_ble_eq_true rfl⟩ ⟨Nat.le_of_ble_eq_true rfl, Nat.le_of_ble_eq_true rfl⟩ (fun r σ8466 hp => ?_)
              obtain ⟨P8471, oP8471, rP8471, h8467, c8470⟩ := hp
              have h8468 := HS.trans h8460 h8467 (by decide)
              have xP8471 := oP8471
              unfold OKP at xP8471
              unfold RA at rP8471
              rcases c8470 with ⟨n8472, gn8472, hn8472, rfl⟩ | ⟨h8473, rfl⟩
              · refine r_iast F (g' := (⟨T, 0, u, h, P8471, L⟩ : RG)) (len := 8) (j := 4 + P8269.n5) e_X10_readLease_133 h8468 (fun _ h => h) (fun f h => ⟨f, rfl, h⟩) (by decide) (by decide) (nI_clamp (by omega)) (vp_in_nI (by omega) (by decide)) ⟨n8472, by omega, rfl⟩ (fun _ _ _ h => h) (fun _ _ _ h => h) (fun σ8474 h8475 g8476 f8477 g8478 => ?_)
                refine m_aload_n F rfl e_X10_readLease_134 ?_
                refine r_get F e_X10_readLease_135 fl_X10_28 h8475 rfl (fun v hv f8479 => ?_)
                obtain rfl : v = .ref (c + 7) := hv
                refine m_iload_n F rfl e_X10_readLease_138 ?_
                refine m_iconst F (v := 0) (by decide) e_X10_readLease_139 ?_
                refine r_iast F (g' := (⟨T, 0, u, h, P8471, L⟩ : RG)) (len := 8) (j := 4 + P8269.n5) e_X10_readLease_140 h8475 (fun _ h => h) (fun f h => ⟨f, rfl, h⟩) (by decide) (by decide) (nI_clamp (by omega)) (vp_in_nI (by omega) (by decide)) trivial (fun _ _ _ h => h) (fun _ _ _ h => h) (fun σ8480 h8481 g8482 f8483 g8484 => ?_)
                refine m_aload_n F rfl e_X10_readLease_141 ?_
                refine r_get F e_X10_readLease_142 fl_X10_31 h8481 rfl (fun v hv f8485 => ?_)
                obtain rfl : v = .ref (c + 8) := hv
                refine m_iload_n F rfl e_X10_readLease_145 ?_
                refine m_iconst F (v := 0) (by decide) e_X10_readLease_146 ?_
                refine r_iast F (g' := (⟨T, 0, u, h, P8471, L⟩ : RG)) (len := 8) (j := 4 + P8269.n5) e_X10_readLease_147 h8481 (fun _ h => h) (fun f h => ⟨f, rfl, h⟩) (by decide) (by decide) (nI_clamp (by omega)) (vp_in_nI (by omega) (by decide)) trivial (fun _ _ _ h => h) (fun _ _ _ h => h) (fun σ8486 h8487 g8488 f8489 g8490 => ?_)
                refine m_aload_n F rfl e_X10_readLease_148 ?_
                refine r_get F e_X10_readLease_149 fl_X10_34 h8487 rfl (fun v hv f8491 => ?_)
                obtain rfl : v = .ref (c + 9) := hv
                refine m_iload_n F rfl e_X10_readLease_152 ?_
                refine m_iconst F (v := 0) (by decide) e_X10_readLease_153 ?_
                refine r_iast F (g' := (⟨T, 0, u, h, P8471, L⟩ : RG)) (len := 8) (j := 4 + P8269.n5) e_X10_readLease_154 h8487 (fun _ h => h) (fun f h => ⟨f, rfl, h⟩) (by decide) (by decide) (nI_clamp (by omega)) (vp_in_nI (by omega) (by decide)) trivial (fun _ _ _ h => h) (fun _ _ _ h => h) (fun σ8492 h8493 g8494 f8495 g8496 => ?_)
                refine m_iconst F (v := 0) (by decide) e_X10_readLease_155 ?_
                refine m_istore_n F (lv' := [(2, .int 0), (1, .int (nI (4 + P8269.n5))), (0, .ref c)]) e_X10_readLease_156 (by decide) rfl ?_
                refine Wm.lvsub (lv' := [(0, .ref c), (1, .int (nI (4 + P8269.n5))), (2, .int 0)]) ?_ [2, 1, 0] rfl
                exact lq_X10_readLease_157 F hQ hob hP  (48 - 0 + 1) (4 + P8269.n5) 0 P8471 _ ⟨HR.mono (Z' := Z) (by intro e9; first | rfl | assumption | omega) h8493.1, h8493.2⟩ oP8471 (by unfold RP; omega) (by omega) (Nat.lt_succ_self _)
              · have h8497 : HS V c (⟨T, 0, u, h, P8471, L⟩ : RG) [0, 2, 12, 13, 14, 15, 16, 17, 18, 19, 20, 21, 22, 23] _ _ := ⟨h8473, h8468.2⟩
                refine r_iast F (g' := (⟨T, 0, u, h, P8471, L⟩ : RG)) (len := 8) (j := 4 + P8269.n5) e_X10_readLease_133 h8497 (fun _ h => h) (fun f h => ⟨f, rfl, h⟩) (by decide) (by decide) (nI_clamp (by omega)) (vp_in_nI (by omega) (by decide)) ⟨0, by omega, rfl⟩ (fun _ _ _ h => h) (fun _ _ _ h => h) (fun σ8498 h8499 g8500 f8501 g8502 => ?_)
                refine m_aload_n F rfl e_X10_readLease_134 ?_
                refine r_get F e_X10_readLease_135 fl_X10_28 h8499 rfl (fun v hv f8503 => ?_)
                obtain rfl : v = .ref (c + 7) := hv
                refine m_iload_n F rfl e_X10_readLease_138 ?_
                refine m_iconst F (v := 0) (by decide) e_X10_readLease_139 ?_
                refine r_iast F (g' := (⟨T, 0, u, h, P8471, L⟩ : RG)) (len := 8) (j := 4 + P8269.n5) e_X10_readLease_140 h8499 (fun _ h => h) (fun f h => ⟨f, rfl, h⟩) (by decide) (by decide) (nI_clamp (by omega)) (vp_in_nI (by omega) (by decide)) trivial (fun _ _ _ h => h) (fun _ _ _ h => h) (fun σ8504 h8505 g8506 f8507 g8508 => ?_)
                refine m_aload_n F rfl e_X10_readLease_141 ?_
                refine r_get F e_X10_readLease_142 fl_X10_31 h8505 rfl (fun v hv f8509 => ?_)
                obtain rfl : v = .ref (c + 8) := hv
                refine m_iload_n F rfl e_X10_readLease_145 ?_
                refine m_iconst F (v := 0) (by decide) e_X10_readLease_146 ?_
                refine r_iast F (g' := (⟨T, 0, u, h, P8471, L⟩ : RG)) (len := 8) (j := 4 + P8269.n5) e_X10_readLease_147 h8505 (fun _ h => h) (fun f h => ⟨f, rfl, h⟩) (by decide) (by decide) (nI_clamp (by omega)) (vp_in_nI (by omega) (by decide)) trivial (fun _ _ _ h => h) (fun _ _ _ h => h) (fun σ8510 h8511 g8512 f8513 g8514 => ?_)
                refine m_aload_n F rfl e_X10_readLease_148 ?_
                refine r_get F e_X10_readLease_149 fl_X10_34 h8511 rfl (fun v hv f8515 => ?_)
                obtain rfl : v = .ref (c + 9) := hv
                refine m_iload_n F rfl e_X10_readLease_152 ?_
                refine m_iconst F (v := 0) (by decide) e_X10_readLease_153 ?_
                refine r_iast F (g' := (⟨T, 0, u, h, P8471, L⟩ : RG)) (len := 8) (j := 4 + P8269.n5) e_X10_readLease_154 h8511 (fun _ h => h) (fun f h => ⟨f, rfl, h⟩) (by decide) (by decide) (nI_clamp (by omega)) (vp_in_nI (by omega) (by decide)) trivial (fun _ _ _ h => h) (fun _ _ _ h => h) (fun σ8516 h8517 g8518 f8519 g8520 => ?_)
                refine m_iconst F (v := 0) (by decide) e_X10_readLease_155 ?_
                refine m_istore_n F (lv' := [(2, .int 0), (1, .int (nI (4 + P8269.n5))), (0, .ref c)]) e_X10_readLease_156 (by decide) rfl ?_
                refine Wm.lvsub (lv' := [(0, .ref c), (1, .int (nI (4 + P8269.n5))), (2, .int 0)]) ?_ [2, 1, 0] rfl
                exact lq_X10_readLease_157 F hQ hob hP  (48 - 0 + 1) (4 + P8269.n5) 0 P8471 _ ⟨HR.mono (Z' := Z) (by intro e9; first | rfl | assumption | omega) h8517.1, h8517.2⟩ oP8471 (by unfold RP; omega) (by omega) (Nat.lt_succ_self _)
            · have h8521 : HS V c (⟨T, 0, u, h, P8456, L⟩ : RG) [0, 2, 12, 13, 14, 15, 16, 17, 18, 19, 20, 21, 22, 23] _ _ := ⟨h8458, h8454.2⟩
              refine r_iast F (g' := (⟨T, 0, u, h, (mkP P8456.n0 P8456.n2 P8456.n5 P8456.n7 P8456.m0 (P8456.n5 + 1) P8456.w2 P8456.w7 P8456.kk P8456.a), L⟩ : RG)) (len := 8) (j := 4 + P8269.n5) e_X10_readLease_120 h8521 (fun _ h => h) (fun f h => ⟨f, rfl, h⟩) (by decide) (by decide) (nI_clamp (by omega)) (vp_in_nI (by omega) (by decide)) ⟨1, by omega, rfl, fun h7 _ => absurd h7 (by omega), fun _ _ => by omega⟩ (fun i hi y hy => by obtain ⟨n9, a9, b9, c9, d9⟩ := hy; exact ⟨n9, a9, b9, c9, fun h7 h8 => d9 h7 (show i < 4 + P8456.m5 by have h6 : i < 4 + (P8456.n5 + 1) := h8; omega)⟩) (CR.chg (by intro k hk i x h; unfold EI at h ⊢; split at h <;> first | exact h | exact absurd rfl hk | trivial) rfl rfl) (fun σ8522 h8523 g8524 f8525 g8526 => ?_)
              obtain ⟨P8527, eP8527⟩ : ∃ P9, P9 = (mkP P8456.n0 P8456.n2 P8456.n5 P8456.n7 P8456.m0 (P8456.n5 + 1) P8456.w2 P8456.w7 P8456.kk P8456.a) := ⟨_, rfl⟩
              rw [← eP8527] at h8523
              have fP8527 : P8527.n0 = P8456.n0 ∧ P8527.n2 = P8456.n2 ∧ P8527.n5 = P8456.n5 ∧ P8527.n7 = P8456.n7 ∧ P8527.m0 = P8456.m0 ∧ P8527.m5 = P8456.n5 + 1 ∧ P8527.w2 = P8456.w2 ∧ P8527.w7 = P8456.w7 ∧ P8527.kk = P8456.kk ∧ P8527.a = P8456.a := by rw [eP8527]; exact ⟨rfl, rfl, rfl, rfl, rfl, rfl, rfl, rfl, rfl, rfl⟩
              refine m_aload_n F rfl e_X10_readLease_121 ?_
              refine r_get F e_X10_readLease_122 fl_X10_25 h8523 rfl (fun v hv f8528 => ?_)
              obtain rfl : v = .ref (c + 6) := hv
              refine m_iload_n F rfl e_X10_readLease_125 ?_
              refine m_aload_n F rfl e_X10_readLease_126 ?_
              refine m_iconst F (v := 0) (by decide) e_X10_readLease_127 ?_
              refine m_ldc F kc_X10_169 e_X10_readLease_128 ?_
              have oP8532 : OKP P8527 := by unfold OKP; omega
              refine r_callV F e_X10_readLease_130 (q_X10_numeral (x_l X) V c T 0 u h P8527 L _ _ 0 200000 h8523.1 (hob) oP8532 (by omega) (by omega)) cb_X10_numeral ml_X10_165 im_X10_numeral se_X10_numeral h8523 rfl rfl (rest := [.int (nI (4 + P8269.n5)), .ref (c + 6)]) rfl (Nat.le_of_ble_eq_true rfl) ⟨Nat.le_of_ble_eq_true rfl, Nat.le_of_ble_eq_true rfl⟩ ⟨Nat.le_of_ble_eq_true rfl, Nat.le_of_ble_eq_true rfl⟩ (fun r σ8529 hp => ?_)
              obtain ⟨P8534, oP8534, rP8534, h8530, c8533⟩ := hp
              have h8531 := HS.trans h8523 h8530 (by decide)
              have xP8534 := oP8534
              unfold OKP at xP8534
              unfold RA at rP8534
              rcases c8533 with ⟨n8535, gn8535, hn8535, rfl⟩ | ⟨h8536, rfl⟩
              · refine r_iast F (g' := (⟨T, 0, u, h, P8534, L⟩ : RG)) (len := 8) (j := 4 + P8269.n5) e_X10_readLease_133 h8531 (fun _ h => h) (fun f h => ⟨f, rfl, h⟩) (by decide) (by decide) (nI_clamp (by omega)) (vp_in_nI (by omega) (by decide)) ⟨n8535, by omega, rfl⟩ (fun _ _ _ h => h) (fun _ _ _ h => h) (fun σ8537 h8538 g8539 f8540 g8541 => ?_)
                refine m_aload_n F rfl e_X10_readLease_134 ?_
                refine r_get F e_X10_readLease_135 fl_X10_28 h8538 rfl (fun v hv f8542 => ?_)
                obtain rfl : v = .ref (c + 7) := hv
                refine m_iload_n F rfl e_X10_readLease_138 ?_
                refine m_iconst F (v := 0) (by decide) e_X10_readLease_139 ?_
                refine r_iast F (g' := (⟨T, 0, u, h, P8534, L⟩ : RG)) (len := 8) (j := 4 + P8269.n5) e_X10_readLease_140 h8538 (fun _ h => h) (fun f h => ⟨f, rfl, h⟩) (by decide) (by decide) (nI_clamp (by omega)) (vp_in_nI (by omega) (by decide)) trivial (fun _ _ _ h => h) (fun _ _ _ h => h) (fun σ8543 h8544 g8545 f8546 g8547 => ?_)
                refine m_aload_n F rfl e_X10_readLease_141 ?_
                refine r_get F e_X10_readLease_142 fl_X10_31 h8544 rfl (fun v hv f8548 => ?_)
                obtain rfl : v = .ref (c + 8) := hv
                refine m_iload_n F rfl e_X10_readLease_145 ?_
                refine m_iconst F (v := 0) (by decide) e_X10_readLease_146 ?_
                refine r_iast F (g' := (⟨T, 0, u, h, P8534, L⟩ : RG)) (len := 8) (j := 4 + P8269.n5) e_X10_readLease_147 h8544 (fun _ h => h) (fun f h => ⟨f, rfl, h⟩) (by decide) (by decide) (nI_clamp (by omega)) (vp_in_nI (by omega) (by decide)) trivial (fun _ _ _ h => h) (fun _ _ _ h => h) (fun σ8549 h8550 g8551 f8552 g8553 => ?_)
                refine m_aload_n F rfl e_X10_readLease_148 ?_
                refine r_get F e_X10_readLease_149 fl_X10_34 h8550 rfl (fun v hv f8554 => ?_)
                obtain rfl : v = .ref (c + 9) := hv
                refine m_iload_n F rfl e_X10_readLease_152 ?_
                refine m_iconst F (v := 0) (by decide) e_X10_readLease_153 ?_
                refine r_iast F (g' := (⟨T, 0, u, h, P8534, L⟩ : RG)) (len := 8) (j := 4 + P8269.n5) e_X10_readLease_154 h8550 (fun _ h => h) (fun f h => ⟨f, rfl, h⟩) (by decide) (by decide) (nI_clamp (by omega)) (vp_in_nI (by omega) (by decide)) trivial (fun _ _ _ h => h) (fun _ _ _ h => h) (fun σ8555 h8556 g8557 f8558 g8559 => ?_)
                refine m_iconst F (v := 0) (by decide) e_X10_readLease_155 ?_
                refine m_istore_n F (lv' := [(2, .int 0), (1, .int (nI (4 + P8269.n5))), (0, .ref c)]) e_X10_readLease_156 (by decide) rfl ?_
                refine Wm.lvsub (lv' := [(0, .ref c), (1, .int (nI (4 + P8269.n5))), (2, .int 0)]) ?_ [2, 1, 0] rfl
                exact lq_X10_readLease_157 F hQ hob hP  (48 - 0 + 1) (4 + P8269.n5) 0 P8534 _ ⟨HR.mono (Z' := Z) (by intro e9; first | rfl | assumption | omega) h8556.1, h8556.2⟩ oP8534 (by unfold RP; omega) (by omega) (Nat.lt_succ_self _)
              · have h8560 : HS V c (⟨T, 0, u, h, P8534, L⟩ : RG) [0, 2, 12, 13, 14, 15, 16, 17, 18, 19, 20, 21, 22, 23] _ _ := ⟨h8536, h8531.2⟩
                refine r_iast F (g' := (⟨T, 0, u, h, P8534, L⟩ : RG)) (len := 8) (j := 4 + P8269.n5) e_X10_readLease_133 h8560 (fun _ h => h) (fun f h => ⟨f, rfl, h⟩) (by decide) (by decide) (nI_clamp (by omega)) (vp_in_nI (by omega) (by decide)) ⟨0, by omega, rfl⟩ (fun _ _ _ h => h) (fun _ _ _ h => h) (fun σ8561 h8562 g8563 f8564 g8565 => ?_)
                refine m_aload_n F rfl e_X10_readLease_134 ?_
                refine r_get F e_X10_readLease_135 fl_X10_28 h8562 rfl (fun v hv f8566 => ?_)
                obtain rfl : v = .ref (c + 7) := hv
                refine m_iload_n F rfl e_X10_readLease_138 ?_
                refine m_iconst F (v := 0) (by decide) e_X10_readLease_139 ?_
                refine r_iast F (g' := (⟨T, 0, u, h, P8534, L⟩ : RG)) (len := 8) (j := 4 + P8269.n5) e_X10_readLease_140 h8562 (fun _ h => h) (fun f h => ⟨f, rfl, h⟩) (by decide) (by decide) (nI_clamp (by omega)) (vp_in_nI (by omega) (by decide)) trivial (fun _ _ _ h => h) (fun _ _ _ h => h) (fun σ8567 h8568 g8569 f8570 g8571 => ?_)
                refine m_aload_n F rfl e_X10_readLease_141 ?_
                refine r_get F e_X10_readLease_142 fl_X10_31 h8568 rfl (fun v hv f8572 => ?_)
                obtain rfl : v = .ref (c + 8) := hv
                refine m_iload_n F rfl e_X10_readLease_145 ?_
                refine m_iconst F (v := 0) (by decide) e_X10_readLease_146 ?_
                refine r_iast F (g' := (⟨T, 0, u, h, P8534, L⟩ : RG)) (len := 8) (j := 4 + P8269.n5) e_X10_readLease_147 h8568 (fun _ h => h) (fun f h => ⟨f, rfl, h⟩) (by decide) (by decide) (nI_clamp (by omega)) (vp_in_nI (by omega) (by decide)) trivial (fun _ _ _ h => h) (fun _ _ _ h => h) (fun σ8573 h8574 g8575 f8576 g8577 => ?_)
                refine m_aload_n F rfl e_X10_readLease_148 ?_
                refine r_get F e_X10_readLease_149 fl_X10_34 h8574 rfl (fun v hv f8578 => ?_)
                obtain rfl : v = .ref (c + 9) := hv
                refine m_iload_n F rfl e_X10_readLease_152 ?_
                refine m_iconst F (v := 0) (by decide) e_X10_readLease_153 ?_
                refine r_iast F (g' := (⟨T, 0, u, h, P8534, L⟩ : RG)) (len := 8) (j := 4 + P8269.n5) e_X10_readLease_154 h8574 (fun _ h => h) (fun f h => ⟨f, rfl, h⟩) (by decide) (by decide) (nI_clamp (by omega)) (vp_in_nI (by omega) (by decide)) trivial (fun _ _ _ h => h) (fun _ _ _ h => h) (fun σ8579 h8580 g8581 f8582 g8583 => ?_)
                refine m_iconst F (v := 0) (by decide) e_X10_readLease_155 ?_
                refine m_istore_n F (lv' := [(2, .int 0), (1, .int (nI (4 + P8269.n5))), (0, .ref c)]) e_X10_readLease_156 (by decide) rfl ?_
                refine Wm.lvsub (lv' := [(0, .ref c), (1, .int (nI (4 + P8269.n5))), (2, .int 0)]) ?_ [2, 1, 0] rfl
                exact lq_X10_readLease_157 F hQ hob hP  (48 - 0 + 1) (4 + P8269.n5) 0 P8534 _ ⟨HR.mono (Z' := Z) (by intro e9; first | rfl | assumption | omega) h8580.1, h8580.2⟩ oP8534 (by unfold RP; omega) (by omega) (Nat.lt_succ_self _)
        · refine m_iconst F (v := (-1)) (by decide) e_X10_readLease_56 ?_
          refine m_icmp_eq F e_X10_readLease_57 (fun q57 => ?_) (fun q57 => ?_)
          · refine m_aload_n F rfl e_X10_readLease_65 ?_
            refine r_getC F e_X10_readLease_66 fl_X10_141 h8282 ((fld_eq (h8281.2 c (by rw [show kC c c = 1 from kC_at (k := 0) (by decide)]; decide))).trans ((fld_eq (h8276.2 c (by rw [show kC c c = 1 from kC_at (k := 0) (by decide)]; decide))).trans f8271)) ?_
            refine m_if_eq F e_X10_readLease_69 (fun _ => ?_) (fun q => absurd (by decide) q)
            refine m_iconst F (v := 4) (by decide) e_X10_readLease_73 ?_
            refine m_aload_n F rfl e_X10_readLease_74 ?_
            refine m_iconst F (v := 0) (by decide) e_X10_readLease_75 ?_
            refine r_callV F e_X10_readLease_76 (q_X10_reading0 (x_l X) V c T Z u h P8269 L _ _  h8282.1 (hob) oP8269 ) cb_X10_reading ml_X10_157 im_X10_reading se_X10_reading h8282 rfl rfl (rest := [.int 4]) rfl (Nat.le_of_ble_eq_true rfl) ⟨Nat.le_of_ble_eq_true rfl, Nat.le_of_ble_eq_true rfl⟩ ⟨Nat.le_of_ble_eq_true rfl, Nat.le_of_ble_eq_true rfl⟩ (fun r σ8584 hp => ?_)
            obtain ⟨h8585, rfl⟩ := hp
            have h8586 := HS.trans h8282 h8585 (by decide)
            refine m_iadd F e_X10_readLease_79 ?_
            refine Wm.topE (w := nI (4 + P8269.n5)) (nI_add 4 P8269.n5) ?_
            refine m_istore_n F (lv' := [(1, .int (nI (4 + P8269.n5))), (0, .ref c)]) e_X10_readLease_80 (by decide) rfl ?_
            refine m_aload_n F rfl e_X10_readLease_81 ?_
            refine r_get F e_X10_readLease_82 fl_X10_16 h8586 rfl (fun v hv f8587 => ?_)
            obtain rfl : v = .ref (c + 3) := hv
            refine m_iload_n F rfl e_X10_readLease_85 ?_
            refine m_aload_n F rfl e_X10_readLease_86 ?_
            refine r_getC F e_X10_readLease_87 fl_X10_120 h8586 ((fld_eq (h8585.2 c (by rw [show kC c c = 1 from kC_at (k := 0) (by decide)]; decide))).trans ((fld_eq (h8281.2 c (by rw [show kC c c = 1 from kC_at (k := 0) (by decide)]; decide))).trans f8278)) ?_
            refine r_iast F (g' := (⟨T, Z, u, h, P8269, L⟩ : RG)) (len := 8) (j := 4 + P8269.n5) e_X10_readLease_90 h8586 (fun _ h => h) (fun f h => ⟨f, rfl, h⟩) (by decide) (by decide) (nI_clamp (by omega)) (vp_in_nI (by omega) (by decide)) trivial (fun _ _ _ h => h) (fun _ _ _ h => h) (fun σ8588 h8589 g8590 f8591 g8592 => ?_)
            refine m_aload_n F rfl e_X10_readLease_91 ?_
            refine r_callV F e_X10_readLease_92 (q_X10_token (x_l X) V c T Z u h P8269 L _ _  h8589.1 (hob) oP8269 ) cb_X10_token ml_X10_147 im_X10_token se_X10_token h8589 rfl rfl (rest := []) rfl (Nat.le_of_ble_eq_true rfl) ⟨Nat.le_of_ble_eq_true rfl, Nat.le_of_ble_eq_true rfl⟩ ⟨Nat.le_of_ble_eq_true rfl, Nat.le_of_ble_eq_true rfl⟩ (fun r σ8593 hp => ?_)
            obtain ⟨P8596, oP8596, rP8596, pr8597, h8594, rfl⟩ := hp
            have h8595 := HS.trans h8589 h8594 (by decide)
            have xP8596 := oP8596
            unfold OKP at xP8596
            unfold RA at rP8596
            refine m_aload_n F rfl e_X10_readLease_95 ?_
            refine r_get F e_X10_readLease_96 fl_X10_19 h8595 rfl (fun v hv f8598 => ?_)
            obtain rfl : v = .ref (c + 4) := hv
            refine m_iload_n F rfl e_X10_readLease_99 ?_
            refine m_aload_n F rfl e_X10_readLease_100 ?_
            refine m_iconst F (v := 0) (by decide) e_X10_readLease_101 ?_
            refine m_bipush F (v := 20) (by decide) e_X10_readLease_102 ?_
            refine r_callV F e_X10_readLease_104 (q_X10_numeral (x_l X) V c T Z u h P8596 L _ _ 0 20 h8595.1 (hob) oP8596 (by omega) (by omega)) cb_X10_numeral ml_X10_165 im_X10_numeral se_X10_numeral h8595 rfl rfl (rest := [.int (nI (4 + P8269.n5)), .ref (c + 4)]) rfl (Nat.le_of_ble_eq_true rfl) ⟨Nat.le_of_ble_eq_true rfl, Nat.le_of_ble_eq_true rfl⟩ ⟨Nat.le_of_ble_eq_true rfl, Nat.le_of_ble_eq_true rfl⟩ (fun r σ8599 hp => ?_)
            obtain ⟨P8603, oP8603, rP8603, h8600, c8602⟩ := hp
            have h8601 := HS.trans h8595 h8600 (by decide)
            have xP8603 := oP8603
            unfold OKP at xP8603
            unfold RA at rP8603
            rcases c8602 with ⟨n8604, gn8604, hn8604, rfl⟩ | ⟨h8605, rfl⟩
            · refine r_iast F (g' := (⟨T, Z, u, h, P8603, L⟩ : RG)) (len := 8) (j := 4 + P8269.n5) e_X10_readLease_107 h8601 (fun _ h => h) (fun f h => ⟨f, rfl, h⟩) (by decide) (by decide) (nI_clamp (by omega)) (vp_in_nI (by omega) (by decide)) trivial (fun _ _ _ h => h) (fun _ _ _ h => h) (fun σ8606 h8607 g8608 f8609 g8610 => ?_)
              refine m_aload_n F rfl e_X10_readLease_108 ?_
              refine r_get F e_X10_readLease_109 fl_X10_22 h8607 rfl (fun v hv f8611 => ?_)
              obtain rfl : v = .ref (c + 5) := hv
              refine m_iload_n F rfl e_X10_readLease_112 ?_
              refine m_aload_n F rfl e_X10_readLease_113 ?_
              refine m_iconst F (v := 1) (by decide) e_X10_readLease_114 ?_
              refine m_bipush F (v := 48) (by decide) e_X10_readLease_115 ?_
              refine r_callV F e_X10_readLease_117 (q_X10_numeral (x_l X) V c T Z u h P8603 L _ _ 1 48 h8607.1 (hob) oP8603 (by omega) (by omega)) cb_X10_numeral ml_X10_165 im_X10_numeral se_X10_numeral h8607 rfl rfl (rest := [.int (nI (4 + P8269.n5)), .ref (c + 5)]) rfl (Nat.le_of_ble_eq_true rfl) ⟨Nat.le_of_ble_eq_true rfl, Nat.le_of_ble_eq_true rfl⟩ ⟨Nat.le_of_ble_eq_true rfl, Nat.le_of_ble_eq_true rfl⟩ (fun r σ8612 hp => ?_)
              obtain ⟨P8616, oP8616, rP8616, h8613, c8615⟩ := hp
              have h8614 := HS.trans h8607 h8613 (by decide)
              have xP8616 := oP8616
              unfold OKP at xP8616
              unfold RA at rP8616
              rcases c8615 with ⟨n8617, gn8617, hn8617, rfl⟩ | ⟨h8618, rfl⟩
              · refine r_iast F (g' := (⟨T, Z, u, h, (mkP P8616.n0 P8616.n2 P8616.n5 P8616.n7 P8616.m0 (P8616.n5 + 1) P8616.w2 P8616.w7 P8616.kk P8616.a), L⟩ : RG)) (len := 8) (j := 4 + P8269.n5) e_X10_readLease_120 h8614 (fun _ h => h) (fun f h => ⟨f, rfl, h⟩) (by decide) (by decide) (nI_clamp (by omega)) (vp_in_nI (by omega) (by decide)) ⟨n8617, by omega, rfl, fun h7 _ => absurd h7 (by omega), fun _ _ => by omega⟩ (fun i hi y hy => by obtain ⟨n9, a9, b9, c9, d9⟩ := hy; exact ⟨n9, a9, b9, c9, fun h7 h8 => d9 h7 (show i < 4 + P8616.m5 by have h6 : i < 4 + (P8616.n5 + 1) := h8; omega)⟩) (CR.chg (by intro k hk i x h; unfold EI at h ⊢; split at h <;> first | exact h | exact absurd rfl hk | trivial) rfl rfl) (fun σ8619 h8620 g8621 f8622 g8623 => ?_)
                obtain ⟨P8624, eP8624⟩ : ∃ P9, P9 = (mkP P8616.n0 P8616.n2 P8616.n5 P8616.n7 P8616.m0 (P8616.n5 + 1) P8616.w2 P8616.w7 P8616.kk P8616.a) := ⟨_, rfl⟩
                rw [← eP8624] at h8620
                have fP8624 : P8624.n0 = P8616.n0 ∧ P8624.n2 = P8616.n2 ∧ P8624.n5 = P8616.n5 ∧ P8624.n7 = P8616.n7 ∧ P8624.m0 = P8616.m0 ∧ P8624.m5 = P8616.n5 + 1 ∧ P8624.w2 = P8616.w2 ∧ P8624.w7 = P8616.w7 ∧ P8624.kk = P8616.kk ∧ P8624.a = P8616.a := by rw [eP8624]; exact ⟨rfl, rfl, rfl, rfl, rfl, rfl, rfl, rfl, rfl, rfl⟩
                refine m_aload_n F rfl e_X10_readLease_121 ?_
                refine r_get F e_X10_readLease_122 fl_X10_25 h8620 rfl (fun v hv f8625 => ?_)
                obtain rfl : v = .ref (c + 6) := hv
                refine m_iload_n F rfl e_X10_readLease_125 ?_
                refine m_aload_n F rfl e_X10_readLease_126 ?_
                refine m_iconst F (v := 0) (by decide) e_X10_readLease_127 ?_
                refine m_ldc F kc_X10_169 e_X10_readLease_128 ?_
                have oP8629 : OKP P8624 := by unfold OKP; omega
                refine r_callV F e_X10_readLease_130 (q_X10_numeral (x_l X) V c T Z u h P8624 L _ _ 0 200000 h8620.1 (hob) oP8629 (by omega) (by omega)) cb_X10_numeral ml_X10_165 im_X10_numeral se_X10_numeral h8620 rfl rfl (rest := [.int (nI (4 + P8269.n5)), .ref (c + 6)]) rfl (Nat.le_of_ble_eq_true rfl) ⟨Nat.le_of_ble_eq_true rfl, Nat.le_of_ble_eq_true rfl⟩ ⟨Nat.le_of_ble_eq_true rfl, Nat.le_of_ble_eq_true rfl⟩ (fun r σ8626 hp => ?_)
                obtain ⟨P8631, oP8631, rP8631, h8627, c8630⟩ := hp
                have h8628 := HS.trans h8620 h8627 (by decide)
                have xP8631 := oP8631
                unfold OKP at xP8631
                unfold RA at rP8631
                rcases c8630 with ⟨n8632, gn8632, hn8632, rfl⟩ | ⟨h8633, rfl⟩
                · refine r_iast F (g' := (⟨T, Z, u, h, P8631, L⟩ : RG)) (len := 8) (j := 4 + P8269.n5) e_X10_readLease_133 h8628 (fun _ h => h) (fun f h => ⟨f, rfl, h⟩) (by decide) (by decide) (nI_clamp (by omega)) (vp_in_nI (by omega) (by decide)) ⟨n8632, by omega, rfl⟩ (fun _ _ _ h => h) (fun _ _ _ h => h) (fun σ8634 h8635 g8636 f8637 g8638 => ?_)
                  refine m_aload_n F rfl e_X10_readLease_134 ?_
                  refine r_get F e_X10_readLease_135 fl_X10_28 h8635 rfl (fun v hv f8639 => ?_)
                  obtain rfl : v = .ref (c + 7) := hv
                  refine m_iload_n F rfl e_X10_readLease_138 ?_
                  refine m_iconst F (v := 0) (by decide) e_X10_readLease_139 ?_
                  refine r_iast F (g' := (⟨T, Z, u, h, P8631, L⟩ : RG)) (len := 8) (j := 4 + P8269.n5) e_X10_readLease_140 h8635 (fun _ h => h) (fun f h => ⟨f, rfl, h⟩) (by decide) (by decide) (nI_clamp (by omega)) (vp_in_nI (by omega) (by decide)) trivial (fun _ _ _ h => h) (fun _ _ _ h => h) (fun σ8640 h8641 g8642 f8643 g8644 => ?_)
                  refine m_aload_n F rfl e_X10_readLease_141 ?_
                  refine r_get F e_X10_readLease_142 fl_X10_31 h8641 rfl (fun v hv f8645 => ?_)
                  obtain rfl : v = .ref (c + 8) := hv
                  refine m_iload_n F rfl e_X10_readLease_145 ?_
                  refine m_iconst F (v := 0) (by decide) e_X10_readLease_146 ?_
                  refine r_iast F (g' := (⟨T, Z, u, h, P8631, L⟩ : RG)) (len := 8) (j := 4 + P8269.n5) e_X10_readLease_147 h8641 (fun _ h => h) (fun f h => ⟨f, rfl, h⟩) (by decide) (by decide) (nI_clamp (by omega)) (vp_in_nI (by omega) (by decide)) trivial (fun _ _ _ h => h) (fun _ _ _ h => h) (fun σ8646 h8647 g8648 f8649 g8650 => ?_)
                  refine m_aload_n F rfl e_X10_readLease_148 ?_
                  refine r_get F e_X10_readLease_149 fl_X10_34 h8647 rfl (fun v hv f8651 => ?_)
                  obtain rfl : v = .ref (c + 9) := hv
                  refine m_iload_n F rfl e_X10_readLease_152 ?_
                  refine m_iconst F (v := 0) (by decide) e_X10_readLease_153 ?_
                  refine r_iast F (g' := (⟨T, Z, u, h, P8631, L⟩ : RG)) (len := 8) (j := 4 + P8269.n5) e_X10_readLease_154 h8647 (fun _ h => h) (fun f h => ⟨f, rfl, h⟩) (by decide) (by decide) (nI_clamp (by omega)) (vp_in_nI (by omega) (by decide)) trivial (fun _ _ _ h => h) (fun _ _ _ h => h) (fun σ8652 h8653 g8654 f8655 g8656 => ?_)
                  refine m_iconst F (v := 0) (by decide) e_X10_readLease_155 ?_
                  refine m_istore_n F (lv' := [(2, .int 0), (1, .int (nI (4 + P8269.n5))), (0, .ref c)]) e_X10_readLease_156 (by decide) rfl ?_
                  refine Wm.lvsub (lv' := [(0, .ref c), (1, .int (nI (4 + P8269.n5))), (2, .int 0)]) ?_ [2, 1, 0] rfl
                  exact lq_X10_readLease_157 F hQ hob hP  (48 - 0 + 1) (4 + P8269.n5) 0 P8631 _ h8653 oP8631 (by unfold RP; omega) (by omega) (Nat.lt_succ_self _)
                · have h8657 : HS V c (⟨T, 0, u, h, P8631, L⟩ : RG) [0, 2, 12, 13, 14, 15, 16, 17, 18, 19, 20, 21, 22, 23] _ _ := ⟨h8633, h8628.2⟩
                  refine r_iast F (g' := (⟨T, 0, u, h, P8631, L⟩ : RG)) (len := 8) (j := 4 + P8269.n5) e_X10_readLease_133 h8657 (fun _ h => h) (fun f h => ⟨f, rfl, h⟩) (by decide) (by decide) (nI_clamp (by omega)) (vp_in_nI (by omega) (by decide)) ⟨0, by omega, rfl⟩ (fun _ _ _ h => h) (fun _ _ _ h => h) (fun σ8658 h8659 g8660 f8661 g8662 => ?_)
                  refine m_aload_n F rfl e_X10_readLease_134 ?_
                  refine r_get F e_X10_readLease_135 fl_X10_28 h8659 rfl (fun v hv f8663 => ?_)
                  obtain rfl : v = .ref (c + 7) := hv
                  refine m_iload_n F rfl e_X10_readLease_138 ?_
                  refine m_iconst F (v := 0) (by decide) e_X10_readLease_139 ?_
                  refine r_iast F (g' := (⟨T, 0, u, h, P8631, L⟩ : RG)) (len := 8) (j := 4 + P8269.n5) e_X10_readLease_140 h8659 (fun _ h => h) (fun f h => ⟨f, rfl, h⟩) (by decide) (by decide) (nI_clamp (by omega)) (vp_in_nI (by omega) (by decide)) trivial (fun _ _ _ h => h) (fun _ _ _ h => h) (fun σ8664 h8665 g8666 f8667 g8668 => ?_)
                  refine m_aload_n F rfl e_X10_readLease_141 ?_
                  refine r_get F e_X10_readLease_142 fl_X10_31 h8665 rfl (fun v hv f8669 => ?_)
                  obtain rfl : v = .ref (c + 8) := hv
                  refine m_iload_n F rfl e_X10_readLease_145 ?_
                  refine m_iconst F (v := 0) (by decide) e_X10_readLease_146 ?_
                  refine r_iast F (g' := (⟨T, 0, u, h, P8631, L⟩ : RG)) (len := 8) (j := 4 + P8269.n5) e_X10_readLease_147 h8665 (fun _ h => h) (fun f h => ⟨f, rfl, h⟩) (by decide) (by decide) (nI_clamp (by omega)) (vp_in_nI (by omega) (by decide)) trivial (fun _ _ _ h => h) (fun _ _ _ h => h) (fun σ8670 h8671 g8672 f8673 g8674 => ?_)
                  refine m_aload_n F rfl e_X10_readLease_148 ?_
                  refine r_get F e_X10_readLease_149 fl_X10_34 h8671 rfl (fun v hv f8675 => ?_)
                  obtain rfl : v = .ref (c + 9) := hv
                  refine m_iload_n F rfl e_X10_readLease_152 ?_
                  refine m_iconst F (v := 0) (by decide) e_X10_readLease_153 ?_
                  refine r_iast F (g' := (⟨T, 0, u, h, P8631, L⟩ : RG)) (len := 8) (j := 4 + P8269.n5) e_X10_readLease_154 h8671 (fun _ h => h) (fun f h => ⟨f, rfl, h⟩) (by decide) (by decide) (nI_clamp (by omega)) (vp_in_nI (by omega) (by decide)) trivial (fun _ _ _ h => h) (fun _ _ _ h => h) (fun σ8676 h8677 g8678 f8679 g8680 => ?_)
                  refine m_iconst F (v := 0) (by decide) e_X10_readLease_155 ?_
                  refine m_istore_n F (lv' := [(2, .int 0), (1, .int (nI (4 + P8269.n5))), (0, .ref c)]) e_X10_readLease_156 (by decide) rfl ?_
                  refine Wm.lvsub (lv' := [(0, .ref c), (1, .int (nI (4 + P8269.n5))), (2, .int 0)]) ?_ [2, 1, 0] rfl
                  exact lq_X10_readLease_157 F hQ hob hP  (48 - 0 + 1) (4 + P8269.n5) 0 P8631 _ ⟨HR.mono (Z' := Z) (by intro e9; first | rfl | assumption | omega) h8677.1, h8677.2⟩ oP8631 (by unfold RP; omega) (by omega) (Nat.lt_succ_self _)
              · have h8681 : HS V c (⟨T, 0, u, h, P8616, L⟩ : RG) [0, 2, 12, 13, 14, 15, 16, 17, 18, 19, 20, 21, 22, 23] _ _ := ⟨h8618, h8614.2⟩
                refine r_iast F (g' := (⟨T, 0, u, h, (mkP P8616.n0 P8616.n2 P8616.n5 P8616.n7 P8616.m0 (P8616.n5 + 1) P8616.w2 P8616.w7 P8616.kk P8616.a), L⟩ : RG)) (len := 8) (j := 4 + P8269.n5) e_X10_readLease_120 h8681 (fun _ h => h) (fun f h => ⟨f, rfl, h⟩) (by decide) (by decide) (nI_clamp (by omega)) (vp_in_nI (by omega) (by decide)) ⟨1, by omega, rfl, fun h7 _ => absurd h7 (by omega), fun _ _ => by omega⟩ (fun i hi y hy => by obtain ⟨n9, a9, b9, c9, d9⟩ := hy; exact ⟨n9, a9, b9, c9, fun h7 h8 => d9 h7 (show i < 4 + P8616.m5 by have h6 : i < 4 + (P8616.n5 + 1) := h8; omega)⟩) (CR.chg (by intro k hk i x h; unfold EI at h ⊢; split at h <;> first | exact h | exact absurd rfl hk | trivial) rfl rfl) (fun σ8682 h8683 g8684 f8685 g8686 => ?_)
                obtain ⟨P8687, eP8687⟩ : ∃ P9, P9 = (mkP P8616.n0 P8616.n2 P8616.n5 P8616.n7 P8616.m0 (P8616.n5 + 1) P8616.w2 P8616.w7 P8616.kk P8616.a) := ⟨_, rfl⟩
                rw [← eP8687] at h8683
                have fP8687 : P8687.n0 = P8616.n0 ∧ P8687.n2 = P8616.n2 ∧ P8687.n5 = P8616.n5 ∧ P8687.n7 = P8616.n7 ∧ P8687.m0 = P8616.m0 ∧ P8687.m5 = P8616.n5 + 1 ∧ P8687.w2 = P8616.w2 ∧ P8687.w7 = P8616.w7 ∧ P8687.kk = P8616.kk ∧ P8687.a = P8616.a := by rw [eP8687]; exact ⟨rfl, rfl, rfl, rfl, rfl, rfl, rfl, rfl, rfl, rfl⟩
                refine m_aload_n F rfl e_X10_readLease_121 ?_
                refine r_get F e_X10_readLease_122 fl_X10_25 h8683 rfl (fun v hv f8688 => ?_)
                obtain rfl : v = .ref (c + 6) := hv
                refine m_iload_n F rfl e_X10_readLease_125 ?_
                refine m_aload_n F rfl e_X10_readLease_126 ?_
                refine m_iconst F (v := 0) (by decide) e_X10_readLease_127 ?_
                refine m_ldc F kc_X10_169 e_X10_readLease_128 ?_
                have oP8692 : OKP P8687 := by unfold OKP; omega
                refine r_callV F e_X10_readLease_130 (q_X10_numeral (x_l X) V c T 0 u h P8687 L _ _ 0 200000 h8683.1 (hob) oP8692 (by omega) (by omega)) cb_X10_numeral ml_X10_165 im_X10_numeral se_X10_numeral h8683 rfl rfl (rest := [.int (nI (4 + P8269.n5)), .ref (c + 6)]) rfl (Nat.le_of_ble_eq_true rfl) ⟨Nat.le_of_ble_eq_true rfl, Nat.le_of_ble_eq_true rfl⟩ ⟨Nat.le_of_ble_eq_true rfl, Nat.le_of_ble_eq_true rfl⟩ (fun r σ8689 hp => ?_)
                obtain ⟨P8694, oP8694, rP8694, h8690, c8693⟩ := hp
                have h8691 := HS.trans h8683 h8690 (by decide)
                have xP8694 := oP8694
                unfold OKP at xP8694
                unfold RA at rP8694
                rcases c8693 with ⟨n8695, gn8695, hn8695, rfl⟩ | ⟨h8696, rfl⟩
                · refine r_iast F (g' := (⟨T, 0, u, h, P8694, L⟩ : RG)) (len := 8) (j := 4 + P8269.n5) e_X10_readLease_133 h8691 (fun _ h => h) (fun f h => ⟨f, rfl, h⟩) (by decide) (by decide) (nI_clamp (by omega)) (vp_in_nI (by omega) (by decide)) ⟨n8695, by omega, rfl⟩ (fun _ _ _ h => h) (fun _ _ _ h => h) (fun σ8697 h8698 g8699 f8700 g8701 => ?_)
                  refine m_aload_n F rfl e_X10_readLease_134 ?_
                  refine r_get F e_X10_readLease_135 fl_X10_28 h8698 rfl (fun v hv f8702 => ?_)
                  obtain rfl : v = .ref (c + 7) := hv
                  refine m_iload_n F rfl e_X10_readLease_138 ?_
                  refine m_iconst F (v := 0) (by decide) e_X10_readLease_139 ?_
                  refine r_iast F (g' := (⟨T, 0, u, h, P8694, L⟩ : RG)) (len := 8) (j := 4 + P8269.n5) e_X10_readLease_140 h8698 (fun _ h => h) (fun f h => ⟨f, rfl, h⟩) (by decide) (by decide) (nI_clamp (by omega)) (vp_in_nI (by omega) (by decide)) trivial (fun _ _ _ h => h) (fun _ _ _ h => h) (fun σ8703 h8704 g8705 f8706 g8707 => ?_)
                  refine m_aload_n F rfl e_X10_readLease_141 ?_
                  refine r_get F e_X10_readLease_142 fl_X10_31 h8704 rfl (fun v hv f8708 => ?_)
                  obtain rfl : v = .ref (c + 8) := hv
                  refine m_iload_n F rfl e_X10_readLease_145 ?_
                  refine m_iconst F (v := 0) (by decide) e_X10_readLease_146 ?_
                  refine r_iast F (g' := (⟨T, 0, u, h, P8694, L⟩ : RG)) (len := 8) (j := 4 + P8269.n5) e_X10_readLease_147 h8704 (fun _ h => h) (fun f h => ⟨f, rfl, h⟩) (by decide) (by decide) (nI_clamp (by omega)) (vp_in_nI (by omega) (by decide)) trivial (fun _ _ _ h => h) (fun _ _ _ h => h) (fun σ8709 h8710 g8711 f8712 g8713 => ?_)
                  refine m_aload_n F rfl e_X10_readLease_148 ?_
                  refine r_get F e_X10_readLease_149 fl_X10_34 h8710 rfl (fun v hv f8714 => ?_)
                  obtain rfl : v = .ref (c + 9) := hv
                  refine m_iload_n F rfl e_X10_readLease_152 ?_
                  refine m_iconst F (v := 0) (by decide) e_X10_readLease_153 ?_
                  refine r_iast F (g' := (⟨T, 0, u, h, P8694, L⟩ : RG)) (len := 8) (j := 4 + P8269.n5) e_X10_readLease_154 h8710 (fun _ h => h) (fun f h => ⟨f, rfl, h⟩) (by decide) (by decide) (nI_clamp (by omega)) (vp_in_nI (by omega) (by decide)) trivial (fun _ _ _ h => h) (fun _ _ _ h => h) (fun σ8715 h8716 g8717 f8718 g8719 => ?_)
                  refine m_iconst F (v := 0) (by decide) e_X10_readLease_155 ?_
                  refine m_istore_n F (lv' := [(2, .int 0), (1, .int (nI (4 + P8269.n5))), (0, .ref c)]) e_X10_readLease_156 (by decide) rfl ?_
                  refine Wm.lvsub (lv' := [(0, .ref c), (1, .int (nI (4 + P8269.n5))), (2, .int 0)]) ?_ [2, 1, 0] rfl
                  exact lq_X10_readLease_157 F hQ hob hP  (48 - 0 + 1) (4 + P8269.n5) 0 P8694 _ ⟨HR.mono (Z' := Z) (by intro e9; first | rfl | assumption | omega) h8716.1, h8716.2⟩ oP8694 (by unfold RP; omega) (by omega) (Nat.lt_succ_self _)
                · have h8720 : HS V c (⟨T, 0, u, h, P8694, L⟩ : RG) [0, 2, 12, 13, 14, 15, 16, 17, 18, 19, 20, 21, 22, 23] _ _ := ⟨h8696, h8691.2⟩
                  refine r_iast F (g' := (⟨T, 0, u, h, P8694, L⟩ : RG)) (len := 8) (j := 4 + P8269.n5) e_X10_readLease_133 h8720 (fun _ h => h) (fun f h => ⟨f, rfl, h⟩) (by decide) (by decide) (nI_clamp (by omega)) (vp_in_nI (by omega) (by decide)) ⟨0, by omega, rfl⟩ (fun _ _ _ h => h) (fun _ _ _ h => h) (fun σ8721 h8722 g8723 f8724 g8725 => ?_)
                  refine m_aload_n F rfl e_X10_readLease_134 ?_
                  refine r_get F e_X10_readLease_135 fl_X10_28 h8722 rfl (fun v hv f8726 => ?_)
                  obtain rfl : v = .ref (c + 7) := hv
                  refine m_iload_n F rfl e_X10_readLease_138 ?_
                  refine m_iconst F (v := 0) (by decide) e_X10_readLease_139 ?_
                  refine r_iast F (g' := (⟨T, 0, u, h, P8694, L⟩ : RG)) (len := 8) (j := 4 + P8269.n5) e_X10_readLease_140 h8722 (fun _ h => h) (fun f h => ⟨f, rfl, h⟩) (by decide) (by decide) (nI_clamp (by omega)) (vp_in_nI (by omega) (by decide)) trivial (fun _ _ _ h => h) (fun _ _ _ h => h) (fun σ8727 h8728 g8729 f8730 g8731 => ?_)
                  refine m_aload_n F rfl e_X10_readLease_141 ?_
                  refine r_get F e_X10_readLease_142 fl_X10_31 h8728 rfl (fun v hv f8732 => ?_)
                  obtain rfl : v = .ref (c + 8) := hv
                  refine m_iload_n F rfl e_X10_readLease_145 ?_
                  refine m_iconst F (v := 0) (by decide) e_X10_readLease_146 ?_
                  refine r_iast F (g' := (⟨T, 0, u, h, P8694, L⟩ : RG)) (len := 8) (j := 4 + P8269.n5) e_X10_readLease_147 h8728 (fun _ h => h) (fun f h => ⟨f, rfl, h⟩) (by decide) (by decide) (nI_clamp (by omega)) (vp_in_nI (by omega) (by decide)) trivial (fun _ _ _ h => h) (fun _ _ _ h => h) (fun σ8733 h8734 g8735 f8736 g8737 => ?_)
                  refine m_aload_n F rfl e_X10_readLease_148 ?_
                  refine r_get F e_X10_readLease_149 fl_X10_34 h8734 rfl (fun v hv f8738 => ?_)
                  obtain rfl : v = .ref (c + 9) := hv
                  refine m_iload_n F rfl e_X10_readLease_152 ?_
                  refine m_iconst F (v := 0) (by decide) e_X10_readLease_153 ?_
                  refine r_iast F (g' := (⟨T, 0, u, h, P8694, L⟩ : RG)) (len := 8) (j := 4 + P8269.n5) e_X10_readLease_154 h8734 (fun _ h => h) (fun f h => ⟨f, rfl, h⟩) (by decide) (by decide) (nI_clamp (by omega)) (vp_in_nI (by omega) (by decide)) trivial (fun _ _ _ h => h) (fun _ _ _ h => h) (fun σ8739 h8740 g8741 f8742 g8743 => ?_)
                  refine m_iconst F (v := 0) (by decide) e_X10_readLease_155 ?_
                  refine m_istore_n F (lv' := [(2, .int 0), (1, .int (nI (4 + P8269.n5))), (0, .ref c)]) e_X10_readLease_156 (by decide) rfl ?_
                  refine Wm.lvsub (lv' := [(0, .ref c), (1, .int (nI (4 + P8269.n5))), (2, .int 0)]) ?_ [2, 1, 0] rfl
                  exact lq_X10_readLease_157 F hQ hob hP  (48 - 0 + 1) (4 + P8269.n5) 0 P8694 _ ⟨HR.mono (Z' := Z) (by intro e9; first | rfl | assumption | omega) h8740.1, h8740.2⟩ oP8694 (by unfold RP; omega) (by omega) (Nat.lt_succ_self _)
            · have h8744 : HS V c (⟨T, 0, u, h, P8603, L⟩ : RG) [0, 2, 12, 13, 14, 15, 16, 17, 18, 19, 20, 21, 22, 23] _ _ := ⟨h8605, h8601.2⟩
              refine r_iast F (g' := (⟨T, 0, u, h, P8603, L⟩ : RG)) (len := 8) (j := 4 + P8269.n5) e_X10_readLease_107 h8744 (fun _ h => h) (fun f h => ⟨f, rfl, h⟩) (by decide) (by decide) (nI_clamp (by omega)) (vp_in_nI (by omega) (by decide)) trivial (fun _ _ _ h => h) (fun _ _ _ h => h) (fun σ8745 h8746 g8747 f8748 g8749 => ?_)
              refine m_aload_n F rfl e_X10_readLease_108 ?_
              refine r_get F e_X10_readLease_109 fl_X10_22 h8746 rfl (fun v hv f8750 => ?_)
              obtain rfl : v = .ref (c + 5) := hv
              refine m_iload_n F rfl e_X10_readLease_112 ?_
              refine m_aload_n F rfl e_X10_readLease_113 ?_
              refine m_iconst F (v := 1) (by decide) e_X10_readLease_114 ?_
              refine m_bipush F (v := 48) (by decide) e_X10_readLease_115 ?_
              refine r_callV F e_X10_readLease_117 (q_X10_numeral (x_l X) V c T 0 u h P8603 L _ _ 1 48 h8746.1 (hob) oP8603 (by omega) (by omega)) cb_X10_numeral ml_X10_165 im_X10_numeral se_X10_numeral h8746 rfl rfl (rest := [.int (nI (4 + P8269.n5)), .ref (c + 5)]) rfl (Nat.le_of_ble_eq_true rfl) ⟨Nat.le_of_ble_eq_true rfl, Nat.le_of_ble_eq_true rfl⟩ ⟨Nat.le_of_ble_eq_true rfl, Nat.le_of_ble_eq_true rfl⟩ (fun r σ8751 hp => ?_)
              obtain ⟨P8755, oP8755, rP8755, h8752, c8754⟩ := hp
              have h8753 := HS.trans h8746 h8752 (by decide)
              have xP8755 := oP8755
              unfold OKP at xP8755
              unfold RA at rP8755
              rcases c8754 with ⟨n8756, gn8756, hn8756, rfl⟩ | ⟨h8757, rfl⟩
              · refine r_iast F (g' := (⟨T, 0, u, h, (mkP P8755.n0 P8755.n2 P8755.n5 P8755.n7 P8755.m0 (P8755.n5 + 1) P8755.w2 P8755.w7 P8755.kk P8755.a), L⟩ : RG)) (len := 8) (j := 4 + P8269.n5) e_X10_readLease_120 h8753 (fun _ h => h) (fun f h => ⟨f, rfl, h⟩) (by decide) (by decide) (nI_clamp (by omega)) (vp_in_nI (by omega) (by decide)) ⟨n8756, by omega, rfl, fun h7 _ => absurd h7 (by omega), fun _ _ => by omega⟩ (fun i hi y hy => by obtain ⟨n9, a9, b9, c9, d9⟩ := hy; exact ⟨n9, a9, b9, c9, fun h7 h8 => d9 h7 (show i < 4 + P8755.m5 by have h6 : i < 4 + (P8755.n5 + 1) := h8; omega)⟩) (CR.chg (by intro k hk i x h; unfold EI at h ⊢; split at h <;> first | exact h | exact absurd rfl hk | trivial) rfl rfl) (fun σ8758 h8759 g8760 f8761 g8762 => ?_)
                obtain ⟨P8763, eP8763⟩ : ∃ P9, P9 = (mkP P8755.n0 P8755.n2 P8755.n5 P8755.n7 P8755.m0 (P8755.n5 + 1) P8755.w2 P8755.w7 P8755.kk P8755.a) := ⟨_, rfl⟩
                rw [← eP8763] at h8759
                have fP8763 : P8763.n0 = P8755.n0 ∧ P8763.n2 = P8755.n2 ∧ P8763.n5 = P8755.n5 ∧ P8763.n7 = P8755.n7 ∧ P8763.m0 = P8755.m0 ∧ P8763.m5 = P8755.n5 + 1 ∧ P8763.w2 = P8755.w2 ∧ P8763.w7 = P8755.w7 ∧ P8763.kk = P8755.kk ∧ P8763.a = P8755.a := by rw [eP8763]; exact ⟨rfl, rfl, rfl, rfl, rfl, rfl, rfl, rfl, rfl, rfl⟩
                refine m_aload_n F rfl e_X10_readLease_121 ?_
                refine r_get F e_X10_readLease_122 fl_X10_25 h8759 rfl (fun v hv f8764 => ?_)
                obtain rfl : v = .ref (c + 6) := hv
                refine m_iload_n F rfl e_X10_readLease_125 ?_
                refine m_aload_n F rfl e_X10_readLease_126 ?_
                refine m_iconst F (v := 0) (by decide) e_X10_readLease_127 ?_
                refine m_ldc F kc_X10_169 e_X10_readLease_128 ?_
                have oP8768 : OKP P8763 := by unfold OKP; omega
                refine r_callV F e_X10_readLease_130 (q_X10_numeral (x_l X) V c T 0 u h P8763 L _ _ 0 200000 h8759.1 (hob) oP8768 (by omega) (by omega)) cb_X10_numeral ml_X10_165 im_X10_numeral se_X10_numeral h8759 rfl rfl (rest := [.int (nI (4 + P8269.n5)), .ref (c + 6)]) rfl (Nat.le_of_ble_eq_true rfl) ⟨Nat.le_of_ble_eq_true rfl, Nat.le_of_ble_eq_true rfl⟩ ⟨Nat.le_of_ble_eq_true rfl, Nat.le_of_ble_eq_true rfl⟩ (fun r σ8765 hp => ?_)
                obtain ⟨P8770, oP8770, rP8770, h8766, c8769⟩ := hp
                have h8767 := HS.trans h8759 h8766 (by decide)
                have xP8770 := oP8770
                unfold OKP at xP8770
                unfold RA at rP8770
                rcases c8769 with ⟨n8771, gn8771, hn8771, rfl⟩ | ⟨h8772, rfl⟩
                · refine r_iast F (g' := (⟨T, 0, u, h, P8770, L⟩ : RG)) (len := 8) (j := 4 + P8269.n5) e_X10_readLease_133 h8767 (fun _ h => h) (fun f h => ⟨f, rfl, h⟩) (by decide) (by decide) (nI_clamp (by omega)) (vp_in_nI (by omega) (by decide)) ⟨n8771, by omega, rfl⟩ (fun _ _ _ h => h) (fun _ _ _ h => h) (fun σ8773 h8774 g8775 f8776 g8777 => ?_)
                  refine m_aload_n F rfl e_X10_readLease_134 ?_
                  refine r_get F e_X10_readLease_135 fl_X10_28 h8774 rfl (fun v hv f8778 => ?_)
                  obtain rfl : v = .ref (c + 7) := hv
                  refine m_iload_n F rfl e_X10_readLease_138 ?_
                  refine m_iconst F (v := 0) (by decide) e_X10_readLease_139 ?_
                  refine r_iast F (g' := (⟨T, 0, u, h, P8770, L⟩ : RG)) (len := 8) (j := 4 + P8269.n5) e_X10_readLease_140 h8774 (fun _ h => h) (fun f h => ⟨f, rfl, h⟩) (by decide) (by decide) (nI_clamp (by omega)) (vp_in_nI (by omega) (by decide)) trivial (fun _ _ _ h => h) (fun _ _ _ h => h) (fun σ8779 h8780 g8781 f8782 g8783 => ?_)
                  refine m_aload_n F rfl e_X10_readLease_141 ?_
                  refine r_get F e_X10_readLease_142 fl_X10_31 h8780 rfl (fun v hv f8784 => ?_)
                  obtain rfl : v = .ref (c + 8) := hv
                  refine m_iload_n F rfl e_X10_readLease_145 ?_
                  refine m_iconst F (v := 0) (by decide) e_X10_readLease_146 ?_
                  refine r_iast F (g' := (⟨T, 0, u, h, P8770, L⟩ : RG)) (len := 8) (j := 4 + P8269.n5) e_X10_readLease_147 h8780 (fun _ h => h) (fun f h => ⟨f, rfl, h⟩) (by decide) (by decide) (nI_clamp (by omega)) (vp_in_nI (by omega) (by decide)) trivial (fun _ _ _ h => h) (fun _ _ _ h => h) (fun σ8785 h8786 g8787 f8788 g8789 => ?_)
                  refine m_aload_n F rfl e_X10_readLease_148 ?_
                  refine r_get F e_X10_readLease_149 fl_X10_34 h8786 rfl (fun v hv f8790 => ?_)
                  obtain rfl : v = .ref (c + 9) := hv
                  refine m_iload_n F rfl e_X10_readLease_152 ?_
                  refine m_iconst F (v := 0) (by decide) e_X10_readLease_153 ?_
                  refine r_iast F (g' := (⟨T, 0, u, h, P8770, L⟩ : RG)) (len := 8) (j := 4 + P8269.n5) e_X10_readLease_154 h8786 (fun _ h => h) (fun f h => ⟨f, rfl, h⟩) (by decide) (by decide) (nI_clamp (by omega)) (vp_in_nI (by omega) (by decide)) trivial (fun _ _ _ h => h) (fun _ _ _ h => h) (fun σ8791 h8792 g8793 f8794 g8795 => ?_)
                  refine m_iconst F (v := 0) (by decide) e_X10_readLease_155 ?_
                  refine m_istore_n F (lv' := [(2, .int 0), (1, .int (nI (4 + P8269.n5))), (0, .ref c)]) e_X10_readLease_156 (by decide) rfl ?_
                  refine Wm.lvsub (lv' := [(0, .ref c), (1, .int (nI (4 + P8269.n5))), (2, .int 0)]) ?_ [2, 1, 0] rfl
                  exact lq_X10_readLease_157 F hQ hob hP  (48 - 0 + 1) (4 + P8269.n5) 0 P8770 _ ⟨HR.mono (Z' := Z) (by intro e9; first | rfl | assumption | omega) h8792.1, h8792.2⟩ oP8770 (by unfold RP; omega) (by omega) (Nat.lt_succ_self _)
                · have h8796 : HS V c (⟨T, 0, u, h, P8770, L⟩ : RG) [0, 2, 12, 13, 14, 15, 16, 17, 18, 19, 20, 21, 22, 23] _ _ := ⟨h8772, h8767.2⟩
                  refine r_iast F (g' := (⟨T, 0, u, h, P8770, L⟩ : RG)) (len := 8) (j := 4 + P8269.n5) e_X10_readLease_133 h8796 (fun _ h => h) (fun f h => ⟨f, rfl, h⟩) (by decide) (by decide) (nI_clamp (by omega)) (vp_in_nI (by omega) (by decide)) ⟨0, by omega, rfl⟩ (fun _ _ _ h => h) (fun _ _ _ h => h) (fun σ8797 h8798 g8799 f8800 g8801 => ?_)
                  refine m_aload_n F rfl e_X10_readLease_134 ?_
                  refine r_get F e_X10_readLease_135 fl_X10_28 h8798 rfl (fun v hv f8802 => ?_)
                  obtain rfl : v = .ref (c + 7) := hv
                  refine m_iload_n F rfl e_X10_readLease_138 ?_
                  refine m_iconst F (v := 0) (by decide) e_X10_readLease_139 ?_
                  refine r_iast F (g' := (⟨T, 0, u, h, P8770, L⟩ : RG)) (len := 8) (j := 4 + P8269.n5) e_X10_readLease_140 h8798 (fun _ h => h) (fun f h => ⟨f, rfl, h⟩) (by decide) (by decide) (nI_clamp (by omega)) (vp_in_nI (by omega) (by decide)) trivial (fun _ _ _ h => h) (fun _ _ _ h => h) (fun σ8803 h8804 g8805 f8806 g8807 => ?_)
                  refine m_aload_n F rfl e_X10_readLease_141 ?_
                  refine r_get F e_X10_readLease_142 fl_X10_31 h8804 rfl (fun v hv f8808 => ?_)
                  obtain rfl : v = .ref (c + 8) := hv
                  refine m_iload_n F rfl e_X10_readLease_145 ?_
                  refine m_iconst F (v := 0) (by decide) e_X10_readLease_146 ?_
                  refine r_iast F (g' := (⟨T, 0, u, h, P8770, L⟩ : RG)) (len := 8) (j := 4 + P8269.n5) e_X10_readLease_147 h8804 (fun _ h => h) (fun f h => ⟨f, rfl, h⟩) (by decide) (by decide) (nI_clamp (by omega)) (vp_in_nI (by omega) (by decide)) trivial (fun _ _ _ h => h) (fun _ _ _ h => h) (fun σ8809 h8810 g8811 f8812 g8813 => ?_)
                  refine m_aload_n F rfl e_X10_readLease_148 ?_
                  refine r_get F e_X10_readLease_149 fl_X10_34 h8810 rfl (fun v hv f8814 => ?_)
                  obtain rfl : v = .ref (c + 9) := hv
                  refine m_iload_n F rfl e_X10_readLease_152 ?_
                  refine m_iconst F (v := 0) (by decide) e_X10_readLease_153 ?_
                  refine r_iast F (g' := (⟨T, 0, u, h, P8770, L⟩ : RG)) (len := 8) (j := 4 + P8269.n5) e_X10_readLease_154 h8810 (fun _ h => h) (fun f h => ⟨f, rfl, h⟩) (by decide) (by decide) (nI_clamp (by omega)) (vp_in_nI (by omega) (by decide)) trivial (fun _ _ _ h => h) (fun _ _ _ h => h) (fun σ8815 h8816 g8817 f8818 g8819 => ?_)
                  refine m_iconst F (v := 0) (by decide) e_X10_readLease_155 ?_
                  refine m_istore_n F (lv' := [(2, .int 0), (1, .int (nI (4 + P8269.n5))), (0, .ref c)]) e_X10_readLease_156 (by decide) rfl ?_
                  refine Wm.lvsub (lv' := [(0, .ref c), (1, .int (nI (4 + P8269.n5))), (2, .int 0)]) ?_ [2, 1, 0] rfl
                  exact lq_X10_readLease_157 F hQ hob hP  (48 - 0 + 1) (4 + P8269.n5) 0 P8770 _ ⟨HR.mono (Z' := Z) (by intro e9; first | rfl | assumption | omega) h8816.1, h8816.2⟩ oP8770 (by unfold RP; omega) (by omega) (Nat.lt_succ_self _)
              · have h8820 : HS V c (⟨T, 0, u, h, P8755, L⟩ : RG) [0, 2, 12, 13, 14, 15, 16, 17, 18, 19, 20, 21, 22, 23] _ _ := ⟨h8757, h8753.2⟩
                refine r_iast F (g' := (⟨T, 0, u, h, (mkP P8755.n0 P8755.n2 P8755.n5 P8755.n7 P8755.m0 (P8755.n5 + 1) P8755.w2 P8755.w7 P8755.kk P8755.a), L⟩ : RG)) (len := 8) (j := 4 + P8269.n5) e_X10_readLease_120 h8820 (fun _ h => h) (fun f h => ⟨f, rfl, h⟩) (by decide) (by decide) (nI_clamp (by omega)) (vp_in_nI (by omega) (by decide)) ⟨1, by omega, rfl, fun h7 _ => absurd h7 (by omega), fun _ _ => by omega⟩ (fun i hi y hy => by obtain ⟨n9, a9, b9, c9, d9⟩ := hy; exact ⟨n9, a9, b9, c9, fun h7 h8 => d9 h7 (show i < 4 + P8755.m5 by have h6 : i < 4 + (P8755.n5 + 1) := h8; omega)⟩) (CR.chg (by intro k hk i x h; unfold EI at h ⊢; split at h <;> first | exact h | exact absurd rfl hk | trivial) rfl rfl) (fun σ8821 h8822 g8823 f8824 g8825 => ?_)
                obtain ⟨P8826, eP8826⟩ : ∃ P9, P9 = (mkP P8755.n0 P8755.n2 P8755.n5 P8755.n7 P8755.m0 (P8755.n5 + 1) P8755.w2 P8755.w7 P8755.kk P8755.a) := ⟨_, rfl⟩
                rw [← eP8826] at h8822
                have fP8826 : P8826.n0 = P8755.n0 ∧ P8826.n2 = P8755.n2 ∧ P8826.n5 = P8755.n5 ∧ P8826.n7 = P8755.n7 ∧ P8826.m0 = P8755.m0 ∧ P8826.m5 = P8755.n5 + 1 ∧ P8826.w2 = P8755.w2 ∧ P8826.w7 = P8755.w7 ∧ P8826.kk = P8755.kk ∧ P8826.a = P8755.a := by rw [eP8826]; exact ⟨rfl, rfl, rfl, rfl, rfl, rfl, rfl, rfl, rfl, rfl⟩
                refine m_aload_n F rfl e_X10_readLease_121 ?_
                refine r_get F e_X10_readLease_122 fl_X10_25 h8822 rfl (fun v hv f8827 => ?_)
                obtain rfl : v = .ref (c + 6) := hv
                refine m_iload_n F rfl e_X10_readLease_125 ?_
                refine m_aload_n F rfl e_X10_readLease_126 ?_
                refine m_iconst F (v := 0) (by decide) e_X10_readLease_127 ?_
                refine m_ldc F kc_X10_169 e_X10_readLease_128 ?_
                have oP8831 : OKP P8826 := by unfold OKP; omega
                refine r_callV F e_X10_readLease_130 (q_X10_numeral (x_l X) V c T 0 u h P8826 L _ _ 0 200000 h8822.1 (hob) oP8831 (by omega) (by omega)) cb_X10_numeral ml_X10_165 im_X10_numeral se_X10_numeral h8822 rfl rfl (rest := [.int (nI (4 + P8269.n5)), .ref (c + 6)]) rfl (Nat.le_of_ble_eq_true rfl) ⟨Nat.le_of_ble_eq_true rfl, Nat.le_of_ble_eq_true rfl⟩ ⟨Nat.le_of_ble_eq_true rfl, Nat.le_of_ble_eq_true rfl⟩ (fun r σ8828 hp => ?_)
                obtain ⟨P8833, oP8833, rP8833, h8829, c8832⟩ := hp
                have h8830 := HS.trans h8822 h8829 (by decide)
                have xP8833 := oP8833
                unfold OKP at xP8833
                unfold RA at rP8833
                rcases c8832 with ⟨n8834, gn8834, hn8834, rfl⟩ | ⟨h8835, rfl⟩
                · refine r_iast F (g' := (⟨T, 0, u, h, P8833, L⟩ : RG)) (len := 8) (j := 4 + P8269.n5) e_X10_readLease_133 h8830 (fun _ h => h) (fun f h => ⟨f, rfl, h⟩) (by decide) (by decide) (nI_clamp (by omega)) (vp_in_nI (by omega) (by decide)) ⟨n8834, by omega, rfl⟩ (fun _ _ _ h => h) (fun _ _ _ h => h) (fun σ8836 h8837 g8838 f8839 g8840 => ?_)
                  refine m_aload_n F rfl e_X10_readLease_134 ?_
                  refine r_get F e_X10_readLease_135 fl_X10_28 h8837 rfl (fun v hv f8841 => ?_)
                  obtain rfl : v = .ref (c + 7) := hv
                  refine m_iload_n F rfl e_X10_readLease_138 ?_
                  refine m_iconst F (v := 0) (by decide) e_X10_readLease_139 ?_
                  refine r_iast F (g' := (⟨T, 0, u, h, P8833, L⟩ : RG)) (len := 8) (j := 4 + P8269.n5) e_X10_readLease_140 h8837 (fun _ h => h) (fun f h => ⟨f, rfl, h⟩) (by decide) (by decide) (nI_clamp (by omega)) (vp_in_nI (by omega) (by decide)) trivial (fun _ _ _ h => h) (fun _ _ _ h => h) (fun σ8842 h8843 g8844 f8845 g8846 => ?_)
                  refine m_aload_n F rfl e_X10_readLease_141 ?_
                  refine r_get F e_X10_readLease_142 fl_X10_31 h8843 rfl (fun v hv f8847 => ?_)
                  obtain rfl : v = .ref (c + 8) := hv
                  refine m_iload_n F rfl e_X10_readLease_145 ?_
                  refine m_iconst F (v := 0) (by decide) e_X10_readLease_146 ?_
                  refine r_iast F (g' := (⟨T, 0, u, h, P8833, L⟩ : RG)) (len := 8) (j := 4 + P8269.n5) e_X10_readLease_147 h8843 (fun _ h => h) (fun f h => ⟨f, rfl, h⟩) (by decide) (by decide) (nI_clamp (by omega)) (vp_in_nI (by omega) (by decide)) trivial (fun _ _ _ h => h) (fun _ _ _ h => h) (fun σ8848 h8849 g8850 f8851 g8852 => ?_)
                  refine m_aload_n F rfl e_X10_readLease_148 ?_
                  refine r_get F e_X10_readLease_149 fl_X10_34 h8849 rfl (fun v hv f8853 => ?_)
                  obtain rfl : v = .ref (c + 9) := hv
                  refine m_iload_n F rfl e_X10_readLease_152 ?_
                  refine m_iconst F (v := 0) (by decide) e_X10_readLease_153 ?_
                  refine r_iast F (g' := (⟨T, 0, u, h, P8833, L⟩ : RG)) (len := 8) (j := 4 + P8269.n5) e_X10_readLease_154 h8849 (fun _ h => h) (fun f h => ⟨f, rfl, h⟩) (by decide) (by decide) (nI_clamp (by omega)) (vp_in_nI (by omega) (by decide)) trivial (fun _ _ _ h => h) (fun _ _ _ h => h) (fun σ8854 h8855 g8856 f8857 g8858 => ?_)
                  refine m_iconst F (v := 0) (by decide) e_X10_readLease_155 ?_
                  refine m_istore_n F (lv' := [(2, .int 0), (1, .int (nI (4 + P8269.n5))), (0, .ref c)]) e_X10_readLease_156 (by decide) rfl ?_
                  refine Wm.lvsub (lv' := [(0, .ref c), (1, .int (nI (4 + P8269.n5))), (2, .int 0)]) ?_ [2, 1, 0] rfl
                  exact lq_X10_readLease_157 F hQ hob hP  (48 - 0 + 1) (4 + P8269.n5) 0 P8833 _ ⟨HR.mono (Z' := Z) (by intro e9; first | rfl | assumption | omega) h8855.1, h8855.2⟩ oP8833 (by unfold RP; omega) (by omega) (Nat.lt_succ_self _)
                · have h8859 : HS V c (⟨T, 0, u, h, P8833, L⟩ : RG) [0, 2, 12, 13, 14, 15, 16, 17, 18, 19, 20, 21, 22, 23] _ _ := ⟨h8835, h8830.2⟩
                  refine r_iast F (g' := (⟨T, 0, u, h, P8833, L⟩ : RG)) (len := 8) (j := 4 + P8269.n5) e_X10_readLease_133 h8859 (fun _ h => h) (fun f h => ⟨f, rfl, h⟩) (by decide) (by decide) (nI_clamp (by omega)) (vp_in_nI (by omega) (by decide)) ⟨0, by omega, rfl⟩ (fun _ _ _ h => h) (fun _ _ _ h => h) (fun σ8860 h8861 g8862 f8863 g8864 => ?_)
                  refine m_aload_n F rfl e_X10_readLease_134 ?_
                  refine r_get F e_X10_readLease_135 fl_X10_28 h8861 rfl (fun v hv f8865 => ?_)
                  obtain rfl : v = .ref (c + 7) := hv
                  refine m_iload_n F rfl e_X10_readLease_138 ?_
                  refine m_iconst F (v := 0) (by decide) e_X10_readLease_139 ?_
                  refine r_iast F (g' := (⟨T, 0, u, h, P8833, L⟩ : RG)) (len := 8) (j := 4 + P8269.n5) e_X10_readLease_140 h8861 (fun _ h => h) (fun f h => ⟨f, rfl, h⟩) (by decide) (by decide) (nI_clamp (by omega)) (vp_in_nI (by omega) (by decide)) trivial (fun _ _ _ h => h) (fun _ _ _ h => h) (fun σ8866 h8867 g8868 f8869 g8870 => ?_)
                  refine m_aload_n F rfl e_X10_readLease_141 ?_
                  refine r_get F e_X10_readLease_142 fl_X10_31 h8867 rfl (fun v hv f8871 => ?_)
                  obtain rfl : v = .ref (c + 8) := hv
                  refine m_iload_n F rfl e_X10_readLease_145 ?_
                  refine m_iconst F (v := 0) (by decide) e_X10_readLease_146 ?_
                  refine r_iast F (g' := (⟨T, 0, u, h, P8833, L⟩ : RG)) (len := 8) (j := 4 + P8269.n5) e_X10_readLease_147 h8867 (fun _ h => h) (fun f h => ⟨f, rfl, h⟩) (by decide) (by decide) (nI_clamp (by omega)) (vp_in_nI (by omega) (by decide)) trivial (fun _ _ _ h => h) (fun _ _ _ h => h) (fun σ8872 h8873 g8874 f8875 g8876 => ?_)
                  refine m_aload_n F rfl e_X10_readLease_148 ?_
                  refine r_get F e_X10_readLease_149 fl_X10_34 h8873 rfl (fun v hv f8877 => ?_)
                  obtain rfl : v = .ref (c + 9) := hv
                  refine m_iload_n F rfl e_X10_readLease_152 ?_
                  refine m_iconst F (v := 0) (by decide) e_X10_readLease_153 ?_
                  refine r_iast F (g' := (⟨T, 0, u, h, P8833, L⟩ : RG)) (len := 8) (j := 4 + P8269.n5) e_X10_readLease_154 h8873 (fun _ h => h) (fun f h => ⟨f, rfl, h⟩) (by decide) (by decide) (nI_clamp (by omega)) (vp_in_nI (by omega) (by decide)) trivial (fun _ _ _ h => h) (fun _ _ _ h => h) (fun σ8878 h8879 g8880 f8881 g8882 => ?_)
                  refine m_iconst F (v := 0) (by decide) e_X10_readLease_155 ?_
                  refine m_istore_n F (lv' := [(2, .int 0), (1, .int (nI (4 + P8269.n5))), (0, .ref c)]) e_X10_readLease_156 (by decide) rfl ?_
                  refine Wm.lvsub (lv' := [(0, .ref c), (1, .int (nI (4 + P8269.n5))), (2, .int 0)]) ?_ [2, 1, 0] rfl
                  exact lq_X10_readLease_157 F hQ hob hP  (48 - 0 + 1) (4 + P8269.n5) 0 P8833 _ ⟨HR.mono (Z' := Z) (by intro e9; first | rfl | assumption | omega) h8879.1, h8879.2⟩ oP8833 (by unfold RP; omega) (by omega) (Nat.lt_succ_self _)
          · refine m_aload_n F rfl e_X10_readLease_60 ?_
            refine m_iconst F (v := 3) (by decide) e_X10_readLease_61 ?_
            refine r_callV F e_X10_readLease_62 (q_X10_wrong (x_l X) V c T Z u h P8269 L _ _ 3 h8282.1 (hob) oP8269 (by first | omega | assumption | decide)) cb_X10_wrong ml_X10_150 im_X10_wrong se_X10_wrong h8282 rfl rfl (rest := []) rfl (Nat.le_of_ble_eq_true rfl) ⟨Nat.le_of_ble_eq_true rfl, Nat.le_of_ble_eq_true rfl⟩ ⟨Nat.le_of_ble_eq_true rfl, Nat.le_of_ble_eq_true rfl⟩ (fun r σ8883 hp => ?_)
            obtain ⟨h8884, rfl⟩ := hp
            have h8885 := HS.trans h8282 h8884 (by decide)
            refine m_aload_n F rfl e_X10_readLease_65 ?_
            refine r_get F e_X10_readLease_66 fl_X10_141 h8885 rfl (fun v hv f8886 => ?_)
            obtain ⟨x8887, hx8887, rfl⟩ := hv
            replace hx8887 : 0 = 0 → x8887 ≠ 0 := hx8887
            refine m_if_eq F e_X10_readLease_69 (fun q69 => ?_) (fun q69 => ?_)
            · first | exact absurd q69 (hx8887 rfl) | contradiction
            · have h8888 := HS.z0 h8885 (f8886) q69
              have h8889 : HS V c _ [0, 2, 12, 13, 14, 15, 16, 17, 18, 19, 20, 21, 22, 23] _ _ := ⟨HR.mono (Z' := Z) (by intro e; first | rfl | assumption | omega) h8888.1, h8888.2⟩
              exact m_vret F hQ e_X10_readLease_72 (⟨P8269, oP8269, (by unfold RP; omega), h8889, rfl⟩)
      · refine m_aload_n F rfl e_X10_readLease_34 ?_
        refine m_iconst F (v := 1) (by decide) e_X10_readLease_35 ?_
        refine r_callV F e_X10_readLease_36 (q_X10_wrong (x_l X) V c T Z u h P8269 L _ _ 1 h8268.1 (hob) oP8269 (by first | omega | assumption | decide)) cb_X10_wrong ml_X10_150 im_X10_wrong se_X10_wrong h8268 rfl rfl (rest := []) rfl (Nat.le_of_ble_eq_true rfl) ⟨Nat.le_of_ble_eq_true rfl, Nat.le_of_ble_eq_true rfl⟩ ⟨Nat.le_of_ble_eq_true rfl, Nat.le_of_ble_eq_true rfl⟩ (fun r σ8890 hp => ?_)
        obtain ⟨h8891, rfl⟩ := hp
        have h8892 := HS.trans h8268 h8891 (by decide)
        refine m_goto F e_X10_readLease_39 ?_
        refine m_aload_n F rfl e_X10_readLease_65 ?_
        refine r_get F e_X10_readLease_66 fl_X10_141 h8892 rfl (fun v hv f8893 => ?_)
        obtain ⟨x8894, hx8894, rfl⟩ := hv
        replace hx8894 : 0 = 0 → x8894 ≠ 0 := hx8894
        refine m_if_eq F e_X10_readLease_69 (fun q69 => ?_) (fun q69 => ?_)
        · first | exact absurd q69 (hx8894 rfl) | contradiction
        · have h8895 := HS.z0 h8892 (f8893) q69
          have h8896 : HS V c _ [0, 2, 12, 13, 14, 15, 16, 17, 18, 19, 20, 21, 22, 23] _ _ := ⟨HR.mono (Z' := Z) (by intro e; first | rfl | assumption | omega) h8895.1, h8895.2⟩
          exact m_vret F hQ e_X10_readLease_72 (⟨P8269, oP8269, (by unfold RP; omega), h8896, rfl⟩)
    · have h8897 := HS.z0 h8268 (f8271) q22
      have h8898 : HS V c _ [0, 2, 12, 13, 14, 15, 16, 17, 18, 19, 20, 21, 22, 23] _ _ := ⟨HR.mono (Z' := Z) (by intro e; first | rfl | assumption | omega) h8897.1, h8897.2⟩
      exact m_vret F hQ e_X10_readLease_25 (⟨P8269, oP8269, (by unfold RP; omega), h8898, rfl⟩)
  · have c6 : P.n5 = 4 := (nI_eq (a := P.n5) (b := 4) (by omega) (by omega)).mp q6
    refine m_aload_n F rfl e_X10_readLease_9 ?_
    refine m_iconst F (v := 2) (by decide) e_X10_readLease_10 ?_
    refine r_callV F e_X10_readLease_11 (q_X10_wrong (x_l X) V c T Z u h P L _ _ 2 h8265.1 (hob) hP (by first | omega | assumption | decide)) cb_X10_wrong ml_X10_150 im_X10_wrong se_X10_wrong h8265 rfl rfl (rest := []) rfl (Nat.le_of_ble_eq_true rfl) ⟨Nat.le_of_ble_eq_true rfl, Nat.le_of_ble_eq_true rfl⟩ ⟨Nat.le_of_ble_eq_true rfl, Nat.le_of_ble_eq_true rfl⟩ (fun r σ8899 hp => ?_)
    obtain ⟨h8900, rfl⟩ := hp
    have h8901 := HS.trans h8265 h8900 (by decide)
    refine m_aload_n F rfl e_X10_readLease_14 ?_
    refine r_callV F e_X10_readLease_15 (q_X10_goOn (x_l X) V c T 0 u h P L _ _  h8901.1 (hob) hP ) cb_X10_goOn ml_X10_154 im_X10_goOn se_X10_goOn h8901 rfl rfl (rest := []) rfl (Nat.le_of_ble_eq_true rfl) ⟨Nat.le_of_ble_eq_true rfl, Nat.le_of_ble_eq_true rfl⟩ ⟨Nat.le_of_ble_eq_true rfl, Nat.le_of_ble_eq_true rfl⟩ (fun r σ8902 hp => ?_)
    obtain ⟨P8905, oP8905, rP8905, pr8906, h8903, rfl⟩ := hp
    have h8904 := HS.trans h8901 h8903 (by decide)
    have xP8905 := oP8905
    unfold OKP at xP8905
    unfold RA at rP8905
    refine m_aload_n F rfl e_X10_readLease_18 ?_
    refine r_get F e_X10_readLease_19 fl_X10_141 h8904 rfl (fun v hv f8907 => ?_)
    obtain ⟨x8908, hx8908, rfl⟩ := hv
    replace hx8908 : 0 = 0 → x8908 ≠ 0 := hx8908
    refine m_if_eq F e_X10_readLease_22 (fun q22 => ?_) (fun q22 => ?_)
    · first | exact absurd q22 (hx8908 rfl) | contradiction
    · have h8909 := HS.z0 h8904 (f8907) q22
      have h8910 : HS V c _ [0, 2, 12, 13, 14, 15, 16, 17, 18, 19, 20, 21, 22, 23] _ _ := ⟨HR.mono (Z' := Z) (by intro e; first | rfl | assumption | omega) h8909.1, h8909.2⟩
      exact m_vret F hQ e_X10_readLease_25 (⟨P8905, oP8905, (by unfold RP; omega), h8910, rfl⟩)
set_option maxRecDepth 20000 in
theorem lq_X10_readPay_60 {V : VX} {X : MX} {N : Nat} {σ : Mem} {c T Z u h : Nat} {P : NP} {L : Nat → LQ}   (F : Fx V X yX10_readPay cX10_readPay 6 none (rmd 8 0 0)) (hQ : Rt V X 0 0 N (fun r τ => ∃ P9 : NP, OKP P9 ∧ RP P P9 ∧ HS V c (⟨T, Z, u, h, P9, L⟩ : RG) [0, 2, 4, 5, 6, 7, 8, 9, 10, 12, 13, 14, 15, 16, 17, 18, 19, 20, 21, 22, 23] σ τ ∧ r = none)) (hob : OKB L) (hP : OKP P)   : ∀ (fuel : Nat) (a : Nat) (b : Nat) (m1 : Int32) (k : Nat) (P1 : NP) (τ : Mem), HS V c (⟨T, Z, u, h, P1, L⟩ : RG) [0, 2, 4, 5, 6, 7, 8, 9, 10, 12, 13, 14, 15, 16, 17, 18, 19, 20, 21, 22, 23] σ τ → OKP P1 → RP P P1 → a ≤ 7 ∧ 1 ≤ k ∧ k ≤ 49 ∧ b ≤ 48 → 49 - k < fuel → Wm V X 6 N τ 0 0 60 [(0, .ref c), (1, .int (nI a)), (3, .int (nI b)), (4, .int m1), (5, .int (nI k))] [] := by
  intro fuel
  induction fuel with
  | zero => intros; rename_i hm; exact absurd hm (Nat.not_lt_zero _)
  | succ fuel ih =>
    intro a b m1 k P1 τ h1 hP1 hR1 hi hm
    have hPP := hP
    unfold OKP at hPP
    have hPP1 := hP1
    unfold OKP at hPP1
    unfold RP at hR1
    refine m_iload F rfl e_X10_readPay_60 ?_
    refine m_iload_n F rfl e_X10_readPay_62 ?_
    refine m_icmp_gt F e_X10_readPay_63 (fun q63 => ?_) (fun q63 => ?_)
    · have c63 : k > b := (nI_ltI (a := b) (b := k) (by omega) (by omega)).mp q63
      refine m_aload_n F rfl e_X10_readPay_91 ?_
      refine m_iconst F (v := 1) (by decide) e_X10_readPay_92 ?_
      refine m_aload_n F rfl e_X10_readPay_93 ?_
      refine m_iconst F (v := 1) (by decide) e_X10_readPay_94 ?_
      refine r_callV F e_X10_readPay_95 (q_X10_reading1 (x_l X) V c T Z u h P1 L _ _  h1.1 (hob) hP1 ) cb_X10_reading ml_X10_157 im_X10_reading se_X10_reading h1 rfl rfl (rest := [.int 1, .ref c]) rfl (Nat.le_of_ble_eq_true rfl) ⟨Nat.le_of_ble_eq_true rfl, Nat.le_of_ble_eq_true rfl⟩ ⟨Nat.le_of_ble_eq_true rfl, Nat.le_of_ble_eq_true rfl⟩ (fun r σ8911 hp => ?_)
      obtain ⟨h8912, x8914, rfl⟩ := hp
      have h8913 := HS.trans h1 h8912 (by decide)
      refine m_iconst F (v := 1) (by decide) e_X10_readPay_98 ?_
      refine m_iadd F e_X10_readPay_99 ?_
      refine Wm.top (fun x8915 _ => ?_)
      refine r_callV F e_X10_readPay_100 (q_X10_reads1 (x_l X) V c T Z u h P1 L _ _ x8915 h8913.1 (hob) hP1 ) cb_X10_reads ml_X10_170 im_X10_reads se_X10_reads h8913 rfl rfl (rest := []) rfl (Nat.le_of_ble_eq_true rfl) ⟨Nat.le_of_ble_eq_true rfl, Nat.le_of_ble_eq_true rfl⟩ ⟨Nat.le_of_ble_eq_true rfl, Nat.le_of_ble_eq_true rfl⟩ (fun r σ8916 hp => ?_)
      obtain ⟨h8917, rfl⟩ := hp
      have h8918 := HS.trans h8913 h8917 (by decide)
      exact m_vret F hQ e_X10_readPay_103 (⟨P1, hP1, (by unfold RP; omega), h8918, rfl⟩)
    · have c63 : k ≤ b := by have hh := mt (nI_ltI (a := b) (b := k) (by omega) (by omega)).mpr q63; omega
      refine m_aload_n F rfl e_X10_readPay_66 ?_
      refine r_get F e_X10_readPay_67 fl_X10_37 h1 rfl (fun v hv f8919 => ?_)
      obtain rfl : v = .ref (c + 10) := hv
      refine m_bipush F (v := 48) (by decide) e_X10_readPay_70 ?_
      refine m_iload_n F rfl e_X10_readPay_72 ?_
      refine m_imul F e_X10_readPay_73 ?_
      refine Wm.topE (w := nI (48 * a)) (pk_mul 48 a) ?_
      refine m_iload F rfl e_X10_readPay_74 ?_
      refine m_iadd F e_X10_readPay_76 ?_
      refine Wm.topE (w := nI ((48 * a) + k)) (nI_add (48 * a) k) ?_
      refine m_iconst F (v := 1) (by decide) e_X10_readPay_77 ?_
      refine m_isub F e_X10_readPay_78 ?_
      refine Wm.topE (w := nI (((48 * a) + k) - 1)) (pk_sub (a := (48 * a) + k) (b := 1) (by omega)) ?_
      refine m_dup2_11 F rfl rfl e_X10_readPay_79 ?_
      refine r_iald F (len := 384) (j := ((48 * a) + k) - 1) e_X10_readPay_80 h1 (fun _ h => h) (by decide) (nI_clamp (by omega)) (vp_in_nI (by omega) (by decide)) (fun x8920 h8921 f8922 => ?_)
      refine m_iload F rfl e_X10_readPay_81 ?_
      refine m_iadd F e_X10_readPay_83 ?_
      refine Wm.top (fun x8923 _ => ?_)
      refine r_iast F (g' := (⟨T, Z, u, h, P1, L⟩ : RG)) (len := 384) (j := ((48 * a) + k) - 1) e_X10_readPay_84 h1 (fun _ h => h) (fun f h => ⟨f, rfl, h⟩) (by decide) (by decide) (nI_clamp (by omega)) (vp_in_nI (by omega) (by decide)) trivial (fun _ _ _ h => h) (fun _ _ _ h => h) (fun σ8924 h8925 g8926 f8927 g8928 => ?_)
      refine m_iinc F (v := nI (k + 1)) (lv' := [(5, .int (nI (k + 1))), (0, .ref c), (1, .int (nI a)), (3, .int (nI b)), (4, .int m1)]) e_X10_readPay_85 rfl (nI_add k 1) (by decide) rfl ?_
      refine m_goto F e_X10_readPay_88 ?_
      refine Wm.lvsub (lv' := [(0, .ref c), (1, .int (nI a)), (3, .int (nI b)), (4, .int m1), (5, .int (nI (k + 1)))]) ?_ [1, 2, 3, 4, 0] rfl
      exact ih a b m1 (k + 1) P1 _ h8925 hP1 (by unfold RP; omega) (by omega) (by omega)
set_option maxRecDepth 20000 in
theorem q_X10_readPay (l : Launch) (V : VX) (c T Z u h : Nat) (P : NP) (L : Nat → LQ) (N : Nat) (σ : Mem)  (h0 : HR V c ⟨T, Z, u, h, P, L⟩ σ) (hob : OKB L) (hP : OKP P)  : Ct l V yX10_readPay cX10_readPay 6 none 8 0 0 N σ [.ref c] (fun r τ => ∃ P9 : NP, OKP P9 ∧ RP P P9 ∧ HS V c (⟨T, Z, u, h, P9, L⟩ : RG) [0, 2, 4, 5, 6, 7, 8, 9, 10, 12, 13, 14, 15, 16, 17, 18, 19, 20, 21, 22, 23] σ τ ∧ r = none) := by
  refine Ct.of (by decide) (Nat.le_of_ble_eq_true rfl) [(0, .ref c)] rfl (fun X hX F hQ => ?_)
  have hPP := hP
  unfold OKP at hPP
  have h1 : HS V c ⟨T, Z, u, h, P, L⟩ [0, 2, 4, 5, 6, 7, 8, 9, 10, 12, 13, 14, 15, 16, 17, 18, 19, 20, 21, 22, 23] σ σ := HS.start h0
  refine m_aload_n F rfl e_X10_readPay_0 ?_
  refine m_iconst F (v := 1) (by decide) e_X10_readPay_1 ?_
  refine r_callV F e_X10_readPay_2 (q_X10_reading1 (x_l X) V c T Z u h P L _ _  h1.1 (hob) hP ) cb_X10_reading ml_X10_157 im_X10_reading se_X10_reading h1 rfl rfl (rest := []) rfl (Nat.le_of_ble_eq_true rfl) ⟨Nat.le_of_ble_eq_true rfl, Nat.le_of_ble_eq_true rfl⟩ ⟨Nat.le_of_ble_eq_true rfl, Nat.le_of_ble_eq_true rfl⟩ (fun r σ8929 hp => ?_)
  obtain ⟨h8930, x8932, rfl⟩ := hp
  have h8931 := HS.trans h1 h8930 (by decide)
  refine m_bipush F (v := 12) (by decide) e_X10_readPay_5 ?_
  refine m_icmp_ne F e_X10_readPay_7 (fun q7 => ?_) (fun q7 => ?_)
  · refine m_aload_n F rfl e_X10_readPay_15 ?_
    refine r_callV F e_X10_readPay_16 (q_X10_atHand (x_l X) V c T Z u h P L _ _  h8931.1 (hob) hP ) cb_X10_atHand ml_X10_174 im_X10_atHand se_X10_atHand h8931 rfl rfl (rest := []) rfl (Nat.le_of_ble_eq_true rfl) ⟨Nat.le_of_ble_eq_true rfl, Nat.le_of_ble_eq_true rfl⟩ ⟨Nat.le_of_ble_eq_true rfl, Nat.le_of_ble_eq_true rfl⟩ (fun r σ8933 hp => ?_)
    obtain ⟨P8937, oP8937, rP8937, h8934, n8936, gn8936, hn8936, rfl⟩ := hp
    have h8935 := HS.trans h8931 h8934 (by decide)
    have xP8937 := oP8937
    unfold OKP at xP8937
    unfold RA at rP8937
    refine m_istore_n F (lv' := [(1, .int (nI n8936)), (0, .ref c)]) e_X10_readPay_19 (by decide) rfl ?_
    refine m_aload_n F rfl e_X10_readPay_20 ?_
    refine r_callV F e_X10_readPay_21 (q_X10_goOn (x_l X) V c T Z u h P8937 L _ _  h8935.1 (hob) oP8937 ) cb_X10_goOn ml_X10_154 im_X10_goOn se_X10_goOn h8935 rfl rfl (rest := []) rfl (Nat.le_of_ble_eq_true rfl) ⟨Nat.le_of_ble_eq_true rfl, Nat.le_of_ble_eq_true rfl⟩ ⟨Nat.le_of_ble_eq_true rfl, Nat.le_of_ble_eq_true rfl⟩ (fun r σ8938 hp => ?_)
    obtain ⟨P8941, oP8941, rP8941, pr8942, h8939, rfl⟩ := hp
    have h8940 := HS.trans h8935 h8939 (by decide)
    have xP8941 := oP8941
    unfold OKP at xP8941
    unfold RA at rP8941
    refine m_aload_n F rfl e_X10_readPay_24 ?_
    refine m_iconst F (v := 1) (by decide) e_X10_readPay_25 ?_
    refine m_bipush F (v := 48) (by decide) e_X10_readPay_26 ?_
    refine r_callV F e_X10_readPay_28 (q_X10_numeral (x_l X) V c T Z u h P8941 L _ _ 1 48 h8940.1 (hob) oP8941 (by omega) (by omega)) cb_X10_numeral ml_X10_165 im_X10_numeral se_X10_numeral h8940 rfl rfl (rest := []) rfl (Nat.le_of_ble_eq_true rfl) ⟨Nat.le_of_ble_eq_true rfl, Nat.le_of_ble_eq_true rfl⟩ ⟨Nat.le_of_ble_eq_true rfl, Nat.le_of_ble_eq_true rfl⟩ (fun r σ8943 hp => ?_)
    obtain ⟨P8947, oP8947, rP8947, h8944, c8946⟩ := hp
    have h8945 := HS.trans h8940 h8944 (by decide)
    have xP8947 := oP8947
    unfold OKP at xP8947
    unfold RA at rP8947
    rcases c8946 with ⟨n8948, gn8948, hn8948, rfl⟩ | ⟨h8949, rfl⟩
    · refine m_istore_n F (lv' := [(2, .int (nI n8948)), (1, .int (nI n8936)), (0, .ref c)]) e_X10_readPay_31 (by decide) rfl ?_
      refine m_aload_n F rfl e_X10_readPay_32 ?_
      refine m_iload_n F rfl e_X10_readPay_33 ?_
      refine m_bipush F (v := 48) (by decide) e_X10_readPay_34 ?_
      refine r_callV F e_X10_readPay_36 (q_X10_numeral (x_l X) V c T Z u h P8947 L _ _ n8948 48 h8945.1 (hob) oP8947 (by omega) (by omega)) cb_X10_numeral ml_X10_165 im_X10_numeral se_X10_numeral h8945 rfl rfl (rest := []) rfl (Nat.le_of_ble_eq_true rfl) ⟨Nat.le_of_ble_eq_true rfl, Nat.le_of_ble_eq_true rfl⟩ ⟨Nat.le_of_ble_eq_true rfl, Nat.le_of_ble_eq_true rfl⟩ (fun r σ8950 hp => ?_)
      obtain ⟨P8954, oP8954, rP8954, h8951, c8953⟩ := hp
      have h8952 := HS.trans h8945 h8951 (by decide)
      have xP8954 := oP8954
      unfold OKP at xP8954
      unfold RA at rP8954
      rcases c8953 with ⟨n8955, gn8955, hn8955, rfl⟩ | ⟨h8956, rfl⟩
      · refine m_istore_n F (lv' := [(3, .int (nI n8955)), (2, .int (nI n8948)), (1, .int (nI n8936)), (0, .ref c)]) e_X10_readPay_39 (by decide) rfl ?_
        refine m_aload_n F rfl e_X10_readPay_40 ?_
        refine m_iconst F (v := 0) (by decide) e_X10_readPay_41 ?_
        refine m_ldc F kc_X10_177 e_X10_readPay_42 ?_
        refine r_callV F e_X10_readPay_44 (q_X10_numeral (x_l X) V c T Z u h P8954 L _ _ 0 99999 h8952.1 (hob) oP8954 (by omega) (by omega)) cb_X10_numeral ml_X10_165 im_X10_numeral se_X10_numeral h8952 rfl rfl (rest := []) rfl (Nat.le_of_ble_eq_true rfl) ⟨Nat.le_of_ble_eq_true rfl, Nat.le_of_ble_eq_true rfl⟩ ⟨Nat.le_of_ble_eq_true rfl, Nat.le_of_ble_eq_true rfl⟩ (fun r σ8957 hp => ?_)
        obtain ⟨P8961, oP8961, rP8961, h8958, c8960⟩ := hp
        have h8959 := HS.trans h8952 h8958 (by decide)
        have xP8961 := oP8961
        unfold OKP at xP8961
        unfold RA at rP8961
        rcases c8960 with ⟨n8962, gn8962, hn8962, rfl⟩ | ⟨h8963, rfl⟩
        · refine m_istore F (lv' := [(4, .int (nI n8962)), (3, .int (nI n8955)), (2, .int (nI n8948)), (1, .int (nI n8936)), (0, .ref c)]) e_X10_readPay_47 (by decide) rfl ?_
          refine m_aload_n F rfl e_X10_readPay_49 ?_
          refine r_get F e_X10_readPay_50 fl_X10_141 h8959 rfl (fun v hv f8964 => ?_)
          obtain ⟨x8965, hx8965, rfl⟩ := hv
          replace hx8965 : Z = 0 → x8965 ≠ 0 := hx8965
          refine m_if_eq F e_X10_readPay_53 (fun q53 => ?_) (fun q53 => ?_)
          · subst q53
            refine m_iload_n F rfl e_X10_readPay_57 ?_
            refine m_istore F (lv' := [(5, .int (nI n8948)), (4, .int (nI n8962)), (3, .int (nI n8955)), (2, .int (nI n8948)), (1, .int (nI n8936)), (0, .ref c)]) e_X10_readPay_58 (by decide) rfl ?_
            refine Wm.lvsub (lv' := [(0, .ref c), (1, .int (nI n8936)), (3, .int (nI n8955)), (4, .int (nI n8962)), (5, .int (nI n8948))]) ?_ [5, 4, 2, 1, 0] rfl
            exact lq_X10_readPay_60 F hQ hob hP  (49 - n8948 + 1) n8936 n8955 (nI n8962) n8948 P8961 _ h8959 oP8961 (by unfold RP; omega) (by omega) (Nat.lt_succ_self _)
          · have h8966 := HS.z0 h8959 (f8964) q53
            have h8967 : HS V c _ [0, 2, 4, 5, 6, 7, 8, 9, 10, 12, 13, 14, 15, 16, 17, 18, 19, 20, 21, 22, 23] _ _ := ⟨HR.mono (Z' := Z) (by intro e; first | rfl | assumption | omega) h8966.1, h8966.2⟩
            exact m_vret F hQ e_X10_readPay_56 (⟨P8961, oP8961, (by unfold RP; omega), h8967, rfl⟩)
        · have h8968 : HS V c (⟨T, 0, u, h, P8961, L⟩ : RG) [0, 2, 4, 5, 6, 7, 8, 9, 10, 12, 13, 14, 15, 16, 17, 18, 19, 20, 21, 22, 23] _ _ := ⟨h8963, h8959.2⟩
          refine m_istore F (lv' := [(4, .int (nI 0)), (3, .int (nI n8955)), (2, .int (nI n8948)), (1, .int (nI n8936)), (0, .ref c)]) e_X10_readPay_47 (by decide) rfl ?_
          refine m_aload_n F rfl e_X10_readPay_49 ?_
          refine r_get F e_X10_readPay_50 fl_X10_141 h8968 rfl (fun v hv f8969 => ?_)
          obtain ⟨x8970, hx8970, rfl⟩ := hv
          replace hx8970 : 0 = 0 → x8970 ≠ 0 := hx8970
          refine m_if_eq F e_X10_readPay_53 (fun q53 => ?_) (fun q53 => ?_)
          · first | exact absurd q53 (hx8970 rfl) | contradiction
          · have h8971 := HS.z0 h8968 (f8969) q53
            have h8972 : HS V c _ [0, 2, 4, 5, 6, 7, 8, 9, 10, 12, 13, 14, 15, 16, 17, 18, 19, 20, 21, 22, 23] _ _ := ⟨HR.mono (Z' := Z) (by intro e; first | rfl | assumption | omega) h8971.1, h8971.2⟩
            exact m_vret F hQ e_X10_readPay_56 (⟨P8961, oP8961, (by unfold RP; omega), h8972, rfl⟩)
      · have h8973 : HS V c (⟨T, 0, u, h, P8954, L⟩ : RG) [0, 2, 4, 5, 6, 7, 8, 9, 10, 12, 13, 14, 15, 16, 17, 18, 19, 20, 21, 22, 23] _ _ := ⟨h8956, h8952.2⟩
        refine m_istore_n F (lv' := [(3, .int (nI n8948)), (2, .int (nI n8948)), (1, .int (nI n8936)), (0, .ref c)]) e_X10_readPay_39 (by decide) rfl ?_
        refine m_aload_n F rfl e_X10_readPay_40 ?_
        refine m_iconst F (v := 0) (by decide) e_X10_readPay_41 ?_
        refine m_ldc F kc_X10_177 e_X10_readPay_42 ?_
        refine r_callV F e_X10_readPay_44 (q_X10_numeral (x_l X) V c T 0 u h P8954 L _ _ 0 99999 h8973.1 (hob) oP8954 (by omega) (by omega)) cb_X10_numeral ml_X10_165 im_X10_numeral se_X10_numeral h8973 rfl rfl (rest := []) rfl (Nat.le_of_ble_eq_true rfl) ⟨Nat.le_of_ble_eq_true rfl, Nat.le_of_ble_eq_true rfl⟩ ⟨Nat.le_of_ble_eq_true rfl, Nat.le_of_ble_eq_true rfl⟩ (fun r σ8974 hp => ?_)
        obtain ⟨P8978, oP8978, rP8978, h8975, c8977⟩ := hp
        have h8976 := HS.trans h8973 h8975 (by decide)
        have xP8978 := oP8978
        unfold OKP at xP8978
        unfold RA at rP8978
        rcases c8977 with ⟨n8979, gn8979, hn8979, rfl⟩ | ⟨h8980, rfl⟩
        · refine m_istore F (lv' := [(4, .int (nI n8979)), (3, .int (nI n8948)), (2, .int (nI n8948)), (1, .int (nI n8936)), (0, .ref c)]) e_X10_readPay_47 (by decide) rfl ?_
          refine m_aload_n F rfl e_X10_readPay_49 ?_
          refine r_get F e_X10_readPay_50 fl_X10_141 h8976 rfl (fun v hv f8981 => ?_)
          obtain ⟨x8982, hx8982, rfl⟩ := hv
          replace hx8982 : 0 = 0 → x8982 ≠ 0 := hx8982
          refine m_if_eq F e_X10_readPay_53 (fun q53 => ?_) (fun q53 => ?_)
          · first | exact absurd q53 (hx8982 rfl) | contradiction
          · have h8983 := HS.z0 h8976 (f8981) q53
            have h8984 : HS V c _ [0, 2, 4, 5, 6, 7, 8, 9, 10, 12, 13, 14, 15, 16, 17, 18, 19, 20, 21, 22, 23] _ _ := ⟨HR.mono (Z' := Z) (by intro e; first | rfl | assumption | omega) h8983.1, h8983.2⟩
            exact m_vret F hQ e_X10_readPay_56 (⟨P8978, oP8978, (by unfold RP; omega), h8984, rfl⟩)
        · have h8985 : HS V c (⟨T, 0, u, h, P8978, L⟩ : RG) [0, 2, 4, 5, 6, 7, 8, 9, 10, 12, 13, 14, 15, 16, 17, 18, 19, 20, 21, 22, 23] _ _ := ⟨h8980, h8976.2⟩
          refine m_istore F (lv' := [(4, .int (nI 0)), (3, .int (nI n8948)), (2, .int (nI n8948)), (1, .int (nI n8936)), (0, .ref c)]) e_X10_readPay_47 (by decide) rfl ?_
          refine m_aload_n F rfl e_X10_readPay_49 ?_
          refine r_get F e_X10_readPay_50 fl_X10_141 h8985 rfl (fun v hv f8986 => ?_)
          obtain ⟨x8987, hx8987, rfl⟩ := hv
          replace hx8987 : 0 = 0 → x8987 ≠ 0 := hx8987
          refine m_if_eq F e_X10_readPay_53 (fun q53 => ?_) (fun q53 => ?_)
          · first | exact absurd q53 (hx8987 rfl) | contradiction
          · have h8988 := HS.z0 h8985 (f8986) q53
            have h8989 : HS V c _ [0, 2, 4, 5, 6, 7, 8, 9, 10, 12, 13, 14, 15, 16, 17, 18, 19, 20, 21, 22, 23] _ _ := ⟨HR.mono (Z' := Z) (by intro e; first | rfl | assumption | omega) h8988.1, h8988.2⟩
            exact m_vret F hQ e_X10_readPay_56 (⟨P8978, oP8978, (by unfold RP; omega), h8989, rfl⟩)
    · have h8990 : HS V c (⟨T, 0, u, h, P8947, L⟩ : RG) [0, 2, 4, 5, 6, 7, 8, 9, 10, 12, 13, 14, 15, 16, 17, 18, 19, 20, 21, 22, 23] _ _ := ⟨h8949, h8945.2⟩
      refine m_istore_n F (lv' := [(2, .int (nI 1)), (1, .int (nI n8936)), (0, .ref c)]) e_X10_readPay_31 (by decide) rfl ?_
      refine m_aload_n F rfl e_X10_readPay_32 ?_
      refine m_iload_n F rfl e_X10_readPay_33 ?_
      refine m_bipush F (v := 48) (by decide) e_X10_readPay_34 ?_
      refine r_callV F e_X10_readPay_36 (q_X10_numeral (x_l X) V c T 0 u h P8947 L _ _ 1 48 h8990.1 (hob) oP8947 (by omega) (by omega)) cb_X10_numeral ml_X10_165 im_X10_numeral se_X10_numeral h8990 rfl rfl (rest := []) rfl (Nat.le_of_ble_eq_true rfl) ⟨Nat.le_of_ble_eq_true rfl, Nat.le_of_ble_eq_true rfl⟩ ⟨Nat.le_of_ble_eq_true rfl, Nat.le_of_ble_eq_true rfl⟩ (fun r σ8991 hp => ?_)
      obtain ⟨P8995, oP8995, rP8995, h8992, c8994⟩ := hp
      have h8993 := HS.trans h8990 h8992 (by decide)
      have xP8995 := oP8995
      unfold OKP at xP8995
      unfold RA at rP8995
      rcases c8994 with ⟨n8996, gn8996, hn8996, rfl⟩ | ⟨h8997, rfl⟩
      · refine m_istore_n F (lv' := [(3, .int (nI n8996)), (2, .int (nI 1)), (1, .int (nI n8936)), (0, .ref c)]) e_X10_readPay_39 (by decide) rfl ?_
        refine m_aload_n F rfl e_X10_readPay_40 ?_
        refine m_iconst F (v := 0) (by decide) e_X10_readPay_41 ?_
        refine m_ldc F kc_X10_177 e_X10_readPay_42 ?_
        refine r_callV F e_X10_readPay_44 (q_X10_numeral (x_l X) V c T 0 u h P8995 L _ _ 0 99999 h8993.1 (hob) oP8995 (by omega) (by omega)) cb_X10_numeral ml_X10_165 im_X10_numeral se_X10_numeral h8993 rfl rfl (rest := []) rfl (Nat.le_of_ble_eq_true rfl) ⟨Nat.le_of_ble_eq_true rfl, Nat.le_of_ble_eq_true rfl⟩ ⟨Nat.le_of_ble_eq_true rfl, Nat.le_of_ble_eq_true rfl⟩ (fun r σ8998 hp => ?_)
        obtain ⟨P9002, oP9002, rP9002, h8999, c9001⟩ := hp
        have h9000 := HS.trans h8993 h8999 (by decide)
        have xP9002 := oP9002
        unfold OKP at xP9002
        unfold RA at rP9002
        rcases c9001 with ⟨n9003, gn9003, hn9003, rfl⟩ | ⟨h9004, rfl⟩
        · refine m_istore F (lv' := [(4, .int (nI n9003)), (3, .int (nI n8996)), (2, .int (nI 1)), (1, .int (nI n8936)), (0, .ref c)]) e_X10_readPay_47 (by decide) rfl ?_
          refine m_aload_n F rfl e_X10_readPay_49 ?_
          refine r_get F e_X10_readPay_50 fl_X10_141 h9000 rfl (fun v hv f9005 => ?_)
          obtain ⟨x9006, hx9006, rfl⟩ := hv
          replace hx9006 : 0 = 0 → x9006 ≠ 0 := hx9006
          refine m_if_eq F e_X10_readPay_53 (fun q53 => ?_) (fun q53 => ?_)
          · first | exact absurd q53 (hx9006 rfl) | contradiction
          · have h9007 := HS.z0 h9000 (f9005) q53
            have h9008 : HS V c _ [0, 2, 4, 5, 6, 7, 8, 9, 10, 12, 13, 14, 15, 16, 17, 18, 19, 20, 21, 22, 23] _ _ := ⟨HR.mono (Z' := Z) (by intro e; first | rfl | assumption | omega) h9007.1, h9007.2⟩
            exact m_vret F hQ e_X10_readPay_56 (⟨P9002, oP9002, (by unfold RP; omega), h9008, rfl⟩)
        · have h9009 : HS V c (⟨T, 0, u, h, P9002, L⟩ : RG) [0, 2, 4, 5, 6, 7, 8, 9, 10, 12, 13, 14, 15, 16, 17, 18, 19, 20, 21, 22, 23] _ _ := ⟨h9004, h9000.2⟩
          refine m_istore F (lv' := [(4, .int (nI 0)), (3, .int (nI n8996)), (2, .int (nI 1)), (1, .int (nI n8936)), (0, .ref c)]) e_X10_readPay_47 (by decide) rfl ?_
          refine m_aload_n F rfl e_X10_readPay_49 ?_
          refine r_get F e_X10_readPay_50 fl_X10_141 h9009 rfl (fun v hv f9010 => ?_)
          obtain ⟨x9011, hx9011, rfl⟩ := hv
          replace hx9011 : 0 = 0 → x9011 ≠ 0 := hx9011
          refine m_if_eq F e_X10_readPay_53 (fun q53 => ?_) (fun q53 => ?_)
          · first | exact absurd q53 (hx9011 rfl) | contradiction
          · have h9012 := HS.z0 h9009 (f9010) q53
            have h9013 : HS V c _ [0, 2, 4, 5, 6, 7, 8, 9, 10, 12, 13, 14, 15, 16, 17, 18, 19, 20, 21, 22, 23] _ _ := ⟨HR.mono (Z' := Z) (by intro e; first | rfl | assumption | omega) h9012.1, h9012.2⟩
            exact m_vret F hQ e_X10_readPay_56 (⟨P9002, oP9002, (by unfold RP; omega), h9013, rfl⟩)
      · have h9014 : HS V c (⟨T, 0, u, h, P8995, L⟩ : RG) [0, 2, 4, 5, 6, 7, 8, 9, 10, 12, 13, 14, 15, 16, 17, 18, 19, 20, 21, 22, 23] _ _ := ⟨h8997, h8993.2⟩
        refine m_istore_n F (lv' := [(3, .int (nI 1)), (2, .int (nI 1)), (1, .int (nI n8936)), (0, .ref c)]) e_X10_readPay_39 (by decide) rfl ?_
        refine m_aload_n F rfl e_X10_readPay_40 ?_
        refine m_iconst F (v := 0) (by decide) e_X10_readPay_41 ?_
        refine m_ldc F kc_X10_177 e_X10_readPay_42 ?_
        refine r_callV F e_X10_readPay_44 (q_X10_numeral (x_l X) V c T 0 u h P8995 L _ _ 0 99999 h9014.1 (hob) oP8995 (by omega) (by omega)) cb_X10_numeral ml_X10_165 im_X10_numeral se_X10_numeral h9014 rfl rfl (rest := []) rfl (Nat.le_of_ble_eq_true rfl) ⟨Nat.le_of_ble_eq_true rfl, Nat.le_of_ble_eq_true rfl⟩ ⟨Nat.le_of_ble_eq_true rfl, Nat.le_of_ble_eq_true rfl⟩ (fun r σ9015 hp => ?_)
        obtain ⟨P9019, oP9019, rP9019, h9016, c9018⟩ := hp
        have h9017 := HS.trans h9014 h9016 (by decide)
        have xP9019 := oP9019
        unfold OKP at xP9019
        unfold RA at rP9019
        rcases c9018 with ⟨n9020, gn9020, hn9020, rfl⟩ | ⟨h9021, rfl⟩
        · refine m_istore F (lv' := [(4, .int (nI n9020)), (3, .int (nI 1)), (2, .int (nI 1)), (1, .int (nI n8936)), (0, .ref c)]) e_X10_readPay_47 (by decide) rfl ?_
          refine m_aload_n F rfl e_X10_readPay_49 ?_
          refine r_get F e_X10_readPay_50 fl_X10_141 h9017 rfl (fun v hv f9022 => ?_)
          obtain ⟨x9023, hx9023, rfl⟩ := hv
          replace hx9023 : 0 = 0 → x9023 ≠ 0 := hx9023
          refine m_if_eq F e_X10_readPay_53 (fun q53 => ?_) (fun q53 => ?_)
          · first | exact absurd q53 (hx9023 rfl) | contradiction
          · have h9024 := HS.z0 h9017 (f9022) q53
            have h9025 : HS V c _ [0, 2, 4, 5, 6, 7, 8, 9, 10, 12, 13, 14, 15, 16, 17, 18, 19, 20, 21, 22, 23] _ _ := ⟨HR.mono (Z' := Z) (by intro e; first | rfl | assumption | omega) h9024.1, h9024.2⟩
            exact m_vret F hQ e_X10_readPay_56 (⟨P9019, oP9019, (by unfold RP; omega), h9025, rfl⟩)
        · have h9026 : HS V c (⟨T, 0, u, h, P9019, L⟩ : RG) [0, 2, 4, 5, 6, 7, 8, 9, 10, 12, 13, 14, 15, 16, 17, 18, 19, 20, 21, 22, 23] _ _ := ⟨h9021, h9017.2⟩
          refine m_istore F (lv' := [(4, .int (nI 0)), (3, .int (nI 1)), (2, .int (nI 1)), (1, .int (nI n8936)), (0, .ref c)]) e_X10_readPay_47 (by decide) rfl ?_
          refine m_aload_n F rfl e_X10_readPay_49 ?_
          refine r_get F e_X10_readPay_50 fl_X10_141 h9026 rfl (fun v hv f9027 => ?_)
          obtain ⟨x9028, hx9028, rfl⟩ := hv
          replace hx9028 : 0 = 0 → x9028 ≠ 0 := hx9028
          refine m_if_eq F e_X10_readPay_53 (fun q53 => ?_) (fun q53 => ?_)
          · first | exact absurd q53 (hx9028 rfl) | contradiction
          · have h9029 := HS.z0 h9026 (f9027) q53
            have h9030 : HS V c _ [0, 2, 4, 5, 6, 7, 8, 9, 10, 12, 13, 14, 15, 16, 17, 18, 19, 20, 21, 22, 23] _ _ := ⟨HR.mono (Z' := Z) (by intro e; first | rfl | assumption | omega) h9029.1, h9029.2⟩
            exact m_vret F hQ e_X10_readPay_56 (⟨P9019, oP9019, (by unfold RP; omega), h9030, rfl⟩)
  · subst q7
    refine m_aload_n F rfl e_X10_readPay_10 ?_
    refine m_iconst F (v := 2) (by decide) e_X10_readPay_11 ?_
    refine r_callV F e_X10_readPay_12 (q_X10_wrong (x_l X) V c T Z u h P L _ _ 2 h8931.1 (hob) hP (by first | omega | assumption | decide)) cb_X10_wrong ml_X10_150 im_X10_wrong se_X10_wrong h8931 rfl rfl (rest := []) rfl (Nat.le_of_ble_eq_true rfl) ⟨Nat.le_of_ble_eq_true rfl, Nat.le_of_ble_eq_true rfl⟩ ⟨Nat.le_of_ble_eq_true rfl, Nat.le_of_ble_eq_true rfl⟩ (fun r σ9031 hp => ?_)
    obtain ⟨h9032, rfl⟩ := hp
    have h9033 := HS.trans h8931 h9032 (by decide)
    refine m_aload_n F rfl e_X10_readPay_15 ?_
    refine r_callV F e_X10_readPay_16 (q_X10_atHand (x_l X) V c T 0 u h P L _ _  h9033.1 (hob) hP ) cb_X10_atHand ml_X10_174 im_X10_atHand se_X10_atHand h9033 rfl rfl (rest := []) rfl (Nat.le_of_ble_eq_true rfl) ⟨Nat.le_of_ble_eq_true rfl, Nat.le_of_ble_eq_true rfl⟩ ⟨Nat.le_of_ble_eq_true rfl, Nat.le_of_ble_eq_true rfl⟩ (fun r σ9034 hp => ?_)
    obtain ⟨P9038, oP9038, rP9038, h9035, n9037, gn9037, hn9037, rfl⟩ := hp
    have h9036 := HS.trans h9033 h9035 (by decide)
    have xP9038 := oP9038
    unfold OKP at xP9038
    unfold RA at rP9038
    refine m_istore_n F (lv' := [(1, .int (nI n9037)), (0, .ref c)]) e_X10_readPay_19 (by decide) rfl ?_
    refine m_aload_n F rfl e_X10_readPay_20 ?_
    refine r_callV F e_X10_readPay_21 (q_X10_goOn (x_l X) V c T 0 u h P9038 L _ _  h9036.1 (hob) oP9038 ) cb_X10_goOn ml_X10_154 im_X10_goOn se_X10_goOn h9036 rfl rfl (rest := []) rfl (Nat.le_of_ble_eq_true rfl) ⟨Nat.le_of_ble_eq_true rfl, Nat.le_of_ble_eq_true rfl⟩ ⟨Nat.le_of_ble_eq_true rfl, Nat.le_of_ble_eq_true rfl⟩ (fun r σ9039 hp => ?_)
    obtain ⟨P9042, oP9042, rP9042, pr9043, h9040, rfl⟩ := hp
    have h9041 := HS.trans h9036 h9040 (by decide)
    have xP9042 := oP9042
    unfold OKP at xP9042
    unfold RA at rP9042
    refine m_aload_n F rfl e_X10_readPay_24 ?_
    refine m_iconst F (v := 1) (by decide) e_X10_readPay_25 ?_
    refine m_bipush F (v := 48) (by decide) e_X10_readPay_26 ?_
    refine r_callV F e_X10_readPay_28 (q_X10_numeral (x_l X) V c T 0 u h P9042 L _ _ 1 48 h9041.1 (hob) oP9042 (by omega) (by omega)) cb_X10_numeral ml_X10_165 im_X10_numeral se_X10_numeral h9041 rfl rfl (rest := []) rfl (Nat.le_of_ble_eq_true rfl) ⟨Nat.le_of_ble_eq_true rfl, Nat.le_of_ble_eq_true rfl⟩ ⟨Nat.le_of_ble_eq_true rfl, Nat.le_of_ble_eq_true rfl⟩ (fun r σ9044 hp => ?_)
    obtain ⟨P9048, oP9048, rP9048, h9045, c9047⟩ := hp
    have h9046 := HS.trans h9041 h9045 (by decide)
    have xP9048 := oP9048
    unfold OKP at xP9048
    unfold RA at rP9048
    rcases c9047 with ⟨n9049, gn9049, hn9049, rfl⟩ | ⟨h9050, rfl⟩
    · refine m_istore_n F (lv' := [(2, .int (nI n9049)), (1, .int (nI n9037)), (0, .ref c)]) e_X10_readPay_31 (by decide) rfl ?_
      refine m_aload_n F rfl e_X10_readPay_32 ?_
      refine m_iload_n F rfl e_X10_readPay_33 ?_
      refine m_bipush F (v := 48) (by decide) e_X10_readPay_34 ?_
      refine r_callV F e_X10_readPay_36 (q_X10_numeral (x_l X) V c T 0 u h P9048 L _ _ n9049 48 h9046.1 (hob) oP9048 (by omega) (by omega)) cb_X10_numeral ml_X10_165 im_X10_numeral se_X10_numeral h9046 rfl rfl (rest := []) rfl (Nat.le_of_ble_eq_true rfl) ⟨Nat.le_of_ble_eq_true rfl, Nat.le_of_ble_eq_true rfl⟩ ⟨Nat.le_of_ble_eq_true rfl, Nat.le_of_ble_eq_true rfl⟩ (fun r σ9051 hp => ?_)
      obtain ⟨P9055, oP9055, rP9055, h9052, c9054⟩ := hp
      have h9053 := HS.trans h9046 h9052 (by decide)
      have xP9055 := oP9055
      unfold OKP at xP9055
      unfold RA at rP9055
      rcases c9054 with ⟨n9056, gn9056, hn9056, rfl⟩ | ⟨h9057, rfl⟩
      · refine m_istore_n F (lv' := [(3, .int (nI n9056)), (2, .int (nI n9049)), (1, .int (nI n9037)), (0, .ref c)]) e_X10_readPay_39 (by decide) rfl ?_
        refine m_aload_n F rfl e_X10_readPay_40 ?_
        refine m_iconst F (v := 0) (by decide) e_X10_readPay_41 ?_
        refine m_ldc F kc_X10_177 e_X10_readPay_42 ?_
        refine r_callV F e_X10_readPay_44 (q_X10_numeral (x_l X) V c T 0 u h P9055 L _ _ 0 99999 h9053.1 (hob) oP9055 (by omega) (by omega)) cb_X10_numeral ml_X10_165 im_X10_numeral se_X10_numeral h9053 rfl rfl (rest := []) rfl (Nat.le_of_ble_eq_true rfl) ⟨Nat.le_of_ble_eq_true rfl, Nat.le_of_ble_eq_true rfl⟩ ⟨Nat.le_of_ble_eq_true rfl, Nat.le_of_ble_eq_true rfl⟩ (fun r σ9058 hp => ?_)
        obtain ⟨P9062, oP9062, rP9062, h9059, c9061⟩ := hp
        have h9060 := HS.trans h9053 h9059 (by decide)
        have xP9062 := oP9062
        unfold OKP at xP9062
        unfold RA at rP9062
        rcases c9061 with ⟨n9063, gn9063, hn9063, rfl⟩ | ⟨h9064, rfl⟩
        · refine m_istore F (lv' := [(4, .int (nI n9063)), (3, .int (nI n9056)), (2, .int (nI n9049)), (1, .int (nI n9037)), (0, .ref c)]) e_X10_readPay_47 (by decide) rfl ?_
          refine m_aload_n F rfl e_X10_readPay_49 ?_
          refine r_get F e_X10_readPay_50 fl_X10_141 h9060 rfl (fun v hv f9065 => ?_)
          obtain ⟨x9066, hx9066, rfl⟩ := hv
          replace hx9066 : 0 = 0 → x9066 ≠ 0 := hx9066
          refine m_if_eq F e_X10_readPay_53 (fun q53 => ?_) (fun q53 => ?_)
          · first | exact absurd q53 (hx9066 rfl) | contradiction
          · have h9067 := HS.z0 h9060 (f9065) q53
            have h9068 : HS V c _ [0, 2, 4, 5, 6, 7, 8, 9, 10, 12, 13, 14, 15, 16, 17, 18, 19, 20, 21, 22, 23] _ _ := ⟨HR.mono (Z' := Z) (by intro e; first | rfl | assumption | omega) h9067.1, h9067.2⟩
            exact m_vret F hQ e_X10_readPay_56 (⟨P9062, oP9062, (by unfold RP; omega), h9068, rfl⟩)
        · have h9069 : HS V c (⟨T, 0, u, h, P9062, L⟩ : RG) [0, 2, 4, 5, 6, 7, 8, 9, 10, 12, 13, 14, 15, 16, 17, 18, 19, 20, 21, 22, 23] _ _ := ⟨h9064, h9060.2⟩
          refine m_istore F (lv' := [(4, .int (nI 0)), (3, .int (nI n9056)), (2, .int (nI n9049)), (1, .int (nI n9037)), (0, .ref c)]) e_X10_readPay_47 (by decide) rfl ?_
          refine m_aload_n F rfl e_X10_readPay_49 ?_
          refine r_get F e_X10_readPay_50 fl_X10_141 h9069 rfl (fun v hv f9070 => ?_)
          obtain ⟨x9071, hx9071, rfl⟩ := hv
          replace hx9071 : 0 = 0 → x9071 ≠ 0 := hx9071
          refine m_if_eq F e_X10_readPay_53 (fun q53 => ?_) (fun q53 => ?_)
          · first | exact absurd q53 (hx9071 rfl) | contradiction
          · have h9072 := HS.z0 h9069 (f9070) q53
            have h9073 : HS V c _ [0, 2, 4, 5, 6, 7, 8, 9, 10, 12, 13, 14, 15, 16, 17, 18, 19, 20, 21, 22, 23] _ _ := ⟨HR.mono (Z' := Z) (by intro e; first | rfl | assumption | omega) h9072.1, h9072.2⟩
            exact m_vret F hQ e_X10_readPay_56 (⟨P9062, oP9062, (by unfold RP; omega), h9073, rfl⟩)
      · have h9074 : HS V c (⟨T, 0, u, h, P9055, L⟩ : RG) [0, 2, 4, 5, 6, 7, 8, 9, 10, 12, 13, 14, 15, 16, 17, 18, 19, 20, 21, 22, 23] _ _ := ⟨h9057, h9053.2⟩
        refine m_istore_n F (lv' := [(3, .int (nI n9049)), (2, .int (nI n9049)), (1, .int (nI n9037)), (0, .ref c)]) e_X10_readPay_39 (by decide) rfl ?_
        refine m_aload_n F rfl e_X10_readPay_40 ?_
        refine m_iconst F (v := 0) (by decide) e_X10_readPay_41 ?_
        refine m_ldc F kc_X10_177 e_X10_readPay_42 ?_
        refine r_callV F e_X10_readPay_44 (q_X10_numeral (x_l X) V c T 0 u h P9055 L _ _ 0 99999 h9074.1 (hob) oP9055 (by omega) (by omega)) cb_X10_numeral ml_X10_165 im_X10_numeral se_X10_numeral h9074 rfl rfl (rest := []) rfl (Nat.le_of_ble_eq_true rfl) ⟨Nat.le_of_ble_eq_true rfl, Nat.le_of_ble_eq_true rfl⟩ ⟨Nat.le_of_ble_eq_true rfl, Nat.le_of_ble_eq_true rfl⟩ (fun r σ9075 hp => ?_)
        obtain ⟨P9079, oP9079, rP9079, h9076, c9078⟩ := hp
        have h9077 := HS.trans h9074 h9076 (by decide)
        have xP9079 := oP9079
        unfold OKP at xP9079
        unfold RA at rP9079
        rcases c9078 with ⟨n9080, gn9080, hn9080, rfl⟩ | ⟨h9081, rfl⟩
        · refine m_istore F (lv' := [(4, .int (nI n9080)), (3, .int (nI n9049)), (2, .int (nI n9049)), (1, .int (nI n9037)), (0, .ref c)]) e_X10_readPay_47 (by decide) rfl ?_
          refine m_aload_n F rfl e_X10_readPay_49 ?_
          refine r_get F e_X10_readPay_50 fl_X10_141 h9077 rfl (fun v hv f9082 => ?_)
          obtain ⟨x9083, hx9083, rfl⟩ := hv
          replace hx9083 : 0 = 0 → x9083 ≠ 0 := hx9083
          refine m_if_eq F e_X10_readPay_53 (fun q53 => ?_) (fun q53 => ?_)
          · first | exact absurd q53 (hx9083 rfl) | contradiction
          · have h9084 := HS.z0 h9077 (f9082) q53
            have h9085 : HS V c _ [0, 2, 4, 5, 6, 7, 8, 9, 10, 12, 13, 14, 15, 16, 17, 18, 19, 20, 21, 22, 23] _ _ := ⟨HR.mono (Z' := Z) (by intro e; first | rfl | assumption | omega) h9084.1, h9084.2⟩
            exact m_vret F hQ e_X10_readPay_56 (⟨P9079, oP9079, (by unfold RP; omega), h9085, rfl⟩)
        · have h9086 : HS V c (⟨T, 0, u, h, P9079, L⟩ : RG) [0, 2, 4, 5, 6, 7, 8, 9, 10, 12, 13, 14, 15, 16, 17, 18, 19, 20, 21, 22, 23] _ _ := ⟨h9081, h9077.2⟩
          refine m_istore F (lv' := [(4, .int (nI 0)), (3, .int (nI n9049)), (2, .int (nI n9049)), (1, .int (nI n9037)), (0, .ref c)]) e_X10_readPay_47 (by decide) rfl ?_
          refine m_aload_n F rfl e_X10_readPay_49 ?_
          refine r_get F e_X10_readPay_50 fl_X10_141 h9086 rfl (fun v hv f9087 => ?_)
          obtain ⟨x9088, hx9088, rfl⟩ := hv
          replace hx9088 : 0 = 0 → x9088 ≠ 0 := hx9088
          refine m_if_eq F e_X10_readPay_53 (fun q53 => ?_) (fun q53 => ?_)
          · first | exact absurd q53 (hx9088 rfl) | contradiction
          · have h9089 := HS.z0 h9086 (f9087) q53
            have h9090 : HS V c _ [0, 2, 4, 5, 6, 7, 8, 9, 10, 12, 13, 14, 15, 16, 17, 18, 19, 20, 21, 22, 23] _ _ := ⟨HR.mono (Z' := Z) (by intro e; first | rfl | assumption | omega) h9089.1, h9089.2⟩
            exact m_vret F hQ e_X10_readPay_56 (⟨P9079, oP9079, (by unfold RP; omega), h9090, rfl⟩)
    · have h9091 : HS V c (⟨T, 0, u, h, P9048, L⟩ : RG) [0, 2, 4, 5, 6, 7, 8, 9, 10, 12, 13, 14, 15, 16, 17, 18, 19, 20, 21, 22, 23] _ _ := ⟨h9050, h9046.2⟩
      refine m_istore_n F (lv' := [(2, .int (nI 1)), (1, .int (nI n9037)), (0, .ref c)]) e_X10_readPay_31 (by decide) rfl ?_
      refine m_aload_n F rfl e_X10_readPay_32 ?_
      refine m_iload_n F rfl e_X10_readPay_33 ?_
      refine m_bipush F (v := 48) (by decide) e_X10_readPay_34 ?_
      refine r_callV F e_X10_readPay_36 (q_X10_numeral (x_l X) V c T 0 u h P9048 L _ _ 1 48 h9091.1 (hob) oP9048 (by omega) (by omega)) cb_X10_numeral ml_X10_165 im_X10_numeral se_X10_numeral h9091 rfl rfl (rest := []) rfl (Nat.le_of_ble_eq_true rfl) ⟨Nat.le_of_ble_eq_true rfl, Nat.le_of_ble_eq_true rfl⟩ ⟨Nat.le_of_ble_eq_true rfl, Nat.le_of_ble_eq_true rfl⟩ (fun r σ9092 hp => ?_)
      obtain ⟨P9096, oP9096, rP9096, h9093, c9095⟩ := hp
      have h9094 := HS.trans h9091 h9093 (by decide)
      have xP9096 := oP9096
      unfold OKP at xP9096
      unfold RA at rP9096
      rcases c9095 with ⟨n9097, gn9097, hn9097, rfl⟩ | ⟨h9098, rfl⟩
      · refine m_istore_n F (lv' := [(3, .int (nI n9097)), (2, .int (nI 1)), (1, .int (nI n9037)), (0, .ref c)]) e_X10_readPay_39 (by decide) rfl ?_
        refine m_aload_n F rfl e_X10_readPay_40 ?_
        refine m_iconst F (v := 0) (by decide) e_X10_readPay_41 ?_
        refine m_ldc F kc_X10_177 e_X10_readPay_42 ?_
        refine r_callV F e_X10_readPay_44 (q_X10_numeral (x_l X) V c T 0 u h P9096 L _ _ 0 99999 h9094.1 (hob) oP9096 (by omega) (by omega)) cb_X10_numeral ml_X10_165 im_X10_numeral se_X10_numeral h9094 rfl rfl (rest := []) rfl (Nat.le_of_ble_eq_true rfl) ⟨Nat.le_of_ble_eq_true rfl, Nat.le_of_ble_eq_true rfl⟩ ⟨Nat.le_of_ble_eq_true rfl, Nat.le_of_ble_eq_true rfl⟩ (fun r σ9099 hp => ?_)
        obtain ⟨P9103, oP9103, rP9103, h9100, c9102⟩ := hp
        have h9101 := HS.trans h9094 h9100 (by decide)
        have xP9103 := oP9103
        unfold OKP at xP9103
        unfold RA at rP9103
        rcases c9102 with ⟨n9104, gn9104, hn9104, rfl⟩ | ⟨h9105, rfl⟩
        · refine m_istore F (lv' := [(4, .int (nI n9104)), (3, .int (nI n9097)), (2, .int (nI 1)), (1, .int (nI n9037)), (0, .ref c)]) e_X10_readPay_47 (by decide) rfl ?_
          refine m_aload_n F rfl e_X10_readPay_49 ?_
          refine r_get F e_X10_readPay_50 fl_X10_141 h9101 rfl (fun v hv f9106 => ?_)
          obtain ⟨x9107, hx9107, rfl⟩ := hv
          replace hx9107 : 0 = 0 → x9107 ≠ 0 := hx9107
          refine m_if_eq F e_X10_readPay_53 (fun q53 => ?_) (fun q53 => ?_)
          · first | exact absurd q53 (hx9107 rfl) | contradiction
          · have h9108 := HS.z0 h9101 (f9106) q53
            have h9109 : HS V c _ [0, 2, 4, 5, 6, 7, 8, 9, 10, 12, 13, 14, 15, 16, 17, 18, 19, 20, 21, 22, 23] _ _ := ⟨HR.mono (Z' := Z) (by intro e; first | rfl | assumption | omega) h9108.1, h9108.2⟩
            exact m_vret F hQ e_X10_readPay_56 (⟨P9103, oP9103, (by unfold RP; omega), h9109, rfl⟩)
        · have h9110 : HS V c (⟨T, 0, u, h, P9103, L⟩ : RG) [0, 2, 4, 5, 6, 7, 8, 9, 10, 12, 13, 14, 15, 16, 17, 18, 19, 20, 21, 22, 23] _ _ := ⟨h9105, h9101.2⟩
          refine m_istore F (lv' := [(4, .int (nI 0)), (3, .int (nI n9097)), (2, .int (nI 1)), (1, .int (nI n9037)), (0, .ref c)]) e_X10_readPay_47 (by decide) rfl ?_
          refine m_aload_n F rfl e_X10_readPay_49 ?_
          refine r_get F e_X10_readPay_50 fl_X10_141 h9110 rfl (fun v hv f9111 => ?_)
          obtain ⟨x9112, hx9112, rfl⟩ := hv
          replace hx9112 : 0 = 0 → x9112 ≠ 0 := hx9112
          refine m_if_eq F e_X10_readPay_53 (fun q53 => ?_) (fun q53 => ?_)
          · first | exact absurd q53 (hx9112 rfl) | contradiction
          · have h9113 := HS.z0 h9110 (f9111) q53
            have h9114 : HS V c _ [0, 2, 4, 5, 6, 7, 8, 9, 10, 12, 13, 14, 15, 16, 17, 18, 19, 20, 21, 22, 23] _ _ := ⟨HR.mono (Z' := Z) (by intro e; first | rfl | assumption | omega) h9113.1, h9113.2⟩
            exact m_vret F hQ e_X10_readPay_56 (⟨P9103, oP9103, (by unfold RP; omega), h9114, rfl⟩)
      · have h9115 : HS V c (⟨T, 0, u, h, P9096, L⟩ : RG) [0, 2, 4, 5, 6, 7, 8, 9, 10, 12, 13, 14, 15, 16, 17, 18, 19, 20, 21, 22, 23] _ _ := ⟨h9098, h9094.2⟩
        refine m_istore_n F (lv' := [(3, .int (nI 1)), (2, .int (nI 1)), (1, .int (nI n9037)), (0, .ref c)]) e_X10_readPay_39 (by decide) rfl ?_
        refine m_aload_n F rfl e_X10_readPay_40 ?_
        refine m_iconst F (v := 0) (by decide) e_X10_readPay_41 ?_
        refine m_ldc F kc_X10_177 e_X10_readPay_42 ?_
        refine r_callV F e_X10_readPay_44 (q_X10_numeral (x_l X) V c T 0 u h P9096 L _ _ 0 99999 h9115.1 (hob) oP9096 (by omega) (by omega)) cb_X10_numeral ml_X10_165 im_X10_numeral se_X10_numeral h9115 rfl rfl (rest := []) rfl (Nat.le_of_ble_eq_true rfl) ⟨Nat.le_of_ble_eq_true rfl, Nat.le_of_ble_eq_true rfl⟩ ⟨Nat.le_of_ble_eq_true rfl, Nat.le_of_ble_eq_true rfl⟩ (fun r σ9116 hp => ?_)
        obtain ⟨P9120, oP9120, rP9120, h9117, c9119⟩ := hp
        have h9118 := HS.trans h9115 h9117 (by decide)
        have xP9120 := oP9120
        unfold OKP at xP9120
        unfold RA at rP9120
        rcases c9119 with ⟨n9121, gn9121, hn9121, rfl⟩ | ⟨h9122, rfl⟩
        · refine m_istore F (lv' := [(4, .int (nI n9121)), (3, .int (nI 1)), (2, .int (nI 1)), (1, .int (nI n9037)), (0, .ref c)]) e_X10_readPay_47 (by decide) rfl ?_
          refine m_aload_n F rfl e_X10_readPay_49 ?_
          refine r_get F e_X10_readPay_50 fl_X10_141 h9118 rfl (fun v hv f9123 => ?_)
          obtain ⟨x9124, hx9124, rfl⟩ := hv
          replace hx9124 : 0 = 0 → x9124 ≠ 0 := hx9124
          refine m_if_eq F e_X10_readPay_53 (fun q53 => ?_) (fun q53 => ?_)
          · first | exact absurd q53 (hx9124 rfl) | contradiction
          · have h9125 := HS.z0 h9118 (f9123) q53
            have h9126 : HS V c _ [0, 2, 4, 5, 6, 7, 8, 9, 10, 12, 13, 14, 15, 16, 17, 18, 19, 20, 21, 22, 23] _ _ := ⟨HR.mono (Z' := Z) (by intro e; first | rfl | assumption | omega) h9125.1, h9125.2⟩
            exact m_vret F hQ e_X10_readPay_56 (⟨P9120, oP9120, (by unfold RP; omega), h9126, rfl⟩)
        · have h9127 : HS V c (⟨T, 0, u, h, P9120, L⟩ : RG) [0, 2, 4, 5, 6, 7, 8, 9, 10, 12, 13, 14, 15, 16, 17, 18, 19, 20, 21, 22, 23] _ _ := ⟨h9122, h9118.2⟩
          refine m_istore F (lv' := [(4, .int (nI 0)), (3, .int (nI 1)), (2, .int (nI 1)), (1, .int (nI n9037)), (0, .ref c)]) e_X10_readPay_47 (by decide) rfl ?_
          refine m_aload_n F rfl e_X10_readPay_49 ?_
          refine r_get F e_X10_readPay_50 fl_X10_141 h9127 rfl (fun v hv f9128 => ?_)
          obtain ⟨x9129, hx9129, rfl⟩ := hv
          replace hx9129 : 0 = 0 → x9129 ≠ 0 := hx9129
          refine m_if_eq F e_X10_readPay_53 (fun q53 => ?_) (fun q53 => ?_)
          · first | exact absurd q53 (hx9129 rfl) | contradiction
          · have h9130 := HS.z0 h9127 (f9128) q53
            have h9131 : HS V c _ [0, 2, 4, 5, 6, 7, 8, 9, 10, 12, 13, 14, 15, 16, 17, 18, 19, 20, 21, 22, 23] _ _ := ⟨HR.mono (Z' := Z) (by intro e; first | rfl | assumption | omega) h9130.1, h9130.2⟩
            exact m_vret F hQ e_X10_readPay_56 (⟨P9120, oP9120, (by unfold RP; omega), h9131, rfl⟩)
set_option maxRecDepth 20000 in
theorem q_X10_readMark (l : Launch) (V : VX) (c T Z u h : Nat) (P : NP) (L : Nat → LQ) (N : Nat) (σ : Mem) (x901 : Int32) (h0 : HR V c ⟨T, Z, u, h, P, L⟩ σ) (hob : OKB L) (hP : OKP P)  : Ct l V yX10_readMark cX10_readMark 3 none 8 0 0 N σ [.ref c, .int x901] (fun r τ => ∃ P9 : NP, OKP P9 ∧ RP P P9 ∧ HS V c (⟨T, Z, u, h, P9, L⟩ : RG) [0, 2, 3, 4, 5, 6, 7, 9, 10, 11, 12, 13, 14, 15, 16, 17, 18, 19, 20, 21, 22, 23] σ τ ∧ r = none) := by
  refine Ct.of (by decide) (Nat.le_of_ble_eq_true rfl) [(0, .ref c), (1, .int x901)] rfl (fun X hX F hQ => ?_)
  have hPP := hP
  unfold OKP at hPP
  have h1 : HS V c ⟨T, Z, u, h, P, L⟩ [0, 2, 3, 4, 5, 6, 7, 9, 10, 11, 12, 13, 14, 15, 16, 17, 18, 19, 20, 21, 22, 23] σ σ := HS.start h0
  refine m_aload_n F rfl e_X10_readMark_0 ?_
  refine r_callV F e_X10_readMark_1 (q_X10_atHand (x_l X) V c T Z u h P L _ _  h1.1 (hob) hP ) cb_X10_atHand ml_X10_174 im_X10_atHand se_X10_atHand h1 rfl rfl (rest := []) rfl (Nat.le_of_ble_eq_true rfl) ⟨Nat.le_of_ble_eq_true rfl, Nat.le_of_ble_eq_true rfl⟩ ⟨Nat.le_of_ble_eq_true rfl, Nat.le_of_ble_eq_true rfl⟩ (fun r σ9132 hp => ?_)
  obtain ⟨P9136, oP9136, rP9136, h9133, n9135, gn9135, hn9135, rfl⟩ := hp
  have h9134 := HS.trans h1 h9133 (by decide)
  have xP9136 := oP9136
  unfold OKP at xP9136
  unfold RA at rP9136
  refine m_istore_n F (lv' := [(2, .int (nI n9135)), (0, .ref c), (1, .int x901)]) e_X10_readMark_4 (by decide) rfl ?_
  refine m_aload_n F rfl e_X10_readMark_5 ?_
  refine r_get F e_X10_readMark_6 fl_X10_141 h9134 rfl (fun v hv f9137 => ?_)
  obtain ⟨x9138, hx9138, rfl⟩ := hv
  replace hx9138 : Z = 0 → x9138 ≠ 0 := hx9138
  refine m_if_ne F e_X10_readMark_9 (fun q9 => ?_) (fun q9 => ?_)
  · have h9139 := HS.z0 h9134 (f9137) q9
    refine m_aload_n F rfl e_X10_readMark_28 ?_
    refine r_getC F e_X10_readMark_29 fl_X10_141 h9139 (f9137) ?_
    refine m_if_ne F e_X10_readMark_32 (fun q32 => ?_) (fun q32 => ?_)
    · have h9140 := HS.z0 h9139 (f9137) q32
      refine m_aload_n F rfl e_X10_readMark_45 ?_
      refine r_callV F e_X10_readMark_46 (q_X10_goOn (x_l X) V c T 0 u h P9136 L _ _  h9140.1 (hob) oP9136 ) cb_X10_goOn ml_X10_154 im_X10_goOn se_X10_goOn h9140 rfl rfl (rest := []) rfl (Nat.le_of_ble_eq_true rfl) ⟨Nat.le_of_ble_eq_true rfl, Nat.le_of_ble_eq_true rfl⟩ ⟨Nat.le_of_ble_eq_true rfl, Nat.le_of_ble_eq_true rfl⟩ (fun r σ9141 hp => ?_)
      obtain ⟨P9144, oP9144, rP9144, pr9145, h9142, rfl⟩ := hp
      have h9143 := HS.trans h9140 h9142 (by decide)
      have xP9144 := oP9144
      unfold OKP at xP9144
      unfold RA at rP9144
      have h9146 : HS V c _ [0, 2, 3, 4, 5, 6, 7, 9, 10, 11, 12, 13, 14, 15, 16, 17, 18, 19, 20, 21, 22, 23] _ _ := ⟨HR.mono (Z' := Z) (by intro e; first | rfl | assumption | omega) h9143.1, h9143.2⟩
      exact m_vret F hQ e_X10_readMark_49 (⟨P9144, oP9144, (by unfold RP; omega), h9146, rfl⟩)
    · first | exact absurd q32 (hx9138 rfl) | contradiction
  · subst q9
    refine m_aload_n F rfl e_X10_readMark_12 ?_
    refine r_get F e_X10_readMark_13 fl_X10_28 h9134 rfl (fun v hv f9147 => ?_)
    obtain rfl : v = .ref (c + 7) := hv
    refine m_iload_n F rfl e_X10_readMark_16 ?_
    refine r_iald F (len := 8) (j := n9135) e_X10_readMark_17 h9134 (fun _ h => h) (by decide) (nI_clamp (by omega)) (vp_in_nI (by omega) (by decide)) (fun x9148 h9149 f9150 => ?_)
    refine m_iload_n F rfl e_X10_readMark_18 ?_
    refine m_iand F e_X10_readMark_19 ?_
    refine Wm.top (fun x9151 _ => ?_)
    refine m_if_eq F e_X10_readMark_20 (fun q20 => ?_) (fun q20 => ?_)
    · subst q20
      refine m_aload_n F rfl e_X10_readMark_28 ?_
      refine r_getC F e_X10_readMark_29 fl_X10_141 h9134 (f9137) ?_
      refine m_if_ne F e_X10_readMark_32 (fun q => absurd (by decide) q) (fun _ => ?_)
      refine m_aload_n F rfl e_X10_readMark_35 ?_
      refine r_getC F e_X10_readMark_36 fl_X10_28 h9134 (f9147) ?_
      refine m_iload_n F rfl e_X10_readMark_39 ?_
      refine m_dup2_11 F rfl rfl e_X10_readMark_40 ?_
      refine r_iald F (len := 8) (j := n9135) e_X10_readMark_41 h9134 (fun _ h => h) (by decide) (nI_clamp (by omega)) (vp_in_nI (by omega) (by decide)) (fun x9152 h9153 f9154 => ?_)
      obtain rfl := Option.some.inj ((f9154).symm.trans (f9150))
      refine m_iload_n F rfl e_X10_readMark_42 ?_
      refine m_ior F e_X10_readMark_43 ?_
      refine Wm.top (fun x9155 _ => ?_)
      refine r_iast F (g' := (⟨T, Z, u, h, P9136, L⟩ : RG)) (len := 8) (j := n9135) e_X10_readMark_44 h9134 (fun _ h => h) (fun f h => ⟨f, rfl, h⟩) (by decide) (by decide) (nI_clamp (by omega)) (vp_in_nI (by omega) (by decide)) trivial (fun _ _ _ h => h) (fun _ _ _ h => h) (fun σ9156 h9157 g9158 f9159 g9160 => ?_)
      refine m_aload_n F rfl e_X10_readMark_45 ?_
      refine r_callV F e_X10_readMark_46 (q_X10_goOn (x_l X) V c T Z u h P9136 L _ _  h9157.1 (hob) oP9136 ) cb_X10_goOn ml_X10_154 im_X10_goOn se_X10_goOn h9157 rfl rfl (rest := []) rfl (Nat.le_of_ble_eq_true rfl) ⟨Nat.le_of_ble_eq_true rfl, Nat.le_of_ble_eq_true rfl⟩ ⟨Nat.le_of_ble_eq_true rfl, Nat.le_of_ble_eq_true rfl⟩ (fun r σ9161 hp => ?_)
      obtain ⟨P9164, oP9164, rP9164, pr9165, h9162, rfl⟩ := hp
      have h9163 := HS.trans h9157 h9162 (by decide)
      have xP9164 := oP9164
      unfold OKP at xP9164
      unfold RA at rP9164
      exact m_vret F hQ e_X10_readMark_49 (⟨P9164, oP9164, (by unfold RP; omega), h9163, rfl⟩)
    · refine m_aload_n F rfl e_X10_readMark_23 ?_
      refine m_iconst F (v := 3) (by decide) e_X10_readMark_24 ?_
      refine r_callV F e_X10_readMark_25 (q_X10_wrong (x_l X) V c T Z u h P9136 L _ _ 3 h9134.1 (hob) oP9136 (by first | omega | assumption | decide)) cb_X10_wrong ml_X10_150 im_X10_wrong se_X10_wrong h9134 rfl rfl (rest := []) rfl (Nat.le_of_ble_eq_true rfl) ⟨Nat.le_of_ble_eq_true rfl, Nat.le_of_ble_eq_true rfl⟩ ⟨Nat.le_of_ble_eq_true rfl, Nat.le_of_ble_eq_true rfl⟩ (fun r σ9166 hp => ?_)
      obtain ⟨h9167, rfl⟩ := hp
      have h9168 := HS.trans h9134 h9167 (by decide)
      refine m_aload_n F rfl e_X10_readMark_28 ?_
      refine r_get F e_X10_readMark_29 fl_X10_141 h9168 rfl (fun v hv f9169 => ?_)
      obtain ⟨x9170, hx9170, rfl⟩ := hv
      replace hx9170 : 0 = 0 → x9170 ≠ 0 := hx9170
      refine m_if_ne F e_X10_readMark_32 (fun q32 => ?_) (fun q32 => ?_)
      · have h9171 := HS.z0 h9168 (f9169) q32
        refine m_aload_n F rfl e_X10_readMark_45 ?_
        refine r_callV F e_X10_readMark_46 (q_X10_goOn (x_l X) V c T 0 u h P9136 L _ _  h9171.1 (hob) oP9136 ) cb_X10_goOn ml_X10_154 im_X10_goOn se_X10_goOn h9171 rfl rfl (rest := []) rfl (Nat.le_of_ble_eq_true rfl) ⟨Nat.le_of_ble_eq_true rfl, Nat.le_of_ble_eq_true rfl⟩ ⟨Nat.le_of_ble_eq_true rfl, Nat.le_of_ble_eq_true rfl⟩ (fun r σ9172 hp => ?_)
        obtain ⟨P9175, oP9175, rP9175, pr9176, h9173, rfl⟩ := hp
        have h9174 := HS.trans h9171 h9173 (by decide)
        have xP9175 := oP9175
        unfold OKP at xP9175
        unfold RA at rP9175
        have h9177 : HS V c _ [0, 2, 3, 4, 5, 6, 7, 9, 10, 11, 12, 13, 14, 15, 16, 17, 18, 19, 20, 21, 22, 23] _ _ := ⟨HR.mono (Z' := Z) (by intro e; first | rfl | assumption | omega) h9174.1, h9174.2⟩
        exact m_vret F hQ e_X10_readMark_49 (⟨P9175, oP9175, (by unfold RP; omega), h9177, rfl⟩)
      · first | exact absurd q32 (hx9170 rfl) | contradiction
set_option maxRecDepth 20000 in
theorem q_X10_readFair (l : Launch) (V : VX) (c T Z u h : Nat) (P : NP) (L : Nat → LQ) (N : Nat) (σ : Mem)  (h0 : HR V c ⟨T, Z, u, h, P, L⟩ σ) (hob : OKB L) (hP : OKP P)  : Ct l V yX10_readFair cX10_readFair 3 none 8 0 0 N σ [.ref c] (fun r τ => ∃ P9 : NP, OKP P9 ∧ RP P P9 ∧ HS V c (⟨T, Z, u, h, P9, L⟩ : RG) [0, 2, 3, 4, 5, 6, 7, 8, 10, 11, 12, 13, 14, 15, 16, 17, 18, 19, 20, 21, 22, 23] σ τ ∧ r = none) := by
  refine Ct.of (by decide) (Nat.le_of_ble_eq_true rfl) [(0, .ref c)] rfl (fun X hX F hQ => ?_)
  have hPP := hP
  unfold OKP at hPP
  have h1 : HS V c ⟨T, Z, u, h, P, L⟩ [0, 2, 3, 4, 5, 6, 7, 8, 10, 11, 12, 13, 14, 15, 16, 17, 18, 19, 20, 21, 22, 23] σ σ := HS.start h0
  refine m_aload_n F rfl e_X10_readFair_0 ?_
  refine r_callV F e_X10_readFair_1 (q_X10_atHand (x_l X) V c T Z u h P L _ _  h1.1 (hob) hP ) cb_X10_atHand ml_X10_174 im_X10_atHand se_X10_atHand h1 rfl rfl (rest := []) rfl (Nat.le_of_ble_eq_true rfl) ⟨Nat.le_of_ble_eq_true rfl, Nat.le_of_ble_eq_true rfl⟩ ⟨Nat.le_of_ble_eq_true rfl, Nat.le_of_ble_eq_true rfl⟩ (fun r σ9178 hp => ?_)
  obtain ⟨P9182, oP9182, rP9182, h9179, n9181, gn9181, hn9181, rfl⟩ := hp
  have h9180 := HS.trans h1 h9179 (by decide)
  have xP9182 := oP9182
  unfold OKP at xP9182
  unfold RA at rP9182
  refine m_istore_n F (lv' := [(1, .int (nI n9181)), (0, .ref c)]) e_X10_readFair_4 (by decide) rfl ?_
  refine m_aload_n F rfl e_X10_readFair_5 ?_
  refine r_get F e_X10_readFair_6 fl_X10_141 h9180 rfl (fun v hv f9183 => ?_)
  obtain ⟨x9184, hx9184, rfl⟩ := hv
  replace hx9184 : Z = 0 → x9184 ≠ 0 := hx9184
  refine m_if_ne F e_X10_readFair_9 (fun q9 => ?_) (fun q9 => ?_)
  · have h9185 := HS.z0 h9180 (f9183) q9
    refine m_aload_n F rfl e_X10_readFair_26 ?_
    refine r_callV F e_X10_readFair_27 (q_X10_goOn (x_l X) V c T 0 u h P9182 L _ _  h9185.1 (hob) oP9182 ) cb_X10_goOn ml_X10_154 im_X10_goOn se_X10_goOn h9185 rfl rfl (rest := []) rfl (Nat.le_of_ble_eq_true rfl) ⟨Nat.le_of_ble_eq_true rfl, Nat.le_of_ble_eq_true rfl⟩ ⟨Nat.le_of_ble_eq_true rfl, Nat.le_of_ble_eq_true rfl⟩ (fun r σ9186 hp => ?_)
    obtain ⟨P9189, oP9189, rP9189, pr9190, h9187, rfl⟩ := hp
    have h9188 := HS.trans h9185 h9187 (by decide)
    have xP9189 := oP9189
    unfold OKP at xP9189
    unfold RA at rP9189
    refine m_aload_n F rfl e_X10_readFair_30 ?_
    refine m_iconst F (v := 1) (by decide) e_X10_readFair_31 ?_
    refine m_ldc F kc_X10_129 e_X10_readFair_32 ?_
    refine r_callV F e_X10_readFair_34 (q_X10_numeral (x_l X) V c T 0 u h P9189 L _ _ 1 9999999 h9188.1 (hob) oP9189 (by omega) (by omega)) cb_X10_numeral ml_X10_165 im_X10_numeral se_X10_numeral h9188 rfl rfl (rest := []) rfl (Nat.le_of_ble_eq_true rfl) ⟨Nat.le_of_ble_eq_true rfl, Nat.le_of_ble_eq_true rfl⟩ ⟨Nat.le_of_ble_eq_true rfl, Nat.le_of_ble_eq_true rfl⟩ (fun r σ9191 hp => ?_)
    obtain ⟨P9195, oP9195, rP9195, h9192, c9194⟩ := hp
    have h9193 := HS.trans h9188 h9192 (by decide)
    have xP9195 := oP9195
    unfold OKP at xP9195
    unfold RA at rP9195
    rcases c9194 with ⟨n9196, gn9196, hn9196, rfl⟩ | ⟨h9197, rfl⟩
    · refine m_istore_n F (lv' := [(2, .int (nI n9196)), (1, .int (nI n9181)), (0, .ref c)]) e_X10_readFair_37 (by decide) rfl ?_
      refine m_aload_n F rfl e_X10_readFair_38 ?_
      refine r_get F e_X10_readFair_39 fl_X10_141 h9193 rfl (fun v hv f9198 => ?_)
      obtain ⟨x9199, hx9199, rfl⟩ := hv
      replace hx9199 : 0 = 0 → x9199 ≠ 0 := hx9199
      refine m_if_ne F e_X10_readFair_42 (fun q42 => ?_) (fun q42 => ?_)
      · have h9200 := HS.z0 h9193 (f9198) q42
        have h9201 : HS V c _ [0, 2, 3, 4, 5, 6, 7, 8, 10, 11, 12, 13, 14, 15, 16, 17, 18, 19, 20, 21, 22, 23] _ _ := ⟨HR.mono (Z' := Z) (by intro e; first | rfl | assumption | omega) h9200.1, h9200.2⟩
        exact m_vret F hQ e_X10_readFair_52 (⟨P9195, oP9195, (by unfold RP; omega), h9201, rfl⟩)
      · first | exact absurd q42 (hx9199 rfl) | contradiction
    · have h9202 : HS V c (⟨T, 0, u, h, P9195, L⟩ : RG) [0, 2, 3, 4, 5, 6, 7, 8, 10, 11, 12, 13, 14, 15, 16, 17, 18, 19, 20, 21, 22, 23] _ _ := ⟨h9197, h9193.2⟩
      refine m_istore_n F (lv' := [(2, .int (nI 1)), (1, .int (nI n9181)), (0, .ref c)]) e_X10_readFair_37 (by decide) rfl ?_
      refine m_aload_n F rfl e_X10_readFair_38 ?_
      refine r_get F e_X10_readFair_39 fl_X10_141 h9202 rfl (fun v hv f9203 => ?_)
      obtain ⟨x9204, hx9204, rfl⟩ := hv
      replace hx9204 : 0 = 0 → x9204 ≠ 0 := hx9204
      refine m_if_ne F e_X10_readFair_42 (fun q42 => ?_) (fun q42 => ?_)
      · have h9205 := HS.z0 h9202 (f9203) q42
        have h9206 : HS V c _ [0, 2, 3, 4, 5, 6, 7, 8, 10, 11, 12, 13, 14, 15, 16, 17, 18, 19, 20, 21, 22, 23] _ _ := ⟨HR.mono (Z' := Z) (by intro e; first | rfl | assumption | omega) h9205.1, h9205.2⟩
        exact m_vret F hQ e_X10_readFair_52 (⟨P9195, oP9195, (by unfold RP; omega), h9206, rfl⟩)
      · first | exact absurd q42 (hx9204 rfl) | contradiction
  · subst q9
    refine m_aload_n F rfl e_X10_readFair_12 ?_
    refine r_get F e_X10_readFair_13 fl_X10_31 h9180 rfl (fun v hv f9207 => ?_)
    obtain rfl : v = .ref (c + 8) := hv
    refine m_iload_n F rfl e_X10_readFair_16 ?_
    refine r_iald F (len := 8) (j := n9181) e_X10_readFair_17 h9180 (fun _ h => h) (by decide) (nI_clamp (by omega)) (vp_in_nI (by omega) (by decide)) (fun x9208 h9209 f9210 => ?_)
    refine m_if_eq F e_X10_readFair_18 (fun q18 => ?_) (fun q18 => ?_)
    · subst q18
      refine m_aload_n F rfl e_X10_readFair_26 ?_
      refine r_callV F e_X10_readFair_27 (q_X10_goOn (x_l X) V c T Z u h P9182 L _ _  h9180.1 (hob) oP9182 ) cb_X10_goOn ml_X10_154 im_X10_goOn se_X10_goOn h9180 rfl rfl (rest := []) rfl (Nat.le_of_ble_eq_true rfl) ⟨Nat.le_of_ble_eq_true rfl, Nat.le_of_ble_eq_true rfl⟩ ⟨Nat.le_of_ble_eq_true rfl, Nat.le_of_ble_eq_true rfl⟩ (fun r σ9211 hp => ?_)
      obtain ⟨P9214, oP9214, rP9214, pr9215, h9212, rfl⟩ := hp
      have h9213 := HS.trans h9180 h9212 (by decide)
      have xP9214 := oP9214
      unfold OKP at xP9214
      unfold RA at rP9214
      refine m_aload_n F rfl e_X10_readFair_30 ?_
      refine m_iconst F (v := 1) (by decide) e_X10_readFair_31 ?_
      refine m_ldc F kc_X10_129 e_X10_readFair_32 ?_
      refine r_callV F e_X10_readFair_34 (q_X10_numeral (x_l X) V c T Z u h P9214 L _ _ 1 9999999 h9213.1 (hob) oP9214 (by omega) (by omega)) cb_X10_numeral ml_X10_165 im_X10_numeral se_X10_numeral h9213 rfl rfl (rest := []) rfl (Nat.le_of_ble_eq_true rfl) ⟨Nat.le_of_ble_eq_true rfl, Nat.le_of_ble_eq_true rfl⟩ ⟨Nat.le_of_ble_eq_true rfl, Nat.le_of_ble_eq_true rfl⟩ (fun r σ9216 hp => ?_)
      obtain ⟨P9220, oP9220, rP9220, h9217, c9219⟩ := hp
      have h9218 := HS.trans h9213 h9217 (by decide)
      have xP9220 := oP9220
      unfold OKP at xP9220
      unfold RA at rP9220
      rcases c9219 with ⟨n9221, gn9221, hn9221, rfl⟩ | ⟨h9222, rfl⟩
      · refine m_istore_n F (lv' := [(2, .int (nI n9221)), (1, .int (nI n9181)), (0, .ref c)]) e_X10_readFair_37 (by decide) rfl ?_
        refine m_aload_n F rfl e_X10_readFair_38 ?_
        refine r_get F e_X10_readFair_39 fl_X10_141 h9218 rfl (fun v hv f9223 => ?_)
        obtain ⟨x9224, hx9224, rfl⟩ := hv
        replace hx9224 : Z = 0 → x9224 ≠ 0 := hx9224
        refine m_if_ne F e_X10_readFair_42 (fun q42 => ?_) (fun q42 => ?_)
        · have h9225 := HS.z0 h9218 (f9223) q42
          have h9226 : HS V c _ [0, 2, 3, 4, 5, 6, 7, 8, 10, 11, 12, 13, 14, 15, 16, 17, 18, 19, 20, 21, 22, 23] _ _ := ⟨HR.mono (Z' := Z) (by intro e; first | rfl | assumption | omega) h9225.1, h9225.2⟩
          exact m_vret F hQ e_X10_readFair_52 (⟨P9220, oP9220, (by unfold RP; omega), h9226, rfl⟩)
        · subst q42
          refine m_aload_n F rfl e_X10_readFair_45 ?_
          refine r_get F e_X10_readFair_46 fl_X10_31 h9218 rfl (fun v hv f9227 => ?_)
          obtain rfl : v = .ref (c + 8) := hv
          refine m_iload_n F rfl e_X10_readFair_49 ?_
          refine m_iload_n F rfl e_X10_readFair_50 ?_
          refine r_iast F (g' := (⟨T, Z, u, h, P9220, L⟩ : RG)) (len := 8) (j := n9181) e_X10_readFair_51 h9218 (fun _ h => h) (fun f h => ⟨f, rfl, h⟩) (by decide) (by decide) (nI_clamp (by omega)) (vp_in_nI (by omega) (by decide)) trivial (fun _ _ _ h => h) (fun _ _ _ h => h) (fun σ9228 h9229 g9230 f9231 g9232 => ?_)
          exact m_vret F hQ e_X10_readFair_52 (⟨P9220, oP9220, (by unfold RP; omega), h9229, rfl⟩)
      · have h9233 : HS V c (⟨T, 0, u, h, P9220, L⟩ : RG) [0, 2, 3, 4, 5, 6, 7, 8, 10, 11, 12, 13, 14, 15, 16, 17, 18, 19, 20, 21, 22, 23] _ _ := ⟨h9222, h9218.2⟩
        refine m_istore_n F (lv' := [(2, .int (nI 1)), (1, .int (nI n9181)), (0, .ref c)]) e_X10_readFair_37 (by decide) rfl ?_
        refine m_aload_n F rfl e_X10_readFair_38 ?_
        refine r_get F e_X10_readFair_39 fl_X10_141 h9233 rfl (fun v hv f9234 => ?_)
        obtain ⟨x9235, hx9235, rfl⟩ := hv
        replace hx9235 : 0 = 0 → x9235 ≠ 0 := hx9235
        refine m_if_ne F e_X10_readFair_42 (fun q42 => ?_) (fun q42 => ?_)
        · have h9236 := HS.z0 h9233 (f9234) q42
          have h9237 : HS V c _ [0, 2, 3, 4, 5, 6, 7, 8, 10, 11, 12, 13, 14, 15, 16, 17, 18, 19, 20, 21, 22, 23] _ _ := ⟨HR.mono (Z' := Z) (by intro e; first | rfl | assumption | omega) h9236.1, h9236.2⟩
          exact m_vret F hQ e_X10_readFair_52 (⟨P9220, oP9220, (by unfold RP; omega), h9237, rfl⟩)
        · first | exact absurd q42 (hx9235 rfl) | contradiction
    · refine m_aload_n F rfl e_X10_readFair_21 ?_
      refine m_iconst F (v := 3) (by decide) e_X10_readFair_22 ?_
      refine r_callV F e_X10_readFair_23 (q_X10_wrong (x_l X) V c T Z u h P9182 L _ _ 3 h9180.1 (hob) oP9182 (by first | omega | assumption | decide)) cb_X10_wrong ml_X10_150 im_X10_wrong se_X10_wrong h9180 rfl rfl (rest := []) rfl (Nat.le_of_ble_eq_true rfl) ⟨Nat.le_of_ble_eq_true rfl, Nat.le_of_ble_eq_true rfl⟩ ⟨Nat.le_of_ble_eq_true rfl, Nat.le_of_ble_eq_true rfl⟩ (fun r σ9238 hp => ?_)
      obtain ⟨h9239, rfl⟩ := hp
      have h9240 := HS.trans h9180 h9239 (by decide)
      refine m_aload_n F rfl e_X10_readFair_26 ?_
      refine r_callV F e_X10_readFair_27 (q_X10_goOn (x_l X) V c T 0 u h P9182 L _ _  h9240.1 (hob) oP9182 ) cb_X10_goOn ml_X10_154 im_X10_goOn se_X10_goOn h9240 rfl rfl (rest := []) rfl (Nat.le_of_ble_eq_true rfl) ⟨Nat.le_of_ble_eq_true rfl, Nat.le_of_ble_eq_true rfl⟩ ⟨Nat.le_of_ble_eq_true rfl, Nat.le_of_ble_eq_true rfl⟩ (fun r σ9241 hp => ?_)
      obtain ⟨P9244, oP9244, rP9244, pr9245, h9242, rfl⟩ := hp
      have h9243 := HS.trans h9240 h9242 (by decide)
      have xP9244 := oP9244
      unfold OKP at xP9244
      unfold RA at rP9244
      refine m_aload_n F rfl e_X10_readFair_30 ?_
      refine m_iconst F (v := 1) (by decide) e_X10_readFair_31 ?_
      refine m_ldc F kc_X10_129 e_X10_readFair_32 ?_
      refine r_callV F e_X10_readFair_34 (q_X10_numeral (x_l X) V c T 0 u h P9244 L _ _ 1 9999999 h9243.1 (hob) oP9244 (by omega) (by omega)) cb_X10_numeral ml_X10_165 im_X10_numeral se_X10_numeral h9243 rfl rfl (rest := []) rfl (Nat.le_of_ble_eq_true rfl) ⟨Nat.le_of_ble_eq_true rfl, Nat.le_of_ble_eq_true rfl⟩ ⟨Nat.le_of_ble_eq_true rfl, Nat.le_of_ble_eq_true rfl⟩ (fun r σ9246 hp => ?_)
      obtain ⟨P9250, oP9250, rP9250, h9247, c9249⟩ := hp
      have h9248 := HS.trans h9243 h9247 (by decide)
      have xP9250 := oP9250
      unfold OKP at xP9250
      unfold RA at rP9250
      rcases c9249 with ⟨n9251, gn9251, hn9251, rfl⟩ | ⟨h9252, rfl⟩
      · refine m_istore_n F (lv' := [(2, .int (nI n9251)), (1, .int (nI n9181)), (0, .ref c)]) e_X10_readFair_37 (by decide) rfl ?_
        refine m_aload_n F rfl e_X10_readFair_38 ?_
        refine r_get F e_X10_readFair_39 fl_X10_141 h9248 rfl (fun v hv f9253 => ?_)
        obtain ⟨x9254, hx9254, rfl⟩ := hv
        replace hx9254 : 0 = 0 → x9254 ≠ 0 := hx9254
        refine m_if_ne F e_X10_readFair_42 (fun q42 => ?_) (fun q42 => ?_)
        · have h9255 := HS.z0 h9248 (f9253) q42
          have h9256 : HS V c _ [0, 2, 3, 4, 5, 6, 7, 8, 10, 11, 12, 13, 14, 15, 16, 17, 18, 19, 20, 21, 22, 23] _ _ := ⟨HR.mono (Z' := Z) (by intro e; first | rfl | assumption | omega) h9255.1, h9255.2⟩
          exact m_vret F hQ e_X10_readFair_52 (⟨P9250, oP9250, (by unfold RP; omega), h9256, rfl⟩)
        · first | exact absurd q42 (hx9254 rfl) | contradiction
      · have h9257 : HS V c (⟨T, 0, u, h, P9250, L⟩ : RG) [0, 2, 3, 4, 5, 6, 7, 8, 10, 11, 12, 13, 14, 15, 16, 17, 18, 19, 20, 21, 22, 23] _ _ := ⟨h9252, h9248.2⟩
        refine m_istore_n F (lv' := [(2, .int (nI 1)), (1, .int (nI n9181)), (0, .ref c)]) e_X10_readFair_37 (by decide) rfl ?_
        refine m_aload_n F rfl e_X10_readFair_38 ?_
        refine r_get F e_X10_readFair_39 fl_X10_141 h9257 rfl (fun v hv f9258 => ?_)
        obtain ⟨x9259, hx9259, rfl⟩ := hv
        replace hx9259 : 0 = 0 → x9259 ≠ 0 := hx9259
        refine m_if_ne F e_X10_readFair_42 (fun q42 => ?_) (fun q42 => ?_)
        · have h9260 := HS.z0 h9257 (f9258) q42
          have h9261 : HS V c _ [0, 2, 3, 4, 5, 6, 7, 8, 10, 11, 12, 13, 14, 15, 16, 17, 18, 19, 20, 21, 22, 23] _ _ := ⟨HR.mono (Z' := Z) (by intro e; first | rfl | assumption | omega) h9260.1, h9260.2⟩
          exact m_vret F hQ e_X10_readFair_52 (⟨P9250, oP9250, (by unfold RP; omega), h9261, rfl⟩)
        · first | exact absurd q42 (hx9259 rfl) | contradiction
set_option maxRecDepth 20000 in
theorem q_X10_readFee (l : Launch) (V : VX) (c T Z u h : Nat) (P : NP) (L : Nat → LQ) (N : Nat) (σ : Mem)  (h0 : HR V c ⟨T, Z, u, h, P, L⟩ σ) (hob : OKB L) (hP : OKP P)  : Ct l V yX10_readFee cX10_readFee 3 none 8 0 0 N σ [.ref c] (fun r τ => ∃ P9 : NP, OKP P9 ∧ RP P P9 ∧ HS V c (⟨T, Z, u, h, P9, L⟩ : RG) [0, 2, 3, 4, 5, 6, 7, 8, 9, 11, 12, 13, 14, 15, 16, 17, 18, 19, 20, 21, 22, 23] σ τ ∧ r = none) := by
  refine Ct.of (by decide) (Nat.le_of_ble_eq_true rfl) [(0, .ref c)] rfl (fun X hX F hQ => ?_)
  have hPP := hP
  unfold OKP at hPP
  have h1 : HS V c ⟨T, Z, u, h, P, L⟩ [0, 2, 3, 4, 5, 6, 7, 8, 9, 11, 12, 13, 14, 15, 16, 17, 18, 19, 20, 21, 22, 23] σ σ := HS.start h0
  refine m_aload_n F rfl e_X10_readFee_0 ?_
  refine r_callV F e_X10_readFee_1 (q_X10_atHand (x_l X) V c T Z u h P L _ _  h1.1 (hob) hP ) cb_X10_atHand ml_X10_174 im_X10_atHand se_X10_atHand h1 rfl rfl (rest := []) rfl (Nat.le_of_ble_eq_true rfl) ⟨Nat.le_of_ble_eq_true rfl, Nat.le_of_ble_eq_true rfl⟩ ⟨Nat.le_of_ble_eq_true rfl, Nat.le_of_ble_eq_true rfl⟩ (fun r σ9262 hp => ?_)
  obtain ⟨P9266, oP9266, rP9266, h9263, n9265, gn9265, hn9265, rfl⟩ := hp
  have h9264 := HS.trans h1 h9263 (by decide)
  have xP9266 := oP9266
  unfold OKP at xP9266
  unfold RA at rP9266
  refine m_istore_n F (lv' := [(1, .int (nI n9265)), (0, .ref c)]) e_X10_readFee_4 (by decide) rfl ?_
  refine m_aload_n F rfl e_X10_readFee_5 ?_
  refine r_get F e_X10_readFee_6 fl_X10_141 h9264 rfl (fun v hv f9267 => ?_)
  obtain ⟨x9268, hx9268, rfl⟩ := hv
  replace hx9268 : Z = 0 → x9268 ≠ 0 := hx9268
  refine m_if_ne F e_X10_readFee_9 (fun q9 => ?_) (fun q9 => ?_)
  · have h9269 := HS.z0 h9264 (f9267) q9
    refine m_aload_n F rfl e_X10_readFee_26 ?_
    refine r_callV F e_X10_readFee_27 (q_X10_goOn (x_l X) V c T 0 u h P9266 L _ _  h9269.1 (hob) oP9266 ) cb_X10_goOn ml_X10_154 im_X10_goOn se_X10_goOn h9269 rfl rfl (rest := []) rfl (Nat.le_of_ble_eq_true rfl) ⟨Nat.le_of_ble_eq_true rfl, Nat.le_of_ble_eq_true rfl⟩ ⟨Nat.le_of_ble_eq_true rfl, Nat.le_of_ble_eq_true rfl⟩ (fun r σ9270 hp => ?_)
    obtain ⟨P9273, oP9273, rP9273, pr9274, h9271, rfl⟩ := hp
    have h9272 := HS.trans h9269 h9271 (by decide)
    have xP9273 := oP9273
    unfold OKP at xP9273
    unfold RA at rP9273
    refine m_aload_n F rfl e_X10_readFee_30 ?_
    refine m_iconst F (v := 0) (by decide) e_X10_readFee_31 ?_
    refine m_ldc F kc_X10_177 e_X10_readFee_32 ?_
    refine r_callV F e_X10_readFee_34 (q_X10_numeral (x_l X) V c T 0 u h P9273 L _ _ 0 99999 h9272.1 (hob) oP9273 (by omega) (by omega)) cb_X10_numeral ml_X10_165 im_X10_numeral se_X10_numeral h9272 rfl rfl (rest := []) rfl (Nat.le_of_ble_eq_true rfl) ⟨Nat.le_of_ble_eq_true rfl, Nat.le_of_ble_eq_true rfl⟩ ⟨Nat.le_of_ble_eq_true rfl, Nat.le_of_ble_eq_true rfl⟩ (fun r σ9275 hp => ?_)
    obtain ⟨P9279, oP9279, rP9279, h9276, c9278⟩ := hp
    have h9277 := HS.trans h9272 h9276 (by decide)
    have xP9279 := oP9279
    unfold OKP at xP9279
    unfold RA at rP9279
    rcases c9278 with ⟨n9280, gn9280, hn9280, rfl⟩ | ⟨h9281, rfl⟩
    · refine m_istore_n F (lv' := [(2, .int (nI n9280)), (1, .int (nI n9265)), (0, .ref c)]) e_X10_readFee_37 (by decide) rfl ?_
      refine m_aload_n F rfl e_X10_readFee_38 ?_
      refine r_get F e_X10_readFee_39 fl_X10_141 h9277 rfl (fun v hv f9282 => ?_)
      obtain ⟨x9283, hx9283, rfl⟩ := hv
      replace hx9283 : 0 = 0 → x9283 ≠ 0 := hx9283
      refine m_if_ne F e_X10_readFee_42 (fun q42 => ?_) (fun q42 => ?_)
      · have h9284 := HS.z0 h9277 (f9282) q42
        have h9285 : HS V c _ [0, 2, 3, 4, 5, 6, 7, 8, 9, 11, 12, 13, 14, 15, 16, 17, 18, 19, 20, 21, 22, 23] _ _ := ⟨HR.mono (Z' := Z) (by intro e; first | rfl | assumption | omega) h9284.1, h9284.2⟩
        exact m_vret F hQ e_X10_readFee_54 (⟨P9279, oP9279, (by unfold RP; omega), h9285, rfl⟩)
      · first | exact absurd q42 (hx9283 rfl) | contradiction
    · have h9286 : HS V c (⟨T, 0, u, h, P9279, L⟩ : RG) [0, 2, 3, 4, 5, 6, 7, 8, 9, 11, 12, 13, 14, 15, 16, 17, 18, 19, 20, 21, 22, 23] _ _ := ⟨h9281, h9277.2⟩
      refine m_istore_n F (lv' := [(2, .int (nI 0)), (1, .int (nI n9265)), (0, .ref c)]) e_X10_readFee_37 (by decide) rfl ?_
      refine m_aload_n F rfl e_X10_readFee_38 ?_
      refine r_get F e_X10_readFee_39 fl_X10_141 h9286 rfl (fun v hv f9287 => ?_)
      obtain ⟨x9288, hx9288, rfl⟩ := hv
      replace hx9288 : 0 = 0 → x9288 ≠ 0 := hx9288
      refine m_if_ne F e_X10_readFee_42 (fun q42 => ?_) (fun q42 => ?_)
      · have h9289 := HS.z0 h9286 (f9287) q42
        have h9290 : HS V c _ [0, 2, 3, 4, 5, 6, 7, 8, 9, 11, 12, 13, 14, 15, 16, 17, 18, 19, 20, 21, 22, 23] _ _ := ⟨HR.mono (Z' := Z) (by intro e; first | rfl | assumption | omega) h9289.1, h9289.2⟩
        exact m_vret F hQ e_X10_readFee_54 (⟨P9279, oP9279, (by unfold RP; omega), h9290, rfl⟩)
      · first | exact absurd q42 (hx9288 rfl) | contradiction
  · subst q9
    refine m_aload_n F rfl e_X10_readFee_12 ?_
    refine r_get F e_X10_readFee_13 fl_X10_34 h9264 rfl (fun v hv f9291 => ?_)
    obtain rfl : v = .ref (c + 9) := hv
    refine m_iload_n F rfl e_X10_readFee_16 ?_
    refine r_iald F (len := 8) (j := n9265) e_X10_readFee_17 h9264 (fun _ h => h) (by decide) (nI_clamp (by omega)) (vp_in_nI (by omega) (by decide)) (fun x9292 h9293 f9294 => ?_)
    refine m_if_eq F e_X10_readFee_18 (fun q18 => ?_) (fun q18 => ?_)
    · subst q18
      refine m_aload_n F rfl e_X10_readFee_26 ?_
      refine r_callV F e_X10_readFee_27 (q_X10_goOn (x_l X) V c T Z u h P9266 L _ _  h9264.1 (hob) oP9266 ) cb_X10_goOn ml_X10_154 im_X10_goOn se_X10_goOn h9264 rfl rfl (rest := []) rfl (Nat.le_of_ble_eq_true rfl) ⟨Nat.le_of_ble_eq_true rfl, Nat.le_of_ble_eq_true rfl⟩ ⟨Nat.le_of_ble_eq_true rfl, Nat.le_of_ble_eq_true rfl⟩ (fun r σ9295 hp => ?_)
      obtain ⟨P9298, oP9298, rP9298, pr9299, h9296, rfl⟩ := hp
      have h9297 := HS.trans h9264 h9296 (by decide)
      have xP9298 := oP9298
      unfold OKP at xP9298
      unfold RA at rP9298
      refine m_aload_n F rfl e_X10_readFee_30 ?_
      refine m_iconst F (v := 0) (by decide) e_X10_readFee_31 ?_
      refine m_ldc F kc_X10_177 e_X10_readFee_32 ?_
      refine r_callV F e_X10_readFee_34 (q_X10_numeral (x_l X) V c T Z u h P9298 L _ _ 0 99999 h9297.1 (hob) oP9298 (by omega) (by omega)) cb_X10_numeral ml_X10_165 im_X10_numeral se_X10_numeral h9297 rfl rfl (rest := []) rfl (Nat.le_of_ble_eq_true rfl) ⟨Nat.le_of_ble_eq_true rfl, Nat.le_of_ble_eq_true rfl⟩ ⟨Nat.le_of_ble_eq_true rfl, Nat.le_of_ble_eq_true rfl⟩ (fun r σ9300 hp => ?_)
      obtain ⟨P9304, oP9304, rP9304, h9301, c9303⟩ := hp
      have h9302 := HS.trans h9297 h9301 (by decide)
      have xP9304 := oP9304
      unfold OKP at xP9304
      unfold RA at rP9304
      rcases c9303 with ⟨n9305, gn9305, hn9305, rfl⟩ | ⟨h9306, rfl⟩
      · refine m_istore_n F (lv' := [(2, .int (nI n9305)), (1, .int (nI n9265)), (0, .ref c)]) e_X10_readFee_37 (by decide) rfl ?_
        refine m_aload_n F rfl e_X10_readFee_38 ?_
        refine r_get F e_X10_readFee_39 fl_X10_141 h9302 rfl (fun v hv f9307 => ?_)
        obtain ⟨x9308, hx9308, rfl⟩ := hv
        replace hx9308 : Z = 0 → x9308 ≠ 0 := hx9308
        refine m_if_ne F e_X10_readFee_42 (fun q42 => ?_) (fun q42 => ?_)
        · have h9309 := HS.z0 h9302 (f9307) q42
          have h9310 : HS V c _ [0, 2, 3, 4, 5, 6, 7, 8, 9, 11, 12, 13, 14, 15, 16, 17, 18, 19, 20, 21, 22, 23] _ _ := ⟨HR.mono (Z' := Z) (by intro e; first | rfl | assumption | omega) h9309.1, h9309.2⟩
          exact m_vret F hQ e_X10_readFee_54 (⟨P9304, oP9304, (by unfold RP; omega), h9310, rfl⟩)
        · subst q42
          refine m_aload_n F rfl e_X10_readFee_45 ?_
          refine r_get F e_X10_readFee_46 fl_X10_34 h9302 rfl (fun v hv f9311 => ?_)
          obtain rfl : v = .ref (c + 9) := hv
          refine m_iload_n F rfl e_X10_readFee_49 ?_
          refine m_iload_n F rfl e_X10_readFee_50 ?_
          refine m_iconst F (v := 1) (by decide) e_X10_readFee_51 ?_
          refine m_iadd F e_X10_readFee_52 ?_
          refine Wm.topE (w := nI (n9305 + 1)) (nI_add n9305 1) ?_
          refine r_iast F (g' := (⟨T, Z, u, h, P9304, L⟩ : RG)) (len := 8) (j := n9265) e_X10_readFee_53 h9302 (fun _ h => h) (fun f h => ⟨f, rfl, h⟩) (by decide) (by decide) (nI_clamp (by omega)) (vp_in_nI (by omega) (by decide)) trivial (fun _ _ _ h => h) (fun _ _ _ h => h) (fun σ9312 h9313 g9314 f9315 g9316 => ?_)
          exact m_vret F hQ e_X10_readFee_54 (⟨P9304, oP9304, (by unfold RP; omega), h9313, rfl⟩)
      · have h9317 : HS V c (⟨T, 0, u, h, P9304, L⟩ : RG) [0, 2, 3, 4, 5, 6, 7, 8, 9, 11, 12, 13, 14, 15, 16, 17, 18, 19, 20, 21, 22, 23] _ _ := ⟨h9306, h9302.2⟩
        refine m_istore_n F (lv' := [(2, .int (nI 0)), (1, .int (nI n9265)), (0, .ref c)]) e_X10_readFee_37 (by decide) rfl ?_
        refine m_aload_n F rfl e_X10_readFee_38 ?_
        refine r_get F e_X10_readFee_39 fl_X10_141 h9317 rfl (fun v hv f9318 => ?_)
        obtain ⟨x9319, hx9319, rfl⟩ := hv
        replace hx9319 : 0 = 0 → x9319 ≠ 0 := hx9319
        refine m_if_ne F e_X10_readFee_42 (fun q42 => ?_) (fun q42 => ?_)
        · have h9320 := HS.z0 h9317 (f9318) q42
          have h9321 : HS V c _ [0, 2, 3, 4, 5, 6, 7, 8, 9, 11, 12, 13, 14, 15, 16, 17, 18, 19, 20, 21, 22, 23] _ _ := ⟨HR.mono (Z' := Z) (by intro e; first | rfl | assumption | omega) h9320.1, h9320.2⟩
          exact m_vret F hQ e_X10_readFee_54 (⟨P9304, oP9304, (by unfold RP; omega), h9321, rfl⟩)
        · first | exact absurd q42 (hx9319 rfl) | contradiction
    · refine m_aload_n F rfl e_X10_readFee_21 ?_
      refine m_iconst F (v := 3) (by decide) e_X10_readFee_22 ?_
      refine r_callV F e_X10_readFee_23 (q_X10_wrong (x_l X) V c T Z u h P9266 L _ _ 3 h9264.1 (hob) oP9266 (by first | omega | assumption | decide)) cb_X10_wrong ml_X10_150 im_X10_wrong se_X10_wrong h9264 rfl rfl (rest := []) rfl (Nat.le_of_ble_eq_true rfl) ⟨Nat.le_of_ble_eq_true rfl, Nat.le_of_ble_eq_true rfl⟩ ⟨Nat.le_of_ble_eq_true rfl, Nat.le_of_ble_eq_true rfl⟩ (fun r σ9322 hp => ?_)
      obtain ⟨h9323, rfl⟩ := hp
      have h9324 := HS.trans h9264 h9323 (by decide)
      refine m_aload_n F rfl e_X10_readFee_26 ?_
      refine r_callV F e_X10_readFee_27 (q_X10_goOn (x_l X) V c T 0 u h P9266 L _ _  h9324.1 (hob) oP9266 ) cb_X10_goOn ml_X10_154 im_X10_goOn se_X10_goOn h9324 rfl rfl (rest := []) rfl (Nat.le_of_ble_eq_true rfl) ⟨Nat.le_of_ble_eq_true rfl, Nat.le_of_ble_eq_true rfl⟩ ⟨Nat.le_of_ble_eq_true rfl, Nat.le_of_ble_eq_true rfl⟩ (fun r σ9325 hp => ?_)
      obtain ⟨P9328, oP9328, rP9328, pr9329, h9326, rfl⟩ := hp
      have h9327 := HS.trans h9324 h9326 (by decide)
      have xP9328 := oP9328
      unfold OKP at xP9328
      unfold RA at rP9328
      refine m_aload_n F rfl e_X10_readFee_30 ?_
      refine m_iconst F (v := 0) (by decide) e_X10_readFee_31 ?_
      refine m_ldc F kc_X10_177 e_X10_readFee_32 ?_
      refine r_callV F e_X10_readFee_34 (q_X10_numeral (x_l X) V c T 0 u h P9328 L _ _ 0 99999 h9327.1 (hob) oP9328 (by omega) (by omega)) cb_X10_numeral ml_X10_165 im_X10_numeral se_X10_numeral h9327 rfl rfl (rest := []) rfl (Nat.le_of_ble_eq_true rfl) ⟨Nat.le_of_ble_eq_true rfl, Nat.le_of_ble_eq_true rfl⟩ ⟨Nat.le_of_ble_eq_true rfl, Nat.le_of_ble_eq_true rfl⟩ (fun r σ9330 hp => ?_)
      obtain ⟨P9334, oP9334, rP9334, h9331, c9333⟩ := hp
      have h9332 := HS.trans h9327 h9331 (by decide)
      have xP9334 := oP9334
      unfold OKP at xP9334
      unfold RA at rP9334
      rcases c9333 with ⟨n9335, gn9335, hn9335, rfl⟩ | ⟨h9336, rfl⟩
      · refine m_istore_n F (lv' := [(2, .int (nI n9335)), (1, .int (nI n9265)), (0, .ref c)]) e_X10_readFee_37 (by decide) rfl ?_
        refine m_aload_n F rfl e_X10_readFee_38 ?_
        refine r_get F e_X10_readFee_39 fl_X10_141 h9332 rfl (fun v hv f9337 => ?_)
        obtain ⟨x9338, hx9338, rfl⟩ := hv
        replace hx9338 : 0 = 0 → x9338 ≠ 0 := hx9338
        refine m_if_ne F e_X10_readFee_42 (fun q42 => ?_) (fun q42 => ?_)
        · have h9339 := HS.z0 h9332 (f9337) q42
          have h9340 : HS V c _ [0, 2, 3, 4, 5, 6, 7, 8, 9, 11, 12, 13, 14, 15, 16, 17, 18, 19, 20, 21, 22, 23] _ _ := ⟨HR.mono (Z' := Z) (by intro e; first | rfl | assumption | omega) h9339.1, h9339.2⟩
          exact m_vret F hQ e_X10_readFee_54 (⟨P9334, oP9334, (by unfold RP; omega), h9340, rfl⟩)
        · first | exact absurd q42 (hx9338 rfl) | contradiction
      · have h9341 : HS V c (⟨T, 0, u, h, P9334, L⟩ : RG) [0, 2, 3, 4, 5, 6, 7, 8, 9, 11, 12, 13, 14, 15, 16, 17, 18, 19, 20, 21, 22, 23] _ _ := ⟨h9336, h9332.2⟩
        refine m_istore_n F (lv' := [(2, .int (nI 0)), (1, .int (nI n9265)), (0, .ref c)]) e_X10_readFee_37 (by decide) rfl ?_
        refine m_aload_n F rfl e_X10_readFee_38 ?_
        refine r_get F e_X10_readFee_39 fl_X10_141 h9341 rfl (fun v hv f9342 => ?_)
        obtain ⟨x9343, hx9343, rfl⟩ := hv
        replace hx9343 : 0 = 0 → x9343 ≠ 0 := hx9343
        refine m_if_ne F e_X10_readFee_42 (fun q42 => ?_) (fun q42 => ?_)
        · have h9344 := HS.z0 h9341 (f9342) q42
          have h9345 : HS V c _ [0, 2, 3, 4, 5, 6, 7, 8, 9, 11, 12, 13, 14, 15, 16, 17, 18, 19, 20, 21, 22, 23] _ _ := ⟨HR.mono (Z' := Z) (by intro e; first | rfl | assumption | omega) h9344.1, h9344.2⟩
          exact m_vret F hQ e_X10_readFee_54 (⟨P9334, oP9334, (by unfold RP; omega), h9345, rfl⟩)
        · first | exact absurd q42 (hx9343 rfl) | contradiction
set_option maxRecDepth 20000 in
theorem q_X10_readChange (l : Launch) (V : VX) (c T Z u h : Nat) (P : NP) (L : Nat → LQ) (N : Nat) (σ : Mem)  (h0 : HR V c ⟨T, Z, u, h, P, L⟩ σ) (hob : OKB L) (hP : OKP P)  : Ct l V yX10_readChange cX10_readChange 5 none 8 0 0 N σ [.ref c] (fun r τ => ∃ P9 : NP, OKP P9 ∧ RP P P9 ∧ HS V c (⟨T, Z, u, h, P9, L⟩ : RG) [0, 2, 4, 5, 6, 7, 8, 9, 10, 11, 14, 15, 16, 17, 18, 19, 20, 21, 22, 23] σ τ ∧ r = none) := by
  refine Ct.of (by decide) (Nat.le_of_ble_eq_true rfl) [(0, .ref c)] rfl (fun X hX F hQ => ?_)
  have hPP := hP
  unfold OKP at hPP
  have h1 : HS V c ⟨T, Z, u, h, P, L⟩ [0, 2, 4, 5, 6, 7, 8, 9, 10, 11, 14, 15, 16, 17, 18, 19, 20, 21, 22, 23] σ σ := HS.start h0
  refine m_bipush F (v := 8) (by decide) e_X10_readChange_0 ?_
  refine m_aload_n F rfl e_X10_readChange_2 ?_
  refine m_iconst F (v := 2) (by decide) e_X10_readChange_3 ?_
  refine r_callV F e_X10_readChange_4 (q_X10_reading2 (x_l X) V c T Z u h P L _ _  h1.1 (hob) hP ) cb_X10_reading ml_X10_157 im_X10_reading se_X10_reading h1 rfl rfl (rest := [.int 8]) rfl (Nat.le_of_ble_eq_true rfl) ⟨Nat.le_of_ble_eq_true rfl, Nat.le_of_ble_eq_true rfl⟩ ⟨Nat.le_of_ble_eq_true rfl, Nat.le_of_ble_eq_true rfl⟩ (fun r σ9346 hp => ?_)
  obtain ⟨h9347, rfl⟩ := hp
  have h9348 := HS.trans h1 h9347 (by decide)
  refine m_iadd F e_X10_readChange_7 ?_
  refine Wm.topE (w := nI (8 + P.n7)) (nI_add 8 P.n7) ?_
  refine m_istore_n F (lv' := [(1, .int (nI (8 + P.n7))), (0, .ref c)]) e_X10_readChange_8 (by decide) rfl ?_
  refine m_iload_n F rfl e_X10_readChange_9 ?_
  refine m_bipush F (v := 16) (by decide) e_X10_readChange_10 ?_
  refine m_icmp_ne F e_X10_readChange_12 (fun q12 => ?_) (fun q12 => ?_)
  · have c12 : (8 + P.n7) ≠ 16 := by have hh := mt (nI_eq (a := (8 + P.n7)) (b := 16) (by omega) (by omega)).mpr q12; omega
    refine m_aload_n F rfl e_X10_readChange_20 ?_
    refine r_callV F e_X10_readChange_21 (q_X10_goOn (x_l X) V c T Z u h P L _ _  h9348.1 (hob) hP ) cb_X10_goOn ml_X10_154 im_X10_goOn se_X10_goOn h9348 rfl rfl (rest := []) rfl (Nat.le_of_ble_eq_true rfl) ⟨Nat.le_of_ble_eq_true rfl, Nat.le_of_ble_eq_true rfl⟩ ⟨Nat.le_of_ble_eq_true rfl, Nat.le_of_ble_eq_true rfl⟩ (fun r σ9349 hp => ?_)
    obtain ⟨P9352, oP9352, rP9352, pr9353, h9350, rfl⟩ := hp
    have h9351 := HS.trans h9348 h9350 (by decide)
    have xP9352 := oP9352
    unfold OKP at xP9352
    unfold RA at rP9352
    refine m_aload_n F rfl e_X10_readChange_24 ?_
    refine m_iconst F (v := 2) (by decide) e_X10_readChange_25 ?_
    refine r_callV F e_X10_readChange_26 (q_X10_reading2 (x_l X) V c T Z u h P9352 L _ _  h9351.1 (hob) oP9352 ) cb_X10_reading ml_X10_157 im_X10_reading se_X10_reading h9351 rfl rfl (rest := []) rfl (Nat.le_of_ble_eq_true rfl) ⟨Nat.le_of_ble_eq_true rfl, Nat.le_of_ble_eq_true rfl⟩ ⟨Nat.le_of_ble_eq_true rfl, Nat.le_of_ble_eq_true rfl⟩ (fun r σ9354 hp => ?_)
    obtain ⟨h9355, rfl⟩ := hp
    have h9356 := HS.trans h9351 h9355 (by decide)
    refine m_if_eq F e_X10_readChange_29 (fun q29 => ?_) (fun q29 => ?_)
    · have c29 : P9352.n7 = 0 := (nI_eq (a := P9352.n7) (b := 0) (by omega) (by omega)).mp q29
      refine m_iconst F (v := 0) (by decide) e_X10_readChange_39 ?_
      refine m_goto F e_X10_readChange_40 ?_
      refine m_istore_n F (lv' := [(2, .int 0), (1, .int (nI (8 + P.n7))), (0, .ref c)]) e_X10_readChange_53 (by decide) rfl ?_
      refine m_aload_n F rfl e_X10_readChange_54 ?_
      refine m_iload_n F rfl e_X10_readChange_55 ?_
      refine m_bipush F (v := 99) (by decide) e_X10_readChange_56 ?_
      refine r_callV F e_X10_readChange_58 (q_X10_numeral (x_l X) V c T Z u h P9352 L _ _ 0 99 h9356.1 (hob) oP9352 (by omega) (by omega)) cb_X10_numeral ml_X10_165 im_X10_numeral se_X10_numeral h9356 rfl rfl (rest := []) rfl (Nat.le_of_ble_eq_true rfl) ⟨Nat.le_of_ble_eq_true rfl, Nat.le_of_ble_eq_true rfl⟩ ⟨Nat.le_of_ble_eq_true rfl, Nat.le_of_ble_eq_true rfl⟩ (fun r σ9357 hp => ?_)
      obtain ⟨P9361, oP9361, rP9361, h9358, c9360⟩ := hp
      have h9359 := HS.trans h9356 h9358 (by decide)
      have xP9361 := oP9361
      unfold OKP at xP9361
      unfold RA at rP9361
      rcases c9360 with ⟨n9362, gn9362, hn9362, rfl⟩ | ⟨h9363, rfl⟩
      · refine m_istore_n F (lv' := [(3, .int (nI n9362)), (2, .int 0), (1, .int (nI (8 + P.n7))), (0, .ref c)]) e_X10_readChange_61 (by decide) rfl ?_
        refine m_aload_n F rfl e_X10_readChange_62 ?_
        refine m_sipush F (v := 500) (by decide) e_X10_readChange_63 ?_
        refine m_sipush F (v := 2000) (by decide) e_X10_readChange_66 ?_
        refine r_callV F e_X10_readChange_69 (q_X10_numeral (x_l X) V c T Z u h P9361 L _ _ 500 2000 h9359.1 (hob) oP9361 (by omega) (by omega)) cb_X10_numeral ml_X10_165 im_X10_numeral se_X10_numeral h9359 rfl rfl (rest := []) rfl (Nat.le_of_ble_eq_true rfl) ⟨Nat.le_of_ble_eq_true rfl, Nat.le_of_ble_eq_true rfl⟩ ⟨Nat.le_of_ble_eq_true rfl, Nat.le_of_ble_eq_true rfl⟩ (fun r σ9364 hp => ?_)
        obtain ⟨P9368, oP9368, rP9368, h9365, c9367⟩ := hp
        have h9366 := HS.trans h9359 h9365 (by decide)
        have xP9368 := oP9368
        unfold OKP at xP9368
        unfold RA at rP9368
        rcases c9367 with ⟨n9369, gn9369, hn9369, rfl⟩ | ⟨h9370, rfl⟩
        · refine m_istore F (lv' := [(4, .int (nI n9369)), (3, .int (nI n9362)), (2, .int 0), (1, .int (nI (8 + P.n7))), (0, .ref c)]) e_X10_readChange_72 (by decide) rfl ?_
          refine m_aload_n F rfl e_X10_readChange_74 ?_
          refine r_get F e_X10_readChange_75 fl_X10_141 h9366 rfl (fun v hv f9371 => ?_)
          obtain ⟨x9372, hx9372, rfl⟩ := hv
          replace hx9372 : Z = 0 → x9372 ≠ 0 := hx9372
          refine m_if_eq F e_X10_readChange_78 (fun q78 => ?_) (fun q78 => ?_)
          · subst q78
            refine m_aload_n F rfl e_X10_readChange_82 ?_
            refine r_get F e_X10_readChange_83 fl_X10_40 h9366 rfl (fun v hv f9373 => ?_)
            obtain rfl : v = .ref (c + 11) := hv
            refine m_iload_n F rfl e_X10_readChange_86 ?_
            refine m_iload_n F rfl e_X10_readChange_87 ?_
            refine r_iast F (g' := (⟨T, Z, u, h, P9368, L⟩ : RG)) (len := 16) (j := 8 + P.n7) e_X10_readChange_88 h9366 (fun _ h => h) (fun f h => ⟨f, rfl, h⟩) (by decide) (by decide) (nI_clamp (by omega)) (vp_in_nI (by omega) (by decide)) ⟨n9362, by omega, rfl⟩ (fun _ _ _ h => h) (fun _ _ _ h => h) (fun σ9374 h9375 g9376 f9377 g9378 => ?_)
            refine m_aload_n F rfl e_X10_readChange_89 ?_
            refine r_get F e_X10_readChange_90 fl_X10_43 h9375 rfl (fun v hv f9379 => ?_)
            obtain rfl : v = .ref (c + 12) := hv
            refine m_iload_n F rfl e_X10_readChange_93 ?_
            refine m_iload F rfl e_X10_readChange_94 ?_
            refine r_iast F (g' := (⟨T, Z, u, h, (mkP P9368.n0 P9368.n2 P9368.n5 P9368.n7 P9368.m0 P9368.m5 P9368.w2 (P9368.n7 + 1) P9368.kk P9368.a), L⟩ : RG)) (len := 16) (j := 8 + P.n7) e_X10_readChange_96 h9375 (fun _ h => h) (fun f h => ⟨f, rfl, h⟩) (by decide) (by decide) (nI_clamp (by omega)) (vp_in_nI (by omega) (by decide)) ⟨n9369, by omega, rfl, fun h7 _ => absurd h7 (by omega), fun _ _ => by omega⟩ (fun i hi y hy => by obtain ⟨n9, a9, b9, c9, d9⟩ := hy; exact ⟨n9, a9, b9, c9, fun h7 h8 => d9 h7 (show i < 8 + P9368.w7 by have h6 : i < 8 + (P9368.n7 + 1) := h8; omega)⟩) (CR.chg (by intro k hk i x h; unfold EI at h ⊢; split at h <;> first | exact h | exact absurd rfl hk | trivial) rfl rfl) (fun σ9380 h9381 g9382 f9383 g9384 => ?_)
            obtain ⟨P9385, eP9385⟩ : ∃ P9, P9 = (mkP P9368.n0 P9368.n2 P9368.n5 P9368.n7 P9368.m0 P9368.m5 P9368.w2 (P9368.n7 + 1) P9368.kk P9368.a) := ⟨_, rfl⟩
            rw [← eP9385] at h9381
            have fP9385 : P9385.n0 = P9368.n0 ∧ P9385.n2 = P9368.n2 ∧ P9385.n5 = P9368.n5 ∧ P9385.n7 = P9368.n7 ∧ P9385.m0 = P9368.m0 ∧ P9385.m5 = P9368.m5 ∧ P9385.w2 = P9368.w2 ∧ P9385.w7 = P9368.n7 + 1 ∧ P9385.kk = P9368.kk ∧ P9385.a = P9368.a := by rw [eP9385]; exact ⟨rfl, rfl, rfl, rfl, rfl, rfl, rfl, rfl, rfl, rfl⟩
            refine m_aload_n F rfl e_X10_readChange_97 ?_
            refine m_iconst F (v := 2) (by decide) e_X10_readChange_98 ?_
            refine m_aload_n F rfl e_X10_readChange_99 ?_
            refine m_iconst F (v := 2) (by decide) e_X10_readChange_100 ?_
            have oP9389 : OKP P9385 := by unfold OKP; omega
            refine r_callV F e_X10_readChange_101 (q_X10_reading2 (x_l X) V c T Z u h P9385 L _ _  h9381.1 (hob) oP9389 ) cb_X10_reading ml_X10_157 im_X10_reading se_X10_reading h9381 rfl rfl (rest := [.int 2, .ref c]) rfl (Nat.le_of_ble_eq_true rfl) ⟨Nat.le_of_ble_eq_true rfl, Nat.le_of_ble_eq_true rfl⟩ ⟨Nat.le_of_ble_eq_true rfl, Nat.le_of_ble_eq_true rfl⟩ (fun r σ9386 hp => ?_)
            obtain ⟨h9387, rfl⟩ := hp
            have h9388 := HS.trans h9381 h9387 (by decide)
            refine m_iconst F (v := 1) (by decide) e_X10_readChange_104 ?_
            refine m_iadd F e_X10_readChange_105 ?_
            refine Wm.topE (w := nI (P9385.n7 + 1)) (nI_add P9385.n7 1) ?_
            refine r_callV F e_X10_readChange_106 (q_X10_reads2 (x_l X) V c T Z u h P9385 L _ _ (P9385.n7 + 1) h9388.1 (hob) oP9389 (by omega) (by first | omega | assumption | decide)) cb_X10_reads ml_X10_170 im_X10_reads se_X10_reads h9388 rfl rfl (rest := []) rfl (Nat.le_of_ble_eq_true rfl) ⟨Nat.le_of_ble_eq_true rfl, Nat.le_of_ble_eq_true rfl⟩ ⟨Nat.le_of_ble_eq_true rfl, Nat.le_of_ble_eq_true rfl⟩ (fun r σ9390 hp => ?_)
            obtain ⟨h9391, rfl⟩ := hp
            have h9392 := HS.trans h9388 h9391 (by decide)
            obtain ⟨P9393, eP9393⟩ : ∃ P9, P9 = (mkP P9385.n0 P9385.n2 P9385.n5 (P9385.n7 + 1) P9385.m0 P9385.m5 P9385.w2 P9385.w7 P9385.kk P9385.a) := ⟨_, rfl⟩
            rw [← eP9393] at h9392
            have fP9393 : P9393.n0 = P9385.n0 ∧ P9393.n2 = P9385.n2 ∧ P9393.n5 = P9385.n5 ∧ P9393.n7 = P9385.n7 + 1 ∧ P9393.m0 = P9385.m0 ∧ P9393.m5 = P9385.m5 ∧ P9393.w2 = P9385.w2 ∧ P9393.w7 = P9385.w7 ∧ P9393.kk = P9385.kk ∧ P9393.a = P9385.a := by rw [eP9393]; exact ⟨rfl, rfl, rfl, rfl, rfl, rfl, rfl, rfl, rfl, rfl⟩
            have oP9394 : OKP P9393 := by unfold OKP; omega
            exact m_vret F hQ e_X10_readChange_109 (⟨P9393, oP9394, (by unfold RP; omega), h9392, rfl⟩)
          · have h9395 := HS.z0 h9366 (f9371) q78
            have h9396 : HS V c _ [0, 2, 4, 5, 6, 7, 8, 9, 10, 11, 14, 15, 16, 17, 18, 19, 20, 21, 22, 23] _ _ := ⟨HR.mono (Z' := Z) (by intro e; first | rfl | assumption | omega) h9395.1, h9395.2⟩
            exact m_vret F hQ e_X10_readChange_81 (⟨P9368, oP9368, (by unfold RP; omega), h9396, rfl⟩)
        · have h9397 : HS V c (⟨T, 0, u, h, P9368, L⟩ : RG) [0, 2, 4, 5, 6, 7, 8, 9, 10, 11, 14, 15, 16, 17, 18, 19, 20, 21, 22, 23] _ _ := ⟨h9370, h9366.2⟩
          refine m_istore F (lv' := [(4, .int (nI 500)), (3, .int (nI n9362)), (2, .int 0), (1, .int (nI (8 + P.n7))), (0, .ref c)]) e_X10_readChange_72 (by decide) rfl ?_
          refine m_aload_n F rfl e_X10_readChange_74 ?_
          refine r_get F e_X10_readChange_75 fl_X10_141 h9397 rfl (fun v hv f9398 => ?_)
          obtain ⟨x9399, hx9399, rfl⟩ := hv
          replace hx9399 : 0 = 0 → x9399 ≠ 0 := hx9399
          refine m_if_eq F e_X10_readChange_78 (fun q78 => ?_) (fun q78 => ?_)
          · first | exact absurd q78 (hx9399 rfl) | contradiction
          · have h9400 := HS.z0 h9397 (f9398) q78
            have h9401 : HS V c _ [0, 2, 4, 5, 6, 7, 8, 9, 10, 11, 14, 15, 16, 17, 18, 19, 20, 21, 22, 23] _ _ := ⟨HR.mono (Z' := Z) (by intro e; first | rfl | assumption | omega) h9400.1, h9400.2⟩
            exact m_vret F hQ e_X10_readChange_81 (⟨P9368, oP9368, (by unfold RP; omega), h9401, rfl⟩)
      · have h9402 : HS V c (⟨T, 0, u, h, P9361, L⟩ : RG) [0, 2, 4, 5, 6, 7, 8, 9, 10, 11, 14, 15, 16, 17, 18, 19, 20, 21, 22, 23] _ _ := ⟨h9363, h9359.2⟩
        refine m_istore_n F (lv' := [(3, .int (nI 0)), (2, .int 0), (1, .int (nI (8 + P.n7))), (0, .ref c)]) e_X10_readChange_61 (by decide) rfl ?_
        refine m_aload_n F rfl e_X10_readChange_62 ?_
        refine m_sipush F (v := 500) (by decide) e_X10_readChange_63 ?_
        refine m_sipush F (v := 2000) (by decide) e_X10_readChange_66 ?_
        refine r_callV F e_X10_readChange_69 (q_X10_numeral (x_l X) V c T 0 u h P9361 L _ _ 500 2000 h9402.1 (hob) oP9361 (by omega) (by omega)) cb_X10_numeral ml_X10_165 im_X10_numeral se_X10_numeral h9402 rfl rfl (rest := []) rfl (Nat.le_of_ble_eq_true rfl) ⟨Nat.le_of_ble_eq_true rfl, Nat.le_of_ble_eq_true rfl⟩ ⟨Nat.le_of_ble_eq_true rfl, Nat.le_of_ble_eq_true rfl⟩ (fun r σ9403 hp => ?_)
        obtain ⟨P9407, oP9407, rP9407, h9404, c9406⟩ := hp
        have h9405 := HS.trans h9402 h9404 (by decide)
        have xP9407 := oP9407
        unfold OKP at xP9407
        unfold RA at rP9407
        rcases c9406 with ⟨n9408, gn9408, hn9408, rfl⟩ | ⟨h9409, rfl⟩
        · refine m_istore F (lv' := [(4, .int (nI n9408)), (3, .int (nI 0)), (2, .int 0), (1, .int (nI (8 + P.n7))), (0, .ref c)]) e_X10_readChange_72 (by decide) rfl ?_
          refine m_aload_n F rfl e_X10_readChange_74 ?_
          refine r_get F e_X10_readChange_75 fl_X10_141 h9405 rfl (fun v hv f9410 => ?_)
          obtain ⟨x9411, hx9411, rfl⟩ := hv
          replace hx9411 : 0 = 0 → x9411 ≠ 0 := hx9411
          refine m_if_eq F e_X10_readChange_78 (fun q78 => ?_) (fun q78 => ?_)
          · first | exact absurd q78 (hx9411 rfl) | contradiction
          · have h9412 := HS.z0 h9405 (f9410) q78
            have h9413 : HS V c _ [0, 2, 4, 5, 6, 7, 8, 9, 10, 11, 14, 15, 16, 17, 18, 19, 20, 21, 22, 23] _ _ := ⟨HR.mono (Z' := Z) (by intro e; first | rfl | assumption | omega) h9412.1, h9412.2⟩
            exact m_vret F hQ e_X10_readChange_81 (⟨P9407, oP9407, (by unfold RP; omega), h9413, rfl⟩)
        · have h9414 : HS V c (⟨T, 0, u, h, P9407, L⟩ : RG) [0, 2, 4, 5, 6, 7, 8, 9, 10, 11, 14, 15, 16, 17, 18, 19, 20, 21, 22, 23] _ _ := ⟨h9409, h9405.2⟩
          refine m_istore F (lv' := [(4, .int (nI 500)), (3, .int (nI 0)), (2, .int 0), (1, .int (nI (8 + P.n7))), (0, .ref c)]) e_X10_readChange_72 (by decide) rfl ?_
          refine m_aload_n F rfl e_X10_readChange_74 ?_
          refine r_get F e_X10_readChange_75 fl_X10_141 h9414 rfl (fun v hv f9415 => ?_)
          obtain ⟨x9416, hx9416, rfl⟩ := hv
          replace hx9416 : 0 = 0 → x9416 ≠ 0 := hx9416
          refine m_if_eq F e_X10_readChange_78 (fun q78 => ?_) (fun q78 => ?_)
          · first | exact absurd q78 (hx9416 rfl) | contradiction
          · have h9417 := HS.z0 h9414 (f9415) q78
            have h9418 : HS V c _ [0, 2, 4, 5, 6, 7, 8, 9, 10, 11, 14, 15, 16, 17, 18, 19, 20, 21, 22, 23] _ _ := ⟨HR.mono (Z' := Z) (by intro e; first | rfl | assumption | omega) h9417.1, h9417.2⟩
            exact m_vret F hQ e_X10_readChange_81 (⟨P9407, oP9407, (by unfold RP; omega), h9418, rfl⟩)
    · have c29 : P9352.n7 ≠ 0 := by have hh := mt (nI_eq (a := P9352.n7) (b := 0) (by omega) (by omega)).mpr q29; omega
      refine m_aload_n F rfl e_X10_readChange_32 ?_
      refine r_get F e_X10_readChange_33 fl_X10_141 h9356 rfl (fun v hv f9419 => ?_)
      obtain ⟨x9420, hx9420, rfl⟩ := hv
      replace hx9420 : Z = 0 → x9420 ≠ 0 := hx9420
      refine m_if_eq F e_X10_readChange_36 (fun q36 => ?_) (fun q36 => ?_)
      · subst q36
        refine m_aload_n F rfl e_X10_readChange_43 ?_
        refine r_get F e_X10_readChange_44 fl_X10_40 h9356 rfl (fun v hv f9421 => ?_)
        obtain rfl : v = .ref (c + 11) := hv
        refine m_iload_n F rfl e_X10_readChange_47 ?_
        refine m_iconst F (v := 1) (by decide) e_X10_readChange_48 ?_
        refine m_isub F e_X10_readChange_49 ?_
        refine Wm.topE (w := nI ((8 + P.n7) - 1)) (pk_sub (a := 8 + P.n7) (b := 1) (by omega)) ?_
        refine r_iald F (len := 16) (j := (8 + P.n7) - 1) e_X10_readChange_50 h9356 (fun _ h => h) (by decide) (nI_clamp (by omega)) (vp_in_nI (by omega) (by decide)) (fun x9422 h9423 f9424 => ?_)
        obtain ⟨n9425, hn9425, rfl⟩ := h9423
        refine m_iconst F (v := 1) (by decide) e_X10_readChange_51 ?_
        refine m_iadd F e_X10_readChange_52 ?_
        refine Wm.topE (w := nI (n9425 + 1)) (nI_add n9425 1) ?_
        refine m_istore_n F (lv' := [(2, .int (nI (n9425 + 1))), (1, .int (nI (8 + P.n7))), (0, .ref c)]) e_X10_readChange_53 (by decide) rfl ?_
        refine m_aload_n F rfl e_X10_readChange_54 ?_
        refine m_iload_n F rfl e_X10_readChange_55 ?_
        refine m_bipush F (v := 99) (by decide) e_X10_readChange_56 ?_
        refine r_callV F e_X10_readChange_58 (q_X10_numeral (x_l X) V c T Z u h P9352 L _ _ (n9425 + 1) 99 h9356.1 (hob) oP9352 (by omega) (by omega)) cb_X10_numeral ml_X10_165 im_X10_numeral se_X10_numeral h9356 rfl rfl (rest := []) rfl (Nat.le_of_ble_eq_true rfl) ⟨Nat.le_of_ble_eq_true rfl, Nat.le_of_ble_eq_true rfl⟩ ⟨Nat.le_of_ble_eq_true rfl, Nat.le_of_ble_eq_true rfl⟩ (fun r σ9426 hp => ?_)
        obtain ⟨P9430, oP9430, rP9430, h9427, c9429⟩ := hp
        have h9428 := HS.trans h9356 h9427 (by decide)
        have xP9430 := oP9430
        unfold OKP at xP9430
        unfold RA at rP9430
        rcases c9429 with ⟨n9431, gn9431, hn9431, rfl⟩ | ⟨h9432, rfl⟩
        · refine m_istore_n F (lv' := [(3, .int (nI n9431)), (2, .int (nI (n9425 + 1))), (1, .int (nI (8 + P.n7))), (0, .ref c)]) e_X10_readChange_61 (by decide) rfl ?_
          refine m_aload_n F rfl e_X10_readChange_62 ?_
          refine m_sipush F (v := 500) (by decide) e_X10_readChange_63 ?_
          refine m_sipush F (v := 2000) (by decide) e_X10_readChange_66 ?_
          refine r_callV F e_X10_readChange_69 (q_X10_numeral (x_l X) V c T Z u h P9430 L _ _ 500 2000 h9428.1 (hob) oP9430 (by omega) (by omega)) cb_X10_numeral ml_X10_165 im_X10_numeral se_X10_numeral h9428 rfl rfl (rest := []) rfl (Nat.le_of_ble_eq_true rfl) ⟨Nat.le_of_ble_eq_true rfl, Nat.le_of_ble_eq_true rfl⟩ ⟨Nat.le_of_ble_eq_true rfl, Nat.le_of_ble_eq_true rfl⟩ (fun r σ9433 hp => ?_)
          obtain ⟨P9437, oP9437, rP9437, h9434, c9436⟩ := hp
          have h9435 := HS.trans h9428 h9434 (by decide)
          have xP9437 := oP9437
          unfold OKP at xP9437
          unfold RA at rP9437
          rcases c9436 with ⟨n9438, gn9438, hn9438, rfl⟩ | ⟨h9439, rfl⟩
          · refine m_istore F (lv' := [(4, .int (nI n9438)), (3, .int (nI n9431)), (2, .int (nI (n9425 + 1))), (1, .int (nI (8 + P.n7))), (0, .ref c)]) e_X10_readChange_72 (by decide) rfl ?_
            refine m_aload_n F rfl e_X10_readChange_74 ?_
            refine r_get F e_X10_readChange_75 fl_X10_141 h9435 rfl (fun v hv f9440 => ?_)
            obtain ⟨x9441, hx9441, rfl⟩ := hv
            replace hx9441 : Z = 0 → x9441 ≠ 0 := hx9441
            refine m_if_eq F e_X10_readChange_78 (fun q78 => ?_) (fun q78 => ?_)
            · subst q78
              refine m_aload_n F rfl e_X10_readChange_82 ?_
              refine r_get F e_X10_readChange_83 fl_X10_40 h9435 rfl (fun v hv f9442 => ?_)
              obtain rfl : v = .ref (c + 11) := hv
              refine m_iload_n F rfl e_X10_readChange_86 ?_
              refine m_iload_n F rfl e_X10_readChange_87 ?_
              refine r_iast F (g' := (⟨T, Z, u, h, P9437, L⟩ : RG)) (len := 16) (j := 8 + P.n7) e_X10_readChange_88 h9435 (fun _ h => h) (fun f h => ⟨f, rfl, h⟩) (by decide) (by decide) (nI_clamp (by omega)) (vp_in_nI (by omega) (by decide)) ⟨n9431, by omega, rfl⟩ (fun _ _ _ h => h) (fun _ _ _ h => h) (fun σ9443 h9444 g9445 f9446 g9447 => ?_)
              refine m_aload_n F rfl e_X10_readChange_89 ?_
              refine r_get F e_X10_readChange_90 fl_X10_43 h9444 rfl (fun v hv f9448 => ?_)
              obtain rfl : v = .ref (c + 12) := hv
              refine m_iload_n F rfl e_X10_readChange_93 ?_
              refine m_iload F rfl e_X10_readChange_94 ?_
              refine r_iast F (g' := (⟨T, Z, u, h, (mkP P9437.n0 P9437.n2 P9437.n5 P9437.n7 P9437.m0 P9437.m5 P9437.w2 (P9437.n7 + 1) P9437.kk P9437.a), L⟩ : RG)) (len := 16) (j := 8 + P.n7) e_X10_readChange_96 h9444 (fun _ h => h) (fun f h => ⟨f, rfl, h⟩) (by decide) (by decide) (nI_clamp (by omega)) (vp_in_nI (by omega) (by decide)) ⟨n9438, by omega, rfl, fun h7 _ => absurd h7 (by omega), fun _ _ => by omega⟩ (fun i hi y hy => by obtain ⟨n9, a9, b9, c9, d9⟩ := hy; exact ⟨n9, a9, b9, c9, fun h7 h8 => d9 h7 (show i < 8 + P9437.w7 by have h6 : i < 8 + (P9437.n7 + 1) := h8; omega)⟩) (CR.chg (by intro k hk i x h; unfold EI at h ⊢; split at h <;> first | exact h | exact absurd rfl hk | trivial) rfl rfl) (fun σ9449 h9450 g9451 f9452 g9453 => ?_)
              obtain ⟨P9454, eP9454⟩ : ∃ P9, P9 = (mkP P9437.n0 P9437.n2 P9437.n5 P9437.n7 P9437.m0 P9437.m5 P9437.w2 (P9437.n7 + 1) P9437.kk P9437.a) := ⟨_, rfl⟩
              rw [← eP9454] at h9450
              have fP9454 : P9454.n0 = P9437.n0 ∧ P9454.n2 = P9437.n2 ∧ P9454.n5 = P9437.n5 ∧ P9454.n7 = P9437.n7 ∧ P9454.m0 = P9437.m0 ∧ P9454.m5 = P9437.m5 ∧ P9454.w2 = P9437.w2 ∧ P9454.w7 = P9437.n7 + 1 ∧ P9454.kk = P9437.kk ∧ P9454.a = P9437.a := by rw [eP9454]; exact ⟨rfl, rfl, rfl, rfl, rfl, rfl, rfl, rfl, rfl, rfl⟩
              refine m_aload_n F rfl e_X10_readChange_97 ?_
              refine m_iconst F (v := 2) (by decide) e_X10_readChange_98 ?_
              refine m_aload_n F rfl e_X10_readChange_99 ?_
              refine m_iconst F (v := 2) (by decide) e_X10_readChange_100 ?_
              have oP9458 : OKP P9454 := by unfold OKP; omega
              refine r_callV F e_X10_readChange_101 (q_X10_reading2 (x_l X) V c T Z u h P9454 L _ _  h9450.1 (hob) oP9458 ) cb_X10_reading ml_X10_157 im_X10_reading se_X10_reading h9450 rfl rfl (rest := [.int 2, .ref c]) rfl (Nat.le_of_ble_eq_true rfl) ⟨Nat.le_of_ble_eq_true rfl, Nat.le_of_ble_eq_true rfl⟩ ⟨Nat.le_of_ble_eq_true rfl, Nat.le_of_ble_eq_true rfl⟩ (fun r σ9455 hp => ?_)
              obtain ⟨h9456, rfl⟩ := hp
              have h9457 := HS.trans h9450 h9456 (by decide)
              refine m_iconst F (v := 1) (by decide) e_X10_readChange_104 ?_
              refine m_iadd F e_X10_readChange_105 ?_
              refine Wm.topE (w := nI (P9454.n7 + 1)) (nI_add P9454.n7 1) ?_
              refine r_callV F e_X10_readChange_106 (q_X10_reads2 (x_l X) V c T Z u h P9454 L _ _ (P9454.n7 + 1) h9457.1 (hob) oP9458 (by omega) (by first | omega | assumption | decide)) cb_X10_reads ml_X10_170 im_X10_reads se_X10_reads h9457 rfl rfl (rest := []) rfl (Nat.le_of_ble_eq_true rfl) ⟨Nat.le_of_ble_eq_true rfl, Nat.le_of_ble_eq_true rfl⟩ ⟨Nat.le_of_ble_eq_true rfl, Nat.le_of_ble_eq_true rfl⟩ (fun r σ9459 hp => ?_)
              obtain ⟨h9460, rfl⟩ := hp
              have h9461 := HS.trans h9457 h9460 (by decide)
              obtain ⟨P9462, eP9462⟩ : ∃ P9, P9 = (mkP P9454.n0 P9454.n2 P9454.n5 (P9454.n7 + 1) P9454.m0 P9454.m5 P9454.w2 P9454.w7 P9454.kk P9454.a) := ⟨_, rfl⟩
              rw [← eP9462] at h9461
              have fP9462 : P9462.n0 = P9454.n0 ∧ P9462.n2 = P9454.n2 ∧ P9462.n5 = P9454.n5 ∧ P9462.n7 = P9454.n7 + 1 ∧ P9462.m0 = P9454.m0 ∧ P9462.m5 = P9454.m5 ∧ P9462.w2 = P9454.w2 ∧ P9462.w7 = P9454.w7 ∧ P9462.kk = P9454.kk ∧ P9462.a = P9454.a := by rw [eP9462]; exact ⟨rfl, rfl, rfl, rfl, rfl, rfl, rfl, rfl, rfl, rfl⟩
              have oP9463 : OKP P9462 := by unfold OKP; omega
              exact m_vret F hQ e_X10_readChange_109 (⟨P9462, oP9463, (by unfold RP; omega), h9461, rfl⟩)
            · have h9464 := HS.z0 h9435 (f9440) q78
              have h9465 : HS V c _ [0, 2, 4, 5, 6, 7, 8, 9, 10, 11, 14, 15, 16, 17, 18, 19, 20, 21, 22, 23] _ _ := ⟨HR.mono (Z' := Z) (by intro e; first | rfl | assumption | omega) h9464.1, h9464.2⟩
              exact m_vret F hQ e_X10_readChange_81 (⟨P9437, oP9437, (by unfold RP; omega), h9465, rfl⟩)
          · have h9466 : HS V c (⟨T, 0, u, h, P9437, L⟩ : RG) [0, 2, 4, 5, 6, 7, 8, 9, 10, 11, 14, 15, 16, 17, 18, 19, 20, 21, 22, 23] _ _ := ⟨h9439, h9435.2⟩
            refine m_istore F (lv' := [(4, .int (nI 500)), (3, .int (nI n9431)), (2, .int (nI (n9425 + 1))), (1, .int (nI (8 + P.n7))), (0, .ref c)]) e_X10_readChange_72 (by decide) rfl ?_
            refine m_aload_n F rfl e_X10_readChange_74 ?_
            refine r_get F e_X10_readChange_75 fl_X10_141 h9466 rfl (fun v hv f9467 => ?_)
            obtain ⟨x9468, hx9468, rfl⟩ := hv
            replace hx9468 : 0 = 0 → x9468 ≠ 0 := hx9468
            refine m_if_eq F e_X10_readChange_78 (fun q78 => ?_) (fun q78 => ?_)
            · first | exact absurd q78 (hx9468 rfl) | contradiction
            · have h9469 := HS.z0 h9466 (f9467) q78
              have h9470 : HS V c _ [0, 2, 4, 5, 6, 7, 8, 9, 10, 11, 14, 15, 16, 17, 18, 19, 20, 21, 22, 23] _ _ := ⟨HR.mono (Z' := Z) (by intro e; first | rfl | assumption | omega) h9469.1, h9469.2⟩
              exact m_vret F hQ e_X10_readChange_81 (⟨P9437, oP9437, (by unfold RP; omega), h9470, rfl⟩)
        · have h9471 : HS V c (⟨T, 0, u, h, P9430, L⟩ : RG) [0, 2, 4, 5, 6, 7, 8, 9, 10, 11, 14, 15, 16, 17, 18, 19, 20, 21, 22, 23] _ _ := ⟨h9432, h9428.2⟩
          refine m_istore_n F (lv' := [(3, .int (nI (n9425 + 1))), (2, .int (nI (n9425 + 1))), (1, .int (nI (8 + P.n7))), (0, .ref c)]) e_X10_readChange_61 (by decide) rfl ?_
          refine m_aload_n F rfl e_X10_readChange_62 ?_
          refine m_sipush F (v := 500) (by decide) e_X10_readChange_63 ?_
          refine m_sipush F (v := 2000) (by decide) e_X10_readChange_66 ?_
          refine r_callV F e_X10_readChange_69 (q_X10_numeral (x_l X) V c T 0 u h P9430 L _ _ 500 2000 h9471.1 (hob) oP9430 (by omega) (by omega)) cb_X10_numeral ml_X10_165 im_X10_numeral se_X10_numeral h9471 rfl rfl (rest := []) rfl (Nat.le_of_ble_eq_true rfl) ⟨Nat.le_of_ble_eq_true rfl, Nat.le_of_ble_eq_true rfl⟩ ⟨Nat.le_of_ble_eq_true rfl, Nat.le_of_ble_eq_true rfl⟩ (fun r σ9472 hp => ?_)
          obtain ⟨P9476, oP9476, rP9476, h9473, c9475⟩ := hp
          have h9474 := HS.trans h9471 h9473 (by decide)
          have xP9476 := oP9476
          unfold OKP at xP9476
          unfold RA at rP9476
          rcases c9475 with ⟨n9477, gn9477, hn9477, rfl⟩ | ⟨h9478, rfl⟩
          · refine m_istore F (lv' := [(4, .int (nI n9477)), (3, .int (nI (n9425 + 1))), (2, .int (nI (n9425 + 1))), (1, .int (nI (8 + P.n7))), (0, .ref c)]) e_X10_readChange_72 (by decide) rfl ?_
            refine m_aload_n F rfl e_X10_readChange_74 ?_
            refine r_get F e_X10_readChange_75 fl_X10_141 h9474 rfl (fun v hv f9479 => ?_)
            obtain ⟨x9480, hx9480, rfl⟩ := hv
            replace hx9480 : 0 = 0 → x9480 ≠ 0 := hx9480
            refine m_if_eq F e_X10_readChange_78 (fun q78 => ?_) (fun q78 => ?_)
            · first | exact absurd q78 (hx9480 rfl) | contradiction
            · have h9481 := HS.z0 h9474 (f9479) q78
              have h9482 : HS V c _ [0, 2, 4, 5, 6, 7, 8, 9, 10, 11, 14, 15, 16, 17, 18, 19, 20, 21, 22, 23] _ _ := ⟨HR.mono (Z' := Z) (by intro e; first | rfl | assumption | omega) h9481.1, h9481.2⟩
              exact m_vret F hQ e_X10_readChange_81 (⟨P9476, oP9476, (by unfold RP; omega), h9482, rfl⟩)
          · have h9483 : HS V c (⟨T, 0, u, h, P9476, L⟩ : RG) [0, 2, 4, 5, 6, 7, 8, 9, 10, 11, 14, 15, 16, 17, 18, 19, 20, 21, 22, 23] _ _ := ⟨h9478, h9474.2⟩
            refine m_istore F (lv' := [(4, .int (nI 500)), (3, .int (nI (n9425 + 1))), (2, .int (nI (n9425 + 1))), (1, .int (nI (8 + P.n7))), (0, .ref c)]) e_X10_readChange_72 (by decide) rfl ?_
            refine m_aload_n F rfl e_X10_readChange_74 ?_
            refine r_get F e_X10_readChange_75 fl_X10_141 h9483 rfl (fun v hv f9484 => ?_)
            obtain ⟨x9485, hx9485, rfl⟩ := hv
            replace hx9485 : 0 = 0 → x9485 ≠ 0 := hx9485
            refine m_if_eq F e_X10_readChange_78 (fun q78 => ?_) (fun q78 => ?_)
            · first | exact absurd q78 (hx9485 rfl) | contradiction
            · have h9486 := HS.z0 h9483 (f9484) q78
              have h9487 : HS V c _ [0, 2, 4, 5, 6, 7, 8, 9, 10, 11, 14, 15, 16, 17, 18, 19, 20, 21, 22, 23] _ _ := ⟨HR.mono (Z' := Z) (by intro e; first | rfl | assumption | omega) h9486.1, h9486.2⟩
              exact m_vret F hQ e_X10_readChange_81 (⟨P9476, oP9476, (by unfold RP; omega), h9487, rfl⟩)
      · have h9488 := HS.z0 h9356 (f9419) q36
        refine m_iconst F (v := 0) (by decide) e_X10_readChange_39 ?_
        refine m_goto F e_X10_readChange_40 ?_
        refine m_istore_n F (lv' := [(2, .int 0), (1, .int (nI (8 + P.n7))), (0, .ref c)]) e_X10_readChange_53 (by decide) rfl ?_
        refine m_aload_n F rfl e_X10_readChange_54 ?_
        refine m_iload_n F rfl e_X10_readChange_55 ?_
        refine m_bipush F (v := 99) (by decide) e_X10_readChange_56 ?_
        refine r_callV F e_X10_readChange_58 (q_X10_numeral (x_l X) V c T 0 u h P9352 L _ _ 0 99 h9488.1 (hob) oP9352 (by omega) (by omega)) cb_X10_numeral ml_X10_165 im_X10_numeral se_X10_numeral h9488 rfl rfl (rest := []) rfl (Nat.le_of_ble_eq_true rfl) ⟨Nat.le_of_ble_eq_true rfl, Nat.le_of_ble_eq_true rfl⟩ ⟨Nat.le_of_ble_eq_true rfl, Nat.le_of_ble_eq_true rfl⟩ (fun r σ9489 hp => ?_)
        obtain ⟨P9493, oP9493, rP9493, h9490, c9492⟩ := hp
        have h9491 := HS.trans h9488 h9490 (by decide)
        have xP9493 := oP9493
        unfold OKP at xP9493
        unfold RA at rP9493
        rcases c9492 with ⟨n9494, gn9494, hn9494, rfl⟩ | ⟨h9495, rfl⟩
        · refine m_istore_n F (lv' := [(3, .int (nI n9494)), (2, .int 0), (1, .int (nI (8 + P.n7))), (0, .ref c)]) e_X10_readChange_61 (by decide) rfl ?_
          refine m_aload_n F rfl e_X10_readChange_62 ?_
          refine m_sipush F (v := 500) (by decide) e_X10_readChange_63 ?_
          refine m_sipush F (v := 2000) (by decide) e_X10_readChange_66 ?_
          refine r_callV F e_X10_readChange_69 (q_X10_numeral (x_l X) V c T 0 u h P9493 L _ _ 500 2000 h9491.1 (hob) oP9493 (by omega) (by omega)) cb_X10_numeral ml_X10_165 im_X10_numeral se_X10_numeral h9491 rfl rfl (rest := []) rfl (Nat.le_of_ble_eq_true rfl) ⟨Nat.le_of_ble_eq_true rfl, Nat.le_of_ble_eq_true rfl⟩ ⟨Nat.le_of_ble_eq_true rfl, Nat.le_of_ble_eq_true rfl⟩ (fun r σ9496 hp => ?_)
          obtain ⟨P9500, oP9500, rP9500, h9497, c9499⟩ := hp
          have h9498 := HS.trans h9491 h9497 (by decide)
          have xP9500 := oP9500
          unfold OKP at xP9500
          unfold RA at rP9500
          rcases c9499 with ⟨n9501, gn9501, hn9501, rfl⟩ | ⟨h9502, rfl⟩
          · refine m_istore F (lv' := [(4, .int (nI n9501)), (3, .int (nI n9494)), (2, .int 0), (1, .int (nI (8 + P.n7))), (0, .ref c)]) e_X10_readChange_72 (by decide) rfl ?_
            refine m_aload_n F rfl e_X10_readChange_74 ?_
            refine r_get F e_X10_readChange_75 fl_X10_141 h9498 rfl (fun v hv f9503 => ?_)
            obtain ⟨x9504, hx9504, rfl⟩ := hv
            replace hx9504 : 0 = 0 → x9504 ≠ 0 := hx9504
            refine m_if_eq F e_X10_readChange_78 (fun q78 => ?_) (fun q78 => ?_)
            · first | exact absurd q78 (hx9504 rfl) | contradiction
            · have h9505 := HS.z0 h9498 (f9503) q78
              have h9506 : HS V c _ [0, 2, 4, 5, 6, 7, 8, 9, 10, 11, 14, 15, 16, 17, 18, 19, 20, 21, 22, 23] _ _ := ⟨HR.mono (Z' := Z) (by intro e; first | rfl | assumption | omega) h9505.1, h9505.2⟩
              exact m_vret F hQ e_X10_readChange_81 (⟨P9500, oP9500, (by unfold RP; omega), h9506, rfl⟩)
          · have h9507 : HS V c (⟨T, 0, u, h, P9500, L⟩ : RG) [0, 2, 4, 5, 6, 7, 8, 9, 10, 11, 14, 15, 16, 17, 18, 19, 20, 21, 22, 23] _ _ := ⟨h9502, h9498.2⟩
            refine m_istore F (lv' := [(4, .int (nI 500)), (3, .int (nI n9494)), (2, .int 0), (1, .int (nI (8 + P.n7))), (0, .ref c)]) e_X10_readChange_72 (by decide) rfl ?_
            refine m_aload_n F rfl e_X10_readChange_74 ?_
            refine r_get F e_X10_readChange_75 fl_X10_141 h9507 rfl (fun v hv f9508 => ?_)
            obtain ⟨x9509, hx9509, rfl⟩ := hv
            replace hx9509 : 0 = 0 → x9509 ≠ 0 := hx9509
            refine m_if_eq F e_X10_readChange_78 (fun q78 => ?_) (fun q78 => ?_)
            · first | exact absurd q78 (hx9509 rfl) | contradiction
            · have h9510 := HS.z0 h9507 (f9508) q78
              have h9511 : HS V c _ [0, 2, 4, 5, 6, 7, 8, 9, 10, 11, 14, 15, 16, 17, 18, 19, 20, 21, 22, 23] _ _ := ⟨HR.mono (Z' := Z) (by intro e; first | rfl | assumption | omega) h9510.1, h9510.2⟩
              exact m_vret F hQ e_X10_readChange_81 (⟨P9500, oP9500, (by unfold RP; omega), h9511, rfl⟩)
        · have h9512 : HS V c (⟨T, 0, u, h, P9493, L⟩ : RG) [0, 2, 4, 5, 6, 7, 8, 9, 10, 11, 14, 15, 16, 17, 18, 19, 20, 21, 22, 23] _ _ := ⟨h9495, h9491.2⟩
          refine m_istore_n F (lv' := [(3, .int (nI 0)), (2, .int 0), (1, .int (nI (8 + P.n7))), (0, .ref c)]) e_X10_readChange_61 (by decide) rfl ?_
          refine m_aload_n F rfl e_X10_readChange_62 ?_
          refine m_sipush F (v := 500) (by decide) e_X10_readChange_63 ?_
          refine m_sipush F (v := 2000) (by decide) e_X10_readChange_66 ?_
          refine r_callV F e_X10_readChange_69 (q_X10_numeral (x_l X) V c T 0 u h P9493 L _ _ 500 2000 h9512.1 (hob) oP9493 (by omega) (by omega)) cb_X10_numeral ml_X10_165 im_X10_numeral se_X10_numeral h9512 rfl rfl (rest := []) rfl (Nat.le_of_ble_eq_true rfl) ⟨Nat.le_of_ble_eq_true rfl, Nat.le_of_ble_eq_true rfl⟩ ⟨Nat.le_of_ble_eq_true rfl, Nat.le_of_ble_eq_true rfl⟩ (fun r σ9513 hp => ?_)
          obtain ⟨P9517, oP9517, rP9517, h9514, c9516⟩ := hp
          have h9515 := HS.trans h9512 h9514 (by decide)
          have xP9517 := oP9517
          unfold OKP at xP9517
          unfold RA at rP9517
          rcases c9516 with ⟨n9518, gn9518, hn9518, rfl⟩ | ⟨h9519, rfl⟩
          · refine m_istore F (lv' := [(4, .int (nI n9518)), (3, .int (nI 0)), (2, .int 0), (1, .int (nI (8 + P.n7))), (0, .ref c)]) e_X10_readChange_72 (by decide) rfl ?_
            refine m_aload_n F rfl e_X10_readChange_74 ?_
            refine r_get F e_X10_readChange_75 fl_X10_141 h9515 rfl (fun v hv f9520 => ?_)
            obtain ⟨x9521, hx9521, rfl⟩ := hv
            replace hx9521 : 0 = 0 → x9521 ≠ 0 := hx9521
            refine m_if_eq F e_X10_readChange_78 (fun q78 => ?_) (fun q78 => ?_)
            · first | exact absurd q78 (hx9521 rfl) | contradiction
            · have h9522 := HS.z0 h9515 (f9520) q78
              have h9523 : HS V c _ [0, 2, 4, 5, 6, 7, 8, 9, 10, 11, 14, 15, 16, 17, 18, 19, 20, 21, 22, 23] _ _ := ⟨HR.mono (Z' := Z) (by intro e; first | rfl | assumption | omega) h9522.1, h9522.2⟩
              exact m_vret F hQ e_X10_readChange_81 (⟨P9517, oP9517, (by unfold RP; omega), h9523, rfl⟩)
          · have h9524 : HS V c (⟨T, 0, u, h, P9517, L⟩ : RG) [0, 2, 4, 5, 6, 7, 8, 9, 10, 11, 14, 15, 16, 17, 18, 19, 20, 21, 22, 23] _ _ := ⟨h9519, h9515.2⟩
            refine m_istore F (lv' := [(4, .int (nI 500)), (3, .int (nI 0)), (2, .int 0), (1, .int (nI (8 + P.n7))), (0, .ref c)]) e_X10_readChange_72 (by decide) rfl ?_
            refine m_aload_n F rfl e_X10_readChange_74 ?_
            refine r_get F e_X10_readChange_75 fl_X10_141 h9524 rfl (fun v hv f9525 => ?_)
            obtain ⟨x9526, hx9526, rfl⟩ := hv
            replace hx9526 : 0 = 0 → x9526 ≠ 0 := hx9526
            refine m_if_eq F e_X10_readChange_78 (fun q78 => ?_) (fun q78 => ?_)
            · first | exact absurd q78 (hx9526 rfl) | contradiction
            · have h9527 := HS.z0 h9524 (f9525) q78
              have h9528 : HS V c _ [0, 2, 4, 5, 6, 7, 8, 9, 10, 11, 14, 15, 16, 17, 18, 19, 20, 21, 22, 23] _ _ := ⟨HR.mono (Z' := Z) (by intro e; first | rfl | assumption | omega) h9527.1, h9527.2⟩
              exact m_vret F hQ e_X10_readChange_81 (⟨P9517, oP9517, (by unfold RP; omega), h9528, rfl⟩)
  · have c12 : (8 + P.n7) = 16 := (nI_eq (a := (8 + P.n7)) (b := 16) (by omega) (by omega)).mp q12
    refine m_aload_n F rfl e_X10_readChange_15 ?_
    refine m_iconst F (v := 2) (by decide) e_X10_readChange_16 ?_
    refine r_callV F e_X10_readChange_17 (q_X10_wrong (x_l X) V c T Z u h P L _ _ 2 h9348.1 (hob) hP (by first | omega | assumption | decide)) cb_X10_wrong ml_X10_150 im_X10_wrong se_X10_wrong h9348 rfl rfl (rest := []) rfl (Nat.le_of_ble_eq_true rfl) ⟨Nat.le_of_ble_eq_true rfl, Nat.le_of_ble_eq_true rfl⟩ ⟨Nat.le_of_ble_eq_true rfl, Nat.le_of_ble_eq_true rfl⟩ (fun r σ9529 hp => ?_)
    obtain ⟨h9530, rfl⟩ := hp
    have h9531 := HS.trans h9348 h9530 (by decide)
    refine m_aload_n F rfl e_X10_readChange_20 ?_
    refine r_callV F e_X10_readChange_21 (q_X10_goOn (x_l X) V c T 0 u h P L _ _  h9531.1 (hob) hP ) cb_X10_goOn ml_X10_154 im_X10_goOn se_X10_goOn h9531 rfl rfl (rest := []) rfl (Nat.le_of_ble_eq_true rfl) ⟨Nat.le_of_ble_eq_true rfl, Nat.le_of_ble_eq_true rfl⟩ ⟨Nat.le_of_ble_eq_true rfl, Nat.le_of_ble_eq_true rfl⟩ (fun r σ9532 hp => ?_)
    obtain ⟨P9535, oP9535, rP9535, pr9536, h9533, rfl⟩ := hp
    have h9534 := HS.trans h9531 h9533 (by decide)
    have xP9535 := oP9535
    unfold OKP at xP9535
    unfold RA at rP9535
    refine m_aload_n F rfl e_X10_readChange_24 ?_
    refine m_iconst F (v := 2) (by decide) e_X10_readChange_25 ?_
    refine r_callV F e_X10_readChange_26 (q_X10_reading2 (x_l X) V c T 0 u h P9535 L _ _  h9534.1 (hob) oP9535 ) cb_X10_reading ml_X10_157 im_X10_reading se_X10_reading h9534 rfl rfl (rest := []) rfl (Nat.le_of_ble_eq_true rfl) ⟨Nat.le_of_ble_eq_true rfl, Nat.le_of_ble_eq_true rfl⟩ ⟨Nat.le_of_ble_eq_true rfl, Nat.le_of_ble_eq_true rfl⟩ (fun r σ9537 hp => ?_)
    obtain ⟨h9538, rfl⟩ := hp
    have h9539 := HS.trans h9534 h9538 (by decide)
    refine m_if_eq F e_X10_readChange_29 (fun q29 => ?_) (fun q29 => ?_)
    · have c29 : P9535.n7 = 0 := (nI_eq (a := P9535.n7) (b := 0) (by omega) (by omega)).mp q29
      refine m_iconst F (v := 0) (by decide) e_X10_readChange_39 ?_
      refine m_goto F e_X10_readChange_40 ?_
      refine m_istore_n F (lv' := [(2, .int 0), (1, .int (nI (8 + P.n7))), (0, .ref c)]) e_X10_readChange_53 (by decide) rfl ?_
      refine m_aload_n F rfl e_X10_readChange_54 ?_
      refine m_iload_n F rfl e_X10_readChange_55 ?_
      refine m_bipush F (v := 99) (by decide) e_X10_readChange_56 ?_
      refine r_callV F e_X10_readChange_58 (q_X10_numeral (x_l X) V c T 0 u h P9535 L _ _ 0 99 h9539.1 (hob) oP9535 (by omega) (by omega)) cb_X10_numeral ml_X10_165 im_X10_numeral se_X10_numeral h9539 rfl rfl (rest := []) rfl (Nat.le_of_ble_eq_true rfl) ⟨Nat.le_of_ble_eq_true rfl, Nat.le_of_ble_eq_true rfl⟩ ⟨Nat.le_of_ble_eq_true rfl, Nat.le_of_ble_eq_true rfl⟩ (fun r σ9540 hp => ?_)
      obtain ⟨P9544, oP9544, rP9544, h9541, c9543⟩ := hp
      have h9542 := HS.trans h9539 h9541 (by decide)
      have xP9544 := oP9544
      unfold OKP at xP9544
      unfold RA at rP9544
      rcases c9543 with ⟨n9545, gn9545, hn9545, rfl⟩ | ⟨h9546, rfl⟩
      · refine m_istore_n F (lv' := [(3, .int (nI n9545)), (2, .int 0), (1, .int (nI (8 + P.n7))), (0, .ref c)]) e_X10_readChange_61 (by decide) rfl ?_
        refine m_aload_n F rfl e_X10_readChange_62 ?_
        refine m_sipush F (v := 500) (by decide) e_X10_readChange_63 ?_
        refine m_sipush F (v := 2000) (by decide) e_X10_readChange_66 ?_
        refine r_callV F e_X10_readChange_69 (q_X10_numeral (x_l X) V c T 0 u h P9544 L _ _ 500 2000 h9542.1 (hob) oP9544 (by omega) (by omega)) cb_X10_numeral ml_X10_165 im_X10_numeral se_X10_numeral h9542 rfl rfl (rest := []) rfl (Nat.le_of_ble_eq_true rfl) ⟨Nat.le_of_ble_eq_true rfl, Nat.le_of_ble_eq_true rfl⟩ ⟨Nat.le_of_ble_eq_true rfl, Nat.le_of_ble_eq_true rfl⟩ (fun r σ9547 hp => ?_)
        obtain ⟨P9551, oP9551, rP9551, h9548, c9550⟩ := hp
        have h9549 := HS.trans h9542 h9548 (by decide)
        have xP9551 := oP9551
        unfold OKP at xP9551
        unfold RA at rP9551
        rcases c9550 with ⟨n9552, gn9552, hn9552, rfl⟩ | ⟨h9553, rfl⟩
        · refine m_istore F (lv' := [(4, .int (nI n9552)), (3, .int (nI n9545)), (2, .int 0), (1, .int (nI (8 + P.n7))), (0, .ref c)]) e_X10_readChange_72 (by decide) rfl ?_
          refine m_aload_n F rfl e_X10_readChange_74 ?_
          refine r_get F e_X10_readChange_75 fl_X10_141 h9549 rfl (fun v hv f9554 => ?_)
          obtain ⟨x9555, hx9555, rfl⟩ := hv
          replace hx9555 : 0 = 0 → x9555 ≠ 0 := hx9555
          refine m_if_eq F e_X10_readChange_78 (fun q78 => ?_) (fun q78 => ?_)
          · first | exact absurd q78 (hx9555 rfl) | contradiction
          · have h9556 := HS.z0 h9549 (f9554) q78
            have h9557 : HS V c _ [0, 2, 4, 5, 6, 7, 8, 9, 10, 11, 14, 15, 16, 17, 18, 19, 20, 21, 22, 23] _ _ := ⟨HR.mono (Z' := Z) (by intro e; first | rfl | assumption | omega) h9556.1, h9556.2⟩
            exact m_vret F hQ e_X10_readChange_81 (⟨P9551, oP9551, (by unfold RP; omega), h9557, rfl⟩)
        · have h9558 : HS V c (⟨T, 0, u, h, P9551, L⟩ : RG) [0, 2, 4, 5, 6, 7, 8, 9, 10, 11, 14, 15, 16, 17, 18, 19, 20, 21, 22, 23] _ _ := ⟨h9553, h9549.2⟩
          refine m_istore F (lv' := [(4, .int (nI 500)), (3, .int (nI n9545)), (2, .int 0), (1, .int (nI (8 + P.n7))), (0, .ref c)]) e_X10_readChange_72 (by decide) rfl ?_
          refine m_aload_n F rfl e_X10_readChange_74 ?_
          refine r_get F e_X10_readChange_75 fl_X10_141 h9558 rfl (fun v hv f9559 => ?_)
          obtain ⟨x9560, hx9560, rfl⟩ := hv
          replace hx9560 : 0 = 0 → x9560 ≠ 0 := hx9560
          refine m_if_eq F e_X10_readChange_78 (fun q78 => ?_) (fun q78 => ?_)
          · first | exact absurd q78 (hx9560 rfl) | contradiction
          · have h9561 := HS.z0 h9558 (f9559) q78
            have h9562 : HS V c _ [0, 2, 4, 5, 6, 7, 8, 9, 10, 11, 14, 15, 16, 17, 18, 19, 20, 21, 22, 23] _ _ := ⟨HR.mono (Z' := Z) (by intro e; first | rfl | assumption | omega) h9561.1, h9561.2⟩
            exact m_vret F hQ e_X10_readChange_81 (⟨P9551, oP9551, (by unfold RP; omega), h9562, rfl⟩)
      · have h9563 : HS V c (⟨T, 0, u, h, P9544, L⟩ : RG) [0, 2, 4, 5, 6, 7, 8, 9, 10, 11, 14, 15, 16, 17, 18, 19, 20, 21, 22, 23] _ _ := ⟨h9546, h9542.2⟩
        refine m_istore_n F (lv' := [(3, .int (nI 0)), (2, .int 0), (1, .int (nI (8 + P.n7))), (0, .ref c)]) e_X10_readChange_61 (by decide) rfl ?_
        refine m_aload_n F rfl e_X10_readChange_62 ?_
        refine m_sipush F (v := 500) (by decide) e_X10_readChange_63 ?_
        refine m_sipush F (v := 2000) (by decide) e_X10_readChange_66 ?_
        refine r_callV F e_X10_readChange_69 (q_X10_numeral (x_l X) V c T 0 u h P9544 L _ _ 500 2000 h9563.1 (hob) oP9544 (by omega) (by omega)) cb_X10_numeral ml_X10_165 im_X10_numeral se_X10_numeral h9563 rfl rfl (rest := []) rfl (Nat.le_of_ble_eq_true rfl) ⟨Nat.le_of_ble_eq_true rfl, Nat.le_of_ble_eq_true rfl⟩ ⟨Nat.le_of_ble_eq_true rfl, Nat.le_of_ble_eq_true rfl⟩ (fun r σ9564 hp => ?_)
        obtain ⟨P9568, oP9568, rP9568, h9565, c9567⟩ := hp
        have h9566 := HS.trans h9563 h9565 (by decide)
        have xP9568 := oP9568
        unfold OKP at xP9568
        unfold RA at rP9568
        rcases c9567 with ⟨n9569, gn9569, hn9569, rfl⟩ | ⟨h9570, rfl⟩
        · refine m_istore F (lv' := [(4, .int (nI n9569)), (3, .int (nI 0)), (2, .int 0), (1, .int (nI (8 + P.n7))), (0, .ref c)]) e_X10_readChange_72 (by decide) rfl ?_
          refine m_aload_n F rfl e_X10_readChange_74 ?_
          refine r_get F e_X10_readChange_75 fl_X10_141 h9566 rfl (fun v hv f9571 => ?_)
          obtain ⟨x9572, hx9572, rfl⟩ := hv
          replace hx9572 : 0 = 0 → x9572 ≠ 0 := hx9572
          refine m_if_eq F e_X10_readChange_78 (fun q78 => ?_) (fun q78 => ?_)
          · first | exact absurd q78 (hx9572 rfl) | contradiction
          · have h9573 := HS.z0 h9566 (f9571) q78
            have h9574 : HS V c _ [0, 2, 4, 5, 6, 7, 8, 9, 10, 11, 14, 15, 16, 17, 18, 19, 20, 21, 22, 23] _ _ := ⟨HR.mono (Z' := Z) (by intro e; first | rfl | assumption | omega) h9573.1, h9573.2⟩
            exact m_vret F hQ e_X10_readChange_81 (⟨P9568, oP9568, (by unfold RP; omega), h9574, rfl⟩)
        · have h9575 : HS V c (⟨T, 0, u, h, P9568, L⟩ : RG) [0, 2, 4, 5, 6, 7, 8, 9, 10, 11, 14, 15, 16, 17, 18, 19, 20, 21, 22, 23] _ _ := ⟨h9570, h9566.2⟩
          refine m_istore F (lv' := [(4, .int (nI 500)), (3, .int (nI 0)), (2, .int 0), (1, .int (nI (8 + P.n7))), (0, .ref c)]) e_X10_readChange_72 (by decide) rfl ?_
          refine m_aload_n F rfl e_X10_readChange_74 ?_
          refine r_get F e_X10_readChange_75 fl_X10_141 h9575 rfl (fun v hv f9576 => ?_)
          obtain ⟨x9577, hx9577, rfl⟩ := hv
          replace hx9577 : 0 = 0 → x9577 ≠ 0 := hx9577
          refine m_if_eq F e_X10_readChange_78 (fun q78 => ?_) (fun q78 => ?_)
          · first | exact absurd q78 (hx9577 rfl) | contradiction
          · have h9578 := HS.z0 h9575 (f9576) q78
            have h9579 : HS V c _ [0, 2, 4, 5, 6, 7, 8, 9, 10, 11, 14, 15, 16, 17, 18, 19, 20, 21, 22, 23] _ _ := ⟨HR.mono (Z' := Z) (by intro e; first | rfl | assumption | omega) h9578.1, h9578.2⟩
            exact m_vret F hQ e_X10_readChange_81 (⟨P9568, oP9568, (by unfold RP; omega), h9579, rfl⟩)
    · have c29 : P9535.n7 ≠ 0 := by have hh := mt (nI_eq (a := P9535.n7) (b := 0) (by omega) (by omega)).mpr q29; omega
      refine m_aload_n F rfl e_X10_readChange_32 ?_
      refine r_get F e_X10_readChange_33 fl_X10_141 h9539 rfl (fun v hv f9580 => ?_)
      obtain ⟨x9581, hx9581, rfl⟩ := hv
      replace hx9581 : 0 = 0 → x9581 ≠ 0 := hx9581
      refine m_if_eq F e_X10_readChange_36 (fun q36 => ?_) (fun q36 => ?_)
      · first | exact absurd q36 (hx9581 rfl) | contradiction
      · have h9582 := HS.z0 h9539 (f9580) q36
        refine m_iconst F (v := 0) (by decide) e_X10_readChange_39 ?_
        refine m_goto F e_X10_readChange_40 ?_
        refine m_istore_n F (lv' := [(2, .int 0), (1, .int (nI (8 + P.n7))), (0, .ref c)]) e_X10_readChange_53 (by decide) rfl ?_
        refine m_aload_n F rfl e_X10_readChange_54 ?_
        refine m_iload_n F rfl e_X10_readChange_55 ?_
        refine m_bipush F (v := 99) (by decide) e_X10_readChange_56 ?_
        refine r_callV F e_X10_readChange_58 (q_X10_numeral (x_l X) V c T 0 u h P9535 L _ _ 0 99 h9582.1 (hob) oP9535 (by omega) (by omega)) cb_X10_numeral ml_X10_165 im_X10_numeral se_X10_numeral h9582 rfl rfl (rest := []) rfl (Nat.le_of_ble_eq_true rfl) ⟨Nat.le_of_ble_eq_true rfl, Nat.le_of_ble_eq_true rfl⟩ ⟨Nat.le_of_ble_eq_true rfl, Nat.le_of_ble_eq_true rfl⟩ (fun r σ9583 hp => ?_)
        obtain ⟨P9587, oP9587, rP9587, h9584, c9586⟩ := hp
        have h9585 := HS.trans h9582 h9584 (by decide)
        have xP9587 := oP9587
        unfold OKP at xP9587
        unfold RA at rP9587
        rcases c9586 with ⟨n9588, gn9588, hn9588, rfl⟩ | ⟨h9589, rfl⟩
        · refine m_istore_n F (lv' := [(3, .int (nI n9588)), (2, .int 0), (1, .int (nI (8 + P.n7))), (0, .ref c)]) e_X10_readChange_61 (by decide) rfl ?_
          refine m_aload_n F rfl e_X10_readChange_62 ?_
          refine m_sipush F (v := 500) (by decide) e_X10_readChange_63 ?_
          refine m_sipush F (v := 2000) (by decide) e_X10_readChange_66 ?_
          refine r_callV F e_X10_readChange_69 (q_X10_numeral (x_l X) V c T 0 u h P9587 L _ _ 500 2000 h9585.1 (hob) oP9587 (by omega) (by omega)) cb_X10_numeral ml_X10_165 im_X10_numeral se_X10_numeral h9585 rfl rfl (rest := []) rfl (Nat.le_of_ble_eq_true rfl) ⟨Nat.le_of_ble_eq_true rfl, Nat.le_of_ble_eq_true rfl⟩ ⟨Nat.le_of_ble_eq_true rfl, Nat.le_of_ble_eq_true rfl⟩ (fun r σ9590 hp => ?_)
          obtain ⟨P9594, oP9594, rP9594, h9591, c9593⟩ := hp
          have h9592 := HS.trans h9585 h9591 (by decide)
          have xP9594 := oP9594
          unfold OKP at xP9594
          unfold RA at rP9594
          rcases c9593 with ⟨n9595, gn9595, hn9595, rfl⟩ | ⟨h9596, rfl⟩
          · refine m_istore F (lv' := [(4, .int (nI n9595)), (3, .int (nI n9588)), (2, .int 0), (1, .int (nI (8 + P.n7))), (0, .ref c)]) e_X10_readChange_72 (by decide) rfl ?_
            refine m_aload_n F rfl e_X10_readChange_74 ?_
            refine r_get F e_X10_readChange_75 fl_X10_141 h9592 rfl (fun v hv f9597 => ?_)
            obtain ⟨x9598, hx9598, rfl⟩ := hv
            replace hx9598 : 0 = 0 → x9598 ≠ 0 := hx9598
            refine m_if_eq F e_X10_readChange_78 (fun q78 => ?_) (fun q78 => ?_)
            · first | exact absurd q78 (hx9598 rfl) | contradiction
            · have h9599 := HS.z0 h9592 (f9597) q78
              have h9600 : HS V c _ [0, 2, 4, 5, 6, 7, 8, 9, 10, 11, 14, 15, 16, 17, 18, 19, 20, 21, 22, 23] _ _ := ⟨HR.mono (Z' := Z) (by intro e; first | rfl | assumption | omega) h9599.1, h9599.2⟩
              exact m_vret F hQ e_X10_readChange_81 (⟨P9594, oP9594, (by unfold RP; omega), h9600, rfl⟩)
          · have h9601 : HS V c (⟨T, 0, u, h, P9594, L⟩ : RG) [0, 2, 4, 5, 6, 7, 8, 9, 10, 11, 14, 15, 16, 17, 18, 19, 20, 21, 22, 23] _ _ := ⟨h9596, h9592.2⟩
            refine m_istore F (lv' := [(4, .int (nI 500)), (3, .int (nI n9588)), (2, .int 0), (1, .int (nI (8 + P.n7))), (0, .ref c)]) e_X10_readChange_72 (by decide) rfl ?_
            refine m_aload_n F rfl e_X10_readChange_74 ?_
            refine r_get F e_X10_readChange_75 fl_X10_141 h9601 rfl (fun v hv f9602 => ?_)
            obtain ⟨x9603, hx9603, rfl⟩ := hv
            replace hx9603 : 0 = 0 → x9603 ≠ 0 := hx9603
            refine m_if_eq F e_X10_readChange_78 (fun q78 => ?_) (fun q78 => ?_)
            · first | exact absurd q78 (hx9603 rfl) | contradiction
            · have h9604 := HS.z0 h9601 (f9602) q78
              have h9605 : HS V c _ [0, 2, 4, 5, 6, 7, 8, 9, 10, 11, 14, 15, 16, 17, 18, 19, 20, 21, 22, 23] _ _ := ⟨HR.mono (Z' := Z) (by intro e; first | rfl | assumption | omega) h9604.1, h9604.2⟩
              exact m_vret F hQ e_X10_readChange_81 (⟨P9594, oP9594, (by unfold RP; omega), h9605, rfl⟩)
        · have h9606 : HS V c (⟨T, 0, u, h, P9587, L⟩ : RG) [0, 2, 4, 5, 6, 7, 8, 9, 10, 11, 14, 15, 16, 17, 18, 19, 20, 21, 22, 23] _ _ := ⟨h9589, h9585.2⟩
          refine m_istore_n F (lv' := [(3, .int (nI 0)), (2, .int 0), (1, .int (nI (8 + P.n7))), (0, .ref c)]) e_X10_readChange_61 (by decide) rfl ?_
          refine m_aload_n F rfl e_X10_readChange_62 ?_
          refine m_sipush F (v := 500) (by decide) e_X10_readChange_63 ?_
          refine m_sipush F (v := 2000) (by decide) e_X10_readChange_66 ?_
          refine r_callV F e_X10_readChange_69 (q_X10_numeral (x_l X) V c T 0 u h P9587 L _ _ 500 2000 h9606.1 (hob) oP9587 (by omega) (by omega)) cb_X10_numeral ml_X10_165 im_X10_numeral se_X10_numeral h9606 rfl rfl (rest := []) rfl (Nat.le_of_ble_eq_true rfl) ⟨Nat.le_of_ble_eq_true rfl, Nat.le_of_ble_eq_true rfl⟩ ⟨Nat.le_of_ble_eq_true rfl, Nat.le_of_ble_eq_true rfl⟩ (fun r σ9607 hp => ?_)
          obtain ⟨P9611, oP9611, rP9611, h9608, c9610⟩ := hp
          have h9609 := HS.trans h9606 h9608 (by decide)
          have xP9611 := oP9611
          unfold OKP at xP9611
          unfold RA at rP9611
          rcases c9610 with ⟨n9612, gn9612, hn9612, rfl⟩ | ⟨h9613, rfl⟩
          · refine m_istore F (lv' := [(4, .int (nI n9612)), (3, .int (nI 0)), (2, .int 0), (1, .int (nI (8 + P.n7))), (0, .ref c)]) e_X10_readChange_72 (by decide) rfl ?_
            refine m_aload_n F rfl e_X10_readChange_74 ?_
            refine r_get F e_X10_readChange_75 fl_X10_141 h9609 rfl (fun v hv f9614 => ?_)
            obtain ⟨x9615, hx9615, rfl⟩ := hv
            replace hx9615 : 0 = 0 → x9615 ≠ 0 := hx9615
            refine m_if_eq F e_X10_readChange_78 (fun q78 => ?_) (fun q78 => ?_)
            · first | exact absurd q78 (hx9615 rfl) | contradiction
            · have h9616 := HS.z0 h9609 (f9614) q78
              have h9617 : HS V c _ [0, 2, 4, 5, 6, 7, 8, 9, 10, 11, 14, 15, 16, 17, 18, 19, 20, 21, 22, 23] _ _ := ⟨HR.mono (Z' := Z) (by intro e; first | rfl | assumption | omega) h9616.1, h9616.2⟩
              exact m_vret F hQ e_X10_readChange_81 (⟨P9611, oP9611, (by unfold RP; omega), h9617, rfl⟩)
          · have h9618 : HS V c (⟨T, 0, u, h, P9611, L⟩ : RG) [0, 2, 4, 5, 6, 7, 8, 9, 10, 11, 14, 15, 16, 17, 18, 19, 20, 21, 22, 23] _ _ := ⟨h9613, h9609.2⟩
            refine m_istore F (lv' := [(4, .int (nI 500)), (3, .int (nI 0)), (2, .int 0), (1, .int (nI (8 + P.n7))), (0, .ref c)]) e_X10_readChange_72 (by decide) rfl ?_
            refine m_aload_n F rfl e_X10_readChange_74 ?_
            refine r_get F e_X10_readChange_75 fl_X10_141 h9618 rfl (fun v hv f9619 => ?_)
            obtain ⟨x9620, hx9620, rfl⟩ := hv
            replace hx9620 : 0 = 0 → x9620 ≠ 0 := hx9620
            refine m_if_eq F e_X10_readChange_78 (fun q78 => ?_) (fun q78 => ?_)
            · first | exact absurd q78 (hx9620 rfl) | contradiction
            · have h9621 := HS.z0 h9618 (f9619) q78
              have h9622 : HS V c _ [0, 2, 4, 5, 6, 7, 8, 9, 10, 11, 14, 15, 16, 17, 18, 19, 20, 21, 22, 23] _ _ := ⟨HR.mono (Z' := Z) (by intro e; first | rfl | assumption | omega) h9621.1, h9621.2⟩
              exact m_vret F hQ e_X10_readChange_81 (⟨P9611, oP9611, (by unfold RP; omega), h9622, rfl⟩)
set_option maxRecDepth 20000 in
theorem q_X10_readOption (l : Launch) (V : VX) (c T Z u h : Nat) (P : NP) (L : Nat → LQ) (N : Nat) (σ : Mem)  (h0 : HR V c ⟨T, Z, u, h, P, L⟩ σ) (hob : OKB L) (hP : OKP P)  : Ct l V yX10_readOption cX10_readOption 5 none 8 0 0 N σ [.ref c] (fun r τ => ∃ P9 : NP, OKP P9 ∧ RP P P9 ∧ HS V c (⟨T, Z, u, h, P9, L⟩ : RG) [0, 2, 4, 5, 6, 7, 8, 9, 10, 11, 12, 13, 17, 18, 19, 20, 21, 22, 23] σ τ ∧ r = none) := by
  refine Ct.of (by decide) (Nat.le_of_ble_eq_true rfl) [(0, .ref c)] rfl (fun X hX F hQ => ?_)
  have hPP := hP
  unfold OKP at hPP
  have h1 : HS V c ⟨T, Z, u, h, P, L⟩ [0, 2, 4, 5, 6, 7, 8, 9, 10, 11, 12, 13, 17, 18, 19, 20, 21, 22, 23] σ σ := HS.start h0
  refine m_iconst F (v := 4) (by decide) e_X10_readOption_0 ?_
  refine m_aload_n F rfl e_X10_readOption_1 ?_
  refine m_iconst F (v := 3) (by decide) e_X10_readOption_2 ?_
  refine r_callV F e_X10_readOption_3 (q_X10_reading3 (x_l X) V c T Z u h P L _ _  h1.1 (hob) hP ) cb_X10_reading ml_X10_157 im_X10_reading se_X10_reading h1 rfl rfl (rest := [.int 4]) rfl (Nat.le_of_ble_eq_true rfl) ⟨Nat.le_of_ble_eq_true rfl, Nat.le_of_ble_eq_true rfl⟩ ⟨Nat.le_of_ble_eq_true rfl, Nat.le_of_ble_eq_true rfl⟩ (fun r σ9623 hp => ?_)
  obtain ⟨h9624, n9626, hn9626, f9627, rfl⟩ := hp
  have h9625 := HS.trans h1 h9624 (by decide)
  refine m_iadd F e_X10_readOption_6 ?_
  refine Wm.topE (w := nI (4 + n9626)) (nI_add 4 n9626) ?_
  refine m_istore_n F (lv' := [(1, .int (nI (4 + n9626))), (0, .ref c)]) e_X10_readOption_7 (by decide) rfl ?_
  refine m_iload_n F rfl e_X10_readOption_8 ?_
  refine m_bipush F (v := 8) (by decide) e_X10_readOption_9 ?_
  refine m_icmp_ne F e_X10_readOption_11 (fun q11 => ?_) (fun q11 => ?_)
  · have c11 : (4 + n9626) ≠ 8 := by have hh := mt (nI_eq (a := (4 + n9626)) (b := 8) (by omega) (by omega)).mpr q11; omega
    refine m_aload_n F rfl e_X10_readOption_19 ?_
    refine r_callV F e_X10_readOption_20 (q_X10_atHand (x_l X) V c T Z u h P L _ _  h9625.1 (hob) hP ) cb_X10_atHand ml_X10_174 im_X10_atHand se_X10_atHand h9625 rfl rfl (rest := []) rfl (Nat.le_of_ble_eq_true rfl) ⟨Nat.le_of_ble_eq_true rfl, Nat.le_of_ble_eq_true rfl⟩ ⟨Nat.le_of_ble_eq_true rfl, Nat.le_of_ble_eq_true rfl⟩ (fun r σ9628 hp => ?_)
    obtain ⟨P9632, oP9632, rP9632, h9629, n9631, gn9631, hn9631, rfl⟩ := hp
    have h9630 := HS.trans h9625 h9629 (by decide)
    have xP9632 := oP9632
    unfold OKP at xP9632
    unfold RA at rP9632
    refine m_istore_n F (lv' := [(2, .int (nI n9631)), (1, .int (nI (4 + n9626))), (0, .ref c)]) e_X10_readOption_23 (by decide) rfl ?_
    refine m_aload_n F rfl e_X10_readOption_24 ?_
    refine r_callV F e_X10_readOption_25 (q_X10_goOn (x_l X) V c T Z u h P9632 L _ _  h9630.1 (hob) oP9632 ) cb_X10_goOn ml_X10_154 im_X10_goOn se_X10_goOn h9630 rfl rfl (rest := []) rfl (Nat.le_of_ble_eq_true rfl) ⟨Nat.le_of_ble_eq_true rfl, Nat.le_of_ble_eq_true rfl⟩ ⟨Nat.le_of_ble_eq_true rfl, Nat.le_of_ble_eq_true rfl⟩ (fun r σ9633 hp => ?_)
    obtain ⟨P9636, oP9636, rP9636, pr9637, h9634, rfl⟩ := hp
    have h9635 := HS.trans h9630 h9634 (by decide)
    have xP9636 := oP9636
    unfold OKP at xP9636
    unfold RA at rP9636
    refine m_aload_n F rfl e_X10_readOption_28 ?_
    refine m_iconst F (v := 1) (by decide) e_X10_readOption_29 ?_
    refine m_bipush F (v := 24) (by decide) e_X10_readOption_30 ?_
    refine r_callV F e_X10_readOption_32 (q_X10_numeral (x_l X) V c T Z u h P9636 L _ _ 1 24 h9635.1 (hob) oP9636 (by omega) (by omega)) cb_X10_numeral ml_X10_165 im_X10_numeral se_X10_numeral h9635 rfl rfl (rest := []) rfl (Nat.le_of_ble_eq_true rfl) ⟨Nat.le_of_ble_eq_true rfl, Nat.le_of_ble_eq_true rfl⟩ ⟨Nat.le_of_ble_eq_true rfl, Nat.le_of_ble_eq_true rfl⟩ (fun r σ9638 hp => ?_)
    obtain ⟨P9642, oP9642, rP9642, h9639, c9641⟩ := hp
    have h9640 := HS.trans h9635 h9639 (by decide)
    have xP9642 := oP9642
    unfold OKP at xP9642
    unfold RA at rP9642
    rcases c9641 with ⟨n9643, gn9643, hn9643, rfl⟩ | ⟨h9644, rfl⟩
    · refine m_istore_n F (lv' := [(3, .int (nI n9643)), (2, .int (nI n9631)), (1, .int (nI (4 + n9626))), (0, .ref c)]) e_X10_readOption_35 (by decide) rfl ?_
      refine m_aload_n F rfl e_X10_readOption_36 ?_
      refine m_iconst F (v := 0) (by decide) e_X10_readOption_37 ?_
      refine m_ldc F kc_X10_177 e_X10_readOption_38 ?_
      refine r_callV F e_X10_readOption_40 (q_X10_numeral (x_l X) V c T Z u h P9642 L _ _ 0 99999 h9640.1 (hob) oP9642 (by omega) (by omega)) cb_X10_numeral ml_X10_165 im_X10_numeral se_X10_numeral h9640 rfl rfl (rest := []) rfl (Nat.le_of_ble_eq_true rfl) ⟨Nat.le_of_ble_eq_true rfl, Nat.le_of_ble_eq_true rfl⟩ ⟨Nat.le_of_ble_eq_true rfl, Nat.le_of_ble_eq_true rfl⟩ (fun r σ9645 hp => ?_)
      obtain ⟨P9649, oP9649, rP9649, h9646, c9648⟩ := hp
      have h9647 := HS.trans h9640 h9646 (by decide)
      have xP9649 := oP9649
      unfold OKP at xP9649
      unfold RA at rP9649
      rcases c9648 with ⟨n9650, gn9650, hn9650, rfl⟩ | ⟨h9651, rfl⟩
      · refine m_istore F (lv' := [(4, .int (nI n9650)), (3, .int (nI n9643)), (2, .int (nI n9631)), (1, .int (nI (4 + n9626))), (0, .ref c)]) e_X10_readOption_43 (by decide) rfl ?_
        refine m_aload_n F rfl e_X10_readOption_45 ?_
        refine r_get F e_X10_readOption_46 fl_X10_141 h9647 rfl (fun v hv f9652 => ?_)
        obtain ⟨x9653, hx9653, rfl⟩ := hv
        replace hx9653 : Z = 0 → x9653 ≠ 0 := hx9653
        refine m_if_eq F e_X10_readOption_49 (fun q49 => ?_) (fun q49 => ?_)
        · subst q49
          refine m_aload_n F rfl e_X10_readOption_53 ?_
          refine r_get F e_X10_readOption_54 fl_X10_46 h9647 rfl (fun v hv f9654 => ?_)
          obtain rfl : v = .ref (c + 13) := hv
          refine m_iload_n F rfl e_X10_readOption_57 ?_
          refine m_iload_n F rfl e_X10_readOption_58 ?_
          refine m_iconst F (v := 4) (by decide) e_X10_readOption_59 ?_
          refine m_isub F e_X10_readOption_60 ?_
          refine Wm.topE (w := nI (n9631 - 4)) (pk_sub (a := n9631) (b := 4) (by omega)) ?_
          refine r_iast F (g' := (⟨T, Z, u, h, P9649, L⟩ : RG)) (len := 8) (j := 4 + n9626) e_X10_readOption_61 h9647 (fun _ h => h) (fun f h => ⟨f, rfl, h⟩) (by decide) (by decide) (nI_clamp (by omega)) (vp_in_nI (by omega) (by decide)) ⟨n9631 - 4, by omega, rfl⟩ (fun _ _ _ h => h) (fun _ _ _ h => h) (fun σ9655 h9656 g9657 f9658 g9659 => ?_)
          refine m_aload_n F rfl e_X10_readOption_62 ?_
          refine r_get F e_X10_readOption_63 fl_X10_49 h9656 rfl (fun v hv f9660 => ?_)
          obtain rfl : v = .ref (c + 14) := hv
          refine m_iload_n F rfl e_X10_readOption_66 ?_
          refine m_iload_n F rfl e_X10_readOption_67 ?_
          refine r_iast F (g' := (⟨T, Z, u, h, P9649, L⟩ : RG)) (len := 8) (j := 4 + n9626) e_X10_readOption_68 h9656 (fun _ h => h) (fun f h => ⟨f, rfl, h⟩) (by decide) (by decide) (nI_clamp (by omega)) (vp_in_nI (by omega) (by decide)) ⟨n9643, by omega, rfl⟩ (fun _ _ _ h => h) (fun _ _ _ h => h) (fun σ9661 h9662 g9663 f9664 g9665 => ?_)
          refine m_aload_n F rfl e_X10_readOption_69 ?_
          refine r_get F e_X10_readOption_70 fl_X10_52 h9662 rfl (fun v hv f9666 => ?_)
          obtain rfl : v = .ref (c + 15) := hv
          refine m_iload_n F rfl e_X10_readOption_73 ?_
          refine m_iload F rfl e_X10_readOption_74 ?_
          refine r_iast F (g' := (⟨T, Z, u, h, P9649, L⟩ : RG)) (len := 8) (j := 4 + n9626) e_X10_readOption_76 h9662 (fun _ h => h) (fun f h => ⟨f, rfl, h⟩) (by decide) (by decide) (nI_clamp (by omega)) (vp_in_nI (by omega) (by decide)) trivial (fun _ _ _ h => h) (fun _ _ _ h => h) (fun σ9667 h9668 g9669 f9670 g9671 => ?_)
          refine m_aload_n F rfl e_X10_readOption_77 ?_
          refine m_iconst F (v := 3) (by decide) e_X10_readOption_78 ?_
          refine m_aload_n F rfl e_X10_readOption_79 ?_
          refine m_iconst F (v := 3) (by decide) e_X10_readOption_80 ?_
          refine r_callV F e_X10_readOption_81 (q_X10_reading3 (x_l X) V c T Z u h P9649 L _ _  h9668.1 (hob) oP9649 ) cb_X10_reading ml_X10_157 im_X10_reading se_X10_reading h9668 rfl rfl (rest := [.int 3, .ref c]) rfl (Nat.le_of_ble_eq_true rfl) ⟨Nat.le_of_ble_eq_true rfl, Nat.le_of_ble_eq_true rfl⟩ ⟨Nat.le_of_ble_eq_true rfl, Nat.le_of_ble_eq_true rfl⟩ (fun r σ9672 hp => ?_)
          obtain ⟨h9673, n9675, hn9675, f9676, rfl⟩ := hp
          have h9674 := HS.trans h9668 h9673 (by decide)
          have gn9675 := nI_inj (by omega) (by omega) (Option.some.inj ((f9676).symm.trans ((elI_eq (h9673.2 (c + 2) (by rw [kC_at (k := 2) (by decide)]; decide))).trans ((elI_eq (g9669 _ (by omega))).trans ((elI_eq (g9663 _ (by omega))).trans ((elI_eq (g9657 _ (by omega))).trans ((elI_eq (h9646.2 (c + 2) (by rw [kC_at (k := 2) (by decide)]; decide))).trans ((elI_eq (h9639.2 (c + 2) (by rw [kC_at (k := 2) (by decide)]; decide))).trans ((elI_eq (h9634.2 (c + 2) (by rw [kC_at (k := 2) (by decide)]; decide))).trans ((elI_eq (h9629.2 (c + 2) (by rw [kC_at (k := 2) (by decide)]; decide))).trans f9627))))))))))
          refine m_iconst F (v := 1) (by decide) e_X10_readOption_84 ?_
          refine m_iadd F e_X10_readOption_85 ?_
          refine Wm.topE (w := nI (n9675 + 1)) (nI_add n9675 1) ?_
          refine r_callV F e_X10_readOption_86 (q_X10_reads3 (x_l X) V c T Z u h P9649 L _ _ (n9675 + 1) h9674.1 (hob) oP9649 (by omega)) cb_X10_reads ml_X10_170 im_X10_reads se_X10_reads h9674 rfl rfl (rest := []) rfl (Nat.le_of_ble_eq_true rfl) ⟨Nat.le_of_ble_eq_true rfl, Nat.le_of_ble_eq_true rfl⟩ ⟨Nat.le_of_ble_eq_true rfl, Nat.le_of_ble_eq_true rfl⟩ (fun r σ9677 hp => ?_)
          obtain ⟨h9678, rfl⟩ := hp
          have h9679 := HS.trans h9674 h9678 (by decide)
          exact m_vret F hQ e_X10_readOption_89 (⟨P9649, oP9649, (by unfold RP; omega), h9679, rfl⟩)
        · have h9680 := HS.z0 h9647 (f9652) q49
          have h9681 : HS V c _ [0, 2, 4, 5, 6, 7, 8, 9, 10, 11, 12, 13, 17, 18, 19, 20, 21, 22, 23] _ _ := ⟨HR.mono (Z' := Z) (by intro e; first | rfl | assumption | omega) h9680.1, h9680.2⟩
          exact m_vret F hQ e_X10_readOption_52 (⟨P9649, oP9649, (by unfold RP; omega), h9681, rfl⟩)
      · have h9682 : HS V c (⟨T, 0, u, h, P9649, L⟩ : RG) [0, 2, 4, 5, 6, 7, 8, 9, 10, 11, 12, 13, 17, 18, 19, 20, 21, 22, 23] _ _ := ⟨h9651, h9647.2⟩
        refine m_istore F (lv' := [(4, .int (nI 0)), (3, .int (nI n9643)), (2, .int (nI n9631)), (1, .int (nI (4 + n9626))), (0, .ref c)]) e_X10_readOption_43 (by decide) rfl ?_
        refine m_aload_n F rfl e_X10_readOption_45 ?_
        refine r_get F e_X10_readOption_46 fl_X10_141 h9682 rfl (fun v hv f9683 => ?_)
        obtain ⟨x9684, hx9684, rfl⟩ := hv
        replace hx9684 : 0 = 0 → x9684 ≠ 0 := hx9684
        refine m_if_eq F e_X10_readOption_49 (fun q49 => ?_) (fun q49 => ?_)
        · first | exact absurd q49 (hx9684 rfl) | contradiction
        · have h9685 := HS.z0 h9682 (f9683) q49
          have h9686 : HS V c _ [0, 2, 4, 5, 6, 7, 8, 9, 10, 11, 12, 13, 17, 18, 19, 20, 21, 22, 23] _ _ := ⟨HR.mono (Z' := Z) (by intro e; first | rfl | assumption | omega) h9685.1, h9685.2⟩
          exact m_vret F hQ e_X10_readOption_52 (⟨P9649, oP9649, (by unfold RP; omega), h9686, rfl⟩)
    · have h9687 : HS V c (⟨T, 0, u, h, P9642, L⟩ : RG) [0, 2, 4, 5, 6, 7, 8, 9, 10, 11, 12, 13, 17, 18, 19, 20, 21, 22, 23] _ _ := ⟨h9644, h9640.2⟩
      refine m_istore_n F (lv' := [(3, .int (nI 1)), (2, .int (nI n9631)), (1, .int (nI (4 + n9626))), (0, .ref c)]) e_X10_readOption_35 (by decide) rfl ?_
      refine m_aload_n F rfl e_X10_readOption_36 ?_
      refine m_iconst F (v := 0) (by decide) e_X10_readOption_37 ?_
      refine m_ldc F kc_X10_177 e_X10_readOption_38 ?_
      refine r_callV F e_X10_readOption_40 (q_X10_numeral (x_l X) V c T 0 u h P9642 L _ _ 0 99999 h9687.1 (hob) oP9642 (by omega) (by omega)) cb_X10_numeral ml_X10_165 im_X10_numeral se_X10_numeral h9687 rfl rfl (rest := []) rfl (Nat.le_of_ble_eq_true rfl) ⟨Nat.le_of_ble_eq_true rfl, Nat.le_of_ble_eq_true rfl⟩ ⟨Nat.le_of_ble_eq_true rfl, Nat.le_of_ble_eq_true rfl⟩ (fun r σ9688 hp => ?_)
      obtain ⟨P9692, oP9692, rP9692, h9689, c9691⟩ := hp
      have h9690 := HS.trans h9687 h9689 (by decide)
      have xP9692 := oP9692
      unfold OKP at xP9692
      unfold RA at rP9692
      rcases c9691 with ⟨n9693, gn9693, hn9693, rfl⟩ | ⟨h9694, rfl⟩
      · refine m_istore F (lv' := [(4, .int (nI n9693)), (3, .int (nI 1)), (2, .int (nI n9631)), (1, .int (nI (4 + n9626))), (0, .ref c)]) e_X10_readOption_43 (by decide) rfl ?_
        refine m_aload_n F rfl e_X10_readOption_45 ?_
        refine r_get F e_X10_readOption_46 fl_X10_141 h9690 rfl (fun v hv f9695 => ?_)
        obtain ⟨x9696, hx9696, rfl⟩ := hv
        replace hx9696 : 0 = 0 → x9696 ≠ 0 := hx9696
        refine m_if_eq F e_X10_readOption_49 (fun q49 => ?_) (fun q49 => ?_)
        · first | exact absurd q49 (hx9696 rfl) | contradiction
        · have h9697 := HS.z0 h9690 (f9695) q49
          have h9698 : HS V c _ [0, 2, 4, 5, 6, 7, 8, 9, 10, 11, 12, 13, 17, 18, 19, 20, 21, 22, 23] _ _ := ⟨HR.mono (Z' := Z) (by intro e; first | rfl | assumption | omega) h9697.1, h9697.2⟩
          exact m_vret F hQ e_X10_readOption_52 (⟨P9692, oP9692, (by unfold RP; omega), h9698, rfl⟩)
      · have h9699 : HS V c (⟨T, 0, u, h, P9692, L⟩ : RG) [0, 2, 4, 5, 6, 7, 8, 9, 10, 11, 12, 13, 17, 18, 19, 20, 21, 22, 23] _ _ := ⟨h9694, h9690.2⟩
        refine m_istore F (lv' := [(4, .int (nI 0)), (3, .int (nI 1)), (2, .int (nI n9631)), (1, .int (nI (4 + n9626))), (0, .ref c)]) e_X10_readOption_43 (by decide) rfl ?_
        refine m_aload_n F rfl e_X10_readOption_45 ?_
        refine r_get F e_X10_readOption_46 fl_X10_141 h9699 rfl (fun v hv f9700 => ?_)
        obtain ⟨x9701, hx9701, rfl⟩ := hv
        replace hx9701 : 0 = 0 → x9701 ≠ 0 := hx9701
        refine m_if_eq F e_X10_readOption_49 (fun q49 => ?_) (fun q49 => ?_)
        · first | exact absurd q49 (hx9701 rfl) | contradiction
        · have h9702 := HS.z0 h9699 (f9700) q49
          have h9703 : HS V c _ [0, 2, 4, 5, 6, 7, 8, 9, 10, 11, 12, 13, 17, 18, 19, 20, 21, 22, 23] _ _ := ⟨HR.mono (Z' := Z) (by intro e; first | rfl | assumption | omega) h9702.1, h9702.2⟩
          exact m_vret F hQ e_X10_readOption_52 (⟨P9692, oP9692, (by unfold RP; omega), h9703, rfl⟩)
  · have c11 : (4 + n9626) = 8 := (nI_eq (a := (4 + n9626)) (b := 8) (by omega) (by omega)).mp q11
    refine m_aload_n F rfl e_X10_readOption_14 ?_
    refine m_iconst F (v := 2) (by decide) e_X10_readOption_15 ?_
    refine r_callV F e_X10_readOption_16 (q_X10_wrong (x_l X) V c T Z u h P L _ _ 2 h9625.1 (hob) hP (by first | omega | assumption | decide)) cb_X10_wrong ml_X10_150 im_X10_wrong se_X10_wrong h9625 rfl rfl (rest := []) rfl (Nat.le_of_ble_eq_true rfl) ⟨Nat.le_of_ble_eq_true rfl, Nat.le_of_ble_eq_true rfl⟩ ⟨Nat.le_of_ble_eq_true rfl, Nat.le_of_ble_eq_true rfl⟩ (fun r σ9704 hp => ?_)
    obtain ⟨h9705, rfl⟩ := hp
    have h9706 := HS.trans h9625 h9705 (by decide)
    refine m_aload_n F rfl e_X10_readOption_19 ?_
    refine r_callV F e_X10_readOption_20 (q_X10_atHand (x_l X) V c T 0 u h P L _ _  h9706.1 (hob) hP ) cb_X10_atHand ml_X10_174 im_X10_atHand se_X10_atHand h9706 rfl rfl (rest := []) rfl (Nat.le_of_ble_eq_true rfl) ⟨Nat.le_of_ble_eq_true rfl, Nat.le_of_ble_eq_true rfl⟩ ⟨Nat.le_of_ble_eq_true rfl, Nat.le_of_ble_eq_true rfl⟩ (fun r σ9707 hp => ?_)
    obtain ⟨P9711, oP9711, rP9711, h9708, n9710, gn9710, hn9710, rfl⟩ := hp
    have h9709 := HS.trans h9706 h9708 (by decide)
    have xP9711 := oP9711
    unfold OKP at xP9711
    unfold RA at rP9711
    refine m_istore_n F (lv' := [(2, .int (nI n9710)), (1, .int (nI (4 + n9626))), (0, .ref c)]) e_X10_readOption_23 (by decide) rfl ?_
    refine m_aload_n F rfl e_X10_readOption_24 ?_
    refine r_callV F e_X10_readOption_25 (q_X10_goOn (x_l X) V c T 0 u h P9711 L _ _  h9709.1 (hob) oP9711 ) cb_X10_goOn ml_X10_154 im_X10_goOn se_X10_goOn h9709 rfl rfl (rest := []) rfl (Nat.le_of_ble_eq_true rfl) ⟨Nat.le_of_ble_eq_true rfl, Nat.le_of_ble_eq_true rfl⟩ ⟨Nat.le_of_ble_eq_true rfl, Nat.le_of_ble_eq_true rfl⟩ (fun r σ9712 hp => ?_)
    obtain ⟨P9715, oP9715, rP9715, pr9716, h9713, rfl⟩ := hp
    have h9714 := HS.trans h9709 h9713 (by decide)
    have xP9715 := oP9715
    unfold OKP at xP9715
    unfold RA at rP9715
    refine m_aload_n F rfl e_X10_readOption_28 ?_
    refine m_iconst F (v := 1) (by decide) e_X10_readOption_29 ?_
    refine m_bipush F (v := 24) (by decide) e_X10_readOption_30 ?_
    refine r_callV F e_X10_readOption_32 (q_X10_numeral (x_l X) V c T 0 u h P9715 L _ _ 1 24 h9714.1 (hob) oP9715 (by omega) (by omega)) cb_X10_numeral ml_X10_165 im_X10_numeral se_X10_numeral h9714 rfl rfl (rest := []) rfl (Nat.le_of_ble_eq_true rfl) ⟨Nat.le_of_ble_eq_true rfl, Nat.le_of_ble_eq_true rfl⟩ ⟨Nat.le_of_ble_eq_true rfl, Nat.le_of_ble_eq_true rfl⟩ (fun r σ9717 hp => ?_)
    obtain ⟨P9721, oP9721, rP9721, h9718, c9720⟩ := hp
    have h9719 := HS.trans h9714 h9718 (by decide)
    have xP9721 := oP9721
    unfold OKP at xP9721
    unfold RA at rP9721
    rcases c9720 with ⟨n9722, gn9722, hn9722, rfl⟩ | ⟨h9723, rfl⟩
    · refine m_istore_n F (lv' := [(3, .int (nI n9722)), (2, .int (nI n9710)), (1, .int (nI (4 + n9626))), (0, .ref c)]) e_X10_readOption_35 (by decide) rfl ?_
      refine m_aload_n F rfl e_X10_readOption_36 ?_
      refine m_iconst F (v := 0) (by decide) e_X10_readOption_37 ?_
      refine m_ldc F kc_X10_177 e_X10_readOption_38 ?_
      refine r_callV F e_X10_readOption_40 (q_X10_numeral (x_l X) V c T 0 u h P9721 L _ _ 0 99999 h9719.1 (hob) oP9721 (by omega) (by omega)) cb_X10_numeral ml_X10_165 im_X10_numeral se_X10_numeral h9719 rfl rfl (rest := []) rfl (Nat.le_of_ble_eq_true rfl) ⟨Nat.le_of_ble_eq_true rfl, Nat.le_of_ble_eq_true rfl⟩ ⟨Nat.le_of_ble_eq_true rfl, Nat.le_of_ble_eq_true rfl⟩ (fun r σ9724 hp => ?_)
      obtain ⟨P9728, oP9728, rP9728, h9725, c9727⟩ := hp
      have h9726 := HS.trans h9719 h9725 (by decide)
      have xP9728 := oP9728
      unfold OKP at xP9728
      unfold RA at rP9728
      rcases c9727 with ⟨n9729, gn9729, hn9729, rfl⟩ | ⟨h9730, rfl⟩
      · refine m_istore F (lv' := [(4, .int (nI n9729)), (3, .int (nI n9722)), (2, .int (nI n9710)), (1, .int (nI (4 + n9626))), (0, .ref c)]) e_X10_readOption_43 (by decide) rfl ?_
        refine m_aload_n F rfl e_X10_readOption_45 ?_
        refine r_get F e_X10_readOption_46 fl_X10_141 h9726 rfl (fun v hv f9731 => ?_)
        obtain ⟨x9732, hx9732, rfl⟩ := hv
        replace hx9732 : 0 = 0 → x9732 ≠ 0 := hx9732
        refine m_if_eq F e_X10_readOption_49 (fun q49 => ?_) (fun q49 => ?_)
        · first | exact absurd q49 (hx9732 rfl) | contradiction
        · have h9733 := HS.z0 h9726 (f9731) q49
          have h9734 : HS V c _ [0, 2, 4, 5, 6, 7, 8, 9, 10, 11, 12, 13, 17, 18, 19, 20, 21, 22, 23] _ _ := ⟨HR.mono (Z' := Z) (by intro e; first | rfl | assumption | omega) h9733.1, h9733.2⟩
          exact m_vret F hQ e_X10_readOption_52 (⟨P9728, oP9728, (by unfold RP; omega), h9734, rfl⟩)
      · have h9735 : HS V c (⟨T, 0, u, h, P9728, L⟩ : RG) [0, 2, 4, 5, 6, 7, 8, 9, 10, 11, 12, 13, 17, 18, 19, 20, 21, 22, 23] _ _ := ⟨h9730, h9726.2⟩
        refine m_istore F (lv' := [(4, .int (nI 0)), (3, .int (nI n9722)), (2, .int (nI n9710)), (1, .int (nI (4 + n9626))), (0, .ref c)]) e_X10_readOption_43 (by decide) rfl ?_
        refine m_aload_n F rfl e_X10_readOption_45 ?_
        refine r_get F e_X10_readOption_46 fl_X10_141 h9735 rfl (fun v hv f9736 => ?_)
        obtain ⟨x9737, hx9737, rfl⟩ := hv
        replace hx9737 : 0 = 0 → x9737 ≠ 0 := hx9737
        refine m_if_eq F e_X10_readOption_49 (fun q49 => ?_) (fun q49 => ?_)
        · first | exact absurd q49 (hx9737 rfl) | contradiction
        · have h9738 := HS.z0 h9735 (f9736) q49
          have h9739 : HS V c _ [0, 2, 4, 5, 6, 7, 8, 9, 10, 11, 12, 13, 17, 18, 19, 20, 21, 22, 23] _ _ := ⟨HR.mono (Z' := Z) (by intro e; first | rfl | assumption | omega) h9738.1, h9738.2⟩
          exact m_vret F hQ e_X10_readOption_52 (⟨P9728, oP9728, (by unfold RP; omega), h9739, rfl⟩)
    · have h9740 : HS V c (⟨T, 0, u, h, P9721, L⟩ : RG) [0, 2, 4, 5, 6, 7, 8, 9, 10, 11, 12, 13, 17, 18, 19, 20, 21, 22, 23] _ _ := ⟨h9723, h9719.2⟩
      refine m_istore_n F (lv' := [(3, .int (nI 1)), (2, .int (nI n9710)), (1, .int (nI (4 + n9626))), (0, .ref c)]) e_X10_readOption_35 (by decide) rfl ?_
      refine m_aload_n F rfl e_X10_readOption_36 ?_
      refine m_iconst F (v := 0) (by decide) e_X10_readOption_37 ?_
      refine m_ldc F kc_X10_177 e_X10_readOption_38 ?_
      refine r_callV F e_X10_readOption_40 (q_X10_numeral (x_l X) V c T 0 u h P9721 L _ _ 0 99999 h9740.1 (hob) oP9721 (by omega) (by omega)) cb_X10_numeral ml_X10_165 im_X10_numeral se_X10_numeral h9740 rfl rfl (rest := []) rfl (Nat.le_of_ble_eq_true rfl) ⟨Nat.le_of_ble_eq_true rfl, Nat.le_of_ble_eq_true rfl⟩ ⟨Nat.le_of_ble_eq_true rfl, Nat.le_of_ble_eq_true rfl⟩ (fun r σ9741 hp => ?_)
      obtain ⟨P9745, oP9745, rP9745, h9742, c9744⟩ := hp
      have h9743 := HS.trans h9740 h9742 (by decide)
      have xP9745 := oP9745
      unfold OKP at xP9745
      unfold RA at rP9745
      rcases c9744 with ⟨n9746, gn9746, hn9746, rfl⟩ | ⟨h9747, rfl⟩
      · refine m_istore F (lv' := [(4, .int (nI n9746)), (3, .int (nI 1)), (2, .int (nI n9710)), (1, .int (nI (4 + n9626))), (0, .ref c)]) e_X10_readOption_43 (by decide) rfl ?_
        refine m_aload_n F rfl e_X10_readOption_45 ?_
        refine r_get F e_X10_readOption_46 fl_X10_141 h9743 rfl (fun v hv f9748 => ?_)
        obtain ⟨x9749, hx9749, rfl⟩ := hv
        replace hx9749 : 0 = 0 → x9749 ≠ 0 := hx9749
        refine m_if_eq F e_X10_readOption_49 (fun q49 => ?_) (fun q49 => ?_)
        · first | exact absurd q49 (hx9749 rfl) | contradiction
        · have h9750 := HS.z0 h9743 (f9748) q49
          have h9751 : HS V c _ [0, 2, 4, 5, 6, 7, 8, 9, 10, 11, 12, 13, 17, 18, 19, 20, 21, 22, 23] _ _ := ⟨HR.mono (Z' := Z) (by intro e; first | rfl | assumption | omega) h9750.1, h9750.2⟩
          exact m_vret F hQ e_X10_readOption_52 (⟨P9745, oP9745, (by unfold RP; omega), h9751, rfl⟩)
      · have h9752 : HS V c (⟨T, 0, u, h, P9745, L⟩ : RG) [0, 2, 4, 5, 6, 7, 8, 9, 10, 11, 12, 13, 17, 18, 19, 20, 21, 22, 23] _ _ := ⟨h9747, h9743.2⟩
        refine m_istore F (lv' := [(4, .int (nI 0)), (3, .int (nI 1)), (2, .int (nI n9710)), (1, .int (nI (4 + n9626))), (0, .ref c)]) e_X10_readOption_43 (by decide) rfl ?_
        refine m_aload_n F rfl e_X10_readOption_45 ?_
        refine r_get F e_X10_readOption_46 fl_X10_141 h9752 rfl (fun v hv f9753 => ?_)
        obtain ⟨x9754, hx9754, rfl⟩ := hv
        replace hx9754 : 0 = 0 → x9754 ≠ 0 := hx9754
        refine m_if_eq F e_X10_readOption_49 (fun q49 => ?_) (fun q49 => ?_)
        · first | exact absurd q49 (hx9754 rfl) | contradiction
        · have h9755 := HS.z0 h9752 (f9753) q49
          have h9756 : HS V c _ [0, 2, 4, 5, 6, 7, 8, 9, 10, 11, 12, 13, 17, 18, 19, 20, 21, 22, 23] _ _ := ⟨HR.mono (Z' := Z) (by intro e; first | rfl | assumption | omega) h9755.1, h9755.2⟩
          exact m_vret F hQ e_X10_readOption_52 (⟨P9745, oP9745, (by unfold RP; omega), h9756, rfl⟩)
set_option maxRecDepth 20000 in
theorem q_X10_readSeed (l : Launch) (V : VX) (c T Z u h : Nat) (P : NP) (L : Nat → LQ) (N : Nat) (σ : Mem)  (h0 : HR V c ⟨T, Z, u, h, P, L⟩ σ) (hob : OKB L) (hP : OKP P)  : Ct l V yX10_readSeed cX10_readSeed 1 none 8 0 0 N σ [.ref c] (fun r τ => ∃ P9 : NP, OKP P9 ∧ RP P P9 ∧ HS V c (⟨T, Z, u, h, P9, L⟩ : RG) [0, 2, 4, 5, 6, 7, 8, 9, 10, 11, 12, 13, 14, 15, 16, 17, 18, 19, 20, 21, 22, 23] σ τ ∧ r = none) := by
  refine Ct.of (by decide) (Nat.le_of_ble_eq_true rfl) [(0, .ref c)] rfl (fun X hX F hQ => ?_)
  have hPP := hP
  unfold OKP at hPP
  have h1 : HS V c ⟨T, Z, u, h, P, L⟩ [0, 2, 4, 5, 6, 7, 8, 9, 10, 11, 12, 13, 14, 15, 16, 17, 18, 19, 20, 21, 22, 23] σ σ := HS.start h0
  refine m_aload_n F rfl e_X10_readSeed_0 ?_
  refine m_iconst F (v := 4) (by decide) e_X10_readSeed_1 ?_
  refine r_callV F e_X10_readSeed_2 (q_X10_reading4 (x_l X) V c T Z u h P L _ _  h1.1 (hob) hP ) cb_X10_reading ml_X10_157 im_X10_reading se_X10_reading h1 rfl rfl (rest := []) rfl (Nat.le_of_ble_eq_true rfl) ⟨Nat.le_of_ble_eq_true rfl, Nat.le_of_ble_eq_true rfl⟩ ⟨Nat.le_of_ble_eq_true rfl, Nat.le_of_ble_eq_true rfl⟩ (fun r σ9757 hp => ?_)
  obtain ⟨h9758, x9760, rfl⟩ := hp
  have h9759 := HS.trans h1 h9758 (by decide)
  refine m_if_eq F e_X10_readSeed_5 (fun q5 => ?_) (fun q5 => ?_)
  · subst q5
    refine m_aload_n F rfl e_X10_readSeed_13 ?_
    refine r_callV F e_X10_readSeed_14 (q_X10_goOn (x_l X) V c T Z u h P L _ _  h9759.1 (hob) hP ) cb_X10_goOn ml_X10_154 im_X10_goOn se_X10_goOn h9759 rfl rfl (rest := []) rfl (Nat.le_of_ble_eq_true rfl) ⟨Nat.le_of_ble_eq_true rfl, Nat.le_of_ble_eq_true rfl⟩ ⟨Nat.le_of_ble_eq_true rfl, Nat.le_of_ble_eq_true rfl⟩ (fun r σ9761 hp => ?_)
    obtain ⟨P9764, oP9764, rP9764, pr9765, h9762, rfl⟩ := hp
    have h9763 := HS.trans h9759 h9762 (by decide)
    have xP9764 := oP9764
    unfold OKP at xP9764
    unfold RA at rP9764
    refine m_aload_n F rfl e_X10_readSeed_17 ?_
    refine m_iconst F (v := 4) (by decide) e_X10_readSeed_18 ?_
    refine m_aload_n F rfl e_X10_readSeed_19 ?_
    refine m_iconst F (v := 0) (by decide) e_X10_readSeed_20 ?_
    refine m_ldc F kc_X10_177 e_X10_readSeed_21 ?_
    refine r_callV F e_X10_readSeed_23 (q_X10_numeral (x_l X) V c T Z u h P9764 L _ _ 0 99999 h9763.1 (hob) oP9764 (by omega) (by omega)) cb_X10_numeral ml_X10_165 im_X10_numeral se_X10_numeral h9763 rfl rfl (rest := [.int 4, .ref c]) rfl (Nat.le_of_ble_eq_true rfl) ⟨Nat.le_of_ble_eq_true rfl, Nat.le_of_ble_eq_true rfl⟩ ⟨Nat.le_of_ble_eq_true rfl, Nat.le_of_ble_eq_true rfl⟩ (fun r σ9766 hp => ?_)
    obtain ⟨P9770, oP9770, rP9770, h9767, c9769⟩ := hp
    have h9768 := HS.trans h9763 h9767 (by decide)
    have xP9770 := oP9770
    unfold OKP at xP9770
    unfold RA at rP9770
    rcases c9769 with ⟨n9771, gn9771, hn9771, rfl⟩ | ⟨h9772, rfl⟩
    · refine m_iconst F (v := 1) (by decide) e_X10_readSeed_26 ?_
      refine m_iadd F e_X10_readSeed_27 ?_
      refine Wm.topE (w := nI (n9771 + 1)) (nI_add n9771 1) ?_
      refine r_callV F e_X10_readSeed_28 (q_X10_reads4 (x_l X) V c T Z u h P9770 L _ _ (nI (n9771 + 1)) h9768.1 (hob) oP9770 ) cb_X10_reads ml_X10_170 im_X10_reads se_X10_reads h9768 rfl rfl (rest := []) rfl (Nat.le_of_ble_eq_true rfl) ⟨Nat.le_of_ble_eq_true rfl, Nat.le_of_ble_eq_true rfl⟩ ⟨Nat.le_of_ble_eq_true rfl, Nat.le_of_ble_eq_true rfl⟩ (fun r σ9773 hp => ?_)
      obtain ⟨h9774, rfl⟩ := hp
      have h9775 := HS.trans h9768 h9774 (by decide)
      exact m_vret F hQ e_X10_readSeed_31 (⟨P9770, oP9770, (by unfold RP; omega), h9775, rfl⟩)
    · have h9776 : HS V c (⟨T, 0, u, h, P9770, L⟩ : RG) [0, 2, 4, 5, 6, 7, 8, 9, 10, 11, 12, 13, 14, 15, 16, 17, 18, 19, 20, 21, 22, 23] _ _ := ⟨h9772, h9768.2⟩
      refine m_iconst F (v := 1) (by decide) e_X10_readSeed_26 ?_
      refine m_iadd F e_X10_readSeed_27 ?_
      refine Wm.topE (w := nI (0 + 1)) (nI_add 0 1) ?_
      refine r_callV F e_X10_readSeed_28 (q_X10_reads4 (x_l X) V c T 0 u h P9770 L _ _ (nI (0 + 1)) h9776.1 (hob) oP9770 ) cb_X10_reads ml_X10_170 im_X10_reads se_X10_reads h9776 rfl rfl (rest := []) rfl (Nat.le_of_ble_eq_true rfl) ⟨Nat.le_of_ble_eq_true rfl, Nat.le_of_ble_eq_true rfl⟩ ⟨Nat.le_of_ble_eq_true rfl, Nat.le_of_ble_eq_true rfl⟩ (fun r σ9777 hp => ?_)
      obtain ⟨h9778, rfl⟩ := hp
      have h9779 := HS.trans h9776 h9778 (by decide)
      have h9780 : HS V c _ [0, 2, 4, 5, 6, 7, 8, 9, 10, 11, 12, 13, 14, 15, 16, 17, 18, 19, 20, 21, 22, 23] _ _ := ⟨HR.mono (Z' := Z) (by intro e; first | rfl | assumption | omega) h9779.1, h9779.2⟩
      exact m_vret F hQ e_X10_readSeed_31 (⟨P9770, oP9770, (by unfold RP; omega), h9780, rfl⟩)
  · refine m_aload_n F rfl e_X10_readSeed_8 ?_
    refine m_iconst F (v := 3) (by decide) e_X10_readSeed_9 ?_
    refine r_callV F e_X10_readSeed_10 (q_X10_wrong (x_l X) V c T Z u h P L _ _ 3 h9759.1 (hob) hP (by first | omega | assumption | decide)) cb_X10_wrong ml_X10_150 im_X10_wrong se_X10_wrong h9759 rfl rfl (rest := []) rfl (Nat.le_of_ble_eq_true rfl) ⟨Nat.le_of_ble_eq_true rfl, Nat.le_of_ble_eq_true rfl⟩ ⟨Nat.le_of_ble_eq_true rfl, Nat.le_of_ble_eq_true rfl⟩ (fun r σ9781 hp => ?_)
    obtain ⟨h9782, rfl⟩ := hp
    have h9783 := HS.trans h9759 h9782 (by decide)
    refine m_aload_n F rfl e_X10_readSeed_13 ?_
    refine r_callV F e_X10_readSeed_14 (q_X10_goOn (x_l X) V c T 0 u h P L _ _  h9783.1 (hob) hP ) cb_X10_goOn ml_X10_154 im_X10_goOn se_X10_goOn h9783 rfl rfl (rest := []) rfl (Nat.le_of_ble_eq_true rfl) ⟨Nat.le_of_ble_eq_true rfl, Nat.le_of_ble_eq_true rfl⟩ ⟨Nat.le_of_ble_eq_true rfl, Nat.le_of_ble_eq_true rfl⟩ (fun r σ9784 hp => ?_)
    obtain ⟨P9787, oP9787, rP9787, pr9788, h9785, rfl⟩ := hp
    have h9786 := HS.trans h9783 h9785 (by decide)
    have xP9787 := oP9787
    unfold OKP at xP9787
    unfold RA at rP9787
    refine m_aload_n F rfl e_X10_readSeed_17 ?_
    refine m_iconst F (v := 4) (by decide) e_X10_readSeed_18 ?_
    refine m_aload_n F rfl e_X10_readSeed_19 ?_
    refine m_iconst F (v := 0) (by decide) e_X10_readSeed_20 ?_
    refine m_ldc F kc_X10_177 e_X10_readSeed_21 ?_
    refine r_callV F e_X10_readSeed_23 (q_X10_numeral (x_l X) V c T 0 u h P9787 L _ _ 0 99999 h9786.1 (hob) oP9787 (by omega) (by omega)) cb_X10_numeral ml_X10_165 im_X10_numeral se_X10_numeral h9786 rfl rfl (rest := [.int 4, .ref c]) rfl (Nat.le_of_ble_eq_true rfl) ⟨Nat.le_of_ble_eq_true rfl, Nat.le_of_ble_eq_true rfl⟩ ⟨Nat.le_of_ble_eq_true rfl, Nat.le_of_ble_eq_true rfl⟩ (fun r σ9789 hp => ?_)
    obtain ⟨P9793, oP9793, rP9793, h9790, c9792⟩ := hp
    have h9791 := HS.trans h9786 h9790 (by decide)
    have xP9793 := oP9793
    unfold OKP at xP9793
    unfold RA at rP9793
    rcases c9792 with ⟨n9794, gn9794, hn9794, rfl⟩ | ⟨h9795, rfl⟩
    · refine m_iconst F (v := 1) (by decide) e_X10_readSeed_26 ?_
      refine m_iadd F e_X10_readSeed_27 ?_
      refine Wm.topE (w := nI (n9794 + 1)) (nI_add n9794 1) ?_
      refine r_callV F e_X10_readSeed_28 (q_X10_reads4 (x_l X) V c T 0 u h P9793 L _ _ (nI (n9794 + 1)) h9791.1 (hob) oP9793 ) cb_X10_reads ml_X10_170 im_X10_reads se_X10_reads h9791 rfl rfl (rest := []) rfl (Nat.le_of_ble_eq_true rfl) ⟨Nat.le_of_ble_eq_true rfl, Nat.le_of_ble_eq_true rfl⟩ ⟨Nat.le_of_ble_eq_true rfl, Nat.le_of_ble_eq_true rfl⟩ (fun r σ9796 hp => ?_)
      obtain ⟨h9797, rfl⟩ := hp
      have h9798 := HS.trans h9791 h9797 (by decide)
      have h9799 : HS V c _ [0, 2, 4, 5, 6, 7, 8, 9, 10, 11, 12, 13, 14, 15, 16, 17, 18, 19, 20, 21, 22, 23] _ _ := ⟨HR.mono (Z' := Z) (by intro e; first | rfl | assumption | omega) h9798.1, h9798.2⟩
      exact m_vret F hQ e_X10_readSeed_31 (⟨P9793, oP9793, (by unfold RP; omega), h9799, rfl⟩)
    · have h9800 : HS V c (⟨T, 0, u, h, P9793, L⟩ : RG) [0, 2, 4, 5, 6, 7, 8, 9, 10, 11, 12, 13, 14, 15, 16, 17, 18, 19, 20, 21, 22, 23] _ _ := ⟨h9795, h9791.2⟩
      refine m_iconst F (v := 1) (by decide) e_X10_readSeed_26 ?_
      refine m_iadd F e_X10_readSeed_27 ?_
      refine Wm.topE (w := nI (0 + 1)) (nI_add 0 1) ?_
      refine r_callV F e_X10_readSeed_28 (q_X10_reads4 (x_l X) V c T 0 u h P9793 L _ _ (nI (0 + 1)) h9800.1 (hob) oP9793 ) cb_X10_reads ml_X10_170 im_X10_reads se_X10_reads h9800 rfl rfl (rest := []) rfl (Nat.le_of_ble_eq_true rfl) ⟨Nat.le_of_ble_eq_true rfl, Nat.le_of_ble_eq_true rfl⟩ ⟨Nat.le_of_ble_eq_true rfl, Nat.le_of_ble_eq_true rfl⟩ (fun r σ9801 hp => ?_)
      obtain ⟨h9802, rfl⟩ := hp
      have h9803 := HS.trans h9800 h9802 (by decide)
      have h9804 : HS V c _ [0, 2, 4, 5, 6, 7, 8, 9, 10, 11, 12, 13, 14, 15, 16, 17, 18, 19, 20, 21, 22, 23] _ _ := ⟨HR.mono (Z' := Z) (by intro e; first | rfl | assumption | omega) h9803.1, h9803.2⟩
      exact m_vret F hQ e_X10_readSeed_31 (⟨P9793, oP9793, (by unfold RP; omega), h9804, rfl⟩)
set_option maxRecDepth 20000 in
theorem q_X10_readLine (l : Launch) (V : VX) (c T Z u h : Nat) (P : NP) (L : Nat → LQ) (N : Nat) (σ : Mem)  (h0 : HR V c ⟨T, Z, u, h, P, L⟩ σ) (hob : OKB L) (hP : OKP P)  : Ct l V yX10_readLine cX10_readLine 1 none 9 0 0 N σ [.ref c] (fun r τ => ∃ P9 : NP, OKP P9 ∧ RP P P9 ∧ PG c P.a P9.a τ ∧ HS V c (⟨T, Z, u, h, P9, L⟩ : RG) [0, 2, 17, 18, 19, 20, 21, 22, 23] σ τ ∧ r = none) := by
  refine Ct.of (by decide) (Nat.le_of_ble_eq_true rfl) [(0, .ref c)] rfl (fun X hX F hQ => ?_)
  have hPP := hP
  unfold OKP at hPP
  have h1 : HS V c ⟨T, Z, u, h, P, L⟩ [0, 2, 17, 18, 19, 20, 21, 22, 23] σ σ := HS.start h0
  refine m_aload_n F rfl e_X10_readLine_0 ?_
  refine r_get F e_X10_readLine_1 fl_X10_110 h1 rfl (fun v hv f9805 => ?_)
  obtain ⟨x9806, rfl⟩ := hv
  refine m_if_eq F e_X10_readLine_4 (fun q4 => ?_) (fun q4 => ?_)
  · subst q4
    refine m_aload_n F rfl e_X10_readLine_15 ?_
    refine r_get F e_X10_readLine_16 fl_X10_120 h1 rfl (fun v hv f9807 => ?_)
    obtain ⟨x9808, rfl⟩ := hv
    refine m_if_ne F e_X10_readLine_19 (fun q19 => ?_) (fun q19 => ?_)
    · refine m_aload_n F rfl e_X10_readLine_29 ?_
      refine r_getC F e_X10_readLine_30 fl_X10_120 h1 (f9807) ?_
      refine m_iconst F (v := 1) (by decide) e_X10_readLine_33 ?_
      refine m_icmp_ne F e_X10_readLine_34 (fun q34 => ?_) (fun q34 => ?_)
      · refine m_aload_n F rfl e_X10_readLine_44 ?_
        refine r_getC F e_X10_readLine_45 fl_X10_120 h1 (f9807) ?_
        refine m_iconst F (v := 2) (by decide) e_X10_readLine_48 ?_
        refine m_icmp_eq F e_X10_readLine_49 (fun q49 => ?_) (fun q49 => ?_)
        · subst q49
          refine m_aload_n F rfl e_X10_readLine_60 ?_
          refine m_aload_n F rfl e_X10_readLine_61 ?_
          refine r_getC F e_X10_readLine_62 fl_X10_120 h1 (f9807) ?_
          refine m_iconst F (v := 2) (by decide) e_X10_readLine_65 ?_
          refine m_icmp_ne F e_X10_readLine_66 (fun q => absurd (by decide) q) (fun _ => ?_)
          refine m_iconst F (v := 1) (by decide) e_X10_readLine_69 ?_
          refine m_goto F e_X10_readLine_70 ?_
          refine r_callV F e_X10_readLine_74 (q_X10_readMark (x_l X) V c T Z u h P L _ _ 1 h1.1 (hob) hP ) cb_X10_readMark ml_X10_184 im_X10_readMark se_X10_readMark h1 rfl rfl (rest := []) rfl (Nat.le_of_ble_eq_true rfl) ⟨Nat.le_of_ble_eq_true rfl, Nat.le_of_ble_eq_true rfl⟩ ⟨Nat.le_of_ble_eq_true rfl, Nat.le_of_ble_eq_true rfl⟩ (fun r σ9809 hp => ?_)
          obtain ⟨P9812, oP9812, rP9812, h9810, rfl⟩ := hp
          have h9811 := HS.trans h1 h9810 (by decide)
          have xP9812 := oP9812
          unfold OKP at xP9812
          unfold RP at rP9812
          refine m_goto F e_X10_readLine_77 ?_
          refine m_aload_n F rfl e_X10_readLine_146 ?_
          refine r_get F e_X10_readLine_147 fl_X10_141 h9811 rfl (fun v hv f9813 => ?_)
          obtain ⟨x9814, hx9814, rfl⟩ := hv
          replace hx9814 : Z = 0 → x9814 ≠ 0 := hx9814
          refine m_if_ne F e_X10_readLine_150 (fun q150 => ?_) (fun q150 => ?_)
          · have h9815 := HS.z0 h9811 (f9813) q150
            refine m_aload_n F rfl e_X10_readLine_166 ?_
            refine r_callV F e_X10_readLine_167 (q_X10_goOn (x_l X) V c T 0 u h P9812 L _ _  h9815.1 (hob) oP9812 ) cb_X10_goOn ml_X10_154 im_X10_goOn se_X10_goOn h9815 rfl rfl (rest := []) rfl (Nat.le_of_ble_eq_true rfl) ⟨Nat.le_of_ble_eq_true rfl, Nat.le_of_ble_eq_true rfl⟩ ⟨Nat.le_of_ble_eq_true rfl, Nat.le_of_ble_eq_true rfl⟩ (fun r σ9816 hp => ?_)
            obtain ⟨P9819, oP9819, rP9819, pr9820, h9817, rfl⟩ := hp
            have h9818 := HS.trans h9815 h9817 (by decide)
            have xP9819 := oP9819
            unfold OKP at xP9819
            unfold RA at rP9819
            refine m_aload_n F rfl e_X10_readLine_170 ?_
            refine m_dup F rfl e_X10_readLine_171 ?_
            refine r_get F e_X10_readLine_172 fl_X10_202 h9818 rfl (fun v hv f9821 => ?_)
            obtain ⟨x9822, rfl⟩ := hv
            refine m_iconst F (v := 1) (by decide) e_X10_readLine_175 ?_
            refine m_iadd F e_X10_readLine_176 ?_
            refine Wm.top (fun x9823 _ => ?_)
            refine r_put F (g' := (⟨T, 0, u, h, P9819, L⟩ : RG)) e_X10_readLine_177 fp_X10_202 h9818 (by decide) ⟨_, rfl⟩ (fun _ _ _ _ q => q) (fun _ _ _ q => q) rfl rfl (by decide) (fun σ9824 h9825 g9826 g9827 f9828 => ?_)
            have pg9829 := pr9820.of (g9827 23 (by decide)) (g9827 21 (by decide))
            have h9830 : HS V c _ [0, 2, 17, 18, 19, 20, 21, 22, 23] _ _ := ⟨HR.mono (Z' := Z) (by intro e; first | rfl | assumption | omega) h9825.1, h9825.2⟩
            exact m_vret F hQ e_X10_readLine_180 (⟨P9819, oP9819, (by unfold RP; omega), (pg9829.mono (by omega)), h9830, rfl⟩)
          · subst q150
            refine m_aload_n F rfl e_X10_readLine_153 ?_
            refine r_get F e_X10_readLine_154 fl_X10_110 h9811 rfl (fun v hv f9831 => ?_)
            obtain ⟨x9832, rfl⟩ := hv
            refine m_iconst F (v := 3) (by decide) e_X10_readLine_157 ?_
            refine m_icmp_eq F e_X10_readLine_158 (fun q158 => ?_) (fun q158 => ?_)
            · subst q158
              refine m_aload_n F rfl e_X10_readLine_166 ?_
              refine r_callV F e_X10_readLine_167 (q_X10_goOn (x_l X) V c T Z u h P9812 L _ _  h9811.1 (hob) oP9812 ) cb_X10_goOn ml_X10_154 im_X10_goOn se_X10_goOn h9811 rfl rfl (rest := []) rfl (Nat.le_of_ble_eq_true rfl) ⟨Nat.le_of_ble_eq_true rfl, Nat.le_of_ble_eq_true rfl⟩ ⟨Nat.le_of_ble_eq_true rfl, Nat.le_of_ble_eq_true rfl⟩ (fun r σ9833 hp => ?_)
              obtain ⟨P9836, oP9836, rP9836, pr9837, h9834, rfl⟩ := hp
              have h9835 := HS.trans h9811 h9834 (by decide)
              have xP9836 := oP9836
              unfold OKP at xP9836
              unfold RA at rP9836
              refine m_aload_n F rfl e_X10_readLine_170 ?_
              refine m_dup F rfl e_X10_readLine_171 ?_
              refine r_get F e_X10_readLine_172 fl_X10_202 h9835 rfl (fun v hv f9838 => ?_)
              obtain ⟨x9839, rfl⟩ := hv
              refine m_iconst F (v := 1) (by decide) e_X10_readLine_175 ?_
              refine m_iadd F e_X10_readLine_176 ?_
              refine Wm.top (fun x9840 _ => ?_)
              refine r_put F (g' := (⟨T, Z, u, h, P9836, L⟩ : RG)) e_X10_readLine_177 fp_X10_202 h9835 (by decide) ⟨_, rfl⟩ (fun _ _ _ _ q => q) (fun _ _ _ q => q) rfl rfl (by decide) (fun σ9841 h9842 g9843 g9844 f9845 => ?_)
              have pg9846 := pr9837.of (g9844 23 (by decide)) (g9844 21 (by decide))
              exact m_vret F hQ e_X10_readLine_180 (⟨P9836, oP9836, (by unfold RP; omega), (pg9846.mono (by omega)), h9842, rfl⟩)
            · refine m_aload_n F rfl e_X10_readLine_161 ?_
              refine m_iconst F (v := 1) (by decide) e_X10_readLine_162 ?_
              refine r_callV F e_X10_readLine_163 (q_X10_wrong (x_l X) V c T Z u h P9812 L _ _ 1 h9811.1 (hob) oP9812 (by first | omega | assumption | decide)) cb_X10_wrong ml_X10_150 im_X10_wrong se_X10_wrong h9811 rfl rfl (rest := []) rfl (Nat.le_of_ble_eq_true rfl) ⟨Nat.le_of_ble_eq_true rfl, Nat.le_of_ble_eq_true rfl⟩ ⟨Nat.le_of_ble_eq_true rfl, Nat.le_of_ble_eq_true rfl⟩ (fun r σ9847 hp => ?_)
              obtain ⟨h9848, rfl⟩ := hp
              have h9849 := HS.trans h9811 h9848 (by decide)
              refine m_aload_n F rfl e_X10_readLine_166 ?_
              refine r_callV F e_X10_readLine_167 (q_X10_goOn (x_l X) V c T 0 u h P9812 L _ _  h9849.1 (hob) oP9812 ) cb_X10_goOn ml_X10_154 im_X10_goOn se_X10_goOn h9849 rfl rfl (rest := []) rfl (Nat.le_of_ble_eq_true rfl) ⟨Nat.le_of_ble_eq_true rfl, Nat.le_of_ble_eq_true rfl⟩ ⟨Nat.le_of_ble_eq_true rfl, Nat.le_of_ble_eq_true rfl⟩ (fun r σ9850 hp => ?_)
              obtain ⟨P9853, oP9853, rP9853, pr9854, h9851, rfl⟩ := hp
              have h9852 := HS.trans h9849 h9851 (by decide)
              have xP9853 := oP9853
              unfold OKP at xP9853
              unfold RA at rP9853
              refine m_aload_n F rfl e_X10_readLine_170 ?_
              refine m_dup F rfl e_X10_readLine_171 ?_
              refine r_get F e_X10_readLine_172 fl_X10_202 h9852 rfl (fun v hv f9855 => ?_)
              obtain ⟨x9856, rfl⟩ := hv
              refine m_iconst F (v := 1) (by decide) e_X10_readLine_175 ?_
              refine m_iadd F e_X10_readLine_176 ?_
              refine Wm.top (fun x9857 _ => ?_)
              refine r_put F (g' := (⟨T, 0, u, h, P9853, L⟩ : RG)) e_X10_readLine_177 fp_X10_202 h9852 (by decide) ⟨_, rfl⟩ (fun _ _ _ _ q => q) (fun _ _ _ q => q) rfl rfl (by decide) (fun σ9858 h9859 g9860 g9861 f9862 => ?_)
              have pg9863 := pr9854.of (g9861 23 (by decide)) (g9861 21 (by decide))
              have h9864 : HS V c _ [0, 2, 17, 18, 19, 20, 21, 22, 23] _ _ := ⟨HR.mono (Z' := Z) (by intro e; first | rfl | assumption | omega) h9859.1, h9859.2⟩
              exact m_vret F hQ e_X10_readLine_180 (⟨P9853, oP9853, (by unfold RP; omega), (pg9863.mono (by omega)), h9864, rfl⟩)
        · refine m_aload_n F rfl e_X10_readLine_52 ?_
          refine r_getC F e_X10_readLine_53 fl_X10_120 h1 (f9807) ?_
          refine m_iconst F (v := 5) (by decide) e_X10_readLine_56 ?_
          refine m_icmp_ne F e_X10_readLine_57 (fun q57 => ?_) (fun q57 => ?_)
          · refine m_aload_n F rfl e_X10_readLine_80 ?_
            refine r_getC F e_X10_readLine_81 fl_X10_120 h1 (f9807) ?_
            refine m_iconst F (v := 3) (by decide) e_X10_readLine_84 ?_
            refine m_icmp_ne F e_X10_readLine_85 (fun q85 => ?_) (fun q85 => ?_)
            · refine m_aload_n F rfl e_X10_readLine_95 ?_
              refine r_getC F e_X10_readLine_96 fl_X10_120 h1 (f9807) ?_
              refine m_iconst F (v := 4) (by decide) e_X10_readLine_99 ?_
              refine m_icmp_ne F e_X10_readLine_100 (fun q100 => ?_) (fun q100 => ?_)
              · refine m_aload_n F rfl e_X10_readLine_110 ?_
                refine r_getC F e_X10_readLine_111 fl_X10_120 h1 (f9807) ?_
                refine m_bipush F (v := 6) (by decide) e_X10_readLine_114 ?_
                refine m_icmp_ne F e_X10_readLine_116 (fun q116 => ?_) (fun q116 => ?_)
                · refine m_aload_n F rfl e_X10_readLine_126 ?_
                  refine r_getC F e_X10_readLine_127 fl_X10_120 h1 (f9807) ?_
                  refine m_bipush F (v := 7) (by decide) e_X10_readLine_130 ?_
                  refine m_icmp_ne F e_X10_readLine_132 (fun q132 => ?_) (fun q132 => ?_)
                  · refine m_aload_n F rfl e_X10_readLine_142 ?_
                    refine r_callV F e_X10_readLine_143 (q_X10_readSeed (x_l X) V c T Z u h P L _ _  h1.1 (hob) hP ) cb_X10_readSeed ml_X10_199 im_X10_readSeed se_X10_readSeed h1 rfl rfl (rest := []) rfl (Nat.le_of_ble_eq_true rfl) ⟨Nat.le_of_ble_eq_true rfl, Nat.le_of_ble_eq_true rfl⟩ ⟨Nat.le_of_ble_eq_true rfl, Nat.le_of_ble_eq_true rfl⟩ (fun r σ9865 hp => ?_)
                    obtain ⟨P9868, oP9868, rP9868, h9866, rfl⟩ := hp
                    have h9867 := HS.trans h1 h9866 (by decide)
                    have xP9868 := oP9868
                    unfold OKP at xP9868
                    unfold RP at rP9868
                    refine m_aload_n F rfl e_X10_readLine_146 ?_
                    refine r_get F e_X10_readLine_147 fl_X10_141 h9867 rfl (fun v hv f9869 => ?_)
                    obtain ⟨x9870, hx9870, rfl⟩ := hv
                    replace hx9870 : Z = 0 → x9870 ≠ 0 := hx9870
                    refine m_if_ne F e_X10_readLine_150 (fun q150 => ?_) (fun q150 => ?_)
                    · have h9871 := HS.z0 h9867 (f9869) q150
                      refine m_aload_n F rfl e_X10_readLine_166 ?_
                      refine r_callV F e_X10_readLine_167 (q_X10_goOn (x_l X) V c T 0 u h P9868 L _ _  h9871.1 (hob) oP9868 ) cb_X10_goOn ml_X10_154 im_X10_goOn se_X10_goOn h9871 rfl rfl (rest := []) rfl (Nat.le_of_ble_eq_true rfl) ⟨Nat.le_of_ble_eq_true rfl, Nat.le_of_ble_eq_true rfl⟩ ⟨Nat.le_of_ble_eq_true rfl, Nat.le_of_ble_eq_true rfl⟩ (fun r σ9872 hp => ?_)
                      obtain ⟨P9875, oP9875, rP9875, pr9876, h9873, rfl⟩ := hp
                      have h9874 := HS.trans h9871 h9873 (by decide)
                      have xP9875 := oP9875
                      unfold OKP at xP9875
                      unfold RA at rP9875
                      refine m_aload_n F rfl e_X10_readLine_170 ?_
                      refine m_dup F rfl e_X10_readLine_171 ?_
                      refine r_get F e_X10_readLine_172 fl_X10_202 h9874 rfl (fun v hv f9877 => ?_)
                      obtain ⟨x9878, rfl⟩ := hv
                      refine m_iconst F (v := 1) (by decide) e_X10_readLine_175 ?_
                      refine m_iadd F e_X10_readLine_176 ?_
                      refine Wm.top (fun x9879 _ => ?_)
                      refine r_put F (g' := (⟨T, 0, u, h, P9875, L⟩ : RG)) e_X10_readLine_177 fp_X10_202 h9874 (by decide) ⟨_, rfl⟩ (fun _ _ _ _ q => q) (fun _ _ _ q => q) rfl rfl (by decide) (fun σ9880 h9881 g9882 g9883 f9884 => ?_)
                      have pg9885 := pr9876.of (g9883 23 (by decide)) (g9883 21 (by decide))
                      have h9886 : HS V c _ [0, 2, 17, 18, 19, 20, 21, 22, 23] _ _ := ⟨HR.mono (Z' := Z) (by intro e; first | rfl | assumption | omega) h9881.1, h9881.2⟩
                      exact m_vret F hQ e_X10_readLine_180 (⟨P9875, oP9875, (by unfold RP; omega), (pg9885.mono (by omega)), h9886, rfl⟩)
                    · subst q150
                      refine m_aload_n F rfl e_X10_readLine_153 ?_
                      refine r_get F e_X10_readLine_154 fl_X10_110 h9867 rfl (fun v hv f9887 => ?_)
                      obtain ⟨x9888, rfl⟩ := hv
                      refine m_iconst F (v := 3) (by decide) e_X10_readLine_157 ?_
                      refine m_icmp_eq F e_X10_readLine_158 (fun q158 => ?_) (fun q158 => ?_)
                      · subst q158
                        refine m_aload_n F rfl e_X10_readLine_166 ?_
                        refine r_callV F e_X10_readLine_167 (q_X10_goOn (x_l X) V c T Z u h P9868 L _ _  h9867.1 (hob) oP9868 ) cb_X10_goOn ml_X10_154 im_X10_goOn se_X10_goOn h9867 rfl rfl (rest := []) rfl (Nat.le_of_ble_eq_true rfl) ⟨Nat.le_of_ble_eq_true rfl, Nat.le_of_ble_eq_true rfl⟩ ⟨Nat.le_of_ble_eq_true rfl, Nat.le_of_ble_eq_true rfl⟩ (fun r σ9889 hp => ?_)
                        obtain ⟨P9892, oP9892, rP9892, pr9893, h9890, rfl⟩ := hp
                        have h9891 := HS.trans h9867 h9890 (by decide)
                        have xP9892 := oP9892
                        unfold OKP at xP9892
                        unfold RA at rP9892
                        refine m_aload_n F rfl e_X10_readLine_170 ?_
                        refine m_dup F rfl e_X10_readLine_171 ?_
                        refine r_get F e_X10_readLine_172 fl_X10_202 h9891 rfl (fun v hv f9894 => ?_)
                        obtain ⟨x9895, rfl⟩ := hv
                        refine m_iconst F (v := 1) (by decide) e_X10_readLine_175 ?_
                        refine m_iadd F e_X10_readLine_176 ?_
                        refine Wm.top (fun x9896 _ => ?_)
                        refine r_put F (g' := (⟨T, Z, u, h, P9892, L⟩ : RG)) e_X10_readLine_177 fp_X10_202 h9891 (by decide) ⟨_, rfl⟩ (fun _ _ _ _ q => q) (fun _ _ _ q => q) rfl rfl (by decide) (fun σ9897 h9898 g9899 g9900 f9901 => ?_)
                        have pg9902 := pr9893.of (g9900 23 (by decide)) (g9900 21 (by decide))
                        exact m_vret F hQ e_X10_readLine_180 (⟨P9892, oP9892, (by unfold RP; omega), (pg9902.mono (by omega)), h9898, rfl⟩)
                      · refine m_aload_n F rfl e_X10_readLine_161 ?_
                        refine m_iconst F (v := 1) (by decide) e_X10_readLine_162 ?_
                        refine r_callV F e_X10_readLine_163 (q_X10_wrong (x_l X) V c T Z u h P9868 L _ _ 1 h9867.1 (hob) oP9868 (by first | omega | assumption | decide)) cb_X10_wrong ml_X10_150 im_X10_wrong se_X10_wrong h9867 rfl rfl (rest := []) rfl (Nat.le_of_ble_eq_true rfl) ⟨Nat.le_of_ble_eq_true rfl, Nat.le_of_ble_eq_true rfl⟩ ⟨Nat.le_of_ble_eq_true rfl, Nat.le_of_ble_eq_true rfl⟩ (fun r σ9903 hp => ?_)
                        obtain ⟨h9904, rfl⟩ := hp
                        have h9905 := HS.trans h9867 h9904 (by decide)
                        refine m_aload_n F rfl e_X10_readLine_166 ?_
                        refine r_callV F e_X10_readLine_167 (q_X10_goOn (x_l X) V c T 0 u h P9868 L _ _  h9905.1 (hob) oP9868 ) cb_X10_goOn ml_X10_154 im_X10_goOn se_X10_goOn h9905 rfl rfl (rest := []) rfl (Nat.le_of_ble_eq_true rfl) ⟨Nat.le_of_ble_eq_true rfl, Nat.le_of_ble_eq_true rfl⟩ ⟨Nat.le_of_ble_eq_true rfl, Nat.le_of_ble_eq_true rfl⟩ (fun r σ9906 hp => ?_)
                        obtain ⟨P9909, oP9909, rP9909, pr9910, h9907, rfl⟩ := hp
                        have h9908 := HS.trans h9905 h9907 (by decide)
                        have xP9909 := oP9909
                        unfold OKP at xP9909
                        unfold RA at rP9909
                        refine m_aload_n F rfl e_X10_readLine_170 ?_
                        refine m_dup F rfl e_X10_readLine_171 ?_
                        refine r_get F e_X10_readLine_172 fl_X10_202 h9908 rfl (fun v hv f9911 => ?_)
                        obtain ⟨x9912, rfl⟩ := hv
                        refine m_iconst F (v := 1) (by decide) e_X10_readLine_175 ?_
                        refine m_iadd F e_X10_readLine_176 ?_
                        refine Wm.top (fun x9913 _ => ?_)
                        refine r_put F (g' := (⟨T, 0, u, h, P9909, L⟩ : RG)) e_X10_readLine_177 fp_X10_202 h9908 (by decide) ⟨_, rfl⟩ (fun _ _ _ _ q => q) (fun _ _ _ q => q) rfl rfl (by decide) (fun σ9914 h9915 g9916 g9917 f9918 => ?_)
                        have pg9919 := pr9910.of (g9917 23 (by decide)) (g9917 21 (by decide))
                        have h9920 : HS V c _ [0, 2, 17, 18, 19, 20, 21, 22, 23] _ _ := ⟨HR.mono (Z' := Z) (by intro e; first | rfl | assumption | omega) h9915.1, h9915.2⟩
                        exact m_vret F hQ e_X10_readLine_180 (⟨P9909, oP9909, (by unfold RP; omega), (pg9919.mono (by omega)), h9920, rfl⟩)
                  · subst q132
                    refine m_aload_n F rfl e_X10_readLine_135 ?_
                    refine r_callV F e_X10_readLine_136 (q_X10_readOption (x_l X) V c T Z u h P L _ _  h1.1 (hob) hP ) cb_X10_readOption ml_X10_196 im_X10_readOption se_X10_readOption h1 rfl rfl (rest := []) rfl (Nat.le_of_ble_eq_true rfl) ⟨Nat.le_of_ble_eq_true rfl, Nat.le_of_ble_eq_true rfl⟩ ⟨Nat.le_of_ble_eq_true rfl, Nat.le_of_ble_eq_true rfl⟩ (fun r σ9921 hp => ?_)
                    obtain ⟨P9924, oP9924, rP9924, h9922, rfl⟩ := hp
                    have h9923 := HS.trans h1 h9922 (by decide)
                    have xP9924 := oP9924
                    unfold OKP at xP9924
                    unfold RP at rP9924
                    refine m_goto F e_X10_readLine_139 ?_
                    refine m_aload_n F rfl e_X10_readLine_146 ?_
                    refine r_get F e_X10_readLine_147 fl_X10_141 h9923 rfl (fun v hv f9925 => ?_)
                    obtain ⟨x9926, hx9926, rfl⟩ := hv
                    replace hx9926 : Z = 0 → x9926 ≠ 0 := hx9926
                    refine m_if_ne F e_X10_readLine_150 (fun q150 => ?_) (fun q150 => ?_)
                    · have h9927 := HS.z0 h9923 (f9925) q150
                      refine m_aload_n F rfl e_X10_readLine_166 ?_
                      refine r_callV F e_X10_readLine_167 (q_X10_goOn (x_l X) V c T 0 u h P9924 L _ _  h9927.1 (hob) oP9924 ) cb_X10_goOn ml_X10_154 im_X10_goOn se_X10_goOn h9927 rfl rfl (rest := []) rfl (Nat.le_of_ble_eq_true rfl) ⟨Nat.le_of_ble_eq_true rfl, Nat.le_of_ble_eq_true rfl⟩ ⟨Nat.le_of_ble_eq_true rfl, Nat.le_of_ble_eq_true rfl⟩ (fun r σ9928 hp => ?_)
                      obtain ⟨P9931, oP9931, rP9931, pr9932, h9929, rfl⟩ := hp
                      have h9930 := HS.trans h9927 h9929 (by decide)
                      have xP9931 := oP9931
                      unfold OKP at xP9931
                      unfold RA at rP9931
                      refine m_aload_n F rfl e_X10_readLine_170 ?_
                      refine m_dup F rfl e_X10_readLine_171 ?_
                      refine r_get F e_X10_readLine_172 fl_X10_202 h9930 rfl (fun v hv f9933 => ?_)
                      obtain ⟨x9934, rfl⟩ := hv
                      refine m_iconst F (v := 1) (by decide) e_X10_readLine_175 ?_
                      refine m_iadd F e_X10_readLine_176 ?_
                      refine Wm.top (fun x9935 _ => ?_)
                      refine r_put F (g' := (⟨T, 0, u, h, P9931, L⟩ : RG)) e_X10_readLine_177 fp_X10_202 h9930 (by decide) ⟨_, rfl⟩ (fun _ _ _ _ q => q) (fun _ _ _ q => q) rfl rfl (by decide) (fun σ9936 h9937 g9938 g9939 f9940 => ?_)
                      have pg9941 := pr9932.of (g9939 23 (by decide)) (g9939 21 (by decide))
                      have h9942 : HS V c _ [0, 2, 17, 18, 19, 20, 21, 22, 23] _ _ := ⟨HR.mono (Z' := Z) (by intro e; first | rfl | assumption | omega) h9937.1, h9937.2⟩
                      exact m_vret F hQ e_X10_readLine_180 (⟨P9931, oP9931, (by unfold RP; omega), (pg9941.mono (by omega)), h9942, rfl⟩)
                    · subst q150
                      refine m_aload_n F rfl e_X10_readLine_153 ?_
                      refine r_get F e_X10_readLine_154 fl_X10_110 h9923 rfl (fun v hv f9943 => ?_)
                      obtain ⟨x9944, rfl⟩ := hv
                      refine m_iconst F (v := 3) (by decide) e_X10_readLine_157 ?_
                      refine m_icmp_eq F e_X10_readLine_158 (fun q158 => ?_) (fun q158 => ?_)
                      · subst q158
                        refine m_aload_n F rfl e_X10_readLine_166 ?_
                        refine r_callV F e_X10_readLine_167 (q_X10_goOn (x_l X) V c T Z u h P9924 L _ _  h9923.1 (hob) oP9924 ) cb_X10_goOn ml_X10_154 im_X10_goOn se_X10_goOn h9923 rfl rfl (rest := []) rfl (Nat.le_of_ble_eq_true rfl) ⟨Nat.le_of_ble_eq_true rfl, Nat.le_of_ble_eq_true rfl⟩ ⟨Nat.le_of_ble_eq_true rfl, Nat.le_of_ble_eq_true rfl⟩ (fun r σ9945 hp => ?_)
                        obtain ⟨P9948, oP9948, rP9948, pr9949, h9946, rfl⟩ := hp
                        have h9947 := HS.trans h9923 h9946 (by decide)
                        have xP9948 := oP9948
                        unfold OKP at xP9948
                        unfold RA at rP9948
                        refine m_aload_n F rfl e_X10_readLine_170 ?_
                        refine m_dup F rfl e_X10_readLine_171 ?_
                        refine r_get F e_X10_readLine_172 fl_X10_202 h9947 rfl (fun v hv f9950 => ?_)
                        obtain ⟨x9951, rfl⟩ := hv
                        refine m_iconst F (v := 1) (by decide) e_X10_readLine_175 ?_
                        refine m_iadd F e_X10_readLine_176 ?_
                        refine Wm.top (fun x9952 _ => ?_)
                        refine r_put F (g' := (⟨T, Z, u, h, P9948, L⟩ : RG)) e_X10_readLine_177 fp_X10_202 h9947 (by decide) ⟨_, rfl⟩ (fun _ _ _ _ q => q) (fun _ _ _ q => q) rfl rfl (by decide) (fun σ9953 h9954 g9955 g9956 f9957 => ?_)
                        have pg9958 := pr9949.of (g9956 23 (by decide)) (g9956 21 (by decide))
                        exact m_vret F hQ e_X10_readLine_180 (⟨P9948, oP9948, (by unfold RP; omega), (pg9958.mono (by omega)), h9954, rfl⟩)
                      · refine m_aload_n F rfl e_X10_readLine_161 ?_
                        refine m_iconst F (v := 1) (by decide) e_X10_readLine_162 ?_
                        refine r_callV F e_X10_readLine_163 (q_X10_wrong (x_l X) V c T Z u h P9924 L _ _ 1 h9923.1 (hob) oP9924 (by first | omega | assumption | decide)) cb_X10_wrong ml_X10_150 im_X10_wrong se_X10_wrong h9923 rfl rfl (rest := []) rfl (Nat.le_of_ble_eq_true rfl) ⟨Nat.le_of_ble_eq_true rfl, Nat.le_of_ble_eq_true rfl⟩ ⟨Nat.le_of_ble_eq_true rfl, Nat.le_of_ble_eq_true rfl⟩ (fun r σ9959 hp => ?_)
                        obtain ⟨h9960, rfl⟩ := hp
                        have h9961 := HS.trans h9923 h9960 (by decide)
                        refine m_aload_n F rfl e_X10_readLine_166 ?_
                        refine r_callV F e_X10_readLine_167 (q_X10_goOn (x_l X) V c T 0 u h P9924 L _ _  h9961.1 (hob) oP9924 ) cb_X10_goOn ml_X10_154 im_X10_goOn se_X10_goOn h9961 rfl rfl (rest := []) rfl (Nat.le_of_ble_eq_true rfl) ⟨Nat.le_of_ble_eq_true rfl, Nat.le_of_ble_eq_true rfl⟩ ⟨Nat.le_of_ble_eq_true rfl, Nat.le_of_ble_eq_true rfl⟩ (fun r σ9962 hp => ?_)
                        obtain ⟨P9965, oP9965, rP9965, pr9966, h9963, rfl⟩ := hp
                        have h9964 := HS.trans h9961 h9963 (by decide)
                        have xP9965 := oP9965
                        unfold OKP at xP9965
                        unfold RA at rP9965
                        refine m_aload_n F rfl e_X10_readLine_170 ?_
                        refine m_dup F rfl e_X10_readLine_171 ?_
                        refine r_get F e_X10_readLine_172 fl_X10_202 h9964 rfl (fun v hv f9967 => ?_)
                        obtain ⟨x9968, rfl⟩ := hv
                        refine m_iconst F (v := 1) (by decide) e_X10_readLine_175 ?_
                        refine m_iadd F e_X10_readLine_176 ?_
                        refine Wm.top (fun x9969 _ => ?_)
                        refine r_put F (g' := (⟨T, 0, u, h, P9965, L⟩ : RG)) e_X10_readLine_177 fp_X10_202 h9964 (by decide) ⟨_, rfl⟩ (fun _ _ _ _ q => q) (fun _ _ _ q => q) rfl rfl (by decide) (fun σ9970 h9971 g9972 g9973 f9974 => ?_)
                        have pg9975 := pr9966.of (g9973 23 (by decide)) (g9973 21 (by decide))
                        have h9976 : HS V c _ [0, 2, 17, 18, 19, 20, 21, 22, 23] _ _ := ⟨HR.mono (Z' := Z) (by intro e; first | rfl | assumption | omega) h9971.1, h9971.2⟩
                        exact m_vret F hQ e_X10_readLine_180 (⟨P9965, oP9965, (by unfold RP; omega), (pg9975.mono (by omega)), h9976, rfl⟩)
                · subst q116
                  refine m_aload_n F rfl e_X10_readLine_119 ?_
                  refine r_callV F e_X10_readLine_120 (q_X10_readChange (x_l X) V c T Z u h P L _ _  h1.1 (hob) hP ) cb_X10_readChange ml_X10_193 im_X10_readChange se_X10_readChange h1 rfl rfl (rest := []) rfl (Nat.le_of_ble_eq_true rfl) ⟨Nat.le_of_ble_eq_true rfl, Nat.le_of_ble_eq_true rfl⟩ ⟨Nat.le_of_ble_eq_true rfl, Nat.le_of_ble_eq_true rfl⟩ (fun r σ9977 hp => ?_)
                  obtain ⟨P9980, oP9980, rP9980, h9978, rfl⟩ := hp
                  have h9979 := HS.trans h1 h9978 (by decide)
                  have xP9980 := oP9980
                  unfold OKP at xP9980
                  unfold RP at rP9980
                  refine m_goto F e_X10_readLine_123 ?_
                  refine m_aload_n F rfl e_X10_readLine_146 ?_
                  refine r_get F e_X10_readLine_147 fl_X10_141 h9979 rfl (fun v hv f9981 => ?_)
                  obtain ⟨x9982, hx9982, rfl⟩ := hv
                  replace hx9982 : Z = 0 → x9982 ≠ 0 := hx9982
                  refine m_if_ne F e_X10_readLine_150 (fun q150 => ?_) (fun q150 => ?_)
                  · have h9983 := HS.z0 h9979 (f9981) q150
                    refine m_aload_n F rfl e_X10_readLine_166 ?_
                    refine r_callV F e_X10_readLine_167 (q_X10_goOn (x_l X) V c T 0 u h P9980 L _ _  h9983.1 (hob) oP9980 ) cb_X10_goOn ml_X10_154 im_X10_goOn se_X10_goOn h9983 rfl rfl (rest := []) rfl (Nat.le_of_ble_eq_true rfl) ⟨Nat.le_of_ble_eq_true rfl, Nat.le_of_ble_eq_true rfl⟩ ⟨Nat.le_of_ble_eq_true rfl, Nat.le_of_ble_eq_true rfl⟩ (fun r σ9984 hp => ?_)
                    obtain ⟨P9987, oP9987, rP9987, pr9988, h9985, rfl⟩ := hp
                    have h9986 := HS.trans h9983 h9985 (by decide)
                    have xP9987 := oP9987
                    unfold OKP at xP9987
                    unfold RA at rP9987
                    refine m_aload_n F rfl e_X10_readLine_170 ?_
                    refine m_dup F rfl e_X10_readLine_171 ?_
                    refine r_get F e_X10_readLine_172 fl_X10_202 h9986 rfl (fun v hv f9989 => ?_)
                    obtain ⟨x9990, rfl⟩ := hv
                    refine m_iconst F (v := 1) (by decide) e_X10_readLine_175 ?_
                    refine m_iadd F e_X10_readLine_176 ?_
                    refine Wm.top (fun x9991 _ => ?_)
                    refine r_put F (g' := (⟨T, 0, u, h, P9987, L⟩ : RG)) e_X10_readLine_177 fp_X10_202 h9986 (by decide) ⟨_, rfl⟩ (fun _ _ _ _ q => q) (fun _ _ _ q => q) rfl rfl (by decide) (fun σ9992 h9993 g9994 g9995 f9996 => ?_)
                    have pg9997 := pr9988.of (g9995 23 (by decide)) (g9995 21 (by decide))
                    have h9998 : HS V c _ [0, 2, 17, 18, 19, 20, 21, 22, 23] _ _ := ⟨HR.mono (Z' := Z) (by intro e; first | rfl | assumption | omega) h9993.1, h9993.2⟩
                    exact m_vret F hQ e_X10_readLine_180 (⟨P9987, oP9987, (by unfold RP; omega), (pg9997.mono (by omega)), h9998, rfl⟩)
                  · subst q150
                    refine m_aload_n F rfl e_X10_readLine_153 ?_
                    refine r_get F e_X10_readLine_154 fl_X10_110 h9979 rfl (fun v hv f9999 => ?_)
                    obtain ⟨x10000, rfl⟩ := hv
                    refine m_iconst F (v := 3) (by decide) e_X10_readLine_157 ?_
                    refine m_icmp_eq F e_X10_readLine_158 (fun q158 => ?_) (fun q158 => ?_)
                    · subst q158
                      refine m_aload_n F rfl e_X10_readLine_166 ?_
                      refine r_callV F e_X10_readLine_167 (q_X10_goOn (x_l X) V c T Z u h P9980 L _ _  h9979.1 (hob) oP9980 ) cb_X10_goOn ml_X10_154 im_X10_goOn se_X10_goOn h9979 rfl rfl (rest := []) rfl (Nat.le_of_ble_eq_true rfl) ⟨Nat.le_of_ble_eq_true rfl, Nat.le_of_ble_eq_true rfl⟩ ⟨Nat.le_of_ble_eq_true rfl, Nat.le_of_ble_eq_true rfl⟩ (fun r σ10001 hp => ?_)
                      obtain ⟨P10004, oP10004, rP10004, pr10005, h10002, rfl⟩ := hp
                      have h10003 := HS.trans h9979 h10002 (by decide)
                      have xP10004 := oP10004
                      unfold OKP at xP10004
                      unfold RA at rP10004
                      refine m_aload_n F rfl e_X10_readLine_170 ?_
                      refine m_dup F rfl e_X10_readLine_171 ?_
                      refine r_get F e_X10_readLine_172 fl_X10_202 h10003 rfl (fun v hv f10006 => ?_)
                      obtain ⟨x10007, rfl⟩ := hv
                      refine m_iconst F (v := 1) (by decide) e_X10_readLine_175 ?_
                      refine m_iadd F e_X10_readLine_176 ?_
                      refine Wm.top (fun x10008 _ => ?_)
                      refine r_put F (g' := (⟨T, Z, u, h, P10004, L⟩ : RG)) e_X10_readLine_177 fp_X10_202 h10003 (by decide) ⟨_, rfl⟩ (fun _ _ _ _ q => q) (fun _ _ _ q => q) rfl rfl (by decide) (fun σ10009 h10010 g10011 g10012 f10013 => ?_)
                      have pg10014 := pr10005.of (g10012 23 (by decide)) (g10012 21 (by decide))
                      exact m_vret F hQ e_X10_readLine_180 (⟨P10004, oP10004, (by unfold RP; omega), (pg10014.mono (by omega)), h10010, rfl⟩)
                    · refine m_aload_n F rfl e_X10_readLine_161 ?_
                      refine m_iconst F (v := 1) (by decide) e_X10_readLine_162 ?_
                      refine r_callV F e_X10_readLine_163 (q_X10_wrong (x_l X) V c T Z u h P9980 L _ _ 1 h9979.1 (hob) oP9980 (by first | omega | assumption | decide)) cb_X10_wrong ml_X10_150 im_X10_wrong se_X10_wrong h9979 rfl rfl (rest := []) rfl (Nat.le_of_ble_eq_true rfl) ⟨Nat.le_of_ble_eq_true rfl, Nat.le_of_ble_eq_true rfl⟩ ⟨Nat.le_of_ble_eq_true rfl, Nat.le_of_ble_eq_true rfl⟩ (fun r σ10015 hp => ?_)
                      obtain ⟨h10016, rfl⟩ := hp
                      have h10017 := HS.trans h9979 h10016 (by decide)
                      refine m_aload_n F rfl e_X10_readLine_166 ?_
                      refine r_callV F e_X10_readLine_167 (q_X10_goOn (x_l X) V c T 0 u h P9980 L _ _  h10017.1 (hob) oP9980 ) cb_X10_goOn ml_X10_154 im_X10_goOn se_X10_goOn h10017 rfl rfl (rest := []) rfl (Nat.le_of_ble_eq_true rfl) ⟨Nat.le_of_ble_eq_true rfl, Nat.le_of_ble_eq_true rfl⟩ ⟨Nat.le_of_ble_eq_true rfl, Nat.le_of_ble_eq_true rfl⟩ (fun r σ10018 hp => ?_)
                      obtain ⟨P10021, oP10021, rP10021, pr10022, h10019, rfl⟩ := hp
                      have h10020 := HS.trans h10017 h10019 (by decide)
                      have xP10021 := oP10021
                      unfold OKP at xP10021
                      unfold RA at rP10021
                      refine m_aload_n F rfl e_X10_readLine_170 ?_
                      refine m_dup F rfl e_X10_readLine_171 ?_
                      refine r_get F e_X10_readLine_172 fl_X10_202 h10020 rfl (fun v hv f10023 => ?_)
                      obtain ⟨x10024, rfl⟩ := hv
                      refine m_iconst F (v := 1) (by decide) e_X10_readLine_175 ?_
                      refine m_iadd F e_X10_readLine_176 ?_
                      refine Wm.top (fun x10025 _ => ?_)
                      refine r_put F (g' := (⟨T, 0, u, h, P10021, L⟩ : RG)) e_X10_readLine_177 fp_X10_202 h10020 (by decide) ⟨_, rfl⟩ (fun _ _ _ _ q => q) (fun _ _ _ q => q) rfl rfl (by decide) (fun σ10026 h10027 g10028 g10029 f10030 => ?_)
                      have pg10031 := pr10022.of (g10029 23 (by decide)) (g10029 21 (by decide))
                      have h10032 : HS V c _ [0, 2, 17, 18, 19, 20, 21, 22, 23] _ _ := ⟨HR.mono (Z' := Z) (by intro e; first | rfl | assumption | omega) h10027.1, h10027.2⟩
                      exact m_vret F hQ e_X10_readLine_180 (⟨P10021, oP10021, (by unfold RP; omega), (pg10031.mono (by omega)), h10032, rfl⟩)
              · subst q100
                refine m_aload_n F rfl e_X10_readLine_103 ?_
                refine r_callV F e_X10_readLine_104 (q_X10_readFee (x_l X) V c T Z u h P L _ _  h1.1 (hob) hP ) cb_X10_readFee ml_X10_190 im_X10_readFee se_X10_readFee h1 rfl rfl (rest := []) rfl (Nat.le_of_ble_eq_true rfl) ⟨Nat.le_of_ble_eq_true rfl, Nat.le_of_ble_eq_true rfl⟩ ⟨Nat.le_of_ble_eq_true rfl, Nat.le_of_ble_eq_true rfl⟩ (fun r σ10033 hp => ?_)
                obtain ⟨P10036, oP10036, rP10036, h10034, rfl⟩ := hp
                have h10035 := HS.trans h1 h10034 (by decide)
                have xP10036 := oP10036
                unfold OKP at xP10036
                unfold RP at rP10036
                refine m_goto F e_X10_readLine_107 ?_
                refine m_aload_n F rfl e_X10_readLine_146 ?_
                refine r_get F e_X10_readLine_147 fl_X10_141 h10035 rfl (fun v hv f10037 => ?_)
                obtain ⟨x10038, hx10038, rfl⟩ := hv
                replace hx10038 : Z = 0 → x10038 ≠ 0 := hx10038
                refine m_if_ne F e_X10_readLine_150 (fun q150 => ?_) (fun q150 => ?_)
                · have h10039 := HS.z0 h10035 (f10037) q150
                  refine m_aload_n F rfl e_X10_readLine_166 ?_
                  refine r_callV F e_X10_readLine_167 (q_X10_goOn (x_l X) V c T 0 u h P10036 L _ _  h10039.1 (hob) oP10036 ) cb_X10_goOn ml_X10_154 im_X10_goOn se_X10_goOn h10039 rfl rfl (rest := []) rfl (Nat.le_of_ble_eq_true rfl) ⟨Nat.le_of_ble_eq_true rfl, Nat.le_of_ble_eq_true rfl⟩ ⟨Nat.le_of_ble_eq_true rfl, Nat.le_of_ble_eq_true rfl⟩ (fun r σ10040 hp => ?_)
                  obtain ⟨P10043, oP10043, rP10043, pr10044, h10041, rfl⟩ := hp
                  have h10042 := HS.trans h10039 h10041 (by decide)
                  have xP10043 := oP10043
                  unfold OKP at xP10043
                  unfold RA at rP10043
                  refine m_aload_n F rfl e_X10_readLine_170 ?_
                  refine m_dup F rfl e_X10_readLine_171 ?_
                  refine r_get F e_X10_readLine_172 fl_X10_202 h10042 rfl (fun v hv f10045 => ?_)
                  obtain ⟨x10046, rfl⟩ := hv
                  refine m_iconst F (v := 1) (by decide) e_X10_readLine_175 ?_
                  refine m_iadd F e_X10_readLine_176 ?_
                  refine Wm.top (fun x10047 _ => ?_)
                  refine r_put F (g' := (⟨T, 0, u, h, P10043, L⟩ : RG)) e_X10_readLine_177 fp_X10_202 h10042 (by decide) ⟨_, rfl⟩ (fun _ _ _ _ q => q) (fun _ _ _ q => q) rfl rfl (by decide) (fun σ10048 h10049 g10050 g10051 f10052 => ?_)
                  have pg10053 := pr10044.of (g10051 23 (by decide)) (g10051 21 (by decide))
                  have h10054 : HS V c _ [0, 2, 17, 18, 19, 20, 21, 22, 23] _ _ := ⟨HR.mono (Z' := Z) (by intro e; first | rfl | assumption | omega) h10049.1, h10049.2⟩
                  exact m_vret F hQ e_X10_readLine_180 (⟨P10043, oP10043, (by unfold RP; omega), (pg10053.mono (by omega)), h10054, rfl⟩)
                · subst q150
                  refine m_aload_n F rfl e_X10_readLine_153 ?_
                  refine r_get F e_X10_readLine_154 fl_X10_110 h10035 rfl (fun v hv f10055 => ?_)
                  obtain ⟨x10056, rfl⟩ := hv
                  refine m_iconst F (v := 3) (by decide) e_X10_readLine_157 ?_
                  refine m_icmp_eq F e_X10_readLine_158 (fun q158 => ?_) (fun q158 => ?_)
                  · subst q158
                    refine m_aload_n F rfl e_X10_readLine_166 ?_
                    refine r_callV F e_X10_readLine_167 (q_X10_goOn (x_l X) V c T Z u h P10036 L _ _  h10035.1 (hob) oP10036 ) cb_X10_goOn ml_X10_154 im_X10_goOn se_X10_goOn h10035 rfl rfl (rest := []) rfl (Nat.le_of_ble_eq_true rfl) ⟨Nat.le_of_ble_eq_true rfl, Nat.le_of_ble_eq_true rfl⟩ ⟨Nat.le_of_ble_eq_true rfl, Nat.le_of_ble_eq_true rfl⟩ (fun r σ10057 hp => ?_)
                    obtain ⟨P10060, oP10060, rP10060, pr10061, h10058, rfl⟩ := hp
                    have h10059 := HS.trans h10035 h10058 (by decide)
                    have xP10060 := oP10060
                    unfold OKP at xP10060
                    unfold RA at rP10060
                    refine m_aload_n F rfl e_X10_readLine_170 ?_
                    refine m_dup F rfl e_X10_readLine_171 ?_
                    refine r_get F e_X10_readLine_172 fl_X10_202 h10059 rfl (fun v hv f10062 => ?_)
                    obtain ⟨x10063, rfl⟩ := hv
                    refine m_iconst F (v := 1) (by decide) e_X10_readLine_175 ?_
                    refine m_iadd F e_X10_readLine_176 ?_
                    refine Wm.top (fun x10064 _ => ?_)
                    refine r_put F (g' := (⟨T, Z, u, h, P10060, L⟩ : RG)) e_X10_readLine_177 fp_X10_202 h10059 (by decide) ⟨_, rfl⟩ (fun _ _ _ _ q => q) (fun _ _ _ q => q) rfl rfl (by decide) (fun σ10065 h10066 g10067 g10068 f10069 => ?_)
                    have pg10070 := pr10061.of (g10068 23 (by decide)) (g10068 21 (by decide))
                    exact m_vret F hQ e_X10_readLine_180 (⟨P10060, oP10060, (by unfold RP; omega), (pg10070.mono (by omega)), h10066, rfl⟩)
                  · refine m_aload_n F rfl e_X10_readLine_161 ?_
                    refine m_iconst F (v := 1) (by decide) e_X10_readLine_162 ?_
                    refine r_callV F e_X10_readLine_163 (q_X10_wrong (x_l X) V c T Z u h P10036 L _ _ 1 h10035.1 (hob) oP10036 (by first | omega | assumption | decide)) cb_X10_wrong ml_X10_150 im_X10_wrong se_X10_wrong h10035 rfl rfl (rest := []) rfl (Nat.le_of_ble_eq_true rfl) ⟨Nat.le_of_ble_eq_true rfl, Nat.le_of_ble_eq_true rfl⟩ ⟨Nat.le_of_ble_eq_true rfl, Nat.le_of_ble_eq_true rfl⟩ (fun r σ10071 hp => ?_)
                    obtain ⟨h10072, rfl⟩ := hp
                    have h10073 := HS.trans h10035 h10072 (by decide)
                    refine m_aload_n F rfl e_X10_readLine_166 ?_
                    refine r_callV F e_X10_readLine_167 (q_X10_goOn (x_l X) V c T 0 u h P10036 L _ _  h10073.1 (hob) oP10036 ) cb_X10_goOn ml_X10_154 im_X10_goOn se_X10_goOn h10073 rfl rfl (rest := []) rfl (Nat.le_of_ble_eq_true rfl) ⟨Nat.le_of_ble_eq_true rfl, Nat.le_of_ble_eq_true rfl⟩ ⟨Nat.le_of_ble_eq_true rfl, Nat.le_of_ble_eq_true rfl⟩ (fun r σ10074 hp => ?_)
                    obtain ⟨P10077, oP10077, rP10077, pr10078, h10075, rfl⟩ := hp
                    have h10076 := HS.trans h10073 h10075 (by decide)
                    have xP10077 := oP10077
                    unfold OKP at xP10077
                    unfold RA at rP10077
                    refine m_aload_n F rfl e_X10_readLine_170 ?_
                    refine m_dup F rfl e_X10_readLine_171 ?_
                    refine r_get F e_X10_readLine_172 fl_X10_202 h10076 rfl (fun v hv f10079 => ?_)
                    obtain ⟨x10080, rfl⟩ := hv
                    refine m_iconst F (v := 1) (by decide) e_X10_readLine_175 ?_
                    refine m_iadd F e_X10_readLine_176 ?_
                    refine Wm.top (fun x10081 _ => ?_)
                    refine r_put F (g' := (⟨T, 0, u, h, P10077, L⟩ : RG)) e_X10_readLine_177 fp_X10_202 h10076 (by decide) ⟨_, rfl⟩ (fun _ _ _ _ q => q) (fun _ _ _ q => q) rfl rfl (by decide) (fun σ10082 h10083 g10084 g10085 f10086 => ?_)
                    have pg10087 := pr10078.of (g10085 23 (by decide)) (g10085 21 (by decide))
                    have h10088 : HS V c _ [0, 2, 17, 18, 19, 20, 21, 22, 23] _ _ := ⟨HR.mono (Z' := Z) (by intro e; first | rfl | assumption | omega) h10083.1, h10083.2⟩
                    exact m_vret F hQ e_X10_readLine_180 (⟨P10077, oP10077, (by unfold RP; omega), (pg10087.mono (by omega)), h10088, rfl⟩)
            · subst q85
              refine m_aload_n F rfl e_X10_readLine_88 ?_
              refine r_callV F e_X10_readLine_89 (q_X10_readFair (x_l X) V c T Z u h P L _ _  h1.1 (hob) hP ) cb_X10_readFair ml_X10_187 im_X10_readFair se_X10_readFair h1 rfl rfl (rest := []) rfl (Nat.le_of_ble_eq_true rfl) ⟨Nat.le_of_ble_eq_true rfl, Nat.le_of_ble_eq_true rfl⟩ ⟨Nat.le_of_ble_eq_true rfl, Nat.le_of_ble_eq_true rfl⟩ (fun r σ10089 hp => ?_)
              obtain ⟨P10092, oP10092, rP10092, h10090, rfl⟩ := hp
              have h10091 := HS.trans h1 h10090 (by decide)
              have xP10092 := oP10092
              unfold OKP at xP10092
              unfold RP at rP10092
              refine m_goto F e_X10_readLine_92 ?_
              refine m_aload_n F rfl e_X10_readLine_146 ?_
              refine r_get F e_X10_readLine_147 fl_X10_141 h10091 rfl (fun v hv f10093 => ?_)
              obtain ⟨x10094, hx10094, rfl⟩ := hv
              replace hx10094 : Z = 0 → x10094 ≠ 0 := hx10094
              refine m_if_ne F e_X10_readLine_150 (fun q150 => ?_) (fun q150 => ?_)
              · have h10095 := HS.z0 h10091 (f10093) q150
                refine m_aload_n F rfl e_X10_readLine_166 ?_
                refine r_callV F e_X10_readLine_167 (q_X10_goOn (x_l X) V c T 0 u h P10092 L _ _  h10095.1 (hob) oP10092 ) cb_X10_goOn ml_X10_154 im_X10_goOn se_X10_goOn h10095 rfl rfl (rest := []) rfl (Nat.le_of_ble_eq_true rfl) ⟨Nat.le_of_ble_eq_true rfl, Nat.le_of_ble_eq_true rfl⟩ ⟨Nat.le_of_ble_eq_true rfl, Nat.le_of_ble_eq_true rfl⟩ (fun r σ10096 hp => ?_)
                obtain ⟨P10099, oP10099, rP10099, pr10100, h10097, rfl⟩ := hp
                have h10098 := HS.trans h10095 h10097 (by decide)
                have xP10099 := oP10099
                unfold OKP at xP10099
                unfold RA at rP10099
                refine m_aload_n F rfl e_X10_readLine_170 ?_
                refine m_dup F rfl e_X10_readLine_171 ?_
                refine r_get F e_X10_readLine_172 fl_X10_202 h10098 rfl (fun v hv f10101 => ?_)
                obtain ⟨x10102, rfl⟩ := hv
                refine m_iconst F (v := 1) (by decide) e_X10_readLine_175 ?_
                refine m_iadd F e_X10_readLine_176 ?_
                refine Wm.top (fun x10103 _ => ?_)
                refine r_put F (g' := (⟨T, 0, u, h, P10099, L⟩ : RG)) e_X10_readLine_177 fp_X10_202 h10098 (by decide) ⟨_, rfl⟩ (fun _ _ _ _ q => q) (fun _ _ _ q => q) rfl rfl (by decide) (fun σ10104 h10105 g10106 g10107 f10108 => ?_)
                have pg10109 := pr10100.of (g10107 23 (by decide)) (g10107 21 (by decide))
                have h10110 : HS V c _ [0, 2, 17, 18, 19, 20, 21, 22, 23] _ _ := ⟨HR.mono (Z' := Z) (by intro e; first | rfl | assumption | omega) h10105.1, h10105.2⟩
                exact m_vret F hQ e_X10_readLine_180 (⟨P10099, oP10099, (by unfold RP; omega), (pg10109.mono (by omega)), h10110, rfl⟩)
              · subst q150
                refine m_aload_n F rfl e_X10_readLine_153 ?_
                refine r_get F e_X10_readLine_154 fl_X10_110 h10091 rfl (fun v hv f10111 => ?_)
                obtain ⟨x10112, rfl⟩ := hv
                refine m_iconst F (v := 3) (by decide) e_X10_readLine_157 ?_
                refine m_icmp_eq F e_X10_readLine_158 (fun q158 => ?_) (fun q158 => ?_)
                · subst q158
                  refine m_aload_n F rfl e_X10_readLine_166 ?_
                  refine r_callV F e_X10_readLine_167 (q_X10_goOn (x_l X) V c T Z u h P10092 L _ _  h10091.1 (hob) oP10092 ) cb_X10_goOn ml_X10_154 im_X10_goOn se_X10_goOn h10091 rfl rfl (rest := []) rfl (Nat.le_of_ble_eq_true rfl) ⟨Nat.le_of_ble_eq_true rfl, Nat.le_of_ble_eq_true rfl⟩ ⟨Nat.le_of_ble_eq_true rfl, Nat.le_of_ble_eq_true rfl⟩ (fun r σ10113 hp => ?_)
                  obtain ⟨P10116, oP10116, rP10116, pr10117, h10114, rfl⟩ := hp
                  have h10115 := HS.trans h10091 h10114 (by decide)
                  have xP10116 := oP10116
                  unfold OKP at xP10116
                  unfold RA at rP10116
                  refine m_aload_n F rfl e_X10_readLine_170 ?_
                  refine m_dup F rfl e_X10_readLine_171 ?_
                  refine r_get F e_X10_readLine_172 fl_X10_202 h10115 rfl (fun v hv f10118 => ?_)
                  obtain ⟨x10119, rfl⟩ := hv
                  refine m_iconst F (v := 1) (by decide) e_X10_readLine_175 ?_
                  refine m_iadd F e_X10_readLine_176 ?_
                  refine Wm.top (fun x10120 _ => ?_)
                  refine r_put F (g' := (⟨T, Z, u, h, P10116, L⟩ : RG)) e_X10_readLine_177 fp_X10_202 h10115 (by decide) ⟨_, rfl⟩ (fun _ _ _ _ q => q) (fun _ _ _ q => q) rfl rfl (by decide) (fun σ10121 h10122 g10123 g10124 f10125 => ?_)
                  have pg10126 := pr10117.of (g10124 23 (by decide)) (g10124 21 (by decide))
                  exact m_vret F hQ e_X10_readLine_180 (⟨P10116, oP10116, (by unfold RP; omega), (pg10126.mono (by omega)), h10122, rfl⟩)
                · refine m_aload_n F rfl e_X10_readLine_161 ?_
                  refine m_iconst F (v := 1) (by decide) e_X10_readLine_162 ?_
                  refine r_callV F e_X10_readLine_163 (q_X10_wrong (x_l X) V c T Z u h P10092 L _ _ 1 h10091.1 (hob) oP10092 (by first | omega | assumption | decide)) cb_X10_wrong ml_X10_150 im_X10_wrong se_X10_wrong h10091 rfl rfl (rest := []) rfl (Nat.le_of_ble_eq_true rfl) ⟨Nat.le_of_ble_eq_true rfl, Nat.le_of_ble_eq_true rfl⟩ ⟨Nat.le_of_ble_eq_true rfl, Nat.le_of_ble_eq_true rfl⟩ (fun r σ10127 hp => ?_)
                  obtain ⟨h10128, rfl⟩ := hp
                  have h10129 := HS.trans h10091 h10128 (by decide)
                  refine m_aload_n F rfl e_X10_readLine_166 ?_
                  refine r_callV F e_X10_readLine_167 (q_X10_goOn (x_l X) V c T 0 u h P10092 L _ _  h10129.1 (hob) oP10092 ) cb_X10_goOn ml_X10_154 im_X10_goOn se_X10_goOn h10129 rfl rfl (rest := []) rfl (Nat.le_of_ble_eq_true rfl) ⟨Nat.le_of_ble_eq_true rfl, Nat.le_of_ble_eq_true rfl⟩ ⟨Nat.le_of_ble_eq_true rfl, Nat.le_of_ble_eq_true rfl⟩ (fun r σ10130 hp => ?_)
                  obtain ⟨P10133, oP10133, rP10133, pr10134, h10131, rfl⟩ := hp
                  have h10132 := HS.trans h10129 h10131 (by decide)
                  have xP10133 := oP10133
                  unfold OKP at xP10133
                  unfold RA at rP10133
                  refine m_aload_n F rfl e_X10_readLine_170 ?_
                  refine m_dup F rfl e_X10_readLine_171 ?_
                  refine r_get F e_X10_readLine_172 fl_X10_202 h10132 rfl (fun v hv f10135 => ?_)
                  obtain ⟨x10136, rfl⟩ := hv
                  refine m_iconst F (v := 1) (by decide) e_X10_readLine_175 ?_
                  refine m_iadd F e_X10_readLine_176 ?_
                  refine Wm.top (fun x10137 _ => ?_)
                  refine r_put F (g' := (⟨T, 0, u, h, P10133, L⟩ : RG)) e_X10_readLine_177 fp_X10_202 h10132 (by decide) ⟨_, rfl⟩ (fun _ _ _ _ q => q) (fun _ _ _ q => q) rfl rfl (by decide) (fun σ10138 h10139 g10140 g10141 f10142 => ?_)
                  have pg10143 := pr10134.of (g10141 23 (by decide)) (g10141 21 (by decide))
                  have h10144 : HS V c _ [0, 2, 17, 18, 19, 20, 21, 22, 23] _ _ := ⟨HR.mono (Z' := Z) (by intro e; first | rfl | assumption | omega) h10139.1, h10139.2⟩
                  exact m_vret F hQ e_X10_readLine_180 (⟨P10133, oP10133, (by unfold RP; omega), (pg10143.mono (by omega)), h10144, rfl⟩)
          · subst q57
            refine m_aload_n F rfl e_X10_readLine_60 ?_
            refine m_aload_n F rfl e_X10_readLine_61 ?_
            refine r_getC F e_X10_readLine_62 fl_X10_120 h1 (f9807) ?_
            refine m_iconst F (v := 2) (by decide) e_X10_readLine_65 ?_
            refine m_icmp_ne F e_X10_readLine_66 (fun _ => ?_) (fun q => absurd q (by decide))
            refine m_iconst F (v := 2) (by decide) e_X10_readLine_73 ?_
            refine r_callV F e_X10_readLine_74 (q_X10_readMark (x_l X) V c T Z u h P L _ _ 2 h1.1 (hob) hP ) cb_X10_readMark ml_X10_184 im_X10_readMark se_X10_readMark h1 rfl rfl (rest := []) rfl (Nat.le_of_ble_eq_true rfl) ⟨Nat.le_of_ble_eq_true rfl, Nat.le_of_ble_eq_true rfl⟩ ⟨Nat.le_of_ble_eq_true rfl, Nat.le_of_ble_eq_true rfl⟩ (fun r σ10145 hp => ?_)
            obtain ⟨P10148, oP10148, rP10148, h10146, rfl⟩ := hp
            have h10147 := HS.trans h1 h10146 (by decide)
            have xP10148 := oP10148
            unfold OKP at xP10148
            unfold RP at rP10148
            refine m_goto F e_X10_readLine_77 ?_
            refine m_aload_n F rfl e_X10_readLine_146 ?_
            refine r_get F e_X10_readLine_147 fl_X10_141 h10147 rfl (fun v hv f10149 => ?_)
            obtain ⟨x10150, hx10150, rfl⟩ := hv
            replace hx10150 : Z = 0 → x10150 ≠ 0 := hx10150
            refine m_if_ne F e_X10_readLine_150 (fun q150 => ?_) (fun q150 => ?_)
            · have h10151 := HS.z0 h10147 (f10149) q150
              refine m_aload_n F rfl e_X10_readLine_166 ?_
              refine r_callV F e_X10_readLine_167 (q_X10_goOn (x_l X) V c T 0 u h P10148 L _ _  h10151.1 (hob) oP10148 ) cb_X10_goOn ml_X10_154 im_X10_goOn se_X10_goOn h10151 rfl rfl (rest := []) rfl (Nat.le_of_ble_eq_true rfl) ⟨Nat.le_of_ble_eq_true rfl, Nat.le_of_ble_eq_true rfl⟩ ⟨Nat.le_of_ble_eq_true rfl, Nat.le_of_ble_eq_true rfl⟩ (fun r σ10152 hp => ?_)
              obtain ⟨P10155, oP10155, rP10155, pr10156, h10153, rfl⟩ := hp
              have h10154 := HS.trans h10151 h10153 (by decide)
              have xP10155 := oP10155
              unfold OKP at xP10155
              unfold RA at rP10155
              refine m_aload_n F rfl e_X10_readLine_170 ?_
              refine m_dup F rfl e_X10_readLine_171 ?_
              refine r_get F e_X10_readLine_172 fl_X10_202 h10154 rfl (fun v hv f10157 => ?_)
              obtain ⟨x10158, rfl⟩ := hv
              refine m_iconst F (v := 1) (by decide) e_X10_readLine_175 ?_
              refine m_iadd F e_X10_readLine_176 ?_
              refine Wm.top (fun x10159 _ => ?_)
              refine r_put F (g' := (⟨T, 0, u, h, P10155, L⟩ : RG)) e_X10_readLine_177 fp_X10_202 h10154 (by decide) ⟨_, rfl⟩ (fun _ _ _ _ q => q) (fun _ _ _ q => q) rfl rfl (by decide) (fun σ10160 h10161 g10162 g10163 f10164 => ?_)
              have pg10165 := pr10156.of (g10163 23 (by decide)) (g10163 21 (by decide))
              have h10166 : HS V c _ [0, 2, 17, 18, 19, 20, 21, 22, 23] _ _ := ⟨HR.mono (Z' := Z) (by intro e; first | rfl | assumption | omega) h10161.1, h10161.2⟩
              exact m_vret F hQ e_X10_readLine_180 (⟨P10155, oP10155, (by unfold RP; omega), (pg10165.mono (by omega)), h10166, rfl⟩)
            · subst q150
              refine m_aload_n F rfl e_X10_readLine_153 ?_
              refine r_get F e_X10_readLine_154 fl_X10_110 h10147 rfl (fun v hv f10167 => ?_)
              obtain ⟨x10168, rfl⟩ := hv
              refine m_iconst F (v := 3) (by decide) e_X10_readLine_157 ?_
              refine m_icmp_eq F e_X10_readLine_158 (fun q158 => ?_) (fun q158 => ?_)
              · subst q158
                refine m_aload_n F rfl e_X10_readLine_166 ?_
                refine r_callV F e_X10_readLine_167 (q_X10_goOn (x_l X) V c T Z u h P10148 L _ _  h10147.1 (hob) oP10148 ) cb_X10_goOn ml_X10_154 im_X10_goOn se_X10_goOn h10147 rfl rfl (rest := []) rfl (Nat.le_of_ble_eq_true rfl) ⟨Nat.le_of_ble_eq_true rfl, Nat.le_of_ble_eq_true rfl⟩ ⟨Nat.le_of_ble_eq_true rfl, Nat.le_of_ble_eq_true rfl⟩ (fun r σ10169 hp => ?_)
                obtain ⟨P10172, oP10172, rP10172, pr10173, h10170, rfl⟩ := hp
                have h10171 := HS.trans h10147 h10170 (by decide)
                have xP10172 := oP10172
                unfold OKP at xP10172
                unfold RA at rP10172
                refine m_aload_n F rfl e_X10_readLine_170 ?_
                refine m_dup F rfl e_X10_readLine_171 ?_
                refine r_get F e_X10_readLine_172 fl_X10_202 h10171 rfl (fun v hv f10174 => ?_)
                obtain ⟨x10175, rfl⟩ := hv
                refine m_iconst F (v := 1) (by decide) e_X10_readLine_175 ?_
                refine m_iadd F e_X10_readLine_176 ?_
                refine Wm.top (fun x10176 _ => ?_)
                refine r_put F (g' := (⟨T, Z, u, h, P10172, L⟩ : RG)) e_X10_readLine_177 fp_X10_202 h10171 (by decide) ⟨_, rfl⟩ (fun _ _ _ _ q => q) (fun _ _ _ q => q) rfl rfl (by decide) (fun σ10177 h10178 g10179 g10180 f10181 => ?_)
                have pg10182 := pr10173.of (g10180 23 (by decide)) (g10180 21 (by decide))
                exact m_vret F hQ e_X10_readLine_180 (⟨P10172, oP10172, (by unfold RP; omega), (pg10182.mono (by omega)), h10178, rfl⟩)
              · refine m_aload_n F rfl e_X10_readLine_161 ?_
                refine m_iconst F (v := 1) (by decide) e_X10_readLine_162 ?_
                refine r_callV F e_X10_readLine_163 (q_X10_wrong (x_l X) V c T Z u h P10148 L _ _ 1 h10147.1 (hob) oP10148 (by first | omega | assumption | decide)) cb_X10_wrong ml_X10_150 im_X10_wrong se_X10_wrong h10147 rfl rfl (rest := []) rfl (Nat.le_of_ble_eq_true rfl) ⟨Nat.le_of_ble_eq_true rfl, Nat.le_of_ble_eq_true rfl⟩ ⟨Nat.le_of_ble_eq_true rfl, Nat.le_of_ble_eq_true rfl⟩ (fun r σ10183 hp => ?_)
                obtain ⟨h10184, rfl⟩ := hp
                have h10185 := HS.trans h10147 h10184 (by decide)
                refine m_aload_n F rfl e_X10_readLine_166 ?_
                refine r_callV F e_X10_readLine_167 (q_X10_goOn (x_l X) V c T 0 u h P10148 L _ _  h10185.1 (hob) oP10148 ) cb_X10_goOn ml_X10_154 im_X10_goOn se_X10_goOn h10185 rfl rfl (rest := []) rfl (Nat.le_of_ble_eq_true rfl) ⟨Nat.le_of_ble_eq_true rfl, Nat.le_of_ble_eq_true rfl⟩ ⟨Nat.le_of_ble_eq_true rfl, Nat.le_of_ble_eq_true rfl⟩ (fun r σ10186 hp => ?_)
                obtain ⟨P10189, oP10189, rP10189, pr10190, h10187, rfl⟩ := hp
                have h10188 := HS.trans h10185 h10187 (by decide)
                have xP10189 := oP10189
                unfold OKP at xP10189
                unfold RA at rP10189
                refine m_aload_n F rfl e_X10_readLine_170 ?_
                refine m_dup F rfl e_X10_readLine_171 ?_
                refine r_get F e_X10_readLine_172 fl_X10_202 h10188 rfl (fun v hv f10191 => ?_)
                obtain ⟨x10192, rfl⟩ := hv
                refine m_iconst F (v := 1) (by decide) e_X10_readLine_175 ?_
                refine m_iadd F e_X10_readLine_176 ?_
                refine Wm.top (fun x10193 _ => ?_)
                refine r_put F (g' := (⟨T, 0, u, h, P10189, L⟩ : RG)) e_X10_readLine_177 fp_X10_202 h10188 (by decide) ⟨_, rfl⟩ (fun _ _ _ _ q => q) (fun _ _ _ q => q) rfl rfl (by decide) (fun σ10194 h10195 g10196 g10197 f10198 => ?_)
                have pg10199 := pr10190.of (g10197 23 (by decide)) (g10197 21 (by decide))
                have h10200 : HS V c _ [0, 2, 17, 18, 19, 20, 21, 22, 23] _ _ := ⟨HR.mono (Z' := Z) (by intro e; first | rfl | assumption | omega) h10195.1, h10195.2⟩
                exact m_vret F hQ e_X10_readLine_180 (⟨P10189, oP10189, (by unfold RP; omega), (pg10199.mono (by omega)), h10200, rfl⟩)
      · subst q34
        refine m_aload_n F rfl e_X10_readLine_37 ?_
        refine r_callV F e_X10_readLine_38 (q_X10_readPay (x_l X) V c T Z u h P L _ _  h1.1 (hob) hP ) cb_X10_readPay ml_X10_181 im_X10_readPay se_X10_readPay h1 rfl rfl (rest := []) rfl (Nat.le_of_ble_eq_true rfl) ⟨Nat.le_of_ble_eq_true rfl, Nat.le_of_ble_eq_true rfl⟩ ⟨Nat.le_of_ble_eq_true rfl, Nat.le_of_ble_eq_true rfl⟩ (fun r σ10201 hp => ?_)
        obtain ⟨P10204, oP10204, rP10204, h10202, rfl⟩ := hp
        have h10203 := HS.trans h1 h10202 (by decide)
        have xP10204 := oP10204
        unfold OKP at xP10204
        unfold RP at rP10204
        refine m_goto F e_X10_readLine_41 ?_
        refine m_aload_n F rfl e_X10_readLine_146 ?_
        refine r_get F e_X10_readLine_147 fl_X10_141 h10203 rfl (fun v hv f10205 => ?_)
        obtain ⟨x10206, hx10206, rfl⟩ := hv
        replace hx10206 : Z = 0 → x10206 ≠ 0 := hx10206
        refine m_if_ne F e_X10_readLine_150 (fun q150 => ?_) (fun q150 => ?_)
        · have h10207 := HS.z0 h10203 (f10205) q150
          refine m_aload_n F rfl e_X10_readLine_166 ?_
          refine r_callV F e_X10_readLine_167 (q_X10_goOn (x_l X) V c T 0 u h P10204 L _ _  h10207.1 (hob) oP10204 ) cb_X10_goOn ml_X10_154 im_X10_goOn se_X10_goOn h10207 rfl rfl (rest := []) rfl (Nat.le_of_ble_eq_true rfl) ⟨Nat.le_of_ble_eq_true rfl, Nat.le_of_ble_eq_true rfl⟩ ⟨Nat.le_of_ble_eq_true rfl, Nat.le_of_ble_eq_true rfl⟩ (fun r σ10208 hp => ?_)
          obtain ⟨P10211, oP10211, rP10211, pr10212, h10209, rfl⟩ := hp
          have h10210 := HS.trans h10207 h10209 (by decide)
          have xP10211 := oP10211
          unfold OKP at xP10211
          unfold RA at rP10211
          refine m_aload_n F rfl e_X10_readLine_170 ?_
          refine m_dup F rfl e_X10_readLine_171 ?_
          refine r_get F e_X10_readLine_172 fl_X10_202 h10210 rfl (fun v hv f10213 => ?_)
          obtain ⟨x10214, rfl⟩ := hv
          refine m_iconst F (v := 1) (by decide) e_X10_readLine_175 ?_
          refine m_iadd F e_X10_readLine_176 ?_
          refine Wm.top (fun x10215 _ => ?_)
          refine r_put F (g' := (⟨T, 0, u, h, P10211, L⟩ : RG)) e_X10_readLine_177 fp_X10_202 h10210 (by decide) ⟨_, rfl⟩ (fun _ _ _ _ q => q) (fun _ _ _ q => q) rfl rfl (by decide) (fun σ10216 h10217 g10218 g10219 f10220 => ?_)
          have pg10221 := pr10212.of (g10219 23 (by decide)) (g10219 21 (by decide))
          have h10222 : HS V c _ [0, 2, 17, 18, 19, 20, 21, 22, 23] _ _ := ⟨HR.mono (Z' := Z) (by intro e; first | rfl | assumption | omega) h10217.1, h10217.2⟩
          exact m_vret F hQ e_X10_readLine_180 (⟨P10211, oP10211, (by unfold RP; omega), (pg10221.mono (by omega)), h10222, rfl⟩)
        · subst q150
          refine m_aload_n F rfl e_X10_readLine_153 ?_
          refine r_get F e_X10_readLine_154 fl_X10_110 h10203 rfl (fun v hv f10223 => ?_)
          obtain ⟨x10224, rfl⟩ := hv
          refine m_iconst F (v := 3) (by decide) e_X10_readLine_157 ?_
          refine m_icmp_eq F e_X10_readLine_158 (fun q158 => ?_) (fun q158 => ?_)
          · subst q158
            refine m_aload_n F rfl e_X10_readLine_166 ?_
            refine r_callV F e_X10_readLine_167 (q_X10_goOn (x_l X) V c T Z u h P10204 L _ _  h10203.1 (hob) oP10204 ) cb_X10_goOn ml_X10_154 im_X10_goOn se_X10_goOn h10203 rfl rfl (rest := []) rfl (Nat.le_of_ble_eq_true rfl) ⟨Nat.le_of_ble_eq_true rfl, Nat.le_of_ble_eq_true rfl⟩ ⟨Nat.le_of_ble_eq_true rfl, Nat.le_of_ble_eq_true rfl⟩ (fun r σ10225 hp => ?_)
            obtain ⟨P10228, oP10228, rP10228, pr10229, h10226, rfl⟩ := hp
            have h10227 := HS.trans h10203 h10226 (by decide)
            have xP10228 := oP10228
            unfold OKP at xP10228
            unfold RA at rP10228
            refine m_aload_n F rfl e_X10_readLine_170 ?_
            refine m_dup F rfl e_X10_readLine_171 ?_
            refine r_get F e_X10_readLine_172 fl_X10_202 h10227 rfl (fun v hv f10230 => ?_)
            obtain ⟨x10231, rfl⟩ := hv
            refine m_iconst F (v := 1) (by decide) e_X10_readLine_175 ?_
            refine m_iadd F e_X10_readLine_176 ?_
            refine Wm.top (fun x10232 _ => ?_)
            refine r_put F (g' := (⟨T, Z, u, h, P10228, L⟩ : RG)) e_X10_readLine_177 fp_X10_202 h10227 (by decide) ⟨_, rfl⟩ (fun _ _ _ _ q => q) (fun _ _ _ q => q) rfl rfl (by decide) (fun σ10233 h10234 g10235 g10236 f10237 => ?_)
            have pg10238 := pr10229.of (g10236 23 (by decide)) (g10236 21 (by decide))
            exact m_vret F hQ e_X10_readLine_180 (⟨P10228, oP10228, (by unfold RP; omega), (pg10238.mono (by omega)), h10234, rfl⟩)
          · refine m_aload_n F rfl e_X10_readLine_161 ?_
            refine m_iconst F (v := 1) (by decide) e_X10_readLine_162 ?_
            refine r_callV F e_X10_readLine_163 (q_X10_wrong (x_l X) V c T Z u h P10204 L _ _ 1 h10203.1 (hob) oP10204 (by first | omega | assumption | decide)) cb_X10_wrong ml_X10_150 im_X10_wrong se_X10_wrong h10203 rfl rfl (rest := []) rfl (Nat.le_of_ble_eq_true rfl) ⟨Nat.le_of_ble_eq_true rfl, Nat.le_of_ble_eq_true rfl⟩ ⟨Nat.le_of_ble_eq_true rfl, Nat.le_of_ble_eq_true rfl⟩ (fun r σ10239 hp => ?_)
            obtain ⟨h10240, rfl⟩ := hp
            have h10241 := HS.trans h10203 h10240 (by decide)
            refine m_aload_n F rfl e_X10_readLine_166 ?_
            refine r_callV F e_X10_readLine_167 (q_X10_goOn (x_l X) V c T 0 u h P10204 L _ _  h10241.1 (hob) oP10204 ) cb_X10_goOn ml_X10_154 im_X10_goOn se_X10_goOn h10241 rfl rfl (rest := []) rfl (Nat.le_of_ble_eq_true rfl) ⟨Nat.le_of_ble_eq_true rfl, Nat.le_of_ble_eq_true rfl⟩ ⟨Nat.le_of_ble_eq_true rfl, Nat.le_of_ble_eq_true rfl⟩ (fun r σ10242 hp => ?_)
            obtain ⟨P10245, oP10245, rP10245, pr10246, h10243, rfl⟩ := hp
            have h10244 := HS.trans h10241 h10243 (by decide)
            have xP10245 := oP10245
            unfold OKP at xP10245
            unfold RA at rP10245
            refine m_aload_n F rfl e_X10_readLine_170 ?_
            refine m_dup F rfl e_X10_readLine_171 ?_
            refine r_get F e_X10_readLine_172 fl_X10_202 h10244 rfl (fun v hv f10247 => ?_)
            obtain ⟨x10248, rfl⟩ := hv
            refine m_iconst F (v := 1) (by decide) e_X10_readLine_175 ?_
            refine m_iadd F e_X10_readLine_176 ?_
            refine Wm.top (fun x10249 _ => ?_)
            refine r_put F (g' := (⟨T, 0, u, h, P10245, L⟩ : RG)) e_X10_readLine_177 fp_X10_202 h10244 (by decide) ⟨_, rfl⟩ (fun _ _ _ _ q => q) (fun _ _ _ q => q) rfl rfl (by decide) (fun σ10250 h10251 g10252 g10253 f10254 => ?_)
            have pg10255 := pr10246.of (g10253 23 (by decide)) (g10253 21 (by decide))
            have h10256 : HS V c _ [0, 2, 17, 18, 19, 20, 21, 22, 23] _ _ := ⟨HR.mono (Z' := Z) (by intro e; first | rfl | assumption | omega) h10251.1, h10251.2⟩
            exact m_vret F hQ e_X10_readLine_180 (⟨P10245, oP10245, (by unfold RP; omega), (pg10255.mono (by omega)), h10256, rfl⟩)
    · subst q19
      refine m_aload_n F rfl e_X10_readLine_22 ?_
      refine r_callV F e_X10_readLine_23 (q_X10_readLease (x_l X) V c T Z u h P L _ _  h1.1 (hob) hP ) cb_X10_readLease ml_X10_178 im_X10_readLease se_X10_readLease h1 rfl rfl (rest := []) rfl (Nat.le_of_ble_eq_true rfl) ⟨Nat.le_of_ble_eq_true rfl, Nat.le_of_ble_eq_true rfl⟩ ⟨Nat.le_of_ble_eq_true rfl, Nat.le_of_ble_eq_true rfl⟩ (fun r σ10257 hp => ?_)
      obtain ⟨P10260, oP10260, rP10260, h10258, rfl⟩ := hp
      have h10259 := HS.trans h1 h10258 (by decide)
      have xP10260 := oP10260
      unfold OKP at xP10260
      unfold RP at rP10260
      refine m_goto F e_X10_readLine_26 ?_
      refine m_aload_n F rfl e_X10_readLine_146 ?_
      refine r_get F e_X10_readLine_147 fl_X10_141 h10259 rfl (fun v hv f10261 => ?_)
      obtain ⟨x10262, hx10262, rfl⟩ := hv
      replace hx10262 : Z = 0 → x10262 ≠ 0 := hx10262
      refine m_if_ne F e_X10_readLine_150 (fun q150 => ?_) (fun q150 => ?_)
      · have h10263 := HS.z0 h10259 (f10261) q150
        refine m_aload_n F rfl e_X10_readLine_166 ?_
        refine r_callV F e_X10_readLine_167 (q_X10_goOn (x_l X) V c T 0 u h P10260 L _ _  h10263.1 (hob) oP10260 ) cb_X10_goOn ml_X10_154 im_X10_goOn se_X10_goOn h10263 rfl rfl (rest := []) rfl (Nat.le_of_ble_eq_true rfl) ⟨Nat.le_of_ble_eq_true rfl, Nat.le_of_ble_eq_true rfl⟩ ⟨Nat.le_of_ble_eq_true rfl, Nat.le_of_ble_eq_true rfl⟩ (fun r σ10264 hp => ?_)
        obtain ⟨P10267, oP10267, rP10267, pr10268, h10265, rfl⟩ := hp
        have h10266 := HS.trans h10263 h10265 (by decide)
        have xP10267 := oP10267
        unfold OKP at xP10267
        unfold RA at rP10267
        refine m_aload_n F rfl e_X10_readLine_170 ?_
        refine m_dup F rfl e_X10_readLine_171 ?_
        refine r_get F e_X10_readLine_172 fl_X10_202 h10266 rfl (fun v hv f10269 => ?_)
        obtain ⟨x10270, rfl⟩ := hv
        refine m_iconst F (v := 1) (by decide) e_X10_readLine_175 ?_
        refine m_iadd F e_X10_readLine_176 ?_
        refine Wm.top (fun x10271 _ => ?_)
        refine r_put F (g' := (⟨T, 0, u, h, P10267, L⟩ : RG)) e_X10_readLine_177 fp_X10_202 h10266 (by decide) ⟨_, rfl⟩ (fun _ _ _ _ q => q) (fun _ _ _ q => q) rfl rfl (by decide) (fun σ10272 h10273 g10274 g10275 f10276 => ?_)
        have pg10277 := pr10268.of (g10275 23 (by decide)) (g10275 21 (by decide))
        have h10278 : HS V c _ [0, 2, 17, 18, 19, 20, 21, 22, 23] _ _ := ⟨HR.mono (Z' := Z) (by intro e; first | rfl | assumption | omega) h10273.1, h10273.2⟩
        exact m_vret F hQ e_X10_readLine_180 (⟨P10267, oP10267, (by unfold RP; omega), (pg10277.mono (by omega)), h10278, rfl⟩)
      · subst q150
        refine m_aload_n F rfl e_X10_readLine_153 ?_
        refine r_get F e_X10_readLine_154 fl_X10_110 h10259 rfl (fun v hv f10279 => ?_)
        obtain ⟨x10280, rfl⟩ := hv
        refine m_iconst F (v := 3) (by decide) e_X10_readLine_157 ?_
        refine m_icmp_eq F e_X10_readLine_158 (fun q158 => ?_) (fun q158 => ?_)
        · subst q158
          refine m_aload_n F rfl e_X10_readLine_166 ?_
          refine r_callV F e_X10_readLine_167 (q_X10_goOn (x_l X) V c T Z u h P10260 L _ _  h10259.1 (hob) oP10260 ) cb_X10_goOn ml_X10_154 im_X10_goOn se_X10_goOn h10259 rfl rfl (rest := []) rfl (Nat.le_of_ble_eq_true rfl) ⟨Nat.le_of_ble_eq_true rfl, Nat.le_of_ble_eq_true rfl⟩ ⟨Nat.le_of_ble_eq_true rfl, Nat.le_of_ble_eq_true rfl⟩ (fun r σ10281 hp => ?_)
          obtain ⟨P10284, oP10284, rP10284, pr10285, h10282, rfl⟩ := hp
          have h10283 := HS.trans h10259 h10282 (by decide)
          have xP10284 := oP10284
          unfold OKP at xP10284
          unfold RA at rP10284
          refine m_aload_n F rfl e_X10_readLine_170 ?_
          refine m_dup F rfl e_X10_readLine_171 ?_
          refine r_get F e_X10_readLine_172 fl_X10_202 h10283 rfl (fun v hv f10286 => ?_)
          obtain ⟨x10287, rfl⟩ := hv
          refine m_iconst F (v := 1) (by decide) e_X10_readLine_175 ?_
          refine m_iadd F e_X10_readLine_176 ?_
          refine Wm.top (fun x10288 _ => ?_)
          refine r_put F (g' := (⟨T, Z, u, h, P10284, L⟩ : RG)) e_X10_readLine_177 fp_X10_202 h10283 (by decide) ⟨_, rfl⟩ (fun _ _ _ _ q => q) (fun _ _ _ q => q) rfl rfl (by decide) (fun σ10289 h10290 g10291 g10292 f10293 => ?_)
          have pg10294 := pr10285.of (g10292 23 (by decide)) (g10292 21 (by decide))
          exact m_vret F hQ e_X10_readLine_180 (⟨P10284, oP10284, (by unfold RP; omega), (pg10294.mono (by omega)), h10290, rfl⟩)
        · refine m_aload_n F rfl e_X10_readLine_161 ?_
          refine m_iconst F (v := 1) (by decide) e_X10_readLine_162 ?_
          refine r_callV F e_X10_readLine_163 (q_X10_wrong (x_l X) V c T Z u h P10260 L _ _ 1 h10259.1 (hob) oP10260 (by first | omega | assumption | decide)) cb_X10_wrong ml_X10_150 im_X10_wrong se_X10_wrong h10259 rfl rfl (rest := []) rfl (Nat.le_of_ble_eq_true rfl) ⟨Nat.le_of_ble_eq_true rfl, Nat.le_of_ble_eq_true rfl⟩ ⟨Nat.le_of_ble_eq_true rfl, Nat.le_of_ble_eq_true rfl⟩ (fun r σ10295 hp => ?_)
          obtain ⟨h10296, rfl⟩ := hp
          have h10297 := HS.trans h10259 h10296 (by decide)
          refine m_aload_n F rfl e_X10_readLine_166 ?_
          refine r_callV F e_X10_readLine_167 (q_X10_goOn (x_l X) V c T 0 u h P10260 L _ _  h10297.1 (hob) oP10260 ) cb_X10_goOn ml_X10_154 im_X10_goOn se_X10_goOn h10297 rfl rfl (rest := []) rfl (Nat.le_of_ble_eq_true rfl) ⟨Nat.le_of_ble_eq_true rfl, Nat.le_of_ble_eq_true rfl⟩ ⟨Nat.le_of_ble_eq_true rfl, Nat.le_of_ble_eq_true rfl⟩ (fun r σ10298 hp => ?_)
          obtain ⟨P10301, oP10301, rP10301, pr10302, h10299, rfl⟩ := hp
          have h10300 := HS.trans h10297 h10299 (by decide)
          have xP10301 := oP10301
          unfold OKP at xP10301
          unfold RA at rP10301
          refine m_aload_n F rfl e_X10_readLine_170 ?_
          refine m_dup F rfl e_X10_readLine_171 ?_
          refine r_get F e_X10_readLine_172 fl_X10_202 h10300 rfl (fun v hv f10303 => ?_)
          obtain ⟨x10304, rfl⟩ := hv
          refine m_iconst F (v := 1) (by decide) e_X10_readLine_175 ?_
          refine m_iadd F e_X10_readLine_176 ?_
          refine Wm.top (fun x10305 _ => ?_)
          refine r_put F (g' := (⟨T, 0, u, h, P10301, L⟩ : RG)) e_X10_readLine_177 fp_X10_202 h10300 (by decide) ⟨_, rfl⟩ (fun _ _ _ _ q => q) (fun _ _ _ q => q) rfl rfl (by decide) (fun σ10306 h10307 g10308 g10309 f10310 => ?_)
          have pg10311 := pr10302.of (g10309 23 (by decide)) (g10309 21 (by decide))
          have h10312 : HS V c _ [0, 2, 17, 18, 19, 20, 21, 22, 23] _ _ := ⟨HR.mono (Z' := Z) (by intro e; first | rfl | assumption | omega) h10307.1, h10307.2⟩
          exact m_vret F hQ e_X10_readLine_180 (⟨P10301, oP10301, (by unfold RP; omega), (pg10311.mono (by omega)), h10312, rfl⟩)
  · refine m_aload_n F rfl e_X10_readLine_7 ?_
    refine m_iconst F (v := 1) (by decide) e_X10_readLine_8 ?_
    refine r_callV F e_X10_readLine_9 (q_X10_wrong (x_l X) V c T Z u h P L _ _ 1 h1.1 (hob) hP (by first | omega | assumption | decide)) cb_X10_wrong ml_X10_150 im_X10_wrong se_X10_wrong h1 rfl rfl (rest := []) rfl (Nat.le_of_ble_eq_true rfl) ⟨Nat.le_of_ble_eq_true rfl, Nat.le_of_ble_eq_true rfl⟩ ⟨Nat.le_of_ble_eq_true rfl, Nat.le_of_ble_eq_true rfl⟩ (fun r σ10313 hp => ?_)
    obtain ⟨h10314, rfl⟩ := hp
    have h10315 := HS.trans h1 h10314 (by decide)
    refine m_goto F e_X10_readLine_12 ?_
    refine m_aload_n F rfl e_X10_readLine_146 ?_
    refine r_get F e_X10_readLine_147 fl_X10_141 h10315 rfl (fun v hv f10316 => ?_)
    obtain ⟨x10317, hx10317, rfl⟩ := hv
    replace hx10317 : 0 = 0 → x10317 ≠ 0 := hx10317
    refine m_if_ne F e_X10_readLine_150 (fun q150 => ?_) (fun q150 => ?_)
    · have h10318 := HS.z0 h10315 (f10316) q150
      refine m_aload_n F rfl e_X10_readLine_166 ?_
      refine r_callV F e_X10_readLine_167 (q_X10_goOn (x_l X) V c T 0 u h P L _ _  h10318.1 (hob) hP ) cb_X10_goOn ml_X10_154 im_X10_goOn se_X10_goOn h10318 rfl rfl (rest := []) rfl (Nat.le_of_ble_eq_true rfl) ⟨Nat.le_of_ble_eq_true rfl, Nat.le_of_ble_eq_true rfl⟩ ⟨Nat.le_of_ble_eq_true rfl, Nat.le_of_ble_eq_true rfl⟩ (fun r σ10319 hp => ?_)
      obtain ⟨P10322, oP10322, rP10322, pr10323, h10320, rfl⟩ := hp
      have h10321 := HS.trans h10318 h10320 (by decide)
      have xP10322 := oP10322
      unfold OKP at xP10322
      unfold RA at rP10322
      refine m_aload_n F rfl e_X10_readLine_170 ?_
      refine m_dup F rfl e_X10_readLine_171 ?_
      refine r_get F e_X10_readLine_172 fl_X10_202 h10321 rfl (fun v hv f10324 => ?_)
      obtain ⟨x10325, rfl⟩ := hv
      refine m_iconst F (v := 1) (by decide) e_X10_readLine_175 ?_
      refine m_iadd F e_X10_readLine_176 ?_
      refine Wm.top (fun x10326 _ => ?_)
      refine r_put F (g' := (⟨T, 0, u, h, P10322, L⟩ : RG)) e_X10_readLine_177 fp_X10_202 h10321 (by decide) ⟨_, rfl⟩ (fun _ _ _ _ q => q) (fun _ _ _ q => q) rfl rfl (by decide) (fun σ10327 h10328 g10329 g10330 f10331 => ?_)
      have pg10332 := pr10323.of (g10330 23 (by decide)) (g10330 21 (by decide))
      have h10333 : HS V c _ [0, 2, 17, 18, 19, 20, 21, 22, 23] _ _ := ⟨HR.mono (Z' := Z) (by intro e; first | rfl | assumption | omega) h10328.1, h10328.2⟩
      exact m_vret F hQ e_X10_readLine_180 (⟨P10322, oP10322, (by unfold RP; omega), (pg10332.mono (by omega)), h10333, rfl⟩)
    · first | exact absurd q150 (hx10317 rfl) | contradiction
set_option maxRecDepth 20000 in
theorem q_X10_freshText (l : Launch) (V : VX) (c T Z u h : Nat) (P : NP) (L : Nat → LQ) (N : Nat) (σ : Mem)  (h0 : HR V c ⟨T, Z, u, h, P, L⟩ σ) (hob : OKB L) (hP : OKP P)  : Ct l V yX10_freshText cX10_freshText 2 none 1 0 0 N σ [.ref c] (fun r τ => ∃ P9 : NP, OKP P9 ∧ RP P P9 ∧ HS V c (⟨T, Z, u, h, P9, L⟩ : RG) [0, 1, 2, 4, 5, 6, 7, 8, 9, 10, 11, 12, 13, 14, 15, 16, 17, 18, 19, 20, 21, 22, 23] σ τ ∧ r = none) := by
  refine Ct.of (by decide) (Nat.le_of_ble_eq_true rfl) [(0, .ref c)] rfl (fun X hX F hQ => ?_)
  have hPP := hP
  unfold OKP at hPP
  have h1 : HS V c ⟨T, Z, u, h, P, L⟩ [0, 1, 2, 4, 5, 6, 7, 8, 9, 10, 11, 12, 13, 14, 15, 16, 17, 18, 19, 20, 21, 22, 23] σ σ := HS.start h0
  refine m_iconst F (v := 0) (by decide) e_X10_freshText_0 ?_
  refine m_istore_n F (lv' := [(1, .int 0), (0, .ref c)]) e_X10_freshText_1 (by decide) rfl ?_
  refine m_iload_n F rfl e_X10_freshText_2 ?_
  refine m_iconst F (v := 5) (by decide) e_X10_freshText_3 ?_
  refine m_icmp_ge F e_X10_freshText_4 (fun q => absurd q (by decide)) (fun _ => ?_)
  refine m_aload_n F rfl e_X10_freshText_7 ?_
  refine m_iload_n F rfl e_X10_freshText_8 ?_
  refine m_iconst F (v := 0) (by decide) e_X10_freshText_9 ?_
  refine r_callV F e_X10_freshText_10 (q_X10_reads0 (x_l X) V c T Z u h P L _ _ 0 h1.1 (hob) hP (by omega) (by first | omega | assumption | decide)) cb_X10_reads ml_X10_170 im_X10_reads se_X10_reads h1 rfl rfl (rest := []) rfl (Nat.le_of_ble_eq_true rfl) ⟨Nat.le_of_ble_eq_true rfl, Nat.le_of_ble_eq_true rfl⟩ ⟨Nat.le_of_ble_eq_true rfl, Nat.le_of_ble_eq_true rfl⟩ (fun r σ10334 hp => ?_)
  obtain ⟨h10335, rfl⟩ := hp
  have h10336 := HS.trans h1 h10335 (by decide)
  obtain ⟨P10337, eP10337⟩ : ∃ P9, P9 = (mkP P.n0 P.n2 0 P.n7 P.m0 P.m5 P.w2 P.w7 P.kk P.a) := ⟨_, rfl⟩
  rw [← eP10337] at h10336
  have fP10337 : P10337.n0 = P.n0 ∧ P10337.n2 = P.n2 ∧ P10337.n5 = 0 ∧ P10337.n7 = P.n7 ∧ P10337.m0 = P.m0 ∧ P10337.m5 = P.m5 ∧ P10337.w2 = P.w2 ∧ P10337.w7 = P.w7 ∧ P10337.kk = P.kk ∧ P10337.a = P.a := by rw [eP10337]; exact ⟨rfl, rfl, rfl, rfl, rfl, rfl, rfl, rfl, rfl, rfl⟩
  refine m_iinc F (v := 1) (lv' := [(1, .int 1), (0, .ref c)]) e_X10_freshText_13 rfl (by decide) (by decide) rfl ?_
  refine m_goto F e_X10_freshText_16 ?_
  refine m_iload_n F rfl e_X10_freshText_2 ?_
  refine m_iconst F (v := 5) (by decide) e_X10_freshText_3 ?_
  refine m_icmp_ge F e_X10_freshText_4 (fun q => absurd q (by decide)) (fun _ => ?_)
  refine m_aload_n F rfl e_X10_freshText_7 ?_
  refine m_iload_n F rfl e_X10_freshText_8 ?_
  refine m_iconst F (v := 0) (by decide) e_X10_freshText_9 ?_
  have oP10341 : OKP P10337 := by unfold OKP; omega
  refine r_callV F e_X10_freshText_10 (q_X10_reads1 (x_l X) V c T Z u h P10337 L _ _ 0 h10336.1 (hob) oP10341 ) cb_X10_reads ml_X10_170 im_X10_reads se_X10_reads h10336 rfl rfl (rest := []) rfl (Nat.le_of_ble_eq_true rfl) ⟨Nat.le_of_ble_eq_true rfl, Nat.le_of_ble_eq_true rfl⟩ ⟨Nat.le_of_ble_eq_true rfl, Nat.le_of_ble_eq_true rfl⟩ (fun r σ10338 hp => ?_)
  obtain ⟨h10339, rfl⟩ := hp
  have h10340 := HS.trans h10336 h10339 (by decide)
  refine m_iinc F (v := 2) (lv' := [(1, .int 2), (0, .ref c)]) e_X10_freshText_13 rfl (by decide) (by decide) rfl ?_
  refine m_goto F e_X10_freshText_16 ?_
  refine m_iload_n F rfl e_X10_freshText_2 ?_
  refine m_iconst F (v := 5) (by decide) e_X10_freshText_3 ?_
  refine m_icmp_ge F e_X10_freshText_4 (fun q => absurd q (by decide)) (fun _ => ?_)
  refine m_aload_n F rfl e_X10_freshText_7 ?_
  refine m_iload_n F rfl e_X10_freshText_8 ?_
  refine m_iconst F (v := 0) (by decide) e_X10_freshText_9 ?_
  refine r_callV F e_X10_freshText_10 (q_X10_reads2 (x_l X) V c T Z u h P10337 L _ _ 0 h10340.1 (hob) oP10341 (by omega) (by first | omega | assumption | decide)) cb_X10_reads ml_X10_170 im_X10_reads se_X10_reads h10340 rfl rfl (rest := []) rfl (Nat.le_of_ble_eq_true rfl) ⟨Nat.le_of_ble_eq_true rfl, Nat.le_of_ble_eq_true rfl⟩ ⟨Nat.le_of_ble_eq_true rfl, Nat.le_of_ble_eq_true rfl⟩ (fun r σ10342 hp => ?_)
  obtain ⟨h10343, rfl⟩ := hp
  have h10344 := HS.trans h10340 h10343 (by decide)
  obtain ⟨P10345, eP10345⟩ : ∃ P9, P9 = (mkP P10337.n0 P10337.n2 P10337.n5 0 P10337.m0 P10337.m5 P10337.w2 P10337.w7 P10337.kk P10337.a) := ⟨_, rfl⟩
  rw [← eP10345] at h10344
  have fP10345 : P10345.n0 = P10337.n0 ∧ P10345.n2 = P10337.n2 ∧ P10345.n5 = P10337.n5 ∧ P10345.n7 = 0 ∧ P10345.m0 = P10337.m0 ∧ P10345.m5 = P10337.m5 ∧ P10345.w2 = P10337.w2 ∧ P10345.w7 = P10337.w7 ∧ P10345.kk = P10337.kk ∧ P10345.a = P10337.a := by rw [eP10345]; exact ⟨rfl, rfl, rfl, rfl, rfl, rfl, rfl, rfl, rfl, rfl⟩
  refine m_iinc F (v := 3) (lv' := [(1, .int 3), (0, .ref c)]) e_X10_freshText_13 rfl (by decide) (by decide) rfl ?_
  refine m_goto F e_X10_freshText_16 ?_
  refine m_iload_n F rfl e_X10_freshText_2 ?_
  refine m_iconst F (v := 5) (by decide) e_X10_freshText_3 ?_
  refine m_icmp_ge F e_X10_freshText_4 (fun q => absurd q (by decide)) (fun _ => ?_)
  refine m_aload_n F rfl e_X10_freshText_7 ?_
  refine m_iload_n F rfl e_X10_freshText_8 ?_
  refine m_iconst F (v := 0) (by decide) e_X10_freshText_9 ?_
  have oP10349 : OKP P10345 := by unfold OKP; omega
  refine r_callV F e_X10_freshText_10 (q_X10_reads3 (x_l X) V c T Z u h P10345 L _ _ 0 h10344.1 (hob) oP10349 (by omega)) cb_X10_reads ml_X10_170 im_X10_reads se_X10_reads h10344 rfl rfl (rest := []) rfl (Nat.le_of_ble_eq_true rfl) ⟨Nat.le_of_ble_eq_true rfl, Nat.le_of_ble_eq_true rfl⟩ ⟨Nat.le_of_ble_eq_true rfl, Nat.le_of_ble_eq_true rfl⟩ (fun r σ10346 hp => ?_)
  obtain ⟨h10347, rfl⟩ := hp
  have h10348 := HS.trans h10344 h10347 (by decide)
  refine m_iinc F (v := 4) (lv' := [(1, .int 4), (0, .ref c)]) e_X10_freshText_13 rfl (by decide) (by decide) rfl ?_
  refine m_goto F e_X10_freshText_16 ?_
  refine m_iload_n F rfl e_X10_freshText_2 ?_
  refine m_iconst F (v := 5) (by decide) e_X10_freshText_3 ?_
  refine m_icmp_ge F e_X10_freshText_4 (fun q => absurd q (by decide)) (fun _ => ?_)
  refine m_aload_n F rfl e_X10_freshText_7 ?_
  refine m_iload_n F rfl e_X10_freshText_8 ?_
  refine m_iconst F (v := 0) (by decide) e_X10_freshText_9 ?_
  refine r_callV F e_X10_freshText_10 (q_X10_reads4 (x_l X) V c T Z u h P10345 L _ _ 0 h10348.1 (hob) oP10349 ) cb_X10_reads ml_X10_170 im_X10_reads se_X10_reads h10348 rfl rfl (rest := []) rfl (Nat.le_of_ble_eq_true rfl) ⟨Nat.le_of_ble_eq_true rfl, Nat.le_of_ble_eq_true rfl⟩ ⟨Nat.le_of_ble_eq_true rfl, Nat.le_of_ble_eq_true rfl⟩ (fun r σ10350 hp => ?_)
  obtain ⟨h10351, rfl⟩ := hp
  have h10352 := HS.trans h10348 h10351 (by decide)
  refine m_iinc F (v := 5) (lv' := [(1, .int 5), (0, .ref c)]) e_X10_freshText_13 rfl (by decide) (by decide) rfl ?_
  refine m_goto F e_X10_freshText_16 ?_
  refine m_iload_n F rfl e_X10_freshText_2 ?_
  refine m_iconst F (v := 5) (by decide) e_X10_freshText_3 ?_
  refine m_icmp_ge F e_X10_freshText_4 (fun _ => ?_) (fun q => absurd (by decide) q)
  exact m_vret F hQ e_X10_freshText_19 (⟨P10345, oP10349, (by unfold RP; omega), h10352, rfl⟩)
