/-! the reader of the reference: its place is a ghost too -/
abbrev mkP (n0 n2 n5 n7 m0 m5 w2 w7 kk a : Nat) : NP := (n0, n2, n5, n7, m0, m5, w2, w7, kk, a)
def RA (P Q : NP) : Prop := Q.n0 = P.n0 ∧ Q.n2 = P.n2 ∧ Q.n5 = P.n5 ∧ Q.n7 = P.n7 ∧ Q.m0 = P.m0 ∧ Q.m5 = P.m5 ∧ Q.w2 = P.w2 ∧ Q.w7 = P.w7 ∧ Q.kk = P.kk ∧ P.a ≤ Q.a
def RP (P Q : NP) : Prop := Q.n0 = P.n0 ∧ Q.n2 = P.n2 ∧ Q.m0 = P.m0 ∧ Q.w2 = P.w2 ∧ Q.kk = P.kk ∧ P.a ≤ Q.a
def RQ (P Q : NP) : Prop := Q.n0 = P.n0 ∧ Q.n2 = P.n2 ∧ Q.m0 = P.m0 ∧ Q.w2 = P.w2 ∧ Q.kk = P.kk
theorem CR.setA {V : VX} {c T Z u h a : Nat} {P : NP} {L : Nat → LQ} : ∀ i, i ≠ 1 → ∀ x, CR V c ⟨T, Z, u, h, P, L⟩ i x → CR V c ⟨T, Z, u, h, mkP P.n0 P.n2 P.n5 P.n7 P.m0 P.m5 P.w2 P.w7 P.kk a, L⟩ i x := by
  intro i hi x hx
  unfold CR at hx ⊢
  split at hx <;> first | exact hx | exact absurd rfl hi
theorem ctl_a {c T Z u h a : Nat} {P : NP} {L : Nat → LQ} : ∀ i, i < rL.length → i ≠ 19 → ∀ w, TyW c ⟨T, Z, u, h, P, L⟩ (rL.getD i (0, 0)) w → TyW c ⟨T, Z, u, h, mkP P.n0 P.n2 P.n5 P.n7 P.m0 P.m5 P.w2 P.w7 P.kk a, L⟩ (rL.getD i (0, 0)) w := by
  intro i hi hne w hw
  have key : ∀ i, i < 37 → i ≠ 19 → (rL.getD i (0, 0)).1 ≠ 9 := by decide
  have hk := key i hi hne
  unfold TyW at hw ⊢
  split at hw <;> simp_all
/-- fault isn't 0: the ghost says so -/
theorem HS.z0 {V : VX} {c T Z u h : Nat} {P : NP} {L : Nat → LQ} {ks : List Nat} {σ0 σ : Mem} {x : Int32} (hh : HS V c ⟨T, Z, u, h, P, L⟩ ks σ0 σ) (hf : fld σ c 23 = some (.int x)) (hx : ¬ x = 0) : HS V c ⟨T, 0, u, h, P, L⟩ ks σ0 σ := by
  refine ⟨fun a => ?_, hh.2⟩
  by_cases ha : kC c a = 1
  · have h8 := kC_un (k := 0) ha
    have h9 : a = c := h8
    subst h9
    have h1 := hh.1 a
    rw [ha] at h1 ⊢
    obtain ⟨fs, e, q1, q2⟩ := h1
    refine ⟨fs, e, q1, fun j t ht => ?_⟩
    obtain ⟨v, h2, h3⟩ := q2 j t ht
    refine ⟨v, h2, ?_⟩
    by_cases hj : j = 23
    · subst hj
      have h4 : fs[23]? = some (.int x) := fld_ob e hf
      rw [h4] at h2
      cases h2
      obtain rfl : t = (5, 0) := (Option.some.inj ht).symm
      exact ⟨x, fun _ => hx, rfl⟩
    · have hl : j < rL.length := (List.getElem?_eq_some_iff.mp ht).1
      have hu' : rL.getD j (0, 0) = t := by rw [List.getD_eq_getElem?_getD, ht]; rfl
      rw [← hu'] at h3 ⊢
      exact ctl_Z j hl hj v h3
  · exact CR.ctl _ ha _ (hh.1 a)
/-- what stands at the reader's place -/
def HE (σ : Mem) (c a : Nat) (x : Int32) : Prop := ∃ z : Nat, z ≤ 700 ∧ fld σ c 18 = some (.int (nI z)) ∧ ((z ≤ a ∧ x = -1) ∨ (a < z ∧ elI σ (c + 1) a = some x))
theorem HE.of {σ τ : Mem} {c a : Nat} {x : Int32} (h : HE σ c a x) (e1 : fld τ c 18 = fld σ c 18) (e2 : elI τ (c + 1) a = elI σ (c + 1) a) : HE τ c a x := by
  obtain ⟨z, hz, h1, h2⟩ := h
  exact ⟨z, hz, e1.trans h1, h2.imp id (fun q => ⟨q.1, e2.trans q.2⟩)⟩
theorem HE.uniq {σ : Mem} {c a : Nat} {x y : Int32} (h : HE σ c a x) (h' : HE σ c a y) : x = y := by
  obtain ⟨z, hz, h1, h2⟩ := h
  obtain ⟨z', hz', h1', h2'⟩ := h'
  have e : z = z' := by
    rw [h1] at h1'
    have h3 : nI z = nI z' := by injection (Option.some.inj h1')
    exact nI_inj (by omega) (by omega) h3
  subst e
  rcases h2 with ⟨a1, a2⟩ | ⟨a1, a2⟩ <;> rcases h2' with ⟨b1, b2⟩ | ⟨b1, b2⟩
  · exact a2.trans b2.symm
  · omega
  · omega
  · exact Option.some.inj (a2.symm.trans b2)
theorem HE.lt {σ : Mem} {c a : Nat} {x : Int32} (h : HE σ c a x) (hx : ¬ x = -1) : a < 700 := by
  obtain ⟨z, hz, -, ⟨-, h2⟩ | ⟨h2, -⟩⟩ := h
  · exact absurd h2 hx
  · omega
/-- a line or a step of the reader: a fault, the end, or further on -/
def PG (c a b : Nat) (τ : Mem) : Prop := ∃ x y : Int32, fld τ c 23 = some (.int x) ∧ fld τ c 21 = some (.int y) ∧ (x ≠ 0 ∨ y = 4 ∨ a < b)
theorem PG.of {c a b : Nat} {σ τ : Mem} (h : PG c a b σ) (e1 : fld τ c 23 = fld σ c 23) (e2 : fld τ c 21 = fld σ c 21) : PG c a b τ := by
  obtain ⟨x, y, h1, h2, h3⟩ := h
  exact ⟨x, y, e1.trans h1, e2.trans h2, h3⟩
theorem PG.mono {c a a' b : Nat} {σ : Mem} (h : PG c a b σ) (e : a' ≤ a) : PG c a' b σ := by
  obtain ⟨x, y, h1, h2, h3⟩ := h
  exact ⟨x, y, h1, h2, h3.imp id (fun q => q.imp id (fun q => Nat.lt_of_le_of_lt e q))⟩
theorem HR.f21 {V : VX} {c : Nat} {g : RG} {σ : Mem} (h : HR V c g σ) : ∃ y : Int32, fld σ c 21 = some (.int y) := by
  obtain ⟨fs, e, q1, q2⟩ : ∃ fs, σ c = some (ob 8 fs) ∧ TyO c g fs := h.cell (k := 0) (by decide)
  obtain ⟨v, h2, x, rfl⟩ := q2 21 (0, 0) rfl
  exact ⟨x, fld_of e h2⟩
theorem HR.f23 {V : VX} {c : Nat} {g : RG} {σ : Mem} (h : HR V c g σ) : ∃ y : Int32, fld σ c 23 = some (.int y) := by
  obtain ⟨fs, e, q1, q2⟩ : ∃ fs, σ c = some (ob 8 fs) ∧ TyO c g fs := h.cell (k := 0) (by decide)
  obtain ⟨v, h2, x, hx, rfl⟩ := q2 23 (5, 0) rfl
  exact ⟨x, fld_of e h2⟩
theorem PG.a1 {V : VX} {c a b : Nat} {g : RG} {σ : Mem} {x : Int32} (h : HR V c g σ) (e : fld σ c 23 = some (.int x)) (hx : ¬ x = 0) : PG c a b σ := by
  obtain ⟨y, hy⟩ := h.f21
  exact ⟨x, y, e, hy, Or.inl hx⟩
theorem PG.a2 {V : VX} {c a b : Nat} {g : RG} {σ : Mem} (h : HR V c g σ) (e : fld σ c 21 = some (.int 4) ∨ a < b) : PG c a b σ := by
  obtain ⟨y, hy⟩ := h.f21
  obtain ⟨x, hx⟩ := h.f23
  rcases e with e | e
  · exact ⟨x, 4, hx, e, Or.inr (Or.inl rfl)⟩
  · exact ⟨x, y, hx, hy, Or.inr (Or.inr e)⟩
theorem CR.chg {V : VX} {c T Z u h K : Nat} {P P' : NP} {L : Nat → LQ} (hE : ∀ k, k ≠ K → ∀ i x, EI P k i x → EI P' k i x) (hk : P'.kk = P.kk) (ha : P'.a = P.a) : ∀ i, i ≠ K → ∀ x, CR V c ⟨T, Z, u, h, P, L⟩ i x → CR V c ⟨T, Z, u, h, P', L⟩ i x := by
  intro i hi x hx
  unfold CR at hx ⊢
  split at hx
  · trivial
  · obtain ⟨fs, e, q1, q2⟩ := hx
    refine ⟨fs, e, q1, fun j t ht => ?_⟩
    obtain ⟨v, h2, h3⟩ := q2 j t ht
    refine ⟨v, h2, ?_⟩
    obtain ⟨tc, tw⟩ := t
    unfold TyW at h3 ⊢
    split at h3 <;> first | exact h3 | (show v = .int (nI P'.a); rw [ha]; exact h3)
  · exact hx
  · exact hx
  · exact hx
  · show ∃ f, _ = some (aJ V 1113 f) ∧ (h = 1 → GR P'.kk f)
    rw [hk]; exact hx
  · show ∃ f, _ = some (aJ V 22260 f) ∧ ∀ j, j < u → GR P'.kk (fun i => f (1113 * j + i))
    rw [hk]; exact hx
  · obtain ⟨f, e, q⟩ := hx
    exact ⟨f, e, fun i9 h9 => hE _ hi i9 _ (q i9 h9)⟩
  · exact hx
  · obtain ⟨f, e, q⟩ := hx
    exact ⟨f, e, fun i9 h9 => hE _ hi i9 _ (q i9 h9)⟩
set_option maxRecDepth 20000 in
theorem q_X10_here (l : Launch) (V : VX) (c T Z u h : Nat) (P : NP) (L : Nat → LQ) (N : Nat) (σ : Mem)  (h0 : HR V c ⟨T, Z, u, h, P, L⟩ σ) (hob : OKB L) (hP : OKP P)  : Ct l V yX10_here cX10_here 1 (some .int) 0 0 0 N σ [.ref c] (fun r τ => HS V c (⟨T, Z, u, h, P, L⟩ : RG) [0, 1, 2, 3, 4, 5, 6, 7, 8, 9, 10, 11, 12, 13, 14, 15, 16, 17, 18, 19, 20, 21, 22, 23] σ τ ∧ ∃ x : Int32, HE τ c P.a x ∧ r = some (.int x)) := by
  refine Ct.of (by decide) (Nat.le_of_ble_eq_true rfl) [(0, .ref c)] rfl (fun X hX F hQ => ?_)
  have hPP := hP
  unfold OKP at hPP
  have h1 : HS V c ⟨T, Z, u, h, P, L⟩ [0, 1, 2, 3, 4, 5, 6, 7, 8, 9, 10, 11, 12, 13, 14, 15, 16, 17, 18, 19, 20, 21, 22, 23] σ σ := HS.start h0
  refine m_aload_n F rfl e_X10_here_0 ?_
  refine r_get F e_X10_here_1 fl_X10_97 h1 rfl (fun v hv f7502 => ?_)
  obtain rfl : v = .int (nI (P.a)) := hv
  refine m_aload_n F rfl e_X10_here_4 ?_
  refine r_get F e_X10_here_5 fl_X10_100 h1 rfl (fun v hv f7503 => ?_)
  obtain ⟨n7504, hn7504, rfl⟩ := hv
  replace hn7504 : n7504 ≤ 700 := hn7504
  refine m_icmp_ge F e_X10_here_8 (fun q8 => ?_) (fun q8 => ?_)
  · have c8 : P.a ≥ n7504 := (nI_leI (a := n7504) (b := P.a) (by omega) (by omega)).mp q8
    refine m_iconst F (v := (-1)) (by decide) e_X10_here_23 ?_
    exact m_iret F hQ e_X10_here_24 (⟨h1, -1, ⟨n7504, by omega, f7503, Or.inl ⟨by omega, rfl⟩⟩, rfl⟩)
  · have c8 : P.a < n7504 := by have hh := mt (nI_leI (a := n7504) (b := P.a) (by omega) (by omega)).mpr q8; omega
    refine m_aload_n F rfl e_X10_here_11 ?_
    refine r_get F e_X10_here_12 fl_X10_7 h1 rfl (fun v hv f7505 => ?_)
    obtain rfl : v = .ref (c + 1) := hv
    refine m_aload_n F rfl e_X10_here_15 ?_
    refine r_getC F e_X10_here_16 fl_X10_97 h1 (f7502) ?_
    refine r_iald F (len := 700) (j := P.a) e_X10_here_19 h1 (fun _ h => h) (by decide) (nI_clamp (by omega)) (vp_in_nI (by omega) (by decide)) (fun x7506 h7507 f7508 => ?_)
    refine m_goto F e_X10_here_20 ?_
    exact m_iret F hQ e_X10_here_24 (⟨h1, x7506, ⟨n7504, by omega, f7503, Or.inr ⟨by omega, f7508⟩⟩, rfl⟩)
set_option maxRecDepth 20000 in
theorem q_X10_isSmall2 (l : Launch) (V : VX) (N : Nat) (σ : Mem) (x901 : Int32)  : Ct l V yX10_isSmall cX10_isSmall 1 (some .boolean) 0 0 0 N σ [.int x901] (fun r τ => τ = σ ∧ (¬ (¬ x901 < 97 ∧ ¬ 122 < x901) ∧ r = some (.int 0) ∨ (¬ x901 < 97 ∧ ¬ 122 < x901) ∧ r = some (.int 1))) := by
  refine Ct.of (by decide) (Nat.le_of_ble_eq_true rfl) [(0, .int x901)] rfl (fun X hX F hQ => ?_)
  refine m_iload_n F rfl e_X10_isSmall_0 ?_
  refine m_bipush F (v := 97) (by decide) e_X10_isSmall_1 ?_
  refine m_icmp_lt F e_X10_isSmall_3 (fun q3 => ?_) (fun q3 => ?_)
  · refine m_iconst F (v := 0) (by decide) e_X10_isSmall_16 ?_
    exact m_zret F hQ e_X10_isSmall_17 (by decide) (⟨rfl, Or.inl ⟨fun e => e.1 q3, rfl⟩⟩)
  · obtain ⟨n7509, hn7509, rfl⟩ := nI_nn (x := x901) (fun e => q3 (Int32.lt_of_lt_of_le e (by decide)))
    have c3 : n7509 ≥ 97 := by have hh := mt (nI_ltI (a := n7509) (b := 97) (by omega) (by omega)).mpr q3; omega
    refine m_iload_n F rfl e_X10_isSmall_6 ?_
    refine m_bipush F (v := 122) (by decide) e_X10_isSmall_7 ?_
    refine m_icmp_gt F e_X10_isSmall_9 (fun q9 => ?_) (fun q9 => ?_)
    · have c9 : n7509 > 122 := (nI_ltI (a := 122) (b := n7509) (by omega) (by omega)).mp q9
      refine m_iconst F (v := 0) (by decide) e_X10_isSmall_16 ?_
      exact m_zret F hQ e_X10_isSmall_17 (by decide) (⟨rfl, Or.inl ⟨fun e => e.2 q9, rfl⟩⟩)
    · have c9 : n7509 ≤ 122 := by have hh := mt (nI_ltI (a := 122) (b := n7509) (by omega) (by omega)).mpr q9; omega
      refine m_iconst F (v := 1) (by decide) e_X10_isSmall_12 ?_
      refine m_goto F e_X10_isSmall_13 ?_
      exact m_zret F hQ e_X10_isSmall_17 (by decide) (⟨rfl, Or.inr ⟨⟨q3, q9⟩, rfl⟩⟩)
set_option maxRecDepth 20000 in
theorem q_X10_isDigit2 (l : Launch) (V : VX) (N : Nat) (σ : Mem) (x901 : Int32)  : Ct l V yX10_isDigit cX10_isDigit 1 (some .boolean) 0 0 0 N σ [.int x901] (fun r τ => τ = σ ∧ (¬ (¬ x901 < 48 ∧ ¬ 57 < x901) ∧ r = some (.int 0) ∨ (¬ x901 < 48 ∧ ¬ 57 < x901) ∧ r = some (.int 1))) := by
  refine Ct.of (by decide) (Nat.le_of_ble_eq_true rfl) [(0, .int x901)] rfl (fun X hX F hQ => ?_)
  refine m_iload_n F rfl e_X10_isDigit_0 ?_
  refine m_bipush F (v := 48) (by decide) e_X10_isDigit_1 ?_
  refine m_icmp_lt F e_X10_isDigit_3 (fun q3 => ?_) (fun q3 => ?_)
  · refine m_iconst F (v := 0) (by decide) e_X10_isDigit_16 ?_
    exact m_zret F hQ e_X10_isDigit_17 (by decide) (⟨rfl, Or.inl ⟨fun e => e.1 q3, rfl⟩⟩)
  · obtain ⟨n7510, hn7510, rfl⟩ := nI_nn (x := x901) (fun e => q3 (Int32.lt_of_lt_of_le e (by decide)))
    have c3 : n7510 ≥ 48 := by have hh := mt (nI_ltI (a := n7510) (b := 48) (by omega) (by omega)).mpr q3; omega
    refine m_iload_n F rfl e_X10_isDigit_6 ?_
    refine m_bipush F (v := 57) (by decide) e_X10_isDigit_7 ?_
    refine m_icmp_gt F e_X10_isDigit_9 (fun q9 => ?_) (fun q9 => ?_)
    · have c9 : n7510 > 57 := (nI_ltI (a := 57) (b := n7510) (by omega) (by omega)).mp q9
      refine m_iconst F (v := 0) (by decide) e_X10_isDigit_16 ?_
      exact m_zret F hQ e_X10_isDigit_17 (by decide) (⟨rfl, Or.inl ⟨fun e => e.2 q9, rfl⟩⟩)
    · have c9 : n7510 ≤ 57 := by have hh := mt (nI_ltI (a := 57) (b := n7510) (by omega) (by omega)).mpr q9; omega
      refine m_iconst F (v := 1) (by decide) e_X10_isDigit_12 ?_
      refine m_goto F e_X10_isDigit_13 ?_
      exact m_zret F hQ e_X10_isDigit_17 (by decide) (⟨rfl, Or.inr ⟨⟨q3, q9⟩, rfl⟩⟩)
set_option maxRecDepth 20000 in
theorem lq_X10_wordHere_97 {V : VX} {X : MX} {N : Nat} {σ : Mem} {c T Z u h : Nat} {P : NP} {L : Nat → LQ}   (F : Fx V X yX10_wordHere cX10_wordHere 4 (some .int) (rmd 4 0 0)) (hQ : Rt V X 0 0 N (fun r τ => HS V c (⟨T, Z, u, h, P, L⟩ : RG) [0, 1, 2, 3, 4, 5, 6, 7, 8, 9, 10, 11, 12, 13, 14, 15, 16, 17, 18, 19, 20, 21, 22, 23] σ τ ∧ ∃ x : Int32, r = some (.int x))) (hob : OKB L) (hP : OKP P)  {fuelO : Nat} (hO : ∀ (n1 : Int32) (k : Nat) (τ : Mem), HS V c (⟨T, Z, u, h, P, L⟩ : RG) [0, 1, 2, 3, 4, 5, 6, 7, 8, 9, 10, 11, 12, 13, 14, 15, 16, 17, 18, 19, 20, 21, 22, 23] σ τ → k ≤ 48 → 48 - k < fuelO → Wm V X 4 N τ 0 0 4 [(0, .ref c), (1, .int n1), (2, .int (nI k))] []) : ∀ (fuel : Nat) (n1 : Int32) (k : Nat) (τ : Mem), HS V c (⟨T, Z, u, h, P, L⟩ : RG) [0, 1, 2, 3, 4, 5, 6, 7, 8, 9, 10, 11, 12, 13, 14, 15, 16, 17, 18, 19, 20, 21, 22, 23] σ τ → k ≤ 47 ∧ 48 - k ≤ fuelO → 48 - k < fuel → Wm V X 4 N τ 0 0 97 [(0, .ref c), (1, .int n1), (2, .int (nI k))] [] := by
  intro fuel
  induction fuel with
  | zero => intros; rename_i hm; exact absurd hm (Nat.not_lt_zero _)
  | succ fuel ih =>
    intro n1 k τ h1 hi hm
    have hPP := hP
    unfold OKP at hPP
    refine m_ldcS F e_X10_wordHere_97 F.sw.1.2.2 ?_
    refine m_iload_n F rfl e_X10_wordHere_99 ?_
    refine m_callO F e_X10_wordHere_100 (q_charAt (x_l X) V _ _ k (by omega)) cb_J0_charAt_5068e ml_X10_137 im_J0_charAt_5068e se_J0_charAt_5068e F.sw.2.2.2.2.2.2.1 rfl (rest := []) rfl (Nat.le_of_ble_eq_true rfl) ⟨Nat.le_of_ble_eq_true rfl, Nat.le_of_ble_eq_true rfl⟩ ⟨Nat.le_of_ble_eq_true rfl, Nat.le_of_ble_eq_true rfl⟩ (k' := 0) (z' := 0) (N' := N) rfl rfl rfl (fun r σ7511 hp => ?_)
    obtain ⟨rfl, rfl⟩ := hp
    refine m_bipush F (v := 32) (by decide) e_X10_wordHere_103 ?_
    refine m_icmp_eq F e_X10_wordHere_105 (fun q105 => ?_) (fun q105 => ?_)
    · refine m_iinc F (v := nI (k + 1)) (lv' := [(2, .int (nI (k + 1))), (0, .ref c), (1, .int n1)]) e_X10_wordHere_114 rfl (nI_add k 1) (by decide) rfl ?_
      refine m_iinc F (v := (n1 + 1)) (lv' := [(1, .int (n1 + 1)), (2, .int (nI (k + 1))), (0, .ref c)]) e_X10_wordHere_117 rfl rfl (by decide) rfl ?_
      refine m_goto F e_X10_wordHere_120 ?_
      refine Wm.lvsub (lv' := [(0, .ref c), (1, .int (n1 + 1)), (2, .int (nI (k + 1)))]) ?_ [2, 0, 1] rfl
      exact hO (n1 + 1) (k + 1) _ h1 (by omega) (by omega)
    · have hw105 := wb_47 (i := k) (by omega) q105
      refine m_iinc F (v := nI (k + 1)) (lv' := [(2, .int (nI (k + 1))), (0, .ref c), (1, .int n1)]) e_X10_wordHere_108 rfl (nI_add k 1) (by decide) rfl ?_
      refine m_goto F e_X10_wordHere_111 ?_
      refine Wm.lvsub (lv' := [(0, .ref c), (1, .int n1), (2, .int (nI (k + 1)))]) ?_ [1, 2, 0] rfl
      exact ih n1 (k + 1) _ h1 (by omega) (by omega)
set_option maxRecDepth 20000 in
theorem lq_X10_wordHere_15 {V : VX} {X : MX} {N : Nat} {σ : Mem} {c T Z u h : Nat} {P : NP} {L : Nat → LQ}   (F : Fx V X yX10_wordHere cX10_wordHere 4 (some .int) (rmd 4 0 0)) (hQ : Rt V X 0 0 N (fun r τ => HS V c (⟨T, Z, u, h, P, L⟩ : RG) [0, 1, 2, 3, 4, 5, 6, 7, 8, 9, 10, 11, 12, 13, 14, 15, 16, 17, 18, 19, 20, 21, 22, 23] σ τ ∧ ∃ x : Int32, r = some (.int x))) (hob : OKB L) (hP : OKP P)  {fuelO : Nat} (hO : ∀ (n1 : Int32) (k : Nat) (τ : Mem), HS V c (⟨T, Z, u, h, P, L⟩ : RG) [0, 1, 2, 3, 4, 5, 6, 7, 8, 9, 10, 11, 12, 13, 14, 15, 16, 17, 18, 19, 20, 21, 22, 23] σ τ → k ≤ 48 → 48 - k < fuelO → Wm V X 4 N τ 0 0 4 [(0, .ref c), (1, .int n1), (2, .int (nI k))] []) : ∀ (fuel : Nat) (n1 : Int32) (k : Nat) (i : Nat) (τ : Mem), HS V c (⟨T, Z, u, h, P, L⟩ : RG) [0, 1, 2, 3, 4, 5, 6, 7, 8, 9, 10, 11, 12, 13, 14, 15, 16, 17, 18, 19, 20, 21, 22, 23] σ τ → k + i ≤ 47 ∧ 48 - k ≤ fuelO → 48 - i < fuel → Wm V X 4 N τ 0 0 15 [(0, .ref c), (1, .int n1), (2, .int (nI k)), (3, .int (nI i))] [] := by
  intro fuel
  induction fuel with
  | zero => intros; rename_i hm; exact absurd hm (Nat.not_lt_zero _)
  | succ fuel ih =>
    intro n1 k i τ h1 hi hm
    have hPP := hP
    unfold OKP at hPP
    refine m_ldcS F e_X10_wordHere_15 F.sw.1.2.2 ?_
    refine m_iload_n F rfl e_X10_wordHere_17 ?_
    refine m_iload_n F rfl e_X10_wordHere_18 ?_
    refine m_iadd F e_X10_wordHere_19 ?_
    refine Wm.topE (w := nI (k + i)) (nI_add k i) ?_
    refine m_callO F e_X10_wordHere_20 (q_charAt (x_l X) V _ _ (k + i) (by omega)) cb_J0_charAt_5068e ml_X10_137 im_J0_charAt_5068e se_J0_charAt_5068e F.sw.2.2.2.2.2.2.1 rfl (rest := []) rfl (Nat.le_of_ble_eq_true rfl) ⟨Nat.le_of_ble_eq_true rfl, Nat.le_of_ble_eq_true rfl⟩ ⟨Nat.le_of_ble_eq_true rfl, Nat.le_of_ble_eq_true rfl⟩ (k' := 0) (z' := 0) (N' := N) rfl rfl rfl (fun r σ7512 hp => ?_)
    obtain ⟨rfl, rfl⟩ := hp
    refine m_bipush F (v := 32) (by decide) e_X10_wordHere_23 ?_
    refine m_icmp_eq F e_X10_wordHere_25 (fun q25 => ?_) (fun q25 => ?_)
    · refine m_ldcS F e_X10_wordHere_69 F.sw.1.2.2 ?_
      refine m_iload_n F rfl e_X10_wordHere_71 ?_
      refine m_iload_n F rfl e_X10_wordHere_72 ?_
      refine m_iadd F e_X10_wordHere_73 ?_
      refine Wm.topE (w := nI (k + i)) (nI_add k i) ?_
      refine m_callO F e_X10_wordHere_74 (q_charAt (x_l X) V _ _ (k + i) (by omega)) cb_J0_charAt_5068e ml_X10_137 im_J0_charAt_5068e se_J0_charAt_5068e F.sw.2.2.2.2.2.2.1 rfl (rest := []) rfl (Nat.le_of_ble_eq_true rfl) ⟨Nat.le_of_ble_eq_true rfl, Nat.le_of_ble_eq_true rfl⟩ ⟨Nat.le_of_ble_eq_true rfl, Nat.le_of_ble_eq_true rfl⟩ (k' := 0) (z' := 0) (N' := N) rfl rfl rfl (fun r σ7513 hp => ?_)
      obtain ⟨rfl, rfl⟩ := hp
      refine m_bipush F (v := 32) (by decide) e_X10_wordHere_77 ?_
      refine m_icmp_ne F e_X10_wordHere_79 (fun q79 => ?_) (fun q79 => ?_)
      · refine Wm.lvsub (lv' := [(0, .ref c), (1, .int n1), (2, .int (nI k))]) ?_ [0, 1, 2] rfl
        exact lq_X10_wordHere_97 F hQ hob hP  hO (48 - k + 1) n1 k _ h1 (by omega) (Nat.lt_succ_self _)
      · refine m_aload_n F rfl e_X10_wordHere_82 ?_
        refine r_get F e_X10_wordHere_83 fl_X10_107 h1 rfl (fun v hv f7514 => ?_)
        obtain ⟨n7515, hn7515, rfl⟩ := hv
        replace hn7515 : n7515 ≤ 700 := hn7515
        refine m_iload_n F rfl e_X10_wordHere_86 ?_
        refine m_iadd F e_X10_wordHere_87 ?_
        refine Wm.topE (w := nI (n7515 + i)) (nI_add n7515 i) ?_
        refine m_aload_n F rfl e_X10_wordHere_88 ?_
        refine r_get F e_X10_wordHere_89 fl_X10_97 h1 rfl (fun v hv f7516 => ?_)
        obtain rfl : v = .int (nI (P.a)) := hv
        refine m_icmp_ne F e_X10_wordHere_92 (fun q92 => ?_) (fun q92 => ?_)
        · have c92 : (n7515 + i) ≠ P.a := by have hh := mt (nI_eq (a := (n7515 + i)) (b := P.a) (by omega) (by omega)).mpr q92; omega
          refine Wm.lvsub (lv' := [(0, .ref c), (1, .int n1), (2, .int (nI k))]) ?_ [0, 1, 2] rfl
          exact lq_X10_wordHere_97 F hQ hob hP  hO (48 - k + 1) n1 k _ h1 (by omega) (Nat.lt_succ_self _)
        · have c92 : (n7515 + i) = P.a := (nI_eq (a := (n7515 + i)) (b := P.a) (by omega) (by omega)).mp q92
          refine m_iload_n F rfl e_X10_wordHere_95 ?_
          exact m_iret F hQ e_X10_wordHere_96 (⟨h1, _, rfl⟩)
    · have hw25 := wb_47 (i := k + i) (by omega) q25
      refine m_aload_n F rfl e_X10_wordHere_28 ?_
      refine r_get F e_X10_wordHere_29 fl_X10_107 h1 rfl (fun v hv f7517 => ?_)
      obtain ⟨n7518, hn7518, rfl⟩ := hv
      replace hn7518 : n7518 ≤ 700 := hn7518
      refine m_iload_n F rfl e_X10_wordHere_32 ?_
      refine m_iadd F e_X10_wordHere_33 ?_
      refine Wm.topE (w := nI (n7518 + i)) (nI_add n7518 i) ?_
      refine m_aload_n F rfl e_X10_wordHere_34 ?_
      refine r_get F e_X10_wordHere_35 fl_X10_97 h1 rfl (fun v hv f7519 => ?_)
      obtain rfl : v = .int (nI (P.a)) := hv
      refine m_icmp_ge F e_X10_wordHere_38 (fun q38 => ?_) (fun q38 => ?_)
      · have c38 : (n7518 + i) ≥ P.a := (nI_leI (a := P.a) (b := (n7518 + i)) (by omega) (by omega)).mp q38
        refine m_ldcS F e_X10_wordHere_69 F.sw.1.2.2 ?_
        refine m_iload_n F rfl e_X10_wordHere_71 ?_
        refine m_iload_n F rfl e_X10_wordHere_72 ?_
        refine m_iadd F e_X10_wordHere_73 ?_
        refine Wm.topE (w := nI (k + i)) (nI_add k i) ?_
        refine m_callO F e_X10_wordHere_74 (q_charAt (x_l X) V _ _ (k + i) (by omega)) cb_J0_charAt_5068e ml_X10_137 im_J0_charAt_5068e se_J0_charAt_5068e F.sw.2.2.2.2.2.2.1 rfl (rest := []) rfl (Nat.le_of_ble_eq_true rfl) ⟨Nat.le_of_ble_eq_true rfl, Nat.le_of_ble_eq_true rfl⟩ ⟨Nat.le_of_ble_eq_true rfl, Nat.le_of_ble_eq_true rfl⟩ (k' := 0) (z' := 0) (N' := N) rfl rfl rfl (fun r σ7520 hp => ?_)
        obtain ⟨rfl, rfl⟩ := hp
        refine m_bipush F (v := 32) (by decide) e_X10_wordHere_77 ?_
        refine m_icmp_ne F e_X10_wordHere_79 (fun q79 => ?_) (fun q79 => ?_)
        · refine Wm.lvsub (lv' := [(0, .ref c), (1, .int n1), (2, .int (nI k))]) ?_ [0, 1, 2] rfl
          exact lq_X10_wordHere_97 F hQ hob hP  hO (48 - k + 1) n1 k _ h1 (by omega) (Nat.lt_succ_self _)
        · refine m_aload_n F rfl e_X10_wordHere_82 ?_
          refine r_getC F e_X10_wordHere_83 fl_X10_107 h1 (f7517) ?_
          refine m_iload_n F rfl e_X10_wordHere_86 ?_
          refine m_iadd F e_X10_wordHere_87 ?_
          refine Wm.topE (w := nI (n7518 + i)) (nI_add n7518 i) ?_
          refine m_aload_n F rfl e_X10_wordHere_88 ?_
          refine r_getC F e_X10_wordHere_89 fl_X10_97 h1 (f7519) ?_
          refine m_icmp_ne F e_X10_wordHere_92 (fun q92 => ?_) (fun q92 => ?_)
          · have c92 : (n7518 + i) ≠ P.a := by have hh := mt (nI_eq (a := (n7518 + i)) (b := P.a) (by omega) (by omega)).mpr q92; omega
            refine Wm.lvsub (lv' := [(0, .ref c), (1, .int n1), (2, .int (nI k))]) ?_ [0, 1, 2] rfl
            exact lq_X10_wordHere_97 F hQ hob hP  hO (48 - k + 1) n1 k _ h1 (by omega) (Nat.lt_succ_self _)
          · have c92 : (n7518 + i) = P.a := (nI_eq (a := (n7518 + i)) (b := P.a) (by omega) (by omega)).mp q92
            refine m_iload_n F rfl e_X10_wordHere_95 ?_
            exact m_iret F hQ e_X10_wordHere_96 (⟨h1, _, rfl⟩)
      · have c38 : (n7518 + i) < P.a := by have hh := mt (nI_leI (a := P.a) (b := (n7518 + i)) (by omega) (by omega)).mpr q38; omega
        refine m_aload_n F rfl e_X10_wordHere_41 ?_
        refine r_get F e_X10_wordHere_42 fl_X10_7 h1 rfl (fun v hv f7521 => ?_)
        obtain rfl : v = .ref (c + 1) := hv
        refine m_aload_n F rfl e_X10_wordHere_45 ?_
        refine r_getC F e_X10_wordHere_46 fl_X10_107 h1 (f7517) ?_
        refine m_iload_n F rfl e_X10_wordHere_49 ?_
        refine m_iadd F e_X10_wordHere_50 ?_
        refine Wm.topE (w := nI (n7518 + i)) (nI_add n7518 i) ?_
        refine r_iald F (len := 700) (j := n7518 + i) e_X10_wordHere_51 h1 (fun _ h => h) (by decide) (nI_clamp (by omega)) (vp_in_nI (by omega) (by decide)) (fun x7522 h7523 f7524 => ?_)
        refine m_ldcS F e_X10_wordHere_52 F.sw.1.2.2 ?_
        refine m_iload_n F rfl e_X10_wordHere_54 ?_
        refine m_iload_n F rfl e_X10_wordHere_55 ?_
        refine m_iadd F e_X10_wordHere_56 ?_
        refine Wm.topE (w := nI (k + i)) (nI_add k i) ?_
        refine m_callO F e_X10_wordHere_57 (q_charAt (x_l X) V _ _ (k + i) (by omega)) cb_J0_charAt_5068e ml_X10_137 im_J0_charAt_5068e se_J0_charAt_5068e F.sw.2.2.2.2.2.2.1 rfl (rest := [.int x7522]) rfl (Nat.le_of_ble_eq_true rfl) ⟨Nat.le_of_ble_eq_true rfl, Nat.le_of_ble_eq_true rfl⟩ ⟨Nat.le_of_ble_eq_true rfl, Nat.le_of_ble_eq_true rfl⟩ (k' := 0) (z' := 0) (N' := N) rfl rfl rfl (fun r σ7525 hp => ?_)
        obtain ⟨rfl, rfl⟩ := hp
        refine m_icmp_ne F e_X10_wordHere_60 (fun q60 => ?_) (fun q60 => ?_)
        · refine m_ldcS F e_X10_wordHere_69 F.sw.1.2.2 ?_
          refine m_iload_n F rfl e_X10_wordHere_71 ?_
          refine m_iload_n F rfl e_X10_wordHere_72 ?_
          refine m_iadd F e_X10_wordHere_73 ?_
          refine Wm.topE (w := nI (k + i)) (nI_add k i) ?_
          refine m_callO F e_X10_wordHere_74 (q_charAt (x_l X) V _ _ (k + i) (by omega)) cb_J0_charAt_5068e ml_X10_137 im_J0_charAt_5068e se_J0_charAt_5068e F.sw.2.2.2.2.2.2.1 rfl (rest := []) rfl (Nat.le_of_ble_eq_true rfl) ⟨Nat.le_of_ble_eq_true rfl, Nat.le_of_ble_eq_true rfl⟩ ⟨Nat.le_of_ble_eq_true rfl, Nat.le_of_ble_eq_true rfl⟩ (k' := 0) (z' := 0) (N' := N) rfl rfl rfl (fun r σ7526 hp => ?_)
          obtain ⟨rfl, rfl⟩ := hp
          refine m_bipush F (v := 32) (by decide) e_X10_wordHere_77 ?_
          refine m_icmp_ne F e_X10_wordHere_79 (fun q79 => ?_) (fun q79 => ?_)
          · refine Wm.lvsub (lv' := [(0, .ref c), (1, .int n1), (2, .int (nI k))]) ?_ [0, 1, 2] rfl
            exact lq_X10_wordHere_97 F hQ hob hP  hO (48 - k + 1) n1 k _ h1 (by omega) (Nat.lt_succ_self _)
          · refine m_aload_n F rfl e_X10_wordHere_82 ?_
            refine r_getC F e_X10_wordHere_83 fl_X10_107 h1 (f7517) ?_
            refine m_iload_n F rfl e_X10_wordHere_86 ?_
            refine m_iadd F e_X10_wordHere_87 ?_
            refine Wm.topE (w := nI (n7518 + i)) (nI_add n7518 i) ?_
            refine m_aload_n F rfl e_X10_wordHere_88 ?_
            refine r_getC F e_X10_wordHere_89 fl_X10_97 h1 (f7519) ?_
            refine m_icmp_ne F e_X10_wordHere_92 (fun q92 => ?_) (fun q92 => ?_)
            · have c92 : (n7518 + i) ≠ P.a := by have hh := mt (nI_eq (a := (n7518 + i)) (b := P.a) (by omega) (by omega)).mpr q92; omega
              refine Wm.lvsub (lv' := [(0, .ref c), (1, .int n1), (2, .int (nI k))]) ?_ [0, 1, 2] rfl
              exact lq_X10_wordHere_97 F hQ hob hP  hO (48 - k + 1) n1 k _ h1 (by omega) (Nat.lt_succ_self _)
            · have c92 : (n7518 + i) = P.a := (nI_eq (a := (n7518 + i)) (b := P.a) (by omega) (by omega)).mp q92
              refine m_iload_n F rfl e_X10_wordHere_95 ?_
              exact m_iret F hQ e_X10_wordHere_96 (⟨h1, _, rfl⟩)
        · refine m_iinc F (v := nI (i + 1)) (lv' := [(3, .int (nI (i + 1))), (0, .ref c), (1, .int n1), (2, .int (nI k))]) e_X10_wordHere_63 rfl (nI_add i 1) (by decide) rfl ?_
          refine m_goto F e_X10_wordHere_66 ?_
          refine Wm.lvsub (lv' := [(0, .ref c), (1, .int n1), (2, .int (nI k)), (3, .int (nI (i + 1)))]) ?_ [1, 2, 3, 0] rfl
          exact ih n1 k (i + 1) _ h1 (by omega) (by omega)
set_option maxRecDepth 20000 in
theorem lq_X10_wordHere_4 {V : VX} {X : MX} {N : Nat} {σ : Mem} {c T Z u h : Nat} {P : NP} {L : Nat → LQ}   (F : Fx V X yX10_wordHere cX10_wordHere 4 (some .int) (rmd 4 0 0)) (hQ : Rt V X 0 0 N (fun r τ => HS V c (⟨T, Z, u, h, P, L⟩ : RG) [0, 1, 2, 3, 4, 5, 6, 7, 8, 9, 10, 11, 12, 13, 14, 15, 16, 17, 18, 19, 20, 21, 22, 23] σ τ ∧ ∃ x : Int32, r = some (.int x))) (hob : OKB L) (hP : OKP P)   : ∀ (fuel : Nat) (n1 : Int32) (k : Nat) (τ : Mem), HS V c (⟨T, Z, u, h, P, L⟩ : RG) [0, 1, 2, 3, 4, 5, 6, 7, 8, 9, 10, 11, 12, 13, 14, 15, 16, 17, 18, 19, 20, 21, 22, 23] σ τ → k ≤ 48 → 48 - k < fuel → Wm V X 4 N τ 0 0 4 [(0, .ref c), (1, .int n1), (2, .int (nI k))] [] := by
  intro fuel
  induction fuel with
  | zero => intros; rename_i hm; exact absurd hm (Nat.not_lt_zero _)
  | succ fuel ih =>
    intro n1 k τ h1 hi hm
    have hPP := hP
    unfold OKP at hPP
    refine m_iload_n F rfl e_X10_wordHere_4 ?_
    refine m_ldcS F e_X10_wordHere_5 F.sw.1.2.2 ?_
    refine m_callO F e_X10_wordHere_7 (q_length (x_l X) V _ _) cb_J0_length_8abf5 ml_X10_132 im_J0_length_8abf5 se_J0_length_8abf5 F.sw.2.2.2.2.2.2.1 rfl (rest := [.int (nI k)]) rfl (Nat.le_of_ble_eq_true rfl) ⟨Nat.le_of_ble_eq_true rfl, Nat.le_of_ble_eq_true rfl⟩ ⟨Nat.le_of_ble_eq_true rfl, Nat.le_of_ble_eq_true rfl⟩ (k' := 0) (z' := 0) (N' := N) rfl rfl rfl (fun r σ7527 hp => ?_)
    obtain ⟨rfl, rfl⟩ := hp
    refine m_icmp_ge F e_X10_wordHere_10 (fun q10 => ?_) (fun q10 => ?_)
    · have c10 : k ≥ 48 := (nI_leI (a := 48) (b := k) (by omega) (by omega)).mp q10
      refine m_iconst F (v := (-1)) (by decide) e_X10_wordHere_123 ?_
      exact m_iret F hQ e_X10_wordHere_124 (⟨h1, _, rfl⟩)
    · have c10 : k < 48 := by have hh := mt (nI_leI (a := 48) (b := k) (by omega) (by omega)).mpr q10; omega
      refine m_iconst F (v := 0) (by decide) e_X10_wordHere_13 ?_
      refine m_istore_n F (lv' := [(3, .int 0), (0, .ref c), (1, .int n1), (2, .int (nI k))]) e_X10_wordHere_14 (by decide) rfl ?_
      refine Wm.lvsub (lv' := [(0, .ref c), (1, .int n1), (2, .int (nI k)), (3, .int 0)]) ?_ [1, 2, 3, 0] rfl
      exact lq_X10_wordHere_15 F hQ hob hP  ih (48 - 0 + 1) n1 k 0 _ h1 (by omega) (Nat.lt_succ_self _)
set_option maxRecDepth 20000 in
theorem q_X10_wordHere (l : Launch) (V : VX) (c T Z u h : Nat) (P : NP) (L : Nat → LQ) (N : Nat) (σ : Mem)  (h0 : HR V c ⟨T, Z, u, h, P, L⟩ σ) (hob : OKB L) (hP : OKP P)  : Ct l V yX10_wordHere cX10_wordHere 4 (some .int) 4 0 0 N σ [.ref c] (fun r τ => HS V c (⟨T, Z, u, h, P, L⟩ : RG) [0, 1, 2, 3, 4, 5, 6, 7, 8, 9, 10, 11, 12, 13, 14, 15, 16, 17, 18, 19, 20, 21, 22, 23] σ τ ∧ ∃ x : Int32, r = some (.int x)) := by
  refine Ct.of (by decide) (Nat.le_of_ble_eq_true rfl) [(0, .ref c)] rfl (fun X hX F hQ => ?_)
  have hPP := hP
  unfold OKP at hPP
  have h1 : HS V c ⟨T, Z, u, h, P, L⟩ [0, 1, 2, 3, 4, 5, 6, 7, 8, 9, 10, 11, 12, 13, 14, 15, 16, 17, 18, 19, 20, 21, 22, 23] σ σ := HS.start h0
  refine m_iconst F (v := 0) (by decide) e_X10_wordHere_0 ?_
  refine m_istore_n F (lv' := [(1, .int 0), (0, .ref c)]) e_X10_wordHere_1 (by decide) rfl ?_
  refine m_iconst F (v := 0) (by decide) e_X10_wordHere_2 ?_
  refine m_istore_n F (lv' := [(2, .int 0), (1, .int 0), (0, .ref c)]) e_X10_wordHere_3 (by decide) rfl ?_
  refine Wm.lvsub (lv' := [(0, .ref c), (1, .int 0), (2, .int 0)]) ?_ [2, 1, 0] rfl
  exact lq_X10_wordHere_4 F hQ hob hP  (48 - 0 + 1) 0 0 _ h1 (by omega) (Nat.lt_succ_self _)
set_option maxRecDepth 20000 in
theorem lq_X10_nameHere_7 {V : VX} {X : MX} {N : Nat} {σ : Mem} {c T Z u h : Nat} {P : NP} {L : Nat → LQ}   (F : Fx V X yX10_nameHere cX10_nameHere 2 none (rmd 0 0 0)) (hQ : Rt V X 0 0 N (fun r τ => HS V c (⟨T, Z, u, h, P, L⟩ : RG) [0, 2, 3, 4, 5, 6, 7, 8, 9, 10, 11, 12, 13, 14, 15, 16, 17, 18, 19, 20, 21, 22, 23] σ τ ∧ r = none)) (hob : OKB L) (hP : OKP P)   : ∀ (fuel : Nat) (i : Nat) (τ : Mem), HS V c (⟨T, Z, u, h, P, L⟩ : RG) [0, 2, 3, 4, 5, 6, 7, 8, 9, 10, 11, 12, 13, 14, 15, 16, 17, 18, 19, 20, 21, 22, 23] σ τ → i ≤ 6 → 6 - i < fuel → Wm V X 2 N τ 0 0 7 [(0, .ref c), (1, .int (nI i))] [] := by
  intro fuel
  induction fuel with
  | zero => intros; rename_i hm; exact absurd hm (Nat.not_lt_zero _)
  | succ fuel ih =>
    intro i τ h1 hi hm
    have hPP := hP
    unfold OKP at hPP
    refine m_iload_n F rfl e_X10_nameHere_7 ?_
    refine m_bipush F (v := 6) (by decide) e_X10_nameHere_8 ?_
    refine m_icmp_ge F e_X10_nameHere_10 (fun q10 => ?_) (fun q10 => ?_)
    · have c10 : i ≥ 6 := (nI_leI (a := 6) (b := i) (by omega) (by omega)).mp q10
      exact m_vret F hQ e_X10_nameHere_63 (⟨h1, rfl⟩)
    · have c10 : i < 6 := by have hh := mt (nI_leI (a := 6) (b := i) (by omega) (by omega)).mpr q10; omega
      refine m_aload_n F rfl e_X10_nameHere_13 ?_
      refine m_aload_n F rfl e_X10_nameHere_14 ?_
      refine r_get F e_X10_nameHere_15 fl_X10_120 h1 rfl (fun v hv f7528 => ?_)
      obtain ⟨x7529, rfl⟩ := hv
      refine m_iconst F (v := 5) (by decide) e_X10_nameHere_18 ?_
      refine m_ishl F e_X10_nameHere_19 ?_
      refine Wm.top (fun x7530 _ => ?_)
      refine m_aload_n F rfl e_X10_nameHere_20 ?_
      refine r_get F e_X10_nameHere_21 fl_X10_107 h1 rfl (fun v hv f7531 => ?_)
      obtain ⟨n7532, hn7532, rfl⟩ := hv
      replace hn7532 : n7532 ≤ 700 := hn7532
      refine m_iload_n F rfl e_X10_nameHere_24 ?_
      refine m_iadd F e_X10_nameHere_25 ?_
      refine Wm.topE (w := nI (n7532 + i)) (nI_add n7532 i) ?_
      refine m_aload_n F rfl e_X10_nameHere_26 ?_
      refine r_get F e_X10_nameHere_27 fl_X10_97 h1 rfl (fun v hv f7533 => ?_)
      obtain rfl : v = .int (nI (P.a)) := hv
      refine m_icmp_ge F e_X10_nameHere_30 (fun q30 => ?_) (fun q30 => ?_)
      · have c30 : (n7532 + i) ≥ P.a := (nI_leI (a := P.a) (b := (n7532 + i)) (by omega) (by omega)).mp q30
        refine m_iconst F (v := 0) (by decide) e_X10_nameHere_52 ?_
        refine m_ior F e_X10_nameHere_53 ?_
        refine Wm.top (fun x7534 _ => ?_)
        refine r_put F (g' := (⟨T, Z, u, h, P, L⟩ : RG)) e_X10_nameHere_54 fp_X10_120 h1 (by decide) ⟨_, rfl⟩ (fun _ _ _ _ q => q) (fun _ _ _ q => q) rfl rfl (by decide) (fun σ7535 h7536 g7537 g7538 f7539 => ?_)
        refine m_iinc F (v := nI (i + 1)) (lv' := [(1, .int (nI (i + 1))), (0, .ref c)]) e_X10_nameHere_57 rfl (nI_add i 1) (by decide) rfl ?_
        refine m_goto F e_X10_nameHere_60 ?_
        refine Wm.lvsub (lv' := [(0, .ref c), (1, .int (nI (i + 1)))]) ?_ [1, 0] rfl
        exact ih (i + 1) _ h7536 (by omega) (by omega)
      · have c30 : (n7532 + i) < P.a := by have hh := mt (nI_leI (a := P.a) (b := (n7532 + i)) (by omega) (by omega)).mpr q30; omega
        refine m_aload_n F rfl e_X10_nameHere_33 ?_
        refine r_get F e_X10_nameHere_34 fl_X10_7 h1 rfl (fun v hv f7540 => ?_)
        obtain rfl : v = .ref (c + 1) := hv
        refine m_aload_n F rfl e_X10_nameHere_37 ?_
        refine r_getC F e_X10_nameHere_38 fl_X10_107 h1 (f7531) ?_
        refine m_iload_n F rfl e_X10_nameHere_41 ?_
        refine m_iadd F e_X10_nameHere_42 ?_
        refine Wm.topE (w := nI (n7532 + i)) (nI_add n7532 i) ?_
        refine r_iald F (len := 700) (j := n7532 + i) e_X10_nameHere_43 h1 (fun _ h => h) (by decide) (nI_clamp (by omega)) (vp_in_nI (by omega) (by decide)) (fun x7541 h7542 f7543 => ?_)
        refine m_bipush F (v := 97) (by decide) e_X10_nameHere_44 ?_
        refine m_isub F e_X10_nameHere_46 ?_
        refine Wm.top (fun x7544 _ => ?_)
        refine m_iconst F (v := 1) (by decide) e_X10_nameHere_47 ?_
        refine m_iadd F e_X10_nameHere_48 ?_
        refine Wm.top (fun x7545 _ => ?_)
        refine m_goto F e_X10_nameHere_49 ?_
        refine m_ior F e_X10_nameHere_53 ?_
        refine Wm.top (fun x7546 _ => ?_)
        refine r_put F (g' := (⟨T, Z, u, h, P, L⟩ : RG)) e_X10_nameHere_54 fp_X10_120 h1 (by decide) ⟨_, rfl⟩ (fun _ _ _ _ q => q) (fun _ _ _ q => q) rfl rfl (by decide) (fun σ7547 h7548 g7549 g7550 f7551 => ?_)
        refine m_iinc F (v := nI (i + 1)) (lv' := [(1, .int (nI (i + 1))), (0, .ref c)]) e_X10_nameHere_57 rfl (nI_add i 1) (by decide) rfl ?_
        refine m_goto F e_X10_nameHere_60 ?_
        refine Wm.lvsub (lv' := [(0, .ref c), (1, .int (nI (i + 1)))]) ?_ [1, 0] rfl
        exact ih (i + 1) _ h7548 (by omega) (by omega)
set_option maxRecDepth 20000 in
theorem q_X10_nameHere (l : Launch) (V : VX) (c T Z u h : Nat) (P : NP) (L : Nat → LQ) (N : Nat) (σ : Mem)  (h0 : HR V c ⟨T, Z, u, h, P, L⟩ σ) (hob : OKB L) (hP : OKP P)  : Ct l V yX10_nameHere cX10_nameHere 2 none 0 0 0 N σ [.ref c] (fun r τ => HS V c (⟨T, Z, u, h, P, L⟩ : RG) [0, 2, 3, 4, 5, 6, 7, 8, 9, 10, 11, 12, 13, 14, 15, 16, 17, 18, 19, 20, 21, 22, 23] σ τ ∧ r = none) := by
  refine Ct.of (by decide) (Nat.le_of_ble_eq_true rfl) [(0, .ref c)] rfl (fun X hX F hQ => ?_)
  have hPP := hP
  unfold OKP at hPP
  have h1 : HS V c ⟨T, Z, u, h, P, L⟩ [0, 2, 3, 4, 5, 6, 7, 8, 9, 10, 11, 12, 13, 14, 15, 16, 17, 18, 19, 20, 21, 22, 23] σ σ := HS.start h0
  refine m_aload_n F rfl e_X10_nameHere_0 ?_
  refine m_iconst F (v := 0) (by decide) e_X10_nameHere_1 ?_
  refine r_put F (g' := (⟨T, Z, u, h, P, L⟩ : RG)) e_X10_nameHere_2 fp_X10_120 h1 (by decide) ⟨_, rfl⟩ (fun _ _ _ _ q => q) (fun _ _ _ q => q) rfl rfl (by decide) (fun σ7552 h7553 g7554 g7555 f7556 => ?_)
  refine m_iconst F (v := 0) (by decide) e_X10_nameHere_5 ?_
  refine m_istore_n F (lv' := [(1, .int 0), (0, .ref c)]) e_X10_nameHere_6 (by decide) rfl ?_
  refine Wm.lvsub (lv' := [(0, .ref c), (1, .int 0)]) ?_ [1, 0] rfl
  exact lq_X10_nameHere_7 F hQ hob hP  (6 - 0 + 1) 0 _ h7553 (by omega) (Nat.lt_succ_self _)
set_option maxRecDepth 20000 in
theorem lq_X10_token_162 {V : VX} {X : MX} {N : Nat} {σ : Mem} {c T Z u h : Nat} {P : NP} {L : Nat → LQ}   (F : Fx V X yX10_token cX10_token 2 none (rmd 5 0 0)) (hQ : Rt V X 0 0 N (fun r τ => ∃ P9 : NP, OKP P9 ∧ RA P P9 ∧ (fld τ c 21 = some (.int 4) ∨ P.a < P9.a) ∧ HS V c (⟨T, Z, u, h, P9, L⟩ : RG) [0, 2, 3, 4, 5, 6, 7, 8, 9, 10, 11, 12, 13, 14, 15, 16, 17, 18, 19, 20, 21, 22, 23] σ τ ∧ r = none)) (hob : OKB L) (hP : OKP P)   : ∀ (fuel : Nat)  (P1 : NP) (τ : Mem), HS V c (⟨T, Z, u, h, P1, L⟩ : RG) [0, 2, 3, 4, 5, 6, 7, 8, 9, 10, 11, 12, 13, 14, 15, 16, 17, 18, 19, 20, 21, 22, 23] σ τ → OKP P1 → RA P P1 → P.a < P1.a → 700 - P1.a < fuel → Wm V X 2 N τ 0 0 162 [(0, .ref c)] [] := by
  intro fuel
  induction fuel with
  | zero => intros; rename_i hm; exact absurd hm (Nat.not_lt_zero _)
  | succ fuel ih =>
    intro  P1 τ h1 hP1 hR1 hi hm
    have hPP := hP
    unfold OKP at hPP
    have hPP1 := hP1
    unfold OKP at hPP1
    unfold RA at hR1
    refine m_aload_n F rfl e_X10_token_162 ?_
    refine r_callV F e_X10_token_163 (q_X10_here (x_l X) V c T Z u h P1 L _ _  h1.1 (hob) hP1 ) cb_X10_here ml_X10_103 im_X10_here se_X10_here h1 rfl rfl (rest := []) rfl (Nat.le_of_ble_eq_true rfl) ⟨Nat.le_of_ble_eq_true rfl, Nat.le_of_ble_eq_true rfl⟩ ⟨Nat.le_of_ble_eq_true rfl, Nat.le_of_ble_eq_true rfl⟩ (fun r σ7557 hp => ?_)
    obtain ⟨h7558, x7560, gex7560, rfl⟩ := hp
    have h7559 := HS.trans h1 h7558 (by decide)
    refine m_callS F e_X10_token_166 (q_X10_isDigit2 (x_l X) V _ _ x7560 ) cb_X10_isDigit ml_X10_126 sm_X10_isDigit rfl (rest := []) rfl (Nat.le_of_ble_eq_true rfl) ⟨Nat.le_of_ble_eq_true rfl, Nat.le_of_ble_eq_true rfl⟩ ⟨Nat.le_of_ble_eq_true rfl, Nat.le_of_ble_eq_true rfl⟩ (k' := 0) (z' := 0) (N' := N) rfl rfl rfl (fun r σ7561 hp => ?_)
    obtain ⟨rfl, c7564⟩ := hp
    rcases c7564 with ⟨g7565, rfl⟩ | ⟨g7565, rfl⟩
    · refine m_if_eq F e_X10_token_169 (fun _ => ?_) (fun q => absurd (by decide) q)
      exact m_vret F hQ e_X10_token_245 (⟨P1, hP1, (by unfold RA; omega), (Or.inr (by omega)), h7559, rfl⟩)
    · refine m_if_eq F e_X10_token_169 (fun q => absurd q (by decide)) (fun _ => ?_)
      have ha7566 := gex7560.lt (fun e => g7565.1 (by rw [e]; decide))
      have ha7567 := gex7560.lt (fun e => g7565.1 (by rw [e]; decide))
      have ha7568 := gex7560.lt (fun e => g7565.1 (by rw [e]; decide))
      refine m_aload_n F rfl e_X10_token_172 ?_
      refine m_aload_n F rfl e_X10_token_173 ?_
      refine r_get F e_X10_token_174 fl_X10_120 h7559 rfl (fun v hv f7569 => ?_)
      obtain ⟨x7570, rfl⟩ := hv
      refine m_ldc F kc_X10_129 e_X10_token_177 ?_
      refine m_icmp_le F e_X10_token_179 (fun q179 => ?_) (fun q179 => ?_)
      · refine m_bipush F (v := 10) (by decide) e_X10_token_189 ?_
        refine m_aload_n F rfl e_X10_token_191 ?_
        refine r_getC F e_X10_token_192 fl_X10_120 h7559 (f7569) ?_
        refine m_imul F e_X10_token_195 ?_
        refine Wm.top (fun x7571 _ => ?_)
        refine m_aload_n F rfl e_X10_token_196 ?_
        refine r_callV F e_X10_token_197 (q_X10_here (x_l X) V c T Z u h P1 L _ _  h7559.1 (hob) hP1 ) cb_X10_here ml_X10_103 im_X10_here se_X10_here h7559 rfl rfl (rest := [.int x7571, .ref c]) rfl (Nat.le_of_ble_eq_true rfl) ⟨Nat.le_of_ble_eq_true rfl, Nat.le_of_ble_eq_true rfl⟩ ⟨Nat.le_of_ble_eq_true rfl, Nat.le_of_ble_eq_true rfl⟩ (fun r σ7572 hp => ?_)
        obtain ⟨h7573, x7575, gex7575, rfl⟩ := hp
        have h7574 := HS.trans h7559 h7573 (by decide)
        have he7576 := gex7560.of (fld_eq (h7573.2 c (by rw [show kC c c = 1 from kC_at (k := 0) (by decide)]; decide))) (elI_eq (h7573.2 (c + 1) (by rw [kC_at (k := 1) (by decide)]; decide)))
        obtain rfl : x7560 = x7575 := HE.uniq he7576 gex7575
        refine m_iadd F e_X10_token_200 ?_
        refine Wm.top (fun x7577 _ => ?_)
        refine m_bipush F (v := 48) (by decide) e_X10_token_201 ?_
        refine m_isub F e_X10_token_203 ?_
        refine Wm.top (fun x7578 _ => ?_)
        refine r_put F (g' := (⟨T, Z, u, h, P1, L⟩ : RG)) e_X10_token_204 fp_X10_120 h7574 (by decide) ⟨_, rfl⟩ (fun _ _ _ _ q => q) (fun _ _ _ q => q) rfl rfl (by decide) (fun σ7579 h7580 g7581 g7582 f7583 => ?_)
        have he7584 := gex7575.of (g7582 18 (by decide)) (elI_eq (g7581 _ (by omega)))
        refine m_aload_n F rfl e_X10_token_207 ?_
        refine m_dup F rfl e_X10_token_208 ?_
        refine r_get F e_X10_token_209 fl_X10_97 h7580 rfl (fun v hv f7585 => ?_)
        obtain rfl : v = .int (nI (P1.a)) := hv
        refine m_iconst F (v := 1) (by decide) e_X10_token_212 ?_
        refine m_iadd F e_X10_token_213 ?_
        refine Wm.topE (w := nI (P1.a + 1)) (nI_add P1.a 1) ?_
        refine r_put F (g' := (⟨T, Z, u, h, (mkP P1.n0 P1.n2 P1.n5 P1.n7 P1.m0 P1.m5 P1.w2 P1.w7 P1.kk (P1.a + 1)), L⟩ : RG)) e_X10_token_214 fp_X10_97 h7580 (by decide) rfl ctl_a CR.setA rfl rfl (by decide) (fun σ7586 h7587 g7588 g7589 f7590 => ?_)
        obtain ⟨P7591, eP7591⟩ : ∃ P9, P9 = (mkP P1.n0 P1.n2 P1.n5 P1.n7 P1.m0 P1.m5 P1.w2 P1.w7 P1.kk (P1.a + 1)) := ⟨_, rfl⟩
        rw [← eP7591] at h7587
        have fP7591 : P7591.n0 = P1.n0 ∧ P7591.n2 = P1.n2 ∧ P7591.n5 = P1.n5 ∧ P7591.n7 = P1.n7 ∧ P7591.m0 = P1.m0 ∧ P7591.m5 = P1.m5 ∧ P7591.w2 = P1.w2 ∧ P7591.w7 = P1.w7 ∧ P7591.kk = P1.kk ∧ P7591.a = P1.a + 1 := by rw [eP7591]; exact ⟨rfl, rfl, rfl, rfl, rfl, rfl, rfl, rfl, rfl, rfl⟩
        have he7592 := he7584.of (g7589 18 (by decide)) (elI_eq (g7588 _ (by omega)))
        refine m_goto F e_X10_token_217 ?_
        have oP7593 : OKP P7591 := by unfold OKP; omega
        exact ih  P7591 _ h7587 oP7593 (by unfold RA; omega) (by omega) (by omega)
      · obtain ⟨n7594, hn7594, rfl⟩ := nI_nn (x := x7570) (fun e => q179 (Int32.le_trans (Int32.le_of_lt e) (by decide)))
        have c179 : n7594 > 9999999 := by have hh := mt (nI_leI (a := n7594) (b := 9999999) (by omega) (by omega)).mpr q179; omega
        refine m_aload_n F rfl e_X10_token_182 ?_
        refine r_getC F e_X10_token_183 fl_X10_120 h7559 (f7569) ?_
        refine m_goto F e_X10_token_186 ?_
        refine r_put F (g' := (⟨T, Z, u, h, P1, L⟩ : RG)) e_X10_token_204 fp_X10_120 h7559 (by decide) ⟨_, rfl⟩ (fun _ _ _ _ q => q) (fun _ _ _ q => q) rfl rfl (by decide) (fun σ7595 h7596 g7597 g7598 f7599 => ?_)
        have he7600 := gex7560.of (g7598 18 (by decide)) (elI_eq (g7597 _ (by omega)))
        refine m_aload_n F rfl e_X10_token_207 ?_
        refine m_dup F rfl e_X10_token_208 ?_
        refine r_get F e_X10_token_209 fl_X10_97 h7596 rfl (fun v hv f7601 => ?_)
        obtain rfl : v = .int (nI (P1.a)) := hv
        refine m_iconst F (v := 1) (by decide) e_X10_token_212 ?_
        refine m_iadd F e_X10_token_213 ?_
        refine Wm.topE (w := nI (P1.a + 1)) (nI_add P1.a 1) ?_
        refine r_put F (g' := (⟨T, Z, u, h, (mkP P1.n0 P1.n2 P1.n5 P1.n7 P1.m0 P1.m5 P1.w2 P1.w7 P1.kk (P1.a + 1)), L⟩ : RG)) e_X10_token_214 fp_X10_97 h7596 (by decide) rfl ctl_a CR.setA rfl rfl (by decide) (fun σ7602 h7603 g7604 g7605 f7606 => ?_)
        obtain ⟨P7607, eP7607⟩ : ∃ P9, P9 = (mkP P1.n0 P1.n2 P1.n5 P1.n7 P1.m0 P1.m5 P1.w2 P1.w7 P1.kk (P1.a + 1)) := ⟨_, rfl⟩
        rw [← eP7607] at h7603
        have fP7607 : P7607.n0 = P1.n0 ∧ P7607.n2 = P1.n2 ∧ P7607.n5 = P1.n5 ∧ P7607.n7 = P1.n7 ∧ P7607.m0 = P1.m0 ∧ P7607.m5 = P1.m5 ∧ P7607.w2 = P1.w2 ∧ P7607.w7 = P1.w7 ∧ P7607.kk = P1.kk ∧ P7607.a = P1.a + 1 := by rw [eP7607]; exact ⟨rfl, rfl, rfl, rfl, rfl, rfl, rfl, rfl, rfl, rfl⟩
        have he7608 := he7600.of (g7605 18 (by decide)) (elI_eq (g7604 _ (by omega)))
        refine m_goto F e_X10_token_217 ?_
        have oP7609 : OKP P7607 := by unfold OKP; omega
        exact ih  P7607 _ h7603 oP7609 (by unfold RA; omega) (by omega) (by omega)
set_option maxRecDepth 20000 in
theorem lq_X10_token_64 {V : VX} {X : MX} {N : Nat} {σ : Mem} {c T Z u h : Nat} {P : NP} {L : Nat → LQ}   (F : Fx V X yX10_token cX10_token 2 none (rmd 5 0 0)) (hQ : Rt V X 0 0 N (fun r τ => ∃ P9 : NP, OKP P9 ∧ RA P P9 ∧ (fld τ c 21 = some (.int 4) ∨ P.a < P9.a) ∧ HS V c (⟨T, Z, u, h, P9, L⟩ : RG) [0, 2, 3, 4, 5, 6, 7, 8, 9, 10, 11, 12, 13, 14, 15, 16, 17, 18, 19, 20, 21, 22, 23] σ τ ∧ r = none)) (hob : OKB L) (hP : OKP P)   : ∀ (fuel : Nat)  (P1 : NP) (τ : Mem), HS V c (⟨T, Z, u, h, P1, L⟩ : RG) [0, 2, 3, 4, 5, 6, 7, 8, 9, 10, 11, 12, 13, 14, 15, 16, 17, 18, 19, 20, 21, 22, 23] σ τ → OKP P1 → RA P P1 → P.a < P1.a → 700 - P1.a < fuel → Wm V X 2 N τ 0 0 64 [(0, .ref c)] [] := by
  intro fuel
  induction fuel with
  | zero => intros; rename_i hm; exact absurd hm (Nat.not_lt_zero _)
  | succ fuel ih =>
    intro  P1 τ h1 hP1 hR1 hi hm
    have hPP := hP
    unfold OKP at hPP
    have hPP1 := hP1
    unfold OKP at hPP1
    unfold RA at hR1
    refine m_aload_n F rfl e_X10_token_64 ?_
    refine r_callV F e_X10_token_65 (q_X10_here (x_l X) V c T Z u h P1 L _ _  h1.1 (hob) hP1 ) cb_X10_here ml_X10_103 im_X10_here se_X10_here h1 rfl rfl (rest := []) rfl (Nat.le_of_ble_eq_true rfl) ⟨Nat.le_of_ble_eq_true rfl, Nat.le_of_ble_eq_true rfl⟩ ⟨Nat.le_of_ble_eq_true rfl, Nat.le_of_ble_eq_true rfl⟩ (fun r σ7610 hp => ?_)
    obtain ⟨h7611, x7613, gex7613, rfl⟩ := hp
    have h7612 := HS.trans h1 h7611 (by decide)
    refine m_callS F e_X10_token_68 (q_X10_isSmall2 (x_l X) V _ _ x7613 ) cb_X10_isSmall ml_X10_113 sm_X10_isSmall rfl (rest := []) rfl (Nat.le_of_ble_eq_true rfl) ⟨Nat.le_of_ble_eq_true rfl, Nat.le_of_ble_eq_true rfl⟩ ⟨Nat.le_of_ble_eq_true rfl, Nat.le_of_ble_eq_true rfl⟩ (k' := 0) (z' := 0) (N' := N) rfl rfl rfl (fun r σ7614 hp => ?_)
    obtain ⟨rfl, c7617⟩ := hp
    rcases c7617 with ⟨g7618, rfl⟩ | ⟨g7618, rfl⟩
    · refine m_if_eq F e_X10_token_71 (fun _ => ?_) (fun q => absurd (by decide) q)
      refine m_aload_n F rfl e_X10_token_87 ?_
      refine m_aload_n F rfl e_X10_token_88 ?_
      refine r_callV F e_X10_token_89 (q_X10_wordHere (x_l X) V c T Z u h P1 L _ _  h7612.1 (hob) hP1 ) cb_X10_wordHere ml_X10_117 im_X10_wordHere se_X10_wordHere h7612 rfl rfl (rest := [.ref c]) rfl (Nat.le_of_ble_eq_true rfl) ⟨Nat.le_of_ble_eq_true rfl, Nat.le_of_ble_eq_true rfl⟩ ⟨Nat.le_of_ble_eq_true rfl, Nat.le_of_ble_eq_true rfl⟩ (fun r σ7619 hp => ?_)
      obtain ⟨h7620, x7622, rfl⟩ := hp
      have h7621 := HS.trans h7612 h7620 (by decide)
      have he7623 := gex7613.of (fld_eq (h7620.2 c (by rw [show kC c c = 1 from kC_at (k := 0) (by decide)]; decide))) (elI_eq (h7620.2 (c + 1) (by rw [kC_at (k := 1) (by decide)]; decide)))
      refine r_put F (g' := (⟨T, Z, u, h, P1, L⟩ : RG)) e_X10_token_92 fp_X10_120 h7621 (by decide) ⟨_, rfl⟩ (fun _ _ _ _ q => q) (fun _ _ _ q => q) rfl rfl (by decide) (fun σ7624 h7625 g7626 g7627 f7628 => ?_)
      have he7629 := he7623.of (g7627 18 (by decide)) (elI_eq (g7626 _ (by omega)))
      refine m_aload_n F rfl e_X10_token_95 ?_
      refine m_aload_n F rfl e_X10_token_96 ?_
      refine r_getC F e_X10_token_97 fl_X10_120 h7625 (f7628) ?_
      refine m_iconst F (v := (-1)) (by decide) e_X10_token_100 ?_
      refine m_icmp_eq F e_X10_token_101 (fun q101 => ?_) (fun q101 => ?_)
      · subst q101
        refine m_aload_n F rfl e_X10_token_108 ?_
        refine r_get F e_X10_token_109 fl_X10_97 h7625 rfl (fun v hv f7630 => ?_)
        obtain rfl : v = .int (nI (P1.a)) := hv
        refine m_aload_n F rfl e_X10_token_112 ?_
        refine r_get F e_X10_token_113 fl_X10_107 h7625 rfl (fun v hv f7631 => ?_)
        obtain ⟨n7632, hn7632, rfl⟩ := hv
        replace hn7632 : n7632 ≤ 700 := hn7632
        refine m_isub F e_X10_token_116 ?_
        refine Wm.top (fun x7633 _ => ?_)
        refine m_bipush F (v := 6) (by decide) e_X10_token_117 ?_
        refine m_icmp_le F e_X10_token_119 (fun q119 => ?_) (fun q119 => ?_)
        · refine m_iconst F (v := 1) (by decide) e_X10_token_126 ?_
          refine r_put F (g' := (⟨T, Z, u, h, P1, L⟩ : RG)) e_X10_token_127 fp_X10_110 h7625 (by decide) ⟨_, rfl⟩ (fun _ _ _ _ q => q) (fun _ _ _ q => q) rfl rfl (by decide) (fun σ7634 h7635 g7636 g7637 f7638 => ?_)
          have he7639 := he7629.of (g7637 18 (by decide)) (elI_eq (g7636 _ (by omega)))
          refine m_aload_n F rfl e_X10_token_130 ?_
          refine r_getC F e_X10_token_131 fl_X10_110 h7635 (f7638) ?_
          refine m_iconst F (v := 1) (by decide) e_X10_token_134 ?_
          refine m_icmp_ne F e_X10_token_135 (fun q => absurd (by decide) q) (fun _ => ?_)
          refine m_aload_n F rfl e_X10_token_138 ?_
          refine r_callV F e_X10_token_139 (q_X10_nameHere (x_l X) V c T Z u h P1 L _ _  h7635.1 (hob) hP1 ) cb_X10_nameHere ml_X10_123 im_X10_nameHere se_X10_nameHere h7635 rfl rfl (rest := []) rfl (Nat.le_of_ble_eq_true rfl) ⟨Nat.le_of_ble_eq_true rfl, Nat.le_of_ble_eq_true rfl⟩ ⟨Nat.le_of_ble_eq_true rfl, Nat.le_of_ble_eq_true rfl⟩ (fun r σ7640 hp => ?_)
          obtain ⟨h7641, rfl⟩ := hp
          have h7642 := HS.trans h7635 h7641 (by decide)
          refine m_goto F e_X10_token_142 ?_
          exact m_vret F hQ e_X10_token_245 (⟨P1, hP1, (by unfold RA; omega), (Or.inr (by omega)), h7642, rfl⟩)
        · obtain ⟨n7643, hn7643, rfl⟩ := nI_nn (x := x7633) (fun e => q119 (Int32.le_trans (Int32.le_of_lt e) (by decide)))
          have c119 : n7643 > 6 := by have hh := mt (nI_leI (a := n7643) (b := 6) (by omega) (by omega)).mpr q119; omega
          refine m_iconst F (v := 5) (by decide) e_X10_token_122 ?_
          refine m_goto F e_X10_token_123 ?_
          refine r_put F (g' := (⟨T, Z, u, h, P1, L⟩ : RG)) e_X10_token_127 fp_X10_110 h7625 (by decide) ⟨_, rfl⟩ (fun _ _ _ _ q => q) (fun _ _ _ q => q) rfl rfl (by decide) (fun σ7644 h7645 g7646 g7647 f7648 => ?_)
          have he7649 := he7629.of (g7647 18 (by decide)) (elI_eq (g7646 _ (by omega)))
          refine m_aload_n F rfl e_X10_token_130 ?_
          refine r_getC F e_X10_token_131 fl_X10_110 h7645 (f7648) ?_
          refine m_iconst F (v := 1) (by decide) e_X10_token_134 ?_
          refine m_icmp_ne F e_X10_token_135 (fun _ => ?_) (fun q => absurd q (by decide))
          exact m_vret F hQ e_X10_token_245 (⟨P1, hP1, (by unfold RA; omega), (Or.inr (by omega)), h7645, rfl⟩)
      · refine m_iconst F (v := 0) (by decide) e_X10_token_104 ?_
        refine m_goto F e_X10_token_105 ?_
        refine r_put F (g' := (⟨T, Z, u, h, P1, L⟩ : RG)) e_X10_token_127 fp_X10_110 h7625 (by decide) ⟨_, rfl⟩ (fun _ _ _ _ q => q) (fun _ _ _ q => q) rfl rfl (by decide) (fun σ7650 h7651 g7652 g7653 f7654 => ?_)
        have he7655 := he7629.of (g7653 18 (by decide)) (elI_eq (g7652 _ (by omega)))
        refine m_aload_n F rfl e_X10_token_130 ?_
        refine r_getC F e_X10_token_131 fl_X10_110 h7651 (f7654) ?_
        refine m_iconst F (v := 1) (by decide) e_X10_token_134 ?_
        refine m_icmp_ne F e_X10_token_135 (fun _ => ?_) (fun q => absurd q (by decide))
        exact m_vret F hQ e_X10_token_245 (⟨P1, hP1, (by unfold RA; omega), (Or.inr (by omega)), h7651, rfl⟩)
    · refine m_if_eq F e_X10_token_71 (fun q => absurd q (by decide)) (fun _ => ?_)
      have ha7656 := gex7613.lt (fun e => g7618.1 (by rw [e]; decide))
      have ha7657 := gex7613.lt (fun e => g7618.1 (by rw [e]; decide))
      have ha7658 := gex7613.lt (fun e => g7618.1 (by rw [e]; decide))
      refine m_aload_n F rfl e_X10_token_74 ?_
      refine m_dup F rfl e_X10_token_75 ?_
      refine r_get F e_X10_token_76 fl_X10_97 h7612 rfl (fun v hv f7659 => ?_)
      obtain rfl : v = .int (nI (P1.a)) := hv
      refine m_iconst F (v := 1) (by decide) e_X10_token_79 ?_
      refine m_iadd F e_X10_token_80 ?_
      refine Wm.topE (w := nI (P1.a + 1)) (nI_add P1.a 1) ?_
      refine r_put F (g' := (⟨T, Z, u, h, (mkP P1.n0 P1.n2 P1.n5 P1.n7 P1.m0 P1.m5 P1.w2 P1.w7 P1.kk (P1.a + 1)), L⟩ : RG)) e_X10_token_81 fp_X10_97 h7612 (by decide) rfl ctl_a CR.setA rfl rfl (by decide) (fun σ7660 h7661 g7662 g7663 f7664 => ?_)
      obtain ⟨P7665, eP7665⟩ : ∃ P9, P9 = (mkP P1.n0 P1.n2 P1.n5 P1.n7 P1.m0 P1.m5 P1.w2 P1.w7 P1.kk (P1.a + 1)) := ⟨_, rfl⟩
      rw [← eP7665] at h7661
      have fP7665 : P7665.n0 = P1.n0 ∧ P7665.n2 = P1.n2 ∧ P7665.n5 = P1.n5 ∧ P7665.n7 = P1.n7 ∧ P7665.m0 = P1.m0 ∧ P7665.m5 = P1.m5 ∧ P7665.w2 = P1.w2 ∧ P7665.w7 = P1.w7 ∧ P7665.kk = P1.kk ∧ P7665.a = P1.a + 1 := by rw [eP7665]; exact ⟨rfl, rfl, rfl, rfl, rfl, rfl, rfl, rfl, rfl, rfl⟩
      have he7666 := gex7613.of (g7663 18 (by decide)) (elI_eq (g7662 _ (by omega)))
      refine m_goto F e_X10_token_84 ?_
      have oP7667 : OKP P7665 := by unfold OKP; omega
      exact ih  P7665 _ h7661 oP7667 (by unfold RA; omega) (by omega) (by omega)
set_option maxRecDepth 20000 in
theorem lq_X10_token_0 {V : VX} {X : MX} {N : Nat} {σ : Mem} {c T Z u h : Nat} {P : NP} {L : Nat → LQ}   (F : Fx V X yX10_token cX10_token 2 none (rmd 5 0 0)) (hQ : Rt V X 0 0 N (fun r τ => ∃ P9 : NP, OKP P9 ∧ RA P P9 ∧ (fld τ c 21 = some (.int 4) ∨ P.a < P9.a) ∧ HS V c (⟨T, Z, u, h, P9, L⟩ : RG) [0, 2, 3, 4, 5, 6, 7, 8, 9, 10, 11, 12, 13, 14, 15, 16, 17, 18, 19, 20, 21, 22, 23] σ τ ∧ r = none)) (hob : OKB L) (hP : OKP P)   : ∀ (fuel : Nat)  (P1 : NP) (τ : Mem), HS V c (⟨T, Z, u, h, P1, L⟩ : RG) [0, 2, 3, 4, 5, 6, 7, 8, 9, 10, 11, 12, 13, 14, 15, 16, 17, 18, 19, 20, 21, 22, 23] σ τ → OKP P1 → RA P P1 → True → 700 - P1.a < fuel → Wm V X 2 N τ 0 0 0 [(0, .ref c)] [] := by
  intro fuel
  induction fuel with
  | zero => intros; rename_i hm; exact absurd hm (Nat.not_lt_zero _)
  | succ fuel ih =>
    intro  P1 τ h1 hP1 hR1 hi hm
    have hPP := hP
    unfold OKP at hPP
    have hPP1 := hP1
    unfold OKP at hPP1
    unfold RA at hR1
    refine m_aload_n F rfl e_X10_token_0 ?_
    refine r_callV F e_X10_token_1 (q_X10_here (x_l X) V c T Z u h P1 L _ _  h1.1 (hob) hP1 ) cb_X10_here ml_X10_103 im_X10_here se_X10_here h1 rfl rfl (rest := []) rfl (Nat.le_of_ble_eq_true rfl) ⟨Nat.le_of_ble_eq_true rfl, Nat.le_of_ble_eq_true rfl⟩ ⟨Nat.le_of_ble_eq_true rfl, Nat.le_of_ble_eq_true rfl⟩ (fun r σ7668 hp => ?_)
    obtain ⟨h7669, x7671, gex7671, rfl⟩ := hp
    have h7670 := HS.trans h1 h7669 (by decide)
    refine m_bipush F (v := 10) (by decide) e_X10_token_4 ?_
    refine m_icmp_eq F e_X10_token_6 (fun q6 => ?_) (fun q6 => ?_)
    · subst q6
      have ha7672 := gex7671.lt (by decide)
      refine m_aload_n F rfl e_X10_token_18 ?_
      refine m_dup F rfl e_X10_token_19 ?_
      refine r_get F e_X10_token_20 fl_X10_97 h7670 rfl (fun v hv f7673 => ?_)
      obtain rfl : v = .int (nI (P1.a)) := hv
      refine m_iconst F (v := 1) (by decide) e_X10_token_23 ?_
      refine m_iadd F e_X10_token_24 ?_
      refine Wm.topE (w := nI (P1.a + 1)) (nI_add P1.a 1) ?_
      refine r_put F (g' := (⟨T, Z, u, h, (mkP P1.n0 P1.n2 P1.n5 P1.n7 P1.m0 P1.m5 P1.w2 P1.w7 P1.kk (P1.a + 1)), L⟩ : RG)) e_X10_token_25 fp_X10_97 h7670 (by decide) rfl ctl_a CR.setA rfl rfl (by decide) (fun σ7674 h7675 g7676 g7677 f7678 => ?_)
      obtain ⟨P7679, eP7679⟩ : ∃ P9, P9 = (mkP P1.n0 P1.n2 P1.n5 P1.n7 P1.m0 P1.m5 P1.w2 P1.w7 P1.kk (P1.a + 1)) := ⟨_, rfl⟩
      rw [← eP7679] at h7675
      have fP7679 : P7679.n0 = P1.n0 ∧ P7679.n2 = P1.n2 ∧ P7679.n5 = P1.n5 ∧ P7679.n7 = P1.n7 ∧ P7679.m0 = P1.m0 ∧ P7679.m5 = P1.m5 ∧ P7679.w2 = P1.w2 ∧ P7679.w7 = P1.w7 ∧ P7679.kk = P1.kk ∧ P7679.a = P1.a + 1 := by rw [eP7679]; exact ⟨rfl, rfl, rfl, rfl, rfl, rfl, rfl, rfl, rfl, rfl⟩
      have he7680 := gex7671.of (g7677 18 (by decide)) (elI_eq (g7676 _ (by omega)))
      refine m_goto F e_X10_token_28 ?_
      have oP7681 : OKP P7679 := by unfold OKP; omega
      exact ih  P7679 _ h7675 oP7681 (by unfold RA; omega) trivial (by omega)
    · refine m_aload_n F rfl e_X10_token_9 ?_
      refine r_callV F e_X10_token_10 (q_X10_here (x_l X) V c T Z u h P1 L _ _  h7670.1 (hob) hP1 ) cb_X10_here ml_X10_103 im_X10_here se_X10_here h7670 rfl rfl (rest := []) rfl (Nat.le_of_ble_eq_true rfl) ⟨Nat.le_of_ble_eq_true rfl, Nat.le_of_ble_eq_true rfl⟩ ⟨Nat.le_of_ble_eq_true rfl, Nat.le_of_ble_eq_true rfl⟩ (fun r σ7682 hp => ?_)
      obtain ⟨h7683, x7685, gex7685, rfl⟩ := hp
      have h7684 := HS.trans h7670 h7683 (by decide)
      have he7686 := gex7671.of (fld_eq (h7683.2 c (by rw [show kC c c = 1 from kC_at (k := 0) (by decide)]; decide))) (elI_eq (h7683.2 (c + 1) (by rw [kC_at (k := 1) (by decide)]; decide)))
      obtain rfl : x7671 = x7685 := HE.uniq he7686 gex7685
      refine m_bipush F (v := 32) (by decide) e_X10_token_13 ?_
      refine m_icmp_ne F e_X10_token_15 (fun q15 => ?_) (fun q15 => ?_)
      · refine m_aload_n F rfl e_X10_token_31 ?_
        refine m_aload_n F rfl e_X10_token_32 ?_
        refine r_get F e_X10_token_33 fl_X10_97 h7684 rfl (fun v hv f7687 => ?_)
        obtain rfl : v = .int (nI (P1.a)) := hv
        refine r_put F (g' := (⟨T, Z, u, h, P1, L⟩ : RG)) e_X10_token_36 fp_X10_107 h7684 (by decide) ⟨P1.a, (show P1.a ≤ 700 by omega), rfl⟩ (fun _ _ _ _ q => q) (fun _ _ _ q => q) rfl rfl (by decide) (fun σ7688 h7689 g7690 g7691 f7692 => ?_)
        have he7693 := gex7685.of (g7691 18 (by decide)) (elI_eq (g7690 _ (by omega)))
        refine m_aload_n F rfl e_X10_token_39 ?_
        refine r_callV F e_X10_token_40 (q_X10_here (x_l X) V c T Z u h P1 L _ _  h7689.1 (hob) hP1 ) cb_X10_here ml_X10_103 im_X10_here se_X10_here h7689 rfl rfl (rest := []) rfl (Nat.le_of_ble_eq_true rfl) ⟨Nat.le_of_ble_eq_true rfl, Nat.le_of_ble_eq_true rfl⟩ ⟨Nat.le_of_ble_eq_true rfl, Nat.le_of_ble_eq_true rfl⟩ (fun r σ7694 hp => ?_)
        obtain ⟨h7695, x7697, gex7697, rfl⟩ := hp
        have h7696 := HS.trans h7689 h7695 (by decide)
        have he7698 := he7693.of (fld_eq (h7695.2 c (by rw [show kC c c = 1 from kC_at (k := 0) (by decide)]; decide))) (elI_eq (h7695.2 (c + 1) (by rw [kC_at (k := 1) (by decide)]; decide)))
        obtain rfl : x7671 = x7697 := HE.uniq he7698 gex7697
        refine m_istore_n F (lv' := [(1, .int x7671), (0, .ref c)]) e_X10_token_43 (by decide) rfl ?_
        refine m_iload_n F rfl e_X10_token_44 ?_
        refine m_iconst F (v := (-1)) (by decide) e_X10_token_45 ?_
        refine m_icmp_ne F e_X10_token_46 (fun q46 => ?_) (fun q46 => ?_)
        · have ha7699 := gex7697.lt q46
          refine m_iload_n F rfl e_X10_token_57 ?_
          refine m_callS F e_X10_token_58 (q_X10_isSmall2 (x_l X) V _ _ x7671 ) cb_X10_isSmall ml_X10_113 sm_X10_isSmall rfl (rest := []) rfl (Nat.le_of_ble_eq_true rfl) ⟨Nat.le_of_ble_eq_true rfl, Nat.le_of_ble_eq_true rfl⟩ ⟨Nat.le_of_ble_eq_true rfl, Nat.le_of_ble_eq_true rfl⟩ (k' := 0) (z' := 0) (N' := N) rfl rfl rfl (fun r σ7700 hp => ?_)
          obtain ⟨rfl, c7703⟩ := hp
          rcases c7703 with ⟨g7704, rfl⟩ | ⟨g7704, rfl⟩
          · refine m_if_eq F e_X10_token_61 (fun _ => ?_) (fun q => absurd (by decide) q)
            refine m_iload_n F rfl e_X10_token_145 ?_
            refine m_callS F e_X10_token_146 (q_X10_isDigit2 (x_l X) V _ _ x7671 ) cb_X10_isDigit ml_X10_126 sm_X10_isDigit rfl (rest := []) rfl (Nat.le_of_ble_eq_true rfl) ⟨Nat.le_of_ble_eq_true rfl, Nat.le_of_ble_eq_true rfl⟩ ⟨Nat.le_of_ble_eq_true rfl, Nat.le_of_ble_eq_true rfl⟩ (k' := 0) (z' := 0) (N' := N) rfl rfl rfl (fun r σ7705 hp => ?_)
            obtain ⟨rfl, c7708⟩ := hp
            rcases c7708 with ⟨g7709, rfl⟩ | ⟨g7709, rfl⟩
            · refine m_if_eq F e_X10_token_149 (fun _ => ?_) (fun q => absurd (by decide) q)
              refine m_aload_n F rfl e_X10_token_220 ?_
              refine m_iload_n F rfl e_X10_token_221 ?_
              refine m_bipush F (v := 59) (by decide) e_X10_token_222 ?_
              refine m_icmp_ne F e_X10_token_224 (fun q224 => ?_) (fun q224 => ?_)
              · refine m_iconst F (v := 5) (by decide) e_X10_token_231 ?_
                refine r_put F (g' := (⟨T, Z, u, h, P1, L⟩ : RG)) e_X10_token_232 fp_X10_110 h7696 (by decide) ⟨_, rfl⟩ (fun _ _ _ _ q => q) (fun _ _ _ q => q) rfl rfl (by decide) (fun σ7710 h7711 g7712 g7713 f7714 => ?_)
                have he7715 := gex7697.of (g7713 18 (by decide)) (elI_eq (g7712 _ (by omega)))
                refine m_aload_n F rfl e_X10_token_235 ?_
                refine m_dup F rfl e_X10_token_236 ?_
                refine r_getC F e_X10_token_237 fl_X10_97 h7711 ((g7713 19 (by decide)).trans ((fld_eq (h7695.2 c (by rw [show kC c c = 1 from kC_at (k := 0) (by decide)]; decide))).trans ((g7691 19 (by decide)).trans f7687))) ?_
                refine m_iconst F (v := 1) (by decide) e_X10_token_240 ?_
                refine m_iadd F e_X10_token_241 ?_
                refine Wm.topE (w := nI (P1.a + 1)) (nI_add P1.a 1) ?_
                refine r_put F (g' := (⟨T, Z, u, h, (mkP P1.n0 P1.n2 P1.n5 P1.n7 P1.m0 P1.m5 P1.w2 P1.w7 P1.kk (P1.a + 1)), L⟩ : RG)) e_X10_token_242 fp_X10_97 h7711 (by decide) rfl ctl_a CR.setA rfl rfl (by decide) (fun σ7716 h7717 g7718 g7719 f7720 => ?_)
                obtain ⟨P7721, eP7721⟩ : ∃ P9, P9 = (mkP P1.n0 P1.n2 P1.n5 P1.n7 P1.m0 P1.m5 P1.w2 P1.w7 P1.kk (P1.a + 1)) := ⟨_, rfl⟩
                rw [← eP7721] at h7717
                have fP7721 : P7721.n0 = P1.n0 ∧ P7721.n2 = P1.n2 ∧ P7721.n5 = P1.n5 ∧ P7721.n7 = P1.n7 ∧ P7721.m0 = P1.m0 ∧ P7721.m5 = P1.m5 ∧ P7721.w2 = P1.w2 ∧ P7721.w7 = P1.w7 ∧ P7721.kk = P1.kk ∧ P7721.a = P1.a + 1 := by rw [eP7721]; exact ⟨rfl, rfl, rfl, rfl, rfl, rfl, rfl, rfl, rfl, rfl⟩
                have he7722 := he7715.of (g7719 18 (by decide)) (elI_eq (g7718 _ (by omega)))
                have oP7723 : OKP P7721 := by unfold OKP; omega
                exact m_vret F hQ e_X10_token_245 (⟨P7721, oP7723, (by unfold RA; omega), (Or.inr (by omega)), h7717, rfl⟩)
              · subst q224
                refine m_iconst F (v := 3) (by decide) e_X10_token_227 ?_
                refine m_goto F e_X10_token_228 ?_
                refine r_put F (g' := (⟨T, Z, u, h, P1, L⟩ : RG)) e_X10_token_232 fp_X10_110 h7696 (by decide) ⟨_, rfl⟩ (fun _ _ _ _ q => q) (fun _ _ _ q => q) rfl rfl (by decide) (fun σ7724 h7725 g7726 g7727 f7728 => ?_)
                have he7729 := gex7697.of (g7727 18 (by decide)) (elI_eq (g7726 _ (by omega)))
                refine m_aload_n F rfl e_X10_token_235 ?_
                refine m_dup F rfl e_X10_token_236 ?_
                refine r_getC F e_X10_token_237 fl_X10_97 h7725 ((g7727 19 (by decide)).trans ((fld_eq (h7695.2 c (by rw [show kC c c = 1 from kC_at (k := 0) (by decide)]; decide))).trans ((g7691 19 (by decide)).trans f7687))) ?_
                refine m_iconst F (v := 1) (by decide) e_X10_token_240 ?_
                refine m_iadd F e_X10_token_241 ?_
                refine Wm.topE (w := nI (P1.a + 1)) (nI_add P1.a 1) ?_
                refine r_put F (g' := (⟨T, Z, u, h, (mkP P1.n0 P1.n2 P1.n5 P1.n7 P1.m0 P1.m5 P1.w2 P1.w7 P1.kk (P1.a + 1)), L⟩ : RG)) e_X10_token_242 fp_X10_97 h7725 (by decide) rfl ctl_a CR.setA rfl rfl (by decide) (fun σ7730 h7731 g7732 g7733 f7734 => ?_)
                obtain ⟨P7735, eP7735⟩ : ∃ P9, P9 = (mkP P1.n0 P1.n2 P1.n5 P1.n7 P1.m0 P1.m5 P1.w2 P1.w7 P1.kk (P1.a + 1)) := ⟨_, rfl⟩
                rw [← eP7735] at h7731
                have fP7735 : P7735.n0 = P1.n0 ∧ P7735.n2 = P1.n2 ∧ P7735.n5 = P1.n5 ∧ P7735.n7 = P1.n7 ∧ P7735.m0 = P1.m0 ∧ P7735.m5 = P1.m5 ∧ P7735.w2 = P1.w2 ∧ P7735.w7 = P1.w7 ∧ P7735.kk = P1.kk ∧ P7735.a = P1.a + 1 := by rw [eP7735]; exact ⟨rfl, rfl, rfl, rfl, rfl, rfl, rfl, rfl, rfl, rfl⟩
                have he7736 := he7729.of (g7733 18 (by decide)) (elI_eq (g7732 _ (by omega)))
                have oP7737 : OKP P7735 := by unfold OKP; omega
                exact m_vret F hQ e_X10_token_245 (⟨P7735, oP7737, (by unfold RA; omega), (Or.inr (by omega)), h7731, rfl⟩)
            · refine m_if_eq F e_X10_token_149 (fun q => absurd q (by decide)) (fun _ => ?_)
              refine m_aload_n F rfl e_X10_token_152 ?_
              refine m_iconst F (v := 2) (by decide) e_X10_token_153 ?_
              refine r_put F (g' := (⟨T, Z, u, h, P1, L⟩ : RG)) e_X10_token_154 fp_X10_110 h7696 (by decide) ⟨_, rfl⟩ (fun _ _ _ _ q => q) (fun _ _ _ q => q) rfl rfl (by decide) (fun σ7738 h7739 g7740 g7741 f7742 => ?_)
              have he7743 := gex7697.of (g7741 18 (by decide)) (elI_eq (g7740 _ (by omega)))
              refine m_aload_n F rfl e_X10_token_157 ?_
              refine m_iconst F (v := 0) (by decide) e_X10_token_158 ?_
              refine r_put F (g' := (⟨T, Z, u, h, P1, L⟩ : RG)) e_X10_token_159 fp_X10_120 h7739 (by decide) ⟨_, rfl⟩ (fun _ _ _ _ q => q) (fun _ _ _ q => q) rfl rfl (by decide) (fun σ7744 h7745 g7746 g7747 f7748 => ?_)
              have he7749 := he7743.of (g7747 18 (by decide)) (elI_eq (g7746 _ (by omega)))
              refine m_aload_n F rfl e_X10_token_162 ?_
              refine r_callV F e_X10_token_163 (q_X10_here (x_l X) V c T Z u h P1 L _ _  h7745.1 (hob) hP1 ) cb_X10_here ml_X10_103 im_X10_here se_X10_here h7745 rfl rfl (rest := []) rfl (Nat.le_of_ble_eq_true rfl) ⟨Nat.le_of_ble_eq_true rfl, Nat.le_of_ble_eq_true rfl⟩ ⟨Nat.le_of_ble_eq_true rfl, Nat.le_of_ble_eq_true rfl⟩ (fun r σ7750 hp => ?_)
              obtain ⟨h7751, x7753, gex7753, rfl⟩ := hp
              have h7752 := HS.trans h7745 h7751 (by decide)
              have he7754 := he7749.of (fld_eq (h7751.2 c (by rw [show kC c c = 1 from kC_at (k := 0) (by decide)]; decide))) (elI_eq (h7751.2 (c + 1) (by rw [kC_at (k := 1) (by decide)]; decide)))
              obtain rfl : x7671 = x7753 := HE.uniq he7754 gex7753
              refine m_callS F e_X10_token_166 (q_X10_isDigit2 (x_l X) V _ _ x7671 ) cb_X10_isDigit ml_X10_126 sm_X10_isDigit rfl (rest := []) rfl (Nat.le_of_ble_eq_true rfl) ⟨Nat.le_of_ble_eq_true rfl, Nat.le_of_ble_eq_true rfl⟩ ⟨Nat.le_of_ble_eq_true rfl, Nat.le_of_ble_eq_true rfl⟩ (k' := 0) (z' := 0) (N' := N) rfl rfl rfl (fun r σ7755 hp => ?_)
              obtain ⟨rfl, c7758⟩ := hp
              rcases c7758 with ⟨g7759, rfl⟩ | ⟨g7759, rfl⟩
              · exact absurd g7709 g7759
              · refine m_if_eq F e_X10_token_169 (fun q => absurd q (by decide)) (fun _ => ?_)
                have ha7760 := gex7753.lt (fun e => g7759.1 (by rw [e]; decide))
                have ha7761 := gex7753.lt (fun e => g7759.1 (by rw [e]; decide))
                have ha7762 := gex7753.lt (fun e => g7759.1 (by rw [e]; decide))
                refine m_aload_n F rfl e_X10_token_172 ?_
                refine m_aload_n F rfl e_X10_token_173 ?_
                refine r_getC F e_X10_token_174 fl_X10_120 h7752 ((fld_eq (h7751.2 c (by rw [show kC c c = 1 from kC_at (k := 0) (by decide)]; decide))).trans f7748) ?_
                refine m_ldc F kc_X10_129 e_X10_token_177 ?_
                refine m_icmp_le F e_X10_token_179 (fun _ => ?_) (fun q => absurd (by decide) q)
                refine m_bipush F (v := 10) (by decide) e_X10_token_189 ?_
                refine m_aload_n F rfl e_X10_token_191 ?_
                refine r_getC F e_X10_token_192 fl_X10_120 h7752 ((fld_eq (h7751.2 c (by rw [show kC c c = 1 from kC_at (k := 0) (by decide)]; decide))).trans f7748) ?_
                refine m_imul F e_X10_token_195 ?_
                refine Wm.topE (w := 0) (by decide) ?_
                refine m_aload_n F rfl e_X10_token_196 ?_
                refine r_callV F e_X10_token_197 (q_X10_here (x_l X) V c T Z u h P1 L _ _  h7752.1 (hob) hP1 ) cb_X10_here ml_X10_103 im_X10_here se_X10_here h7752 rfl rfl (rest := [.int 0, .ref c]) rfl (Nat.le_of_ble_eq_true rfl) ⟨Nat.le_of_ble_eq_true rfl, Nat.le_of_ble_eq_true rfl⟩ ⟨Nat.le_of_ble_eq_true rfl, Nat.le_of_ble_eq_true rfl⟩ (fun r σ7763 hp => ?_)
                obtain ⟨h7764, x7766, gex7766, rfl⟩ := hp
                have h7765 := HS.trans h7752 h7764 (by decide)
                have he7767 := gex7753.of (fld_eq (h7764.2 c (by rw [show kC c c = 1 from kC_at (k := 0) (by decide)]; decide))) (elI_eq (h7764.2 (c + 1) (by rw [kC_at (k := 1) (by decide)]; decide)))
                obtain rfl : x7671 = x7766 := HE.uniq he7767 gex7766
                refine m_iadd F e_X10_token_200 ?_
                refine Wm.top (fun x7768 _ => ?_)
                refine m_bipush F (v := 48) (by decide) e_X10_token_201 ?_
                refine m_isub F e_X10_token_203 ?_
                refine Wm.top (fun x7769 _ => ?_)
                refine r_put F (g' := (⟨T, Z, u, h, P1, L⟩ : RG)) e_X10_token_204 fp_X10_120 h7765 (by decide) ⟨_, rfl⟩ (fun _ _ _ _ q => q) (fun _ _ _ q => q) rfl rfl (by decide) (fun σ7770 h7771 g7772 g7773 f7774 => ?_)
                have he7775 := gex7766.of (g7773 18 (by decide)) (elI_eq (g7772 _ (by omega)))
                refine m_aload_n F rfl e_X10_token_207 ?_
                refine m_dup F rfl e_X10_token_208 ?_
                refine r_getC F e_X10_token_209 fl_X10_97 h7771 ((g7773 19 (by decide)).trans ((fld_eq (h7764.2 c (by rw [show kC c c = 1 from kC_at (k := 0) (by decide)]; decide))).trans ((fld_eq (h7751.2 c (by rw [show kC c c = 1 from kC_at (k := 0) (by decide)]; decide))).trans ((g7747 19 (by decide)).trans ((g7741 19 (by decide)).trans ((fld_eq (h7695.2 c (by rw [show kC c c = 1 from kC_at (k := 0) (by decide)]; decide))).trans ((g7691 19 (by decide)).trans f7687))))))) ?_
                refine m_iconst F (v := 1) (by decide) e_X10_token_212 ?_
                refine m_iadd F e_X10_token_213 ?_
                refine Wm.topE (w := nI (P1.a + 1)) (nI_add P1.a 1) ?_
                refine r_put F (g' := (⟨T, Z, u, h, (mkP P1.n0 P1.n2 P1.n5 P1.n7 P1.m0 P1.m5 P1.w2 P1.w7 P1.kk (P1.a + 1)), L⟩ : RG)) e_X10_token_214 fp_X10_97 h7771 (by decide) rfl ctl_a CR.setA rfl rfl (by decide) (fun σ7776 h7777 g7778 g7779 f7780 => ?_)
                obtain ⟨P7781, eP7781⟩ : ∃ P9, P9 = (mkP P1.n0 P1.n2 P1.n5 P1.n7 P1.m0 P1.m5 P1.w2 P1.w7 P1.kk (P1.a + 1)) := ⟨_, rfl⟩
                rw [← eP7781] at h7777
                have fP7781 : P7781.n0 = P1.n0 ∧ P7781.n2 = P1.n2 ∧ P7781.n5 = P1.n5 ∧ P7781.n7 = P1.n7 ∧ P7781.m0 = P1.m0 ∧ P7781.m5 = P1.m5 ∧ P7781.w2 = P1.w2 ∧ P7781.w7 = P1.w7 ∧ P7781.kk = P1.kk ∧ P7781.a = P1.a + 1 := by rw [eP7781]; exact ⟨rfl, rfl, rfl, rfl, rfl, rfl, rfl, rfl, rfl, rfl⟩
                have he7782 := he7775.of (g7779 18 (by decide)) (elI_eq (g7778 _ (by omega)))
                refine m_goto F e_X10_token_217 ?_
                refine Wm.lvsub (lv' := [(0, .ref c)]) ?_ [1] rfl
                have oP7783 : OKP P7781 := by unfold OKP; omega
                exact lq_X10_token_162 F hQ hob hP  (700 - P7781.a + 1)  P7781 _ h7777 oP7783 (by unfold RA; omega) (by omega) (Nat.lt_succ_self _)
          · refine m_if_eq F e_X10_token_61 (fun q => absurd q (by decide)) (fun _ => ?_)
            refine m_aload_n F rfl e_X10_token_64 ?_
            refine r_callV F e_X10_token_65 (q_X10_here (x_l X) V c T Z u h P1 L _ _  h7696.1 (hob) hP1 ) cb_X10_here ml_X10_103 im_X10_here se_X10_here h7696 rfl rfl (rest := []) rfl (Nat.le_of_ble_eq_true rfl) ⟨Nat.le_of_ble_eq_true rfl, Nat.le_of_ble_eq_true rfl⟩ ⟨Nat.le_of_ble_eq_true rfl, Nat.le_of_ble_eq_true rfl⟩ (fun r σ7784 hp => ?_)
            obtain ⟨h7785, x7787, gex7787, rfl⟩ := hp
            have h7786 := HS.trans h7696 h7785 (by decide)
            have he7788 := gex7697.of (fld_eq (h7785.2 c (by rw [show kC c c = 1 from kC_at (k := 0) (by decide)]; decide))) (elI_eq (h7785.2 (c + 1) (by rw [kC_at (k := 1) (by decide)]; decide)))
            obtain rfl : x7671 = x7787 := HE.uniq he7788 gex7787
            refine m_callS F e_X10_token_68 (q_X10_isSmall2 (x_l X) V _ _ x7671 ) cb_X10_isSmall ml_X10_113 sm_X10_isSmall rfl (rest := []) rfl (Nat.le_of_ble_eq_true rfl) ⟨Nat.le_of_ble_eq_true rfl, Nat.le_of_ble_eq_true rfl⟩ ⟨Nat.le_of_ble_eq_true rfl, Nat.le_of_ble_eq_true rfl⟩ (k' := 0) (z' := 0) (N' := N) rfl rfl rfl (fun r σ7789 hp => ?_)
            obtain ⟨rfl, c7792⟩ := hp
            rcases c7792 with ⟨g7793, rfl⟩ | ⟨g7793, rfl⟩
            · exact absurd g7704 g7793
            · refine m_if_eq F e_X10_token_71 (fun q => absurd q (by decide)) (fun _ => ?_)
              have ha7794 := gex7787.lt (fun e => g7793.1 (by rw [e]; decide))
              have ha7795 := gex7787.lt (fun e => g7793.1 (by rw [e]; decide))
              have ha7796 := gex7787.lt (fun e => g7793.1 (by rw [e]; decide))
              refine m_aload_n F rfl e_X10_token_74 ?_
              refine m_dup F rfl e_X10_token_75 ?_
              refine r_getC F e_X10_token_76 fl_X10_97 h7786 ((fld_eq (h7785.2 c (by rw [show kC c c = 1 from kC_at (k := 0) (by decide)]; decide))).trans ((fld_eq (h7695.2 c (by rw [show kC c c = 1 from kC_at (k := 0) (by decide)]; decide))).trans ((g7691 19 (by decide)).trans f7687))) ?_
              refine m_iconst F (v := 1) (by decide) e_X10_token_79 ?_
              refine m_iadd F e_X10_token_80 ?_
              refine Wm.topE (w := nI (P1.a + 1)) (nI_add P1.a 1) ?_
              refine r_put F (g' := (⟨T, Z, u, h, (mkP P1.n0 P1.n2 P1.n5 P1.n7 P1.m0 P1.m5 P1.w2 P1.w7 P1.kk (P1.a + 1)), L⟩ : RG)) e_X10_token_81 fp_X10_97 h7786 (by decide) rfl ctl_a CR.setA rfl rfl (by decide) (fun σ7797 h7798 g7799 g7800 f7801 => ?_)
              obtain ⟨P7802, eP7802⟩ : ∃ P9, P9 = (mkP P1.n0 P1.n2 P1.n5 P1.n7 P1.m0 P1.m5 P1.w2 P1.w7 P1.kk (P1.a + 1)) := ⟨_, rfl⟩
              rw [← eP7802] at h7798
              have fP7802 : P7802.n0 = P1.n0 ∧ P7802.n2 = P1.n2 ∧ P7802.n5 = P1.n5 ∧ P7802.n7 = P1.n7 ∧ P7802.m0 = P1.m0 ∧ P7802.m5 = P1.m5 ∧ P7802.w2 = P1.w2 ∧ P7802.w7 = P1.w7 ∧ P7802.kk = P1.kk ∧ P7802.a = P1.a + 1 := by rw [eP7802]; exact ⟨rfl, rfl, rfl, rfl, rfl, rfl, rfl, rfl, rfl, rfl⟩
              have he7803 := gex7787.of (g7800 18 (by decide)) (elI_eq (g7799 _ (by omega)))
              refine m_goto F e_X10_token_84 ?_
              refine Wm.lvsub (lv' := [(0, .ref c)]) ?_ [1] rfl
              have oP7804 : OKP P7802 := by unfold OKP; omega
              exact lq_X10_token_64 F hQ hob hP  (700 - P7802.a + 1)  P7802 _ h7798 oP7804 (by unfold RA; omega) (by omega) (Nat.lt_succ_self _)
        · subst q46
          refine m_aload_n F rfl e_X10_token_49 ?_
          refine m_iconst F (v := 4) (by decide) e_X10_token_50 ?_
          refine r_put F (g' := (⟨T, Z, u, h, P1, L⟩ : RG)) e_X10_token_51 fp_X10_110 h7696 (by decide) ⟨_, rfl⟩ (fun _ _ _ _ q => q) (fun _ _ _ q => q) rfl rfl (by decide) (fun σ7805 h7806 g7807 g7808 f7809 => ?_)
          have he7810 := gex7697.of (g7808 18 (by decide)) (elI_eq (g7807 _ (by omega)))
          refine m_goto F e_X10_token_54 ?_
          exact m_vret F hQ e_X10_token_245 (⟨P1, hP1, (by unfold RA; omega), (Or.inl (f7809)), h7806, rfl⟩)
      · subst q15
        have ha7811 := gex7685.lt (by decide)
        refine m_aload_n F rfl e_X10_token_18 ?_
        refine m_dup F rfl e_X10_token_19 ?_
        refine r_get F e_X10_token_20 fl_X10_97 h7684 rfl (fun v hv f7812 => ?_)
        obtain rfl : v = .int (nI (P1.a)) := hv
        refine m_iconst F (v := 1) (by decide) e_X10_token_23 ?_
        refine m_iadd F e_X10_token_24 ?_
        refine Wm.topE (w := nI (P1.a + 1)) (nI_add P1.a 1) ?_
        refine r_put F (g' := (⟨T, Z, u, h, (mkP P1.n0 P1.n2 P1.n5 P1.n7 P1.m0 P1.m5 P1.w2 P1.w7 P1.kk (P1.a + 1)), L⟩ : RG)) e_X10_token_25 fp_X10_97 h7684 (by decide) rfl ctl_a CR.setA rfl rfl (by decide) (fun σ7813 h7814 g7815 g7816 f7817 => ?_)
        obtain ⟨P7818, eP7818⟩ : ∃ P9, P9 = (mkP P1.n0 P1.n2 P1.n5 P1.n7 P1.m0 P1.m5 P1.w2 P1.w7 P1.kk (P1.a + 1)) := ⟨_, rfl⟩
        rw [← eP7818] at h7814
        have fP7818 : P7818.n0 = P1.n0 ∧ P7818.n2 = P1.n2 ∧ P7818.n5 = P1.n5 ∧ P7818.n7 = P1.n7 ∧ P7818.m0 = P1.m0 ∧ P7818.m5 = P1.m5 ∧ P7818.w2 = P1.w2 ∧ P7818.w7 = P1.w7 ∧ P7818.kk = P1.kk ∧ P7818.a = P1.a + 1 := by rw [eP7818]; exact ⟨rfl, rfl, rfl, rfl, rfl, rfl, rfl, rfl, rfl, rfl⟩
        have he7819 := gex7685.of (g7816 18 (by decide)) (elI_eq (g7815 _ (by omega)))
        refine m_goto F e_X10_token_28 ?_
        have oP7820 : OKP P7818 := by unfold OKP; omega
        exact ih  P7818 _ h7814 oP7820 (by unfold RA; omega) trivial (by omega)
set_option maxRecDepth 20000 in
theorem q_X10_token (l : Launch) (V : VX) (c T Z u h : Nat) (P : NP) (L : Nat → LQ) (N : Nat) (σ : Mem)  (h0 : HR V c ⟨T, Z, u, h, P, L⟩ σ) (hob : OKB L) (hP : OKP P)  : Ct l V yX10_token cX10_token 2 none 5 0 0 N σ [.ref c] (fun r τ => ∃ P9 : NP, OKP P9 ∧ RA P P9 ∧ (fld τ c 21 = some (.int 4) ∨ P.a < P9.a) ∧ HS V c (⟨T, Z, u, h, P9, L⟩ : RG) [0, 2, 3, 4, 5, 6, 7, 8, 9, 10, 11, 12, 13, 14, 15, 16, 17, 18, 19, 20, 21, 22, 23] σ τ ∧ r = none) := by
  refine Ct.of (by decide) (Nat.le_of_ble_eq_true rfl) [(0, .ref c)] rfl (fun X hX F hQ => ?_)
  have hPP := hP
  unfold OKP at hPP
  have h1 : HS V c ⟨T, Z, u, h, P, L⟩ [0, 2, 3, 4, 5, 6, 7, 8, 9, 10, 11, 12, 13, 14, 15, 16, 17, 18, 19, 20, 21, 22, 23] σ σ := HS.start h0
  exact lq_X10_token_0 F hQ hob hP  (700 - P.a + 1)  P _ h1 hP (by unfold RA; omega) trivial (Nat.lt_succ_self _)
set_option maxRecDepth 20000 in
theorem q_X10_wrong (l : Launch) (V : VX) (c T Z u h : Nat) (P : NP) (L : Nat → LQ) (N : Nat) (σ : Mem) (x901 : Int32) (h0 : HR V c ⟨T, Z, u, h, P, L⟩ σ) (hob : OKB L) (hP : OKP P) (hp0 : x901 ≠ 0) : Ct l V yX10_wrong cX10_wrong 2 none 0 0 0 N σ [.ref c, .int x901] (fun r τ => HS V c (⟨T, 0, u, h, P, L⟩ : RG) [0, 2, 3, 4, 5, 6, 7, 8, 9, 10, 11, 12, 13, 14, 15, 16, 17, 18, 19, 20, 21, 22, 23] σ τ ∧ r = none) := by
  refine Ct.of (by decide) (Nat.le_of_ble_eq_true rfl) [(0, .ref c), (1, .int x901)] rfl (fun X hX F hQ => ?_)
  have hPP := hP
  unfold OKP at hPP
  have h1 : HS V c ⟨T, Z, u, h, P, L⟩ [0, 2, 3, 4, 5, 6, 7, 8, 9, 10, 11, 12, 13, 14, 15, 16, 17, 18, 19, 20, 21, 22, 23] σ σ := HS.start h0
  refine m_aload_n F rfl e_X10_wrong_0 ?_
  refine r_get F e_X10_wrong_1 fl_X10_141 h1 rfl (fun v hv f7821 => ?_)
  obtain ⟨x7822, hx7822, rfl⟩ := hv
  replace hx7822 : Z = 0 → x7822 ≠ 0 := hx7822
  refine m_if_eq F e_X10_wrong_4 (fun q4 => ?_) (fun q4 => ?_)
  · subst q4
    refine m_aload_n F rfl e_X10_wrong_8 ?_
    refine m_iload_n F rfl e_X10_wrong_9 ?_
    refine r_put F (g' := (⟨T, 0, u, h, P, L⟩ : RG)) e_X10_wrong_10 fp_X10_141 h1 (by decide) ⟨_, (fun _ => hp0), rfl⟩ ctl_Z CR.ctl rfl rfl (by decide) (fun σ7823 h7824 g7825 g7826 f7827 => ?_)
    refine m_aload_n F rfl e_X10_wrong_13 ?_
    refine m_aload_n F rfl e_X10_wrong_14 ?_
    refine r_get F e_X10_wrong_15 fl_X10_107 h7824 rfl (fun v hv f7828 => ?_)
    obtain ⟨n7829, hn7829, rfl⟩ := hv
    replace hn7829 : n7829 ≤ 700 := hn7829
    refine r_put F (g' := (⟨T, 0, u, h, P, L⟩ : RG)) e_X10_wrong_18 fp_X10_144 h7824 (by decide) ⟨_, rfl⟩ (fun _ _ _ _ q => q) (fun _ _ _ q => q) rfl rfl (by decide) (fun σ7830 h7831 g7832 g7833 f7834 => ?_)
    exact m_vret F hQ e_X10_wrong_21 (⟨h7831, rfl⟩)
  · have h7835 := HS.z0 h1 (f7821) q4
    exact m_vret F hQ e_X10_wrong_7 (⟨h7835, rfl⟩)
set_option maxRecDepth 20000 in
theorem q_X10_goOn (l : Launch) (V : VX) (c T Z u h : Nat) (P : NP) (L : Nat → LQ) (N : Nat) (σ : Mem)  (h0 : HR V c ⟨T, Z, u, h, P, L⟩ σ) (hob : OKB L) (hP : OKP P)  : Ct l V yX10_goOn cX10_goOn 1 none 6 0 0 N σ [.ref c] (fun r τ => ∃ P9 : NP, OKP P9 ∧ RA P P9 ∧ PG c P.a P9.a τ ∧ HS V c (⟨T, Z, u, h, P9, L⟩ : RG) [0, 2, 3, 4, 5, 6, 7, 8, 9, 10, 11, 12, 13, 14, 15, 16, 17, 18, 19, 20, 21, 22, 23] σ τ ∧ r = none) := by
  refine Ct.of (by decide) (Nat.le_of_ble_eq_true rfl) [(0, .ref c)] rfl (fun X hX F hQ => ?_)
  have hPP := hP
  unfold OKP at hPP
  have h1 : HS V c ⟨T, Z, u, h, P, L⟩ [0, 2, 3, 4, 5, 6, 7, 8, 9, 10, 11, 12, 13, 14, 15, 16, 17, 18, 19, 20, 21, 22, 23] σ σ := HS.start h0
  refine m_aload_n F rfl e_X10_goOn_0 ?_
  refine r_get F e_X10_goOn_1 fl_X10_141 h1 rfl (fun v hv f7836 => ?_)
  obtain ⟨x7837, hx7837, rfl⟩ := hv
  replace hx7837 : Z = 0 → x7837 ≠ 0 := hx7837
  refine m_if_ne F e_X10_goOn_4 (fun q4 => ?_) (fun q4 => ?_)
  · have h7838 := HS.z0 h1 (f7836) q4
    have h7839 : HS V c _ [0, 2, 3, 4, 5, 6, 7, 8, 9, 10, 11, 12, 13, 14, 15, 16, 17, 18, 19, 20, 21, 22, 23] _ _ := ⟨HR.mono (Z' := Z) (by intro e; first | rfl | assumption | omega) h7838.1, h7838.2⟩
    exact m_vret F hQ e_X10_goOn_11 (⟨P, hP, (by unfold RA; omega), (PG.a1 h7838.1 (f7836) q4), h7839, rfl⟩)
  · subst q4
    refine m_aload_n F rfl e_X10_goOn_7 ?_
    refine r_callV F e_X10_goOn_8 (q_X10_token (x_l X) V c T Z u h P L _ _  h1.1 (hob) hP ) cb_X10_token ml_X10_147 im_X10_token se_X10_token h1 rfl rfl (rest := []) rfl (Nat.le_of_ble_eq_true rfl) ⟨Nat.le_of_ble_eq_true rfl, Nat.le_of_ble_eq_true rfl⟩ ⟨Nat.le_of_ble_eq_true rfl, Nat.le_of_ble_eq_true rfl⟩ (fun r σ7840 hp => ?_)
    obtain ⟨P7843, oP7843, rP7843, pr7844, h7841, rfl⟩ := hp
    have h7842 := HS.trans h1 h7841 (by decide)
    have xP7843 := oP7843
    unfold OKP at xP7843
    unfold RA at rP7843
    exact m_vret F hQ e_X10_goOn_11 (⟨P7843, oP7843, (by unfold RA; omega), (PG.a2 h7842.1 pr7844), h7842, rfl⟩)
set_option maxRecDepth 20000 in
theorem q_X10_numeral (l : Launch) (V : VX) (c T Z u h : Nat) (P : NP) (L : Nat → LQ) (N : Nat) (σ : Mem) (n901 : Nat) (n902 : Nat) (h0 : HR V c ⟨T, Z, u, h, P, L⟩ σ) (hob : OKB L) (hP : OKP P) (hn901 : n901 ≤ 10000000) (hn902 : n902 ≤ 10000000) : Ct l V yX10_numeral cX10_numeral 4 (some .int) 7 0 0 N σ [.ref c, .int (nI n901), .int (nI n902)] (fun r τ => ∃ P9 : NP, OKP P9 ∧ RA P P9 ∧ HS V c (⟨T, Z, u, h, P9, L⟩ : RG) [0, 2, 3, 4, 5, 6, 7, 8, 9, 10, 11, 12, 13, 14, 15, 16, 17, 18, 19, 20, 21, 22, 23] σ τ ∧ ((∃ n : Nat, n901 ≤ n ∧ n ≤ n902 ∧ r = some (.int (nI n))) ∨ (HR V c ⟨T, 0, u, h, P9, L⟩ τ ∧ r = some (.int (nI n901))))) := by
  refine Ct.of (by decide) (Nat.le_of_ble_eq_true rfl) [(0, .ref c), (1, .int (nI n901)), (2, .int (nI n902))] rfl (fun X hX F hQ => ?_)
  have hPP := hP
  unfold OKP at hPP
  have h1 : HS V c ⟨T, Z, u, h, P, L⟩ [0, 2, 3, 4, 5, 6, 7, 8, 9, 10, 11, 12, 13, 14, 15, 16, 17, 18, 19, 20, 21, 22, 23] σ σ := HS.start h0
  refine m_aload_n F rfl e_X10_numeral_0 ?_
  refine r_get F e_X10_numeral_1 fl_X10_141 h1 rfl (fun v hv f7845 => ?_)
  obtain ⟨x7846, hx7846, rfl⟩ := hv
  replace hx7846 : Z = 0 → x7846 ≠ 0 := hx7846
  refine m_if_eq F e_X10_numeral_4 (fun q4 => ?_) (fun q4 => ?_)
  · subst q4
    refine m_aload_n F rfl e_X10_numeral_9 ?_
    refine r_get F e_X10_numeral_10 fl_X10_110 h1 rfl (fun v hv f7847 => ?_)
    obtain ⟨x7848, rfl⟩ := hv
    refine m_iconst F (v := 2) (by decide) e_X10_numeral_13 ?_
    refine m_icmp_eq F e_X10_numeral_14 (fun q14 => ?_) (fun q14 => ?_)
    · subst q14
      refine m_aload_n F rfl e_X10_numeral_25 ?_
      refine r_get F e_X10_numeral_26 fl_X10_120 h1 rfl (fun v hv f7849 => ?_)
      obtain ⟨x7850, rfl⟩ := hv
      refine m_iload_n F rfl e_X10_numeral_29 ?_
      refine m_icmp_lt F e_X10_numeral_30 (fun q30 => ?_) (fun q30 => ?_)
      · refine m_aload_n F rfl e_X10_numeral_41 ?_
        refine m_iconst F (v := 2) (by decide) e_X10_numeral_42 ?_
        refine r_callV F e_X10_numeral_43 (q_X10_wrong (x_l X) V c T Z u h P L _ _ 2 h1.1 (hob) hP (by first | omega | assumption | decide)) cb_X10_wrong ml_X10_150 im_X10_wrong se_X10_wrong h1 rfl rfl (rest := []) rfl (Nat.le_of_ble_eq_true rfl) ⟨Nat.le_of_ble_eq_true rfl, Nat.le_of_ble_eq_true rfl⟩ ⟨Nat.le_of_ble_eq_true rfl, Nat.le_of_ble_eq_true rfl⟩ (fun r σ7851 hp => ?_)
        obtain ⟨h7852, rfl⟩ := hp
        have h7853 := HS.trans h1 h7852 (by decide)
        refine m_aload_n F rfl e_X10_numeral_46 ?_
        refine r_get F e_X10_numeral_47 fl_X10_141 h7853 rfl (fun v hv f7854 => ?_)
        obtain ⟨x7855, hx7855, rfl⟩ := hv
        replace hx7855 : 0 = 0 → x7855 ≠ 0 := hx7855
        refine m_if_ne F e_X10_numeral_50 (fun q50 => ?_) (fun q50 => ?_)
        · have h7856 := HS.z0 h7853 (f7854) q50
          refine m_iload_n F rfl e_X10_numeral_60 ?_
          refine m_istore_n F (lv' := [(3, .int (nI n901)), (0, .ref c), (1, .int (nI n901)), (2, .int (nI n902))]) e_X10_numeral_61 (by decide) rfl ?_
          refine m_aload_n F rfl e_X10_numeral_62 ?_
          refine r_callV F e_X10_numeral_63 (q_X10_goOn (x_l X) V c T 0 u h P L _ _  h7856.1 (hob) hP ) cb_X10_goOn ml_X10_154 im_X10_goOn se_X10_goOn h7856 rfl rfl (rest := []) rfl (Nat.le_of_ble_eq_true rfl) ⟨Nat.le_of_ble_eq_true rfl, Nat.le_of_ble_eq_true rfl⟩ ⟨Nat.le_of_ble_eq_true rfl, Nat.le_of_ble_eq_true rfl⟩ (fun r σ7857 hp => ?_)
          obtain ⟨P7860, oP7860, rP7860, pr7861, h7858, rfl⟩ := hp
          have h7859 := HS.trans h7856 h7858 (by decide)
          have xP7860 := oP7860
          unfold OKP at xP7860
          unfold RA at rP7860
          refine m_iload_n F rfl e_X10_numeral_66 ?_
          have h7862 : HS V c _ [0, 2, 3, 4, 5, 6, 7, 8, 9, 10, 11, 12, 13, 14, 15, 16, 17, 18, 19, 20, 21, 22, 23] _ _ := ⟨HR.mono (Z' := Z) (by intro e; first | rfl | assumption | omega) h7859.1, h7859.2⟩
          exact m_iret F hQ e_X10_numeral_67 (⟨P7860, oP7860, (by unfold RA; omega), h7862, Or.inr ⟨h7859.1, rfl⟩⟩)
        · first | exact absurd q50 (hx7855 rfl) | contradiction
      · obtain ⟨n7863, hn7863, rfl⟩ := nI_nn (x := x7850) (fun e => q30 (Int32.lt_of_lt_of_le e (nI_0le (by omega))))
        have c30 : n7863 ≥ n901 := by have hh := mt (nI_ltI (a := n7863) (b := n901) (by omega) (by omega)).mpr q30; omega
        refine m_aload_n F rfl e_X10_numeral_33 ?_
        refine r_getC F e_X10_numeral_34 fl_X10_120 h1 (f7849) ?_
        refine m_iload_n F rfl e_X10_numeral_37 ?_
        refine m_icmp_le F e_X10_numeral_38 (fun q38 => ?_) (fun q38 => ?_)
        · have c38 : n7863 ≤ n902 := (nI_leI (a := n7863) (b := n902) (by omega) (by omega)).mp q38
          refine m_aload_n F rfl e_X10_numeral_46 ?_
          refine r_getC F e_X10_numeral_47 fl_X10_141 h1 (f7845) ?_
          refine m_if_ne F e_X10_numeral_50 (fun q => absurd (by decide) q) (fun _ => ?_)
          refine m_aload_n F rfl e_X10_numeral_53 ?_
          refine r_getC F e_X10_numeral_54 fl_X10_120 h1 (f7849) ?_
          refine m_goto F e_X10_numeral_57 ?_
          refine m_istore_n F (lv' := [(3, .int (nI n7863)), (0, .ref c), (1, .int (nI n901)), (2, .int (nI n902))]) e_X10_numeral_61 (by decide) rfl ?_
          refine m_aload_n F rfl e_X10_numeral_62 ?_
          refine r_callV F e_X10_numeral_63 (q_X10_goOn (x_l X) V c T Z u h P L _ _  h1.1 (hob) hP ) cb_X10_goOn ml_X10_154 im_X10_goOn se_X10_goOn h1 rfl rfl (rest := []) rfl (Nat.le_of_ble_eq_true rfl) ⟨Nat.le_of_ble_eq_true rfl, Nat.le_of_ble_eq_true rfl⟩ ⟨Nat.le_of_ble_eq_true rfl, Nat.le_of_ble_eq_true rfl⟩ (fun r σ7864 hp => ?_)
          obtain ⟨P7867, oP7867, rP7867, pr7868, h7865, rfl⟩ := hp
          have h7866 := HS.trans h1 h7865 (by decide)
          have xP7867 := oP7867
          unfold OKP at xP7867
          unfold RA at rP7867
          refine m_iload_n F rfl e_X10_numeral_66 ?_
          exact m_iret F hQ e_X10_numeral_67 (⟨P7867, oP7867, (by unfold RA; omega), h7866, Or.inl ⟨n7863, by omega, by omega, rfl⟩⟩)
        · have c38 : n7863 > n902 := by have hh := mt (nI_leI (a := n7863) (b := n902) (by omega) (by omega)).mpr q38; omega
          refine m_aload_n F rfl e_X10_numeral_41 ?_
          refine m_iconst F (v := 2) (by decide) e_X10_numeral_42 ?_
          refine r_callV F e_X10_numeral_43 (q_X10_wrong (x_l X) V c T Z u h P L _ _ 2 h1.1 (hob) hP (by first | omega | assumption | decide)) cb_X10_wrong ml_X10_150 im_X10_wrong se_X10_wrong h1 rfl rfl (rest := []) rfl (Nat.le_of_ble_eq_true rfl) ⟨Nat.le_of_ble_eq_true rfl, Nat.le_of_ble_eq_true rfl⟩ ⟨Nat.le_of_ble_eq_true rfl, Nat.le_of_ble_eq_true rfl⟩ (fun r σ7869 hp => ?_)
          obtain ⟨h7870, rfl⟩ := hp
          have h7871 := HS.trans h1 h7870 (by decide)
          refine m_aload_n F rfl e_X10_numeral_46 ?_
          refine r_get F e_X10_numeral_47 fl_X10_141 h7871 rfl (fun v hv f7872 => ?_)
          obtain ⟨x7873, hx7873, rfl⟩ := hv
          replace hx7873 : 0 = 0 → x7873 ≠ 0 := hx7873
          refine m_if_ne F e_X10_numeral_50 (fun q50 => ?_) (fun q50 => ?_)
          · have h7874 := HS.z0 h7871 (f7872) q50
            refine m_iload_n F rfl e_X10_numeral_60 ?_
            refine m_istore_n F (lv' := [(3, .int (nI n901)), (0, .ref c), (1, .int (nI n901)), (2, .int (nI n902))]) e_X10_numeral_61 (by decide) rfl ?_
            refine m_aload_n F rfl e_X10_numeral_62 ?_
            refine r_callV F e_X10_numeral_63 (q_X10_goOn (x_l X) V c T 0 u h P L _ _  h7874.1 (hob) hP ) cb_X10_goOn ml_X10_154 im_X10_goOn se_X10_goOn h7874 rfl rfl (rest := []) rfl (Nat.le_of_ble_eq_true rfl) ⟨Nat.le_of_ble_eq_true rfl, Nat.le_of_ble_eq_true rfl⟩ ⟨Nat.le_of_ble_eq_true rfl, Nat.le_of_ble_eq_true rfl⟩ (fun r σ7875 hp => ?_)
            obtain ⟨P7878, oP7878, rP7878, pr7879, h7876, rfl⟩ := hp
            have h7877 := HS.trans h7874 h7876 (by decide)
            have xP7878 := oP7878
            unfold OKP at xP7878
            unfold RA at rP7878
            refine m_iload_n F rfl e_X10_numeral_66 ?_
            have h7880 : HS V c _ [0, 2, 3, 4, 5, 6, 7, 8, 9, 10, 11, 12, 13, 14, 15, 16, 17, 18, 19, 20, 21, 22, 23] _ _ := ⟨HR.mono (Z' := Z) (by intro e; first | rfl | assumption | omega) h7877.1, h7877.2⟩
            exact m_iret F hQ e_X10_numeral_67 (⟨P7878, oP7878, (by unfold RA; omega), h7880, Or.inr ⟨h7877.1, rfl⟩⟩)
          · first | exact absurd q50 (hx7873 rfl) | contradiction
    · refine m_aload_n F rfl e_X10_numeral_17 ?_
      refine m_iconst F (v := 1) (by decide) e_X10_numeral_18 ?_
      refine r_callV F e_X10_numeral_19 (q_X10_wrong (x_l X) V c T Z u h P L _ _ 1 h1.1 (hob) hP (by first | omega | assumption | decide)) cb_X10_wrong ml_X10_150 im_X10_wrong se_X10_wrong h1 rfl rfl (rest := []) rfl (Nat.le_of_ble_eq_true rfl) ⟨Nat.le_of_ble_eq_true rfl, Nat.le_of_ble_eq_true rfl⟩ ⟨Nat.le_of_ble_eq_true rfl, Nat.le_of_ble_eq_true rfl⟩ (fun r σ7881 hp => ?_)
      obtain ⟨h7882, rfl⟩ := hp
      have h7883 := HS.trans h1 h7882 (by decide)
      refine m_goto F e_X10_numeral_22 ?_
      refine m_aload_n F rfl e_X10_numeral_46 ?_
      refine r_get F e_X10_numeral_47 fl_X10_141 h7883 rfl (fun v hv f7884 => ?_)
      obtain ⟨x7885, hx7885, rfl⟩ := hv
      replace hx7885 : 0 = 0 → x7885 ≠ 0 := hx7885
      refine m_if_ne F e_X10_numeral_50 (fun q50 => ?_) (fun q50 => ?_)
      · have h7886 := HS.z0 h7883 (f7884) q50
        refine m_iload_n F rfl e_X10_numeral_60 ?_
        refine m_istore_n F (lv' := [(3, .int (nI n901)), (0, .ref c), (1, .int (nI n901)), (2, .int (nI n902))]) e_X10_numeral_61 (by decide) rfl ?_
        refine m_aload_n F rfl e_X10_numeral_62 ?_
        refine r_callV F e_X10_numeral_63 (q_X10_goOn (x_l X) V c T 0 u h P L _ _  h7886.1 (hob) hP ) cb_X10_goOn ml_X10_154 im_X10_goOn se_X10_goOn h7886 rfl rfl (rest := []) rfl (Nat.le_of_ble_eq_true rfl) ⟨Nat.le_of_ble_eq_true rfl, Nat.le_of_ble_eq_true rfl⟩ ⟨Nat.le_of_ble_eq_true rfl, Nat.le_of_ble_eq_true rfl⟩ (fun r σ7887 hp => ?_)
        obtain ⟨P7890, oP7890, rP7890, pr7891, h7888, rfl⟩ := hp
        have h7889 := HS.trans h7886 h7888 (by decide)
        have xP7890 := oP7890
        unfold OKP at xP7890
        unfold RA at rP7890
        refine m_iload_n F rfl e_X10_numeral_66 ?_
        have h7892 : HS V c _ [0, 2, 3, 4, 5, 6, 7, 8, 9, 10, 11, 12, 13, 14, 15, 16, 17, 18, 19, 20, 21, 22, 23] _ _ := ⟨HR.mono (Z' := Z) (by intro e; first | rfl | assumption | omega) h7889.1, h7889.2⟩
        exact m_iret F hQ e_X10_numeral_67 (⟨P7890, oP7890, (by unfold RA; omega), h7892, Or.inr ⟨h7889.1, rfl⟩⟩)
      · first | exact absurd q50 (hx7885 rfl) | contradiction
  · have h7893 := HS.z0 h1 (f7845) q4
    refine m_iload_n F rfl e_X10_numeral_7 ?_
    have h7894 : HS V c _ [0, 2, 3, 4, 5, 6, 7, 8, 9, 10, 11, 12, 13, 14, 15, 16, 17, 18, 19, 20, 21, 22, 23] _ _ := ⟨HR.mono (Z' := Z) (by intro e; first | rfl | assumption | omega) h7893.1, h7893.2⟩
    exact m_iret F hQ e_X10_numeral_8 (⟨P, hP, (by unfold RA; omega), h7894, Or.inr ⟨h7893.1, rfl⟩⟩)
set_option maxRecDepth 20000 in
theorem q_X10_reading0 (l : Launch) (V : VX) (c T Z u h : Nat) (P : NP) (L : Nat → LQ) (N : Nat) (σ : Mem)  (h0 : HR V c ⟨T, Z, u, h, P, L⟩ σ) (hob : OKB L) (hP : OKP P)  : Ct l V yX10_reading cX10_reading 2 (some .int) 0 0 0 N σ [.ref c, .int 0] (fun r τ => HS V c (⟨T, Z, u, h, P, L⟩ : RG) [0, 1, 2, 3, 4, 5, 6, 7, 8, 9, 10, 11, 12, 13, 14, 15, 16, 17, 18, 19, 20, 21, 22, 23] σ τ ∧ r = some (.int (nI P.n5))) := by
  refine Ct.of (by decide) (Nat.le_of_ble_eq_true rfl) [(0, .ref c), (1, .int 0)] rfl (fun X hX F hQ => ?_)
  have hPP := hP
  unfold OKP at hPP
  have h1 : HS V c ⟨T, Z, u, h, P, L⟩ [0, 1, 2, 3, 4, 5, 6, 7, 8, 9, 10, 11, 12, 13, 14, 15, 16, 17, 18, 19, 20, 21, 22, 23] σ σ := HS.start h0
  refine m_aload_n F rfl e_X10_reading_0 ?_
  refine r_get F e_X10_reading_1 fl_X10_13 h1 rfl (fun v hv f7895 => ?_)
  obtain rfl : v = .ref (c + 2) := hv
  refine m_iconst F (v := 5) (by decide) e_X10_reading_4 ?_
  refine m_iload_n F rfl e_X10_reading_5 ?_
  refine m_iadd F e_X10_reading_6 ?_
  refine Wm.topE (w := 5) (by decide) ?_
  refine r_iald F (len := 10) (j := 5) e_X10_reading_7 h1 (fun _ h => h) (by decide) (by decide) (by unfold vp_in; decide) (fun x7896 h7897 f7898 => ?_)
  obtain rfl : x7896 = nI P.n5 := h7897.2.2.1 rfl
  exact m_iret F hQ e_X10_reading_8 (⟨h1, rfl⟩)
set_option maxRecDepth 20000 in
theorem q_X10_reading2 (l : Launch) (V : VX) (c T Z u h : Nat) (P : NP) (L : Nat → LQ) (N : Nat) (σ : Mem)  (h0 : HR V c ⟨T, Z, u, h, P, L⟩ σ) (hob : OKB L) (hP : OKP P)  : Ct l V yX10_reading cX10_reading 2 (some .int) 0 0 0 N σ [.ref c, .int 2] (fun r τ => HS V c (⟨T, Z, u, h, P, L⟩ : RG) [0, 1, 2, 3, 4, 5, 6, 7, 8, 9, 10, 11, 12, 13, 14, 15, 16, 17, 18, 19, 20, 21, 22, 23] σ τ ∧ r = some (.int (nI P.n7))) := by
  refine Ct.of (by decide) (Nat.le_of_ble_eq_true rfl) [(0, .ref c), (1, .int 2)] rfl (fun X hX F hQ => ?_)
  have hPP := hP
  unfold OKP at hPP
  have h1 : HS V c ⟨T, Z, u, h, P, L⟩ [0, 1, 2, 3, 4, 5, 6, 7, 8, 9, 10, 11, 12, 13, 14, 15, 16, 17, 18, 19, 20, 21, 22, 23] σ σ := HS.start h0
  refine m_aload_n F rfl e_X10_reading_0 ?_
  refine r_get F e_X10_reading_1 fl_X10_13 h1 rfl (fun v hv f7899 => ?_)
  obtain rfl : v = .ref (c + 2) := hv
  refine m_iconst F (v := 5) (by decide) e_X10_reading_4 ?_
  refine m_iload_n F rfl e_X10_reading_5 ?_
  refine m_iadd F e_X10_reading_6 ?_
  refine Wm.topE (w := 7) (by decide) ?_
  refine r_iald F (len := 10) (j := 7) e_X10_reading_7 h1 (fun _ h => h) (by decide) (by decide) (by unfold vp_in; decide) (fun x7900 h7901 f7902 => ?_)
  obtain rfl : x7900 = nI P.n7 := h7901.2.2.2.1 rfl
  exact m_iret F hQ e_X10_reading_8 (⟨h1, rfl⟩)
set_option maxRecDepth 20000 in
theorem q_X10_reading3 (l : Launch) (V : VX) (c T Z u h : Nat) (P : NP) (L : Nat → LQ) (N : Nat) (σ : Mem)  (h0 : HR V c ⟨T, Z, u, h, P, L⟩ σ) (hob : OKB L) (hP : OKP P)  : Ct l V yX10_reading cX10_reading 2 (some .int) 0 0 0 N σ [.ref c, .int 3] (fun r τ => HS V c (⟨T, Z, u, h, P, L⟩ : RG) [0, 1, 2, 3, 4, 5, 6, 7, 8, 9, 10, 11, 12, 13, 14, 15, 16, 17, 18, 19, 20, 21, 22, 23] σ τ ∧ ∃ n : Nat, n ≤ 4 ∧ elI τ (c + 2) 8 = some (nI n) ∧ r = some (.int (nI n))) := by
  refine Ct.of (by decide) (Nat.le_of_ble_eq_true rfl) [(0, .ref c), (1, .int 3)] rfl (fun X hX F hQ => ?_)
  have hPP := hP
  unfold OKP at hPP
  have h1 : HS V c ⟨T, Z, u, h, P, L⟩ [0, 1, 2, 3, 4, 5, 6, 7, 8, 9, 10, 11, 12, 13, 14, 15, 16, 17, 18, 19, 20, 21, 22, 23] σ σ := HS.start h0
  refine m_aload_n F rfl e_X10_reading_0 ?_
  refine r_get F e_X10_reading_1 fl_X10_13 h1 rfl (fun v hv f7903 => ?_)
  obtain rfl : v = .ref (c + 2) := hv
  refine m_iconst F (v := 5) (by decide) e_X10_reading_4 ?_
  refine m_iload_n F rfl e_X10_reading_5 ?_
  refine m_iadd F e_X10_reading_6 ?_
  refine Wm.topE (w := 8) (by decide) ?_
  refine r_iald F (len := 10) (j := 8) e_X10_reading_7 h1 (fun _ h => h) (by decide) (by decide) (by unfold vp_in; decide) (fun x7904 h7905 f7906 => ?_)
  obtain ⟨n7907, hn7907, rfl⟩ := h7905.2.2.2.2.2 rfl
  exact m_iret F hQ e_X10_reading_8 (⟨h1, n7907, by omega, f7906, rfl⟩)
set_option maxRecDepth 20000 in
theorem q_X10_reading1 (l : Launch) (V : VX) (c T Z u h : Nat) (P : NP) (L : Nat → LQ) (N : Nat) (σ : Mem)  (h0 : HR V c ⟨T, Z, u, h, P, L⟩ σ) (hob : OKB L) (hP : OKP P)  : Ct l V yX10_reading cX10_reading 2 (some .int) 0 0 0 N σ [.ref c, .int 1] (fun r τ => HS V c (⟨T, Z, u, h, P, L⟩ : RG) [0, 1, 2, 3, 4, 5, 6, 7, 8, 9, 10, 11, 12, 13, 14, 15, 16, 17, 18, 19, 20, 21, 22, 23] σ τ ∧ ∃ x : Int32, r = some (.int x)) := by
  refine Ct.of (by decide) (Nat.le_of_ble_eq_true rfl) [(0, .ref c), (1, .int 1)] rfl (fun X hX F hQ => ?_)
  have hPP := hP
  unfold OKP at hPP
  have h1 : HS V c ⟨T, Z, u, h, P, L⟩ [0, 1, 2, 3, 4, 5, 6, 7, 8, 9, 10, 11, 12, 13, 14, 15, 16, 17, 18, 19, 20, 21, 22, 23] σ σ := HS.start h0
  refine m_aload_n F rfl e_X10_reading_0 ?_
  refine r_get F e_X10_reading_1 fl_X10_13 h1 rfl (fun v hv f7908 => ?_)
  obtain rfl : v = .ref (c + 2) := hv
  refine m_iconst F (v := 5) (by decide) e_X10_reading_4 ?_
  refine m_iload_n F rfl e_X10_reading_5 ?_
  refine m_iadd F e_X10_reading_6 ?_
  refine Wm.topE (w := 6) (by decide) ?_
  refine r_iald F (len := 10) (j := 6) e_X10_reading_7 h1 (fun _ h => h) (by decide) (by decide) (by unfold vp_in; decide) (fun x7909 h7910 f7911 => ?_)
  exact m_iret F hQ e_X10_reading_8 (⟨h1, _, rfl⟩)
set_option maxRecDepth 20000 in
theorem q_X10_reading4 (l : Launch) (V : VX) (c T Z u h : Nat) (P : NP) (L : Nat → LQ) (N : Nat) (σ : Mem)  (h0 : HR V c ⟨T, Z, u, h, P, L⟩ σ) (hob : OKB L) (hP : OKP P)  : Ct l V yX10_reading cX10_reading 2 (some .int) 0 0 0 N σ [.ref c, .int 4] (fun r τ => HS V c (⟨T, Z, u, h, P, L⟩ : RG) [0, 1, 2, 3, 4, 5, 6, 7, 8, 9, 10, 11, 12, 13, 14, 15, 16, 17, 18, 19, 20, 21, 22, 23] σ τ ∧ ∃ x : Int32, r = some (.int x)) := by
  refine Ct.of (by decide) (Nat.le_of_ble_eq_true rfl) [(0, .ref c), (1, .int 4)] rfl (fun X hX F hQ => ?_)
  have hPP := hP
  unfold OKP at hPP
  have h1 : HS V c ⟨T, Z, u, h, P, L⟩ [0, 1, 2, 3, 4, 5, 6, 7, 8, 9, 10, 11, 12, 13, 14, 15, 16, 17, 18, 19, 20, 21, 22, 23] σ σ := HS.start h0
  refine m_aload_n F rfl e_X10_reading_0 ?_
  refine r_get F e_X10_reading_1 fl_X10_13 h1 rfl (fun v hv f7912 => ?_)
  obtain rfl : v = .ref (c + 2) := hv
  refine m_iconst F (v := 5) (by decide) e_X10_reading_4 ?_
  refine m_iload_n F rfl e_X10_reading_5 ?_
  refine m_iadd F e_X10_reading_6 ?_
  refine Wm.topE (w := 9) (by decide) ?_
  refine r_iald F (len := 10) (j := 9) e_X10_reading_7 h1 (fun _ h => h) (by decide) (by decide) (by unfold vp_in; decide) (fun x7913 h7914 f7915 => ?_)
  exact m_iret F hQ e_X10_reading_8 (⟨h1, _, rfl⟩)
set_option maxRecDepth 20000 in
theorem q_X10_reads0 (l : Launch) (V : VX) (c T Z u h : Nat) (P : NP) (L : Nat → LQ) (N : Nat) (σ : Mem) (n902 : Nat) (h0 : HR V c ⟨T, Z, u, h, P, L⟩ σ) (hob : OKB L) (hP : OKP P) (hn902 : n902 ≤ 4) (hp0 : n902 ≤ P.m5) : Ct l V yX10_reads cX10_reads 3 none 0 0 0 N σ [.ref c, .int 0, .int (nI n902)] (fun r τ => HS V c (⟨T, Z, u, h, (mkP P.n0 P.n2 n902 P.n7 P.m0 P.m5 P.w2 P.w7 P.kk P.a), L⟩ : RG) [0, 1, 2, 4, 5, 6, 7, 8, 9, 10, 11, 12, 13, 14, 15, 16, 17, 18, 19, 20, 21, 22, 23] σ τ ∧ r = none) := by
  refine Ct.of (by decide) (Nat.le_of_ble_eq_true rfl) [(0, .ref c), (1, .int 0), (2, .int (nI n902))] rfl (fun X hX F hQ => ?_)
  have hPP := hP
  unfold OKP at hPP
  have h1 : HS V c ⟨T, Z, u, h, P, L⟩ [0, 1, 2, 4, 5, 6, 7, 8, 9, 10, 11, 12, 13, 14, 15, 16, 17, 18, 19, 20, 21, 22, 23] σ σ := HS.start h0
  refine m_aload_n F rfl e_X10_reads_0 ?_
  refine r_get F e_X10_reads_1 fl_X10_13 h1 rfl (fun v hv f7916 => ?_)
  obtain rfl : v = .ref (c + 2) := hv
  refine m_iconst F (v := 5) (by decide) e_X10_reads_4 ?_
  refine m_iload_n F rfl e_X10_reads_5 ?_
  refine m_iadd F e_X10_reads_6 ?_
  refine Wm.topE (w := 5) (by decide) ?_
  refine m_iload_n F rfl e_X10_reads_7 ?_
  refine r_iast F (g' := (⟨T, Z, u, h, (mkP P.n0 P.n2 n902 P.n7 P.m0 P.m5 P.w2 P.w7 P.kk P.a), L⟩ : RG)) (len := 10) (j := 5) e_X10_reads_8 h1 (fun _ h => h) (fun f h => ⟨f, rfl, h⟩) (by decide) (by decide) (by decide) (by unfold vp_in; decide) (by refine ⟨?_, ?_, ?_, ?_, ?_, ?_⟩ <;> intro e <;> first | exact absurd e (by decide) | rfl | exact ⟨_, by omega, rfl⟩) (fun i hi y hy => ⟨hy.1, hy.2.1, fun e => absurd e hi, hy.2.2.2.1, hy.2.2.2.2.1, hy.2.2.2.2.2⟩) (CR.chg (by intro k hk i x h; unfold EI at h ⊢; split at h <;> first | exact h | exact absurd rfl hk | trivial) rfl rfl) (fun σ7917 h7918 g7919 f7920 g7921 => ?_)
  exact m_vret F hQ e_X10_reads_9 (⟨h7918, rfl⟩)
set_option maxRecDepth 20000 in
theorem q_X10_reads2 (l : Launch) (V : VX) (c T Z u h : Nat) (P : NP) (L : Nat → LQ) (N : Nat) (σ : Mem) (n902 : Nat) (h0 : HR V c ⟨T, Z, u, h, P, L⟩ σ) (hob : OKB L) (hP : OKP P) (hn902 : n902 ≤ 8) (hp0 : n902 ≤ P.w7) : Ct l V yX10_reads cX10_reads 3 none 0 0 0 N σ [.ref c, .int 2, .int (nI n902)] (fun r τ => HS V c (⟨T, Z, u, h, (mkP P.n0 P.n2 P.n5 n902 P.m0 P.m5 P.w2 P.w7 P.kk P.a), L⟩ : RG) [0, 1, 2, 4, 5, 6, 7, 8, 9, 10, 11, 12, 13, 14, 15, 16, 17, 18, 19, 20, 21, 22, 23] σ τ ∧ r = none) := by
  refine Ct.of (by decide) (Nat.le_of_ble_eq_true rfl) [(0, .ref c), (1, .int 2), (2, .int (nI n902))] rfl (fun X hX F hQ => ?_)
  have hPP := hP
  unfold OKP at hPP
  have h1 : HS V c ⟨T, Z, u, h, P, L⟩ [0, 1, 2, 4, 5, 6, 7, 8, 9, 10, 11, 12, 13, 14, 15, 16, 17, 18, 19, 20, 21, 22, 23] σ σ := HS.start h0
  refine m_aload_n F rfl e_X10_reads_0 ?_
  refine r_get F e_X10_reads_1 fl_X10_13 h1 rfl (fun v hv f7922 => ?_)
  obtain rfl : v = .ref (c + 2) := hv
  refine m_iconst F (v := 5) (by decide) e_X10_reads_4 ?_
  refine m_iload_n F rfl e_X10_reads_5 ?_
  refine m_iadd F e_X10_reads_6 ?_
  refine Wm.topE (w := 7) (by decide) ?_
  refine m_iload_n F rfl e_X10_reads_7 ?_
  refine r_iast F (g' := (⟨T, Z, u, h, (mkP P.n0 P.n2 P.n5 n902 P.m0 P.m5 P.w2 P.w7 P.kk P.a), L⟩ : RG)) (len := 10) (j := 7) e_X10_reads_8 h1 (fun _ h => h) (fun f h => ⟨f, rfl, h⟩) (by decide) (by decide) (by decide) (by unfold vp_in; decide) (by refine ⟨?_, ?_, ?_, ?_, ?_, ?_⟩ <;> intro e <;> first | exact absurd e (by decide) | rfl | exact ⟨_, by omega, rfl⟩) (fun i hi y hy => ⟨hy.1, hy.2.1, hy.2.2.1, fun e => absurd e hi, hy.2.2.2.2.1, hy.2.2.2.2.2⟩) (CR.chg (by intro k hk i x h; unfold EI at h ⊢; split at h <;> first | exact h | exact absurd rfl hk | trivial) rfl rfl) (fun σ7923 h7924 g7925 f7926 g7927 => ?_)
  exact m_vret F hQ e_X10_reads_9 (⟨h7924, rfl⟩)
set_option maxRecDepth 20000 in
theorem q_X10_reads3 (l : Launch) (V : VX) (c T Z u h : Nat) (P : NP) (L : Nat → LQ) (N : Nat) (σ : Mem) (n902 : Nat) (h0 : HR V c ⟨T, Z, u, h, P, L⟩ σ) (hob : OKB L) (hP : OKP P) (hn902 : n902 ≤ 4) : Ct l V yX10_reads cX10_reads 3 none 0 0 0 N σ [.ref c, .int 3, .int (nI n902)] (fun r τ => HS V c (⟨T, Z, u, h, P, L⟩ : RG) [0, 1, 2, 4, 5, 6, 7, 8, 9, 10, 11, 12, 13, 14, 15, 16, 17, 18, 19, 20, 21, 22, 23] σ τ ∧ r = none) := by
  refine Ct.of (by decide) (Nat.le_of_ble_eq_true rfl) [(0, .ref c), (1, .int 3), (2, .int (nI n902))] rfl (fun X hX F hQ => ?_)
  have hPP := hP
  unfold OKP at hPP
  have h1 : HS V c ⟨T, Z, u, h, P, L⟩ [0, 1, 2, 4, 5, 6, 7, 8, 9, 10, 11, 12, 13, 14, 15, 16, 17, 18, 19, 20, 21, 22, 23] σ σ := HS.start h0
  refine m_aload_n F rfl e_X10_reads_0 ?_
  refine r_get F e_X10_reads_1 fl_X10_13 h1 rfl (fun v hv f7928 => ?_)
  obtain rfl : v = .ref (c + 2) := hv
  refine m_iconst F (v := 5) (by decide) e_X10_reads_4 ?_
  refine m_iload_n F rfl e_X10_reads_5 ?_
  refine m_iadd F e_X10_reads_6 ?_
  refine Wm.topE (w := 8) (by decide) ?_
  refine m_iload_n F rfl e_X10_reads_7 ?_
  refine r_iast F (g' := (⟨T, Z, u, h, P, L⟩ : RG)) (len := 10) (j := 8) e_X10_reads_8 h1 (fun _ h => h) (fun f h => ⟨f, rfl, h⟩) (by decide) (by decide) (by decide) (by unfold vp_in; decide) (by refine ⟨?_, ?_, ?_, ?_, ?_, ?_⟩ <;> intro e <;> first | exact absurd e (by decide) | rfl | exact ⟨_, by omega, rfl⟩) (fun _ _ _ h => h) (fun _ _ _ h => h) (fun σ7929 h7930 g7931 f7932 g7933 => ?_)
  exact m_vret F hQ e_X10_reads_9 (⟨h7930, rfl⟩)
set_option maxRecDepth 20000 in
theorem q_X10_reads1 (l : Launch) (V : VX) (c T Z u h : Nat) (P : NP) (L : Nat → LQ) (N : Nat) (σ : Mem) (x902 : Int32) (h0 : HR V c ⟨T, Z, u, h, P, L⟩ σ) (hob : OKB L) (hP : OKP P)  : Ct l V yX10_reads cX10_reads 3 none 0 0 0 N σ [.ref c, .int 1, .int x902] (fun r τ => HS V c (⟨T, Z, u, h, P, L⟩ : RG) [0, 1, 2, 4, 5, 6, 7, 8, 9, 10, 11, 12, 13, 14, 15, 16, 17, 18, 19, 20, 21, 22, 23] σ τ ∧ r = none) := by
  refine Ct.of (by decide) (Nat.le_of_ble_eq_true rfl) [(0, .ref c), (1, .int 1), (2, .int x902)] rfl (fun X hX F hQ => ?_)
  have hPP := hP
  unfold OKP at hPP
  have h1 : HS V c ⟨T, Z, u, h, P, L⟩ [0, 1, 2, 4, 5, 6, 7, 8, 9, 10, 11, 12, 13, 14, 15, 16, 17, 18, 19, 20, 21, 22, 23] σ σ := HS.start h0
  refine m_aload_n F rfl e_X10_reads_0 ?_
  refine r_get F e_X10_reads_1 fl_X10_13 h1 rfl (fun v hv f7934 => ?_)
  obtain rfl : v = .ref (c + 2) := hv
  refine m_iconst F (v := 5) (by decide) e_X10_reads_4 ?_
  refine m_iload_n F rfl e_X10_reads_5 ?_
  refine m_iadd F e_X10_reads_6 ?_
  refine Wm.topE (w := 6) (by decide) ?_
  refine m_iload_n F rfl e_X10_reads_7 ?_
  refine r_iast F (g' := (⟨T, Z, u, h, P, L⟩ : RG)) (len := 10) (j := 6) e_X10_reads_8 h1 (fun _ h => h) (fun f h => ⟨f, rfl, h⟩) (by decide) (by decide) (by decide) (by unfold vp_in; decide) (by refine ⟨?_, ?_, ?_, ?_, ?_, ?_⟩ <;> intro e <;> first | exact absurd e (by decide) | rfl | exact ⟨_, by omega, rfl⟩) (fun _ _ _ h => h) (fun _ _ _ h => h) (fun σ7935 h7936 g7937 f7938 g7939 => ?_)
  exact m_vret F hQ e_X10_reads_9 (⟨h7936, rfl⟩)
set_option maxRecDepth 20000 in
theorem q_X10_reads4 (l : Launch) (V : VX) (c T Z u h : Nat) (P : NP) (L : Nat → LQ) (N : Nat) (σ : Mem) (x902 : Int32) (h0 : HR V c ⟨T, Z, u, h, P, L⟩ σ) (hob : OKB L) (hP : OKP P)  : Ct l V yX10_reads cX10_reads 3 none 0 0 0 N σ [.ref c, .int 4, .int x902] (fun r τ => HS V c (⟨T, Z, u, h, P, L⟩ : RG) [0, 1, 2, 4, 5, 6, 7, 8, 9, 10, 11, 12, 13, 14, 15, 16, 17, 18, 19, 20, 21, 22, 23] σ τ ∧ r = none) := by
  refine Ct.of (by decide) (Nat.le_of_ble_eq_true rfl) [(0, .ref c), (1, .int 4), (2, .int x902)] rfl (fun X hX F hQ => ?_)
  have hPP := hP
  unfold OKP at hPP
  have h1 : HS V c ⟨T, Z, u, h, P, L⟩ [0, 1, 2, 4, 5, 6, 7, 8, 9, 10, 11, 12, 13, 14, 15, 16, 17, 18, 19, 20, 21, 22, 23] σ σ := HS.start h0
  refine m_aload_n F rfl e_X10_reads_0 ?_
  refine r_get F e_X10_reads_1 fl_X10_13 h1 rfl (fun v hv f7940 => ?_)
  obtain rfl : v = .ref (c + 2) := hv
  refine m_iconst F (v := 5) (by decide) e_X10_reads_4 ?_
  refine m_iload_n F rfl e_X10_reads_5 ?_
  refine m_iadd F e_X10_reads_6 ?_
  refine Wm.topE (w := 9) (by decide) ?_
  refine m_iload_n F rfl e_X10_reads_7 ?_
  refine r_iast F (g' := (⟨T, Z, u, h, P, L⟩ : RG)) (len := 10) (j := 9) e_X10_reads_8 h1 (fun _ h => h) (fun f h => ⟨f, rfl, h⟩) (by decide) (by decide) (by decide) (by unfold vp_in; decide) (by refine ⟨?_, ?_, ?_, ?_, ?_, ?_⟩ <;> intro e <;> first | exact absurd e (by decide) | rfl | exact ⟨_, by omega, rfl⟩) (fun _ _ _ h => h) (fun _ _ _ h => h) (fun σ7941 h7942 g7943 f7944 g7945 => ?_)
  exact m_vret F hQ e_X10_reads_9 (⟨h7942, rfl⟩)
set_option maxRecDepth 20000 in
theorem q_X10_atHand (l : Launch) (V : VX) (c T Z u h : Nat) (P : NP) (L : Nat → LQ) (N : Nat) (σ : Mem)  (h0 : HR V c ⟨T, Z, u, h, P, L⟩ σ) (hob : OKB L) (hP : OKP P)  : Ct l V yX10_atHand cX10_atHand 2 (some .int) 7 0 0 N σ [.ref c] (fun r τ => ∃ P9 : NP, OKP P9 ∧ RA P P9 ∧ HS V c (⟨T, Z, u, h, P9, L⟩ : RG) [0, 2, 3, 4, 5, 6, 7, 8, 9, 10, 11, 12, 13, 14, 15, 16, 17, 18, 19, 20, 21, 22, 23] σ τ ∧ ∃ n : Nat, 4 ≤ n ∧ n ≤ 7 ∧ r = some (.int (nI n))) := by
  refine Ct.of (by decide) (Nat.le_of_ble_eq_true rfl) [(0, .ref c)] rfl (fun X hX F hQ => ?_)
  have hPP := hP
  unfold OKP at hPP
  have h1 : HS V c ⟨T, Z, u, h, P, L⟩ [0, 2, 3, 4, 5, 6, 7, 8, 9, 10, 11, 12, 13, 14, 15, 16, 17, 18, 19, 20, 21, 22, 23] σ σ := HS.start h0
  refine m_aload_n F rfl e_X10_atHand_0 ?_
  refine r_callV F e_X10_atHand_1 (q_X10_goOn (x_l X) V c T Z u h P L _ _  h1.1 (hob) hP ) cb_X10_goOn ml_X10_154 im_X10_goOn se_X10_goOn h1 rfl rfl (rest := []) rfl (Nat.le_of_ble_eq_true rfl) ⟨Nat.le_of_ble_eq_true rfl, Nat.le_of_ble_eq_true rfl⟩ ⟨Nat.le_of_ble_eq_true rfl, Nat.le_of_ble_eq_true rfl⟩ (fun r σ7946 hp => ?_)
  obtain ⟨P7949, oP7949, rP7949, pr7950, h7947, rfl⟩ := hp
  have h7948 := HS.trans h1 h7947 (by decide)
  have xP7949 := oP7949
  unfold OKP at xP7949
  unfold RA at rP7949
  refine m_aload_n F rfl e_X10_atHand_4 ?_
  refine r_get F e_X10_atHand_5 fl_X10_141 h7948 rfl (fun v hv f7951 => ?_)
  obtain ⟨x7952, hx7952, rfl⟩ := hv
  replace hx7952 : Z = 0 → x7952 ≠ 0 := hx7952
  refine m_if_eq F e_X10_atHand_8 (fun q8 => ?_) (fun q8 => ?_)
  · subst q8
    refine m_aload_n F rfl e_X10_atHand_13 ?_
    refine r_get F e_X10_atHand_14 fl_X10_110 h7948 rfl (fun v hv f7953 => ?_)
    obtain ⟨x7954, rfl⟩ := hv
    refine m_iconst F (v := 1) (by decide) e_X10_atHand_17 ?_
    refine m_icmp_eq F e_X10_atHand_18 (fun q18 => ?_) (fun q18 => ?_)
    · subst q18
      refine m_aload_n F rfl e_X10_atHand_26 ?_
      refine r_getC F e_X10_atHand_27 fl_X10_141 h7948 (f7951) ?_
      refine m_if_ne F e_X10_atHand_30 (fun q => absurd (by decide) q) (fun _ => ?_)
      refine m_aload_n F rfl e_X10_atHand_33 ?_
      refine m_iconst F (v := 4) (by decide) e_X10_atHand_34 ?_
      refine m_aload_n F rfl e_X10_atHand_35 ?_
      refine m_iconst F (v := 0) (by decide) e_X10_atHand_36 ?_
      refine r_callV F e_X10_atHand_37 (q_X10_reading0 (x_l X) V c T Z u h P7949 L _ _  h7948.1 (hob) oP7949 ) cb_X10_reading ml_X10_157 im_X10_reading se_X10_reading h7948 rfl rfl (rest := [.int 4, .ref c]) rfl (Nat.le_of_ble_eq_true rfl) ⟨Nat.le_of_ble_eq_true rfl, Nat.le_of_ble_eq_true rfl⟩ ⟨Nat.le_of_ble_eq_true rfl, Nat.le_of_ble_eq_true rfl⟩ (fun r σ7955 hp => ?_)
      obtain ⟨h7956, rfl⟩ := hp
      have h7957 := HS.trans h7948 h7956 (by decide)
      refine m_aload_n F rfl e_X10_atHand_40 ?_
      refine r_get F e_X10_atHand_41 fl_X10_120 h7957 rfl (fun v hv f7958 => ?_)
      obtain ⟨x7959, rfl⟩ := hv
      refine r_callV F e_X10_atHand_44 (q_X10_namedAt (x_l X) V c T Z u h P7949 L _ _ 4 P7949.n5 x7959 h7957.1 (hob) oP7949 (by omega) (by omega)) cb_X10_namedAt ml_X10_161 im_X10_namedAt se_X10_namedAt h7957 rfl rfl (rest := []) rfl (Nat.le_of_ble_eq_true rfl) ⟨Nat.le_of_ble_eq_true rfl, Nat.le_of_ble_eq_true rfl⟩ ⟨Nat.le_of_ble_eq_true rfl, Nat.le_of_ble_eq_true rfl⟩ (fun r σ7960 hp => ?_)
      obtain ⟨h7961, c7963⟩ := hp
      have h7962 := HS.trans h7957 h7961 (by decide)
      rcases c7963 with rfl | ⟨n7964, hn7964, rfl⟩
      · refine m_goto F e_X10_atHand_47 ?_
        refine m_istore_n F (lv' := [(1, .int (-1)), (0, .ref c)]) e_X10_atHand_51 (by decide) rfl ?_
        refine m_iload_n F rfl e_X10_atHand_52 ?_
        refine m_iconst F (v := (-1)) (by decide) e_X10_atHand_53 ?_
        refine m_icmp_ne F e_X10_atHand_54 (fun q => absurd (by decide) q) (fun _ => ?_)
        refine m_aload_n F rfl e_X10_atHand_57 ?_
        refine m_iconst F (v := 4) (by decide) e_X10_atHand_58 ?_
        refine r_callV F e_X10_atHand_59 (q_X10_wrong (x_l X) V c T Z u h P7949 L _ _ 4 h7962.1 (hob) oP7949 (by first | omega | assumption | decide)) cb_X10_wrong ml_X10_150 im_X10_wrong se_X10_wrong h7962 rfl rfl (rest := []) rfl (Nat.le_of_ble_eq_true rfl) ⟨Nat.le_of_ble_eq_true rfl, Nat.le_of_ble_eq_true rfl⟩ ⟨Nat.le_of_ble_eq_true rfl, Nat.le_of_ble_eq_true rfl⟩ (fun r σ7965 hp => ?_)
        obtain ⟨h7966, rfl⟩ := hp
        have h7967 := HS.trans h7962 h7966 (by decide)
        refine m_aload_n F rfl e_X10_atHand_62 ?_
        refine r_get F e_X10_atHand_63 fl_X10_141 h7967 rfl (fun v hv f7968 => ?_)
        obtain ⟨x7969, hx7969, rfl⟩ := hv
        replace hx7969 : 0 = 0 → x7969 ≠ 0 := hx7969
        refine m_if_ne F e_X10_atHand_66 (fun q66 => ?_) (fun q66 => ?_)
        · have h7970 := HS.z0 h7967 (f7968) q66
          refine m_iconst F (v := 4) (by decide) e_X10_atHand_75 ?_
          have h7971 : HS V c _ [0, 2, 3, 4, 5, 6, 7, 8, 9, 10, 11, 12, 13, 14, 15, 16, 17, 18, 19, 20, 21, 22, 23] _ _ := ⟨HR.mono (Z' := Z) (by intro e; first | rfl | assumption | omega) h7970.1, h7970.2⟩
          exact m_iret F hQ e_X10_atHand_76 (⟨P7949, oP7949, (by unfold RA; omega), h7971, 4, by omega, by omega, rfl⟩)
        · first | exact absurd q66 (hx7969 rfl) | contradiction
      · refine m_goto F e_X10_atHand_47 ?_
        refine m_istore_n F (lv' := [(1, .int (nI n7964)), (0, .ref c)]) e_X10_atHand_51 (by decide) rfl ?_
        refine m_iload_n F rfl e_X10_atHand_52 ?_
        refine m_iconst F (v := (-1)) (by decide) e_X10_atHand_53 ?_
        refine m_icmp_ne F e_X10_atHand_54 (fun q54 => ?_) (fun q54 => ?_)
        · refine m_aload_n F rfl e_X10_atHand_62 ?_
          refine r_getC F e_X10_atHand_63 fl_X10_141 h7962 ((fld_eq (h7961.2 c (by rw [show kC c c = 1 from kC_at (k := 0) (by decide)]; decide))).trans ((fld_eq (h7956.2 c (by rw [show kC c c = 1 from kC_at (k := 0) (by decide)]; decide))).trans f7951)) ?_
          refine m_if_ne F e_X10_atHand_66 (fun q => absurd (by decide) q) (fun _ => ?_)
          refine m_iconst F (v := 4) (by decide) e_X10_atHand_69 ?_
          refine m_iload_n F rfl e_X10_atHand_70 ?_
          refine m_iadd F e_X10_atHand_71 ?_
          refine Wm.topE (w := nI (4 + n7964)) (nI_add 4 n7964) ?_
          refine m_goto F e_X10_atHand_72 ?_
          exact m_iret F hQ e_X10_atHand_76 (⟨P7949, oP7949, (by unfold RA; omega), h7962, 4 + n7964, by omega, by omega, rfl⟩)
        · refine m_aload_n F rfl e_X10_atHand_57 ?_
          refine m_iconst F (v := 4) (by decide) e_X10_atHand_58 ?_
          refine r_callV F e_X10_atHand_59 (q_X10_wrong (x_l X) V c T Z u h P7949 L _ _ 4 h7962.1 (hob) oP7949 (by first | omega | assumption | decide)) cb_X10_wrong ml_X10_150 im_X10_wrong se_X10_wrong h7962 rfl rfl (rest := []) rfl (Nat.le_of_ble_eq_true rfl) ⟨Nat.le_of_ble_eq_true rfl, Nat.le_of_ble_eq_true rfl⟩ ⟨Nat.le_of_ble_eq_true rfl, Nat.le_of_ble_eq_true rfl⟩ (fun r σ7972 hp => ?_)
          obtain ⟨h7973, rfl⟩ := hp
          have h7974 := HS.trans h7962 h7973 (by decide)
          refine m_aload_n F rfl e_X10_atHand_62 ?_
          refine r_get F e_X10_atHand_63 fl_X10_141 h7974 rfl (fun v hv f7975 => ?_)
          obtain ⟨x7976, hx7976, rfl⟩ := hv
          replace hx7976 : 0 = 0 → x7976 ≠ 0 := hx7976
          refine m_if_ne F e_X10_atHand_66 (fun q66 => ?_) (fun q66 => ?_)
          · have h7977 := HS.z0 h7974 (f7975) q66
            refine m_iconst F (v := 4) (by decide) e_X10_atHand_75 ?_
            have h7978 : HS V c _ [0, 2, 3, 4, 5, 6, 7, 8, 9, 10, 11, 12, 13, 14, 15, 16, 17, 18, 19, 20, 21, 22, 23] _ _ := ⟨HR.mono (Z' := Z) (by intro e; first | rfl | assumption | omega) h7977.1, h7977.2⟩
            exact m_iret F hQ e_X10_atHand_76 (⟨P7949, oP7949, (by unfold RA; omega), h7978, 4, by omega, by omega, rfl⟩)
          · first | exact absurd q66 (hx7976 rfl) | contradiction
    · refine m_aload_n F rfl e_X10_atHand_21 ?_
      refine m_iconst F (v := 1) (by decide) e_X10_atHand_22 ?_
      refine r_callV F e_X10_atHand_23 (q_X10_wrong (x_l X) V c T Z u h P7949 L _ _ 1 h7948.1 (hob) oP7949 (by first | omega | assumption | decide)) cb_X10_wrong ml_X10_150 im_X10_wrong se_X10_wrong h7948 rfl rfl (rest := []) rfl (Nat.le_of_ble_eq_true rfl) ⟨Nat.le_of_ble_eq_true rfl, Nat.le_of_ble_eq_true rfl⟩ ⟨Nat.le_of_ble_eq_true rfl, Nat.le_of_ble_eq_true rfl⟩ (fun r σ7979 hp => ?_)
      obtain ⟨h7980, rfl⟩ := hp
      have h7981 := HS.trans h7948 h7980 (by decide)
      refine m_aload_n F rfl e_X10_atHand_26 ?_
      refine r_get F e_X10_atHand_27 fl_X10_141 h7981 rfl (fun v hv f7982 => ?_)
      obtain ⟨x7983, hx7983, rfl⟩ := hv
      replace hx7983 : 0 = 0 → x7983 ≠ 0 := hx7983
      refine m_if_ne F e_X10_atHand_30 (fun q30 => ?_) (fun q30 => ?_)
      · have h7984 := HS.z0 h7981 (f7982) q30
        refine m_iconst F (v := 0) (by decide) e_X10_atHand_50 ?_
        refine m_istore_n F (lv' := [(1, .int 0), (0, .ref c)]) e_X10_atHand_51 (by decide) rfl ?_
        refine m_iload_n F rfl e_X10_atHand_52 ?_
        refine m_iconst F (v := (-1)) (by decide) e_X10_atHand_53 ?_
        refine m_icmp_ne F e_X10_atHand_54 (fun _ => ?_) (fun q => absurd q (by decide))
        refine m_aload_n F rfl e_X10_atHand_62 ?_
        refine r_getC F e_X10_atHand_63 fl_X10_141 h7984 (f7982) ?_
        refine m_if_ne F e_X10_atHand_66 (fun q66 => ?_) (fun q66 => ?_)
        · have h7985 := HS.z0 h7984 (f7982) q66
          refine m_iconst F (v := 4) (by decide) e_X10_atHand_75 ?_
          have h7986 : HS V c _ [0, 2, 3, 4, 5, 6, 7, 8, 9, 10, 11, 12, 13, 14, 15, 16, 17, 18, 19, 20, 21, 22, 23] _ _ := ⟨HR.mono (Z' := Z) (by intro e; first | rfl | assumption | omega) h7985.1, h7985.2⟩
          exact m_iret F hQ e_X10_atHand_76 (⟨P7949, oP7949, (by unfold RA; omega), h7986, 4, by omega, by omega, rfl⟩)
        · first | exact absurd q66 (hx7983 rfl) | contradiction
      · first | exact absurd q30 (hx7983 rfl) | contradiction
  · have h7987 := HS.z0 h7948 (f7951) q8
    refine m_iconst F (v := 4) (by decide) e_X10_atHand_11 ?_
    have h7988 : HS V c _ [0, 2, 3, 4, 5, 6, 7, 8, 9, 10, 11, 12, 13, 14, 15, 16, 17, 18, 19, 20, 21, 22, 23] _ _ := ⟨HR.mono (Z' := Z) (by intro e; first | rfl | assumption | omega) h7987.1, h7987.2⟩
    exact m_iret F hQ e_X10_atHand_12 (⟨P7949, oP7949, (by unfold RA; omega), h7988, 4, by omega, by omega, rfl⟩)
set_option maxRecDepth 20000 in
theorem lq_X10_readLease_157 {V : VX} {X : MX} {N : Nat} {σ : Mem} {c T Z u h : Nat} {P : NP} {L : Nat → LQ}   (F : Fx V X yX10_readLease cX10_readLease 3 none (rmd 8 0 0)) (hQ : Rt V X 0 0 N (fun r τ => ∃ P9 : NP, OKP P9 ∧ RP P P9 ∧ HS V c (⟨T, Z, u, h, P9, L⟩ : RG) [0, 2, 12, 13, 14, 15, 16, 17, 18, 19, 20, 21, 22, 23] σ τ ∧ r = none)) (hob : OKB L) (hP : OKP P)   : ∀ (fuel : Nat) (a : Nat) (i : Nat) (P1 : NP) (τ : Mem), HS V c (⟨T, Z, u, h, P1, L⟩ : RG) [0, 2, 12, 13, 14, 15, 16, 17, 18, 19, 20, 21, 22, 23] σ τ → OKP P1 → RP P P1 → a = 4 + P1.n5 ∧ i ≤ 48 ∧ P1.n5 ≤ 3 ∧ P1.n5 + 1 ≤ P1.m5 → 48 - i < fuel → Wm V X 3 N τ 0 0 157 [(0, .ref c), (1, .int (nI a)), (2, .int (nI i))] [] := by
  intro fuel
  induction fuel with
  | zero => intros; rename_i hm; exact absurd hm (Nat.not_lt_zero _)
  | succ fuel ih =>
    intro a i P1 τ h1 hP1 hR1 hi hm
    have hPP := hP
    unfold OKP at hPP
    have hPP1 := hP1
    unfold OKP at hPP1
    unfold RP at hR1
    refine m_iload_n F rfl e_X10_readLease_157 ?_
    refine m_bipush F (v := 48) (by decide) e_X10_readLease_158 ?_
    refine m_icmp_ge F e_X10_readLease_160 (fun q160 => ?_) (fun q160 => ?_)
    · have c160 : i ≥ 48 := (nI_leI (a := 48) (b := i) (by omega) (by omega)).mp q160
      refine m_aload_n F rfl e_X10_readLease_181 ?_
      refine m_iconst F (v := 0) (by decide) e_X10_readLease_182 ?_
      refine m_aload_n F rfl e_X10_readLease_183 ?_
      refine m_iconst F (v := 0) (by decide) e_X10_readLease_184 ?_
      refine r_callV F e_X10_readLease_185 (q_X10_reading0 (x_l X) V c T Z u h P1 L _ _  h1.1 (hob) hP1 ) cb_X10_reading ml_X10_157 im_X10_reading se_X10_reading h1 rfl rfl (rest := [.int 0, .ref c]) rfl (Nat.le_of_ble_eq_true rfl) ⟨Nat.le_of_ble_eq_true rfl, Nat.le_of_ble_eq_true rfl⟩ ⟨Nat.le_of_ble_eq_true rfl, Nat.le_of_ble_eq_true rfl⟩ (fun r σ7989 hp => ?_)
      obtain ⟨h7990, rfl⟩ := hp
      have h7991 := HS.trans h1 h7990 (by decide)
      refine m_iconst F (v := 1) (by decide) e_X10_readLease_188 ?_
      refine m_iadd F e_X10_readLease_189 ?_
      refine Wm.topE (w := nI (P1.n5 + 1)) (nI_add P1.n5 1) ?_
      refine r_callV F e_X10_readLease_190 (q_X10_reads0 (x_l X) V c T Z u h P1 L _ _ (P1.n5 + 1) h7991.1 (hob) hP1 (by omega) (by first | omega | assumption | decide)) cb_X10_reads ml_X10_170 im_X10_reads se_X10_reads h7991 rfl rfl (rest := []) rfl (Nat.le_of_ble_eq_true rfl) ⟨Nat.le_of_ble_eq_true rfl, Nat.le_of_ble_eq_true rfl⟩ ⟨Nat.le_of_ble_eq_true rfl, Nat.le_of_ble_eq_true rfl⟩ (fun r σ7992 hp => ?_)
      obtain ⟨h7993, rfl⟩ := hp
      have h7994 := HS.trans h7991 h7993 (by decide)
      obtain ⟨P7995, eP7995⟩ : ∃ P9, P9 = (mkP P1.n0 P1.n2 (P1.n5 + 1) P1.n7 P1.m0 P1.m5 P1.w2 P1.w7 P1.kk P1.a) := ⟨_, rfl⟩
      rw [← eP7995] at h7994
      have fP7995 : P7995.n0 = P1.n0 ∧ P7995.n2 = P1.n2 ∧ P7995.n5 = P1.n5 + 1 ∧ P7995.n7 = P1.n7 ∧ P7995.m0 = P1.m0 ∧ P7995.m5 = P1.m5 ∧ P7995.w2 = P1.w2 ∧ P7995.w7 = P1.w7 ∧ P7995.kk = P1.kk ∧ P7995.a = P1.a := by rw [eP7995]; exact ⟨rfl, rfl, rfl, rfl, rfl, rfl, rfl, rfl, rfl, rfl⟩
      have oP7996 : OKP P7995 := by unfold OKP; omega
      exact m_vret F hQ e_X10_readLease_193 (⟨P7995, oP7996, (by unfold RP; omega), h7994, rfl⟩)
    · have c160 : i < 48 := by have hh := mt (nI_leI (a := 48) (b := i) (by omega) (by omega)).mpr q160; omega
      refine m_aload_n F rfl e_X10_readLease_163 ?_
      refine r_get F e_X10_readLease_164 fl_X10_37 h1 rfl (fun v hv f7997 => ?_)
      obtain rfl : v = .ref (c + 10) := hv
      refine m_bipush F (v := 48) (by decide) e_X10_readLease_167 ?_
      refine m_iload_n F rfl e_X10_readLease_169 ?_
      refine m_imul F e_X10_readLease_170 ?_
      refine Wm.topE (w := nI (48 * a)) (pk_mul 48 a) ?_
      refine m_iload_n F rfl e_X10_readLease_171 ?_
      refine m_iadd F e_X10_readLease_172 ?_
      refine Wm.topE (w := nI ((48 * a) + i)) (nI_add (48 * a) i) ?_
      refine m_iconst F (v := 0) (by decide) e_X10_readLease_173 ?_
      refine r_iast F (g' := (⟨T, Z, u, h, P1, L⟩ : RG)) (len := 384) (j := (48 * a) + i) e_X10_readLease_174 h1 (fun _ h => h) (fun f h => ⟨f, rfl, h⟩) (by decide) (by decide) (nI_clamp (by omega)) (vp_in_nI (by omega) (by decide)) trivial (fun _ _ _ h => h) (fun _ _ _ h => h) (fun σ7998 h7999 g8000 f8001 g8002 => ?_)
      refine m_iinc F (v := nI (i + 1)) (lv' := [(2, .int (nI (i + 1))), (0, .ref c), (1, .int (nI a))]) e_X10_readLease_175 rfl (nI_add i 1) (by decide) rfl ?_
      refine m_goto F e_X10_readLease_178 ?_
      refine Wm.lvsub (lv' := [(0, .ref c), (1, .int (nI a)), (2, .int (nI (i + 1)))]) ?_ [1, 2, 0] rfl
      exact ih a (i + 1) P1 _ h7999 hP1 (by unfold RP; omega) (by omega) (by omega)
set_option maxRecDepth 20000 in
theorem q_X10_readLease (l : Launch) (V : VX) (c T Z u h : Nat) (P : NP) (L : Nat → LQ) (N : Nat) (σ : Mem)  (h0 : HR V c ⟨T, Z, u, h, P, L⟩ σ) (hob : OKB L) (hP : OKP P)  : Ct l V yX10_readLease cX10_readLease 3 none 8 0 0 N σ [.ref c] (fun r τ => ∃ P9 : NP, OKP P9 ∧ RP P P9 ∧ HS V c (⟨T, Z, u, h, P9, L⟩ : RG) [0, 2, 12, 13, 14, 15, 16, 17, 18, 19, 20, 21, 22, 23] σ τ ∧ r = none) := by
  refine Ct.of (by decide) (Nat.le_of_ble_eq_true rfl) [(0, .ref c)] rfl (fun X hX F hQ => ?_)
  have hPP := hP
  unfold OKP at hPP
  have h1 : HS V c ⟨T, Z, u, h, P, L⟩ [0, 2, 12, 13, 14, 15, 16, 17, 18, 19, 20, 21, 22, 23] σ σ := HS.start h0
  refine m_aload_n F rfl e_X10_readLease_0 ?_
  refine m_iconst F (v := 0) (by decide) e_X10_readLease_1 ?_
  refine r_callV F e_X10_readLease_2 (q_X10_reading0 (x_l X) V c T Z u h P L _ _  h1.1 (hob) hP ) cb_X10_reading ml_X10_157 im_X10_reading se_X10_reading h1 rfl rfl (rest := []) rfl (Nat.le_of_ble_eq_true rfl) ⟨Nat.le_of_ble_eq_true rfl, Nat.le_of_ble_eq_true rfl⟩ ⟨Nat.le_of_ble_eq_true rfl, Nat.le_of_ble_eq_true rfl⟩ (fun r σ8003 hp => ?_)
  obtain ⟨h8004, rfl⟩ := hp
  have h8005 := HS.trans h1 h8004 (by decide)
  refine m_iconst F (v := 4) (by decide) e_X10_readLease_5 ?_
  refine m_icmp_ne F e_X10_readLease_6 (fun q6 => ?_) (fun q6 => ?_)
  · have c6 : P.n5 ≠ 4 := by have hh := mt (nI_eq (a := P.n5) (b := 4) (by omega) (by omega)).mpr q6; omega
    refine m_aload_n F rfl e_X10_readLease_14 ?_
    refine r_callV F e_X10_readLease_15 (q_X10_goOn (x_l X) V c T Z u h P L _ _  h8005.1 (hob) hP ) cb_X10_goOn ml_X10_154 im_X10_goOn se_X10_goOn h8005 rfl rfl (rest := []) rfl (Nat.le_of_ble_eq_true rfl) ⟨Nat.le_of_ble_eq_true rfl, Nat.le_of_ble_eq_true rfl⟩ ⟨Nat.le_of_ble_eq_true rfl, Nat.le_of_ble_eq_true rfl⟩ (fun r σ8006 hp => ?_)
    obtain ⟨P8009, oP8009, rP8009, pr8010, h8007, rfl⟩ := hp
    have h8008 := HS.trans h8005 h8007 (by decide)
    have xP8009 := oP8009
    unfold OKP at xP8009
    unfold RA at rP8009
    refine m_aload_n F rfl e_X10_readLease_18 ?_
    refine r_get F e_X10_readLease_19 fl_X10_141 h8008 rfl (fun v hv f8011 => ?_)
    obtain ⟨x8012, hx8012, rfl⟩ := hv
    replace hx8012 : Z = 0 → x8012 ≠ 0 := hx8012
    refine m_if_eq F e_X10_readLease_22 (fun q22 => ?_) (fun q22 => ?_)
    · subst q22
      refine m_aload_n F rfl e_X10_readLease_26 ?_
      refine r_get F e_X10_readLease_27 fl_X10_110 h8008 rfl (fun v hv f8013 => ?_)
      obtain ⟨x8014, rfl⟩ := hv
      refine m_iconst F (v := 1) (by decide) e_X10_readLease_30 ?_
      refine m_icmp_eq F e_X10_readLease_31 (fun q31 => ?_) (fun q31 => ?_)
      · subst q31
        refine m_aload_n F rfl e_X10_readLease_42 ?_
        refine m_iconst F (v := 4) (by decide) e_X10_readLease_43 ?_
        refine m_aload_n F rfl e_X10_readLease_44 ?_
        refine m_iconst F (v := 0) (by decide) e_X10_readLease_45 ?_
        refine r_callV F e_X10_readLease_46 (q_X10_reading0 (x_l X) V c T Z u h P8009 L _ _  h8008.1 (hob) oP8009 ) cb_X10_reading ml_X10_157 im_X10_reading se_X10_reading h8008 rfl rfl (rest := [.int 4, .ref c]) rfl (Nat.le_of_ble_eq_true rfl) ⟨Nat.le_of_ble_eq_true rfl, Nat.le_of_ble_eq_true rfl⟩ ⟨Nat.le_of_ble_eq_true rfl, Nat.le_of_ble_eq_true rfl⟩ (fun r σ8015 hp => ?_)
        obtain ⟨h8016, rfl⟩ := hp
        have h8017 := HS.trans h8008 h8016 (by decide)
        refine m_aload_n F rfl e_X10_readLease_49 ?_
        refine r_get F e_X10_readLease_50 fl_X10_120 h8017 rfl (fun v hv f8018 => ?_)
        obtain ⟨x8019, rfl⟩ := hv
        refine r_callV F e_X10_readLease_53 (q_X10_namedAt (x_l X) V c T Z u h P8009 L _ _ 4 P8009.n5 x8019 h8017.1 (hob) oP8009 (by omega) (by omega)) cb_X10_namedAt ml_X10_161 im_X10_namedAt se_X10_namedAt h8017 rfl rfl (rest := []) rfl (Nat.le_of_ble_eq_true rfl) ⟨Nat.le_of_ble_eq_true rfl, Nat.le_of_ble_eq_true rfl⟩ ⟨Nat.le_of_ble_eq_true rfl, Nat.le_of_ble_eq_true rfl⟩ (fun r σ8020 hp => ?_)
        obtain ⟨h8021, c8023⟩ := hp
        have h8022 := HS.trans h8017 h8021 (by decide)
        rcases c8023 with rfl | ⟨n8024, hn8024, rfl⟩
        · refine m_iconst F (v := (-1)) (by decide) e_X10_readLease_56 ?_
          refine m_icmp_eq F e_X10_readLease_57 (fun _ => ?_) (fun q => absurd (by decide) q)
          refine m_aload_n F rfl e_X10_readLease_65 ?_
          refine r_getC F e_X10_readLease_66 fl_X10_141 h8022 ((fld_eq (h8021.2 c (by rw [show kC c c = 1 from kC_at (k := 0) (by decide)]; decide))).trans ((fld_eq (h8016.2 c (by rw [show kC c c = 1 from kC_at (k := 0) (by decide)]; decide))).trans f8011)) ?_
          refine m_if_eq F e_X10_readLease_69 (fun _ => ?_) (fun q => absurd (by decide) q)
          refine m_iconst F (v := 4) (by decide) e_X10_readLease_73 ?_
          refine m_aload_n F rfl e_X10_readLease_74 ?_
          refine m_iconst F (v := 0) (by decide) e_X10_readLease_75 ?_
          refine r_callV F e_X10_readLease_76 (q_X10_reading0 (x_l X) V c T Z u h P8009 L _ _  h8022.1 (hob) oP8009 ) cb_X10_reading ml_X10_157 im_X10_reading se_X10_reading h8022 rfl rfl (rest := [.int 4]) rfl (Nat.le_of_ble_eq_true rfl) ⟨Nat.le_of_ble_eq_true rfl, Nat.le_of_ble_eq_true rfl⟩ ⟨Nat.le_of_ble_eq_true rfl, Nat.le_of_ble_eq_true rfl⟩ (fun r σ8025 hp => ?_)
          obtain ⟨h8026, rfl⟩ := hp
          have h8027 := HS.trans h8022 h8026 (by decide)
          refine m_iadd F e_X10_readLease_79 ?_
          refine Wm.topE (w := nI (4 + P8009.n5)) (nI_add 4 P8009.n5) ?_
          refine m_istore_n F (lv' := [(1, .int (nI (4 + P8009.n5))), (0, .ref c)]) e_X10_readLease_80 (by decide) rfl ?_
          refine m_aload_n F rfl e_X10_readLease_81 ?_
          refine r_get F e_X10_readLease_82 fl_X10_16 h8027 rfl (fun v hv f8028 => ?_)
          obtain rfl : v = .ref (c + 3) := hv
          refine m_iload_n F rfl e_X10_readLease_85 ?_
          refine m_aload_n F rfl e_X10_readLease_86 ?_
          refine r_getC F e_X10_readLease_87 fl_X10_120 h8027 ((fld_eq (h8026.2 c (by rw [show kC c c = 1 from kC_at (k := 0) (by decide)]; decide))).trans ((fld_eq (h8021.2 c (by rw [show kC c c = 1 from kC_at (k := 0) (by decide)]; decide))).trans f8018)) ?_
          refine r_iast F (g' := (⟨T, Z, u, h, P8009, L⟩ : RG)) (len := 8) (j := 4 + P8009.n5) e_X10_readLease_90 h8027 (fun _ h => h) (fun f h => ⟨f, rfl, h⟩) (by decide) (by decide) (nI_clamp (by omega)) (vp_in_nI (by omega) (by decide)) trivial (fun _ _ _ h => h) (fun _ _ _ h => h) (fun σ8029 h8030 g8031 f8032 g8033 => ?_)
          refine m_aload_n F rfl e_X10_readLease_91 ?_
          refine r_callV F e_X10_readLease_92 (q_X10_token (x_l X) V c T Z u h P8009 L _ _  h8030.1 (hob) oP8009 ) cb_X10_token ml_X10_147 im_X10_token se_X10_token h8030 rfl rfl (rest := []) rfl (Nat.le_of_ble_eq_true rfl) ⟨Nat.le_of_ble_eq_true rfl, Nat.le_of_ble_eq_true rfl⟩ ⟨Nat.le_of_ble_eq_true rfl, Nat.le_of_ble_eq_true rfl⟩ (fun r σ8034 hp => ?_)
          obtain ⟨P8037, oP8037, rP8037, pr8038, h8035, rfl⟩ := hp
          have h8036 := HS.trans h8030 h8035 (by decide)
          have xP8037 := oP8037
          unfold OKP at xP8037
          unfold RA at rP8037
          refine m_aload_n F rfl e_X10_readLease_95 ?_
          refine r_get F e_X10_readLease_96 fl_X10_19 h8036 rfl (fun v hv f8039 => ?_)
          obtain rfl : v = .ref (c + 4) := hv
          refine m_iload_n F rfl e_X10_readLease_99 ?_
          refine m_aload_n F rfl e_X10_readLease_100 ?_
          refine m_iconst F (v := 0) (by decide) e_X10_readLease_101 ?_
          refine m_bipush F (v := 20) (by decide) e_X10_readLease_102 ?_
          refine r_callV F e_X10_readLease_104 (q_X10_numeral (x_l X) V c T Z u h P8037 L _ _ 0 20 h8036.1 (hob) oP8037 (by omega) (by omega)) cb_X10_numeral ml_X10_165 im_X10_numeral se_X10_numeral h8036 rfl rfl (rest := [.int (nI (4 + P8009.n5)), .ref (c + 4)]) rfl (Nat.le_of_ble_eq_true rfl) ⟨Nat.le_of_ble_eq_true rfl, Nat.le_of_ble_eq_true rfl⟩ ⟨Nat.le_of_ble_eq_true rfl, Nat.le_of_ble_eq_true rfl⟩ (fun r σ8040 hp => ?_)
          obtain ⟨P8044, oP8044, rP8044, h8041, c8043⟩ := hp
          have h8042 := HS.trans h8036 h8041 (by decide)
          have xP8044 := oP8044
          unfold OKP at xP8044
          unfold RA at rP8044
          rcases c8043 with ⟨n8045, gn8045, hn8045, rfl⟩ | ⟨h8046, rfl⟩
          · refine r_iast F (g' := (⟨T, Z, u, h, P8044, L⟩ : RG)) (len := 8) (j := 4 + P8009.n5) e_X10_readLease_107 h8042 (fun _ h => h) (fun f h => ⟨f, rfl, h⟩) (by decide) (by decide) (nI_clamp (by omega)) (vp_in_nI (by omega) (by decide)) trivial (fun _ _ _ h => h) (fun _ _ _ h => h) (fun σ8047 h8048 g8049 f8050 g8051 => ?_)
            refine m_aload_n F rfl e_X10_readLease_108 ?_
            refine r_get F e_X10_readLease_109 fl_X10_22 h8048 rfl (fun v hv f8052 => ?_)
            obtain rfl : v = .ref (c + 5) := hv
            refine m_iload_n F rfl e_X10_readLease_112 ?_
            refine m_aload_n F rfl e_X10_readLease_113 ?_
            refine m_iconst F (v := 1) (by decide) e_X10_readLease_114 ?_
            refine m_bipush F (v := 48) (by decide) e_X10_readLease_115 ?_
            refine r_callV F e_X10_readLease_117 (q_X10_numeral (x_l X) V c T Z u h P8044 L _ _ 1 48 h8048.1 (hob) oP8044 (by omega) (by omega)) cb_X10_numeral ml_X10_165 im_X10_numeral se_X10_numeral h8048 rfl rfl (rest := [.int (nI (4 + P8009.n5)), .ref (c + 5)]) rfl (Nat.le_of_ble_eq_true rfl) ⟨Nat.le_of_ble_eq_true rfl, Nat.le_of_ble_eq_true rfl⟩ ⟨Nat.le_of_ble_eq_true rfl, Nat.le_of_ble_eq_true rfl⟩ (fun r σ8053 hp => ?_)
            obtain ⟨P8057, oP8057, rP8057, h8054, c8056⟩ := hp
            have h8055 := HS.trans h8048 h8054 (by decide)
            have xP8057 := oP8057
            unfold OKP at xP8057
            unfold RA at rP8057
            rcases c8056 with ⟨n8058, gn8058, hn8058, rfl⟩ | ⟨h8059, rfl⟩
            · refine r_iast F (g' := (⟨T, Z, u, h, (mkP P8057.n0 P8057.n2 P8057.n5 P8057.n7 P8057.m0 (P8057.n5 + 1) P8057.w2 P8057.w7 P8057.kk P8057.a), L⟩ : RG)) (len := 8) (j := 4 + P8009.n5) e_X10_readLease_120 h8055 (fun _ h => h) (fun f h => ⟨f, rfl, h⟩) (by decide) (by decide) (nI_clamp (by omega)) (vp_in_nI (by omega) (by decide)) ⟨n8058, by omega, rfl, fun h7 _ => absurd h7 (by omega), fun _ _ => by omega⟩ (fun i hi y hy => by obtain ⟨n9, a9, b9, c9, d9⟩ := hy; exact ⟨n9, a9, b9, c9, fun h7 h8 => d9 h7 (show i < 4 + P8057.m5 by have h6 : i < 4 + (P8057.n5 + 1) := h8; omega)⟩) (CR.chg (by intro k hk i x h; unfold EI at h ⊢; split at h <;> first | exact h | exact absurd rfl hk | trivial) rfl rfl) (fun σ8060 h8061 g8062 f8063 g8064 => ?_)
              obtain ⟨P8065, eP8065⟩ : ∃ P9, P9 = (mkP P8057.n0 P8057.n2 P8057.n5 P8057.n7 P8057.m0 (P8057.n5 + 1) P8057.w2 P8057.w7 P8057.kk P8057.a) := ⟨_, rfl⟩
              rw [← eP8065] at h8061
              have fP8065 : P8065.n0 = P8057.n0 ∧ P8065.n2 = P8057.n2 ∧ P8065.n5 = P8057.n5 ∧ P8065.n7 = P8057.n7 ∧ P8065.m0 = P8057.m0 ∧ P8065.m5 = P8057.n5 + 1 ∧ P8065.w2 = P8057.w2 ∧ P8065.w7 = P8057.w7 ∧ P8065.kk = P8057.kk ∧ P8065.a = P8057.a := by rw [eP8065]; exact ⟨rfl, rfl, rfl, rfl, rfl, rfl, rfl, rfl, rfl, rfl⟩
              refine m_aload_n F rfl e_X10_readLease_121 ?_
              refine r_get F e_X10_readLease_122 fl_X10_25 h8061 rfl (fun v hv f8066 => ?_)
              obtain rfl : v = .ref (c + 6) := hv
              refine m_iload_n F rfl e_X10_readLease_125 ?_
              refine m_aload_n F rfl e_X10_readLease_126 ?_
              refine m_iconst F (v := 0) (by decide) e_X10_readLease_127 ?_
              refine m_ldc F kc_X10_169 e_X10_readLease_128 ?_
              have oP8070 : OKP P8065 := by unfold OKP; omega
              refine r_callV F e_X10_readLease_130 (q_X10_numeral (x_l X) V c T Z u h P8065 L _ _ 0 200000 h8061.1 (hob) oP8070 (by omega) (by omega)) cb_X10_numeral ml_X10_165 im_X10_numeral se_X10_numeral h8061 rfl rfl (rest := [.int (nI (4 + P8009.n5)), .ref (c + 6)]) rfl (Nat.le_of_ble_eq_true rfl) ⟨Nat.le_of_ble_eq_true rfl, Nat.le_of_ble_eq_true rfl⟩ ⟨Nat.le_of_ble_eq_true rfl, Nat.le_of_ble_eq_true rfl⟩ (fun r σ8067 hp => ?_)
              obtain ⟨P8072, oP8072, rP8072, h8068, c8071⟩ := hp
              have h8069 := HS.trans h8061 h8068 (by decide)
              have xP8072 := oP8072
              unfold OKP at xP8072
              unfold RA at rP8072
              rcases c8071 with ⟨n8073, gn8073, hn8073, rfl⟩ | ⟨h8074, rfl⟩
              · refine r_iast F (g' := (⟨T, Z, u, h, P8072, L⟩ : RG)) (len := 8) (j := 4 + P8009.n5) e_X10_readLease_133 h8069 (fun _ h => h) (fun f h => ⟨f, rfl, h⟩) (by decide) (by decide) (nI_clamp (by omega)) (vp_in_nI (by omega) (by decide)) ⟨n8073, by omega, rfl⟩ (fun _ _ _ h => h) (fun _ _ _ h => h) (fun σ8075 h8076 g8077 f8078 g8079 => ?_)
                refine m_aload_n F rfl e_X10_readLease_134 ?_
                refine r_get F e_X10_readLease_135 fl_X10_28 h8076 rfl (fun v hv f8080 => ?_)
                obtain rfl : v = .ref (c + 7) := hv
                refine m_iload_n F rfl e_X10_readLease_138 ?_
                refine m_iconst F (v := 0) (by decide) e_X10_readLease_139 ?_
                refine r_iast F (g' := (⟨T, Z, u, h, P8072, L⟩ : RG)) (len := 8) (j := 4 + P8009.n5) e_X10_readLease_140 h8076 (fun _ h => h) (fun f h => ⟨f, rfl, h⟩) (by decide) (by decide) (nI_clamp (by omega)) (vp_in_nI (by omega) (by decide)) trivial (fun _ _ _ h => h) (fun _ _ _ h => h) (fun σ8081 h8082 g8083 f8084 g8085 => ?_)
                refine m_aload_n F rfl e_X10_readLease_141 ?_
                refine r_get F e_X10_readLease_142 fl_X10_31 h8082 rfl (fun v hv f8086 => ?_)
                obtain rfl : v = .ref (c + 8) := hv
                refine m_iload_n F rfl e_X10_readLease_145 ?_
                refine m_iconst F (v := 0) (by decide) e_X10_readLease_146 ?_
                refine r_iast F (g' := (⟨T, Z, u, h, P8072, L⟩ : RG)) (len := 8) (j := 4 + P8009.n5) e_X10_readLease_147 h8082 (fun _ h => h) (fun f h => ⟨f, rfl, h⟩) (by decide) (by decide) (nI_clamp (by omega)) (vp_in_nI (by omega) (by decide)) trivial (fun _ _ _ h => h) (fun _ _ _ h => h) (fun σ8087 h8088 g8089 f8090 g8091 => ?_)
                refine m_aload_n F rfl e_X10_readLease_148 ?_
                refine r_get F e_X10_readLease_149 fl_X10_34 h8088 rfl (fun v hv f8092 => ?_)
                obtain rfl : v = .ref (c + 9) := hv
                refine m_iload_n F rfl e_X10_readLease_152 ?_
                refine m_iconst F (v := 0) (by decide) e_X10_readLease_153 ?_
                refine r_iast F (g' := (⟨T, Z, u, h, P8072, L⟩ : RG)) (len := 8) (j := 4 + P8009.n5) e_X10_readLease_154 h8088 (fun _ h => h) (fun f h => ⟨f, rfl, h⟩) (by decide) (by decide) (nI_clamp (by omega)) (vp_in_nI (by omega) (by decide)) trivial (fun _ _ _ h => h) (fun _ _ _ h => h) (fun σ8093 h8094 g8095 f8096 g8097 => ?_)
                refine m_iconst F (v := 0) (by decide) e_X10_readLease_155 ?_
                refine m_istore_n F (lv' := [(2, .int 0), (1, .int (nI (4 + P8009.n5))), (0, .ref c)]) e_X10_readLease_156 (by decide) rfl ?_
                refine Wm.lvsub (lv' := [(0, .ref c), (1, .int (nI (4 + P8009.n5))), (2, .int 0)]) ?_ [2, 1, 0] rfl
                exact lq_X10_readLease_157 F hQ hob hP  (48 - 0 + 1) (4 + P8009.n5) 0 P8072 _ h8094 oP8072 (by unfold RP; omega) (by omega) (Nat.lt_succ_self _)
              · have h8098 : HS V c (⟨T, 0, u, h, P8072, L⟩ : RG) [0, 2, 12, 13, 14, 15, 16, 17, 18, 19, 20, 21, 22, 23] _ _ := ⟨h8074, h8069.2⟩
                refine r_iast F (g' := (⟨T, 0, u, h, P8072, L⟩ : RG)) (len := 8) (j := 4 + P8009.n5) e_X10_readLease_133 h8098 (fun _ h => h) (fun f h => ⟨f, rfl, h⟩) (by decide) (by decide) (nI_clamp (by omega)) (vp_in_nI (by omega) (by decide)) ⟨0, by omega, rfl⟩ (fun _ _ _ h => h) (fun _ _ _ h => h) (fun σ8099 h8100 g8101 f8102 g8103 => ?_)
                refine m_aload_n F rfl e_X10_readLease_134 ?_
                refine r_get F e_X10_readLease_135 fl_X10_28 h8100 rfl (fun v hv f8104 => ?_)
                obtain rfl : v = .ref (c + 7) := hv
                refine m_iload_n F rfl e_X10_readLease_138 ?_
                refine m_iconst F (v := 0) (by decide) e_X10_readLease_139 ?_
                refine r_iast F (g' := (⟨T, 0, u, h, P8072, L⟩ : RG)) (len := 8) (j := 4 + P8009.n5) e_X10_readLease_140 h8100 (fun _ h => h) (fun f h => ⟨f, rfl, h⟩) (by decide) (by decide) (nI_clamp (by omega)) (vp_in_nI (by omega) (by decide)) trivial (fun _ _ _ h => h) (fun _ _ _ h => h) (fun σ8105 h8106 g8107 f8108 g8109 => ?_)
                refine m_aload_n F rfl e_X10_readLease_141 ?_
                refine r_get F e_X10_readLease_142 fl_X10_31 h8106 rfl (fun v hv f8110 => ?_)
                obtain rfl : v = .ref (c + 8) := hv
                refine m_iload_n F rfl e_X10_readLease_145 ?_
                refine m_iconst F (v := 0) (by decide) e_X10_readLease_146 ?_
                refine r_iast F (g' := (⟨T, 0, u, h, P8072, L⟩ : RG)) (len := 8) (j := 4 + P8009.n5) e_X10_readLease_147 h8106 (fun _ h => h) (fun f h => ⟨f, rfl, h⟩) (by decide) (by decide) (nI_clamp (by omega)) (vp_in_nI (by omega) (by decide)) trivial (fun _ _ _ h => h) (fun _ _ _ h => h) (fun σ8111 h8112 g8113 f8114 g8115 => ?_)
                refine m_aload_n F rfl e_X10_readLease_148 ?_
                refine r_get F e_X10_readLease_149 fl_X10_34 h8112 rfl (fun v hv f8116 => ?_)
                obtain rfl : v = .ref (c + 9) := hv
                refine m_iload_n F rfl e_X10_readLease_152 ?_
                refine m_iconst F (v := 0) (by decide) e_X10_readLease_153 ?_
                refine r_iast F (g' := (⟨T, 0, u, h, P8072, L⟩ : RG)) (len := 8) (j := 4 + P8009.n5) e_X10_readLease_154 h8112 (fun _ h => h) (fun f h => ⟨f, rfl, h⟩) (by decide) (by decide) (nI_clamp (by omega)) (vp_in_nI (by omega) (by decide)) trivial (fun _ _ _ h => h) (fun _ _ _ h => h) (fun σ8117 h8118 g8119 f8120 g8121 => ?_)
                refine m_iconst F (v := 0) (by decide) e_X10_readLease_155 ?_
                refine m_istore_n F (lv' := [(2, .int 0), (1, .int (nI (4 + P8009.n5))), (0, .ref c)]) e_X10_readLease_156 (by decide) rfl ?_
                refine Wm.lvsub (lv' := [(0, .ref c), (1, .int (nI (4 + P8009.n5))), (2, .int 0)]) ?_ [2, 1, 0] rfl
                exact lq_X10_readLease_157 F hQ hob hP  (48 - 0 + 1) (4 + P8009.n5) 0 P8072 _ ⟨HR.mono (Z' := Z) (by intro e9; first | rfl | assumption | omega) h8118.1, h8118.2⟩ oP8072 (by unfold RP; omega) (by omega) (Nat.lt_succ_self _)
            · have h8122 : HS V c (⟨T, 0, u, h, P8057, L⟩ : RG) [0, 2, 12, 13, 14, 15, 16, 17, 18, 19, 20, 21, 22, 23] _ _ := ⟨h8059, h8055.2⟩
              refine r_iast F (g' := (⟨T, 0, u, h, (mkP P8057.n0 P8057.n2 P8057.n5 P8057.n7 P8057.m0 (P8057.n5 + 1) P8057.w2 P8057.w7 P8057.kk P8057.a), L⟩ : RG)) (len := 8) (j := 4 + P8009.n5) e_X10_readLease_120 h8122 (fun _ h => h) (fun f h => ⟨f, rfl, h⟩) (by decide) (by decide) (nI_clamp (by omega)) (vp_in_nI (by omega) (by decide)) ⟨1, by omega, rfl, fun h7 _ => absurd h7 (by omega), fun _ _ => by omega⟩ (fun i hi y hy => by obtain ⟨n9, a9, b9, c9, d9⟩ := hy; exact ⟨n9, a9, b9, c9, fun h7 h8 => d9 h7 (show i < 4 + P8057.m5 by have h6 : i < 4 + (P8057.n5 + 1) := h8; omega)⟩) (CR.chg (by intro k hk i x h; unfold EI at h ⊢; split at h <;> first | exact h | exact absurd rfl hk | trivial) rfl rfl) (fun σ8123 h8124 g8125 f8126 g8127 => ?_)
              obtain ⟨P8128, eP8128⟩ : ∃ P9, P9 = (mkP P8057.n0 P8057.n2 P8057.n5 P8057.n7 P8057.m0 (P8057.n5 + 1) P8057.w2 P8057.w7 P8057.kk P8057.a) := ⟨_, rfl⟩
              rw [← eP8128] at h8124
              have fP8128 : P8128.n0 = P8057.n0 ∧ P8128.n2 = P8057.n2 ∧ P8128.n5 = P8057.n5 ∧ P8128.n7 = P8057.n7 ∧ P8128.m0 = P8057.m0 ∧ P8128.m5 = P8057.n5 + 1 ∧ P8128.w2 = P8057.w2 ∧ P8128.w7 = P8057.w7 ∧ P8128.kk = P8057.kk ∧ P8128.a = P8057.a := by rw [eP8128]; exact ⟨rfl, rfl, rfl, rfl, rfl, rfl, rfl, rfl, rfl, rfl⟩
              refine m_aload_n F rfl e_X10_readLease_121 ?_
              refine r_get F e_X10_readLease_122 fl_X10_25 h8124 rfl (fun v hv f8129 => ?_)
              obtain rfl : v = .ref (c + 6) := hv
              refine m_iload_n F rfl e_X10_readLease_125 ?_
              refine m_aload_n F rfl e_X10_readLease_126 ?_
              refine m_iconst F (v := 0) (by decide) e_X10_readLease_127 ?_
              refine m_ldc F kc_X10_169 e_X10_readLease_128 ?_
              have oP8133 : OKP P8128 := by unfold OKP; omega
              refine r_callV F e_X10_readLease_130 (q_X10_numeral (x_l X) V c T 0 u h P8128 L _ _ 0 200000 h8124.1 (hob) oP8133 (by omega) (by omega)) cb_X10_numeral ml_X10_165 im_X10_numeral se_X10_numeral h8124 rfl rfl (rest := [.int (nI (4 + P8009.n5)), .ref (c + 6)]) rfl (Nat.le_of_ble_eq_true rfl) ⟨Nat.le_of_ble_eq_true rfl, Nat.le_of_ble_eq_true rfl⟩ ⟨Nat.le_of_ble_eq_true rfl, Nat.le_of_ble_eq_true rfl⟩ (fun r σ8130 hp => ?_)
              obtain ⟨P8135, oP8135, rP8135, h8131, c8134⟩ := hp
              have h8132 := HS.trans h8124 h8131 (by decide)
              have xP8135 := oP8135
              unfold OKP at xP8135
              unfold RA at rP8135
              rcases c8134 with ⟨n8136, gn8136, hn8136, rfl⟩ | ⟨h8137, rfl⟩
              · refine r_iast F (g' := (⟨T, 0, u, h, P8135, L⟩ : RG)) (len := 8) (j := 4 + P8009.n5) e_X10_readLease_133 h8132 (fun _ h => h) (fun f h => ⟨f, rfl, h⟩) (by decide) (by decide) (nI_clamp (by omega)) (vp_in_nI (by omega) (by decide)) ⟨n8136, by omega, rfl⟩ (fun _ _ _ h => h) (fun _ _ _ h => h) (fun σ8138 h8139 g8140 f8141 g8142 => ?_)
                refine m_aload_n F rfl e_X10_readLease_134 ?_
                refine r_get F e_X10_readLease_135 fl_X10_28 h8139 rfl (fun v hv f8143 => ?_)
                obtain rfl : v = .ref (c + 7) := hv
                refine m_iload_n F rfl e_X10_readLease_138 ?_
                refine m_iconst F (v := 0) (by decide) e_X10_readLease_139 ?_
                refine r_iast F (g' := (⟨T, 0, u, h, P8135, L⟩ : RG)) (len := 8) (j := 4 + P8009.n5) e_X10_readLease_140 h8139 (fun _ h => h) (fun f h => ⟨f, rfl, h⟩) (by decide) (by decide) (nI_clamp (by omega)) (vp_in_nI (by omega) (by decide)) trivial (fun _ _ _ h => h) (fun _ _ _ h => h) (fun σ8144 h8145 g8146 f8147 g8148 => ?_)
                refine m_aload_n F rfl e_X10_readLease_141 ?_
                refine r_get F e_X10_readLease_142 fl_X10_31 h8145 rfl (fun v hv f8149 => ?_)
                obtain rfl : v = .ref (c + 8) := hv
                refine m_iload_n F rfl e_X10_readLease_145 ?_
                refine m_iconst F (v := 0) (by decide) e_X10_readLease_146 ?_
                refine r_iast F (g' := (⟨T, 0, u, h, P8135, L⟩ : RG)) (len := 8) (j := 4 + P8009.n5) e_X10_readLease_147 h8145 (fun _ h => h) (fun f h => ⟨f, rfl, h⟩) (by decide) (by decide) (nI_clamp (by omega)) (vp_in_nI (by omega) (by decide)) trivial (fun _ _ _ h => h) (fun _ _ _ h => h) (fun σ8150 h8151 g8152 f8153 g8154 => ?_)
                refine m_aload_n F rfl e_X10_readLease_148 ?_
                refine r_get F e_X10_readLease_149 fl_X10_34 h8151 rfl (fun v hv f8155 => ?_)
                obtain rfl : v = .ref (c + 9) := hv
                refine m_iload_n F rfl e_X10_readLease_152 ?_
                refine m_iconst F (v := 0) (by decide) e_X10_readLease_153 ?_
                refine r_iast F (g' := (⟨T, 0, u, h, P8135, L⟩ : RG)) (len := 8) (j := 4 + P8009.n5) e_X10_readLease_154 h8151 (fun _ h => h) (fun f h => ⟨f, rfl, h⟩) (by decide) (by decide) (nI_clamp (by omega)) (vp_in_nI (by omega) (by decide)) trivial (fun _ _ _ h => h) (fun _ _ _ h => h) (fun σ8156 h8157 g8158 f8159 g8160 => ?_)
                refine m_iconst F (v := 0) (by decide) e_X10_readLease_155 ?_
                refine m_istore_n F (lv' := [(2, .int 0), (1, .int (nI (4 + P8009.n5))), (0, .ref c)]) e_X10_readLease_156 (by decide) rfl ?_
                refine Wm.lvsub (lv' := [(0, .ref c), (1, .int (nI (4 + P8009.n5))), (2, .int 0)]) ?_ [2, 1, 0] rfl
                exact lq_X10_readLease_157 F hQ hob hP  (48 - 0 + 1) (4 + P8009.n5) 0 P8135 _ ⟨HR.mono (Z' := Z) (by intro e9; first | rfl | assumption | omega) h8157.1, h8157.2⟩ oP8135 (by unfold RP; omega) (by omega) (Nat.lt_succ_self _)
              · have h8161 : HS V c (⟨T, 0, u, h, P8135, L⟩ : RG) [0, 2, 12, 13, 14, 15, 16, 17, 18, 19, 20, 21, 22, 23] _ _ := ⟨h8137, h8132.2⟩
                refine r_iast F (g' := (⟨T, 0, u, h, P8135, L⟩ : RG)) (len := 8) (j := 4 + P8009.n5) e_X10_readLease_133 h8161 (fun _ h => h) (fun f h => ⟨f, rfl, h⟩) (by decide) (by decide) (nI_clamp (by omega)) (vp_in_nI (by omega) (by decide)) ⟨0, by omega, rfl⟩ (fun _ _ _ h => h) (fun _ _ _ h => h) (fun σ8162 h8163 g8164 f8165 g8166 => ?_)
                refine m_aload_n F rfl e_X10_readLease_134 ?_
                refine r_get F e_X10_readLease_135 fl_X10_28 h8163 rfl (fun v hv f8167 => ?_)
                obtain rfl : v = .ref (c + 7) := hv
                refine m_iload_n F rfl e_X10_readLease_138 ?_
                refine m_iconst F (v := 0) (by decide) e_X10_readLease_139 ?_
                refine r_iast F (g' := (⟨T, 0, u, h, P8135, L⟩ : RG)) (len := 8) (j := 4 + P8009.n5) e_X10_readLease_140 h8163 (fun _ h => h) (fun f h => ⟨f, rfl, h⟩) (by decide) (by decide) (nI_clamp (by omega)) (vp_in_nI (by omega) (by decide)) trivial (fun _ _ _ h => h) (fun _ _ _ h => h) (fun σ8168 h8169 g8170 f8171 g8172 => ?_)
                refine m_aload_n F rfl e_X10_readLease_141 ?_
                refine r_get F e_X10_readLease_142 fl_X10_31 h8169 rfl (fun v hv f8173 => ?_)
                obtain rfl : v = .ref (c + 8) := hv
                refine m_iload_n F rfl e_X10_readLease_145 ?_
                refine m_iconst F (v := 0) (by decide) e_X10_readLease_146 ?_
                refine r_iast F (g' := (⟨T, 0, u, h, P8135, L⟩ : RG)) (len := 8) (j := 4 + P8009.n5) e_X10_readLease_147 h8169 (fun _ h => h) (fun f h => ⟨f, rfl, h⟩) (by decide) (by decide) (nI_clamp (by omega)) (vp_in_nI (by omega) (by decide)) trivial (fun _ _ _ h => h) (fun _ _ _ h => h) (fun σ8174 h8175 g8176 f8177 g8178 => ?_)
                refine m_aload_n F rfl e_X10_readLease_148 ?_
                refine r_get F e_X10_readLease_149 fl_X10_34 h8175 rfl (fun v hv f8179 => ?_)
                obtain rfl : v = .ref (c + 9) := hv
                refine m_iload_n F rfl e_X10_readLease_152 ?_
                refine m_iconst F (v := 0) (by decide) e_X10_readLease_153 ?_
                refine r_iast F (g' := (⟨T, 0, u, h, P8135, L⟩ : RG)) (len := 8) (j := 4 + P8009.n5) e_X10_readLease_154 h8175 (fun _ h => h) (fun f h => ⟨f, rfl, h⟩) (by decide) (by decide) (nI_clamp (by omega)) (vp_in_nI (by omega) (by decide)) trivial (fun _ _ _ h => h) (fun _ _ _ h => h) (fun σ8180 h8181 g8182 f8183 g8184 => ?_)
                refine m_iconst F (v := 0) (by decide) e_X10_readLease_155 ?_
                refine m_istore_n F (lv' := [(2, .int 0), (1, .int (nI (4 + P8009.n5))), (0, .ref c)]) e_X10_readLease_156 (by decide) rfl ?_
                refine Wm.lvsub (lv' := [(0, .ref c), (1, .int (nI (4 + P8009.n5))), (2, .int 0)]) ?_ [2, 1, 0] rfl
                exact lq_X10_readLease_157 F hQ hob hP  (48 - 0 + 1) (4 + P8009.n5) 0 P8135 _ ⟨HR.mono (Z' := Z) (by intro e9; first | rfl | assumption | omega) h8181.1, h8181.2⟩ oP8135 (by unfold RP; omega) (by omega) (Nat.lt_succ_self _)
          · have h8185 : HS V c (⟨T, 0, u, h, P8044, L⟩ : RG) [0, 2, 12, 13, 14, 15, 16, 17, 18, 19, 20, 21, 22, 23] _ _ := ⟨h8046, h8042.2⟩
            refine r_iast F (g' := (⟨T, 0, u, h, P8044, L⟩ : RG)) (len := 8) (j := 4 + P8009.n5) e_X10_readLease_107 h8185 (fun _ h => h) (fun f h => ⟨f, rfl, h⟩) (by decide) (by decide) (nI_clamp (by omega)) (vp_in_nI (by omega) (by decide)) trivial (fun _ _ _ h => h) (fun _ _ _ h => h) (fun σ8186 h8187 g8188 f8189 g8190 => ?_)
            refine m_aload_n F rfl e_X10_readLease_108 ?_
            refine r_get F e_X10_readLease_109 fl_X10_22 h8187 rfl (fun v hv f8191 => ?_)
            obtain rfl : v = .ref (c + 5) := hv
            refine m_iload_n F rfl e_X10_readLease_112 ?_
            refine m_aload_n F rfl e_X10_readLease_113 ?_
            refine m_iconst F (v := 1) (by decide) e_X10_readLease_114 ?_
            refine m_bipush F (v := 48) (by decide) e_X10_readLease_115 ?_
            refine r_callV F e_X10_readLease_117 (q_X10_numeral (x_l X) V c T 0 u h P8044 L _ _ 1 48 h8187.1 (hob) oP8044 (by omega) (by omega)) cb_X10_numeral ml_X10_165 im_X10_numeral se_X10_numeral h8187 rfl rfl (rest := [.int (nI (4 + P8009.n5)), .ref (c + 5)]) rfl (Nat.le_of_ble_eq_true rfl) ⟨Nat.le_of_ble_eq_true rfl, Nat.le_of_ble_eq_true rfl⟩ ⟨Nat.le_of_ble_eq_true rfl, Nat.le_of_ble_eq_true rfl⟩ (fun r σ8192 hp => ?_)
            obtain ⟨P8196, oP8196, rP8196, h8193, c8195⟩ := hp
            have h8194 := HS.trans h8187 h8193 (by decide)
            have xP8196 := oP8196
            unfold OKP at xP8196
            unfold RA at rP8196
            rcases c8195 with ⟨n8197, gn8197, hn8197, rfl⟩ | ⟨h8198, rfl⟩
            · refine r_iast F (g' := (⟨T, 0, u, h, (mkP P8196.n0 P8196.n2 P8196.n5 P8196.n7 P8196.m0 (P8196.n5 + 1) P8196.w2 P8196.w7 P8196.kk P8196.a), L⟩ : RG)) (len := 8) (j := 4 + P8009.n5) e_X10_readLease_120 h8194 (fun _ h => h) (fun f h => ⟨f, rfl, h⟩) (by decide) (by decide) (nI_clamp (by omega)) (vp_in_nI (by omega) (by decide)) ⟨n8197, by omega, rfl, fun h7 _ => absurd h7 (by omega), fun _ _ => by omega⟩ (fun i hi y hy => by obtain ⟨n9, a9, b9, c9, d9⟩ := hy; exact ⟨n9, a9, b9, c9, fun h7 h8 => d9 h7 (show i < 4 + P8196.m5 by have h6 : i < 4 + (P8196.n5 + 1) := h8; omega)⟩) (CR.chg (by intro k hk i x h; unfold EI at h ⊢; split at h <;> first | exact h | exact absurd rfl hk | trivial) rfl rfl) (fun σ8199 h8200 g8201 f8202 g8203 => ?_)
              obtain ⟨P8204, eP8204⟩ : ∃ P9, P9 = (mkP P8196.n0 P8196.n2 P8196.n5 P8196.n7 P8196.m0 (P8196.n5 + 1) P8196.w2 P8196.w7 P8196.kk P8196.a) := ⟨_, rfl⟩
              rw [← eP8204] at h8200
              have fP8204 : P8204.n0 = P8196.n0 ∧ P8204.n2 = P8196.n2 ∧ P8204.n5 = P8196.n5 ∧ P8204.n7 = P8196.n7 ∧ P8204.m0 = P8196.m0 ∧ P8204.m5 = P8196.n5 + 1 ∧ P8204.w2 = P8196.w2 ∧ P8204.w7 = P8196.w7 ∧ P8204.kk = P8196.kk ∧ P8204.a = P8196.a := by rw [eP8204]; exact ⟨rfl, rfl, rfl, rfl, rfl, rfl, rfl, rfl, rfl, rfl⟩
              refine m_aload_n F rfl e_X10_readLease_121 ?_
              refine r_get F e_X10_readLease_122 fl_X10_25 h8200 rfl (fun v hv f8205 => ?_)
              obtain rfl : v = .ref (c + 6) := hv
              refine m_iload_n F rfl e_X10_readLease_125 ?_
              refine m_aload_n F rfl e_X10_readLease_126 ?_
              refine m_iconst F (v := 0) (by decide) e_X10_readLease_127 ?_
              refine m_ldc F kc_X10_169 e_X10_readLease_128 ?_
              have oP8209 : OKP P8204 := by unfold OKP; omega
              refine r_callV F e_X10_readLease_130 (q_X10_numeral (x_l X) V c T 0 u h P8204 L _ _ 0 200000 h8200.1 (hob) oP8209 (by omega) (by omega)) cb_X10_numeral ml_X10_165 im_X10_numeral se_X10_numeral h8200 rfl rfl (rest := [.int (nI (4 + P8009.n5)), .ref (c + 6)]) rfl (Nat.le_of_ble_eq_true rfl) ⟨Nat.le_of_ble_eq_true rfl, Nat.le_of_ble_eq_true rfl⟩ ⟨Nat.le_of_ble_eq_true rfl, Nat.le_of_ble_eq_true rfl⟩ (fun r σ8206 hp => ?_)
              obtain ⟨P8211, oP8211, rP8211, h8207, c8210⟩ := hp
              have h8208 := HS.trans h8200 h8207 (by decide)
              have xP8211 := oP8211
              unfold OKP at xP8211
              unfold RA at rP8211
              rcases c8210 with ⟨n8212, gn8212, hn8212, rfl⟩ | ⟨h8213, rfl⟩
              · refine r_iast F (g' := (⟨T, 0, u, h, P8211, L⟩ : RG)) (len := 8) (j := 4 + P8009.n5) e_X10_readLease_133 h8208 (fun _ h => h) (fun f h => ⟨f, rfl, h⟩) (by decide) (by decide) (nI_clamp (by omega)) (vp_in_nI (by omega) (by decide)) ⟨n8212, by omega, rfl⟩ (fun _ _ _ h => h) (fun _ _ _ h => h) (fun σ8214 h8215 g8216 f8217 g8218 => ?_)
                refine m_aload_n F rfl e_X10_readLease_134 ?_
                refine r_get F e_X10_readLease_135 fl_X10_28 h8215 rfl (fun v hv f8219 => ?_)
                obtain rfl : v = .ref (c + 7) := hv
                refine m_iload_n F rfl e_X10_readLease_138 ?_
                refine m_iconst F (v := 0) (by decide) e_X10_readLease_139 ?_
                refine r_iast F (g' := (⟨T, 0, u, h, P8211, L⟩ : RG)) (len := 8) (j := 4 + P8009.n5) e_X10_readLease_140 h8215 (fun _ h => h) (fun f h => ⟨f, rfl, h⟩) (by decide) (by decide) (nI_clamp (by omega)) (vp_in_nI (by omega) (by decide)) trivial (fun _ _ _ h => h) (fun _ _ _ h => h) (fun σ8220 h8221 g8222 f8223 g8224 => ?_)
                refine m_aload_n F rfl e_X10_readLease_141 ?_
                refine r_get F e_X10_readLease_142 fl_X10_31 h8221 rfl (fun v hv f8225 => ?_)
                obtain rfl : v = .ref (c + 8) := hv
                refine m_iload_n F rfl e_X10_readLease_145 ?_
                refine m_iconst F (v := 0) (by decide) e_X10_readLease_146 ?_
                refine r_iast F (g' := (⟨T, 0, u, h, P8211, L⟩ : RG)) (len := 8) (j := 4 + P8009.n5) e_X10_readLease_147 h8221 (fun _ h => h) (fun f h => ⟨f, rfl, h⟩) (by decide) (by decide) (nI_clamp (by omega)) (vp_in_nI (by omega) (by decide)) trivial (fun _ _ _ h => h) (fun _ _ _ h => h) (fun σ8226 h8227 g8228 f8229 g8230 => ?_)
                refine m_aload_n F rfl e_X10_readLease_148 ?_
                refine r_get F e_X10_readLease_149 fl_X10_34 h8227 rfl (fun v hv f8231 => ?_)
                obtain rfl : v = .ref (c + 9) := hv
                refine m_iload_n F rfl e_X10_readLease_152 ?_
                refine m_iconst F (v := 0) (by decide) e_X10_readLease_153 ?_
                refine r_iast F (g' := (⟨T, 0, u, h, P8211, L⟩ : RG)) (len := 8) (j := 4 + P8009.n5) e_X10_readLease_154 h8227 (fun _ h => h) (fun f h => ⟨f, rfl, h⟩) (by decide) (by decide) (nI_clamp (by omega)) (vp_in_nI (by omega) (by decide)) trivial (fun _ _ _ h => h) (fun _ _ _ h => h) (fun σ8232 h8233 g8234 f8235 g8236 => ?_)
                refine m_iconst F (v := 0) (by decide) e_X10_readLease_155 ?_
                refine m_istore_n F (lv' := [(2, .int 0), (1, .int (nI (4 + P8009.n5))), (0, .ref c)]) e_X10_readLease_156 (by decide) rfl ?_
                refine Wm.lvsub (lv' := [(0, .ref c), (1, .int (nI (4 + P8009.n5))), (2, .int 0)]) ?_ [2, 1, 0] rfl
                exact lq_X10_readLease_157 F hQ hob hP  (48 - 0 + 1) (4 + P8009.n5) 0 P8211 _ ⟨HR.mono (Z' := Z) (by intro e9; first | rfl | assumption | omega) h8233.1, h8233.2⟩ oP8211 (by unfold RP; omega) (by omega) (Nat.lt_succ_self _)
              · have h8237 : HS V c (⟨T, 0, u, h, P8211, L⟩ : RG) [0, 2, 12, 13, 14, 15, 16, 17, 18, 19, 20, 21, 22, 23] _ _ := ⟨h8213, h8208.2⟩
                refine r_iast F (g' := (⟨T, 0, u, h, P8211, L⟩ : RG)) (len := 8) (j := 4 + P8009.n5) e_X10_readLease_133 h8237 (fun _ h => h) (fun f h => ⟨f, rfl, h⟩) (by decide) (by decide) (nI_clamp (by omega)) (vp_in_nI (by omega) (by decide)) ⟨0, by omega, rfl⟩ (fun _ _ _ h => h) (fun _ _ _ h => h) (fun σ8238 h8239 g8240 f8241 g8242 => ?_)
                refine m_aload_n F rfl e_X10_readLease_134 ?_
                refine r_get F e_X10_readLease_135 fl_X10_28 h8239 rfl (fun v hv f8243 => ?_)
                obtain rfl : v = .ref (c + 7) := hv
                refine m_iload_n F rfl e_X10_readLease_138 ?_
                refine m_iconst F (v := 0) (by decide) e_X10_readLease_139 ?_
                refine r_iast F (g' := (⟨T, 0, u, h, P8211, L⟩ : RG)) (len := 8) (j := 4 + P8009.n5) e_X10_readLease_140 h8239 (fun _ h => h) (fun f h => ⟨f, rfl, h⟩) (by decide) (by decide) (nI_clamp (by omega)) (vp_in_nI (by omega) (by decide)) trivial (fun _ _ _ h => h) (fun _ _ _ h => h) (fun σ8244 h8245 g8246 f8247 g8248 => ?_)
                refine m_aload_n F rfl e_X10_readLease_141 ?_
                refine r_get F e_X10_readLease_142 fl_X10_31 h8245 rfl (fun v hv f8249 => ?_)
                obtain rfl : v = .ref (c + 8) := hv
                refine m_iload_n F rfl e_X10_readLease_145 ?_
                refine m_iconst F (v := 0) (by decide) e_X10_readLease_146 ?_
                refine r_iast F (g' := (⟨T, 0, u, h, P8211, L⟩ : RG)) (len := 8) (j := 4 + P8009.n5) e_X10_readLease_147 h8245 (fun _ h => h) (fun f h => ⟨f, rfl, h⟩) (by decide) (by decide) (nI_clamp (by omega)) (vp_in_nI (by omega) (by decide)) trivial (fun _ _ _ h => h) (fun _ _ _ h => h) (fun σ8250 h8251 g8252 f8253 g8254 => ?_)
                refine m_aload_n F rfl e_X10_readLease_148 ?_
                refine r_get F e_X10_readLease_149 fl_X10_34 h8251 rfl (fun v hv f8255 => ?_)
                obtain rfl : v = .ref (c + 9) := hv
                refine m_iload_n F rfl e_X10_readLease_152 ?_
                refine m_iconst F (v := 0) (by decide) e_X10_readLease_153 ?_
                refine r_iast F (g' := (⟨T, 0, u, h, P8211, L⟩ : RG)) (len := 8) (j := 4 + P8009.n5) e_X10_readLease_154 h8251 (fun _ h => h) (fun f h => ⟨f, rfl, h⟩) (by decide) (by decide) (nI_clamp (by omega)) (vp_in_nI (by omega) (by decide)) trivial (fun _ _ _ h => h) (fun _ _ _ h => h) (fun σ8256 h8257 g8258 f8259 g8260 => ?_)
                refine m_iconst F (v := 0) (by decide) e_X10_readLease_155 ?_
                refine m_istore_n F (lv' := [(2, .int 0), (1, .int (nI (4 + P8009.n5))), (0, .ref c)]) e_X10_readLease_156 (by decide) rfl ?_
                refine Wm.lvsub (lv' := [(0, .ref c), (1, .int (nI (4 + P8009.n5))), (2, .int 0)]) ?_ [2, 1, 0] rfl
                exact lq_X10_readLease_157 F hQ hob hP  (48 - 0 + 1) (4 + P8009.n5) 0 P8211 _ ⟨HR.mono (Z' := Z) (by intro e9; first | rfl | assumption | omega) h8257.1, h8257.2⟩ oP8211 (by unfold RP; omega) (by omega) (Nat.lt_succ_self _)
            · have h8261 : HS V c (⟨T, 0, u, h, P8196, L⟩ : RG) [0, 2, 12, 13, 14, 15, 16, 17, 18, 19, 20, 21, 22, 23] _ _ := ⟨h8198, h8194.2⟩
              refine r_iast F (g' := (⟨T, 0, u, h, (mkP P8196.n0 P8196.n2 P8196.n5 P8196.n7 P8196.m0 (P8196.n5 + 1) P8196.w2 P8196.w7 P8196.kk P8196.a), L⟩ : RG)) (len := 8) (j := 4 + P8009.n5) e_X10_readLease_120 h8261 (fun _ h => h) (fun f h => ⟨f, rfl, h⟩) (by decide) (by decide) (nI_clamp (by omega)) (vp_in_nI (by omega) (by decide)) ⟨1, by omega, rfl, fun h7 _ => absurd h7 (by omega), fun _ _ => by omega⟩ (fun i hi y hy => by obtain ⟨n9, a9, b9, c9, d9⟩ := hy; exact ⟨n9, a9, b9, c9, fun h7 h8 => d9 h7 (show i < 4 + P8196.m5 by have h6 : i < 4 + (P8196.n5 + 1) := h8; omega)⟩) (CR.chg (by intro k hk i x h; unfold EI at h ⊢; split at h <;> first | exact h | exact absurd rfl hk | trivial) rfl rfl) (fun σ8262 h8263 g8264 f8265 g8266 => ?_)
              obtain ⟨P8267, eP8267⟩ : ∃ P9, P9 = (mkP P8196.n0 P8196.n2 P8196.n5 P8196.n7 P8196.m0 (P8196.n5 + 1) P8196.w2 P8196.w7 P8196.kk P8196.a) := ⟨_, rfl⟩
              rw [← eP8267] at h8263
              have fP8267 : P8267.n0 = P8196.n0 ∧ P8267.n2 = P8196.n2 ∧ P8267.n5 = P8196.n5 ∧ P8267.n7 = P8196.n7 ∧ P8267.m0 = P8196.m0 ∧ P8267.m5 = P8196.n5 + 1 ∧ P8267.w2 = P8196.w2 ∧ P8267.w7 = P8196.w7 ∧ P8267.kk = P8196.kk ∧ P8267.a = P8196.a := by rw [eP8267]; exact ⟨rfl, rfl, rfl, rfl, rfl, rfl, rfl, rfl, rfl, rfl⟩
              refine m_aload_n F rfl e_X10_readLease_121 ?_
              refine r_get F e_X10_readLease_122 fl_X10_25 h8263 rfl (fun v hv f8268 => ?_)
              obtain rfl : v = .ref (c + 6) := hv
              refine m_iload_n F rfl e_X10_readLease_125 ?_
              refine m_aload_n F rfl e_X10_readLease_126 ?_
              refine m_iconst F (v := 0) (by decide) e_X10_readLease_127 ?_
              refine m_ldc F kc_X10_169 e_X10_readLease_128 ?_
              have oP8272 : OKP P8267 := by unfold OKP; omega
              refine r_callV F e_X10_readLease_130 (q_X10_numeral (x_l X) V c T 0 u h P8267 L _ _ 0 200000 h8263.1 (hob) oP8272 (by omega) (by omega)) cb_X10_numeral ml_X10_165 im_X10_numeral se_X10_numeral h8263 rfl rfl (rest := [.int (nI (4 + P8009.n5)), .ref (c + 6)]) rfl (Nat.le_of_ble_eq_true rfl) ⟨Nat.le_of_ble_eq_true rfl, Nat.le_of_ble_eq_true rfl⟩ ⟨Nat.le_of_ble_eq_true rfl, Nat.le_of_ble_eq_true rfl⟩ (fun r σ8269 hp => ?_)
              obtain ⟨P8274, oP8274, rP8274, h8270, c8273⟩ := hp
              have h8271 := HS.trans h8263 h8270 (by decide)
              have xP8274 := oP8274
              unfold OKP at xP8274
              unfold RA at rP8274
              rcases c8273 with ⟨n8275, gn8275, hn8275, rfl⟩ | ⟨h8276, rfl⟩
              · refine r_iast F (g' := (⟨T, 0, u, h, P8274, L⟩ : RG)) (len := 8) (j := 4 + P8009.n5) e_X10_readLease_133 h8271 (fun _ h => h) (fun f h => ⟨f, rfl, h⟩) (by decide) (by decide) (nI_clamp (by omega)) (vp_in_nI (by omega) (by decide)) ⟨n8275, by omega, rfl⟩ (fun _ _ _ h => h) (fun _ _ _ h => h) (fun σ8277 h8278 g8279 f8280 g8281 => ?_)
                refine m_aload_n F rfl e_X10_readLease_134 ?_
                refine r_get F e_X10_readLease_135 fl_X10_28 h8278 rfl (fun v hv f8282 => ?_)
                obtain rfl : v = .ref (c + 7) := hv
                refine m_iload_n F rfl e_X10_readLease_138 ?_
                refine m_iconst F (v := 0) (by decide) e_X10_readLease_139 ?_
                refine r_iast F (g' := (⟨T, 0, u, h, P8274, L⟩ : RG)) (len := 8) (j := 4 + P8009.n5) e_X10_readLease_140 h8278 (fun _ h => h) (fun f h => ⟨f, rfl, h⟩) (by decide) (by decide) (nI_clamp (by omega)) (vp_in_nI (by omega) (by decide)) trivial (fun _ _ _ h => h) (fun _ _ _ h => h) (fun σ8283 h8284 g8285 f8286 g8287 => ?_)
                refine m_aload_n F rfl e_X10_readLease_141 ?_
                refine r_get F e_X10_readLease_142 fl_X10_31 h8284 rfl (fun v hv f8288 => ?_)
                obtain rfl : v = .ref (c + 8) := hv
                refine m_iload_n F rfl e_X10_readLease_145 ?_
                refine m_iconst F (v := 0) (by decide) e_X10_readLease_146 ?_
                refine r_iast F (g' := (⟨T, 0, u, h, P8274, L⟩ : RG)) (len := 8) (j := 4 + P8009.n5) e_X10_readLease_147 h8284 (fun _ h => h) (fun f h => ⟨f, rfl, h⟩) (by decide) (by decide) (nI_clamp (by omega)) (vp_in_nI (by omega) (by decide)) trivial (fun _ _ _ h => h) (fun _ _ _ h => h) (fun σ8289 h8290 g8291 f8292 g8293 => ?_)
                refine m_aload_n F rfl e_X10_readLease_148 ?_
                refine r_get F e_X10_readLease_149 fl_X10_34 h8290 rfl (fun v hv f8294 => ?_)
                obtain rfl : v = .ref (c + 9) := hv
                refine m_iload_n F rfl e_X10_readLease_152 ?_
                refine m_iconst F (v := 0) (by decide) e_X10_readLease_153 ?_
                refine r_iast F (g' := (⟨T, 0, u, h, P8274, L⟩ : RG)) (len := 8) (j := 4 + P8009.n5) e_X10_readLease_154 h8290 (fun _ h => h) (fun f h => ⟨f, rfl, h⟩) (by decide) (by decide) (nI_clamp (by omega)) (vp_in_nI (by omega) (by decide)) trivial (fun _ _ _ h => h) (fun _ _ _ h => h) (fun σ8295 h8296 g8297 f8298 g8299 => ?_)
                refine m_iconst F (v := 0) (by decide) e_X10_readLease_155 ?_
                refine m_istore_n F (lv' := [(2, .int 0), (1, .int (nI (4 + P8009.n5))), (0, .ref c)]) e_X10_readLease_156 (by decide) rfl ?_
                refine Wm.lvsub (lv' := [(0, .ref c), (1, .int (nI (4 + P8009.n5))), (2, .int 0)]) ?_ [2, 1, 0] rfl
                exact lq_X10_readLease_157 F hQ hob hP  (48 - 0 + 1) (4 + P8009.n5) 0 P8274 _ ⟨HR.mono (Z' := Z) (by intro e9; first | rfl | assumption | omega) h8296.1, h8296.2⟩ oP8274 (by unfold RP; omega) (by omega) (Nat.lt_succ_self _)
              · have h8300 : HS V c (⟨T, 0, u, h, P8274, L⟩ : RG) [0, 2, 12, 13, 14, 15, 16, 17, 18, 19, 20, 21, 22, 23] _ _ := ⟨h8276, h8271.2⟩
                refine r_iast F (g' := (⟨T, 0, u, h, P8274, L⟩ : RG)) (len := 8) (j := 4 + P8009.n5) e_X10_readLease_133 h8300 (fun _ h => h) (fun f h => ⟨f, rfl, h⟩) (by decide) (by decide) (nI_clamp (by omega)) (vp_in_nI (by omega) (by decide)) ⟨0, by omega, rfl⟩ (fun _ _ _ h => h) (fun _ _ _ h => h) (fun σ8301 h8302 g8303 f8304 g8305 => ?_)
                refine m_aload_n F rfl e_X10_readLease_134 ?_
                refine r_get F e_X10_readLease_135 fl_X10_28 h8302 rfl (fun v hv f8306 => ?_)
                obtain rfl : v = .ref (c + 7) := hv
                refine m_iload_n F rfl e_X10_readLease_138 ?_
                refine m_iconst F (v := 0) (by decide) e_X10_readLease_139 ?_
                refine r_iast F (g' := (⟨T, 0, u, h, P8274, L⟩ : RG)) (len := 8) (j := 4 + P8009.n5) e_X10_readLease_140 h8302 (fun _ h => h) (fun f h => ⟨f, rfl, h⟩) (by decide) (by decide) (nI_clamp (by omega)) (vp_in_nI (by omega) (by decide)) trivial (fun _ _ _ h => h) (fun _ _ _ h => h) (fun σ8307 h8308 g8309 f8310 g8311 => ?_)
                refine m_aload_n F rfl e_X10_readLease_141 ?_
                refine r_get F e_X10_readLease_142 fl_X10_31 h8308 rfl (fun v hv f8312 => ?_)
                obtain rfl : v = .ref (c + 8) := hv
                refine m_iload_n F rfl e_X10_readLease_145 ?_
                refine m_iconst F (v := 0) (by decide) e_X10_readLease_146 ?_
                refine r_iast F (g' := (⟨T, 0, u, h, P8274, L⟩ : RG)) (len := 8) (j := 4 + P8009.n5) e_X10_readLease_147 h8308 (fun _ h => h) (fun f h => ⟨f, rfl, h⟩) (by decide) (by decide) (nI_clamp (by omega)) (vp_in_nI (by omega) (by decide)) trivial (fun _ _ _ h => h) (fun _ _ _ h => h) (fun σ8313 h8314 g8315 f8316 g8317 => ?_)
                refine m_aload_n F rfl e_X10_readLease_148 ?_
                refine r_get F e_X10_readLease_149 fl_X10_34 h8314 rfl (fun v hv f8318 => ?_)
                obtain rfl : v = .ref (c + 9) := hv
                refine m_iload_n F rfl e_X10_readLease_152 ?_
                refine m_iconst F (v := 0) (by decide) e_X10_readLease_153 ?_
                refine r_iast F (g' := (⟨T, 0, u, h, P8274, L⟩ : RG)) (len := 8) (j := 4 + P8009.n5) e_X10_readLease_154 h8314 (fun _ h => h) (fun f h => ⟨f, rfl, h⟩) (by decide) (by decide) (nI_clamp (by omega)) (vp_in_nI (by omega) (by decide)) trivial (fun _ _ _ h => h) (fun _ _ _ h => h) (fun σ8319 h8320 g8321 f8322 g8323 => ?_)
                refine m_iconst F (v := 0) (by decide) e_X10_readLease_155 ?_
                refine m_istore_n F (lv' := [(2, .int 0), (1, .int (nI (4 + P8009.n5))), (0, .ref c)]) e_X10_readLease_156 (by decide) rfl ?_
                refine Wm.lvsub (lv' := [(0, .ref c), (1, .int (nI (4 + P8009.n5))), (2, .int 0)]) ?_ [2, 1, 0] rfl
                exact lq_X10_readLease_157 F hQ hob hP  (48 - 0 + 1) (4 + P8009.n5) 0 P8274 _ ⟨HR.mono (Z' := Z) (by intro e9; first | rfl | assumption | omega) h8320.1, h8320.2⟩ oP8274 (by unfold RP; omega) (by omega) (Nat.lt_succ_self _)
        · refine m_iconst F (v := (-1)) (by decide) e_X10_readLease_56 ?_
          refine m_icmp_eq F e_X10_readLease_57 (fun q57 => ?_) (fun q57 => ?_)
          · refine m_aload_n F rfl e_X10_readLease_65 ?_
            refine r_getC F e_X10_readLease_66 fl_X10_141 h8022 ((fld_eq (h8021.2 c (by rw [show kC c c = 1 from kC_at (k := 0) (by decide)]; decide))).trans ((fld_eq (h8016.2 c (by rw [show kC c c = 1 from kC_at (k := 0) (by decide)]; decide))).trans f8011)) ?_
            refine m_if_eq F e_X10_readLease_69 (fun _ => ?_) (fun q => absurd (by decide) q)
            refine m_iconst F (v := 4) (by decide) e_X10_readLease_73 ?_
            refine m_aload_n F rfl e_X10_readLease_74 ?_
            refine m_iconst F (v := 0) (by decide) e_X10_readLease_75 ?_
            refine r_callV F e_X10_readLease_76 (q_X10_reading0 (x_l X) V c T Z u h P8009 L _ _  h8022.1 (hob) oP8009 ) cb_X10_reading ml_X10_157 im_X10_reading se_X10_reading h8022 rfl rfl (rest := [.int 4]) rfl (Nat.le_of_ble_eq_true rfl) ⟨Nat.le_of_ble_eq_true rfl, Nat.le_of_ble_eq_true rfl⟩ ⟨Nat.le_of_ble_eq_true rfl, Nat.le_of_ble_eq_true rfl⟩ (fun r σ8324 hp => ?_)
            obtain ⟨h8325, rfl⟩ := hp
            have h8326 := HS.trans h8022 h8325 (by decide)
            refine m_iadd F e_X10_readLease_79 ?_
            refine Wm.topE (w := nI (4 + P8009.n5)) (nI_add 4 P8009.n5) ?_
            refine m_istore_n F (lv' := [(1, .int (nI (4 + P8009.n5))), (0, .ref c)]) e_X10_readLease_80 (by decide) rfl ?_
            refine m_aload_n F rfl e_X10_readLease_81 ?_
            refine r_get F e_X10_readLease_82 fl_X10_16 h8326 rfl (fun v hv f8327 => ?_)
            obtain rfl : v = .ref (c + 3) := hv
            refine m_iload_n F rfl e_X10_readLease_85 ?_
            refine m_aload_n F rfl e_X10_readLease_86 ?_
            refine r_getC F e_X10_readLease_87 fl_X10_120 h8326 ((fld_eq (h8325.2 c (by rw [show kC c c = 1 from kC_at (k := 0) (by decide)]; decide))).trans ((fld_eq (h8021.2 c (by rw [show kC c c = 1 from kC_at (k := 0) (by decide)]; decide))).trans f8018)) ?_
            refine r_iast F (g' := (⟨T, Z, u, h, P8009, L⟩ : RG)) (len := 8) (j := 4 + P8009.n5) e_X10_readLease_90 h8326 (fun _ h => h) (fun f h => ⟨f, rfl, h⟩) (by decide) (by decide) (nI_clamp (by omega)) (vp_in_nI (by omega) (by decide)) trivial (fun _ _ _ h => h) (fun _ _ _ h => h) (fun σ8328 h8329 g8330 f8331 g8332 => ?_)
            refine m_aload_n F rfl e_X10_readLease_91 ?_
            refine r_callV F e_X10_readLease_92 (q_X10_token (x_l X) V c T Z u h P8009 L _ _  h8329.1 (hob) oP8009 ) cb_X10_token ml_X10_147 im_X10_token se_X10_token h8329 rfl rfl (rest := []) rfl (Nat.le_of_ble_eq_true rfl) ⟨Nat.le_of_ble_eq_true rfl, Nat.le_of_ble_eq_true rfl⟩ ⟨Nat.le_of_ble_eq_true rfl, Nat.le_of_ble_eq_true rfl⟩ (fun r σ8333 hp => ?_)
            obtain ⟨P8336, oP8336, rP8336, pr8337, h8334, rfl⟩ := hp
            have h8335 := HS.trans h8329 h8334 (by decide)
            have xP8336 := oP8336
            unfold OKP at xP8336
            unfold RA at rP8336
            refine m_aload_n F rfl e_X10_readLease_95 ?_
            refine r_get F e_X10_readLease_96 fl_X10_19 h8335 rfl (fun v hv f8338 => ?_)
            obtain rfl : v = .ref (c + 4) := hv
            refine m_iload_n F rfl e_X10_readLease_99 ?_
            refine m_aload_n F rfl e_X10_readLease_100 ?_
            refine m_iconst F (v := 0) (by decide) e_X10_readLease_101 ?_
            refine m_bipush F (v := 20) (by decide) e_X10_readLease_102 ?_
            refine r_callV F e_X10_readLease_104 (q_X10_numeral (x_l X) V c T Z u h P8336 L _ _ 0 20 h8335.1 (hob) oP8336 (by omega) (by omega)) cb_X10_numeral ml_X10_165 im_X10_numeral se_X10_numeral h8335 rfl rfl (rest := [.int (nI (4 + P8009.n5)), .ref (c + 4)]) rfl (Nat.le_of_ble_eq_true rfl) ⟨Nat.le_of_ble_eq_true rfl, Nat.le_of_ble_eq_true rfl⟩ ⟨Nat.le_of_ble_eq_true rfl, Nat.le_of_ble_eq_true rfl⟩ (fun r σ8339 hp => ?_)
            obtain ⟨P8343, oP8343, rP8343, h8340, c8342⟩ := hp
            have h8341 := HS.trans h8335 h8340 (by decide)
            have xP8343 := oP8343
            unfold OKP at xP8343
            unfold RA at rP8343
            rcases c8342 with ⟨n8344, gn8344, hn8344, rfl⟩ | ⟨h8345, rfl⟩
            · refine r_iast F (g' := (⟨T, Z, u, h, P8343, L⟩ : RG)) (len := 8) (j := 4 + P8009.n5) e_X10_readLease_107 h8341 (fun _ h => h) (fun f h => ⟨f, rfl, h⟩) (by decide) (by decide) (nI_clamp (by omega)) (vp_in_nI (by omega) (by decide)) trivial (fun _ _ _ h => h) (fun _ _ _ h => h) (fun σ8346 h8347 g8348 f8349 g8350 => ?_)
              refine m_aload_n F rfl e_X10_readLease_108 ?_
              refine r_get F e_X10_readLease_109 fl_X10_22 h8347 rfl (fun v hv f8351 => ?_)
              obtain rfl : v = .ref (c + 5) := hv
              refine m_iload_n F rfl e_X10_readLease_112 ?_
              refine m_aload_n F rfl e_X10_readLease_113 ?_
              refine m_iconst F (v := 1) (by decide) e_X10_readLease_114 ?_
              refine m_bipush F (v := 48) (by decide) e_X10_readLease_115 ?_
              refine r_callV F e_X10_readLease_117 (q_X10_numeral (x_l X) V c T Z u h P8343 L _ _ 1 48 h8347.1 (hob) oP8343 (by omega) (by omega)) cb_X10_numeral ml_X10_165 im_X10_numeral se_X10_numeral h8347 rfl rfl (rest := [.int (nI (4 + P8009.n5)), .ref (c + 5)]) rfl (Nat.le_of_ble_eq_true rfl) ⟨Nat.le_of_ble_eq_true rfl, Nat.le_of_ble_eq_true rfl⟩ ⟨Nat.le_of_ble_eq_true rfl, Nat.le_of_ble_eq_true rfl⟩ (fun r σ8352 hp => ?_)
              obtain ⟨P8356, oP8356, rP8356, h8353, c8355⟩ := hp
              have h8354 := HS.trans h8347 h8353 (by decide)
              have xP8356 := oP8356
              unfold OKP at xP8356
              unfold RA at rP8356
              rcases c8355 with ⟨n8357, gn8357, hn8357, rfl⟩ | ⟨h8358, rfl⟩
              · refine r_iast F (g' := (⟨T, Z, u, h, (mkP P8356.n0 P8356.n2 P8356.n5 P8356.n7 P8356.m0 (P8356.n5 + 1) P8356.w2 P8356.w7 P8356.kk P8356.a), L⟩ : RG)) (len := 8) (j := 4 + P8009.n5) e_X10_readLease_120 h8354 (fun _ h => h) (fun f h => ⟨f, rfl, h⟩) (by decide) (by decide) (nI_clamp (by omega)) (vp_in_nI (by omega) (by decide)) ⟨n8357, by omega, rfl, fun h7 _ => absurd h7 (by omega), fun _ _ => by omega⟩ (fun i hi y hy => by obtain ⟨n9, a9, b9, c9, d9⟩ := hy; exact ⟨n9, a9, b9, c9, fun h7 h8 => d9 h7 (show i < 4 + P8356.m5 by have h6 : i < 4 + (P8356.n5 + 1) := h8; omega)⟩) (CR.chg (by intro k hk i x h; unfold EI at h ⊢; split at h <;> first | exact h | exact absurd rfl hk | trivial) rfl rfl) (fun σ8359 h8360 g8361 f8362 g8363 => ?_)
                obtain ⟨P8364, eP8364⟩ : ∃ P9, P9 = (mkP P8356.n0 P8356.n2 P8356.n5 P8356.n7 P8356.m0 (P8356.n5 + 1) P8356.w2 P8356.w7 P8356.kk P8356.a) := ⟨_, rfl⟩
                rw [← eP8364] at h8360
                have fP8364 : P8364.n0 = P8356.n0 ∧ P8364.n2 = P8356.n2 ∧ P8364.n5 = P8356.n5 ∧ P8364.n7 = P8356.n7 ∧ P8364.m0 = P8356.m0 ∧ P8364.m5 = P8356.n5 + 1 ∧ P8364.w2 = P8356.w2 ∧ P8364.w7 = P8356.w7 ∧ P8364.kk = P8356.kk ∧ P8364.a = P8356.a := by rw [eP8364]; exact ⟨rfl, rfl, rfl, rfl, rfl, rfl, rfl, rfl, rfl, rfl⟩
                refine m_aload_n F rfl e_X10_readLease_121 ?_
                refine r_get F e_X10_readLease_122 fl_X10_25 h8360 rfl (fun v hv f8365 => ?_)
                obtain rfl : v = .ref (c + 6) := hv
                refine m_iload_n F rfl e_X10_readLease_125 ?_
                refine m_aload_n F rfl e_X10_readLease_126 ?_
                refine m_iconst F (v := 0) (by decide) e_X10_readLease_127 ?_
                refine m_ldc F kc_X10_169 e_X10_readLease_128 ?_
                have oP8369 : OKP P8364 := by unfold OKP; omega
                refine r_callV F e_X10_readLease_130 (q_X10_numeral (x_l X) V c T Z u h P8364 L _ _ 0 200000 h8360.1 (hob) oP8369 (by omega) (by omega)) cb_X10_numeral ml_X10_165 im_X10_numeral se_X10_numeral h8360 rfl rfl (rest := [.int (nI (4 + P8009.n5)), .ref (c + 6)]) rfl (Nat.le_of_ble_eq_true rfl) ⟨Nat.le_of_ble_eq_true rfl, Nat.le_of_ble_eq_true rfl⟩ ⟨Nat.le_of_ble_eq_true rfl, Nat.le_of_ble_eq_true rfl⟩ (fun r σ8366 hp => ?_)
                obtain ⟨P8371, oP8371, rP8371, h8367, c8370⟩ := hp
                have h8368 := HS.trans h8360 h8367 (by decide)
                have xP8371 := oP8371
                unfold OKP at xP8371
                unfold RA at rP8371
                rcases c8370 with ⟨n8372, gn8372, hn8372, rfl⟩ | ⟨h8373, rfl⟩
                · refine r_iast F (g' := (⟨T, Z, u, h, P8371, L⟩ : RG)) (len := 8) (j := 4 + P8009.n5) e_X10_readLease_133 h8368 (fun _ h => h) (fun f h => ⟨f, rfl, h⟩) (by decide) (by decide) (nI_clamp (by omega)) (vp_in_nI (by omega) (by decide)) ⟨n8372, by omega, rfl⟩ (fun _ _ _ h => h) (fun _ _ _ h => h) (fun σ8374 h8375 g8376 f8377 g8378 => ?_)
                  refine m_aload_n F rfl e_X10_readLease_134 ?_
                  refine r_get F e_X10_readLease_135 fl_X10_28 h8375 rfl (fun v hv f8379 => ?_)
                  obtain rfl : v = .ref (c + 7) := hv
                  refine m_iload_n F rfl e_X10_readLease_138 ?_
                  refine m_iconst F (v := 0) (by decide) e_X10_readLease_139 ?_
                  refine r_iast F (g' := (⟨T, Z, u, h, P8371, L⟩ : RG)) (len := 8) (j := 4 + P8009.n5) e_X10_readLease_140 h8375 (fun _ h => h) (fun f h => ⟨f, rfl, h⟩) (by decide) (by decide) (nI_clamp (by omega)) (vp_in_nI (by omega) (by decide)) trivial (fun _ _ _ h => h) (fun _ _ _ h => h) (fun σ8380 h8381 g8382 f8383 g8384 => ?_)
                  refine m_aload_n F rfl e_X10_readLease_141 ?_
                  refine r_get F e_X10_readLease_142 fl_X10_31 h8381 rfl (fun v hv f8385 => ?_)
                  obtain rfl : v = .ref (c + 8) := hv
                  refine m_iload_n F rfl e_X10_readLease_145 ?_
                  refine m_iconst F (v := 0) (by decide) e_X10_readLease_146 ?_
                  refine r_iast F (g' := (⟨T, Z, u, h, P8371, L⟩ : RG)) (len := 8) (j := 4 + P8009.n5) e_X10_readLease_147 h8381 (fun _ h => h) (fun f h => ⟨f, rfl, h⟩) (by decide) (by decide) (nI_clamp (by omega)) (vp_in_nI (by omega) (by decide)) trivial (fun _ _ _ h => h) (fun _ _ _ h => h) (fun σ8386 h8387 g8388 f8389 g8390 => ?_)
                  refine m_aload_n F rfl e_X10_readLease_148 ?_
                  refine r_get F e_X10_readLease_149 fl_X10_34 h8387 rfl (fun v hv f8391 => ?_)
                  obtain rfl : v = .ref (c + 9) := hv
                  refine m_iload_n F rfl e_X10_readLease_152 ?_
                  refine m_iconst F (v := 0) (by decide) e_X10_readLease_153 ?_
                  refine r_iast F (g' := (⟨T, Z, u, h, P8371, L⟩ : RG)) (len := 8) (j := 4 + P8009.n5) e_X10_readLease_154 h8387 (fun _ h => h) (fun f h => ⟨f, rfl, h⟩) (by decide) (by decide) (nI_clamp (by omega)) (vp_in_nI (by omega) (by decide)) trivial (fun _ _ _ h => h) (fun _ _ _ h => h) (fun σ8392 h8393 g8394 f8395 g8396 => ?_)
                  refine m_iconst F (v := 0) (by decide) e_X10_readLease_155 ?_
                  refine m_istore_n F (lv' := [(2, .int 0), (1, .int (nI (4 + P8009.n5))), (0, .ref c)]) e_X10_readLease_156 (by decide) rfl ?_
                  refine Wm.lvsub (lv' := [(0, .ref c), (1, .int (nI (4 + P8009.n5))), (2, .int 0)]) ?_ [2, 1, 0] rfl
                  exact lq_X10_readLease_157 F hQ hob hP  (48 - 0 + 1) (4 + P8009.n5) 0 P8371 _ h8393 oP8371 (by unfold RP; omega) (by omega) (Nat.lt_succ_self _)
                · have h8397 : HS V c (⟨T, 0, u, h, P8371, L⟩ : RG) [0, 2, 12, 13, 14, 15, 16, 17, 18, 19, 20, 21, 22, 23] _ _ := ⟨h8373, h8368.2⟩
                  refine r_iast F (g' := (⟨T, 0, u, h, P8371, L⟩ : RG)) (len := 8) (j := 4 + P8009.n5) e_X10_readLease_133 h8397 (fun _ h => h) (fun f h => ⟨f, rfl, h⟩) (by decide) (by decide) (nI_clamp (by omega)) (vp_in_nI (by omega) (by decide)) ⟨0, by omega, rfl⟩ (fun _ _ _ h => h) (fun _ _ _ h => h) (fun σ8398 h8399 g8400 f8401 g8402 => ?_)
                  refine m_aload_n F rfl e_X10_readLease_134 ?_
                  refine r_get F e_X10_readLease_135 fl_X10_28 h8399 rfl (fun v hv f8403 => ?_)
                  obtain rfl : v = .ref (c + 7) := hv
                  refine m_iload_n F rfl e_X10_readLease_138 ?_
                  refine m_iconst F (v := 0) (by decide) e_X10_readLease_139 ?_
                  refine r_iast F (g' := (⟨T, 0, u, h, P8371, L⟩ : RG)) (len := 8) (j := 4 + P8009.n5) e_X10_readLease_140 h8399 (fun _ h => h) (fun f h => ⟨f, rfl, h⟩) (by decide) (by decide) (nI_clamp (by omega)) (vp_in_nI (by omega) (by decide)) trivial (fun _ _ _ h => h) (fun _ _ _ h => h) (fun σ8404 h8405 g8406 f8407 g8408 => ?_)
                  refine m_aload_n F rfl e_X10_readLease_141 ?_
                  refine r_get F e_X10_readLease_142 fl_X10_31 h8405 rfl (fun v hv f8409 => ?_)
                  obtain rfl : v = .ref (c + 8) := hv
                  refine m_iload_n F rfl e_X10_readLease_145 ?_
                  refine m_iconst F (v := 0) (by decide) e_X10_readLease_146 ?_
                  refine r_iast F (g' := (⟨T, 0, u, h, P8371, L⟩ : RG)) (len := 8) (j := 4 + P8009.n5) e_X10_readLease_147 h8405 (fun _ h => h) (fun f h => ⟨f, rfl, h⟩) (by decide) (by decide) (nI_clamp (by omega)) (vp_in_nI (by omega) (by decide)) trivial (fun _ _ _ h => h) (fun _ _ _ h => h) (fun σ8410 h8411 g8412 f8413 g8414 => ?_)
                  refine m_aload_n F rfl e_X10_readLease_148 ?_
                  refine r_get F e_X10_readLease_149 fl_X10_34 h8411 rfl (fun v hv f8415 => ?_)
                  obtain rfl : v = .ref (c + 9) := hv
                  refine m_iload_n F rfl e_X10_readLease_152 ?_
                  refine m_iconst F (v := 0) (by decide) e_X10_readLease_153 ?_
                  refine r_iast F (g' := (⟨T, 0, u, h, P8371, L⟩ : RG)) (len := 8) (j := 4 + P8009.n5) e_X10_readLease_154 h8411 (fun _ h => h) (fun f h => ⟨f, rfl, h⟩) (by decide) (by decide) (nI_clamp (by omega)) (vp_in_nI (by omega) (by decide)) trivial (fun _ _ _ h => h) (fun _ _ _ h => h) (fun σ8416 h8417 g8418 f8419 g8420 => ?_)
                  refine m_iconst F (v := 0) (by decide) e_X10_readLease_155 ?_
                  refine m_istore_n F (lv' := [(2, .int 0), (1, .int (nI (4 + P8009.n5))), (0, .ref c)]) e_X10_readLease_156 (by decide) rfl ?_
                  refine Wm.lvsub (lv' := [(0, .ref c), (1, .int (nI (4 + P8009.n5))), (2, .int 0)]) ?_ [2, 1, 0] rfl
                  exact lq_X10_readLease_157 F hQ hob hP  (48 - 0 + 1) (4 + P8009.n5) 0 P8371 _ ⟨HR.mono (Z' := Z) (by intro e9; first | rfl | assumption | omega) h8417.1, h8417.2⟩ oP8371 (by unfold RP; omega) (by omega) (Nat.lt_succ_self _)
              · have h8421 : HS V c (⟨T, 0, u, h, P8356, L⟩ : RG) [0, 2, 12, 13, 14, 15, 16, 17, 18, 19, 20, 21, 22, 23] _ _ := ⟨h8358, h8354.2⟩
                refine r_iast F (g' := (⟨T, 0, u, h, (mkP P8356.n0 P8356.n2 P8356.n5 P8356.n7 P8356.m0 (P8356.n5 + 1) P8356.w2 P8356.w7 P8356.kk P8356.a), L⟩ : RG)) (len := 8) (j := 4 + P8009.n5) e_X10_readLease_120 h8421 (fun _ h => h) (fun f h => ⟨f, rfl, h⟩) (by decide) (by decide) (nI_clamp (by omega)) (vp_in_nI (by omega) (by decide)) ⟨1, by omega, rfl, fun h7 _ => absurd h7 (by omega), fun _ _ => by omega⟩ (fun i hi y hy => by obtain ⟨n9, a9, b9, c9, d9⟩ := hy; exact ⟨n9, a9, b9, c9, fun h7 h8 => d9 h7 (show i < 4 + P8356.m5 by have h6 : i < 4 + (P8356.n5 + 1) := h8; omega)⟩) (CR.chg (by intro k hk i x h; unfold EI at h ⊢; split at h <;> first | exact h | exact absurd rfl hk | trivial) rfl rfl) (fun σ8422 h8423 g8424 f8425 g8426 => ?_)
                obtain ⟨P8427, eP8427⟩ : ∃ P9, P9 = (mkP P8356.n0 P8356.n2 P8356.n5 P8356.n7 P8356.m0 (P8356.n5 + 1) P8356.w2 P8356.w7 P8356.kk P8356.a) := ⟨_, rfl⟩
                rw [← eP8427] at h8423
                have fP8427 : P8427.n0 = P8356.n0 ∧ P8427.n2 = P8356.n2 ∧ P8427.n5 = P8356.n5 ∧ P8427.n7 = P8356.n7 ∧ P8427.m0 = P8356.m0 ∧ P8427.m5 = P8356.n5 + 1 ∧ P8427.w2 = P8356.w2 ∧ P8427.w7 = P8356.w7 ∧ P8427.kk = P8356.kk ∧ P8427.a = P8356.a := by rw [eP8427]; exact ⟨rfl, rfl, rfl, rfl, rfl, rfl, rfl, rfl, rfl, rfl⟩
                refine m_aload_n F rfl e_X10_readLease_121 ?_
                refine r_get F e_X10_readLease_122 fl_X10_25 h8423 rfl (fun v hv f8428 => ?_)
                obtain rfl : v = .ref (c + 6) := hv
                refine m_iload_n F rfl e_X10_readLease_125 ?_
                refine m_aload_n F rfl e_X10_readLease_126 ?_
                refine m_iconst F (v := 0) (by decide) e_X10_readLease_127 ?_
                refine m_ldc F kc_X10_169 e_X10_readLease_128 ?_
                have oP8432 : OKP P8427 := by unfold OKP; omega
                refine r_callV F e_X10_readLease_130 (q_X10_numeral (x_l X) V c T 0 u h P8427 L _ _ 0 200000 h8423.1 (hob) oP8432 (by omega) (by omega)) cb_X10_numeral ml_X10_165 im_X10_numeral se_X10_numeral h8423 rfl rfl (rest := [.int (nI (4 + P8009.n5)), .ref (c + 6)]) rfl (Nat.le_of_ble_eq_true rfl) ⟨Nat.le_of_ble_eq_true rfl, Nat.le_of_ble_eq_true rfl⟩ ⟨Nat.le_of_ble_eq_true rfl, Nat.le_of_ble_eq_true rfl⟩ (fun r σ8429 hp => ?_)
                obtain ⟨P8434, oP8434, rP8434, h8430, c8433⟩ := hp
                have h8431 := HS.trans h8423 h8430 (by decide)
                have xP8434 := oP8434
                unfold OKP at xP8434
                unfold RA at rP8434
                rcases c8433 with ⟨n8435, gn8435, hn8435, rfl⟩ | ⟨h8436, rfl⟩
                · refine r_iast F (g' := (⟨T, 0, u, h, P8434, L⟩ : RG)) (len := 8) (j := 4 + P8009.n5) e_X10_readLease_133 h8431 (fun _ h => h) (fun f h => ⟨f, rfl, h⟩) (by decide) (by decide) (nI_clamp (by omega)) (vp_in_nI (by omega) (by decide)) ⟨n8435, by omega, rfl⟩ (fun _ _ _ h => h) (fun _ _ _ h => h) (fun σ8437 h8438 g8439 f8440 g8441 => ?_)
                  refine m_aload_n F rfl e_X10_readLease_134 ?_
                  refine r_get F e_X10_readLease_135 fl_X10_28 h8438 rfl (fun v hv f8442 => ?_)
                  obtain rfl : v = .ref (c + 7) := hv
                  refine m_iload_n F rfl e_X10_readLease_138 ?_
                  refine m_iconst F (v := 0) (by decide) e_X10_readLease_139 ?_
                  refine r_iast F (g' := (⟨T, 0, u, h, P8434, L⟩ : RG)) (len := 8) (j := 4 + P8009.n5) e_X10_readLease_140 h8438 (fun _ h => h) (fun f h => ⟨f, rfl, h⟩) (by decide) (by decide) (nI_clamp (by omega)) (vp_in_nI (by omega) (by decide)) trivial (fun _ _ _ h => h) (fun _ _ _ h => h) (fun σ8443 h8444 g8445 f8446 g8447 => ?_)
                  refine m_aload_n F rfl e_X10_readLease_141 ?_
                  refine r_get F e_X10_readLease_142 fl_X10_31 h8444 rfl (fun v hv f8448 => ?_)
                  obtain rfl : v = .ref (c + 8) := hv
                  refine m_iload_n F rfl e_X10_readLease_145 ?_
                  refine m_iconst F (v := 0) (by decide) e_X10_readLease_146 ?_
                  refine r_iast F (g' := (⟨T, 0, u, h, P8434, L⟩ : RG)) (len := 8) (j := 4 + P8009.n5) e_X10_readLease_147 h8444 (fun _ h => h) (fun f h => ⟨f, rfl, h⟩) (by decide) (by decide) (nI_clamp (by omega)) (vp_in_nI (by omega) (by decide)) trivial (fun _ _ _ h => h) (fun _ _ _ h => h) (fun σ8449 h8450 g8451 f8452 g8453 => ?_)
                  refine m_aload_n F rfl e_X10_readLease_148 ?_
                  refine r_get F e_X10_readLease_149 fl_X10_34 h8450 rfl (fun v hv f8454 => ?_)
                  obtain rfl : v = .ref (c + 9) := hv
                  refine m_iload_n F rfl e_X10_readLease_152 ?_
                  refine m_iconst F (v := 0) (by decide) e_X10_readLease_153 ?_
                  refine r_iast F (g' := (⟨T, 0, u, h, P8434, L⟩ : RG)) (len := 8) (j := 4 + P8009.n5) e_X10_readLease_154 h8450 (fun _ h => h) (fun f h => ⟨f, rfl, h⟩) (by decide) (by decide) (nI_clamp (by omega)) (vp_in_nI (by omega) (by decide)) trivial (fun _ _ _ h => h) (fun _ _ _ h => h) (fun σ8455 h8456 g8457 f8458 g8459 => ?_)
                  refine m_iconst F (v := 0) (by decide) e_X10_readLease_155 ?_
                  refine m_istore_n F (lv' := [(2, .int 0), (1, .int (nI (4 + P8009.n5))), (0, .ref c)]) e_X10_readLease_156 (by decide) rfl ?_
                  refine Wm.lvsub (lv' := [(0, .ref c), (1, .int (nI (4 + P8009.n5))), (2, .int 0)]) ?_ [2, 1, 0] rfl
                  exact lq_X10_readLease_157 F hQ hob hP  (48 - 0 + 1) (4 + P8009.n5) 0 P8434 _ ⟨HR.mono (Z' := Z) (by intro e9; first | rfl | assumption | omega) h8456.1, h8456.2⟩ oP8434 (by unfold RP; omega) (by omega) (Nat.lt_succ_self _)
                · have h8460 : HS V c (⟨T, 0, u, h, P8434, L⟩ : RG) [0, 2, 12, 13, 14, 15, 16, 17, 18, 19, 20, 21, 22, 23] _ _ := ⟨h8436, h8431.2⟩
                  refine r_iast F (g' := (⟨T, 0, u, h, P8434, L⟩ : RG)) (len := 8) (j := 4 + P8009.n5) e_X10_readLease_133 h8460 (fun _ h => h) (fun f h => ⟨f, rfl, h⟩) (by decide) (by decide) (nI_clamp (by omega)) (vp_in_nI (by omega) (by decide)) ⟨0, by omega, rfl⟩ (fun _ _ _ h => h) (fun _ _ _ h => h) (fun σ8461 h8462 g8463 f8464 g8465 => ?_)
                  refine m_aload_n F rfl e_X10_readLease_134 ?_
                  refine r_get F e_X10_readLease_135 fl_X10_28 h8462 rfl (fun v hv f8466 => ?_)
                  obtain rfl : v = .ref (c + 7) := hv
                  refine m_iload_n F rfl e_X10_readLease_138 ?_
                  refine m_iconst F (v := 0) (by decide) e_X10_readLease_139 ?_
                  refine r_iast F (g' := (⟨T, 0, u, h, P8434, L⟩ : RG)) (len := 8) (j := 4 + P8009.n5) e_X10_readLease_140 h8462 (fun _ h => h) (fun f h => ⟨f, rfl, h⟩) (by decide) (by decide) (nI_clamp (by omega)) (vp_in_nI (by omega) (by decide)) trivial (fun _ _ _ h => h) (fun _ _ _ h => h) (fun σ8467 h8468 g8469 f8470 g8471 => ?_)
                  refine m_aload_n F rfl e_X10_readLease_141 ?_
                  refine r_get F e_X10_readLease_142 fl_X10_31 h8468 rfl (fun v hv f8472 => ?_)
                  obtain rfl : v = .ref (c + 8) := hv
                  refine m_iload_n F rfl e_X10_readLease_145 ?_
                  refine m_iconst F (v := 0) (by decide) e_X10_readLease_146 ?_
                  refine r_iast F (g' := (⟨T, 0, u, h, P8434, L⟩ : RG)) (len := 8) (j := 4 + P8009.n5) e_X10_readLease_147 h8468 (fun _ h => h) (fun f h => ⟨f, rfl, h⟩) (by decide) (by decide) (nI_clamp (by omega)) (vp_in_nI (by omega) (by decide)) trivial (fun _ _ _ h => h) (fun _ _ _ h => h) (fun σ8473 h8474 g8475 f8476 g8477 => ?_)
                  refine m_aload_n F rfl e_X10_readLease_148 ?_
                  refine r_get F e_X10_readLease_149 fl_X10_34 h8474 rfl (fun v hv f8478 => ?_)
                  obtain rfl : v = .ref (c + 9) := hv
                  refine m_iload_n F rfl e_X10_readLease_152 ?_
                  refine m_iconst F (v := 0) (by decide) e_X10_readLease_153 ?_
                  refine r_iast F (g' := (⟨T, 0, u, h, P8434, L⟩ : RG)) (len := 8) (j := 4 + P8009.n5) e_X10_readLease_154 h8474 (fun _ h => h) (fun f h => ⟨f, rfl, h⟩) (by decide) (by decide) (nI_clamp (by omega)) (vp_in_nI (by omega) (by decide)) trivial (fun _ _ _ h => h) (fun _ _ _ h => h) (fun σ8479 h8480 g8481 f8482 g8483 => ?_)
                  refine m_iconst F (v := 0) (by decide) e_X10_readLease_155 ?_
                  refine m_istore_n F (lv' := [(2, .int 0), (1, .int (nI (4 + P8009.n5))), (0, .ref c)]) e_X10_readLease_156 (by decide) rfl ?_
                  refine Wm.lvsub (lv' := [(0, .ref c), (1, .int (nI (4 + P8009.n5))), (2, .int 0)]) ?_ [2, 1, 0] rfl
                  exact lq_X10_readLease_157 F hQ hob hP  (48 - 0 + 1) (4 + P8009.n5) 0 P8434 _ ⟨HR.mono (Z' := Z) (by intro e9; first | rfl | assumption | omega) h8480.1, h8480.2⟩ oP8434 (by unfold RP; omega) (by omega) (Nat.lt_succ_self _)
            · have h8484 : HS V c (⟨T, 0, u, h, P8343, L⟩ : RG) [0, 2, 12, 13, 14, 15, 16, 17, 18, 19, 20, 21, 22, 23] _ _ := ⟨h8345, h8341.2⟩
              refine r_iast F (g' := (⟨T, 0, u, h, P8343, L⟩ : RG)) (len := 8) (j := 4 + P8009.n5) e_X10_readLease_107 h8484 (fun _ h => h) (fun f h => ⟨f, rfl, h⟩) (by decide) (by decide) (nI_clamp (by omega)) (vp_in_nI (by omega) (by decide)) trivial (fun _ _ _ h => h) (fun _ _ _ h => h) (fun σ8485 h8486 g8487 f8488 g8489 => ?_)
              refine m_aload_n F rfl e_X10_readLease_108 ?_
              refine r_get F e_X10_readLease_109 fl_X10_22 h8486 rfl (fun v hv f8490 => ?_)
              obtain rfl : v = .ref (c + 5) := hv
              refine m_iload_n F rfl e_X10_readLease_112 ?_
              refine m_aload_n F rfl e_X10_readLease_113 ?_
              refine m_iconst F (v := 1) (by decide) e_X10_readLease_114 ?_
              refine m_bipush F (v := 48) (by decide) e_X10_readLease_115 ?_
              refine r_callV F e_X10_readLease_117 (q_X10_numeral (x_l X) V c T 0 u h P8343 L _ _ 1 48 h8486.1 (hob) oP8343 (by omega) (by omega)) cb_X10_numeral ml_X10_165 im_X10_numeral se_X10_numeral h8486 rfl rfl (rest := [.int (nI (4 + P8009.n5)), .ref (c + 5)]) rfl (Nat.le_of_ble_eq_true rfl) ⟨Nat.le_of_ble_eq_true rfl, Nat.le_of_ble_eq_true rfl⟩ ⟨Nat.le_of_ble_eq_true rfl, Nat.le_of_ble_eq_true rfl⟩ (fun r σ8491 hp => ?_)
              obtain ⟨P8495, oP8495, rP8495, h8492, c8494⟩ := hp
              have h8493 := HS.trans h8486 h8492 (by decide)
              have xP8495 := oP8495
              unfold OKP at xP8495
              unfold RA at rP8495
              rcases c8494 with ⟨n8496, gn8496, hn8496, rfl⟩ | ⟨h8497, rfl⟩
              · refine r_iast F (g' := (⟨T, 0, u, h, (mkP P8495.n0 P8495.n2 P8495.n5 P8495.n7 P8495.m0 (P8495.n5 + 1) P8495.w2 P8495.w7 P8495.kk P8495.a), L⟩ : RG)) (len := 8) (j := 4 + P8009.n5) e_X10_readLease_120 h8493 (fun _ h => h) (fun f h => ⟨f, rfl, h⟩) (by decide) (by decide) (nI_clamp (by omega)) (vp_in_nI (by omega) (by decide)) ⟨n8496, by omega, rfl, fun h7 _ => absurd h7 (by omega), fun _ _ => by omega⟩ (fun i hi y hy => by obtain ⟨n9, a9, b9, c9, d9⟩ := hy; exact ⟨n9, a9, b9, c9, fun h7 h8 => d9 h7 (show i < 4 + P8495.m5 by have h6 : i < 4 + (P8495.n5 + 1) := h8; omega)⟩) (CR.chg (by intro k hk i x h; unfold EI at h ⊢; split at h <;> first | exact h | exact absurd rfl hk | trivial) rfl rfl) (fun σ8498 h8499 g8500 f8501 g8502 => ?_)
                obtain ⟨P8503, eP8503⟩ : ∃ P9, P9 = (mkP P8495.n0 P8495.n2 P8495.n5 P8495.n7 P8495.m0 (P8495.n5 + 1) P8495.w2 P8495.w7 P8495.kk P8495.a) := ⟨_, rfl⟩
                rw [← eP8503] at h8499
                have fP8503 : P8503.n0 = P8495.n0 ∧ P8503.n2 = P8495.n2 ∧ P8503.n5 = P8495.n5 ∧ P8503.n7 = P8495.n7 ∧ P8503.m0 = P8495.m0 ∧ P8503.m5 = P8495.n5 + 1 ∧ P8503.w2 = P8495.w2 ∧ P8503.w7 = P8495.w7 ∧ P8503.kk = P8495.kk ∧ P8503.a = P8495.a := by rw [eP8503]; exact ⟨rfl, rfl, rfl, rfl, rfl, rfl, rfl, rfl, rfl, rfl⟩
                refine m_aload_n F rfl e_X10_readLease_121 ?_
                refine r_get F e_X10_readLease_122 fl_X10_25 h8499 rfl (fun v hv f8504 => ?_)
                obtain rfl : v = .ref (c + 6) := hv
                refine m_iload_n F rfl e_X10_readLease_125 ?_
                refine m_aload_n F rfl e_X10_readLease_126 ?_
                refine m_iconst F (v := 0) (by decide) e_X10_readLease_127 ?_
                refine m_ldc F kc_X10_169 e_X10_readLease_128 ?_
                have oP8508 : OKP P8503 := by unfold OKP; omega
                refine r_callV F e_X10_readLease_130 (q_X10_numeral (x_l X) V c T 0 u h P8503 L _ _ 0 200000 h8499.1 (hob) oP8508 (by omega) (by omega)) cb_X10_numeral ml_X10_165 im_X10_numeral se_X10_numeral h8499 rfl rfl (rest := [.int (nI (4 + P8009.n5)), .ref (c + 6)]) rfl (Nat.le_of_ble_eq_true rfl) ⟨Nat.le_of_ble_eq_true rfl, Nat.le_of_ble_eq_true rfl⟩ ⟨Nat.le_of_ble_eq_true rfl, Nat.le_of_ble_eq_true rfl⟩ (fun r σ8505 hp => ?_)
                obtain ⟨P8510, oP8510, rP8510, h8506, c8509⟩ := hp
                have h8507 := HS.trans h8499 h8506 (by decide)
                have xP8510 := oP8510
                unfold OKP at xP8510
                unfold RA at rP8510
                rcases c8509 with ⟨n8511, gn8511, hn8511, rfl⟩ | ⟨h8512, rfl⟩
                · refine r_iast F (g' := (⟨T, 0, u, h, P8510, L⟩ : RG)) (len := 8) (j := 4 + P8009.n5) e_X10_readLease_133 h8507 (fun _ h => h) (fun f h => ⟨f, rfl, h⟩) (by decide) (by decide) (nI_clamp (by omega)) (vp_in_nI (by omega) (by decide)) ⟨n8511, by omega, rfl⟩ (fun _ _ _ h => h) (fun _ _ _ h => h) (fun σ8513 h8514 g8515 f8516 g8517 => ?_)
                  refine m_aload_n F rfl e_X10_readLease_134 ?_
                  refine r_get F e_X10_readLease_135 fl_X10_28 h8514 rfl (fun v hv f8518 => ?_)
                  obtain rfl : v = .ref (c + 7) := hv
                  refine m_iload_n F rfl e_X10_readLease_138 ?_
                  refine m_iconst F (v := 0) (by decide) e_X10_readLease_139 ?_
                  refine r_iast F (g' := (⟨T, 0, u, h, P8510, L⟩ : RG)) (len := 8) (j := 4 + P8009.n5) e_X10_readLease_140 h8514 (fun _ h => h) (fun f h => ⟨f, rfl, h⟩) (by decide) (by decide) (nI_clamp (by omega)) (vp_in_nI (by omega) (by decide)) trivial (fun _ _ _ h => h) (fun _ _ _ h => h) (fun σ8519 h8520 g8521 f8522 g8523 => ?_)
                  refine m_aload_n F rfl e_X10_readLease_141 ?_
                  refine r_get F e_X10_readLease_142 fl_X10_31 h8520 rfl (fun v hv f8524 => ?_)
                  obtain rfl : v = .ref (c + 8) := hv
                  refine m_iload_n F rfl e_X10_readLease_145 ?_
                  refine m_iconst F (v := 0) (by decide) e_X10_readLease_146 ?_
                  refine r_iast F (g' := (⟨T, 0, u, h, P8510, L⟩ : RG)) (len := 8) (j := 4 + P8009.n5) e_X10_readLease_147 h8520 (fun _ h => h) (fun f h => ⟨f, rfl, h⟩) (by decide) (by decide) (nI_clamp (by omega)) (vp_in_nI (by omega) (by decide)) trivial (fun _ _ _ h => h) (fun _ _ _ h => h) (fun σ8525 h8526 g8527 f8528 g8529 => ?_)
                  refine m_aload_n F rfl e_X10_readLease_148 ?_
                  refine r_get F e_X10_readLease_149 fl_X10_34 h8526 rfl (fun v hv f8530 => ?_)
                  obtain rfl : v = .ref (c + 9) := hv
                  refine m_iload_n F rfl e_X10_readLease_152 ?_
                  refine m_iconst F (v := 0) (by decide) e_X10_readLease_153 ?_
                  refine r_iast F (g' := (⟨T, 0, u, h, P8510, L⟩ : RG)) (len := 8) (j := 4 + P8009.n5) e_X10_readLease_154 h8526 (fun _ h => h) (fun f h => ⟨f, rfl, h⟩) (by decide) (by decide) (nI_clamp (by omega)) (vp_in_nI (by omega) (by decide)) trivial (fun _ _ _ h => h) (fun _ _ _ h => h) (fun σ8531 h8532 g8533 f8534 g8535 => ?_)
                  refine m_iconst F (v := 0) (by decide) e_X10_readLease_155 ?_
                  refine m_istore_n F (lv' := [(2, .int 0), (1, .int (nI (4 + P8009.n5))), (0, .ref c)]) e_X10_readLease_156 (by decide) rfl ?_
                  refine Wm.lvsub (lv' := [(0, .ref c), (1, .int (nI (4 + P8009.n5))), (2, .int 0)]) ?_ [2, 1, 0] rfl
                  exact lq_X10_readLease_157 F hQ hob hP  (48 - 0 + 1) (4 + P8009.n5) 0 P8510 _ ⟨HR.mono (Z' := Z) (by intro e9; first | rfl | assumption | omega) h8532.1, h8532.2⟩ oP8510 (by unfold RP; omega) (by omega) (Nat.lt_succ_self _)
                · have h8536 : HS V c (⟨T, 0, u, h, P8510, L⟩ : RG) [0, 2, 12, 13, 14, 15, 16, 17, 18, 19, 20, 21, 22, 23] _ _ := ⟨h8512, h8507.2⟩
                  refine r_iast F (g' := (⟨T, 0, u, h, P8510, L⟩ : RG)) (len := 8) (j := 4 + P8009.n5) e_X10_readLease_133 h8536 (fun _ h => h) (fun f h => ⟨f, rfl, h⟩) (by decide) (by decide) (nI_clamp (by omega)) (vp_in_nI (by omega) (by decide)) ⟨0, by omega, rfl⟩ (fun _ _ _ h => h) (fun _ _ _ h => h) (fun σ8537 h8538 g8539 f8540 g8541 => ?_)
                  refine m_aload_n F rfl e_X10_readLease_134 ?_
                  refine r_get F e_X10_readLease_135 fl_X10_28 h8538 rfl (fun v hv f8542 => ?_)
                  obtain rfl : v = .ref (c + 7) := hv
                  refine m_iload_n F rfl e_X10_readLease_138 ?_
                  refine m_iconst F (v := 0) (by decide) e_X10_readLease_139 ?_
                  refine r_iast F (g' := (⟨T, 0, u, h, P8510, L⟩ : RG)) (len := 8) (j := 4 + P8009.n5) e_X10_readLease_140 h8538 (fun _ h => h) (fun f h => ⟨f, rfl, h⟩) (by decide) (by decide) (nI_clamp (by omega)) (vp_in_nI (by omega) (by decide)) trivial (fun _ _ _ h => h) (fun _ _ _ h => h) (fun σ8543 h8544 g8545 f8546 g8547 => ?_)
                  refine m_aload_n F rfl e_X10_readLease_141 ?_
                  refine r_get F e_X10_readLease_142 fl_X10_31 h8544 rfl (fun v hv f8548 => ?_)
                  obtain rfl : v = .ref (c + 8) := hv
                  refine m_iload_n F rfl e_X10_readLease_145 ?_
                  refine m_iconst F (v := 0) (by decide) e_X10_readLease_146 ?_
                  refine r_iast F (g' := (⟨T, 0, u, h, P8510, L⟩ : RG)) (len := 8) (j := 4 + P8009.n5) e_X10_readLease_147 h8544 (fun _ h => h) (fun f h => ⟨f, rfl, h⟩) (by decide) (by decide) (nI_clamp (by omega)) (vp_in_nI (by omega) (by decide)) trivial (fun _ _ _ h => h) (fun _ _ _ h => h) (fun σ8549 h8550 g8551 f8552 g8553 => ?_)
                  refine m_aload_n F rfl e_X10_readLease_148 ?_
                  refine r_get F e_X10_readLease_149 fl_X10_34 h8550 rfl (fun v hv f8554 => ?_)
                  obtain rfl : v = .ref (c + 9) := hv
                  refine m_iload_n F rfl e_X10_readLease_152 ?_
                  refine m_iconst F (v := 0) (by decide) e_X10_readLease_153 ?_
                  refine r_iast F (g' := (⟨T, 0, u, h, P8510, L⟩ : RG)) (len := 8) (j := 4 + P8009.n5) e_X10_readLease_154 h8550 (fun _ h => h) (fun f h => ⟨f, rfl, h⟩) (by decide) (by decide) (nI_clamp (by omega)) (vp_in_nI (by omega) (by decide)) trivial (fun _ _ _ h => h) (fun _ _ _ h => h) (fun σ8555 h8556 g8557 f8558 g8559 => ?_)
                  refine m_iconst F (v := 0) (by decide) e_X10_readLease_155 ?_
                  refine m_istore_n F (lv' := [(2, .int 0), (1, .int (nI (4 + P8009.n5))), (0, .ref c)]) e_X10_readLease_156 (by decide) rfl ?_
                  refine Wm.lvsub (lv' := [(0, .ref c), (1, .int (nI (4 + P8009.n5))), (2, .int 0)]) ?_ [2, 1, 0] rfl
                  exact lq_X10_readLease_157 F hQ hob hP  (48 - 0 + 1) (4 + P8009.n5) 0 P8510 _ ⟨HR.mono (Z' := Z) (by intro e9; first | rfl | assumption | omega) h8556.1, h8556.2⟩ oP8510 (by unfold RP; omega) (by omega) (Nat.lt_succ_self _)
              · have h8560 : HS V c (⟨T, 0, u, h, P8495, L⟩ : RG) [0, 2, 12, 13, 14, 15, 16, 17, 18, 19, 20, 21, 22, 23] _ _ := ⟨h8497, h8493.2⟩
                refine r_iast F (g' := (⟨T, 0, u, h, (mkP P8495.n0 P8495.n2 P8495.n5 P8495.n7 P8495.m0 (P8495.n5 + 1) P8495.w2 P8495.w7 P8495.kk P8495.a), L⟩ : RG)) (len := 8) (j := 4 + P8009.n5) e_X10_readLease_120 h8560 (fun _ h => h) (fun f h => ⟨f, rfl, h⟩) (by decide) (by decide) (nI_clamp (by omega)) (vp_in_nI (by omega) (by decide)) ⟨1, by omega, rfl, fun h7 _ => absurd h7 (by omega), fun _ _ => by omega⟩ (fun i hi y hy => by obtain ⟨n9, a9, b9, c9, d9⟩ := hy; exact ⟨n9, a9, b9, c9, fun h7 h8 => d9 h7 (show i < 4 + P8495.m5 by have h6 : i < 4 + (P8495.n5 + 1) := h8; omega)⟩) (CR.chg (by intro k hk i x h; unfold EI at h ⊢; split at h <;> first | exact h | exact absurd rfl hk | trivial) rfl rfl) (fun σ8561 h8562 g8563 f8564 g8565 => ?_)
                obtain ⟨P8566, eP8566⟩ : ∃ P9, P9 = (mkP P8495.n0 P8495.n2 P8495.n5 P8495.n7 P8495.m0 (P8495.n5 + 1) P8495.w2 P8495.w7 P8495.kk P8495.a) := ⟨_, rfl⟩
                rw [← eP8566] at h8562
                have fP8566 : P8566.n0 = P8495.n0 ∧ P8566.n2 = P8495.n2 ∧ P8566.n5 = P8495.n5 ∧ P8566.n7 = P8495.n7 ∧ P8566.m0 = P8495.m0 ∧ P8566.m5 = P8495.n5 + 1 ∧ P8566.w2 = P8495.w2 ∧ P8566.w7 = P8495.w7 ∧ P8566.kk = P8495.kk ∧ P8566.a = P8495.a := by rw [eP8566]; exact ⟨rfl, rfl, rfl, rfl, rfl, rfl, rfl, rfl, rfl, rfl⟩
                refine m_aload_n F rfl e_X10_readLease_121 ?_
                refine r_get F e_X10_readLease_122 fl_X10_25 h8562 rfl (fun v hv f8567 => ?_)
                obtain rfl : v = .ref (c + 6) := hv
                refine m_iload_n F rfl e_X10_readLease_125 ?_
                refine m_aload_n F rfl e_X10_readLease_126 ?_
                refine m_iconst F (v := 0) (by decide) e_X10_readLease_127 ?_
                refine m_ldc F kc_X10_169 e_X10_readLease_128 ?_
                have oP8571 : OKP P8566 := by unfold OKP; omega
                refine r_callV F e_X10_readLease_130 (q_X10_numeral (x_l X) V c T 0 u h P8566 L _ _ 0 200000 h8562.1 (hob) oP8571 (by omega) (by omega)) cb_X10_numeral ml_X10_165 im_X10_numeral se_X10_numeral h8562 rfl rfl (rest := [.int (nI (4 + P8009.n5)), .ref (c + 6)]) rfl (Nat.le_of_ble_eq_true rfl) ⟨Nat.le_of_ble_eq_true rfl, Nat.le_of_ble_eq_true rfl⟩ ⟨Nat.le_of_ble_eq_true rfl, Nat.le_of_ble_eq_true rfl⟩ (fun r σ8568 hp => ?_)
                obtain ⟨P8573, oP8573, rP8573, h8569, c8572⟩ := hp
                have h8570 := HS.trans h8562 h8569 (by decide)
                have xP8573 := oP8573
                unfold OKP at xP8573
                unfold RA at rP8573
                rcases c8572 with ⟨n8574, gn8574, hn8574, rfl⟩ | ⟨h8575, rfl⟩
                · refine r_iast F (g' := (⟨T, 0, u, h, P8573, L⟩ : RG)) (len := 8) (j := 4 + P8009.n5) e_X10_readLease_133 h8570 (fun _ h => h) (fun f h => ⟨f, rfl, h⟩) (by decide) (by decide) (nI_clamp (by omega)) (vp_in_nI (by omega) (by decide)) ⟨n8574, by omega, rfl⟩ (fun _ _ _ h => h) (fun _ _ _ h => h) (fun σ8576 h8577 g8578 f8579 g8580 => ?_)
                  refine m_aload_n F rfl e_X10_readLease_134 ?_
                  refine r_get F e_X10_readLease_135 fl_X10_28 h8577 rfl (fun v hv f8581 => ?_)
                  obtain rfl : v = .ref (c + 7) := hv
                  refine m_iload_n F rfl e_X10_readLease_138 ?_
                  refine m_iconst F (v := 0) (by decide) e_X10_readLease_139 ?_
                  refine r_iast F (g' := (⟨T, 0, u, h, P8573, L⟩ : RG)) (len := 8) (j := 4 + P8009.n5) e_X10_readLease_140 h8577 (fun _ h => h) (fun f h => ⟨f, rfl, h⟩) (by decide) (by decide) (nI_clamp (by omega)) (vp_in_nI (by omega) (by decide)) trivial (fun _ _ _ h => h) (fun _ _ _ h => h) (fun σ8582 h8583 g8584 f8585 g8586 => ?_)
                  refine m_aload_n F rfl e_X10_readLease_141 ?_
                  refine r_get F e_X10_readLease_142 fl_X10_31 h8583 rfl (fun v hv f8587 => ?_)
                  obtain rfl : v = .ref (c + 8) := hv
                  refine m_iload_n F rfl e_X10_readLease_145 ?_
                  refine m_iconst F (v := 0) (by decide) e_X10_readLease_146 ?_
                  refine r_iast F (g' := (⟨T, 0, u, h, P8573, L⟩ : RG)) (len := 8) (j := 4 + P8009.n5) e_X10_readLease_147 h8583 (fun _ h => h) (fun f h => ⟨f, rfl, h⟩) (by decide) (by decide) (nI_clamp (by omega)) (vp_in_nI (by omega) (by decide)) trivial (fun _ _ _ h => h) (fun _ _ _ h => h) (fun σ8588 h8589 g8590 f8591 g8592 => ?_)
                  refine m_aload_n F rfl e_X10_readLease_148 ?_
                  refine r_get F e_X10_readLease_149 fl_X10_34 h8589 rfl (fun v hv f8593 => ?_)
                  obtain rfl : v = .ref (c + 9) := hv
                  refine m_iload_n F rfl e_X10_readLease_152 ?_
                  refine m_iconst F (v := 0) (by decide) e_X10_readLease_153 ?_
                  refine r_iast F (g' := (⟨T, 0, u, h, P8573, L⟩ : RG)) (len := 8) (j := 4 + P8009.n5) e_X10_readLease_154 h8589 (fun _ h => h) (fun f h => ⟨f, rfl, h⟩) (by decide) (by decide) (nI_clamp (by omega)) (vp_in_nI (by omega) (by decide)) trivial (fun _ _ _ h => h) (fun _ _ _ h => h) (fun σ8594 h8595 g8596 f8597 g8598 => ?_)
                  refine m_iconst F (v := 0) (by decide) e_X10_readLease_155 ?_
                  refine m_istore_n F (lv' := [(2, .int 0), (1, .int (nI (4 + P8009.n5))), (0, .ref c)]) e_X10_readLease_156 (by decide) rfl ?_
                  refine Wm.lvsub (lv' := [(0, .ref c), (1, .int (nI (4 + P8009.n5))), (2, .int 0)]) ?_ [2, 1, 0] rfl
                  exact lq_X10_readLease_157 F hQ hob hP  (48 - 0 + 1) (4 + P8009.n5) 0 P8573 _ ⟨HR.mono (Z' := Z) (by intro e9; first | rfl | assumption | omega) h8595.1, h8595.2⟩ oP8573 (by unfold RP; omega) (by omega) (Nat.lt_succ_self _)
                · have h8599 : HS V c (⟨T, 0, u, h, P8573, L⟩ : RG) [0, 2, 12, 13, 14, 15, 16, 17, 18, 19, 20, 21, 22, 23] _ _ := ⟨h8575, h8570.2⟩
                  refine r_iast F (g' := (⟨T, 0, u, h, P8573, L⟩ : RG)) (len := 8) (j := 4 + P8009.n5) e_X10_readLease_133 h8599 (fun _ h => h) (fun f h => ⟨f, rfl, h⟩) (by decide) (by decide) (nI_clamp (by omega)) (vp_in_nI (by omega) (by decide)) ⟨0, by omega, rfl⟩ (fun _ _ _ h => h) (fun _ _ _ h => h) (fun σ8600 h8601 g8602 f8603 g8604 => ?_)
                  refine m_aload_n F rfl e_X10_readLease_134 ?_
                  refine r_get F e_X10_readLease_135 fl_X10_28 h8601 rfl (fun v hv f8605 => ?_)
                  obtain rfl : v = .ref (c + 7) := hv
                  refine m_iload_n F rfl e_X10_readLease_138 ?_
                  refine m_iconst F (v := 0) (by decide) e_X10_readLease_139 ?_
                  refine r_iast F (g' := (⟨T, 0, u, h, P8573, L⟩ : RG)) (len := 8) (j := 4 + P8009.n5) e_X10_readLease_140 h8601 (fun _ h => h) (fun f h => ⟨f, rfl, h⟩) (by decide) (by decide) (nI_clamp (by omega)) (vp_in_nI (by omega) (by decide)) trivial (fun _ _ _ h => h) (fun _ _ _ h => h) (fun σ8606 h8607 g8608 f8609 g8610 => ?_)
                  refine m_aload_n F rfl e_X10_readLease_141 ?_
                  refine r_get F e_X10_readLease_142 fl_X10_31 h8607 rfl (fun v hv f8611 => ?_)
                  obtain rfl : v = .ref (c + 8) := hv
                  refine m_iload_n F rfl e_X10_readLease_145 ?_
                  refine m_iconst F (v := 0) (by decide) e_X10_readLease_146 ?_
                  refine r_iast F (g' := (⟨T, 0, u, h, P8573, L⟩ : RG)) (len := 8) (j := 4 + P8009.n5) e_X10_readLease_147 h8607 (fun _ h => h) (fun f h => ⟨f, rfl, h⟩) (by decide) (by decide) (nI_clamp (by omega)) (vp_in_nI (by omega) (by decide)) trivial (fun _ _ _ h => h) (fun _ _ _ h => h) (fun σ8612 h8613 g8614 f8615 g8616 => ?_)
                  refine m_aload_n F rfl e_X10_readLease_148 ?_
                  refine r_get F e_X10_readLease_149 fl_X10_34 h8613 rfl (fun v hv f8617 => ?_)
                  obtain rfl : v = .ref (c + 9) := hv
                  refine m_iload_n F rfl e_X10_readLease_152 ?_
                  refine m_iconst F (v := 0) (by decide) e_X10_readLease_153 ?_
                  refine r_iast F (g' := (⟨T, 0, u, h, P8573, L⟩ : RG)) (len := 8) (j := 4 + P8009.n5) e_X10_readLease_154 h8613 (fun _ h => h) (fun f h => ⟨f, rfl, h⟩) (by decide) (by decide) (nI_clamp (by omega)) (vp_in_nI (by omega) (by decide)) trivial (fun _ _ _ h => h) (fun _ _ _ h => h) (fun σ8618 h8619 g8620 f8621 g8622 => ?_)
                  refine m_iconst F (v := 0) (by decide) e_X10_readLease_155 ?_
                  refine m_istore_n F (lv' := [(2, .int 0), (1, .int (nI (4 + P8009.n5))), (0, .ref c)]) e_X10_readLease_156 (by decide) rfl ?_
                  refine Wm.lvsub (lv' := [(0, .ref c), (1, .int (nI (4 + P8009.n5))), (2, .int 0)]) ?_ [2, 1, 0] rfl
                  exact lq_X10_readLease_157 F hQ hob hP  (48 - 0 + 1) (4 + P8009.n5) 0 P8573 _ ⟨HR.mono (Z' := Z) (by intro e9; first | rfl | assumption | omega) h8619.1, h8619.2⟩ oP8573 (by unfold RP; omega) (by omega) (Nat.lt_succ_self _)
          · refine m_aload_n F rfl e_X10_readLease_60 ?_
            refine m_iconst F (v := 3) (by decide) e_X10_readLease_61 ?_
            refine r_callV F e_X10_readLease_62 (q_X10_wrong (x_l X) V c T Z u h P8009 L _ _ 3 h8022.1 (hob) oP8009 (by first | omega | assumption | decide)) cb_X10_wrong ml_X10_150 im_X10_wrong se_X10_wrong h8022 rfl rfl (rest := []) rfl (Nat.le_of_ble_eq_true rfl) ⟨Nat.le_of_ble_eq_true rfl, Nat.le_of_ble_eq_true rfl⟩ ⟨Nat.le_of_ble_eq_true rfl, Nat.le_of_ble_eq_true rfl⟩ (fun r σ8623 hp => ?_)
            obtain ⟨h8624, rfl⟩ := hp
            have h8625 := HS.trans h8022 h8624 (by decide)
            refine m_aload_n F rfl e_X10_readLease_65 ?_
            refine r_get F e_X10_readLease_66 fl_X10_141 h8625 rfl (fun v hv f8626 => ?_)
            obtain ⟨x8627, hx8627, rfl⟩ := hv
            replace hx8627 : 0 = 0 → x8627 ≠ 0 := hx8627
            refine m_if_eq F e_X10_readLease_69 (fun q69 => ?_) (fun q69 => ?_)
            · first | exact absurd q69 (hx8627 rfl) | contradiction
            · have h8628 := HS.z0 h8625 (f8626) q69
              have h8629 : HS V c _ [0, 2, 12, 13, 14, 15, 16, 17, 18, 19, 20, 21, 22, 23] _ _ := ⟨HR.mono (Z' := Z) (by intro e; first | rfl | assumption | omega) h8628.1, h8628.2⟩
              exact m_vret F hQ e_X10_readLease_72 (⟨P8009, oP8009, (by unfold RP; omega), h8629, rfl⟩)
      · refine m_aload_n F rfl e_X10_readLease_34 ?_
        refine m_iconst F (v := 1) (by decide) e_X10_readLease_35 ?_
        refine r_callV F e_X10_readLease_36 (q_X10_wrong (x_l X) V c T Z u h P8009 L _ _ 1 h8008.1 (hob) oP8009 (by first | omega | assumption | decide)) cb_X10_wrong ml_X10_150 im_X10_wrong se_X10_wrong h8008 rfl rfl (rest := []) rfl (Nat.le_of_ble_eq_true rfl) ⟨Nat.le_of_ble_eq_true rfl, Nat.le_of_ble_eq_true rfl⟩ ⟨Nat.le_of_ble_eq_true rfl, Nat.le_of_ble_eq_true rfl⟩ (fun r σ8630 hp => ?_)
        obtain ⟨h8631, rfl⟩ := hp
        have h8632 := HS.trans h8008 h8631 (by decide)
        refine m_goto F e_X10_readLease_39 ?_
        refine m_aload_n F rfl e_X10_readLease_65 ?_
        refine r_get F e_X10_readLease_66 fl_X10_141 h8632 rfl (fun v hv f8633 => ?_)
        obtain ⟨x8634, hx8634, rfl⟩ := hv
        replace hx8634 : 0 = 0 → x8634 ≠ 0 := hx8634
        refine m_if_eq F e_X10_readLease_69 (fun q69 => ?_) (fun q69 => ?_)
        · first | exact absurd q69 (hx8634 rfl) | contradiction
        · have h8635 := HS.z0 h8632 (f8633) q69
          have h8636 : HS V c _ [0, 2, 12, 13, 14, 15, 16, 17, 18, 19, 20, 21, 22, 23] _ _ := ⟨HR.mono (Z' := Z) (by intro e; first | rfl | assumption | omega) h8635.1, h8635.2⟩
          exact m_vret F hQ e_X10_readLease_72 (⟨P8009, oP8009, (by unfold RP; omega), h8636, rfl⟩)
    · have h8637 := HS.z0 h8008 (f8011) q22
      have h8638 : HS V c _ [0, 2, 12, 13, 14, 15, 16, 17, 18, 19, 20, 21, 22, 23] _ _ := ⟨HR.mono (Z' := Z) (by intro e; first | rfl | assumption | omega) h8637.1, h8637.2⟩
      exact m_vret F hQ e_X10_readLease_25 (⟨P8009, oP8009, (by unfold RP; omega), h8638, rfl⟩)
  · have c6 : P.n5 = 4 := (nI_eq (a := P.n5) (b := 4) (by omega) (by omega)).mp q6
    refine m_aload_n F rfl e_X10_readLease_9 ?_
    refine m_iconst F (v := 2) (by decide) e_X10_readLease_10 ?_
    refine r_callV F e_X10_readLease_11 (q_X10_wrong (x_l X) V c T Z u h P L _ _ 2 h8005.1 (hob) hP (by first | omega | assumption | decide)) cb_X10_wrong ml_X10_150 im_X10_wrong se_X10_wrong h8005 rfl rfl (rest := []) rfl (Nat.le_of_ble_eq_true rfl) ⟨Nat.le_of_ble_eq_true rfl, Nat.le_of_ble_eq_true rfl⟩ ⟨Nat.le_of_ble_eq_true rfl, Nat.le_of_ble_eq_true rfl⟩ (fun r σ8639 hp => ?_)
    obtain ⟨h8640, rfl⟩ := hp
    have h8641 := HS.trans h8005 h8640 (by decide)
    refine m_aload_n F rfl e_X10_readLease_14 ?_
    refine r_callV F e_X10_readLease_15 (q_X10_goOn (x_l X) V c T 0 u h P L _ _  h8641.1 (hob) hP ) cb_X10_goOn ml_X10_154 im_X10_goOn se_X10_goOn h8641 rfl rfl (rest := []) rfl (Nat.le_of_ble_eq_true rfl) ⟨Nat.le_of_ble_eq_true rfl, Nat.le_of_ble_eq_true rfl⟩ ⟨Nat.le_of_ble_eq_true rfl, Nat.le_of_ble_eq_true rfl⟩ (fun r σ8642 hp => ?_)
    obtain ⟨P8645, oP8645, rP8645, pr8646, h8643, rfl⟩ := hp
    have h8644 := HS.trans h8641 h8643 (by decide)
    have xP8645 := oP8645
    unfold OKP at xP8645
    unfold RA at rP8645
    refine m_aload_n F rfl e_X10_readLease_18 ?_
    refine r_get F e_X10_readLease_19 fl_X10_141 h8644 rfl (fun v hv f8647 => ?_)
    obtain ⟨x8648, hx8648, rfl⟩ := hv
    replace hx8648 : 0 = 0 → x8648 ≠ 0 := hx8648
    refine m_if_eq F e_X10_readLease_22 (fun q22 => ?_) (fun q22 => ?_)
    · first | exact absurd q22 (hx8648 rfl) | contradiction
    · have h8649 := HS.z0 h8644 (f8647) q22
      have h8650 : HS V c _ [0, 2, 12, 13, 14, 15, 16, 17, 18, 19, 20, 21, 22, 23] _ _ := ⟨HR.mono (Z' := Z) (by intro e; first | rfl | assumption | omega) h8649.1, h8649.2⟩
      exact m_vret F hQ e_X10_readLease_25 (⟨P8645, oP8645, (by unfold RP; omega), h8650, rfl⟩)
set_option maxRecDepth 20000 in
theorem lq_X10_readPay_60 {V : VX} {X : MX} {N : Nat} {σ : Mem} {c T Z u h : Nat} {P : NP} {L : Nat → LQ}   (F : Fx V X yX10_readPay cX10_readPay 6 none (rmd 8 0 0)) (hQ : Rt V X 0 0 N (fun r τ => ∃ P9 : NP, OKP P9 ∧ RP P P9 ∧ HS V c (⟨T, Z, u, h, P9, L⟩ : RG) [0, 2, 4, 5, 6, 7, 8, 9, 10, 12, 13, 14, 15, 16, 17, 18, 19, 20, 21, 22, 23] σ τ ∧ r = none)) (hob : OKB L) (hP : OKP P)   : ∀ (fuel : Nat) (a : Nat) (b : Nat) (m1 : Int32) (k : Nat) (P1 : NP) (τ : Mem), HS V c (⟨T, Z, u, h, P1, L⟩ : RG) [0, 2, 4, 5, 6, 7, 8, 9, 10, 12, 13, 14, 15, 16, 17, 18, 19, 20, 21, 22, 23] σ τ → OKP P1 → RP P P1 → a ≤ 7 ∧ 1 ≤ k ∧ k ≤ 49 ∧ b ≤ 48 → 49 - k < fuel → Wm V X 6 N τ 0 0 60 [(0, .ref c), (1, .int (nI a)), (3, .int (nI b)), (4, .int m1), (5, .int (nI k))] [] := by
  intro fuel
  induction fuel with
  | zero => intros; rename_i hm; exact absurd hm (Nat.not_lt_zero _)
  | succ fuel ih =>
    intro a b m1 k P1 τ h1 hP1 hR1 hi hm
    have hPP := hP
    unfold OKP at hPP
    have hPP1 := hP1
    unfold OKP at hPP1
    unfold RP at hR1
    refine m_iload F rfl e_X10_readPay_60 ?_
    refine m_iload_n F rfl e_X10_readPay_62 ?_
    refine m_icmp_gt F e_X10_readPay_63 (fun q63 => ?_) (fun q63 => ?_)
    · have c63 : k > b := (nI_ltI (a := b) (b := k) (by omega) (by omega)).mp q63
      refine m_aload_n F rfl e_X10_readPay_91 ?_
      refine m_iconst F (v := 1) (by decide) e_X10_readPay_92 ?_
      refine m_aload_n F rfl e_X10_readPay_93 ?_
      refine m_iconst F (v := 1) (by decide) e_X10_readPay_94 ?_
      refine r_callV F e_X10_readPay_95 (q_X10_reading1 (x_l X) V c T Z u h P1 L _ _  h1.1 (hob) hP1 ) cb_X10_reading ml_X10_157 im_X10_reading se_X10_reading h1 rfl rfl (rest := [.int 1, .ref c]) rfl (Nat.le_of_ble_eq_true rfl) ⟨Nat.le_of_ble_eq_true rfl, Nat.le_of_ble_eq_true rfl⟩ ⟨Nat.le_of_ble_eq_true rfl, Nat.le_of_ble_eq_true rfl⟩ (fun r σ8651 hp => ?_)
      obtain ⟨h8652, x8654, rfl⟩ := hp
      have h8653 := HS.trans h1 h8652 (by decide)
      refine m_iconst F (v := 1) (by decide) e_X10_readPay_98 ?_
      refine m_iadd F e_X10_readPay_99 ?_
      refine Wm.top (fun x8655 _ => ?_)
      refine r_callV F e_X10_readPay_100 (q_X10_reads1 (x_l X) V c T Z u h P1 L _ _ x8655 h8653.1 (hob) hP1 ) cb_X10_reads ml_X10_170 im_X10_reads se_X10_reads h8653 rfl rfl (rest := []) rfl (Nat.le_of_ble_eq_true rfl) ⟨Nat.le_of_ble_eq_true rfl, Nat.le_of_ble_eq_true rfl⟩ ⟨Nat.le_of_ble_eq_true rfl, Nat.le_of_ble_eq_true rfl⟩ (fun r σ8656 hp => ?_)
      obtain ⟨h8657, rfl⟩ := hp
      have h8658 := HS.trans h8653 h8657 (by decide)
      exact m_vret F hQ e_X10_readPay_103 (⟨P1, hP1, (by unfold RP; omega), h8658, rfl⟩)
    · have c63 : k ≤ b := by have hh := mt (nI_ltI (a := b) (b := k) (by omega) (by omega)).mpr q63; omega
      refine m_aload_n F rfl e_X10_readPay_66 ?_
      refine r_get F e_X10_readPay_67 fl_X10_37 h1 rfl (fun v hv f8659 => ?_)
      obtain rfl : v = .ref (c + 10) := hv
      refine m_bipush F (v := 48) (by decide) e_X10_readPay_70 ?_
      refine m_iload_n F rfl e_X10_readPay_72 ?_
      refine m_imul F e_X10_readPay_73 ?_
      refine Wm.topE (w := nI (48 * a)) (pk_mul 48 a) ?_
      refine m_iload F rfl e_X10_readPay_74 ?_
      refine m_iadd F e_X10_readPay_76 ?_
      refine Wm.topE (w := nI ((48 * a) + k)) (nI_add (48 * a) k) ?_
      refine m_iconst F (v := 1) (by decide) e_X10_readPay_77 ?_
      refine m_isub F e_X10_readPay_78 ?_
      refine Wm.topE (w := nI (((48 * a) + k) - 1)) (pk_sub (a := (48 * a) + k) (b := 1) (by omega)) ?_
      refine m_dup2_11 F rfl rfl e_X10_readPay_79 ?_
      refine r_iald F (len := 384) (j := ((48 * a) + k) - 1) e_X10_readPay_80 h1 (fun _ h => h) (by decide) (nI_clamp (by omega)) (vp_in_nI (by omega) (by decide)) (fun x8660 h8661 f8662 => ?_)
      refine m_iload F rfl e_X10_readPay_81 ?_
      refine m_iadd F e_X10_readPay_83 ?_
      refine Wm.top (fun x8663 _ => ?_)
      refine r_iast F (g' := (⟨T, Z, u, h, P1, L⟩ : RG)) (len := 384) (j := ((48 * a) + k) - 1) e_X10_readPay_84 h1 (fun _ h => h) (fun f h => ⟨f, rfl, h⟩) (by decide) (by decide) (nI_clamp (by omega)) (vp_in_nI (by omega) (by decide)) trivial (fun _ _ _ h => h) (fun _ _ _ h => h) (fun σ8664 h8665 g8666 f8667 g8668 => ?_)
      refine m_iinc F (v := nI (k + 1)) (lv' := [(5, .int (nI (k + 1))), (0, .ref c), (1, .int (nI a)), (3, .int (nI b)), (4, .int m1)]) e_X10_readPay_85 rfl (nI_add k 1) (by decide) rfl ?_
      refine m_goto F e_X10_readPay_88 ?_
      refine Wm.lvsub (lv' := [(0, .ref c), (1, .int (nI a)), (3, .int (nI b)), (4, .int m1), (5, .int (nI (k + 1)))]) ?_ [1, 2, 3, 4, 0] rfl
      exact ih a b m1 (k + 1) P1 _ h8665 hP1 (by unfold RP; omega) (by omega) (by omega)
set_option maxRecDepth 20000 in
theorem q_X10_readPay (l : Launch) (V : VX) (c T Z u h : Nat) (P : NP) (L : Nat → LQ) (N : Nat) (σ : Mem)  (h0 : HR V c ⟨T, Z, u, h, P, L⟩ σ) (hob : OKB L) (hP : OKP P)  : Ct l V yX10_readPay cX10_readPay 6 none 8 0 0 N σ [.ref c] (fun r τ => ∃ P9 : NP, OKP P9 ∧ RP P P9 ∧ HS V c (⟨T, Z, u, h, P9, L⟩ : RG) [0, 2, 4, 5, 6, 7, 8, 9, 10, 12, 13, 14, 15, 16, 17, 18, 19, 20, 21, 22, 23] σ τ ∧ r = none) := by
  refine Ct.of (by decide) (Nat.le_of_ble_eq_true rfl) [(0, .ref c)] rfl (fun X hX F hQ => ?_)
  have hPP := hP
  unfold OKP at hPP
  have h1 : HS V c ⟨T, Z, u, h, P, L⟩ [0, 2, 4, 5, 6, 7, 8, 9, 10, 12, 13, 14, 15, 16, 17, 18, 19, 20, 21, 22, 23] σ σ := HS.start h0
  refine m_aload_n F rfl e_X10_readPay_0 ?_
  refine m_iconst F (v := 1) (by decide) e_X10_readPay_1 ?_
  refine r_callV F e_X10_readPay_2 (q_X10_reading1 (x_l X) V c T Z u h P L _ _  h1.1 (hob) hP ) cb_X10_reading ml_X10_157 im_X10_reading se_X10_reading h1 rfl rfl (rest := []) rfl (Nat.le_of_ble_eq_true rfl) ⟨Nat.le_of_ble_eq_true rfl, Nat.le_of_ble_eq_true rfl⟩ ⟨Nat.le_of_ble_eq_true rfl, Nat.le_of_ble_eq_true rfl⟩ (fun r σ8669 hp => ?_)
  obtain ⟨h8670, x8672, rfl⟩ := hp
  have h8671 := HS.trans h1 h8670 (by decide)
  refine m_bipush F (v := 12) (by decide) e_X10_readPay_5 ?_
  refine m_icmp_ne F e_X10_readPay_7 (fun q7 => ?_) (fun q7 => ?_)
  · refine m_aload_n F rfl e_X10_readPay_15 ?_
    refine r_callV F e_X10_readPay_16 (q_X10_atHand (x_l X) V c T Z u h P L _ _  h8671.1 (hob) hP ) cb_X10_atHand ml_X10_174 im_X10_atHand se_X10_atHand h8671 rfl rfl (rest := []) rfl (Nat.le_of_ble_eq_true rfl) ⟨Nat.le_of_ble_eq_true rfl, Nat.le_of_ble_eq_true rfl⟩ ⟨Nat.le_of_ble_eq_true rfl, Nat.le_of_ble_eq_true rfl⟩ (fun r σ8673 hp => ?_)
    obtain ⟨P8677, oP8677, rP8677, h8674, n8676, gn8676, hn8676, rfl⟩ := hp
    have h8675 := HS.trans h8671 h8674 (by decide)
    have xP8677 := oP8677
    unfold OKP at xP8677
    unfold RA at rP8677
    refine m_istore_n F (lv' := [(1, .int (nI n8676)), (0, .ref c)]) e_X10_readPay_19 (by decide) rfl ?_
    refine m_aload_n F rfl e_X10_readPay_20 ?_
    refine r_callV F e_X10_readPay_21 (q_X10_goOn (x_l X) V c T Z u h P8677 L _ _  h8675.1 (hob) oP8677 ) cb_X10_goOn ml_X10_154 im_X10_goOn se_X10_goOn h8675 rfl rfl (rest := []) rfl (Nat.le_of_ble_eq_true rfl) ⟨Nat.le_of_ble_eq_true rfl, Nat.le_of_ble_eq_true rfl⟩ ⟨Nat.le_of_ble_eq_true rfl, Nat.le_of_ble_eq_true rfl⟩ (fun r σ8678 hp => ?_)
    obtain ⟨P8681, oP8681, rP8681, pr8682, h8679, rfl⟩ := hp
    have h8680 := HS.trans h8675 h8679 (by decide)
    have xP8681 := oP8681
    unfold OKP at xP8681
    unfold RA at rP8681
    refine m_aload_n F rfl e_X10_readPay_24 ?_
    refine m_iconst F (v := 1) (by decide) e_X10_readPay_25 ?_
    refine m_bipush F (v := 48) (by decide) e_X10_readPay_26 ?_
    refine r_callV F e_X10_readPay_28 (q_X10_numeral (x_l X) V c T Z u h P8681 L _ _ 1 48 h8680.1 (hob) oP8681 (by omega) (by omega)) cb_X10_numeral ml_X10_165 im_X10_numeral se_X10_numeral h8680 rfl rfl (rest := []) rfl (Nat.le_of_ble_eq_true rfl) ⟨Nat.le_of_ble_eq_true rfl, Nat.le_of_ble_eq_true rfl⟩ ⟨Nat.le_of_ble_eq_true rfl, Nat.le_of_ble_eq_true rfl⟩ (fun r σ8683 hp => ?_)
    obtain ⟨P8687, oP8687, rP8687, h8684, c8686⟩ := hp
    have h8685 := HS.trans h8680 h8684 (by decide)
    have xP8687 := oP8687
    unfold OKP at xP8687
    unfold RA at rP8687
    rcases c8686 with ⟨n8688, gn8688, hn8688, rfl⟩ | ⟨h8689, rfl⟩
    · refine m_istore_n F (lv' := [(2, .int (nI n8688)), (1, .int (nI n8676)), (0, .ref c)]) e_X10_readPay_31 (by decide) rfl ?_
      refine m_aload_n F rfl e_X10_readPay_32 ?_
      refine m_iload_n F rfl e_X10_readPay_33 ?_
      refine m_bipush F (v := 48) (by decide) e_X10_readPay_34 ?_
      refine r_callV F e_X10_readPay_36 (q_X10_numeral (x_l X) V c T Z u h P8687 L _ _ n8688 48 h8685.1 (hob) oP8687 (by omega) (by omega)) cb_X10_numeral ml_X10_165 im_X10_numeral se_X10_numeral h8685 rfl rfl (rest := []) rfl (Nat.le_of_ble_eq_true rfl) ⟨Nat.le_of_ble_eq_true rfl, Nat.le_of_ble_eq_true rfl⟩ ⟨Nat.le_of_ble_eq_true rfl, Nat.le_of_ble_eq_true rfl⟩ (fun r σ8690 hp => ?_)
      obtain ⟨P8694, oP8694, rP8694, h8691, c8693⟩ := hp
      have h8692 := HS.trans h8685 h8691 (by decide)
      have xP8694 := oP8694
      unfold OKP at xP8694
      unfold RA at rP8694
      rcases c8693 with ⟨n8695, gn8695, hn8695, rfl⟩ | ⟨h8696, rfl⟩
      · refine m_istore_n F (lv' := [(3, .int (nI n8695)), (2, .int (nI n8688)), (1, .int (nI n8676)), (0, .ref c)]) e_X10_readPay_39 (by decide) rfl ?_
        refine m_aload_n F rfl e_X10_readPay_40 ?_
        refine m_iconst F (v := 0) (by decide) e_X10_readPay_41 ?_
        refine m_ldc F kc_X10_177 e_X10_readPay_42 ?_
        refine r_callV F e_X10_readPay_44 (q_X10_numeral (x_l X) V c T Z u h P8694 L _ _ 0 99999 h8692.1 (hob) oP8694 (by omega) (by omega)) cb_X10_numeral ml_X10_165 im_X10_numeral se_X10_numeral h8692 rfl rfl (rest := []) rfl (Nat.le_of_ble_eq_true rfl) ⟨Nat.le_of_ble_eq_true rfl, Nat.le_of_ble_eq_true rfl⟩ ⟨Nat.le_of_ble_eq_true rfl, Nat.le_of_ble_eq_true rfl⟩ (fun r σ8697 hp => ?_)
        obtain ⟨P8701, oP8701, rP8701, h8698, c8700⟩ := hp
        have h8699 := HS.trans h8692 h8698 (by decide)
        have xP8701 := oP8701
        unfold OKP at xP8701
        unfold RA at rP8701
        rcases c8700 with ⟨n8702, gn8702, hn8702, rfl⟩ | ⟨h8703, rfl⟩
        · refine m_istore F (lv' := [(4, .int (nI n8702)), (3, .int (nI n8695)), (2, .int (nI n8688)), (1, .int (nI n8676)), (0, .ref c)]) e_X10_readPay_47 (by decide) rfl ?_
          refine m_aload_n F rfl e_X10_readPay_49 ?_
          refine r_get F e_X10_readPay_50 fl_X10_141 h8699 rfl (fun v hv f8704 => ?_)
          obtain ⟨x8705, hx8705, rfl⟩ := hv
          replace hx8705 : Z = 0 → x8705 ≠ 0 := hx8705
          refine m_if_eq F e_X10_readPay_53 (fun q53 => ?_) (fun q53 => ?_)
          · subst q53
            refine m_iload_n F rfl e_X10_readPay_57 ?_
            refine m_istore F (lv' := [(5, .int (nI n8688)), (4, .int (nI n8702)), (3, .int (nI n8695)), (2, .int (nI n8688)), (1, .int (nI n8676)), (0, .ref c)]) e_X10_readPay_58 (by decide) rfl ?_
            refine Wm.lvsub (lv' := [(0, .ref c), (1, .int (nI n8676)), (3, .int (nI n8695)), (4, .int (nI n8702)), (5, .int (nI n8688))]) ?_ [5, 4, 2, 1, 0] rfl
            exact lq_X10_readPay_60 F hQ hob hP  (49 - n8688 + 1) n8676 n8695 (nI n8702) n8688 P8701 _ h8699 oP8701 (by unfold RP; omega) (by omega) (Nat.lt_succ_self _)
          · have h8706 := HS.z0 h8699 (f8704) q53
            have h8707 : HS V c _ [0, 2, 4, 5, 6, 7, 8, 9, 10, 12, 13, 14, 15, 16, 17, 18, 19, 20, 21, 22, 23] _ _ := ⟨HR.mono (Z' := Z) (by intro e; first | rfl | assumption | omega) h8706.1, h8706.2⟩
            exact m_vret F hQ e_X10_readPay_56 (⟨P8701, oP8701, (by unfold RP; omega), h8707, rfl⟩)
        · have h8708 : HS V c (⟨T, 0, u, h, P8701, L⟩ : RG) [0, 2, 4, 5, 6, 7, 8, 9, 10, 12, 13, 14, 15, 16, 17, 18, 19, 20, 21, 22, 23] _ _ := ⟨h8703, h8699.2⟩
          refine m_istore F (lv' := [(4, .int (nI 0)), (3, .int (nI n8695)), (2, .int (nI n8688)), (1, .int (nI n8676)), (0, .ref c)]) e_X10_readPay_47 (by decide) rfl ?_
          refine m_aload_n F rfl e_X10_readPay_49 ?_
          refine r_get F e_X10_readPay_50 fl_X10_141 h8708 rfl (fun v hv f8709 => ?_)
          obtain ⟨x8710, hx8710, rfl⟩ := hv
          replace hx8710 : 0 = 0 → x8710 ≠ 0 := hx8710
          refine m_if_eq F e_X10_readPay_53 (fun q53 => ?_) (fun q53 => ?_)
          · first | exact absurd q53 (hx8710 rfl) | contradiction
          · have h8711 := HS.z0 h8708 (f8709) q53
            have h8712 : HS V c _ [0, 2, 4, 5, 6, 7, 8, 9, 10, 12, 13, 14, 15, 16, 17, 18, 19, 20, 21, 22, 23] _ _ := ⟨HR.mono (Z' := Z) (by intro e; first | rfl | assumption | omega) h8711.1, h8711.2⟩
            exact m_vret F hQ e_X10_readPay_56 (⟨P8701, oP8701, (by unfold RP; omega), h8712, rfl⟩)
      · have h8713 : HS V c (⟨T, 0, u, h, P8694, L⟩ : RG) [0, 2, 4, 5, 6, 7, 8, 9, 10, 12, 13, 14, 15, 16, 17, 18, 19, 20, 21, 22, 23] _ _ := ⟨h8696, h8692.2⟩
        refine m_istore_n F (lv' := [(3, .int (nI n8688)), (2, .int (nI n8688)), (1, .int (nI n8676)), (0, .ref c)]) e_X10_readPay_39 (by decide) rfl ?_
        refine m_aload_n F rfl e_X10_readPay_40 ?_
        refine m_iconst F (v := 0) (by decide) e_X10_readPay_41 ?_
        refine m_ldc F kc_X10_177 e_X10_readPay_42 ?_
        refine r_callV F e_X10_readPay_44 (q_X10_numeral (x_l X) V c T 0 u h P8694 L _ _ 0 99999 h8713.1 (hob) oP8694 (by omega) (by omega)) cb_X10_numeral ml_X10_165 im_X10_numeral se_X10_numeral h8713 rfl rfl (rest := []) rfl (Nat.le_of_ble_eq_true rfl) ⟨Nat.le_of_ble_eq_true rfl, Nat.le_of_ble_eq_true rfl⟩ ⟨Nat.le_of_ble_eq_true rfl, Nat.le_of_ble_eq_true rfl⟩ (fun r σ8714 hp => ?_)
        obtain ⟨P8718, oP8718, rP8718, h8715, c8717⟩ := hp
        have h8716 := HS.trans h8713 h8715 (by decide)
        have xP8718 := oP8718
        unfold OKP at xP8718
        unfold RA at rP8718
        rcases c8717 with ⟨n8719, gn8719, hn8719, rfl⟩ | ⟨h8720, rfl⟩
        · refine m_istore F (lv' := [(4, .int (nI n8719)), (3, .int (nI n8688)), (2, .int (nI n8688)), (1, .int (nI n8676)), (0, .ref c)]) e_X10_readPay_47 (by decide) rfl ?_
          refine m_aload_n F rfl e_X10_readPay_49 ?_
          refine r_get F e_X10_readPay_50 fl_X10_141 h8716 rfl (fun v hv f8721 => ?_)
          obtain ⟨x8722, hx8722, rfl⟩ := hv
          replace hx8722 : 0 = 0 → x8722 ≠ 0 := hx8722
          refine m_if_eq F e_X10_readPay_53 (fun q53 => ?_) (fun q53 => ?_)
          · first | exact absurd q53 (hx8722 rfl) | contradiction
          · have h8723 := HS.z0 h8716 (f8721) q53
            have h8724 : HS V c _ [0, 2, 4, 5, 6, 7, 8, 9, 10, 12, 13, 14, 15, 16, 17, 18, 19, 20, 21, 22, 23] _ _ := ⟨HR.mono (Z' := Z) (by intro e; first | rfl | assumption | omega) h8723.1, h8723.2⟩
            exact m_vret F hQ e_X10_readPay_56 (⟨P8718, oP8718, (by unfold RP; omega), h8724, rfl⟩)
        · have h8725 : HS V c (⟨T, 0, u, h, P8718, L⟩ : RG) [0, 2, 4, 5, 6, 7, 8, 9, 10, 12, 13, 14, 15, 16, 17, 18, 19, 20, 21, 22, 23] _ _ := ⟨h8720, h8716.2⟩
          refine m_istore F (lv' := [(4, .int (nI 0)), (3, .int (nI n8688)), (2, .int (nI n8688)), (1, .int (nI n8676)), (0, .ref c)]) e_X10_readPay_47 (by decide) rfl ?_
          refine m_aload_n F rfl e_X10_readPay_49 ?_
          refine r_get F e_X10_readPay_50 fl_X10_141 h8725 rfl (fun v hv f8726 => ?_)
          obtain ⟨x8727, hx8727, rfl⟩ := hv
          replace hx8727 : 0 = 0 → x8727 ≠ 0 := hx8727
          refine m_if_eq F e_X10_readPay_53 (fun q53 => ?_) (fun q53 => ?_)
          · first | exact absurd q53 (hx8727 rfl) | contradiction
          · have h8728 := HS.z0 h8725 (f8726) q53
            have h8729 : HS V c _ [0, 2, 4, 5, 6, 7, 8, 9, 10, 12, 13, 14, 15, 16, 17, 18, 19, 20, 21, 22, 23] _ _ := ⟨HR.mono (Z' := Z) (by intro e; first | rfl | assumption | omega) h8728.1, h8728.2⟩
            exact m_vret F hQ e_X10_readPay_56 (⟨P8718, oP8718, (by unfold RP; omega), h8729, rfl⟩)
    · have h8730 : HS V c (⟨T, 0, u, h, P8687, L⟩ : RG) [0, 2, 4, 5, 6, 7, 8, 9, 10, 12, 13, 14, 15, 16, 17, 18, 19, 20, 21, 22, 23] _ _ := ⟨h8689, h8685.2⟩
      refine m_istore_n F (lv' := [(2, .int (nI 1)), (1, .int (nI n8676)), (0, .ref c)]) e_X10_readPay_31 (by decide) rfl ?_
      refine m_aload_n F rfl e_X10_readPay_32 ?_
      refine m_iload_n F rfl e_X10_readPay_33 ?_
      refine m_bipush F (v := 48) (by decide) e_X10_readPay_34 ?_
      refine r_callV F e_X10_readPay_36 (q_X10_numeral (x_l X) V c T 0 u h P8687 L _ _ 1 48 h8730.1 (hob) oP8687 (by omega) (by omega)) cb_X10_numeral ml_X10_165 im_X10_numeral se_X10_numeral h8730 rfl rfl (rest := []) rfl (Nat.le_of_ble_eq_true rfl) ⟨Nat.le_of_ble_eq_true rfl, Nat.le_of_ble_eq_true rfl⟩ ⟨Nat.le_of_ble_eq_true rfl, Nat.le_of_ble_eq_true rfl⟩ (fun r σ8731 hp => ?_)
      obtain ⟨P8735, oP8735, rP8735, h8732, c8734⟩ := hp
      have h8733 := HS.trans h8730 h8732 (by decide)
      have xP8735 := oP8735
      unfold OKP at xP8735
      unfold RA at rP8735
      rcases c8734 with ⟨n8736, gn8736, hn8736, rfl⟩ | ⟨h8737, rfl⟩
      · refine m_istore_n F (lv' := [(3, .int (nI n8736)), (2, .int (nI 1)), (1, .int (nI n8676)), (0, .ref c)]) e_X10_readPay_39 (by decide) rfl ?_
        refine m_aload_n F rfl e_X10_readPay_40 ?_
        refine m_iconst F (v := 0) (by decide) e_X10_readPay_41 ?_
        refine m_ldc F kc_X10_177 e_X10_readPay_42 ?_
        refine r_callV F e_X10_readPay_44 (q_X10_numeral (x_l X) V c T 0 u h P8735 L _ _ 0 99999 h8733.1 (hob) oP8735 (by omega) (by omega)) cb_X10_numeral ml_X10_165 im_X10_numeral se_X10_numeral h8733 rfl rfl (rest := []) rfl (Nat.le_of_ble_eq_true rfl) ⟨Nat.le_of_ble_eq_true rfl, Nat.le_of_ble_eq_true rfl⟩ ⟨Nat.le_of_ble_eq_true rfl, Nat.le_of_ble_eq_true rfl⟩ (fun r σ8738 hp => ?_)
        obtain ⟨P8742, oP8742, rP8742, h8739, c8741⟩ := hp
        have h8740 := HS.trans h8733 h8739 (by decide)
        have xP8742 := oP8742
        unfold OKP at xP8742
        unfold RA at rP8742
        rcases c8741 with ⟨n8743, gn8743, hn8743, rfl⟩ | ⟨h8744, rfl⟩
        · refine m_istore F (lv' := [(4, .int (nI n8743)), (3, .int (nI n8736)), (2, .int (nI 1)), (1, .int (nI n8676)), (0, .ref c)]) e_X10_readPay_47 (by decide) rfl ?_
          refine m_aload_n F rfl e_X10_readPay_49 ?_
          refine r_get F e_X10_readPay_50 fl_X10_141 h8740 rfl (fun v hv f8745 => ?_)
          obtain ⟨x8746, hx8746, rfl⟩ := hv
          replace hx8746 : 0 = 0 → x8746 ≠ 0 := hx8746
          refine m_if_eq F e_X10_readPay_53 (fun q53 => ?_) (fun q53 => ?_)
          · first | exact absurd q53 (hx8746 rfl) | contradiction
          · have h8747 := HS.z0 h8740 (f8745) q53
            have h8748 : HS V c _ [0, 2, 4, 5, 6, 7, 8, 9, 10, 12, 13, 14, 15, 16, 17, 18, 19, 20, 21, 22, 23] _ _ := ⟨HR.mono (Z' := Z) (by intro e; first | rfl | assumption | omega) h8747.1, h8747.2⟩
            exact m_vret F hQ e_X10_readPay_56 (⟨P8742, oP8742, (by unfold RP; omega), h8748, rfl⟩)
        · have h8749 : HS V c (⟨T, 0, u, h, P8742, L⟩ : RG) [0, 2, 4, 5, 6, 7, 8, 9, 10, 12, 13, 14, 15, 16, 17, 18, 19, 20, 21, 22, 23] _ _ := ⟨h8744, h8740.2⟩
          refine m_istore F (lv' := [(4, .int (nI 0)), (3, .int (nI n8736)), (2, .int (nI 1)), (1, .int (nI n8676)), (0, .ref c)]) e_X10_readPay_47 (by decide) rfl ?_
          refine m_aload_n F rfl e_X10_readPay_49 ?_
          refine r_get F e_X10_readPay_50 fl_X10_141 h8749 rfl (fun v hv f8750 => ?_)
          obtain ⟨x8751, hx8751, rfl⟩ := hv
          replace hx8751 : 0 = 0 → x8751 ≠ 0 := hx8751
          refine m_if_eq F e_X10_readPay_53 (fun q53 => ?_) (fun q53 => ?_)
          · first | exact absurd q53 (hx8751 rfl) | contradiction
          · have h8752 := HS.z0 h8749 (f8750) q53
            have h8753 : HS V c _ [0, 2, 4, 5, 6, 7, 8, 9, 10, 12, 13, 14, 15, 16, 17, 18, 19, 20, 21, 22, 23] _ _ := ⟨HR.mono (Z' := Z) (by intro e; first | rfl | assumption | omega) h8752.1, h8752.2⟩
            exact m_vret F hQ e_X10_readPay_56 (⟨P8742, oP8742, (by unfold RP; omega), h8753, rfl⟩)
      · have h8754 : HS V c (⟨T, 0, u, h, P8735, L⟩ : RG) [0, 2, 4, 5, 6, 7, 8, 9, 10, 12, 13, 14, 15, 16, 17, 18, 19, 20, 21, 22, 23] _ _ := ⟨h8737, h8733.2⟩
        refine m_istore_n F (lv' := [(3, .int (nI 1)), (2, .int (nI 1)), (1, .int (nI n8676)), (0, .ref c)]) e_X10_readPay_39 (by decide) rfl ?_
        refine m_aload_n F rfl e_X10_readPay_40 ?_
        refine m_iconst F (v := 0) (by decide) e_X10_readPay_41 ?_
        refine m_ldc F kc_X10_177 e_X10_readPay_42 ?_
        refine r_callV F e_X10_readPay_44 (q_X10_numeral (x_l X) V c T 0 u h P8735 L _ _ 0 99999 h8754.1 (hob) oP8735 (by omega) (by omega)) cb_X10_numeral ml_X10_165 im_X10_numeral se_X10_numeral h8754 rfl rfl (rest := []) rfl (Nat.le_of_ble_eq_true rfl) ⟨Nat.le_of_ble_eq_true rfl, Nat.le_of_ble_eq_true rfl⟩ ⟨Nat.le_of_ble_eq_true rfl, Nat.le_of_ble_eq_true rfl⟩ (fun r σ8755 hp => ?_)
        obtain ⟨P8759, oP8759, rP8759, h8756, c8758⟩ := hp
        have h8757 := HS.trans h8754 h8756 (by decide)
        have xP8759 := oP8759
        unfold OKP at xP8759
        unfold RA at rP8759
        rcases c8758 with ⟨n8760, gn8760, hn8760, rfl⟩ | ⟨h8761, rfl⟩
        · refine m_istore F (lv' := [(4, .int (nI n8760)), (3, .int (nI 1)), (2, .int (nI 1)), (1, .int (nI n8676)), (0, .ref c)]) e_X10_readPay_47 (by decide) rfl ?_
          refine m_aload_n F rfl e_X10_readPay_49 ?_
          refine r_get F e_X10_readPay_50 fl_X10_141 h8757 rfl (fun v hv f8762 => ?_)
          obtain ⟨x8763, hx8763, rfl⟩ := hv
          replace hx8763 : 0 = 0 → x8763 ≠ 0 := hx8763
          refine m_if_eq F e_X10_readPay_53 (fun q53 => ?_) (fun q53 => ?_)
          · first | exact absurd q53 (hx8763 rfl) | contradiction
          · have h8764 := HS.z0 h8757 (f8762) q53
            have h8765 : HS V c _ [0, 2, 4, 5, 6, 7, 8, 9, 10, 12, 13, 14, 15, 16, 17, 18, 19, 20, 21, 22, 23] _ _ := ⟨HR.mono (Z' := Z) (by intro e; first | rfl | assumption | omega) h8764.1, h8764.2⟩
            exact m_vret F hQ e_X10_readPay_56 (⟨P8759, oP8759, (by unfold RP; omega), h8765, rfl⟩)
        · have h8766 : HS V c (⟨T, 0, u, h, P8759, L⟩ : RG) [0, 2, 4, 5, 6, 7, 8, 9, 10, 12, 13, 14, 15, 16, 17, 18, 19, 20, 21, 22, 23] _ _ := ⟨h8761, h8757.2⟩
          refine m_istore F (lv' := [(4, .int (nI 0)), (3, .int (nI 1)), (2, .int (nI 1)), (1, .int (nI n8676)), (0, .ref c)]) e_X10_readPay_47 (by decide) rfl ?_
          refine m_aload_n F rfl e_X10_readPay_49 ?_
          refine r_get F e_X10_readPay_50 fl_X10_141 h8766 rfl (fun v hv f8767 => ?_)
          obtain ⟨x8768, hx8768, rfl⟩ := hv
          replace hx8768 : 0 = 0 → x8768 ≠ 0 := hx8768
          refine m_if_eq F e_X10_readPay_53 (fun q53 => ?_) (fun q53 => ?_)
          · first | exact absurd q53 (hx8768 rfl) | contradiction
          · have h8769 := HS.z0 h8766 (f8767) q53
            have h8770 : HS V c _ [0, 2, 4, 5, 6, 7, 8, 9, 10, 12, 13, 14, 15, 16, 17, 18, 19, 20, 21, 22, 23] _ _ := ⟨HR.mono (Z' := Z) (by intro e; first | rfl | assumption | omega) h8769.1, h8769.2⟩
            exact m_vret F hQ e_X10_readPay_56 (⟨P8759, oP8759, (by unfold RP; omega), h8770, rfl⟩)
  · subst q7
    refine m_aload_n F rfl e_X10_readPay_10 ?_
    refine m_iconst F (v := 2) (by decide) e_X10_readPay_11 ?_
    refine r_callV F e_X10_readPay_12 (q_X10_wrong (x_l X) V c T Z u h P L _ _ 2 h8671.1 (hob) hP (by first | omega | assumption | decide)) cb_X10_wrong ml_X10_150 im_X10_wrong se_X10_wrong h8671 rfl rfl (rest := []) rfl (Nat.le_of_ble_eq_true rfl) ⟨Nat.le_of_ble_eq_true rfl, Nat.le_of_ble_eq_true rfl⟩ ⟨Nat.le_of_ble_eq_true rfl, Nat.le_of_ble_eq_true rfl⟩ (fun r σ8771 hp => ?_)
    obtain ⟨h8772, rfl⟩ := hp
    have h8773 := HS.trans h8671 h8772 (by decide)
    refine m_aload_n F rfl e_X10_readPay_15 ?_
    refine r_callV F e_X10_readPay_16 (q_X10_atHand (x_l X) V c T 0 u h P L _ _  h8773.1 (hob) hP ) cb_X10_atHand ml_X10_174 im_X10_atHand se_X10_atHand h8773 rfl rfl (rest := []) rfl (Nat.le_of_ble_eq_true rfl) ⟨Nat.le_of_ble_eq_true rfl, Nat.le_of_ble_eq_true rfl⟩ ⟨Nat.le_of_ble_eq_true rfl, Nat.le_of_ble_eq_true rfl⟩ (fun r σ8774 hp => ?_)
    obtain ⟨P8778, oP8778, rP8778, h8775, n8777, gn8777, hn8777, rfl⟩ := hp
    have h8776 := HS.trans h8773 h8775 (by decide)
    have xP8778 := oP8778
    unfold OKP at xP8778
    unfold RA at rP8778
    refine m_istore_n F (lv' := [(1, .int (nI n8777)), (0, .ref c)]) e_X10_readPay_19 (by decide) rfl ?_
    refine m_aload_n F rfl e_X10_readPay_20 ?_
    refine r_callV F e_X10_readPay_21 (q_X10_goOn (x_l X) V c T 0 u h P8778 L _ _  h8776.1 (hob) oP8778 ) cb_X10_goOn ml_X10_154 im_X10_goOn se_X10_goOn h8776 rfl rfl (rest := []) rfl (Nat.le_of_ble_eq_true rfl) ⟨Nat.le_of_ble_eq_true rfl, Nat.le_of_ble_eq_true rfl⟩ ⟨Nat.le_of_ble_eq_true rfl, Nat.le_of_ble_eq_true rfl⟩ (fun r σ8779 hp => ?_)
    obtain ⟨P8782, oP8782, rP8782, pr8783, h8780, rfl⟩ := hp
    have h8781 := HS.trans h8776 h8780 (by decide)
    have xP8782 := oP8782
    unfold OKP at xP8782
    unfold RA at rP8782
    refine m_aload_n F rfl e_X10_readPay_24 ?_
    refine m_iconst F (v := 1) (by decide) e_X10_readPay_25 ?_
    refine m_bipush F (v := 48) (by decide) e_X10_readPay_26 ?_
    refine r_callV F e_X10_readPay_28 (q_X10_numeral (x_l X) V c T 0 u h P8782 L _ _ 1 48 h8781.1 (hob) oP8782 (by omega) (by omega)) cb_X10_numeral ml_X10_165 im_X10_numeral se_X10_numeral h8781 rfl rfl (rest := []) rfl (Nat.le_of_ble_eq_true rfl) ⟨Nat.le_of_ble_eq_true rfl, Nat.le_of_ble_eq_true rfl⟩ ⟨Nat.le_of_ble_eq_true rfl, Nat.le_of_ble_eq_true rfl⟩ (fun r σ8784 hp => ?_)
    obtain ⟨P8788, oP8788, rP8788, h8785, c8787⟩ := hp
    have h8786 := HS.trans h8781 h8785 (by decide)
    have xP8788 := oP8788
    unfold OKP at xP8788
    unfold RA at rP8788
    rcases c8787 with ⟨n8789, gn8789, hn8789, rfl⟩ | ⟨h8790, rfl⟩
    · refine m_istore_n F (lv' := [(2, .int (nI n8789)), (1, .int (nI n8777)), (0, .ref c)]) e_X10_readPay_31 (by decide) rfl ?_
      refine m_aload_n F rfl e_X10_readPay_32 ?_
      refine m_iload_n F rfl e_X10_readPay_33 ?_
      refine m_bipush F (v := 48) (by decide) e_X10_readPay_34 ?_
      refine r_callV F e_X10_readPay_36 (q_X10_numeral (x_l X) V c T 0 u h P8788 L _ _ n8789 48 h8786.1 (hob) oP8788 (by omega) (by omega)) cb_X10_numeral ml_X10_165 im_X10_numeral se_X10_numeral h8786 rfl rfl (rest := []) rfl (Nat.le_of_ble_eq_true rfl) ⟨Nat.le_of_ble_eq_true rfl, Nat.le_of_ble_eq_true rfl⟩ ⟨Nat.le_of_ble_eq_true rfl, Nat.le_of_ble_eq_true rfl⟩ (fun r σ8791 hp => ?_)
      obtain ⟨P8795, oP8795, rP8795, h8792, c8794⟩ := hp
      have h8793 := HS.trans h8786 h8792 (by decide)
      have xP8795 := oP8795
      unfold OKP at xP8795
      unfold RA at rP8795
      rcases c8794 with ⟨n8796, gn8796, hn8796, rfl⟩ | ⟨h8797, rfl⟩
      · refine m_istore_n F (lv' := [(3, .int (nI n8796)), (2, .int (nI n8789)), (1, .int (nI n8777)), (0, .ref c)]) e_X10_readPay_39 (by decide) rfl ?_
        refine m_aload_n F rfl e_X10_readPay_40 ?_
        refine m_iconst F (v := 0) (by decide) e_X10_readPay_41 ?_
        refine m_ldc F kc_X10_177 e_X10_readPay_42 ?_
        refine r_callV F e_X10_readPay_44 (q_X10_numeral (x_l X) V c T 0 u h P8795 L _ _ 0 99999 h8793.1 (hob) oP8795 (by omega) (by omega)) cb_X10_numeral ml_X10_165 im_X10_numeral se_X10_numeral h8793 rfl rfl (rest := []) rfl (Nat.le_of_ble_eq_true rfl) ⟨Nat.le_of_ble_eq_true rfl, Nat.le_of_ble_eq_true rfl⟩ ⟨Nat.le_of_ble_eq_true rfl, Nat.le_of_ble_eq_true rfl⟩ (fun r σ8798 hp => ?_)
        obtain ⟨P8802, oP8802, rP8802, h8799, c8801⟩ := hp
        have h8800 := HS.trans h8793 h8799 (by decide)
        have xP8802 := oP8802
        unfold OKP at xP8802
        unfold RA at rP8802
        rcases c8801 with ⟨n8803, gn8803, hn8803, rfl⟩ | ⟨h8804, rfl⟩
        · refine m_istore F (lv' := [(4, .int (nI n8803)), (3, .int (nI n8796)), (2, .int (nI n8789)), (1, .int (nI n8777)), (0, .ref c)]) e_X10_readPay_47 (by decide) rfl ?_
          refine m_aload_n F rfl e_X10_readPay_49 ?_
          refine r_get F e_X10_readPay_50 fl_X10_141 h8800 rfl (fun v hv f8805 => ?_)
          obtain ⟨x8806, hx8806, rfl⟩ := hv
          replace hx8806 : 0 = 0 → x8806 ≠ 0 := hx8806
          refine m_if_eq F e_X10_readPay_53 (fun q53 => ?_) (fun q53 => ?_)
          · first | exact absurd q53 (hx8806 rfl) | contradiction
          · have h8807 := HS.z0 h8800 (f8805) q53
            have h8808 : HS V c _ [0, 2, 4, 5, 6, 7, 8, 9, 10, 12, 13, 14, 15, 16, 17, 18, 19, 20, 21, 22, 23] _ _ := ⟨HR.mono (Z' := Z) (by intro e; first | rfl | assumption | omega) h8807.1, h8807.2⟩
            exact m_vret F hQ e_X10_readPay_56 (⟨P8802, oP8802, (by unfold RP; omega), h8808, rfl⟩)
        · have h8809 : HS V c (⟨T, 0, u, h, P8802, L⟩ : RG) [0, 2, 4, 5, 6, 7, 8, 9, 10, 12, 13, 14, 15, 16, 17, 18, 19, 20, 21, 22, 23] _ _ := ⟨h8804, h8800.2⟩
          refine m_istore F (lv' := [(4, .int (nI 0)), (3, .int (nI n8796)), (2, .int (nI n8789)), (1, .int (nI n8777)), (0, .ref c)]) e_X10_readPay_47 (by decide) rfl ?_
          refine m_aload_n F rfl e_X10_readPay_49 ?_
          refine r_get F e_X10_readPay_50 fl_X10_141 h8809 rfl (fun v hv f8810 => ?_)
          obtain ⟨x8811, hx8811, rfl⟩ := hv
          replace hx8811 : 0 = 0 → x8811 ≠ 0 := hx8811
          refine m_if_eq F e_X10_readPay_53 (fun q53 => ?_) (fun q53 => ?_)
          · first | exact absurd q53 (hx8811 rfl) | contradiction
          · have h8812 := HS.z0 h8809 (f8810) q53
            have h8813 : HS V c _ [0, 2, 4, 5, 6, 7, 8, 9, 10, 12, 13, 14, 15, 16, 17, 18, 19, 20, 21, 22, 23] _ _ := ⟨HR.mono (Z' := Z) (by intro e; first | rfl | assumption | omega) h8812.1, h8812.2⟩
            exact m_vret F hQ e_X10_readPay_56 (⟨P8802, oP8802, (by unfold RP; omega), h8813, rfl⟩)
      · have h8814 : HS V c (⟨T, 0, u, h, P8795, L⟩ : RG) [0, 2, 4, 5, 6, 7, 8, 9, 10, 12, 13, 14, 15, 16, 17, 18, 19, 20, 21, 22, 23] _ _ := ⟨h8797, h8793.2⟩
        refine m_istore_n F (lv' := [(3, .int (nI n8789)), (2, .int (nI n8789)), (1, .int (nI n8777)), (0, .ref c)]) e_X10_readPay_39 (by decide) rfl ?_
        refine m_aload_n F rfl e_X10_readPay_40 ?_
        refine m_iconst F (v := 0) (by decide) e_X10_readPay_41 ?_
        refine m_ldc F kc_X10_177 e_X10_readPay_42 ?_
        refine r_callV F e_X10_readPay_44 (q_X10_numeral (x_l X) V c T 0 u h P8795 L _ _ 0 99999 h8814.1 (hob) oP8795 (by omega) (by omega)) cb_X10_numeral ml_X10_165 im_X10_numeral se_X10_numeral h8814 rfl rfl (rest := []) rfl (Nat.le_of_ble_eq_true rfl) ⟨Nat.le_of_ble_eq_true rfl, Nat.le_of_ble_eq_true rfl⟩ ⟨Nat.le_of_ble_eq_true rfl, Nat.le_of_ble_eq_true rfl⟩ (fun r σ8815 hp => ?_)
        obtain ⟨P8819, oP8819, rP8819, h8816, c8818⟩ := hp
        have h8817 := HS.trans h8814 h8816 (by decide)
        have xP8819 := oP8819
        unfold OKP at xP8819
        unfold RA at rP8819
        rcases c8818 with ⟨n8820, gn8820, hn8820, rfl⟩ | ⟨h8821, rfl⟩
        · refine m_istore F (lv' := [(4, .int (nI n8820)), (3, .int (nI n8789)), (2, .int (nI n8789)), (1, .int (nI n8777)), (0, .ref c)]) e_X10_readPay_47 (by decide) rfl ?_
          refine m_aload_n F rfl e_X10_readPay_49 ?_
          refine r_get F e_X10_readPay_50 fl_X10_141 h8817 rfl (fun v hv f8822 => ?_)
          obtain ⟨x8823, hx8823, rfl⟩ := hv
          replace hx8823 : 0 = 0 → x8823 ≠ 0 := hx8823
          refine m_if_eq F e_X10_readPay_53 (fun q53 => ?_) (fun q53 => ?_)
          · first | exact absurd q53 (hx8823 rfl) | contradiction
          · have h8824 := HS.z0 h8817 (f8822) q53
            have h8825 : HS V c _ [0, 2, 4, 5, 6, 7, 8, 9, 10, 12, 13, 14, 15, 16, 17, 18, 19, 20, 21, 22, 23] _ _ := ⟨HR.mono (Z' := Z) (by intro e; first | rfl | assumption | omega) h8824.1, h8824.2⟩
            exact m_vret F hQ e_X10_readPay_56 (⟨P8819, oP8819, (by unfold RP; omega), h8825, rfl⟩)
        · have h8826 : HS V c (⟨T, 0, u, h, P8819, L⟩ : RG) [0, 2, 4, 5, 6, 7, 8, 9, 10, 12, 13, 14, 15, 16, 17, 18, 19, 20, 21, 22, 23] _ _ := ⟨h8821, h8817.2⟩
          refine m_istore F (lv' := [(4, .int (nI 0)), (3, .int (nI n8789)), (2, .int (nI n8789)), (1, .int (nI n8777)), (0, .ref c)]) e_X10_readPay_47 (by decide) rfl ?_
          refine m_aload_n F rfl e_X10_readPay_49 ?_
          refine r_get F e_X10_readPay_50 fl_X10_141 h8826 rfl (fun v hv f8827 => ?_)
          obtain ⟨x8828, hx8828, rfl⟩ := hv
          replace hx8828 : 0 = 0 → x8828 ≠ 0 := hx8828
          refine m_if_eq F e_X10_readPay_53 (fun q53 => ?_) (fun q53 => ?_)
          · first | exact absurd q53 (hx8828 rfl) | contradiction
          · have h8829 := HS.z0 h8826 (f8827) q53
            have h8830 : HS V c _ [0, 2, 4, 5, 6, 7, 8, 9, 10, 12, 13, 14, 15, 16, 17, 18, 19, 20, 21, 22, 23] _ _ := ⟨HR.mono (Z' := Z) (by intro e; first | rfl | assumption | omega) h8829.1, h8829.2⟩
            exact m_vret F hQ e_X10_readPay_56 (⟨P8819, oP8819, (by unfold RP; omega), h8830, rfl⟩)
    · have h8831 : HS V c (⟨T, 0, u, h, P8788, L⟩ : RG) [0, 2, 4, 5, 6, 7, 8, 9, 10, 12, 13, 14, 15, 16, 17, 18, 19, 20, 21, 22, 23] _ _ := ⟨h8790, h8786.2⟩
      refine m_istore_n F (lv' := [(2, .int (nI 1)), (1, .int (nI n8777)), (0, .ref c)]) e_X10_readPay_31 (by decide) rfl ?_
      refine m_aload_n F rfl e_X10_readPay_32 ?_
      refine m_iload_n F rfl e_X10_readPay_33 ?_
      refine m_bipush F (v := 48) (by decide) e_X10_readPay_34 ?_
      refine r_callV F e_X10_readPay_36 (q_X10_numeral (x_l X) V c T 0 u h P8788 L _ _ 1 48 h8831.1 (hob) oP8788 (by omega) (by omega)) cb_X10_numeral ml_X10_165 im_X10_numeral se_X10_numeral h8831 rfl rfl (rest := []) rfl (Nat.le_of_ble_eq_true rfl) ⟨Nat.le_of_ble_eq_true rfl, Nat.le_of_ble_eq_true rfl⟩ ⟨Nat.le_of_ble_eq_true rfl, Nat.le_of_ble_eq_true rfl⟩ (fun r σ8832 hp => ?_)
      obtain ⟨P8836, oP8836, rP8836, h8833, c8835⟩ := hp
      have h8834 := HS.trans h8831 h8833 (by decide)
      have xP8836 := oP8836
      unfold OKP at xP8836
      unfold RA at rP8836
      rcases c8835 with ⟨n8837, gn8837, hn8837, rfl⟩ | ⟨h8838, rfl⟩
      · refine m_istore_n F (lv' := [(3, .int (nI n8837)), (2, .int (nI 1)), (1, .int (nI n8777)), (0, .ref c)]) e_X10_readPay_39 (by decide) rfl ?_
        refine m_aload_n F rfl e_X10_readPay_40 ?_
        refine m_iconst F (v := 0) (by decide) e_X10_readPay_41 ?_
        refine m_ldc F kc_X10_177 e_X10_readPay_42 ?_
        refine r_callV F e_X10_readPay_44 (q_X10_numeral (x_l X) V c T 0 u h P8836 L _ _ 0 99999 h8834.1 (hob) oP8836 (by omega) (by omega)) cb_X10_numeral ml_X10_165 im_X10_numeral se_X10_numeral h8834 rfl rfl (rest := []) rfl (Nat.le_of_ble_eq_true rfl) ⟨Nat.le_of_ble_eq_true rfl, Nat.le_of_ble_eq_true rfl⟩ ⟨Nat.le_of_ble_eq_true rfl, Nat.le_of_ble_eq_true rfl⟩ (fun r σ8839 hp => ?_)
        obtain ⟨P8843, oP8843, rP8843, h8840, c8842⟩ := hp
        have h8841 := HS.trans h8834 h8840 (by decide)
        have xP8843 := oP8843
        unfold OKP at xP8843
        unfold RA at rP8843
        rcases c8842 with ⟨n8844, gn8844, hn8844, rfl⟩ | ⟨h8845, rfl⟩
        · refine m_istore F (lv' := [(4, .int (nI n8844)), (3, .int (nI n8837)), (2, .int (nI 1)), (1, .int (nI n8777)), (0, .ref c)]) e_X10_readPay_47 (by decide) rfl ?_
          refine m_aload_n F rfl e_X10_readPay_49 ?_
          refine r_get F e_X10_readPay_50 fl_X10_141 h8841 rfl (fun v hv f8846 => ?_)
          obtain ⟨x8847, hx8847, rfl⟩ := hv
          replace hx8847 : 0 = 0 → x8847 ≠ 0 := hx8847
          refine m_if_eq F e_X10_readPay_53 (fun q53 => ?_) (fun q53 => ?_)
          · first | exact absurd q53 (hx8847 rfl) | contradiction
          · have h8848 := HS.z0 h8841 (f8846) q53
            have h8849 : HS V c _ [0, 2, 4, 5, 6, 7, 8, 9, 10, 12, 13, 14, 15, 16, 17, 18, 19, 20, 21, 22, 23] _ _ := ⟨HR.mono (Z' := Z) (by intro e; first | rfl | assumption | omega) h8848.1, h8848.2⟩
            exact m_vret F hQ e_X10_readPay_56 (⟨P8843, oP8843, (by unfold RP; omega), h8849, rfl⟩)
        · have h8850 : HS V c (⟨T, 0, u, h, P8843, L⟩ : RG) [0, 2, 4, 5, 6, 7, 8, 9, 10, 12, 13, 14, 15, 16, 17, 18, 19, 20, 21, 22, 23] _ _ := ⟨h8845, h8841.2⟩
          refine m_istore F (lv' := [(4, .int (nI 0)), (3, .int (nI n8837)), (2, .int (nI 1)), (1, .int (nI n8777)), (0, .ref c)]) e_X10_readPay_47 (by decide) rfl ?_
          refine m_aload_n F rfl e_X10_readPay_49 ?_
          refine r_get F e_X10_readPay_50 fl_X10_141 h8850 rfl (fun v hv f8851 => ?_)
          obtain ⟨x8852, hx8852, rfl⟩ := hv
          replace hx8852 : 0 = 0 → x8852 ≠ 0 := hx8852
          refine m_if_eq F e_X10_readPay_53 (fun q53 => ?_) (fun q53 => ?_)
          · first | exact absurd q53 (hx8852 rfl) | contradiction
          · have h8853 := HS.z0 h8850 (f8851) q53
            have h8854 : HS V c _ [0, 2, 4, 5, 6, 7, 8, 9, 10, 12, 13, 14, 15, 16, 17, 18, 19, 20, 21, 22, 23] _ _ := ⟨HR.mono (Z' := Z) (by intro e; first | rfl | assumption | omega) h8853.1, h8853.2⟩
            exact m_vret F hQ e_X10_readPay_56 (⟨P8843, oP8843, (by unfold RP; omega), h8854, rfl⟩)
      · have h8855 : HS V c (⟨T, 0, u, h, P8836, L⟩ : RG) [0, 2, 4, 5, 6, 7, 8, 9, 10, 12, 13, 14, 15, 16, 17, 18, 19, 20, 21, 22, 23] _ _ := ⟨h8838, h8834.2⟩
        refine m_istore_n F (lv' := [(3, .int (nI 1)), (2, .int (nI 1)), (1, .int (nI n8777)), (0, .ref c)]) e_X10_readPay_39 (by decide) rfl ?_
        refine m_aload_n F rfl e_X10_readPay_40 ?_
        refine m_iconst F (v := 0) (by decide) e_X10_readPay_41 ?_
        refine m_ldc F kc_X10_177 e_X10_readPay_42 ?_
        refine r_callV F e_X10_readPay_44 (q_X10_numeral (x_l X) V c T 0 u h P8836 L _ _ 0 99999 h8855.1 (hob) oP8836 (by omega) (by omega)) cb_X10_numeral ml_X10_165 im_X10_numeral se_X10_numeral h8855 rfl rfl (rest := []) rfl (Nat.le_of_ble_eq_true rfl) ⟨Nat.le_of_ble_eq_true rfl, Nat.le_of_ble_eq_true rfl⟩ ⟨Nat.le_of_ble_eq_true rfl, Nat.le_of_ble_eq_true rfl⟩ (fun r σ8856 hp => ?_)
        obtain ⟨P8860, oP8860, rP8860, h8857, c8859⟩ := hp
        have h8858 := HS.trans h8855 h8857 (by decide)
        have xP8860 := oP8860
        unfold OKP at xP8860
        unfold RA at rP8860
        rcases c8859 with ⟨n8861, gn8861, hn8861, rfl⟩ | ⟨h8862, rfl⟩
        · refine m_istore F (lv' := [(4, .int (nI n8861)), (3, .int (nI 1)), (2, .int (nI 1)), (1, .int (nI n8777)), (0, .ref c)]) e_X10_readPay_47 (by decide) rfl ?_
          refine m_aload_n F rfl e_X10_readPay_49 ?_
          refine r_get F e_X10_readPay_50 fl_X10_141 h8858 rfl (fun v hv f8863 => ?_)
          obtain ⟨x8864, hx8864, rfl⟩ := hv
          replace hx8864 : 0 = 0 → x8864 ≠ 0 := hx8864
          refine m_if_eq F e_X10_readPay_53 (fun q53 => ?_) (fun q53 => ?_)
          · first | exact absurd q53 (hx8864 rfl) | contradiction
          · have h8865 := HS.z0 h8858 (f8863) q53
            have h8866 : HS V c _ [0, 2, 4, 5, 6, 7, 8, 9, 10, 12, 13, 14, 15, 16, 17, 18, 19, 20, 21, 22, 23] _ _ := ⟨HR.mono (Z' := Z) (by intro e; first | rfl | assumption | omega) h8865.1, h8865.2⟩
            exact m_vret F hQ e_X10_readPay_56 (⟨P8860, oP8860, (by unfold RP; omega), h8866, rfl⟩)
        · have h8867 : HS V c (⟨T, 0, u, h, P8860, L⟩ : RG) [0, 2, 4, 5, 6, 7, 8, 9, 10, 12, 13, 14, 15, 16, 17, 18, 19, 20, 21, 22, 23] _ _ := ⟨h8862, h8858.2⟩
          refine m_istore F (lv' := [(4, .int (nI 0)), (3, .int (nI 1)), (2, .int (nI 1)), (1, .int (nI n8777)), (0, .ref c)]) e_X10_readPay_47 (by decide) rfl ?_
          refine m_aload_n F rfl e_X10_readPay_49 ?_
          refine r_get F e_X10_readPay_50 fl_X10_141 h8867 rfl (fun v hv f8868 => ?_)
          obtain ⟨x8869, hx8869, rfl⟩ := hv
          replace hx8869 : 0 = 0 → x8869 ≠ 0 := hx8869
          refine m_if_eq F e_X10_readPay_53 (fun q53 => ?_) (fun q53 => ?_)
          · first | exact absurd q53 (hx8869 rfl) | contradiction
          · have h8870 := HS.z0 h8867 (f8868) q53
            have h8871 : HS V c _ [0, 2, 4, 5, 6, 7, 8, 9, 10, 12, 13, 14, 15, 16, 17, 18, 19, 20, 21, 22, 23] _ _ := ⟨HR.mono (Z' := Z) (by intro e; first | rfl | assumption | omega) h8870.1, h8870.2⟩
            exact m_vret F hQ e_X10_readPay_56 (⟨P8860, oP8860, (by unfold RP; omega), h8871, rfl⟩)
set_option maxRecDepth 20000 in
theorem q_X10_readMark (l : Launch) (V : VX) (c T Z u h : Nat) (P : NP) (L : Nat → LQ) (N : Nat) (σ : Mem) (x901 : Int32) (h0 : HR V c ⟨T, Z, u, h, P, L⟩ σ) (hob : OKB L) (hP : OKP P)  : Ct l V yX10_readMark cX10_readMark 3 none 8 0 0 N σ [.ref c, .int x901] (fun r τ => ∃ P9 : NP, OKP P9 ∧ RP P P9 ∧ HS V c (⟨T, Z, u, h, P9, L⟩ : RG) [0, 2, 3, 4, 5, 6, 7, 9, 10, 11, 12, 13, 14, 15, 16, 17, 18, 19, 20, 21, 22, 23] σ τ ∧ r = none) := by
  refine Ct.of (by decide) (Nat.le_of_ble_eq_true rfl) [(0, .ref c), (1, .int x901)] rfl (fun X hX F hQ => ?_)
  have hPP := hP
  unfold OKP at hPP
  have h1 : HS V c ⟨T, Z, u, h, P, L⟩ [0, 2, 3, 4, 5, 6, 7, 9, 10, 11, 12, 13, 14, 15, 16, 17, 18, 19, 20, 21, 22, 23] σ σ := HS.start h0
  refine m_aload_n F rfl e_X10_readMark_0 ?_
  refine r_callV F e_X10_readMark_1 (q_X10_atHand (x_l X) V c T Z u h P L _ _  h1.1 (hob) hP ) cb_X10_atHand ml_X10_174 im_X10_atHand se_X10_atHand h1 rfl rfl (rest := []) rfl (Nat.le_of_ble_eq_true rfl) ⟨Nat.le_of_ble_eq_true rfl, Nat.le_of_ble_eq_true rfl⟩ ⟨Nat.le_of_ble_eq_true rfl, Nat.le_of_ble_eq_true rfl⟩ (fun r σ8872 hp => ?_)
  obtain ⟨P8876, oP8876, rP8876, h8873, n8875, gn8875, hn8875, rfl⟩ := hp
  have h8874 := HS.trans h1 h8873 (by decide)
  have xP8876 := oP8876
  unfold OKP at xP8876
  unfold RA at rP8876
  refine m_istore_n F (lv' := [(2, .int (nI n8875)), (0, .ref c), (1, .int x901)]) e_X10_readMark_4 (by decide) rfl ?_
  refine m_aload_n F rfl e_X10_readMark_5 ?_
  refine r_get F e_X10_readMark_6 fl_X10_141 h8874 rfl (fun v hv f8877 => ?_)
  obtain ⟨x8878, hx8878, rfl⟩ := hv
  replace hx8878 : Z = 0 → x8878 ≠ 0 := hx8878
  refine m_if_ne F e_X10_readMark_9 (fun q9 => ?_) (fun q9 => ?_)
  · have h8879 := HS.z0 h8874 (f8877) q9
    refine m_aload_n F rfl e_X10_readMark_28 ?_
    refine r_getC F e_X10_readMark_29 fl_X10_141 h8879 (f8877) ?_
    refine m_if_ne F e_X10_readMark_32 (fun q32 => ?_) (fun q32 => ?_)
    · have h8880 := HS.z0 h8879 (f8877) q32
      refine m_aload_n F rfl e_X10_readMark_45 ?_
      refine r_callV F e_X10_readMark_46 (q_X10_goOn (x_l X) V c T 0 u h P8876 L _ _  h8880.1 (hob) oP8876 ) cb_X10_goOn ml_X10_154 im_X10_goOn se_X10_goOn h8880 rfl rfl (rest := []) rfl (Nat.le_of_ble_eq_true rfl) ⟨Nat.le_of_ble_eq_true rfl, Nat.le_of_ble_eq_true rfl⟩ ⟨Nat.le_of_ble_eq_true rfl, Nat.le_of_ble_eq_true rfl⟩ (fun r σ8881 hp => ?_)
      obtain ⟨P8884, oP8884, rP8884, pr8885, h8882, rfl⟩ := hp
      have h8883 := HS.trans h8880 h8882 (by decide)
      have xP8884 := oP8884
      unfold OKP at xP8884
      unfold RA at rP8884
      have h8886 : HS V c _ [0, 2, 3, 4, 5, 6, 7, 9, 10, 11, 12, 13, 14, 15, 16, 17, 18, 19, 20, 21, 22, 23] _ _ := ⟨HR.mono (Z' := Z) (by intro e; first | rfl | assumption | omega) h8883.1, h8883.2⟩
      exact m_vret F hQ e_X10_readMark_49 (⟨P8884, oP8884, (by unfold RP; omega), h8886, rfl⟩)
    · first | exact absurd q32 (hx8878 rfl) | contradiction
  · subst q9
    refine m_aload_n F rfl e_X10_readMark_12 ?_
    refine r_get F e_X10_readMark_13 fl_X10_28 h8874 rfl (fun v hv f8887 => ?_)
    obtain rfl : v = .ref (c + 7) := hv
    refine m_iload_n F rfl e_X10_readMark_16 ?_
    refine r_iald F (len := 8) (j := n8875) e_X10_readMark_17 h8874 (fun _ h => h) (by decide) (nI_clamp (by omega)) (vp_in_nI (by omega) (by decide)) (fun x8888 h8889 f8890 => ?_)
    refine m_iload_n F rfl e_X10_readMark_18 ?_
    refine m_iand F e_X10_readMark_19 ?_
    refine Wm.top (fun x8891 _ => ?_)
    refine m_if_eq F e_X10_readMark_20 (fun q20 => ?_) (fun q20 => ?_)
    · subst q20
      refine m_aload_n F rfl e_X10_readMark_28 ?_
      refine r_getC F e_X10_readMark_29 fl_X10_141 h8874 (f8877) ?_
      refine m_if_ne F e_X10_readMark_32 (fun q => absurd (by decide) q) (fun _ => ?_)
      refine m_aload_n F rfl e_X10_readMark_35 ?_
      refine r_getC F e_X10_readMark_36 fl_X10_28 h8874 (f8887) ?_
      refine m_iload_n F rfl e_X10_readMark_39 ?_
      refine m_dup2_11 F rfl rfl e_X10_readMark_40 ?_
      refine r_iald F (len := 8) (j := n8875) e_X10_readMark_41 h8874 (fun _ h => h) (by decide) (nI_clamp (by omega)) (vp_in_nI (by omega) (by decide)) (fun x8892 h8893 f8894 => ?_)
      obtain rfl := Option.some.inj ((f8894).symm.trans (f8890))
      refine m_iload_n F rfl e_X10_readMark_42 ?_
      refine m_ior F e_X10_readMark_43 ?_
      refine Wm.top (fun x8895 _ => ?_)
      refine r_iast F (g' := (⟨T, Z, u, h, P8876, L⟩ : RG)) (len := 8) (j := n8875) e_X10_readMark_44 h8874 (fun _ h => h) (fun f h => ⟨f, rfl, h⟩) (by decide) (by decide) (nI_clamp (by omega)) (vp_in_nI (by omega) (by decide)) trivial (fun _ _ _ h => h) (fun _ _ _ h => h) (fun σ8896 h8897 g8898 f8899 g8900 => ?_)
      refine m_aload_n F rfl e_X10_readMark_45 ?_
      refine r_callV F e_X10_readMark_46 (q_X10_goOn (x_l X) V c T Z u h P8876 L _ _  h8897.1 (hob) oP8876 ) cb_X10_goOn ml_X10_154 im_X10_goOn se_X10_goOn h8897 rfl rfl (rest := []) rfl (Nat.le_of_ble_eq_true rfl) ⟨Nat.le_of_ble_eq_true rfl, Nat.le_of_ble_eq_true rfl⟩ ⟨Nat.le_of_ble_eq_true rfl, Nat.le_of_ble_eq_true rfl⟩ (fun r σ8901 hp => ?_)
      obtain ⟨P8904, oP8904, rP8904, pr8905, h8902, rfl⟩ := hp
      have h8903 := HS.trans h8897 h8902 (by decide)
      have xP8904 := oP8904
      unfold OKP at xP8904
      unfold RA at rP8904
      exact m_vret F hQ e_X10_readMark_49 (⟨P8904, oP8904, (by unfold RP; omega), h8903, rfl⟩)
    · refine m_aload_n F rfl e_X10_readMark_23 ?_
      refine m_iconst F (v := 3) (by decide) e_X10_readMark_24 ?_
      refine r_callV F e_X10_readMark_25 (q_X10_wrong (x_l X) V c T Z u h P8876 L _ _ 3 h8874.1 (hob) oP8876 (by first | omega | assumption | decide)) cb_X10_wrong ml_X10_150 im_X10_wrong se_X10_wrong h8874 rfl rfl (rest := []) rfl (Nat.le_of_ble_eq_true rfl) ⟨Nat.le_of_ble_eq_true rfl, Nat.le_of_ble_eq_true rfl⟩ ⟨Nat.le_of_ble_eq_true rfl, Nat.le_of_ble_eq_true rfl⟩ (fun r σ8906 hp => ?_)
      obtain ⟨h8907, rfl⟩ := hp
      have h8908 := HS.trans h8874 h8907 (by decide)
      refine m_aload_n F rfl e_X10_readMark_28 ?_
      refine r_get F e_X10_readMark_29 fl_X10_141 h8908 rfl (fun v hv f8909 => ?_)
      obtain ⟨x8910, hx8910, rfl⟩ := hv
      replace hx8910 : 0 = 0 → x8910 ≠ 0 := hx8910
      refine m_if_ne F e_X10_readMark_32 (fun q32 => ?_) (fun q32 => ?_)
      · have h8911 := HS.z0 h8908 (f8909) q32
        refine m_aload_n F rfl e_X10_readMark_45 ?_
        refine r_callV F e_X10_readMark_46 (q_X10_goOn (x_l X) V c T 0 u h P8876 L _ _  h8911.1 (hob) oP8876 ) cb_X10_goOn ml_X10_154 im_X10_goOn se_X10_goOn h8911 rfl rfl (rest := []) rfl (Nat.le_of_ble_eq_true rfl) ⟨Nat.le_of_ble_eq_true rfl, Nat.le_of_ble_eq_true rfl⟩ ⟨Nat.le_of_ble_eq_true rfl, Nat.le_of_ble_eq_true rfl⟩ (fun r σ8912 hp => ?_)
        obtain ⟨P8915, oP8915, rP8915, pr8916, h8913, rfl⟩ := hp
        have h8914 := HS.trans h8911 h8913 (by decide)
        have xP8915 := oP8915
        unfold OKP at xP8915
        unfold RA at rP8915
        have h8917 : HS V c _ [0, 2, 3, 4, 5, 6, 7, 9, 10, 11, 12, 13, 14, 15, 16, 17, 18, 19, 20, 21, 22, 23] _ _ := ⟨HR.mono (Z' := Z) (by intro e; first | rfl | assumption | omega) h8914.1, h8914.2⟩
        exact m_vret F hQ e_X10_readMark_49 (⟨P8915, oP8915, (by unfold RP; omega), h8917, rfl⟩)
      · first | exact absurd q32 (hx8910 rfl) | contradiction
set_option maxRecDepth 20000 in
theorem q_X10_readFair (l : Launch) (V : VX) (c T Z u h : Nat) (P : NP) (L : Nat → LQ) (N : Nat) (σ : Mem)  (h0 : HR V c ⟨T, Z, u, h, P, L⟩ σ) (hob : OKB L) (hP : OKP P)  : Ct l V yX10_readFair cX10_readFair 3 none 8 0 0 N σ [.ref c] (fun r τ => ∃ P9 : NP, OKP P9 ∧ RP P P9 ∧ HS V c (⟨T, Z, u, h, P9, L⟩ : RG) [0, 2, 3, 4, 5, 6, 7, 8, 10, 11, 12, 13, 14, 15, 16, 17, 18, 19, 20, 21, 22, 23] σ τ ∧ r = none) := by
  refine Ct.of (by decide) (Nat.le_of_ble_eq_true rfl) [(0, .ref c)] rfl (fun X hX F hQ => ?_)
  have hPP := hP
  unfold OKP at hPP
  have h1 : HS V c ⟨T, Z, u, h, P, L⟩ [0, 2, 3, 4, 5, 6, 7, 8, 10, 11, 12, 13, 14, 15, 16, 17, 18, 19, 20, 21, 22, 23] σ σ := HS.start h0
  refine m_aload_n F rfl e_X10_readFair_0 ?_
  refine r_callV F e_X10_readFair_1 (q_X10_atHand (x_l X) V c T Z u h P L _ _  h1.1 (hob) hP ) cb_X10_atHand ml_X10_174 im_X10_atHand se_X10_atHand h1 rfl rfl (rest := []) rfl (Nat.le_of_ble_eq_true rfl) ⟨Nat.le_of_ble_eq_true rfl, Nat.le_of_ble_eq_true rfl⟩ ⟨Nat.le_of_ble_eq_true rfl, Nat.le_of_ble_eq_true rfl⟩ (fun r σ8918 hp => ?_)
  obtain ⟨P8922, oP8922, rP8922, h8919, n8921, gn8921, hn8921, rfl⟩ := hp
  have h8920 := HS.trans h1 h8919 (by decide)
  have xP8922 := oP8922
  unfold OKP at xP8922
  unfold RA at rP8922
  refine m_istore_n F (lv' := [(1, .int (nI n8921)), (0, .ref c)]) e_X10_readFair_4 (by decide) rfl ?_
  refine m_aload_n F rfl e_X10_readFair_5 ?_
  refine r_get F e_X10_readFair_6 fl_X10_141 h8920 rfl (fun v hv f8923 => ?_)
  obtain ⟨x8924, hx8924, rfl⟩ := hv
  replace hx8924 : Z = 0 → x8924 ≠ 0 := hx8924
  refine m_if_ne F e_X10_readFair_9 (fun q9 => ?_) (fun q9 => ?_)
  · have h8925 := HS.z0 h8920 (f8923) q9
    refine m_aload_n F rfl e_X10_readFair_26 ?_
    refine r_callV F e_X10_readFair_27 (q_X10_goOn (x_l X) V c T 0 u h P8922 L _ _  h8925.1 (hob) oP8922 ) cb_X10_goOn ml_X10_154 im_X10_goOn se_X10_goOn h8925 rfl rfl (rest := []) rfl (Nat.le_of_ble_eq_true rfl) ⟨Nat.le_of_ble_eq_true rfl, Nat.le_of_ble_eq_true rfl⟩ ⟨Nat.le_of_ble_eq_true rfl, Nat.le_of_ble_eq_true rfl⟩ (fun r σ8926 hp => ?_)
    obtain ⟨P8929, oP8929, rP8929, pr8930, h8927, rfl⟩ := hp
    have h8928 := HS.trans h8925 h8927 (by decide)
    have xP8929 := oP8929
    unfold OKP at xP8929
    unfold RA at rP8929
    refine m_aload_n F rfl e_X10_readFair_30 ?_
    refine m_iconst F (v := 1) (by decide) e_X10_readFair_31 ?_
    refine m_ldc F kc_X10_129 e_X10_readFair_32 ?_
    refine r_callV F e_X10_readFair_34 (q_X10_numeral (x_l X) V c T 0 u h P8929 L _ _ 1 9999999 h8928.1 (hob) oP8929 (by omega) (by omega)) cb_X10_numeral ml_X10_165 im_X10_numeral se_X10_numeral h8928 rfl rfl (rest := []) rfl (Nat.le_of_ble_eq_true rfl) ⟨Nat.le_of_ble_eq_true rfl, Nat.le_of_ble_eq_true rfl⟩ ⟨Nat.le_of_ble_eq_true rfl, Nat.le_of_ble_eq_true rfl⟩ (fun r σ8931 hp => ?_)
    obtain ⟨P8935, oP8935, rP8935, h8932, c8934⟩ := hp
    have h8933 := HS.trans h8928 h8932 (by decide)
    have xP8935 := oP8935
    unfold OKP at xP8935
    unfold RA at rP8935
    rcases c8934 with ⟨n8936, gn8936, hn8936, rfl⟩ | ⟨h8937, rfl⟩
    · refine m_istore_n F (lv' := [(2, .int (nI n8936)), (1, .int (nI n8921)), (0, .ref c)]) e_X10_readFair_37 (by decide) rfl ?_
      refine m_aload_n F rfl e_X10_readFair_38 ?_
      refine r_get F e_X10_readFair_39 fl_X10_141 h8933 rfl (fun v hv f8938 => ?_)
      obtain ⟨x8939, hx8939, rfl⟩ := hv
      replace hx8939 : 0 = 0 → x8939 ≠ 0 := hx8939
      refine m_if_ne F e_X10_readFair_42 (fun q42 => ?_) (fun q42 => ?_)
      · have h8940 := HS.z0 h8933 (f8938) q42
        have h8941 : HS V c _ [0, 2, 3, 4, 5, 6, 7, 8, 10, 11, 12, 13, 14, 15, 16, 17, 18, 19, 20, 21, 22, 23] _ _ := ⟨HR.mono (Z' := Z) (by intro e; first | rfl | assumption | omega) h8940.1, h8940.2⟩
        exact m_vret F hQ e_X10_readFair_52 (⟨P8935, oP8935, (by unfold RP; omega), h8941, rfl⟩)
      · first | exact absurd q42 (hx8939 rfl) | contradiction
    · have h8942 : HS V c (⟨T, 0, u, h, P8935, L⟩ : RG) [0, 2, 3, 4, 5, 6, 7, 8, 10, 11, 12, 13, 14, 15, 16, 17, 18, 19, 20, 21, 22, 23] _ _ := ⟨h8937, h8933.2⟩
      refine m_istore_n F (lv' := [(2, .int (nI 1)), (1, .int (nI n8921)), (0, .ref c)]) e_X10_readFair_37 (by decide) rfl ?_
      refine m_aload_n F rfl e_X10_readFair_38 ?_
      refine r_get F e_X10_readFair_39 fl_X10_141 h8942 rfl (fun v hv f8943 => ?_)
      obtain ⟨x8944, hx8944, rfl⟩ := hv
      replace hx8944 : 0 = 0 → x8944 ≠ 0 := hx8944
      refine m_if_ne F e_X10_readFair_42 (fun q42 => ?_) (fun q42 => ?_)
      · have h8945 := HS.z0 h8942 (f8943) q42
        have h8946 : HS V c _ [0, 2, 3, 4, 5, 6, 7, 8, 10, 11, 12, 13, 14, 15, 16, 17, 18, 19, 20, 21, 22, 23] _ _ := ⟨HR.mono (Z' := Z) (by intro e; first | rfl | assumption | omega) h8945.1, h8945.2⟩
        exact m_vret F hQ e_X10_readFair_52 (⟨P8935, oP8935, (by unfold RP; omega), h8946, rfl⟩)
      · first | exact absurd q42 (hx8944 rfl) | contradiction
  · subst q9
    refine m_aload_n F rfl e_X10_readFair_12 ?_
    refine r_get F e_X10_readFair_13 fl_X10_31 h8920 rfl (fun v hv f8947 => ?_)
    obtain rfl : v = .ref (c + 8) := hv
    refine m_iload_n F rfl e_X10_readFair_16 ?_
    refine r_iald F (len := 8) (j := n8921) e_X10_readFair_17 h8920 (fun _ h => h) (by decide) (nI_clamp (by omega)) (vp_in_nI (by omega) (by decide)) (fun x8948 h8949 f8950 => ?_)
    refine m_if_eq F e_X10_readFair_18 (fun q18 => ?_) (fun q18 => ?_)
    · subst q18
      refine m_aload_n F rfl e_X10_readFair_26 ?_
      refine r_callV F e_X10_readFair_27 (q_X10_goOn (x_l X) V c T Z u h P8922 L _ _  h8920.1 (hob) oP8922 ) cb_X10_goOn ml_X10_154 im_X10_goOn se_X10_goOn h8920 rfl rfl (rest := []) rfl (Nat.le_of_ble_eq_true rfl) ⟨Nat.le_of_ble_eq_true rfl, Nat.le_of_ble_eq_true rfl⟩ ⟨Nat.le_of_ble_eq_true rfl, Nat.le_of_ble_eq_true rfl⟩ (fun r σ8951 hp => ?_)
      obtain ⟨P8954, oP8954, rP8954, pr8955, h8952, rfl⟩ := hp
      have h8953 := HS.trans h8920 h8952 (by decide)
      have xP8954 := oP8954
      unfold OKP at xP8954
      unfold RA at rP8954
      refine m_aload_n F rfl e_X10_readFair_30 ?_
      refine m_iconst F (v := 1) (by decide) e_X10_readFair_31 ?_
      refine m_ldc F kc_X10_129 e_X10_readFair_32 ?_
      refine r_callV F e_X10_readFair_34 (q_X10_numeral (x_l X) V c T Z u h P8954 L _ _ 1 9999999 h8953.1 (hob) oP8954 (by omega) (by omega)) cb_X10_numeral ml_X10_165 im_X10_numeral se_X10_numeral h8953 rfl rfl (rest := []) rfl (Nat.le_of_ble_eq_true rfl) ⟨Nat.le_of_ble_eq_true rfl, Nat.le_of_ble_eq_true rfl⟩ ⟨Nat.le_of_ble_eq_true rfl, Nat.le_of_ble_eq_true rfl⟩ (fun r σ8956 hp => ?_)
      obtain ⟨P8960, oP8960, rP8960, h8957, c8959⟩ := hp
      have h8958 := HS.trans h8953 h8957 (by decide)
      have xP8960 := oP8960
      unfold OKP at xP8960
      unfold RA at rP8960
      rcases c8959 with ⟨n8961, gn8961, hn8961, rfl⟩ | ⟨h8962, rfl⟩
      · refine m_istore_n F (lv' := [(2, .int (nI n8961)), (1, .int (nI n8921)), (0, .ref c)]) e_X10_readFair_37 (by decide) rfl ?_
        refine m_aload_n F rfl e_X10_readFair_38 ?_
        refine r_get F e_X10_readFair_39 fl_X10_141 h8958 rfl (fun v hv f8963 => ?_)
        obtain ⟨x8964, hx8964, rfl⟩ := hv
        replace hx8964 : Z = 0 → x8964 ≠ 0 := hx8964
        refine m_if_ne F e_X10_readFair_42 (fun q42 => ?_) (fun q42 => ?_)
        · have h8965 := HS.z0 h8958 (f8963) q42
          have h8966 : HS V c _ [0, 2, 3, 4, 5, 6, 7, 8, 10, 11, 12, 13, 14, 15, 16, 17, 18, 19, 20, 21, 22, 23] _ _ := ⟨HR.mono (Z' := Z) (by intro e; first | rfl | assumption | omega) h8965.1, h8965.2⟩
          exact m_vret F hQ e_X10_readFair_52 (⟨P8960, oP8960, (by unfold RP; omega), h8966, rfl⟩)
        · subst q42
          refine m_aload_n F rfl e_X10_readFair_45 ?_
          refine r_get F e_X10_readFair_46 fl_X10_31 h8958 rfl (fun v hv f8967 => ?_)
          obtain rfl : v = .ref (c + 8) := hv
          refine m_iload_n F rfl e_X10_readFair_49 ?_
          refine m_iload_n F rfl e_X10_readFair_50 ?_
          refine r_iast F (g' := (⟨T, Z, u, h, P8960, L⟩ : RG)) (len := 8) (j := n8921) e_X10_readFair_51 h8958 (fun _ h => h) (fun f h => ⟨f, rfl, h⟩) (by decide) (by decide) (nI_clamp (by omega)) (vp_in_nI (by omega) (by decide)) trivial (fun _ _ _ h => h) (fun _ _ _ h => h) (fun σ8968 h8969 g8970 f8971 g8972 => ?_)
          exact m_vret F hQ e_X10_readFair_52 (⟨P8960, oP8960, (by unfold RP; omega), h8969, rfl⟩)
      · have h8973 : HS V c (⟨T, 0, u, h, P8960, L⟩ : RG) [0, 2, 3, 4, 5, 6, 7, 8, 10, 11, 12, 13, 14, 15, 16, 17, 18, 19, 20, 21, 22, 23] _ _ := ⟨h8962, h8958.2⟩
        refine m_istore_n F (lv' := [(2, .int (nI 1)), (1, .int (nI n8921)), (0, .ref c)]) e_X10_readFair_37 (by decide) rfl ?_
        refine m_aload_n F rfl e_X10_readFair_38 ?_
        refine r_get F e_X10_readFair_39 fl_X10_141 h8973 rfl (fun v hv f8974 => ?_)
        obtain ⟨x8975, hx8975, rfl⟩ := hv
        replace hx8975 : 0 = 0 → x8975 ≠ 0 := hx8975
        refine m_if_ne F e_X10_readFair_42 (fun q42 => ?_) (fun q42 => ?_)
        · have h8976 := HS.z0 h8973 (f8974) q42
          have h8977 : HS V c _ [0, 2, 3, 4, 5, 6, 7, 8, 10, 11, 12, 13, 14, 15, 16, 17, 18, 19, 20, 21, 22, 23] _ _ := ⟨HR.mono (Z' := Z) (by intro e; first | rfl | assumption | omega) h8976.1, h8976.2⟩
          exact m_vret F hQ e_X10_readFair_52 (⟨P8960, oP8960, (by unfold RP; omega), h8977, rfl⟩)
        · first | exact absurd q42 (hx8975 rfl) | contradiction
    · refine m_aload_n F rfl e_X10_readFair_21 ?_
      refine m_iconst F (v := 3) (by decide) e_X10_readFair_22 ?_
      refine r_callV F e_X10_readFair_23 (q_X10_wrong (x_l X) V c T Z u h P8922 L _ _ 3 h8920.1 (hob) oP8922 (by first | omega | assumption | decide)) cb_X10_wrong ml_X10_150 im_X10_wrong se_X10_wrong h8920 rfl rfl (rest := []) rfl (Nat.le_of_ble_eq_true rfl) ⟨Nat.le_of_ble_eq_true rfl, Nat.le_of_ble_eq_true rfl⟩ ⟨Nat.le_of_ble_eq_true rfl, Nat.le_of_ble_eq_true rfl⟩ (fun r σ8978 hp => ?_)
      obtain ⟨h8979, rfl⟩ := hp
      have h8980 := HS.trans h8920 h8979 (by decide)
      refine m_aload_n F rfl e_X10_readFair_26 ?_
      refine r_callV F e_X10_readFair_27 (q_X10_goOn (x_l X) V c T 0 u h P8922 L _ _  h8980.1 (hob) oP8922 ) cb_X10_goOn ml_X10_154 im_X10_goOn se_X10_goOn h8980 rfl rfl (rest := []) rfl (Nat.le_of_ble_eq_true rfl) ⟨Nat.le_of_ble_eq_true rfl, Nat.le_of_ble_eq_true rfl⟩ ⟨Nat.le_of_ble_eq_true rfl, Nat.le_of_ble_eq_true rfl⟩ (fun r σ8981 hp => ?_)
      obtain ⟨P8984, oP8984, rP8984, pr8985, h8982, rfl⟩ := hp
      have h8983 := HS.trans h8980 h8982 (by decide)
      have xP8984 := oP8984
      unfold OKP at xP8984
      unfold RA at rP8984
      refine m_aload_n F rfl e_X10_readFair_30 ?_
      refine m_iconst F (v := 1) (by decide) e_X10_readFair_31 ?_
      refine m_ldc F kc_X10_129 e_X10_readFair_32 ?_
      refine r_callV F e_X10_readFair_34 (q_X10_numeral (x_l X) V c T 0 u h P8984 L _ _ 1 9999999 h8983.1 (hob) oP8984 (by omega) (by omega)) cb_X10_numeral ml_X10_165 im_X10_numeral se_X10_numeral h8983 rfl rfl (rest := []) rfl (Nat.le_of_ble_eq_true rfl) ⟨Nat.le_of_ble_eq_true rfl, Nat.le_of_ble_eq_true rfl⟩ ⟨Nat.le_of_ble_eq_true rfl, Nat.le_of_ble_eq_true rfl⟩ (fun r σ8986 hp => ?_)
      obtain ⟨P8990, oP8990, rP8990, h8987, c8989⟩ := hp
      have h8988 := HS.trans h8983 h8987 (by decide)
      have xP8990 := oP8990
      unfold OKP at xP8990
      unfold RA at rP8990
      rcases c8989 with ⟨n8991, gn8991, hn8991, rfl⟩ | ⟨h8992, rfl⟩
      · refine m_istore_n F (lv' := [(2, .int (nI n8991)), (1, .int (nI n8921)), (0, .ref c)]) e_X10_readFair_37 (by decide) rfl ?_
        refine m_aload_n F rfl e_X10_readFair_38 ?_
        refine r_get F e_X10_readFair_39 fl_X10_141 h8988 rfl (fun v hv f8993 => ?_)
        obtain ⟨x8994, hx8994, rfl⟩ := hv
        replace hx8994 : 0 = 0 → x8994 ≠ 0 := hx8994
        refine m_if_ne F e_X10_readFair_42 (fun q42 => ?_) (fun q42 => ?_)
        · have h8995 := HS.z0 h8988 (f8993) q42
          have h8996 : HS V c _ [0, 2, 3, 4, 5, 6, 7, 8, 10, 11, 12, 13, 14, 15, 16, 17, 18, 19, 20, 21, 22, 23] _ _ := ⟨HR.mono (Z' := Z) (by intro e; first | rfl | assumption | omega) h8995.1, h8995.2⟩
          exact m_vret F hQ e_X10_readFair_52 (⟨P8990, oP8990, (by unfold RP; omega), h8996, rfl⟩)
        · first | exact absurd q42 (hx8994 rfl) | contradiction
      · have h8997 : HS V c (⟨T, 0, u, h, P8990, L⟩ : RG) [0, 2, 3, 4, 5, 6, 7, 8, 10, 11, 12, 13, 14, 15, 16, 17, 18, 19, 20, 21, 22, 23] _ _ := ⟨h8992, h8988.2⟩
        refine m_istore_n F (lv' := [(2, .int (nI 1)), (1, .int (nI n8921)), (0, .ref c)]) e_X10_readFair_37 (by decide) rfl ?_
        refine m_aload_n F rfl e_X10_readFair_38 ?_
        refine r_get F e_X10_readFair_39 fl_X10_141 h8997 rfl (fun v hv f8998 => ?_)
        obtain ⟨x8999, hx8999, rfl⟩ := hv
        replace hx8999 : 0 = 0 → x8999 ≠ 0 := hx8999
        refine m_if_ne F e_X10_readFair_42 (fun q42 => ?_) (fun q42 => ?_)
        · have h9000 := HS.z0 h8997 (f8998) q42
          have h9001 : HS V c _ [0, 2, 3, 4, 5, 6, 7, 8, 10, 11, 12, 13, 14, 15, 16, 17, 18, 19, 20, 21, 22, 23] _ _ := ⟨HR.mono (Z' := Z) (by intro e; first | rfl | assumption | omega) h9000.1, h9000.2⟩
          exact m_vret F hQ e_X10_readFair_52 (⟨P8990, oP8990, (by unfold RP; omega), h9001, rfl⟩)
        · first | exact absurd q42 (hx8999 rfl) | contradiction
set_option maxRecDepth 20000 in
theorem q_X10_readFee (l : Launch) (V : VX) (c T Z u h : Nat) (P : NP) (L : Nat → LQ) (N : Nat) (σ : Mem)  (h0 : HR V c ⟨T, Z, u, h, P, L⟩ σ) (hob : OKB L) (hP : OKP P)  : Ct l V yX10_readFee cX10_readFee 3 none 8 0 0 N σ [.ref c] (fun r τ => ∃ P9 : NP, OKP P9 ∧ RP P P9 ∧ HS V c (⟨T, Z, u, h, P9, L⟩ : RG) [0, 2, 3, 4, 5, 6, 7, 8, 9, 11, 12, 13, 14, 15, 16, 17, 18, 19, 20, 21, 22, 23] σ τ ∧ r = none) := by
  refine Ct.of (by decide) (Nat.le_of_ble_eq_true rfl) [(0, .ref c)] rfl (fun X hX F hQ => ?_)
  have hPP := hP
  unfold OKP at hPP
  have h1 : HS V c ⟨T, Z, u, h, P, L⟩ [0, 2, 3, 4, 5, 6, 7, 8, 9, 11, 12, 13, 14, 15, 16, 17, 18, 19, 20, 21, 22, 23] σ σ := HS.start h0
  refine m_aload_n F rfl e_X10_readFee_0 ?_
  refine r_callV F e_X10_readFee_1 (q_X10_atHand (x_l X) V c T Z u h P L _ _  h1.1 (hob) hP ) cb_X10_atHand ml_X10_174 im_X10_atHand se_X10_atHand h1 rfl rfl (rest := []) rfl (Nat.le_of_ble_eq_true rfl) ⟨Nat.le_of_ble_eq_true rfl, Nat.le_of_ble_eq_true rfl⟩ ⟨Nat.le_of_ble_eq_true rfl, Nat.le_of_ble_eq_true rfl⟩ (fun r σ9002 hp => ?_)
  obtain ⟨P9006, oP9006, rP9006, h9003, n9005, gn9005, hn9005, rfl⟩ := hp
  have h9004 := HS.trans h1 h9003 (by decide)
  have xP9006 := oP9006
  unfold OKP at xP9006
  unfold RA at rP9006
  refine m_istore_n F (lv' := [(1, .int (nI n9005)), (0, .ref c)]) e_X10_readFee_4 (by decide) rfl ?_
  refine m_aload_n F rfl e_X10_readFee_5 ?_
  refine r_get F e_X10_readFee_6 fl_X10_141 h9004 rfl (fun v hv f9007 => ?_)
  obtain ⟨x9008, hx9008, rfl⟩ := hv
  replace hx9008 : Z = 0 → x9008 ≠ 0 := hx9008
  refine m_if_ne F e_X10_readFee_9 (fun q9 => ?_) (fun q9 => ?_)
  · have h9009 := HS.z0 h9004 (f9007) q9
    refine m_aload_n F rfl e_X10_readFee_26 ?_
    refine r_callV F e_X10_readFee_27 (q_X10_goOn (x_l X) V c T 0 u h P9006 L _ _  h9009.1 (hob) oP9006 ) cb_X10_goOn ml_X10_154 im_X10_goOn se_X10_goOn h9009 rfl rfl (rest := []) rfl (Nat.le_of_ble_eq_true rfl) ⟨Nat.le_of_ble_eq_true rfl, Nat.le_of_ble_eq_true rfl⟩ ⟨Nat.le_of_ble_eq_true rfl, Nat.le_of_ble_eq_true rfl⟩ (fun r σ9010 hp => ?_)
    obtain ⟨P9013, oP9013, rP9013, pr9014, h9011, rfl⟩ := hp
    have h9012 := HS.trans h9009 h9011 (by decide)
    have xP9013 := oP9013
    unfold OKP at xP9013
    unfold RA at rP9013
    refine m_aload_n F rfl e_X10_readFee_30 ?_
    refine m_iconst F (v := 0) (by decide) e_X10_readFee_31 ?_
    refine m_ldc F kc_X10_177 e_X10_readFee_32 ?_
    refine r_callV F e_X10_readFee_34 (q_X10_numeral (x_l X) V c T 0 u h P9013 L _ _ 0 99999 h9012.1 (hob) oP9013 (by omega) (by omega)) cb_X10_numeral ml_X10_165 im_X10_numeral se_X10_numeral h9012 rfl rfl (rest := []) rfl (Nat.le_of_ble_eq_true rfl) ⟨Nat.le_of_ble_eq_true rfl, Nat.le_of_ble_eq_true rfl⟩ ⟨Nat.le_of_ble_eq_true rfl, Nat.le_of_ble_eq_true rfl⟩ (fun r σ9015 hp => ?_)
    obtain ⟨P9019, oP9019, rP9019, h9016, c9018⟩ := hp
    have h9017 := HS.trans h9012 h9016 (by decide)
    have xP9019 := oP9019
    unfold OKP at xP9019
    unfold RA at rP9019
    rcases c9018 with ⟨n9020, gn9020, hn9020, rfl⟩ | ⟨h9021, rfl⟩
    · refine m_istore_n F (lv' := [(2, .int (nI n9020)), (1, .int (nI n9005)), (0, .ref c)]) e_X10_readFee_37 (by decide) rfl ?_
      refine m_aload_n F rfl e_X10_readFee_38 ?_
      refine r_get F e_X10_readFee_39 fl_X10_141 h9017 rfl (fun v hv f9022 => ?_)
      obtain ⟨x9023, hx9023, rfl⟩ := hv
      replace hx9023 : 0 = 0 → x9023 ≠ 0 := hx9023
      refine m_if_ne F e_X10_readFee_42 (fun q42 => ?_) (fun q42 => ?_)
      · have h9024 := HS.z0 h9017 (f9022) q42
        have h9025 : HS V c _ [0, 2, 3, 4, 5, 6, 7, 8, 9, 11, 12, 13, 14, 15, 16, 17, 18, 19, 20, 21, 22, 23] _ _ := ⟨HR.mono (Z' := Z) (by intro e; first | rfl | assumption | omega) h9024.1, h9024.2⟩
        exact m_vret F hQ e_X10_readFee_54 (⟨P9019, oP9019, (by unfold RP; omega), h9025, rfl⟩)
      · first | exact absurd q42 (hx9023 rfl) | contradiction
    · have h9026 : HS V c (⟨T, 0, u, h, P9019, L⟩ : RG) [0, 2, 3, 4, 5, 6, 7, 8, 9, 11, 12, 13, 14, 15, 16, 17, 18, 19, 20, 21, 22, 23] _ _ := ⟨h9021, h9017.2⟩
      refine m_istore_n F (lv' := [(2, .int (nI 0)), (1, .int (nI n9005)), (0, .ref c)]) e_X10_readFee_37 (by decide) rfl ?_
      refine m_aload_n F rfl e_X10_readFee_38 ?_
      refine r_get F e_X10_readFee_39 fl_X10_141 h9026 rfl (fun v hv f9027 => ?_)
      obtain ⟨x9028, hx9028, rfl⟩ := hv
      replace hx9028 : 0 = 0 → x9028 ≠ 0 := hx9028
      refine m_if_ne F e_X10_readFee_42 (fun q42 => ?_) (fun q42 => ?_)
      · have h9029 := HS.z0 h9026 (f9027) q42
        have h9030 : HS V c _ [0, 2, 3, 4, 5, 6, 7, 8, 9, 11, 12, 13, 14, 15, 16, 17, 18, 19, 20, 21, 22, 23] _ _ := ⟨HR.mono (Z' := Z) (by intro e; first | rfl | assumption | omega) h9029.1, h9029.2⟩
        exact m_vret F hQ e_X10_readFee_54 (⟨P9019, oP9019, (by unfold RP; omega), h9030, rfl⟩)
      · first | exact absurd q42 (hx9028 rfl) | contradiction
  · subst q9
    refine m_aload_n F rfl e_X10_readFee_12 ?_
    refine r_get F e_X10_readFee_13 fl_X10_34 h9004 rfl (fun v hv f9031 => ?_)
    obtain rfl : v = .ref (c + 9) := hv
    refine m_iload_n F rfl e_X10_readFee_16 ?_
    refine r_iald F (len := 8) (j := n9005) e_X10_readFee_17 h9004 (fun _ h => h) (by decide) (nI_clamp (by omega)) (vp_in_nI (by omega) (by decide)) (fun x9032 h9033 f9034 => ?_)
    refine m_if_eq F e_X10_readFee_18 (fun q18 => ?_) (fun q18 => ?_)
    · subst q18
      refine m_aload_n F rfl e_X10_readFee_26 ?_
      refine r_callV F e_X10_readFee_27 (q_X10_goOn (x_l X) V c T Z u h P9006 L _ _  h9004.1 (hob) oP9006 ) cb_X10_goOn ml_X10_154 im_X10_goOn se_X10_goOn h9004 rfl rfl (rest := []) rfl (Nat.le_of_ble_eq_true rfl) ⟨Nat.le_of_ble_eq_true rfl, Nat.le_of_ble_eq_true rfl⟩ ⟨Nat.le_of_ble_eq_true rfl, Nat.le_of_ble_eq_true rfl⟩ (fun r σ9035 hp => ?_)
      obtain ⟨P9038, oP9038, rP9038, pr9039, h9036, rfl⟩ := hp
      have h9037 := HS.trans h9004 h9036 (by decide)
      have xP9038 := oP9038
      unfold OKP at xP9038
      unfold RA at rP9038
      refine m_aload_n F rfl e_X10_readFee_30 ?_
      refine m_iconst F (v := 0) (by decide) e_X10_readFee_31 ?_
      refine m_ldc F kc_X10_177 e_X10_readFee_32 ?_
      refine r_callV F e_X10_readFee_34 (q_X10_numeral (x_l X) V c T Z u h P9038 L _ _ 0 99999 h9037.1 (hob) oP9038 (by omega) (by omega)) cb_X10_numeral ml_X10_165 im_X10_numeral se_X10_numeral h9037 rfl rfl (rest := []) rfl (Nat.le_of_ble_eq_true rfl) ⟨Nat.le_of_ble_eq_true rfl, Nat.le_of_ble_eq_true rfl⟩ ⟨Nat.le_of_ble_eq_true rfl, Nat.le_of_ble_eq_true rfl⟩ (fun r σ9040 hp => ?_)
      obtain ⟨P9044, oP9044, rP9044, h9041, c9043⟩ := hp
      have h9042 := HS.trans h9037 h9041 (by decide)
      have xP9044 := oP9044
      unfold OKP at xP9044
      unfold RA at rP9044
      rcases c9043 with ⟨n9045, gn9045, hn9045, rfl⟩ | ⟨h9046, rfl⟩
      · refine m_istore_n F (lv' := [(2, .int (nI n9045)), (1, .int (nI n9005)), (0, .ref c)]) e_X10_readFee_37 (by decide) rfl ?_
        refine m_aload_n F rfl e_X10_readFee_38 ?_
        refine r_get F e_X10_readFee_39 fl_X10_141 h9042 rfl (fun v hv f9047 => ?_)
        obtain ⟨x9048, hx9048, rfl⟩ := hv
        replace hx9048 : Z = 0 → x9048 ≠ 0 := hx9048
        refine m_if_ne F e_X10_readFee_42 (fun q42 => ?_) (fun q42 => ?_)
        · have h9049 := HS.z0 h9042 (f9047) q42
          have h9050 : HS V c _ [0, 2, 3, 4, 5, 6, 7, 8, 9, 11, 12, 13, 14, 15, 16, 17, 18, 19, 20, 21, 22, 23] _ _ := ⟨HR.mono (Z' := Z) (by intro e; first | rfl | assumption | omega) h9049.1, h9049.2⟩
          exact m_vret F hQ e_X10_readFee_54 (⟨P9044, oP9044, (by unfold RP; omega), h9050, rfl⟩)
        · subst q42
          refine m_aload_n F rfl e_X10_readFee_45 ?_
          refine r_get F e_X10_readFee_46 fl_X10_34 h9042 rfl (fun v hv f9051 => ?_)
          obtain rfl : v = .ref (c + 9) := hv
          refine m_iload_n F rfl e_X10_readFee_49 ?_
          refine m_iload_n F rfl e_X10_readFee_50 ?_
          refine m_iconst F (v := 1) (by decide) e_X10_readFee_51 ?_
          refine m_iadd F e_X10_readFee_52 ?_
          refine Wm.topE (w := nI (n9045 + 1)) (nI_add n9045 1) ?_
          refine r_iast F (g' := (⟨T, Z, u, h, P9044, L⟩ : RG)) (len := 8) (j := n9005) e_X10_readFee_53 h9042 (fun _ h => h) (fun f h => ⟨f, rfl, h⟩) (by decide) (by decide) (nI_clamp (by omega)) (vp_in_nI (by omega) (by decide)) trivial (fun _ _ _ h => h) (fun _ _ _ h => h) (fun σ9052 h9053 g9054 f9055 g9056 => ?_)
          exact m_vret F hQ e_X10_readFee_54 (⟨P9044, oP9044, (by unfold RP; omega), h9053, rfl⟩)
      · have h9057 : HS V c (⟨T, 0, u, h, P9044, L⟩ : RG) [0, 2, 3, 4, 5, 6, 7, 8, 9, 11, 12, 13, 14, 15, 16, 17, 18, 19, 20, 21, 22, 23] _ _ := ⟨h9046, h9042.2⟩
        refine m_istore_n F (lv' := [(2, .int (nI 0)), (1, .int (nI n9005)), (0, .ref c)]) e_X10_readFee_37 (by decide) rfl ?_
        refine m_aload_n F rfl e_X10_readFee_38 ?_
        refine r_get F e_X10_readFee_39 fl_X10_141 h9057 rfl (fun v hv f9058 => ?_)
        obtain ⟨x9059, hx9059, rfl⟩ := hv
        replace hx9059 : 0 = 0 → x9059 ≠ 0 := hx9059
        refine m_if_ne F e_X10_readFee_42 (fun q42 => ?_) (fun q42 => ?_)
        · have h9060 := HS.z0 h9057 (f9058) q42
          have h9061 : HS V c _ [0, 2, 3, 4, 5, 6, 7, 8, 9, 11, 12, 13, 14, 15, 16, 17, 18, 19, 20, 21, 22, 23] _ _ := ⟨HR.mono (Z' := Z) (by intro e; first | rfl | assumption | omega) h9060.1, h9060.2⟩
          exact m_vret F hQ e_X10_readFee_54 (⟨P9044, oP9044, (by unfold RP; omega), h9061, rfl⟩)
        · first | exact absurd q42 (hx9059 rfl) | contradiction
    · refine m_aload_n F rfl e_X10_readFee_21 ?_
      refine m_iconst F (v := 3) (by decide) e_X10_readFee_22 ?_
      refine r_callV F e_X10_readFee_23 (q_X10_wrong (x_l X) V c T Z u h P9006 L _ _ 3 h9004.1 (hob) oP9006 (by first | omega | assumption | decide)) cb_X10_wrong ml_X10_150 im_X10_wrong se_X10_wrong h9004 rfl rfl (rest := []) rfl (Nat.le_of_ble_eq_true rfl) ⟨Nat.le_of_ble_eq_true rfl, Nat.le_of_ble_eq_true rfl⟩ ⟨Nat.le_of_ble_eq_true rfl, Nat.le_of_ble_eq_true rfl⟩ (fun r σ9062 hp => ?_)
      obtain ⟨h9063, rfl⟩ := hp
      have h9064 := HS.trans h9004 h9063 (by decide)
      refine m_aload_n F rfl e_X10_readFee_26 ?_
      refine r_callV F e_X10_readFee_27 (q_X10_goOn (x_l X) V c T 0 u h P9006 L _ _  h9064.1 (hob) oP9006 ) cb_X10_goOn ml_X10_154 im_X10_goOn se_X10_goOn h9064 rfl rfl (rest := []) rfl (Nat.le_of_ble_eq_true rfl) ⟨Nat.le_of_ble_eq_true rfl, Nat.le_of_ble_eq_true rfl⟩ ⟨Nat.le_of_ble_eq_true rfl, Nat.le_of_ble_eq_true rfl⟩ (fun r σ9065 hp => ?_)
      obtain ⟨P9068, oP9068, rP9068, pr9069, h9066, rfl⟩ := hp
      have h9067 := HS.trans h9064 h9066 (by decide)
      have xP9068 := oP9068
      unfold OKP at xP9068
      unfold RA at rP9068
      refine m_aload_n F rfl e_X10_readFee_30 ?_
      refine m_iconst F (v := 0) (by decide) e_X10_readFee_31 ?_
      refine m_ldc F kc_X10_177 e_X10_readFee_32 ?_
      refine r_callV F e_X10_readFee_34 (q_X10_numeral (x_l X) V c T 0 u h P9068 L _ _ 0 99999 h9067.1 (hob) oP9068 (by omega) (by omega)) cb_X10_numeral ml_X10_165 im_X10_numeral se_X10_numeral h9067 rfl rfl (rest := []) rfl (Nat.le_of_ble_eq_true rfl) ⟨Nat.le_of_ble_eq_true rfl, Nat.le_of_ble_eq_true rfl⟩ ⟨Nat.le_of_ble_eq_true rfl, Nat.le_of_ble_eq_true rfl⟩ (fun r σ9070 hp => ?_)
      obtain ⟨P9074, oP9074, rP9074, h9071, c9073⟩ := hp
      have h9072 := HS.trans h9067 h9071 (by decide)
      have xP9074 := oP9074
      unfold OKP at xP9074
      unfold RA at rP9074
      rcases c9073 with ⟨n9075, gn9075, hn9075, rfl⟩ | ⟨h9076, rfl⟩
      · refine m_istore_n F (lv' := [(2, .int (nI n9075)), (1, .int (nI n9005)), (0, .ref c)]) e_X10_readFee_37 (by decide) rfl ?_
        refine m_aload_n F rfl e_X10_readFee_38 ?_
        refine r_get F e_X10_readFee_39 fl_X10_141 h9072 rfl (fun v hv f9077 => ?_)
        obtain ⟨x9078, hx9078, rfl⟩ := hv
        replace hx9078 : 0 = 0 → x9078 ≠ 0 := hx9078
        refine m_if_ne F e_X10_readFee_42 (fun q42 => ?_) (fun q42 => ?_)
        · have h9079 := HS.z0 h9072 (f9077) q42
          have h9080 : HS V c _ [0, 2, 3, 4, 5, 6, 7, 8, 9, 11, 12, 13, 14, 15, 16, 17, 18, 19, 20, 21, 22, 23] _ _ := ⟨HR.mono (Z' := Z) (by intro e; first | rfl | assumption | omega) h9079.1, h9079.2⟩
          exact m_vret F hQ e_X10_readFee_54 (⟨P9074, oP9074, (by unfold RP; omega), h9080, rfl⟩)
        · first | exact absurd q42 (hx9078 rfl) | contradiction
      · have h9081 : HS V c (⟨T, 0, u, h, P9074, L⟩ : RG) [0, 2, 3, 4, 5, 6, 7, 8, 9, 11, 12, 13, 14, 15, 16, 17, 18, 19, 20, 21, 22, 23] _ _ := ⟨h9076, h9072.2⟩
        refine m_istore_n F (lv' := [(2, .int (nI 0)), (1, .int (nI n9005)), (0, .ref c)]) e_X10_readFee_37 (by decide) rfl ?_
        refine m_aload_n F rfl e_X10_readFee_38 ?_
        refine r_get F e_X10_readFee_39 fl_X10_141 h9081 rfl (fun v hv f9082 => ?_)
        obtain ⟨x9083, hx9083, rfl⟩ := hv
        replace hx9083 : 0 = 0 → x9083 ≠ 0 := hx9083
        refine m_if_ne F e_X10_readFee_42 (fun q42 => ?_) (fun q42 => ?_)
        · have h9084 := HS.z0 h9081 (f9082) q42
          have h9085 : HS V c _ [0, 2, 3, 4, 5, 6, 7, 8, 9, 11, 12, 13, 14, 15, 16, 17, 18, 19, 20, 21, 22, 23] _ _ := ⟨HR.mono (Z' := Z) (by intro e; first | rfl | assumption | omega) h9084.1, h9084.2⟩
          exact m_vret F hQ e_X10_readFee_54 (⟨P9074, oP9074, (by unfold RP; omega), h9085, rfl⟩)
        · first | exact absurd q42 (hx9083 rfl) | contradiction
set_option maxRecDepth 20000 in
theorem q_X10_readChange (l : Launch) (V : VX) (c T Z u h : Nat) (P : NP) (L : Nat → LQ) (N : Nat) (σ : Mem)  (h0 : HR V c ⟨T, Z, u, h, P, L⟩ σ) (hob : OKB L) (hP : OKP P)  : Ct l V yX10_readChange cX10_readChange 5 none 8 0 0 N σ [.ref c] (fun r τ => ∃ P9 : NP, OKP P9 ∧ RP P P9 ∧ HS V c (⟨T, Z, u, h, P9, L⟩ : RG) [0, 2, 4, 5, 6, 7, 8, 9, 10, 11, 14, 15, 16, 17, 18, 19, 20, 21, 22, 23] σ τ ∧ r = none) := by
  refine Ct.of (by decide) (Nat.le_of_ble_eq_true rfl) [(0, .ref c)] rfl (fun X hX F hQ => ?_)
  have hPP := hP
  unfold OKP at hPP
  have h1 : HS V c ⟨T, Z, u, h, P, L⟩ [0, 2, 4, 5, 6, 7, 8, 9, 10, 11, 14, 15, 16, 17, 18, 19, 20, 21, 22, 23] σ σ := HS.start h0
  refine m_bipush F (v := 8) (by decide) e_X10_readChange_0 ?_
  refine m_aload_n F rfl e_X10_readChange_2 ?_
  refine m_iconst F (v := 2) (by decide) e_X10_readChange_3 ?_
  refine r_callV F e_X10_readChange_4 (q_X10_reading2 (x_l X) V c T Z u h P L _ _  h1.1 (hob) hP ) cb_X10_reading ml_X10_157 im_X10_reading se_X10_reading h1 rfl rfl (rest := [.int 8]) rfl (Nat.le_of_ble_eq_true rfl) ⟨Nat.le_of_ble_eq_true rfl, Nat.le_of_ble_eq_true rfl⟩ ⟨Nat.le_of_ble_eq_true rfl, Nat.le_of_ble_eq_true rfl⟩ (fun r σ9086 hp => ?_)
  obtain ⟨h9087, rfl⟩ := hp
  have h9088 := HS.trans h1 h9087 (by decide)
  refine m_iadd F e_X10_readChange_7 ?_
  refine Wm.topE (w := nI (8 + P.n7)) (nI_add 8 P.n7) ?_
  refine m_istore_n F (lv' := [(1, .int (nI (8 + P.n7))), (0, .ref c)]) e_X10_readChange_8 (by decide) rfl ?_
  refine m_iload_n F rfl e_X10_readChange_9 ?_
  refine m_bipush F (v := 16) (by decide) e_X10_readChange_10 ?_
  refine m_icmp_ne F e_X10_readChange_12 (fun q12 => ?_) (fun q12 => ?_)
  · have c12 : (8 + P.n7) ≠ 16 := by have hh := mt (nI_eq (a := (8 + P.n7)) (b := 16) (by omega) (by omega)).mpr q12; omega
    refine m_aload_n F rfl e_X10_readChange_20 ?_
    refine r_callV F e_X10_readChange_21 (q_X10_goOn (x_l X) V c T Z u h P L _ _  h9088.1 (hob) hP ) cb_X10_goOn ml_X10_154 im_X10_goOn se_X10_goOn h9088 rfl rfl (rest := []) rfl (Nat.le_of_ble_eq_true rfl) ⟨Nat.le_of_ble_eq_true rfl, Nat.le_of_ble_eq_true rfl⟩ ⟨Nat.le_of_ble_eq_true rfl, Nat.le_of_ble_eq_true rfl⟩ (fun r σ9089 hp => ?_)
    obtain ⟨P9092, oP9092, rP9092, pr9093, h9090, rfl⟩ := hp
    have h9091 := HS.trans h9088 h9090 (by decide)
    have xP9092 := oP9092
    unfold OKP at xP9092
    unfold RA at rP9092
    refine m_aload_n F rfl e_X10_readChange_24 ?_
    refine m_iconst F (v := 2) (by decide) e_X10_readChange_25 ?_
    refine r_callV F e_X10_readChange_26 (q_X10_reading2 (x_l X) V c T Z u h P9092 L _ _  h9091.1 (hob) oP9092 ) cb_X10_reading ml_X10_157 im_X10_reading se_X10_reading h9091 rfl rfl (rest := []) rfl (Nat.le_of_ble_eq_true rfl) ⟨Nat.le_of_ble_eq_true rfl, Nat.le_of_ble_eq_true rfl⟩ ⟨Nat.le_of_ble_eq_true rfl, Nat.le_of_ble_eq_true rfl⟩ (fun r σ9094 hp => ?_)
    obtain ⟨h9095, rfl⟩ := hp
    have h9096 := HS.trans h9091 h9095 (by decide)
    refine m_if_eq F e_X10_readChange_29 (fun q29 => ?_) (fun q29 => ?_)
    · have c29 : P9092.n7 = 0 := (nI_eq (a := P9092.n7) (b := 0) (by omega) (by omega)).mp q29
      refine m_iconst F (v := 0) (by decide) e_X10_readChange_39 ?_
      refine m_goto F e_X10_readChange_40 ?_
      refine m_istore_n F (lv' := [(2, .int 0), (1, .int (nI (8 + P.n7))), (0, .ref c)]) e_X10_readChange_53 (by decide) rfl ?_
      refine m_aload_n F rfl e_X10_readChange_54 ?_
      refine m_iload_n F rfl e_X10_readChange_55 ?_
      refine m_bipush F (v := 99) (by decide) e_X10_readChange_56 ?_
      refine r_callV F e_X10_readChange_58 (q_X10_numeral (x_l X) V c T Z u h P9092 L _ _ 0 99 h9096.1 (hob) oP9092 (by omega) (by omega)) cb_X10_numeral ml_X10_165 im_X10_numeral se_X10_numeral h9096 rfl rfl (rest := []) rfl (Nat.le_of_ble_eq_true rfl) ⟨Nat.le_of_ble_eq_true rfl, Nat.le_of_ble_eq_true rfl⟩ ⟨Nat.le_of_ble_eq_true rfl, Nat.le_of_ble_eq_true rfl⟩ (fun r σ9097 hp => ?_)
      obtain ⟨P9101, oP9101, rP9101, h9098, c9100⟩ := hp
      have h9099 := HS.trans h9096 h9098 (by decide)
      have xP9101 := oP9101
      unfold OKP at xP9101
      unfold RA at rP9101
      rcases c9100 with ⟨n9102, gn9102, hn9102, rfl⟩ | ⟨h9103, rfl⟩
      · refine m_istore_n F (lv' := [(3, .int (nI n9102)), (2, .int 0), (1, .int (nI (8 + P.n7))), (0, .ref c)]) e_X10_readChange_61 (by decide) rfl ?_
        refine m_aload_n F rfl e_X10_readChange_62 ?_
        refine m_sipush F (v := 500) (by decide) e_X10_readChange_63 ?_
        refine m_sipush F (v := 2000) (by decide) e_X10_readChange_66 ?_
        refine r_callV F e_X10_readChange_69 (q_X10_numeral (x_l X) V c T Z u h P9101 L _ _ 500 2000 h9099.1 (hob) oP9101 (by omega) (by omega)) cb_X10_numeral ml_X10_165 im_X10_numeral se_X10_numeral h9099 rfl rfl (rest := []) rfl (Nat.le_of_ble_eq_true rfl) ⟨Nat.le_of_ble_eq_true rfl, Nat.le_of_ble_eq_true rfl⟩ ⟨Nat.le_of_ble_eq_true rfl, Nat.le_of_ble_eq_true rfl⟩ (fun r σ9104 hp => ?_)
        obtain ⟨P9108, oP9108, rP9108, h9105, c9107⟩ := hp
        have h9106 := HS.trans h9099 h9105 (by decide)
        have xP9108 := oP9108
        unfold OKP at xP9108
        unfold RA at rP9108
        rcases c9107 with ⟨n9109, gn9109, hn9109, rfl⟩ | ⟨h9110, rfl⟩
        · refine m_istore F (lv' := [(4, .int (nI n9109)), (3, .int (nI n9102)), (2, .int 0), (1, .int (nI (8 + P.n7))), (0, .ref c)]) e_X10_readChange_72 (by decide) rfl ?_
          refine m_aload_n F rfl e_X10_readChange_74 ?_
          refine r_get F e_X10_readChange_75 fl_X10_141 h9106 rfl (fun v hv f9111 => ?_)
          obtain ⟨x9112, hx9112, rfl⟩ := hv
          replace hx9112 : Z = 0 → x9112 ≠ 0 := hx9112
          refine m_if_eq F e_X10_readChange_78 (fun q78 => ?_) (fun q78 => ?_)
          · subst q78
            refine m_aload_n F rfl e_X10_readChange_82 ?_
            refine r_get F e_X10_readChange_83 fl_X10_40 h9106 rfl (fun v hv f9113 => ?_)
            obtain rfl : v = .ref (c + 11) := hv
            refine m_iload_n F rfl e_X10_readChange_86 ?_
            refine m_iload_n F rfl e_X10_readChange_87 ?_
            refine r_iast F (g' := (⟨T, Z, u, h, P9108, L⟩ : RG)) (len := 16) (j := 8 + P.n7) e_X10_readChange_88 h9106 (fun _ h => h) (fun f h => ⟨f, rfl, h⟩) (by decide) (by decide) (nI_clamp (by omega)) (vp_in_nI (by omega) (by decide)) ⟨n9102, by omega, rfl⟩ (fun _ _ _ h => h) (fun _ _ _ h => h) (fun σ9114 h9115 g9116 f9117 g9118 => ?_)
            refine m_aload_n F rfl e_X10_readChange_89 ?_
            refine r_get F e_X10_readChange_90 fl_X10_43 h9115 rfl (fun v hv f9119 => ?_)
            obtain rfl : v = .ref (c + 12) := hv
            refine m_iload_n F rfl e_X10_readChange_93 ?_
            refine m_iload F rfl e_X10_readChange_94 ?_
            refine r_iast F (g' := (⟨T, Z, u, h, (mkP P9108.n0 P9108.n2 P9108.n5 P9108.n7 P9108.m0 P9108.m5 P9108.w2 (P9108.n7 + 1) P9108.kk P9108.a), L⟩ : RG)) (len := 16) (j := 8 + P.n7) e_X10_readChange_96 h9115 (fun _ h => h) (fun f h => ⟨f, rfl, h⟩) (by decide) (by decide) (nI_clamp (by omega)) (vp_in_nI (by omega) (by decide)) ⟨n9109, by omega, rfl, fun h7 _ => absurd h7 (by omega), fun _ _ => by omega⟩ (fun i hi y hy => by obtain ⟨n9, a9, b9, c9, d9⟩ := hy; exact ⟨n9, a9, b9, c9, fun h7 h8 => d9 h7 (show i < 8 + P9108.w7 by have h6 : i < 8 + (P9108.n7 + 1) := h8; omega)⟩) (CR.chg (by intro k hk i x h; unfold EI at h ⊢; split at h <;> first | exact h | exact absurd rfl hk | trivial) rfl rfl) (fun σ9120 h9121 g9122 f9123 g9124 => ?_)
            obtain ⟨P9125, eP9125⟩ : ∃ P9, P9 = (mkP P9108.n0 P9108.n2 P9108.n5 P9108.n7 P9108.m0 P9108.m5 P9108.w2 (P9108.n7 + 1) P9108.kk P9108.a) := ⟨_, rfl⟩
            rw [← eP9125] at h9121
            have fP9125 : P9125.n0 = P9108.n0 ∧ P9125.n2 = P9108.n2 ∧ P9125.n5 = P9108.n5 ∧ P9125.n7 = P9108.n7 ∧ P9125.m0 = P9108.m0 ∧ P9125.m5 = P9108.m5 ∧ P9125.w2 = P9108.w2 ∧ P9125.w7 = P9108.n7 + 1 ∧ P9125.kk = P9108.kk ∧ P9125.a = P9108.a := by rw [eP9125]; exact ⟨rfl, rfl, rfl, rfl, rfl, rfl, rfl, rfl, rfl, rfl⟩
            refine m_aload_n F rfl e_X10_readChange_97 ?_
            refine m_iconst F (v := 2) (by decide) e_X10_readChange_98 ?_
            refine m_aload_n F rfl e_X10_readChange_99 ?_
            refine m_iconst F (v := 2) (by decide) e_X10_readChange_100 ?_
            have oP9129 : OKP P9125 := by unfold OKP; omega
            refine r_callV F e_X10_readChange_101 (q_X10_reading2 (x_l X) V c T Z u h P9125 L _ _  h9121.1 (hob) oP9129 ) cb_X10_reading ml_X10_157 im_X10_reading se_X10_reading h9121 rfl rfl (rest := [.int 2, .ref c]) rfl (Nat.le_of_ble_eq_true rfl) ⟨Nat.le_of_ble_eq_true rfl, Nat.le_of_ble_eq_true rfl⟩ ⟨Nat.le_of_ble_eq_true rfl, Nat.le_of_ble_eq_true rfl⟩ (fun r σ9126 hp => ?_)
            obtain ⟨h9127, rfl⟩ := hp
            have h9128 := HS.trans h9121 h9127 (by decide)
            refine m_iconst F (v := 1) (by decide) e_X10_readChange_104 ?_
            refine m_iadd F e_X10_readChange_105 ?_
            refine Wm.topE (w := nI (P9125.n7 + 1)) (nI_add P9125.n7 1) ?_
            refine r_callV F e_X10_readChange_106 (q_X10_reads2 (x_l X) V c T Z u h P9125 L _ _ (P9125.n7 + 1) h9128.1 (hob) oP9129 (by omega) (by first | omega | assumption | decide)) cb_X10_reads ml_X10_170 im_X10_reads se_X10_reads h9128 rfl rfl (rest := []) rfl (Nat.le_of_ble_eq_true rfl) ⟨Nat.le_of_ble_eq_true rfl, Nat.le_of_ble_eq_true rfl⟩ ⟨Nat.le_of_ble_eq_true rfl, Nat.le_of_ble_eq_true rfl⟩ (fun r σ9130 hp => ?_)
            obtain ⟨h9131, rfl⟩ := hp
            have h9132 := HS.trans h9128 h9131 (by decide)
            obtain ⟨P9133, eP9133⟩ : ∃ P9, P9 = (mkP P9125.n0 P9125.n2 P9125.n5 (P9125.n7 + 1) P9125.m0 P9125.m5 P9125.w2 P9125.w7 P9125.kk P9125.a) := ⟨_, rfl⟩
            rw [← eP9133] at h9132
            have fP9133 : P9133.n0 = P9125.n0 ∧ P9133.n2 = P9125.n2 ∧ P9133.n5 = P9125.n5 ∧ P9133.n7 = P9125.n7 + 1 ∧ P9133.m0 = P9125.m0 ∧ P9133.m5 = P9125.m5 ∧ P9133.w2 = P9125.w2 ∧ P9133.w7 = P9125.w7 ∧ P9133.kk = P9125.kk ∧ P9133.a = P9125.a := by rw [eP9133]; exact ⟨rfl, rfl, rfl, rfl, rfl, rfl, rfl, rfl, rfl, rfl⟩
            have oP9134 : OKP P9133 := by unfold OKP; omega
            exact m_vret F hQ e_X10_readChange_109 (⟨P9133, oP9134, (by unfold RP; omega), h9132, rfl⟩)
          · have h9135 := HS.z0 h9106 (f9111) q78
            have h9136 : HS V c _ [0, 2, 4, 5, 6, 7, 8, 9, 10, 11, 14, 15, 16, 17, 18, 19, 20, 21, 22, 23] _ _ := ⟨HR.mono (Z' := Z) (by intro e; first | rfl | assumption | omega) h9135.1, h9135.2⟩
            exact m_vret F hQ e_X10_readChange_81 (⟨P9108, oP9108, (by unfold RP; omega), h9136, rfl⟩)
        · have h9137 : HS V c (⟨T, 0, u, h, P9108, L⟩ : RG) [0, 2, 4, 5, 6, 7, 8, 9, 10, 11, 14, 15, 16, 17, 18, 19, 20, 21, 22, 23] _ _ := ⟨h9110, h9106.2⟩
          refine m_istore F (lv' := [(4, .int (nI 500)), (3, .int (nI n9102)), (2, .int 0), (1, .int (nI (8 + P.n7))), (0, .ref c)]) e_X10_readChange_72 (by decide) rfl ?_
          refine m_aload_n F rfl e_X10_readChange_74 ?_
          refine r_get F e_X10_readChange_75 fl_X10_141 h9137 rfl (fun v hv f9138 => ?_)
          obtain ⟨x9139, hx9139, rfl⟩ := hv
          replace hx9139 : 0 = 0 → x9139 ≠ 0 := hx9139
          refine m_if_eq F e_X10_readChange_78 (fun q78 => ?_) (fun q78 => ?_)
          · first | exact absurd q78 (hx9139 rfl) | contradiction
          · have h9140 := HS.z0 h9137 (f9138) q78
            have h9141 : HS V c _ [0, 2, 4, 5, 6, 7, 8, 9, 10, 11, 14, 15, 16, 17, 18, 19, 20, 21, 22, 23] _ _ := ⟨HR.mono (Z' := Z) (by intro e; first | rfl | assumption | omega) h9140.1, h9140.2⟩
            exact m_vret F hQ e_X10_readChange_81 (⟨P9108, oP9108, (by unfold RP; omega), h9141, rfl⟩)
      · have h9142 : HS V c (⟨T, 0, u, h, P9101, L⟩ : RG) [0, 2, 4, 5, 6, 7, 8, 9, 10, 11, 14, 15, 16, 17, 18, 19, 20, 21, 22, 23] _ _ := ⟨h9103, h9099.2⟩
        refine m_istore_n F (lv' := [(3, .int (nI 0)), (2, .int 0), (1, .int (nI (8 + P.n7))), (0, .ref c)]) e_X10_readChange_61 (by decide) rfl ?_
        refine m_aload_n F rfl e_X10_readChange_62 ?_
        refine m_sipush F (v := 500) (by decide) e_X10_readChange_63 ?_
        refine m_sipush F (v := 2000) (by decide) e_X10_readChange_66 ?_
        refine r_callV F e_X10_readChange_69 (q_X10_numeral (x_l X) V c T 0 u h P9101 L _ _ 500 2000 h9142.1 (hob) oP9101 (by omega) (by omega)) cb_X10_numeral ml_X10_165 im_X10_numeral se_X10_numeral h9142 rfl rfl (rest := []) rfl (Nat.le_of_ble_eq_true rfl) ⟨Nat.le_of_ble_eq_true rfl, Nat.le_of_ble_eq_true rfl⟩ ⟨Nat.le_of_ble_eq_true rfl, Nat.le_of_ble_eq_true rfl⟩ (fun r σ9143 hp => ?_)
        obtain ⟨P9147, oP9147, rP9147, h9144, c9146⟩ := hp
        have h9145 := HS.trans h9142 h9144 (by decide)
        have xP9147 := oP9147
        unfold OKP at xP9147
        unfold RA at rP9147
        rcases c9146 with ⟨n9148, gn9148, hn9148, rfl⟩ | ⟨h9149, rfl⟩
        · refine m_istore F (lv' := [(4, .int (nI n9148)), (3, .int (nI 0)), (2, .int 0), (1, .int (nI (8 + P.n7))), (0, .ref c)]) e_X10_readChange_72 (by decide) rfl ?_
          refine m_aload_n F rfl e_X10_readChange_74 ?_
          refine r_get F e_X10_readChange_75 fl_X10_141 h9145 rfl (fun v hv f9150 => ?_)
          obtain ⟨x9151, hx9151, rfl⟩ := hv
          replace hx9151 : 0 = 0 → x9151 ≠ 0 := hx9151
          refine m_if_eq F e_X10_readChange_78 (fun q78 => ?_) (fun q78 => ?_)
          · first | exact absurd q78 (hx9151 rfl) | contradiction
          · have h9152 := HS.z0 h9145 (f9150) q78
            have h9153 : HS V c _ [0, 2, 4, 5, 6, 7, 8, 9, 10, 11, 14, 15, 16, 17, 18, 19, 20, 21, 22, 23] _ _ := ⟨HR.mono (Z' := Z) (by intro e; first | rfl | assumption | omega) h9152.1, h9152.2⟩
            exact m_vret F hQ e_X10_readChange_81 (⟨P9147, oP9147, (by unfold RP; omega), h9153, rfl⟩)
        · have h9154 : HS V c (⟨T, 0, u, h, P9147, L⟩ : RG) [0, 2, 4, 5, 6, 7, 8, 9, 10, 11, 14, 15, 16, 17, 18, 19, 20, 21, 22, 23] _ _ := ⟨h9149, h9145.2⟩
          refine m_istore F (lv' := [(4, .int (nI 500)), (3, .int (nI 0)), (2, .int 0), (1, .int (nI (8 + P.n7))), (0, .ref c)]) e_X10_readChange_72 (by decide) rfl ?_
          refine m_aload_n F rfl e_X10_readChange_74 ?_
          refine r_get F e_X10_readChange_75 fl_X10_141 h9154 rfl (fun v hv f9155 => ?_)
          obtain ⟨x9156, hx9156, rfl⟩ := hv
          replace hx9156 : 0 = 0 → x9156 ≠ 0 := hx9156
          refine m_if_eq F e_X10_readChange_78 (fun q78 => ?_) (fun q78 => ?_)
          · first | exact absurd q78 (hx9156 rfl) | contradiction
          · have h9157 := HS.z0 h9154 (f9155) q78
            have h9158 : HS V c _ [0, 2, 4, 5, 6, 7, 8, 9, 10, 11, 14, 15, 16, 17, 18, 19, 20, 21, 22, 23] _ _ := ⟨HR.mono (Z' := Z) (by intro e; first | rfl | assumption | omega) h9157.1, h9157.2⟩
            exact m_vret F hQ e_X10_readChange_81 (⟨P9147, oP9147, (by unfold RP; omega), h9158, rfl⟩)
    · have c29 : P9092.n7 ≠ 0 := by have hh := mt (nI_eq (a := P9092.n7) (b := 0) (by omega) (by omega)).mpr q29; omega
      refine m_aload_n F rfl e_X10_readChange_32 ?_
      refine r_get F e_X10_readChange_33 fl_X10_141 h9096 rfl (fun v hv f9159 => ?_)
      obtain ⟨x9160, hx9160, rfl⟩ := hv
      replace hx9160 : Z = 0 → x9160 ≠ 0 := hx9160
      refine m_if_eq F e_X10_readChange_36 (fun q36 => ?_) (fun q36 => ?_)
      · subst q36
        refine m_aload_n F rfl e_X10_readChange_43 ?_
        refine r_get F e_X10_readChange_44 fl_X10_40 h9096 rfl (fun v hv f9161 => ?_)
        obtain rfl : v = .ref (c + 11) := hv
        refine m_iload_n F rfl e_X10_readChange_47 ?_
        refine m_iconst F (v := 1) (by decide) e_X10_readChange_48 ?_
        refine m_isub F e_X10_readChange_49 ?_
        refine Wm.topE (w := nI ((8 + P.n7) - 1)) (pk_sub (a := 8 + P.n7) (b := 1) (by omega)) ?_
        refine r_iald F (len := 16) (j := (8 + P.n7) - 1) e_X10_readChange_50 h9096 (fun _ h => h) (by decide) (nI_clamp (by omega)) (vp_in_nI (by omega) (by decide)) (fun x9162 h9163 f9164 => ?_)
        obtain ⟨n9165, hn9165, rfl⟩ := h9163
        refine m_iconst F (v := 1) (by decide) e_X10_readChange_51 ?_
        refine m_iadd F e_X10_readChange_52 ?_
        refine Wm.topE (w := nI (n9165 + 1)) (nI_add n9165 1) ?_
        refine m_istore_n F (lv' := [(2, .int (nI (n9165 + 1))), (1, .int (nI (8 + P.n7))), (0, .ref c)]) e_X10_readChange_53 (by decide) rfl ?_
        refine m_aload_n F rfl e_X10_readChange_54 ?_
        refine m_iload_n F rfl e_X10_readChange_55 ?_
        refine m_bipush F (v := 99) (by decide) e_X10_readChange_56 ?_
        refine r_callV F e_X10_readChange_58 (q_X10_numeral (x_l X) V c T Z u h P9092 L _ _ (n9165 + 1) 99 h9096.1 (hob) oP9092 (by omega) (by omega)) cb_X10_numeral ml_X10_165 im_X10_numeral se_X10_numeral h9096 rfl rfl (rest := []) rfl (Nat.le_of_ble_eq_true rfl) ⟨Nat.le_of_ble_eq_true rfl, Nat.le_of_ble_eq_true rfl⟩ ⟨Nat.le_of_ble_eq_true rfl, Nat.le_of_ble_eq_true rfl⟩ (fun r σ9166 hp => ?_)
        obtain ⟨P9170, oP9170, rP9170, h9167, c9169⟩ := hp
        have h9168 := HS.trans h9096 h9167 (by decide)
        have xP9170 := oP9170
        unfold OKP at xP9170
        unfold RA at rP9170
        rcases c9169 with ⟨n9171, gn9171, hn9171, rfl⟩ | ⟨h9172, rfl⟩
        · refine m_istore_n F (lv' := [(3, .int (nI n9171)), (2, .int (nI (n9165 + 1))), (1, .int (nI (8 + P.n7))), (0, .ref c)]) e_X10_readChange_61 (by decide) rfl ?_
          refine m_aload_n F rfl e_X10_readChange_62 ?_
          refine m_sipush F (v := 500) (by decide) e_X10_readChange_63 ?_
          refine m_sipush F (v := 2000) (by decide) e_X10_readChange_66 ?_
          refine r_callV F e_X10_readChange_69 (q_X10_numeral (x_l X) V c T Z u h P9170 L _ _ 500 2000 h9168.1 (hob) oP9170 (by omega) (by omega)) cb_X10_numeral ml_X10_165 im_X10_numeral se_X10_numeral h9168 rfl rfl (rest := []) rfl (Nat.le_of_ble_eq_true rfl) ⟨Nat.le_of_ble_eq_true rfl, Nat.le_of_ble_eq_true rfl⟩ ⟨Nat.le_of_ble_eq_true rfl, Nat.le_of_ble_eq_true rfl⟩ (fun r σ9173 hp => ?_)
          obtain ⟨P9177, oP9177, rP9177, h9174, c9176⟩ := hp
          have h9175 := HS.trans h9168 h9174 (by decide)
          have xP9177 := oP9177
          unfold OKP at xP9177
          unfold RA at rP9177
          rcases c9176 with ⟨n9178, gn9178, hn9178, rfl⟩ | ⟨h9179, rfl⟩
          · refine m_istore F (lv' := [(4, .int (nI n9178)), (3, .int (nI n9171)), (2, .int (nI (n9165 + 1))), (1, .int (nI (8 + P.n7))), (0, .ref c)]) e_X10_readChange_72 (by decide) rfl ?_
            refine m_aload_n F rfl e_X10_readChange_74 ?_
            refine r_get F e_X10_readChange_75 fl_X10_141 h9175 rfl (fun v hv f9180 => ?_)
            obtain ⟨x9181, hx9181, rfl⟩ := hv
            replace hx9181 : Z = 0 → x9181 ≠ 0 := hx9181
            refine m_if_eq F e_X10_readChange_78 (fun q78 => ?_) (fun q78 => ?_)
            · subst q78
              refine m_aload_n F rfl e_X10_readChange_82 ?_
              refine r_get F e_X10_readChange_83 fl_X10_40 h9175 rfl (fun v hv f9182 => ?_)
              obtain rfl : v = .ref (c + 11) := hv
              refine m_iload_n F rfl e_X10_readChange_86 ?_
              refine m_iload_n F rfl e_X10_readChange_87 ?_
              refine r_iast F (g' := (⟨T, Z, u, h, P9177, L⟩ : RG)) (len := 16) (j := 8 + P.n7) e_X10_readChange_88 h9175 (fun _ h => h) (fun f h => ⟨f, rfl, h⟩) (by decide) (by decide) (nI_clamp (by omega)) (vp_in_nI (by omega) (by decide)) ⟨n9171, by omega, rfl⟩ (fun _ _ _ h => h) (fun _ _ _ h => h) (fun σ9183 h9184 g9185 f9186 g9187 => ?_)
              refine m_aload_n F rfl e_X10_readChange_89 ?_
              refine r_get F e_X10_readChange_90 fl_X10_43 h9184 rfl (fun v hv f9188 => ?_)
              obtain rfl : v = .ref (c + 12) := hv
              refine m_iload_n F rfl e_X10_readChange_93 ?_
              refine m_iload F rfl e_X10_readChange_94 ?_
              refine r_iast F (g' := (⟨T, Z, u, h, (mkP P9177.n0 P9177.n2 P9177.n5 P9177.n7 P9177.m0 P9177.m5 P9177.w2 (P9177.n7 + 1) P9177.kk P9177.a), L⟩ : RG)) (len := 16) (j := 8 + P.n7) e_X10_readChange_96 h9184 (fun _ h => h) (fun f h => ⟨f, rfl, h⟩) (by decide) (by decide) (nI_clamp (by omega)) (vp_in_nI (by omega) (by decide)) ⟨n9178, by omega, rfl, fun h7 _ => absurd h7 (by omega), fun _ _ => by omega⟩ (fun i hi y hy => by obtain ⟨n9, a9, b9, c9, d9⟩ := hy; exact ⟨n9, a9, b9, c9, fun h7 h8 => d9 h7 (show i < 8 + P9177.w7 by have h6 : i < 8 + (P9177.n7 + 1) := h8; omega)⟩) (CR.chg (by intro k hk i x h; unfold EI at h ⊢; split at h <;> first | exact h | exact absurd rfl hk | trivial) rfl rfl) (fun σ9189 h9190 g9191 f9192 g9193 => ?_)
              obtain ⟨P9194, eP9194⟩ : ∃ P9, P9 = (mkP P9177.n0 P9177.n2 P9177.n5 P9177.n7 P9177.m0 P9177.m5 P9177.w2 (P9177.n7 + 1) P9177.kk P9177.a) := ⟨_, rfl⟩
              rw [← eP9194] at h9190
              have fP9194 : P9194.n0 = P9177.n0 ∧ P9194.n2 = P9177.n2 ∧ P9194.n5 = P9177.n5 ∧ P9194.n7 = P9177.n7 ∧ P9194.m0 = P9177.m0 ∧ P9194.m5 = P9177.m5 ∧ P9194.w2 = P9177.w2 ∧ P9194.w7 = P9177.n7 + 1 ∧ P9194.kk = P9177.kk ∧ P9194.a = P9177.a := by rw [eP9194]; exact ⟨rfl, rfl, rfl, rfl, rfl, rfl, rfl, rfl, rfl, rfl⟩
              refine m_aload_n F rfl e_X10_readChange_97 ?_
              refine m_iconst F (v := 2) (by decide) e_X10_readChange_98 ?_
              refine m_aload_n F rfl e_X10_readChange_99 ?_
              refine m_iconst F (v := 2) (by decide) e_X10_readChange_100 ?_
              have oP9198 : OKP P9194 := by unfold OKP; omega
              refine r_callV F e_X10_readChange_101 (q_X10_reading2 (x_l X) V c T Z u h P9194 L _ _  h9190.1 (hob) oP9198 ) cb_X10_reading ml_X10_157 im_X10_reading se_X10_reading h9190 rfl rfl (rest := [.int 2, .ref c]) rfl (Nat.le_of_ble_eq_true rfl) ⟨Nat.le_of_ble_eq_true rfl, Nat.le_of_ble_eq_true rfl⟩ ⟨Nat.le_of_ble_eq_true rfl, Nat.le_of_ble_eq_true rfl⟩ (fun r σ9195 hp => ?_)
              obtain ⟨h9196, rfl⟩ := hp
              have h9197 := HS.trans h9190 h9196 (by decide)
              refine m_iconst F (v := 1) (by decide) e_X10_readChange_104 ?_
              refine m_iadd F e_X10_readChange_105 ?_
              refine Wm.topE (w := nI (P9194.n7 + 1)) (nI_add P9194.n7 1) ?_
              refine r_callV F e_X10_readChange_106 (q_X10_reads2 (x_l X) V c T Z u h P9194 L _ _ (P9194.n7 + 1) h9197.1 (hob) oP9198 (by omega) (by first | omega | assumption | decide)) cb_X10_reads ml_X10_170 im_X10_reads se_X10_reads h9197 rfl rfl (rest := []) rfl (Nat.le_of_ble_eq_true rfl) ⟨Nat.le_of_ble_eq_true rfl, Nat.le_of_ble_eq_true rfl⟩ ⟨Nat.le_of_ble_eq_true rfl, Nat.le_of_ble_eq_true rfl⟩ (fun r σ9199 hp => ?_)
              obtain ⟨h9200, rfl⟩ := hp
              have h9201 := HS.trans h9197 h9200 (by decide)
              obtain ⟨P9202, eP9202⟩ : ∃ P9, P9 = (mkP P9194.n0 P9194.n2 P9194.n5 (P9194.n7 + 1) P9194.m0 P9194.m5 P9194.w2 P9194.w7 P9194.kk P9194.a) := ⟨_, rfl⟩
              rw [← eP9202] at h9201
              have fP9202 : P9202.n0 = P9194.n0 ∧ P9202.n2 = P9194.n2 ∧ P9202.n5 = P9194.n5 ∧ P9202.n7 = P9194.n7 + 1 ∧ P9202.m0 = P9194.m0 ∧ P9202.m5 = P9194.m5 ∧ P9202.w2 = P9194.w2 ∧ P9202.w7 = P9194.w7 ∧ P9202.kk = P9194.kk ∧ P9202.a = P9194.a := by rw [eP9202]; exact ⟨rfl, rfl, rfl, rfl, rfl, rfl, rfl, rfl, rfl, rfl⟩
              have oP9203 : OKP P9202 := by unfold OKP; omega
              exact m_vret F hQ e_X10_readChange_109 (⟨P9202, oP9203, (by unfold RP; omega), h9201, rfl⟩)
            · have h9204 := HS.z0 h9175 (f9180) q78
              have h9205 : HS V c _ [0, 2, 4, 5, 6, 7, 8, 9, 10, 11, 14, 15, 16, 17, 18, 19, 20, 21, 22, 23] _ _ := ⟨HR.mono (Z' := Z) (by intro e; first | rfl | assumption | omega) h9204.1, h9204.2⟩
              exact m_vret F hQ e_X10_readChange_81 (⟨P9177, oP9177, (by unfold RP; omega), h9205, rfl⟩)
          · have h9206 : HS V c (⟨T, 0, u, h, P9177, L⟩ : RG) [0, 2, 4, 5, 6, 7, 8, 9, 10, 11, 14, 15, 16, 17, 18, 19, 20, 21, 22, 23] _ _ := ⟨h9179, h9175.2⟩
            refine m_istore F (lv' := [(4, .int (nI 500)), (3, .int (nI n9171)), (2, .int (nI (n9165 + 1))), (1, .int (nI (8 + P.n7))), (0, .ref c)]) e_X10_readChange_72 (by decide) rfl ?_
            refine m_aload_n F rfl e_X10_readChange_74 ?_
            refine r_get F e_X10_readChange_75 fl_X10_141 h9206 rfl (fun v hv f9207 => ?_)
            obtain ⟨x9208, hx9208, rfl⟩ := hv
            replace hx9208 : 0 = 0 → x9208 ≠ 0 := hx9208
            refine m_if_eq F e_X10_readChange_78 (fun q78 => ?_) (fun q78 => ?_)
            · first | exact absurd q78 (hx9208 rfl) | contradiction
            · have h9209 := HS.z0 h9206 (f9207) q78
              have h9210 : HS V c _ [0, 2, 4, 5, 6, 7, 8, 9, 10, 11, 14, 15, 16, 17, 18, 19, 20, 21, 22, 23] _ _ := ⟨HR.mono (Z' := Z) (by intro e; first | rfl | assumption | omega) h9209.1, h9209.2⟩
              exact m_vret F hQ e_X10_readChange_81 (⟨P9177, oP9177, (by unfold RP; omega), h9210, rfl⟩)
        · have h9211 : HS V c (⟨T, 0, u, h, P9170, L⟩ : RG) [0, 2, 4, 5, 6, 7, 8, 9, 10, 11, 14, 15, 16, 17, 18, 19, 20, 21, 22, 23] _ _ := ⟨h9172, h9168.2⟩
          refine m_istore_n F (lv' := [(3, .int (nI (n9165 + 1))), (2, .int (nI (n9165 + 1))), (1, .int (nI (8 + P.n7))), (0, .ref c)]) e_X10_readChange_61 (by decide) rfl ?_
          refine m_aload_n F rfl e_X10_readChange_62 ?_
          refine m_sipush F (v := 500) (by decide) e_X10_readChange_63 ?_
          refine m_sipush F (v := 2000) (by decide) e_X10_readChange_66 ?_
          refine r_callV F e_X10_readChange_69 (q_X10_numeral (x_l X) V c T 0 u h P9170 L _ _ 500 2000 h9211.1 (hob) oP9170 (by omega) (by omega)) cb_X10_numeral ml_X10_165 im_X10_numeral se_X10_numeral h9211 rfl rfl (rest := []) rfl (Nat.le_of_ble_eq_true rfl) ⟨Nat.le_of_ble_eq_true rfl, Nat.le_of_ble_eq_true rfl⟩ ⟨Nat.le_of_ble_eq_true rfl, Nat.le_of_ble_eq_true rfl⟩ (fun r σ9212 hp => ?_)
          obtain ⟨P9216, oP9216, rP9216, h9213, c9215⟩ := hp
          have h9214 := HS.trans h9211 h9213 (by decide)
          have xP9216 := oP9216
          unfold OKP at xP9216
          unfold RA at rP9216
          rcases c9215 with ⟨n9217, gn9217, hn9217, rfl⟩ | ⟨h9218, rfl⟩
          · refine m_istore F (lv' := [(4, .int (nI n9217)), (3, .int (nI (n9165 + 1))), (2, .int (nI (n9165 + 1))), (1, .int (nI (8 + P.n7))), (0, .ref c)]) e_X10_readChange_72 (by decide) rfl ?_
            refine m_aload_n F rfl e_X10_readChange_74 ?_
            refine r_get F e_X10_readChange_75 fl_X10_141 h9214 rfl (fun v hv f9219 => ?_)
            obtain ⟨x9220, hx9220, rfl⟩ := hv
            replace hx9220 : 0 = 0 → x9220 ≠ 0 := hx9220
            refine m_if_eq F e_X10_readChange_78 (fun q78 => ?_) (fun q78 => ?_)
            · first | exact absurd q78 (hx9220 rfl) | contradiction
            · have h9221 := HS.z0 h9214 (f9219) q78
              have h9222 : HS V c _ [0, 2, 4, 5, 6, 7, 8, 9, 10, 11, 14, 15, 16, 17, 18, 19, 20, 21, 22, 23] _ _ := ⟨HR.mono (Z' := Z) (by intro e; first | rfl | assumption | omega) h9221.1, h9221.2⟩
              exact m_vret F hQ e_X10_readChange_81 (⟨P9216, oP9216, (by unfold RP; omega), h9222, rfl⟩)
          · have h9223 : HS V c (⟨T, 0, u, h, P9216, L⟩ : RG) [0, 2, 4, 5, 6, 7, 8, 9, 10, 11, 14, 15, 16, 17, 18, 19, 20, 21, 22, 23] _ _ := ⟨h9218, h9214.2⟩
            refine m_istore F (lv' := [(4, .int (nI 500)), (3, .int (nI (n9165 + 1))), (2, .int (nI (n9165 + 1))), (1, .int (nI (8 + P.n7))), (0, .ref c)]) e_X10_readChange_72 (by decide) rfl ?_
            refine m_aload_n F rfl e_X10_readChange_74 ?_
            refine r_get F e_X10_readChange_75 fl_X10_141 h9223 rfl (fun v hv f9224 => ?_)
            obtain ⟨x9225, hx9225, rfl⟩ := hv
            replace hx9225 : 0 = 0 → x9225 ≠ 0 := hx9225
            refine m_if_eq F e_X10_readChange_78 (fun q78 => ?_) (fun q78 => ?_)
            · first | exact absurd q78 (hx9225 rfl) | contradiction
            · have h9226 := HS.z0 h9223 (f9224) q78
              have h9227 : HS V c _ [0, 2, 4, 5, 6, 7, 8, 9, 10, 11, 14, 15, 16, 17, 18, 19, 20, 21, 22, 23] _ _ := ⟨HR.mono (Z' := Z) (by intro e; first | rfl | assumption | omega) h9226.1, h9226.2⟩
              exact m_vret F hQ e_X10_readChange_81 (⟨P9216, oP9216, (by unfold RP; omega), h9227, rfl⟩)
      · have h9228 := HS.z0 h9096 (f9159) q36
        refine m_iconst F (v := 0) (by decide) e_X10_readChange_39 ?_
        refine m_goto F e_X10_readChange_40 ?_
        refine m_istore_n F (lv' := [(2, .int 0), (1, .int (nI (8 + P.n7))), (0, .ref c)]) e_X10_readChange_53 (by decide) rfl ?_
        refine m_aload_n F rfl e_X10_readChange_54 ?_
        refine m_iload_n F rfl e_X10_readChange_55 ?_
        refine m_bipush F (v := 99) (by decide) e_X10_readChange_56 ?_
        refine r_callV F e_X10_readChange_58 (q_X10_numeral (x_l X) V c T 0 u h P9092 L _ _ 0 99 h9228.1 (hob) oP9092 (by omega) (by omega)) cb_X10_numeral ml_X10_165 im_X10_numeral se_X10_numeral h9228 rfl rfl (rest := []) rfl (Nat.le_of_ble_eq_true rfl) ⟨Nat.le_of_ble_eq_true rfl, Nat.le_of_ble_eq_true rfl⟩ ⟨Nat.le_of_ble_eq_true rfl, Nat.le_of_ble_eq_true rfl⟩ (fun r σ9229 hp => ?_)
        obtain ⟨P9233, oP9233, rP9233, h9230, c9232⟩ := hp
        have h9231 := HS.trans h9228 h9230 (by decide)
        have xP9233 := oP9233
        unfold OKP at xP9233
        unfold RA at rP9233
        rcases c9232 with ⟨n9234, gn9234, hn9234, rfl⟩ | ⟨h9235, rfl⟩
        · refine m_istore_n F (lv' := [(3, .int (nI n9234)), (2, .int 0), (1, .int (nI (8 + P.n7))), (0, .ref c)]) e_X10_readChange_61 (by decide) rfl ?_
          refine m_aload_n F rfl e_X10_readChange_62 ?_
          refine m_sipush F (v := 500) (by decide) e_X10_readChange_63 ?_
          refine m_sipush F (v := 2000) (by decide) e_X10_readChange_66 ?_
          refine r_callV F e_X10_readChange_69 (q_X10_numeral (x_l X) V c T 0 u h P9233 L _ _ 500 2000 h9231.1 (hob) oP9233 (by omega) (by omega)) cb_X10_numeral ml_X10_165 im_X10_numeral se_X10_numeral h9231 rfl rfl (rest := []) rfl (Nat.le_of_ble_eq_true rfl) ⟨Nat.le_of_ble_eq_true rfl, Nat.le_of_ble_eq_true rfl⟩ ⟨Nat.le_of_ble_eq_true rfl, Nat.le_of_ble_eq_true rfl⟩ (fun r σ9236 hp => ?_)
          obtain ⟨P9240, oP9240, rP9240, h9237, c9239⟩ := hp
          have h9238 := HS.trans h9231 h9237 (by decide)
          have xP9240 := oP9240
          unfold OKP at xP9240
          unfold RA at rP9240
          rcases c9239 with ⟨n9241, gn9241, hn9241, rfl⟩ | ⟨h9242, rfl⟩
          · refine m_istore F (lv' := [(4, .int (nI n9241)), (3, .int (nI n9234)), (2, .int 0), (1, .int (nI (8 + P.n7))), (0, .ref c)]) e_X10_readChange_72 (by decide) rfl ?_
            refine m_aload_n F rfl e_X10_readChange_74 ?_
            refine r_get F e_X10_readChange_75 fl_X10_141 h9238 rfl (fun v hv f9243 => ?_)
            obtain ⟨x9244, hx9244, rfl⟩ := hv
            replace hx9244 : 0 = 0 → x9244 ≠ 0 := hx9244
            refine m_if_eq F e_X10_readChange_78 (fun q78 => ?_) (fun q78 => ?_)
            · first | exact absurd q78 (hx9244 rfl) | contradiction
            · have h9245 := HS.z0 h9238 (f9243) q78
              have h9246 : HS V c _ [0, 2, 4, 5, 6, 7, 8, 9, 10, 11, 14, 15, 16, 17, 18, 19, 20, 21, 22, 23] _ _ := ⟨HR.mono (Z' := Z) (by intro e; first | rfl | assumption | omega) h9245.1, h9245.2⟩
              exact m_vret F hQ e_X10_readChange_81 (⟨P9240, oP9240, (by unfold RP; omega), h9246, rfl⟩)
          · have h9247 : HS V c (⟨T, 0, u, h, P9240, L⟩ : RG) [0, 2, 4, 5, 6, 7, 8, 9, 10, 11, 14, 15, 16, 17, 18, 19, 20, 21, 22, 23] _ _ := ⟨h9242, h9238.2⟩
            refine m_istore F (lv' := [(4, .int (nI 500)), (3, .int (nI n9234)), (2, .int 0), (1, .int (nI (8 + P.n7))), (0, .ref c)]) e_X10_readChange_72 (by decide) rfl ?_
            refine m_aload_n F rfl e_X10_readChange_74 ?_
            refine r_get F e_X10_readChange_75 fl_X10_141 h9247 rfl (fun v hv f9248 => ?_)
            obtain ⟨x9249, hx9249, rfl⟩ := hv
            replace hx9249 : 0 = 0 → x9249 ≠ 0 := hx9249
            refine m_if_eq F e_X10_readChange_78 (fun q78 => ?_) (fun q78 => ?_)
            · first | exact absurd q78 (hx9249 rfl) | contradiction
            · have h9250 := HS.z0 h9247 (f9248) q78
              have h9251 : HS V c _ [0, 2, 4, 5, 6, 7, 8, 9, 10, 11, 14, 15, 16, 17, 18, 19, 20, 21, 22, 23] _ _ := ⟨HR.mono (Z' := Z) (by intro e; first | rfl | assumption | omega) h9250.1, h9250.2⟩
              exact m_vret F hQ e_X10_readChange_81 (⟨P9240, oP9240, (by unfold RP; omega), h9251, rfl⟩)
        · have h9252 : HS V c (⟨T, 0, u, h, P9233, L⟩ : RG) [0, 2, 4, 5, 6, 7, 8, 9, 10, 11, 14, 15, 16, 17, 18, 19, 20, 21, 22, 23] _ _ := ⟨h9235, h9231.2⟩
          refine m_istore_n F (lv' := [(3, .int (nI 0)), (2, .int 0), (1, .int (nI (8 + P.n7))), (0, .ref c)]) e_X10_readChange_61 (by decide) rfl ?_
          refine m_aload_n F rfl e_X10_readChange_62 ?_
          refine m_sipush F (v := 500) (by decide) e_X10_readChange_63 ?_
          refine m_sipush F (v := 2000) (by decide) e_X10_readChange_66 ?_
          refine r_callV F e_X10_readChange_69 (q_X10_numeral (x_l X) V c T 0 u h P9233 L _ _ 500 2000 h9252.1 (hob) oP9233 (by omega) (by omega)) cb_X10_numeral ml_X10_165 im_X10_numeral se_X10_numeral h9252 rfl rfl (rest := []) rfl (Nat.le_of_ble_eq_true rfl) ⟨Nat.le_of_ble_eq_true rfl, Nat.le_of_ble_eq_true rfl⟩ ⟨Nat.le_of_ble_eq_true rfl, Nat.le_of_ble_eq_true rfl⟩ (fun r σ9253 hp => ?_)
          obtain ⟨P9257, oP9257, rP9257, h9254, c9256⟩ := hp
          have h9255 := HS.trans h9252 h9254 (by decide)
          have xP9257 := oP9257
          unfold OKP at xP9257
          unfold RA at rP9257
          rcases c9256 with ⟨n9258, gn9258, hn9258, rfl⟩ | ⟨h9259, rfl⟩
          · refine m_istore F (lv' := [(4, .int (nI n9258)), (3, .int (nI 0)), (2, .int 0), (1, .int (nI (8 + P.n7))), (0, .ref c)]) e_X10_readChange_72 (by decide) rfl ?_
            refine m_aload_n F rfl e_X10_readChange_74 ?_
            refine r_get F e_X10_readChange_75 fl_X10_141 h9255 rfl (fun v hv f9260 => ?_)
            obtain ⟨x9261, hx9261, rfl⟩ := hv
            replace hx9261 : 0 = 0 → x9261 ≠ 0 := hx9261
            refine m_if_eq F e_X10_readChange_78 (fun q78 => ?_) (fun q78 => ?_)
            · first | exact absurd q78 (hx9261 rfl) | contradiction
            · have h9262 := HS.z0 h9255 (f9260) q78
              have h9263 : HS V c _ [0, 2, 4, 5, 6, 7, 8, 9, 10, 11, 14, 15, 16, 17, 18, 19, 20, 21, 22, 23] _ _ := ⟨HR.mono (Z' := Z) (by intro e; first | rfl | assumption | omega) h9262.1, h9262.2⟩
              exact m_vret F hQ e_X10_readChange_81 (⟨P9257, oP9257, (by unfold RP; omega), h9263, rfl⟩)
          · have h9264 : HS V c (⟨T, 0, u, h, P9257, L⟩ : RG) [0, 2, 4, 5, 6, 7, 8, 9, 10, 11, 14, 15, 16, 17, 18, 19, 20, 21, 22, 23] _ _ := ⟨h9259, h9255.2⟩
            refine m_istore F (lv' := [(4, .int (nI 500)), (3, .int (nI 0)), (2, .int 0), (1, .int (nI (8 + P.n7))), (0, .ref c)]) e_X10_readChange_72 (by decide) rfl ?_
            refine m_aload_n F rfl e_X10_readChange_74 ?_
            refine r_get F e_X10_readChange_75 fl_X10_141 h9264 rfl (fun v hv f9265 => ?_)
            obtain ⟨x9266, hx9266, rfl⟩ := hv
            replace hx9266 : 0 = 0 → x9266 ≠ 0 := hx9266
            refine m_if_eq F e_X10_readChange_78 (fun q78 => ?_) (fun q78 => ?_)
            · first | exact absurd q78 (hx9266 rfl) | contradiction
            · have h9267 := HS.z0 h9264 (f9265) q78
              have h9268 : HS V c _ [0, 2, 4, 5, 6, 7, 8, 9, 10, 11, 14, 15, 16, 17, 18, 19, 20, 21, 22, 23] _ _ := ⟨HR.mono (Z' := Z) (by intro e; first | rfl | assumption | omega) h9267.1, h9267.2⟩
              exact m_vret F hQ e_X10_readChange_81 (⟨P9257, oP9257, (by unfold RP; omega), h9268, rfl⟩)
  · have c12 : (8 + P.n7) = 16 := (nI_eq (a := (8 + P.n7)) (b := 16) (by omega) (by omega)).mp q12
    refine m_aload_n F rfl e_X10_readChange_15 ?_
    refine m_iconst F (v := 2) (by decide) e_X10_readChange_16 ?_
    refine r_callV F e_X10_readChange_17 (q_X10_wrong (x_l X) V c T Z u h P L _ _ 2 h9088.1 (hob) hP (by first | omega | assumption | decide)) cb_X10_wrong ml_X10_150 im_X10_wrong se_X10_wrong h9088 rfl rfl (rest := []) rfl (Nat.le_of_ble_eq_true rfl) ⟨Nat.le_of_ble_eq_true rfl, Nat.le_of_ble_eq_true rfl⟩ ⟨Nat.le_of_ble_eq_true rfl, Nat.le_of_ble_eq_true rfl⟩ (fun r σ9269 hp => ?_)
    obtain ⟨h9270, rfl⟩ := hp
    have h9271 := HS.trans h9088 h9270 (by decide)
    refine m_aload_n F rfl e_X10_readChange_20 ?_
    refine r_callV F e_X10_readChange_21 (q_X10_goOn (x_l X) V c T 0 u h P L _ _  h9271.1 (hob) hP ) cb_X10_goOn ml_X10_154 im_X10_goOn se_X10_goOn h9271 rfl rfl (rest := []) rfl (Nat.le_of_ble_eq_true rfl) ⟨Nat.le_of_ble_eq_true rfl, Nat.le_of_ble_eq_true rfl⟩ ⟨Nat.le_of_ble_eq_true rfl, Nat.le_of_ble_eq_true rfl⟩ (fun r σ9272 hp => ?_)
    obtain ⟨P9275, oP9275, rP9275, pr9276, h9273, rfl⟩ := hp
    have h9274 := HS.trans h9271 h9273 (by decide)
    have xP9275 := oP9275
    unfold OKP at xP9275
    unfold RA at rP9275
    refine m_aload_n F rfl e_X10_readChange_24 ?_
    refine m_iconst F (v := 2) (by decide) e_X10_readChange_25 ?_
    refine r_callV F e_X10_readChange_26 (q_X10_reading2 (x_l X) V c T 0 u h P9275 L _ _  h9274.1 (hob) oP9275 ) cb_X10_reading ml_X10_157 im_X10_reading se_X10_reading h9274 rfl rfl (rest := []) rfl (Nat.le_of_ble_eq_true rfl) ⟨Nat.le_of_ble_eq_true rfl, Nat.le_of_ble_eq_true rfl⟩ ⟨Nat.le_of_ble_eq_true rfl, Nat.le_of_ble_eq_true rfl⟩ (fun r σ9277 hp => ?_)
    obtain ⟨h9278, rfl⟩ := hp
    have h9279 := HS.trans h9274 h9278 (by decide)
    refine m_if_eq F e_X10_readChange_29 (fun q29 => ?_) (fun q29 => ?_)
    · have c29 : P9275.n7 = 0 := (nI_eq (a := P9275.n7) (b := 0) (by omega) (by omega)).mp q29
      refine m_iconst F (v := 0) (by decide) e_X10_readChange_39 ?_
      refine m_goto F e_X10_readChange_40 ?_
      refine m_istore_n F (lv' := [(2, .int 0), (1, .int (nI (8 + P.n7))), (0, .ref c)]) e_X10_readChange_53 (by decide) rfl ?_
      refine m_aload_n F rfl e_X10_readChange_54 ?_
      refine m_iload_n F rfl e_X10_readChange_55 ?_
      refine m_bipush F (v := 99) (by decide) e_X10_readChange_56 ?_
      refine r_callV F e_X10_readChange_58 (q_X10_numeral (x_l X) V c T 0 u h P9275 L _ _ 0 99 h9279.1 (hob) oP9275 (by omega) (by omega)) cb_X10_numeral ml_X10_165 im_X10_numeral se_X10_numeral h9279 rfl rfl (rest := []) rfl (Nat.le_of_ble_eq_true rfl) ⟨Nat.le_of_ble_eq_true rfl, Nat.le_of_ble_eq_true rfl⟩ ⟨Nat.le_of_ble_eq_true rfl, Nat.le_of_ble_eq_true rfl⟩ (fun r σ9280 hp => ?_)
      obtain ⟨P9284, oP9284, rP9284, h9281, c9283⟩ := hp
      have h9282 := HS.trans h9279 h9281 (by decide)
      have xP9284 := oP9284
      unfold OKP at xP9284
      unfold RA at rP9284
      rcases c9283 with ⟨n9285, gn9285, hn9285, rfl⟩ | ⟨h9286, rfl⟩
      · refine m_istore_n F (lv' := [(3, .int (nI n9285)), (2, .int 0), (1, .int (nI (8 + P.n7))), (0, .ref c)]) e_X10_readChange_61 (by decide) rfl ?_
        refine m_aload_n F rfl e_X10_readChange_62 ?_
        refine m_sipush F (v := 500) (by decide) e_X10_readChange_63 ?_
        refine m_sipush F (v := 2000) (by decide) e_X10_readChange_66 ?_
        refine r_callV F e_X10_readChange_69 (q_X10_numeral (x_l X) V c T 0 u h P9284 L _ _ 500 2000 h9282.1 (hob) oP9284 (by omega) (by omega)) cb_X10_numeral ml_X10_165 im_X10_numeral se_X10_numeral h9282 rfl rfl (rest := []) rfl (Nat.le_of_ble_eq_true rfl) ⟨Nat.le_of_ble_eq_true rfl, Nat.le_of_ble_eq_true rfl⟩ ⟨Nat.le_of_ble_eq_true rfl, Nat.le_of_ble_eq_true rfl⟩ (fun r σ9287 hp => ?_)
        obtain ⟨P9291, oP9291, rP9291, h9288, c9290⟩ := hp
        have h9289 := HS.trans h9282 h9288 (by decide)
        have xP9291 := oP9291
        unfold OKP at xP9291
        unfold RA at rP9291
        rcases c9290 with ⟨n9292, gn9292, hn9292, rfl⟩ | ⟨h9293, rfl⟩
        · refine m_istore F (lv' := [(4, .int (nI n9292)), (3, .int (nI n9285)), (2, .int 0), (1, .int (nI (8 + P.n7))), (0, .ref c)]) e_X10_readChange_72 (by decide) rfl ?_
          refine m_aload_n F rfl e_X10_readChange_74 ?_
          refine r_get F e_X10_readChange_75 fl_X10_141 h9289 rfl (fun v hv f9294 => ?_)
          obtain ⟨x9295, hx9295, rfl⟩ := hv
          replace hx9295 : 0 = 0 → x9295 ≠ 0 := hx9295
          refine m_if_eq F e_X10_readChange_78 (fun q78 => ?_) (fun q78 => ?_)
          · first | exact absurd q78 (hx9295 rfl) | contradiction
          · have h9296 := HS.z0 h9289 (f9294) q78
            have h9297 : HS V c _ [0, 2, 4, 5, 6, 7, 8, 9, 10, 11, 14, 15, 16, 17, 18, 19, 20, 21, 22, 23] _ _ := ⟨HR.mono (Z' := Z) (by intro e; first | rfl | assumption | omega) h9296.1, h9296.2⟩
            exact m_vret F hQ e_X10_readChange_81 (⟨P9291, oP9291, (by unfold RP; omega), h9297, rfl⟩)
        · have h9298 : HS V c (⟨T, 0, u, h, P9291, L⟩ : RG) [0, 2, 4, 5, 6, 7, 8, 9, 10, 11, 14, 15, 16, 17, 18, 19, 20, 21, 22, 23] _ _ := ⟨h9293, h9289.2⟩
          refine m_istore F (lv' := [(4, .int (nI 500)), (3, .int (nI n9285)), (2, .int 0), (1, .int (nI (8 + P.n7))), (0, .ref c)]) e_X10_readChange_72 (by decide) rfl ?_
          refine m_aload_n F rfl e_X10_readChange_74 ?_
          refine r_get F e_X10_readChange_75 fl_X10_141 h9298 rfl (fun v hv f9299 => ?_)
          obtain ⟨x9300, hx9300, rfl⟩ := hv
          replace hx9300 : 0 = 0 → x9300 ≠ 0 := hx9300
          refine m_if_eq F e_X10_readChange_78 (fun q78 => ?_) (fun q78 => ?_)
          · first | exact absurd q78 (hx9300 rfl) | contradiction
          · have h9301 := HS.z0 h9298 (f9299) q78
            have h9302 : HS V c _ [0, 2, 4, 5, 6, 7, 8, 9, 10, 11, 14, 15, 16, 17, 18, 19, 20, 21, 22, 23] _ _ := ⟨HR.mono (Z' := Z) (by intro e; first | rfl | assumption | omega) h9301.1, h9301.2⟩
            exact m_vret F hQ e_X10_readChange_81 (⟨P9291, oP9291, (by unfold RP; omega), h9302, rfl⟩)
      · have h9303 : HS V c (⟨T, 0, u, h, P9284, L⟩ : RG) [0, 2, 4, 5, 6, 7, 8, 9, 10, 11, 14, 15, 16, 17, 18, 19, 20, 21, 22, 23] _ _ := ⟨h9286, h9282.2⟩
        refine m_istore_n F (lv' := [(3, .int (nI 0)), (2, .int 0), (1, .int (nI (8 + P.n7))), (0, .ref c)]) e_X10_readChange_61 (by decide) rfl ?_
        refine m_aload_n F rfl e_X10_readChange_62 ?_
        refine m_sipush F (v := 500) (by decide) e_X10_readChange_63 ?_
        refine m_sipush F (v := 2000) (by decide) e_X10_readChange_66 ?_
        refine r_callV F e_X10_readChange_69 (q_X10_numeral (x_l X) V c T 0 u h P9284 L _ _ 500 2000 h9303.1 (hob) oP9284 (by omega) (by omega)) cb_X10_numeral ml_X10_165 im_X10_numeral se_X10_numeral h9303 rfl rfl (rest := []) rfl (Nat.le_of_ble_eq_true rfl) ⟨Nat.le_of_ble_eq_true rfl, Nat.le_of_ble_eq_true rfl⟩ ⟨Nat.le_of_ble_eq_true rfl, Nat.le_of_ble_eq_true rfl⟩ (fun r σ9304 hp => ?_)
        obtain ⟨P9308, oP9308, rP9308, h9305, c9307⟩ := hp
        have h9306 := HS.trans h9303 h9305 (by decide)
        have xP9308 := oP9308
        unfold OKP at xP9308
        unfold RA at rP9308
        rcases c9307 with ⟨n9309, gn9309, hn9309, rfl⟩ | ⟨h9310, rfl⟩
        · refine m_istore F (lv' := [(4, .int (nI n9309)), (3, .int (nI 0)), (2, .int 0), (1, .int (nI (8 + P.n7))), (0, .ref c)]) e_X10_readChange_72 (by decide) rfl ?_
          refine m_aload_n F rfl e_X10_readChange_74 ?_
          refine r_get F e_X10_readChange_75 fl_X10_141 h9306 rfl (fun v hv f9311 => ?_)
          obtain ⟨x9312, hx9312, rfl⟩ := hv
          replace hx9312 : 0 = 0 → x9312 ≠ 0 := hx9312
          refine m_if_eq F e_X10_readChange_78 (fun q78 => ?_) (fun q78 => ?_)
          · first | exact absurd q78 (hx9312 rfl) | contradiction
          · have h9313 := HS.z0 h9306 (f9311) q78
            have h9314 : HS V c _ [0, 2, 4, 5, 6, 7, 8, 9, 10, 11, 14, 15, 16, 17, 18, 19, 20, 21, 22, 23] _ _ := ⟨HR.mono (Z' := Z) (by intro e; first | rfl | assumption | omega) h9313.1, h9313.2⟩
            exact m_vret F hQ e_X10_readChange_81 (⟨P9308, oP9308, (by unfold RP; omega), h9314, rfl⟩)
        · have h9315 : HS V c (⟨T, 0, u, h, P9308, L⟩ : RG) [0, 2, 4, 5, 6, 7, 8, 9, 10, 11, 14, 15, 16, 17, 18, 19, 20, 21, 22, 23] _ _ := ⟨h9310, h9306.2⟩
          refine m_istore F (lv' := [(4, .int (nI 500)), (3, .int (nI 0)), (2, .int 0), (1, .int (nI (8 + P.n7))), (0, .ref c)]) e_X10_readChange_72 (by decide) rfl ?_
          refine m_aload_n F rfl e_X10_readChange_74 ?_
          refine r_get F e_X10_readChange_75 fl_X10_141 h9315 rfl (fun v hv f9316 => ?_)
          obtain ⟨x9317, hx9317, rfl⟩ := hv
          replace hx9317 : 0 = 0 → x9317 ≠ 0 := hx9317
          refine m_if_eq F e_X10_readChange_78 (fun q78 => ?_) (fun q78 => ?_)
          · first | exact absurd q78 (hx9317 rfl) | contradiction
          · have h9318 := HS.z0 h9315 (f9316) q78
            have h9319 : HS V c _ [0, 2, 4, 5, 6, 7, 8, 9, 10, 11, 14, 15, 16, 17, 18, 19, 20, 21, 22, 23] _ _ := ⟨HR.mono (Z' := Z) (by intro e; first | rfl | assumption | omega) h9318.1, h9318.2⟩
            exact m_vret F hQ e_X10_readChange_81 (⟨P9308, oP9308, (by unfold RP; omega), h9319, rfl⟩)
    · have c29 : P9275.n7 ≠ 0 := by have hh := mt (nI_eq (a := P9275.n7) (b := 0) (by omega) (by omega)).mpr q29; omega
      refine m_aload_n F rfl e_X10_readChange_32 ?_
      refine r_get F e_X10_readChange_33 fl_X10_141 h9279 rfl (fun v hv f9320 => ?_)
      obtain ⟨x9321, hx9321, rfl⟩ := hv
      replace hx9321 : 0 = 0 → x9321 ≠ 0 := hx9321
      refine m_if_eq F e_X10_readChange_36 (fun q36 => ?_) (fun q36 => ?_)
      · first | exact absurd q36 (hx9321 rfl) | contradiction
      · have h9322 := HS.z0 h9279 (f9320) q36
        refine m_iconst F (v := 0) (by decide) e_X10_readChange_39 ?_
        refine m_goto F e_X10_readChange_40 ?_
        refine m_istore_n F (lv' := [(2, .int 0), (1, .int (nI (8 + P.n7))), (0, .ref c)]) e_X10_readChange_53 (by decide) rfl ?_
        refine m_aload_n F rfl e_X10_readChange_54 ?_
        refine m_iload_n F rfl e_X10_readChange_55 ?_
        refine m_bipush F (v := 99) (by decide) e_X10_readChange_56 ?_
        refine r_callV F e_X10_readChange_58 (q_X10_numeral (x_l X) V c T 0 u h P9275 L _ _ 0 99 h9322.1 (hob) oP9275 (by omega) (by omega)) cb_X10_numeral ml_X10_165 im_X10_numeral se_X10_numeral h9322 rfl rfl (rest := []) rfl (Nat.le_of_ble_eq_true rfl) ⟨Nat.le_of_ble_eq_true rfl, Nat.le_of_ble_eq_true rfl⟩ ⟨Nat.le_of_ble_eq_true rfl, Nat.le_of_ble_eq_true rfl⟩ (fun r σ9323 hp => ?_)
        obtain ⟨P9327, oP9327, rP9327, h9324, c9326⟩ := hp
        have h9325 := HS.trans h9322 h9324 (by decide)
        have xP9327 := oP9327
        unfold OKP at xP9327
        unfold RA at rP9327
        rcases c9326 with ⟨n9328, gn9328, hn9328, rfl⟩ | ⟨h9329, rfl⟩
        · refine m_istore_n F (lv' := [(3, .int (nI n9328)), (2, .int 0), (1, .int (nI (8 + P.n7))), (0, .ref c)]) e_X10_readChange_61 (by decide) rfl ?_
          refine m_aload_n F rfl e_X10_readChange_62 ?_
          refine m_sipush F (v := 500) (by decide) e_X10_readChange_63 ?_
          refine m_sipush F (v := 2000) (by decide) e_X10_readChange_66 ?_
          refine r_callV F e_X10_readChange_69 (q_X10_numeral (x_l X) V c T 0 u h P9327 L _ _ 500 2000 h9325.1 (hob) oP9327 (by omega) (by omega)) cb_X10_numeral ml_X10_165 im_X10_numeral se_X10_numeral h9325 rfl rfl (rest := []) rfl (Nat.le_of_ble_eq_true rfl) ⟨Nat.le_of_ble_eq_true rfl, Nat.le_of_ble_eq_true rfl⟩ ⟨Nat.le_of_ble_eq_true rfl, Nat.le_of_ble_eq_true rfl⟩ (fun r σ9330 hp => ?_)
          obtain ⟨P9334, oP9334, rP9334, h9331, c9333⟩ := hp
          have h9332 := HS.trans h9325 h9331 (by decide)
          have xP9334 := oP9334
          unfold OKP at xP9334
          unfold RA at rP9334
          rcases c9333 with ⟨n9335, gn9335, hn9335, rfl⟩ | ⟨h9336, rfl⟩
          · refine m_istore F (lv' := [(4, .int (nI n9335)), (3, .int (nI n9328)), (2, .int 0), (1, .int (nI (8 + P.n7))), (0, .ref c)]) e_X10_readChange_72 (by decide) rfl ?_
            refine m_aload_n F rfl e_X10_readChange_74 ?_
            refine r_get F e_X10_readChange_75 fl_X10_141 h9332 rfl (fun v hv f9337 => ?_)
            obtain ⟨x9338, hx9338, rfl⟩ := hv
            replace hx9338 : 0 = 0 → x9338 ≠ 0 := hx9338
            refine m_if_eq F e_X10_readChange_78 (fun q78 => ?_) (fun q78 => ?_)
            · first | exact absurd q78 (hx9338 rfl) | contradiction
            · have h9339 := HS.z0 h9332 (f9337) q78
              have h9340 : HS V c _ [0, 2, 4, 5, 6, 7, 8, 9, 10, 11, 14, 15, 16, 17, 18, 19, 20, 21, 22, 23] _ _ := ⟨HR.mono (Z' := Z) (by intro e; first | rfl | assumption | omega) h9339.1, h9339.2⟩
              exact m_vret F hQ e_X10_readChange_81 (⟨P9334, oP9334, (by unfold RP; omega), h9340, rfl⟩)
          · have h9341 : HS V c (⟨T, 0, u, h, P9334, L⟩ : RG) [0, 2, 4, 5, 6, 7, 8, 9, 10, 11, 14, 15, 16, 17, 18, 19, 20, 21, 22, 23] _ _ := ⟨h9336, h9332.2⟩
            refine m_istore F (lv' := [(4, .int (nI 500)), (3, .int (nI n9328)), (2, .int 0), (1, .int (nI (8 + P.n7))), (0, .ref c)]) e_X10_readChange_72 (by decide) rfl ?_
            refine m_aload_n F rfl e_X10_readChange_74 ?_
            refine r_get F e_X10_readChange_75 fl_X10_141 h9341 rfl (fun v hv f9342 => ?_)
            obtain ⟨x9343, hx9343, rfl⟩ := hv
            replace hx9343 : 0 = 0 → x9343 ≠ 0 := hx9343
            refine m_if_eq F e_X10_readChange_78 (fun q78 => ?_) (fun q78 => ?_)
            · first | exact absurd q78 (hx9343 rfl) | contradiction
            · have h9344 := HS.z0 h9341 (f9342) q78
              have h9345 : HS V c _ [0, 2, 4, 5, 6, 7, 8, 9, 10, 11, 14, 15, 16, 17, 18, 19, 20, 21, 22, 23] _ _ := ⟨HR.mono (Z' := Z) (by intro e; first | rfl | assumption | omega) h9344.1, h9344.2⟩
              exact m_vret F hQ e_X10_readChange_81 (⟨P9334, oP9334, (by unfold RP; omega), h9345, rfl⟩)
        · have h9346 : HS V c (⟨T, 0, u, h, P9327, L⟩ : RG) [0, 2, 4, 5, 6, 7, 8, 9, 10, 11, 14, 15, 16, 17, 18, 19, 20, 21, 22, 23] _ _ := ⟨h9329, h9325.2⟩
          refine m_istore_n F (lv' := [(3, .int (nI 0)), (2, .int 0), (1, .int (nI (8 + P.n7))), (0, .ref c)]) e_X10_readChange_61 (by decide) rfl ?_
          refine m_aload_n F rfl e_X10_readChange_62 ?_
          refine m_sipush F (v := 500) (by decide) e_X10_readChange_63 ?_
          refine m_sipush F (v := 2000) (by decide) e_X10_readChange_66 ?_
          refine r_callV F e_X10_readChange_69 (q_X10_numeral (x_l X) V c T 0 u h P9327 L _ _ 500 2000 h9346.1 (hob) oP9327 (by omega) (by omega)) cb_X10_numeral ml_X10_165 im_X10_numeral se_X10_numeral h9346 rfl rfl (rest := []) rfl (Nat.le_of_ble_eq_true rfl) ⟨Nat.le_of_ble_eq_true rfl, Nat.le_of_ble_eq_true rfl⟩ ⟨Nat.le_of_ble_eq_true rfl, Nat.le_of_ble_eq_true rfl⟩ (fun r σ9347 hp => ?_)
          obtain ⟨P9351, oP9351, rP9351, h9348, c9350⟩ := hp
          have h9349 := HS.trans h9346 h9348 (by decide)
          have xP9351 := oP9351
          unfold OKP at xP9351
          unfold RA at rP9351
          rcases c9350 with ⟨n9352, gn9352, hn9352, rfl⟩ | ⟨h9353, rfl⟩
          · refine m_istore F (lv' := [(4, .int (nI n9352)), (3, .int (nI 0)), (2, .int 0), (1, .int (nI (8 + P.n7))), (0, .ref c)]) e_X10_readChange_72 (by decide) rfl ?_
            refine m_aload_n F rfl e_X10_readChange_74 ?_
            refine r_get F e_X10_readChange_75 fl_X10_141 h9349 rfl (fun v hv f9354 => ?_)
            obtain ⟨x9355, hx9355, rfl⟩ := hv
            replace hx9355 : 0 = 0 → x9355 ≠ 0 := hx9355
            refine m_if_eq F e_X10_readChange_78 (fun q78 => ?_) (fun q78 => ?_)
            · first | exact absurd q78 (hx9355 rfl) | contradiction
            · have h9356 := HS.z0 h9349 (f9354) q78
              have h9357 : HS V c _ [0, 2, 4, 5, 6, 7, 8, 9, 10, 11, 14, 15, 16, 17, 18, 19, 20, 21, 22, 23] _ _ := ⟨HR.mono (Z' := Z) (by intro e; first | rfl | assumption | omega) h9356.1, h9356.2⟩
              exact m_vret F hQ e_X10_readChange_81 (⟨P9351, oP9351, (by unfold RP; omega), h9357, rfl⟩)
          · have h9358 : HS V c (⟨T, 0, u, h, P9351, L⟩ : RG) [0, 2, 4, 5, 6, 7, 8, 9, 10, 11, 14, 15, 16, 17, 18, 19, 20, 21, 22, 23] _ _ := ⟨h9353, h9349.2⟩
            refine m_istore F (lv' := [(4, .int (nI 500)), (3, .int (nI 0)), (2, .int 0), (1, .int (nI (8 + P.n7))), (0, .ref c)]) e_X10_readChange_72 (by decide) rfl ?_
            refine m_aload_n F rfl e_X10_readChange_74 ?_
            refine r_get F e_X10_readChange_75 fl_X10_141 h9358 rfl (fun v hv f9359 => ?_)
            obtain ⟨x9360, hx9360, rfl⟩ := hv
            replace hx9360 : 0 = 0 → x9360 ≠ 0 := hx9360
            refine m_if_eq F e_X10_readChange_78 (fun q78 => ?_) (fun q78 => ?_)
            · first | exact absurd q78 (hx9360 rfl) | contradiction
            · have h9361 := HS.z0 h9358 (f9359) q78
              have h9362 : HS V c _ [0, 2, 4, 5, 6, 7, 8, 9, 10, 11, 14, 15, 16, 17, 18, 19, 20, 21, 22, 23] _ _ := ⟨HR.mono (Z' := Z) (by intro e; first | rfl | assumption | omega) h9361.1, h9361.2⟩
              exact m_vret F hQ e_X10_readChange_81 (⟨P9351, oP9351, (by unfold RP; omega), h9362, rfl⟩)
set_option maxRecDepth 20000 in
theorem q_X10_readOption (l : Launch) (V : VX) (c T Z u h : Nat) (P : NP) (L : Nat → LQ) (N : Nat) (σ : Mem)  (h0 : HR V c ⟨T, Z, u, h, P, L⟩ σ) (hob : OKB L) (hP : OKP P)  : Ct l V yX10_readOption cX10_readOption 5 none 8 0 0 N σ [.ref c] (fun r τ => ∃ P9 : NP, OKP P9 ∧ RP P P9 ∧ HS V c (⟨T, Z, u, h, P9, L⟩ : RG) [0, 2, 4, 5, 6, 7, 8, 9, 10, 11, 12, 13, 17, 18, 19, 20, 21, 22, 23] σ τ ∧ r = none) := by
  refine Ct.of (by decide) (Nat.le_of_ble_eq_true rfl) [(0, .ref c)] rfl (fun X hX F hQ => ?_)
  have hPP := hP
  unfold OKP at hPP
  have h1 : HS V c ⟨T, Z, u, h, P, L⟩ [0, 2, 4, 5, 6, 7, 8, 9, 10, 11, 12, 13, 17, 18, 19, 20, 21, 22, 23] σ σ := HS.start h0
  refine m_iconst F (v := 4) (by decide) e_X10_readOption_0 ?_
  refine m_aload_n F rfl e_X10_readOption_1 ?_
  refine m_iconst F (v := 3) (by decide) e_X10_readOption_2 ?_
  refine r_callV F e_X10_readOption_3 (q_X10_reading3 (x_l X) V c T Z u h P L _ _  h1.1 (hob) hP ) cb_X10_reading ml_X10_157 im_X10_reading se_X10_reading h1 rfl rfl (rest := [.int 4]) rfl (Nat.le_of_ble_eq_true rfl) ⟨Nat.le_of_ble_eq_true rfl, Nat.le_of_ble_eq_true rfl⟩ ⟨Nat.le_of_ble_eq_true rfl, Nat.le_of_ble_eq_true rfl⟩ (fun r σ9363 hp => ?_)
  obtain ⟨h9364, n9366, hn9366, f9367, rfl⟩ := hp
  have h9365 := HS.trans h1 h9364 (by decide)
  refine m_iadd F e_X10_readOption_6 ?_
  refine Wm.topE (w := nI (4 + n9366)) (nI_add 4 n9366) ?_
  refine m_istore_n F (lv' := [(1, .int (nI (4 + n9366))), (0, .ref c)]) e_X10_readOption_7 (by decide) rfl ?_
  refine m_iload_n F rfl e_X10_readOption_8 ?_
  refine m_bipush F (v := 8) (by decide) e_X10_readOption_9 ?_
  refine m_icmp_ne F e_X10_readOption_11 (fun q11 => ?_) (fun q11 => ?_)
  · have c11 : (4 + n9366) ≠ 8 := by have hh := mt (nI_eq (a := (4 + n9366)) (b := 8) (by omega) (by omega)).mpr q11; omega
    refine m_aload_n F rfl e_X10_readOption_19 ?_
    refine r_callV F e_X10_readOption_20 (q_X10_atHand (x_l X) V c T Z u h P L _ _  h9365.1 (hob) hP ) cb_X10_atHand ml_X10_174 im_X10_atHand se_X10_atHand h9365 rfl rfl (rest := []) rfl (Nat.le_of_ble_eq_true rfl) ⟨Nat.le_of_ble_eq_true rfl, Nat.le_of_ble_eq_true rfl⟩ ⟨Nat.le_of_ble_eq_true rfl, Nat.le_of_ble_eq_true rfl⟩ (fun r σ9368 hp => ?_)
    obtain ⟨P9372, oP9372, rP9372, h9369, n9371, gn9371, hn9371, rfl⟩ := hp
    have h9370 := HS.trans h9365 h9369 (by decide)
    have xP9372 := oP9372
    unfold OKP at xP9372
    unfold RA at rP9372
    refine m_istore_n F (lv' := [(2, .int (nI n9371)), (1, .int (nI (4 + n9366))), (0, .ref c)]) e_X10_readOption_23 (by decide) rfl ?_
    refine m_aload_n F rfl e_X10_readOption_24 ?_
    refine r_callV F e_X10_readOption_25 (q_X10_goOn (x_l X) V c T Z u h P9372 L _ _  h9370.1 (hob) oP9372 ) cb_X10_goOn ml_X10_154 im_X10_goOn se_X10_goOn h9370 rfl rfl (rest := []) rfl (Nat.le_of_ble_eq_true rfl) ⟨Nat.le_of_ble_eq_true rfl, Nat.le_of_ble_eq_true rfl⟩ ⟨Nat.le_of_ble_eq_true rfl, Nat.le_of_ble_eq_true rfl⟩ (fun r σ9373 hp => ?_)
    obtain ⟨P9376, oP9376, rP9376, pr9377, h9374, rfl⟩ := hp
    have h9375 := HS.trans h9370 h9374 (by decide)
    have xP9376 := oP9376
    unfold OKP at xP9376
    unfold RA at rP9376
    refine m_aload_n F rfl e_X10_readOption_28 ?_
    refine m_iconst F (v := 1) (by decide) e_X10_readOption_29 ?_
    refine m_bipush F (v := 24) (by decide) e_X10_readOption_30 ?_
    refine r_callV F e_X10_readOption_32 (q_X10_numeral (x_l X) V c T Z u h P9376 L _ _ 1 24 h9375.1 (hob) oP9376 (by omega) (by omega)) cb_X10_numeral ml_X10_165 im_X10_numeral se_X10_numeral h9375 rfl rfl (rest := []) rfl (Nat.le_of_ble_eq_true rfl) ⟨Nat.le_of_ble_eq_true rfl, Nat.le_of_ble_eq_true rfl⟩ ⟨Nat.le_of_ble_eq_true rfl, Nat.le_of_ble_eq_true rfl⟩ (fun r σ9378 hp => ?_)
    obtain ⟨P9382, oP9382, rP9382, h9379, c9381⟩ := hp
    have h9380 := HS.trans h9375 h9379 (by decide)
    have xP9382 := oP9382
    unfold OKP at xP9382
    unfold RA at rP9382
    rcases c9381 with ⟨n9383, gn9383, hn9383, rfl⟩ | ⟨h9384, rfl⟩
    · refine m_istore_n F (lv' := [(3, .int (nI n9383)), (2, .int (nI n9371)), (1, .int (nI (4 + n9366))), (0, .ref c)]) e_X10_readOption_35 (by decide) rfl ?_
      refine m_aload_n F rfl e_X10_readOption_36 ?_
      refine m_iconst F (v := 0) (by decide) e_X10_readOption_37 ?_
      refine m_ldc F kc_X10_177 e_X10_readOption_38 ?_
      refine r_callV F e_X10_readOption_40 (q_X10_numeral (x_l X) V c T Z u h P9382 L _ _ 0 99999 h9380.1 (hob) oP9382 (by omega) (by omega)) cb_X10_numeral ml_X10_165 im_X10_numeral se_X10_numeral h9380 rfl rfl (rest := []) rfl (Nat.le_of_ble_eq_true rfl) ⟨Nat.le_of_ble_eq_true rfl, Nat.le_of_ble_eq_true rfl⟩ ⟨Nat.le_of_ble_eq_true rfl, Nat.le_of_ble_eq_true rfl⟩ (fun r σ9385 hp => ?_)
      obtain ⟨P9389, oP9389, rP9389, h9386, c9388⟩ := hp
      have h9387 := HS.trans h9380 h9386 (by decide)
      have xP9389 := oP9389
      unfold OKP at xP9389
      unfold RA at rP9389
      rcases c9388 with ⟨n9390, gn9390, hn9390, rfl⟩ | ⟨h9391, rfl⟩
      · refine m_istore F (lv' := [(4, .int (nI n9390)), (3, .int (nI n9383)), (2, .int (nI n9371)), (1, .int (nI (4 + n9366))), (0, .ref c)]) e_X10_readOption_43 (by decide) rfl ?_
        refine m_aload_n F rfl e_X10_readOption_45 ?_
        refine r_get F e_X10_readOption_46 fl_X10_141 h9387 rfl (fun v hv f9392 => ?_)
        obtain ⟨x9393, hx9393, rfl⟩ := hv
        replace hx9393 : Z = 0 → x9393 ≠ 0 := hx9393
        refine m_if_eq F e_X10_readOption_49 (fun q49 => ?_) (fun q49 => ?_)
        · subst q49
          refine m_aload_n F rfl e_X10_readOption_53 ?_
          refine r_get F e_X10_readOption_54 fl_X10_46 h9387 rfl (fun v hv f9394 => ?_)
          obtain rfl : v = .ref (c + 13) := hv
          refine m_iload_n F rfl e_X10_readOption_57 ?_
          refine m_iload_n F rfl e_X10_readOption_58 ?_
          refine m_iconst F (v := 4) (by decide) e_X10_readOption_59 ?_
          refine m_isub F e_X10_readOption_60 ?_
          refine Wm.topE (w := nI (n9371 - 4)) (pk_sub (a := n9371) (b := 4) (by omega)) ?_
          refine r_iast F (g' := (⟨T, Z, u, h, P9389, L⟩ : RG)) (len := 8) (j := 4 + n9366) e_X10_readOption_61 h9387 (fun _ h => h) (fun f h => ⟨f, rfl, h⟩) (by decide) (by decide) (nI_clamp (by omega)) (vp_in_nI (by omega) (by decide)) ⟨n9371 - 4, by omega, rfl⟩ (fun _ _ _ h => h) (fun _ _ _ h => h) (fun σ9395 h9396 g9397 f9398 g9399 => ?_)
          refine m_aload_n F rfl e_X10_readOption_62 ?_
          refine r_get F e_X10_readOption_63 fl_X10_49 h9396 rfl (fun v hv f9400 => ?_)
          obtain rfl : v = .ref (c + 14) := hv
          refine m_iload_n F rfl e_X10_readOption_66 ?_
          refine m_iload_n F rfl e_X10_readOption_67 ?_
          refine r_iast F (g' := (⟨T, Z, u, h, P9389, L⟩ : RG)) (len := 8) (j := 4 + n9366) e_X10_readOption_68 h9396 (fun _ h => h) (fun f h => ⟨f, rfl, h⟩) (by decide) (by decide) (nI_clamp (by omega)) (vp_in_nI (by omega) (by decide)) ⟨n9383, by omega, rfl⟩ (fun _ _ _ h => h) (fun _ _ _ h => h) (fun σ9401 h9402 g9403 f9404 g9405 => ?_)
          refine m_aload_n F rfl e_X10_readOption_69 ?_
          refine r_get F e_X10_readOption_70 fl_X10_52 h9402 rfl (fun v hv f9406 => ?_)
          obtain rfl : v = .ref (c + 15) := hv
          refine m_iload_n F rfl e_X10_readOption_73 ?_
          refine m_iload F rfl e_X10_readOption_74 ?_
          refine r_iast F (g' := (⟨T, Z, u, h, P9389, L⟩ : RG)) (len := 8) (j := 4 + n9366) e_X10_readOption_76 h9402 (fun _ h => h) (fun f h => ⟨f, rfl, h⟩) (by decide) (by decide) (nI_clamp (by omega)) (vp_in_nI (by omega) (by decide)) trivial (fun _ _ _ h => h) (fun _ _ _ h => h) (fun σ9407 h9408 g9409 f9410 g9411 => ?_)
          refine m_aload_n F rfl e_X10_readOption_77 ?_
          refine m_iconst F (v := 3) (by decide) e_X10_readOption_78 ?_
          refine m_aload_n F rfl e_X10_readOption_79 ?_
          refine m_iconst F (v := 3) (by decide) e_X10_readOption_80 ?_
          refine r_callV F e_X10_readOption_81 (q_X10_reading3 (x_l X) V c T Z u h P9389 L _ _  h9408.1 (hob) oP9389 ) cb_X10_reading ml_X10_157 im_X10_reading se_X10_reading h9408 rfl rfl (rest := [.int 3, .ref c]) rfl (Nat.le_of_ble_eq_true rfl) ⟨Nat.le_of_ble_eq_true rfl, Nat.le_of_ble_eq_true rfl⟩ ⟨Nat.le_of_ble_eq_true rfl, Nat.le_of_ble_eq_true rfl⟩ (fun r σ9412 hp => ?_)
          obtain ⟨h9413, n9415, hn9415, f9416, rfl⟩ := hp
          have h9414 := HS.trans h9408 h9413 (by decide)
          have gn9415 := nI_inj (by omega) (by omega) (Option.some.inj ((f9416).symm.trans ((elI_eq (h9413.2 (c + 2) (by rw [kC_at (k := 2) (by decide)]; decide))).trans ((elI_eq (g9409 _ (by omega))).trans ((elI_eq (g9403 _ (by omega))).trans ((elI_eq (g9397 _ (by omega))).trans ((elI_eq (h9386.2 (c + 2) (by rw [kC_at (k := 2) (by decide)]; decide))).trans ((elI_eq (h9379.2 (c + 2) (by rw [kC_at (k := 2) (by decide)]; decide))).trans ((elI_eq (h9374.2 (c + 2) (by rw [kC_at (k := 2) (by decide)]; decide))).trans ((elI_eq (h9369.2 (c + 2) (by rw [kC_at (k := 2) (by decide)]; decide))).trans f9367))))))))))
          refine m_iconst F (v := 1) (by decide) e_X10_readOption_84 ?_
          refine m_iadd F e_X10_readOption_85 ?_
          refine Wm.topE (w := nI (n9415 + 1)) (nI_add n9415 1) ?_
          refine r_callV F e_X10_readOption_86 (q_X10_reads3 (x_l X) V c T Z u h P9389 L _ _ (n9415 + 1) h9414.1 (hob) oP9389 (by omega)) cb_X10_reads ml_X10_170 im_X10_reads se_X10_reads h9414 rfl rfl (rest := []) rfl (Nat.le_of_ble_eq_true rfl) ⟨Nat.le_of_ble_eq_true rfl, Nat.le_of_ble_eq_true rfl⟩ ⟨Nat.le_of_ble_eq_true rfl, Nat.le_of_ble_eq_true rfl⟩ (fun r σ9417 hp => ?_)
          obtain ⟨h9418, rfl⟩ := hp
          have h9419 := HS.trans h9414 h9418 (by decide)
          exact m_vret F hQ e_X10_readOption_89 (⟨P9389, oP9389, (by unfold RP; omega), h9419, rfl⟩)
        · have h9420 := HS.z0 h9387 (f9392) q49
          have h9421 : HS V c _ [0, 2, 4, 5, 6, 7, 8, 9, 10, 11, 12, 13, 17, 18, 19, 20, 21, 22, 23] _ _ := ⟨HR.mono (Z' := Z) (by intro e; first | rfl | assumption | omega) h9420.1, h9420.2⟩
          exact m_vret F hQ e_X10_readOption_52 (⟨P9389, oP9389, (by unfold RP; omega), h9421, rfl⟩)
      · have h9422 : HS V c (⟨T, 0, u, h, P9389, L⟩ : RG) [0, 2, 4, 5, 6, 7, 8, 9, 10, 11, 12, 13, 17, 18, 19, 20, 21, 22, 23] _ _ := ⟨h9391, h9387.2⟩
        refine m_istore F (lv' := [(4, .int (nI 0)), (3, .int (nI n9383)), (2, .int (nI n9371)), (1, .int (nI (4 + n9366))), (0, .ref c)]) e_X10_readOption_43 (by decide) rfl ?_
        refine m_aload_n F rfl e_X10_readOption_45 ?_
        refine r_get F e_X10_readOption_46 fl_X10_141 h9422 rfl (fun v hv f9423 => ?_)
        obtain ⟨x9424, hx9424, rfl⟩ := hv
        replace hx9424 : 0 = 0 → x9424 ≠ 0 := hx9424
        refine m_if_eq F e_X10_readOption_49 (fun q49 => ?_) (fun q49 => ?_)
        · first | exact absurd q49 (hx9424 rfl) | contradiction
        · have h9425 := HS.z0 h9422 (f9423) q49
          have h9426 : HS V c _ [0, 2, 4, 5, 6, 7, 8, 9, 10, 11, 12, 13, 17, 18, 19, 20, 21, 22, 23] _ _ := ⟨HR.mono (Z' := Z) (by intro e; first | rfl | assumption | omega) h9425.1, h9425.2⟩
          exact m_vret F hQ e_X10_readOption_52 (⟨P9389, oP9389, (by unfold RP; omega), h9426, rfl⟩)
    · have h9427 : HS V c (⟨T, 0, u, h, P9382, L⟩ : RG) [0, 2, 4, 5, 6, 7, 8, 9, 10, 11, 12, 13, 17, 18, 19, 20, 21, 22, 23] _ _ := ⟨h9384, h9380.2⟩
      refine m_istore_n F (lv' := [(3, .int (nI 1)), (2, .int (nI n9371)), (1, .int (nI (4 + n9366))), (0, .ref c)]) e_X10_readOption_35 (by decide) rfl ?_
      refine m_aload_n F rfl e_X10_readOption_36 ?_
      refine m_iconst F (v := 0) (by decide) e_X10_readOption_37 ?_
      refine m_ldc F kc_X10_177 e_X10_readOption_38 ?_
      refine r_callV F e_X10_readOption_40 (q_X10_numeral (x_l X) V c T 0 u h P9382 L _ _ 0 99999 h9427.1 (hob) oP9382 (by omega) (by omega)) cb_X10_numeral ml_X10_165 im_X10_numeral se_X10_numeral h9427 rfl rfl (rest := []) rfl (Nat.le_of_ble_eq_true rfl) ⟨Nat.le_of_ble_eq_true rfl, Nat.le_of_ble_eq_true rfl⟩ ⟨Nat.le_of_ble_eq_true rfl, Nat.le_of_ble_eq_true rfl⟩ (fun r σ9428 hp => ?_)
      obtain ⟨P9432, oP9432, rP9432, h9429, c9431⟩ := hp
      have h9430 := HS.trans h9427 h9429 (by decide)
      have xP9432 := oP9432
      unfold OKP at xP9432
      unfold RA at rP9432
      rcases c9431 with ⟨n9433, gn9433, hn9433, rfl⟩ | ⟨h9434, rfl⟩
      · refine m_istore F (lv' := [(4, .int (nI n9433)), (3, .int (nI 1)), (2, .int (nI n9371)), (1, .int (nI (4 + n9366))), (0, .ref c)]) e_X10_readOption_43 (by decide) rfl ?_
        refine m_aload_n F rfl e_X10_readOption_45 ?_
        refine r_get F e_X10_readOption_46 fl_X10_141 h9430 rfl (fun v hv f9435 => ?_)
        obtain ⟨x9436, hx9436, rfl⟩ := hv
        replace hx9436 : 0 = 0 → x9436 ≠ 0 := hx9436
        refine m_if_eq F e_X10_readOption_49 (fun q49 => ?_) (fun q49 => ?_)
        · first | exact absurd q49 (hx9436 rfl) | contradiction
        · have h9437 := HS.z0 h9430 (f9435) q49
          have h9438 : HS V c _ [0, 2, 4, 5, 6, 7, 8, 9, 10, 11, 12, 13, 17, 18, 19, 20, 21, 22, 23] _ _ := ⟨HR.mono (Z' := Z) (by intro e; first | rfl | assumption | omega) h9437.1, h9437.2⟩
          exact m_vret F hQ e_X10_readOption_52 (⟨P9432, oP9432, (by unfold RP; omega), h9438, rfl⟩)
      · have h9439 : HS V c (⟨T, 0, u, h, P9432, L⟩ : RG) [0, 2, 4, 5, 6, 7, 8, 9, 10, 11, 12, 13, 17, 18, 19, 20, 21, 22, 23] _ _ := ⟨h9434, h9430.2⟩
        refine m_istore F (lv' := [(4, .int (nI 0)), (3, .int (nI 1)), (2, .int (nI n9371)), (1, .int (nI (4 + n9366))), (0, .ref c)]) e_X10_readOption_43 (by decide) rfl ?_
        refine m_aload_n F rfl e_X10_readOption_45 ?_
        refine r_get F e_X10_readOption_46 fl_X10_141 h9439 rfl (fun v hv f9440 => ?_)
        obtain ⟨x9441, hx9441, rfl⟩ := hv
        replace hx9441 : 0 = 0 → x9441 ≠ 0 := hx9441
        refine m_if_eq F e_X10_readOption_49 (fun q49 => ?_) (fun q49 => ?_)
        · first | exact absurd q49 (hx9441 rfl) | contradiction
        · have h9442 := HS.z0 h9439 (f9440) q49
          have h9443 : HS V c _ [0, 2, 4, 5, 6, 7, 8, 9, 10, 11, 12, 13, 17, 18, 19, 20, 21, 22, 23] _ _ := ⟨HR.mono (Z' := Z) (by intro e; first | rfl | assumption | omega) h9442.1, h9442.2⟩
          exact m_vret F hQ e_X10_readOption_52 (⟨P9432, oP9432, (by unfold RP; omega), h9443, rfl⟩)
  · have c11 : (4 + n9366) = 8 := (nI_eq (a := (4 + n9366)) (b := 8) (by omega) (by omega)).mp q11
    refine m_aload_n F rfl e_X10_readOption_14 ?_
    refine m_iconst F (v := 2) (by decide) e_X10_readOption_15 ?_
    refine r_callV F e_X10_readOption_16 (q_X10_wrong (x_l X) V c T Z u h P L _ _ 2 h9365.1 (hob) hP (by first | omega | assumption | decide)) cb_X10_wrong ml_X10_150 im_X10_wrong se_X10_wrong h9365 rfl rfl (rest := []) rfl (Nat.le_of_ble_eq_true rfl) ⟨Nat.le_of_ble_eq_true rfl, Nat.le_of_ble_eq_true rfl⟩ ⟨Nat.le_of_ble_eq_true rfl, Nat.le_of_ble_eq_true rfl⟩ (fun r σ9444 hp => ?_)
    obtain ⟨h9445, rfl⟩ := hp
    have h9446 := HS.trans h9365 h9445 (by decide)
    refine m_aload_n F rfl e_X10_readOption_19 ?_
    refine r_callV F e_X10_readOption_20 (q_X10_atHand (x_l X) V c T 0 u h P L _ _  h9446.1 (hob) hP ) cb_X10_atHand ml_X10_174 im_X10_atHand se_X10_atHand h9446 rfl rfl (rest := []) rfl (Nat.le_of_ble_eq_true rfl) ⟨Nat.le_of_ble_eq_true rfl, Nat.le_of_ble_eq_true rfl⟩ ⟨Nat.le_of_ble_eq_true rfl, Nat.le_of_ble_eq_true rfl⟩ (fun r σ9447 hp => ?_)
    obtain ⟨P9451, oP9451, rP9451, h9448, n9450, gn9450, hn9450, rfl⟩ := hp
    have h9449 := HS.trans h9446 h9448 (by decide)
    have xP9451 := oP9451
    unfold OKP at xP9451
    unfold RA at rP9451
    refine m_istore_n F (lv' := [(2, .int (nI n9450)), (1, .int (nI (4 + n9366))), (0, .ref c)]) e_X10_readOption_23 (by decide) rfl ?_
    refine m_aload_n F rfl e_X10_readOption_24 ?_
    refine r_callV F e_X10_readOption_25 (q_X10_goOn (x_l X) V c T 0 u h P9451 L _ _  h9449.1 (hob) oP9451 ) cb_X10_goOn ml_X10_154 im_X10_goOn se_X10_goOn h9449 rfl rfl (rest := []) rfl (Nat.le_of_ble_eq_true rfl) ⟨Nat.le_of_ble_eq_true rfl, Nat.le_of_ble_eq_true rfl⟩ ⟨Nat.le_of_ble_eq_true rfl, Nat.le_of_ble_eq_true rfl⟩ (fun r σ9452 hp => ?_)
    obtain ⟨P9455, oP9455, rP9455, pr9456, h9453, rfl⟩ := hp
    have h9454 := HS.trans h9449 h9453 (by decide)
    have xP9455 := oP9455
    unfold OKP at xP9455
    unfold RA at rP9455
    refine m_aload_n F rfl e_X10_readOption_28 ?_
    refine m_iconst F (v := 1) (by decide) e_X10_readOption_29 ?_
    refine m_bipush F (v := 24) (by decide) e_X10_readOption_30 ?_
    refine r_callV F e_X10_readOption_32 (q_X10_numeral (x_l X) V c T 0 u h P9455 L _ _ 1 24 h9454.1 (hob) oP9455 (by omega) (by omega)) cb_X10_numeral ml_X10_165 im_X10_numeral se_X10_numeral h9454 rfl rfl (rest := []) rfl (Nat.le_of_ble_eq_true rfl) ⟨Nat.le_of_ble_eq_true rfl, Nat.le_of_ble_eq_true rfl⟩ ⟨Nat.le_of_ble_eq_true rfl, Nat.le_of_ble_eq_true rfl⟩ (fun r σ9457 hp => ?_)
    obtain ⟨P9461, oP9461, rP9461, h9458, c9460⟩ := hp
    have h9459 := HS.trans h9454 h9458 (by decide)
    have xP9461 := oP9461
    unfold OKP at xP9461
    unfold RA at rP9461
    rcases c9460 with ⟨n9462, gn9462, hn9462, rfl⟩ | ⟨h9463, rfl⟩
    · refine m_istore_n F (lv' := [(3, .int (nI n9462)), (2, .int (nI n9450)), (1, .int (nI (4 + n9366))), (0, .ref c)]) e_X10_readOption_35 (by decide) rfl ?_
      refine m_aload_n F rfl e_X10_readOption_36 ?_
      refine m_iconst F (v := 0) (by decide) e_X10_readOption_37 ?_
      refine m_ldc F kc_X10_177 e_X10_readOption_38 ?_
      refine r_callV F e_X10_readOption_40 (q_X10_numeral (x_l X) V c T 0 u h P9461 L _ _ 0 99999 h9459.1 (hob) oP9461 (by omega) (by omega)) cb_X10_numeral ml_X10_165 im_X10_numeral se_X10_numeral h9459 rfl rfl (rest := []) rfl (Nat.le_of_ble_eq_true rfl) ⟨Nat.le_of_ble_eq_true rfl, Nat.le_of_ble_eq_true rfl⟩ ⟨Nat.le_of_ble_eq_true rfl, Nat.le_of_ble_eq_true rfl⟩ (fun r σ9464 hp => ?_)
      obtain ⟨P9468, oP9468, rP9468, h9465, c9467⟩ := hp
      have h9466 := HS.trans h9459 h9465 (by decide)
      have xP9468 := oP9468
      unfold OKP at xP9468
      unfold RA at rP9468
      rcases c9467 with ⟨n9469, gn9469, hn9469, rfl⟩ | ⟨h9470, rfl⟩
      · refine m_istore F (lv' := [(4, .int (nI n9469)), (3, .int (nI n9462)), (2, .int (nI n9450)), (1, .int (nI (4 + n9366))), (0, .ref c)]) e_X10_readOption_43 (by decide) rfl ?_
        refine m_aload_n F rfl e_X10_readOption_45 ?_
        refine r_get F e_X10_readOption_46 fl_X10_141 h9466 rfl (fun v hv f9471 => ?_)
        obtain ⟨x9472, hx9472, rfl⟩ := hv
        replace hx9472 : 0 = 0 → x9472 ≠ 0 := hx9472
        refine m_if_eq F e_X10_readOption_49 (fun q49 => ?_) (fun q49 => ?_)
        · first | exact absurd q49 (hx9472 rfl) | contradiction
        · have h9473 := HS.z0 h9466 (f9471) q49
          have h9474 : HS V c _ [0, 2, 4, 5, 6, 7, 8, 9, 10, 11, 12, 13, 17, 18, 19, 20, 21, 22, 23] _ _ := ⟨HR.mono (Z' := Z) (by intro e; first | rfl | assumption | omega) h9473.1, h9473.2⟩
          exact m_vret F hQ e_X10_readOption_52 (⟨P9468, oP9468, (by unfold RP; omega), h9474, rfl⟩)
      · have h9475 : HS V c (⟨T, 0, u, h, P9468, L⟩ : RG) [0, 2, 4, 5, 6, 7, 8, 9, 10, 11, 12, 13, 17, 18, 19, 20, 21, 22, 23] _ _ := ⟨h9470, h9466.2⟩
        refine m_istore F (lv' := [(4, .int (nI 0)), (3, .int (nI n9462)), (2, .int (nI n9450)), (1, .int (nI (4 + n9366))), (0, .ref c)]) e_X10_readOption_43 (by decide) rfl ?_
        refine m_aload_n F rfl e_X10_readOption_45 ?_
        refine r_get F e_X10_readOption_46 fl_X10_141 h9475 rfl (fun v hv f9476 => ?_)
        obtain ⟨x9477, hx9477, rfl⟩ := hv
        replace hx9477 : 0 = 0 → x9477 ≠ 0 := hx9477
        refine m_if_eq F e_X10_readOption_49 (fun q49 => ?_) (fun q49 => ?_)
        · first | exact absurd q49 (hx9477 rfl) | contradiction
        · have h9478 := HS.z0 h9475 (f9476) q49
          have h9479 : HS V c _ [0, 2, 4, 5, 6, 7, 8, 9, 10, 11, 12, 13, 17, 18, 19, 20, 21, 22, 23] _ _ := ⟨HR.mono (Z' := Z) (by intro e; first | rfl | assumption | omega) h9478.1, h9478.2⟩
          exact m_vret F hQ e_X10_readOption_52 (⟨P9468, oP9468, (by unfold RP; omega), h9479, rfl⟩)
    · have h9480 : HS V c (⟨T, 0, u, h, P9461, L⟩ : RG) [0, 2, 4, 5, 6, 7, 8, 9, 10, 11, 12, 13, 17, 18, 19, 20, 21, 22, 23] _ _ := ⟨h9463, h9459.2⟩
      refine m_istore_n F (lv' := [(3, .int (nI 1)), (2, .int (nI n9450)), (1, .int (nI (4 + n9366))), (0, .ref c)]) e_X10_readOption_35 (by decide) rfl ?_
      refine m_aload_n F rfl e_X10_readOption_36 ?_
      refine m_iconst F (v := 0) (by decide) e_X10_readOption_37 ?_
      refine m_ldc F kc_X10_177 e_X10_readOption_38 ?_
      refine r_callV F e_X10_readOption_40 (q_X10_numeral (x_l X) V c T 0 u h P9461 L _ _ 0 99999 h9480.1 (hob) oP9461 (by omega) (by omega)) cb_X10_numeral ml_X10_165 im_X10_numeral se_X10_numeral h9480 rfl rfl (rest := []) rfl (Nat.le_of_ble_eq_true rfl) ⟨Nat.le_of_ble_eq_true rfl, Nat.le_of_ble_eq_true rfl⟩ ⟨Nat.le_of_ble_eq_true rfl, Nat.le_of_ble_eq_true rfl⟩ (fun r σ9481 hp => ?_)
      obtain ⟨P9485, oP9485, rP9485, h9482, c9484⟩ := hp
      have h9483 := HS.trans h9480 h9482 (by decide)
      have xP9485 := oP9485
      unfold OKP at xP9485
      unfold RA at rP9485
      rcases c9484 with ⟨n9486, gn9486, hn9486, rfl⟩ | ⟨h9487, rfl⟩
      · refine m_istore F (lv' := [(4, .int (nI n9486)), (3, .int (nI 1)), (2, .int (nI n9450)), (1, .int (nI (4 + n9366))), (0, .ref c)]) e_X10_readOption_43 (by decide) rfl ?_
        refine m_aload_n F rfl e_X10_readOption_45 ?_
        refine r_get F e_X10_readOption_46 fl_X10_141 h9483 rfl (fun v hv f9488 => ?_)
        obtain ⟨x9489, hx9489, rfl⟩ := hv
        replace hx9489 : 0 = 0 → x9489 ≠ 0 := hx9489
        refine m_if_eq F e_X10_readOption_49 (fun q49 => ?_) (fun q49 => ?_)
        · first | exact absurd q49 (hx9489 rfl) | contradiction
        · have h9490 := HS.z0 h9483 (f9488) q49
          have h9491 : HS V c _ [0, 2, 4, 5, 6, 7, 8, 9, 10, 11, 12, 13, 17, 18, 19, 20, 21, 22, 23] _ _ := ⟨HR.mono (Z' := Z) (by intro e; first | rfl | assumption | omega) h9490.1, h9490.2⟩
          exact m_vret F hQ e_X10_readOption_52 (⟨P9485, oP9485, (by unfold RP; omega), h9491, rfl⟩)
      · have h9492 : HS V c (⟨T, 0, u, h, P9485, L⟩ : RG) [0, 2, 4, 5, 6, 7, 8, 9, 10, 11, 12, 13, 17, 18, 19, 20, 21, 22, 23] _ _ := ⟨h9487, h9483.2⟩
        refine m_istore F (lv' := [(4, .int (nI 0)), (3, .int (nI 1)), (2, .int (nI n9450)), (1, .int (nI (4 + n9366))), (0, .ref c)]) e_X10_readOption_43 (by decide) rfl ?_
        refine m_aload_n F rfl e_X10_readOption_45 ?_
        refine r_get F e_X10_readOption_46 fl_X10_141 h9492 rfl (fun v hv f9493 => ?_)
        obtain ⟨x9494, hx9494, rfl⟩ := hv
        replace hx9494 : 0 = 0 → x9494 ≠ 0 := hx9494
        refine m_if_eq F e_X10_readOption_49 (fun q49 => ?_) (fun q49 => ?_)
        · first | exact absurd q49 (hx9494 rfl) | contradiction
        · have h9495 := HS.z0 h9492 (f9493) q49
          have h9496 : HS V c _ [0, 2, 4, 5, 6, 7, 8, 9, 10, 11, 12, 13, 17, 18, 19, 20, 21, 22, 23] _ _ := ⟨HR.mono (Z' := Z) (by intro e; first | rfl | assumption | omega) h9495.1, h9495.2⟩
          exact m_vret F hQ e_X10_readOption_52 (⟨P9485, oP9485, (by unfold RP; omega), h9496, rfl⟩)
set_option maxRecDepth 20000 in
theorem q_X10_readSeed (l : Launch) (V : VX) (c T Z u h : Nat) (P : NP) (L : Nat → LQ) (N : Nat) (σ : Mem)  (h0 : HR V c ⟨T, Z, u, h, P, L⟩ σ) (hob : OKB L) (hP : OKP P)  : Ct l V yX10_readSeed cX10_readSeed 1 none 8 0 0 N σ [.ref c] (fun r τ => ∃ P9 : NP, OKP P9 ∧ RP P P9 ∧ HS V c (⟨T, Z, u, h, P9, L⟩ : RG) [0, 2, 4, 5, 6, 7, 8, 9, 10, 11, 12, 13, 14, 15, 16, 17, 18, 19, 20, 21, 22, 23] σ τ ∧ r = none) := by
  refine Ct.of (by decide) (Nat.le_of_ble_eq_true rfl) [(0, .ref c)] rfl (fun X hX F hQ => ?_)
  have hPP := hP
  unfold OKP at hPP
  have h1 : HS V c ⟨T, Z, u, h, P, L⟩ [0, 2, 4, 5, 6, 7, 8, 9, 10, 11, 12, 13, 14, 15, 16, 17, 18, 19, 20, 21, 22, 23] σ σ := HS.start h0
  refine m_aload_n F rfl e_X10_readSeed_0 ?_
  refine m_iconst F (v := 4) (by decide) e_X10_readSeed_1 ?_
  refine r_callV F e_X10_readSeed_2 (q_X10_reading4 (x_l X) V c T Z u h P L _ _  h1.1 (hob) hP ) cb_X10_reading ml_X10_157 im_X10_reading se_X10_reading h1 rfl rfl (rest := []) rfl (Nat.le_of_ble_eq_true rfl) ⟨Nat.le_of_ble_eq_true rfl, Nat.le_of_ble_eq_true rfl⟩ ⟨Nat.le_of_ble_eq_true rfl, Nat.le_of_ble_eq_true rfl⟩ (fun r σ9497 hp => ?_)
  obtain ⟨h9498, x9500, rfl⟩ := hp
  have h9499 := HS.trans h1 h9498 (by decide)
  refine m_if_eq F e_X10_readSeed_5 (fun q5 => ?_) (fun q5 => ?_)
  · subst q5
    refine m_aload_n F rfl e_X10_readSeed_13 ?_
    refine r_callV F e_X10_readSeed_14 (q_X10_goOn (x_l X) V c T Z u h P L _ _  h9499.1 (hob) hP ) cb_X10_goOn ml_X10_154 im_X10_goOn se_X10_goOn h9499 rfl rfl (rest := []) rfl (Nat.le_of_ble_eq_true rfl) ⟨Nat.le_of_ble_eq_true rfl, Nat.le_of_ble_eq_true rfl⟩ ⟨Nat.le_of_ble_eq_true rfl, Nat.le_of_ble_eq_true rfl⟩ (fun r σ9501 hp => ?_)
    obtain ⟨P9504, oP9504, rP9504, pr9505, h9502, rfl⟩ := hp
    have h9503 := HS.trans h9499 h9502 (by decide)
    have xP9504 := oP9504
    unfold OKP at xP9504
    unfold RA at rP9504
    refine m_aload_n F rfl e_X10_readSeed_17 ?_
    refine m_iconst F (v := 4) (by decide) e_X10_readSeed_18 ?_
    refine m_aload_n F rfl e_X10_readSeed_19 ?_
    refine m_iconst F (v := 0) (by decide) e_X10_readSeed_20 ?_
    refine m_ldc F kc_X10_177 e_X10_readSeed_21 ?_
    refine r_callV F e_X10_readSeed_23 (q_X10_numeral (x_l X) V c T Z u h P9504 L _ _ 0 99999 h9503.1 (hob) oP9504 (by omega) (by omega)) cb_X10_numeral ml_X10_165 im_X10_numeral se_X10_numeral h9503 rfl rfl (rest := [.int 4, .ref c]) rfl (Nat.le_of_ble_eq_true rfl) ⟨Nat.le_of_ble_eq_true rfl, Nat.le_of_ble_eq_true rfl⟩ ⟨Nat.le_of_ble_eq_true rfl, Nat.le_of_ble_eq_true rfl⟩ (fun r σ9506 hp => ?_)
    obtain ⟨P9510, oP9510, rP9510, h9507, c9509⟩ := hp
    have h9508 := HS.trans h9503 h9507 (by decide)
    have xP9510 := oP9510
    unfold OKP at xP9510
    unfold RA at rP9510
    rcases c9509 with ⟨n9511, gn9511, hn9511, rfl⟩ | ⟨h9512, rfl⟩
    · refine m_iconst F (v := 1) (by decide) e_X10_readSeed_26 ?_
      refine m_iadd F e_X10_readSeed_27 ?_
      refine Wm.topE (w := nI (n9511 + 1)) (nI_add n9511 1) ?_
      refine r_callV F e_X10_readSeed_28 (q_X10_reads4 (x_l X) V c T Z u h P9510 L _ _ (nI (n9511 + 1)) h9508.1 (hob) oP9510 ) cb_X10_reads ml_X10_170 im_X10_reads se_X10_reads h9508 rfl rfl (rest := []) rfl (Nat.le_of_ble_eq_true rfl) ⟨Nat.le_of_ble_eq_true rfl, Nat.le_of_ble_eq_true rfl⟩ ⟨Nat.le_of_ble_eq_true rfl, Nat.le_of_ble_eq_true rfl⟩ (fun r σ9513 hp => ?_)
      obtain ⟨h9514, rfl⟩ := hp
      have h9515 := HS.trans h9508 h9514 (by decide)
      exact m_vret F hQ e_X10_readSeed_31 (⟨P9510, oP9510, (by unfold RP; omega), h9515, rfl⟩)
    · have h9516 : HS V c (⟨T, 0, u, h, P9510, L⟩ : RG) [0, 2, 4, 5, 6, 7, 8, 9, 10, 11, 12, 13, 14, 15, 16, 17, 18, 19, 20, 21, 22, 23] _ _ := ⟨h9512, h9508.2⟩
      refine m_iconst F (v := 1) (by decide) e_X10_readSeed_26 ?_
      refine m_iadd F e_X10_readSeed_27 ?_
      refine Wm.topE (w := nI (0 + 1)) (nI_add 0 1) ?_
      refine r_callV F e_X10_readSeed_28 (q_X10_reads4 (x_l X) V c T 0 u h P9510 L _ _ (nI (0 + 1)) h9516.1 (hob) oP9510 ) cb_X10_reads ml_X10_170 im_X10_reads se_X10_reads h9516 rfl rfl (rest := []) rfl (Nat.le_of_ble_eq_true rfl) ⟨Nat.le_of_ble_eq_true rfl, Nat.le_of_ble_eq_true rfl⟩ ⟨Nat.le_of_ble_eq_true rfl, Nat.le_of_ble_eq_true rfl⟩ (fun r σ9517 hp => ?_)
      obtain ⟨h9518, rfl⟩ := hp
      have h9519 := HS.trans h9516 h9518 (by decide)
      have h9520 : HS V c _ [0, 2, 4, 5, 6, 7, 8, 9, 10, 11, 12, 13, 14, 15, 16, 17, 18, 19, 20, 21, 22, 23] _ _ := ⟨HR.mono (Z' := Z) (by intro e; first | rfl | assumption | omega) h9519.1, h9519.2⟩
      exact m_vret F hQ e_X10_readSeed_31 (⟨P9510, oP9510, (by unfold RP; omega), h9520, rfl⟩)
  · refine m_aload_n F rfl e_X10_readSeed_8 ?_
    refine m_iconst F (v := 3) (by decide) e_X10_readSeed_9 ?_
    refine r_callV F e_X10_readSeed_10 (q_X10_wrong (x_l X) V c T Z u h P L _ _ 3 h9499.1 (hob) hP (by first | omega | assumption | decide)) cb_X10_wrong ml_X10_150 im_X10_wrong se_X10_wrong h9499 rfl rfl (rest := []) rfl (Nat.le_of_ble_eq_true rfl) ⟨Nat.le_of_ble_eq_true rfl, Nat.le_of_ble_eq_true rfl⟩ ⟨Nat.le_of_ble_eq_true rfl, Nat.le_of_ble_eq_true rfl⟩ (fun r σ9521 hp => ?_)
    obtain ⟨h9522, rfl⟩ := hp
    have h9523 := HS.trans h9499 h9522 (by decide)
    refine m_aload_n F rfl e_X10_readSeed_13 ?_
    refine r_callV F e_X10_readSeed_14 (q_X10_goOn (x_l X) V c T 0 u h P L _ _  h9523.1 (hob) hP ) cb_X10_goOn ml_X10_154 im_X10_goOn se_X10_goOn h9523 rfl rfl (rest := []) rfl (Nat.le_of_ble_eq_true rfl) ⟨Nat.le_of_ble_eq_true rfl, Nat.le_of_ble_eq_true rfl⟩ ⟨Nat.le_of_ble_eq_true rfl, Nat.le_of_ble_eq_true rfl⟩ (fun r σ9524 hp => ?_)
    obtain ⟨P9527, oP9527, rP9527, pr9528, h9525, rfl⟩ := hp
    have h9526 := HS.trans h9523 h9525 (by decide)
    have xP9527 := oP9527
    unfold OKP at xP9527
    unfold RA at rP9527
    refine m_aload_n F rfl e_X10_readSeed_17 ?_
    refine m_iconst F (v := 4) (by decide) e_X10_readSeed_18 ?_
    refine m_aload_n F rfl e_X10_readSeed_19 ?_
    refine m_iconst F (v := 0) (by decide) e_X10_readSeed_20 ?_
    refine m_ldc F kc_X10_177 e_X10_readSeed_21 ?_
    refine r_callV F e_X10_readSeed_23 (q_X10_numeral (x_l X) V c T 0 u h P9527 L _ _ 0 99999 h9526.1 (hob) oP9527 (by omega) (by omega)) cb_X10_numeral ml_X10_165 im_X10_numeral se_X10_numeral h9526 rfl rfl (rest := [.int 4, .ref c]) rfl (Nat.le_of_ble_eq_true rfl) ⟨Nat.le_of_ble_eq_true rfl, Nat.le_of_ble_eq_true rfl⟩ ⟨Nat.le_of_ble_eq_true rfl, Nat.le_of_ble_eq_true rfl⟩ (fun r σ9529 hp => ?_)
    obtain ⟨P9533, oP9533, rP9533, h9530, c9532⟩ := hp
    have h9531 := HS.trans h9526 h9530 (by decide)
    have xP9533 := oP9533
    unfold OKP at xP9533
    unfold RA at rP9533
    rcases c9532 with ⟨n9534, gn9534, hn9534, rfl⟩ | ⟨h9535, rfl⟩
    · refine m_iconst F (v := 1) (by decide) e_X10_readSeed_26 ?_
      refine m_iadd F e_X10_readSeed_27 ?_
      refine Wm.topE (w := nI (n9534 + 1)) (nI_add n9534 1) ?_
      refine r_callV F e_X10_readSeed_28 (q_X10_reads4 (x_l X) V c T 0 u h P9533 L _ _ (nI (n9534 + 1)) h9531.1 (hob) oP9533 ) cb_X10_reads ml_X10_170 im_X10_reads se_X10_reads h9531 rfl rfl (rest := []) rfl (Nat.le_of_ble_eq_true rfl) ⟨Nat.le_of_ble_eq_true rfl, Nat.le_of_ble_eq_true rfl⟩ ⟨Nat.le_of_ble_eq_true rfl, Nat.le_of_ble_eq_true rfl⟩ (fun r σ9536 hp => ?_)
      obtain ⟨h9537, rfl⟩ := hp
      have h9538 := HS.trans h9531 h9537 (by decide)
      have h9539 : HS V c _ [0, 2, 4, 5, 6, 7, 8, 9, 10, 11, 12, 13, 14, 15, 16, 17, 18, 19, 20, 21, 22, 23] _ _ := ⟨HR.mono (Z' := Z) (by intro e; first | rfl | assumption | omega) h9538.1, h9538.2⟩
      exact m_vret F hQ e_X10_readSeed_31 (⟨P9533, oP9533, (by unfold RP; omega), h9539, rfl⟩)
    · have h9540 : HS V c (⟨T, 0, u, h, P9533, L⟩ : RG) [0, 2, 4, 5, 6, 7, 8, 9, 10, 11, 12, 13, 14, 15, 16, 17, 18, 19, 20, 21, 22, 23] _ _ := ⟨h9535, h9531.2⟩
      refine m_iconst F (v := 1) (by decide) e_X10_readSeed_26 ?_
      refine m_iadd F e_X10_readSeed_27 ?_
      refine Wm.topE (w := nI (0 + 1)) (nI_add 0 1) ?_
      refine r_callV F e_X10_readSeed_28 (q_X10_reads4 (x_l X) V c T 0 u h P9533 L _ _ (nI (0 + 1)) h9540.1 (hob) oP9533 ) cb_X10_reads ml_X10_170 im_X10_reads se_X10_reads h9540 rfl rfl (rest := []) rfl (Nat.le_of_ble_eq_true rfl) ⟨Nat.le_of_ble_eq_true rfl, Nat.le_of_ble_eq_true rfl⟩ ⟨Nat.le_of_ble_eq_true rfl, Nat.le_of_ble_eq_true rfl⟩ (fun r σ9541 hp => ?_)
      obtain ⟨h9542, rfl⟩ := hp
      have h9543 := HS.trans h9540 h9542 (by decide)
      have h9544 : HS V c _ [0, 2, 4, 5, 6, 7, 8, 9, 10, 11, 12, 13, 14, 15, 16, 17, 18, 19, 20, 21, 22, 23] _ _ := ⟨HR.mono (Z' := Z) (by intro e; first | rfl | assumption | omega) h9543.1, h9543.2⟩
      exact m_vret F hQ e_X10_readSeed_31 (⟨P9533, oP9533, (by unfold RP; omega), h9544, rfl⟩)
set_option maxRecDepth 20000 in
theorem q_X10_readLine (l : Launch) (V : VX) (c T Z u h : Nat) (P : NP) (L : Nat → LQ) (N : Nat) (σ : Mem)  (h0 : HR V c ⟨T, Z, u, h, P, L⟩ σ) (hob : OKB L) (hP : OKP P)  : Ct l V yX10_readLine cX10_readLine 1 none 9 0 0 N σ [.ref c] (fun r τ => ∃ P9 : NP, OKP P9 ∧ RP P P9 ∧ PG c P.a P9.a τ ∧ HS V c (⟨T, Z, u, h, P9, L⟩ : RG) [0, 2, 17, 18, 19, 20, 21, 22, 23] σ τ ∧ r = none) := by
  refine Ct.of (by decide) (Nat.le_of_ble_eq_true rfl) [(0, .ref c)] rfl (fun X hX F hQ => ?_)
  have hPP := hP
  unfold OKP at hPP
  have h1 : HS V c ⟨T, Z, u, h, P, L⟩ [0, 2, 17, 18, 19, 20, 21, 22, 23] σ σ := HS.start h0
  refine m_aload_n F rfl e_X10_readLine_0 ?_
  refine r_get F e_X10_readLine_1 fl_X10_110 h1 rfl (fun v hv f9545 => ?_)
  obtain ⟨x9546, rfl⟩ := hv
  refine m_if_eq F e_X10_readLine_4 (fun q4 => ?_) (fun q4 => ?_)
  · subst q4
    refine m_aload_n F rfl e_X10_readLine_15 ?_
    refine r_get F e_X10_readLine_16 fl_X10_120 h1 rfl (fun v hv f9547 => ?_)
    obtain ⟨x9548, rfl⟩ := hv
    refine m_if_ne F e_X10_readLine_19 (fun q19 => ?_) (fun q19 => ?_)
    · refine m_aload_n F rfl e_X10_readLine_29 ?_
      refine r_getC F e_X10_readLine_30 fl_X10_120 h1 (f9547) ?_
      refine m_iconst F (v := 1) (by decide) e_X10_readLine_33 ?_
      refine m_icmp_ne F e_X10_readLine_34 (fun q34 => ?_) (fun q34 => ?_)
      · refine m_aload_n F rfl e_X10_readLine_44 ?_
        refine r_getC F e_X10_readLine_45 fl_X10_120 h1 (f9547) ?_
        refine m_iconst F (v := 2) (by decide) e_X10_readLine_48 ?_
        refine m_icmp_eq F e_X10_readLine_49 (fun q49 => ?_) (fun q49 => ?_)
        · subst q49
          refine m_aload_n F rfl e_X10_readLine_60 ?_
          refine m_aload_n F rfl e_X10_readLine_61 ?_
          refine r_getC F e_X10_readLine_62 fl_X10_120 h1 (f9547) ?_
          refine m_iconst F (v := 2) (by decide) e_X10_readLine_65 ?_
          refine m_icmp_ne F e_X10_readLine_66 (fun q => absurd (by decide) q) (fun _ => ?_)
          refine m_iconst F (v := 1) (by decide) e_X10_readLine_69 ?_
          refine m_goto F e_X10_readLine_70 ?_
          refine r_callV F e_X10_readLine_74 (q_X10_readMark (x_l X) V c T Z u h P L _ _ 1 h1.1 (hob) hP ) cb_X10_readMark ml_X10_184 im_X10_readMark se_X10_readMark h1 rfl rfl (rest := []) rfl (Nat.le_of_ble_eq_true rfl) ⟨Nat.le_of_ble_eq_true rfl, Nat.le_of_ble_eq_true rfl⟩ ⟨Nat.le_of_ble_eq_true rfl, Nat.le_of_ble_eq_true rfl⟩ (fun r σ9549 hp => ?_)
          obtain ⟨P9552, oP9552, rP9552, h9550, rfl⟩ := hp
          have h9551 := HS.trans h1 h9550 (by decide)
          have xP9552 := oP9552
          unfold OKP at xP9552
          unfold RP at rP9552
          refine m_goto F e_X10_readLine_77 ?_
          refine m_aload_n F rfl e_X10_readLine_146 ?_
          refine r_get F e_X10_readLine_147 fl_X10_141 h9551 rfl (fun v hv f9553 => ?_)
          obtain ⟨x9554, hx9554, rfl⟩ := hv
          replace hx9554 : Z = 0 → x9554 ≠ 0 := hx9554
          refine m_if_ne F e_X10_readLine_150 (fun q150 => ?_) (fun q150 => ?_)
          · have h9555 := HS.z0 h9551 (f9553) q150
            refine m_aload_n F rfl e_X10_readLine_166 ?_
            refine r_callV F e_X10_readLine_167 (q_X10_goOn (x_l X) V c T 0 u h P9552 L _ _  h9555.1 (hob) oP9552 ) cb_X10_goOn ml_X10_154 im_X10_goOn se_X10_goOn h9555 rfl rfl (rest := []) rfl (Nat.le_of_ble_eq_true rfl) ⟨Nat.le_of_ble_eq_true rfl, Nat.le_of_ble_eq_true rfl⟩ ⟨Nat.le_of_ble_eq_true rfl, Nat.le_of_ble_eq_true rfl⟩ (fun r σ9556 hp => ?_)
            obtain ⟨P9559, oP9559, rP9559, pr9560, h9557, rfl⟩ := hp
            have h9558 := HS.trans h9555 h9557 (by decide)
            have xP9559 := oP9559
            unfold OKP at xP9559
            unfold RA at rP9559
            refine m_aload_n F rfl e_X10_readLine_170 ?_
            refine m_dup F rfl e_X10_readLine_171 ?_
            refine r_get F e_X10_readLine_172 fl_X10_202 h9558 rfl (fun v hv f9561 => ?_)
            obtain ⟨x9562, rfl⟩ := hv
            refine m_iconst F (v := 1) (by decide) e_X10_readLine_175 ?_
            refine m_iadd F e_X10_readLine_176 ?_
            refine Wm.top (fun x9563 _ => ?_)
            refine r_put F (g' := (⟨T, 0, u, h, P9559, L⟩ : RG)) e_X10_readLine_177 fp_X10_202 h9558 (by decide) ⟨_, rfl⟩ (fun _ _ _ _ q => q) (fun _ _ _ q => q) rfl rfl (by decide) (fun σ9564 h9565 g9566 g9567 f9568 => ?_)
            have pg9569 := pr9560.of (g9567 23 (by decide)) (g9567 21 (by decide))
            have h9570 : HS V c _ [0, 2, 17, 18, 19, 20, 21, 22, 23] _ _ := ⟨HR.mono (Z' := Z) (by intro e; first | rfl | assumption | omega) h9565.1, h9565.2⟩
            exact m_vret F hQ e_X10_readLine_180 (⟨P9559, oP9559, (by unfold RP; omega), (pg9569.mono (by omega)), h9570, rfl⟩)
          · subst q150
            refine m_aload_n F rfl e_X10_readLine_153 ?_
            refine r_get F e_X10_readLine_154 fl_X10_110 h9551 rfl (fun v hv f9571 => ?_)
            obtain ⟨x9572, rfl⟩ := hv
            refine m_iconst F (v := 3) (by decide) e_X10_readLine_157 ?_
            refine m_icmp_eq F e_X10_readLine_158 (fun q158 => ?_) (fun q158 => ?_)
            · subst q158
              refine m_aload_n F rfl e_X10_readLine_166 ?_
              refine r_callV F e_X10_readLine_167 (q_X10_goOn (x_l X) V c T Z u h P9552 L _ _  h9551.1 (hob) oP9552 ) cb_X10_goOn ml_X10_154 im_X10_goOn se_X10_goOn h9551 rfl rfl (rest := []) rfl (Nat.le_of_ble_eq_true rfl) ⟨Nat.le_of_ble_eq_true rfl, Nat.le_of_ble_eq_true rfl⟩ ⟨Nat.le_of_ble_eq_true rfl, Nat.le_of_ble_eq_true rfl⟩ (fun r σ9573 hp => ?_)
              obtain ⟨P9576, oP9576, rP9576, pr9577, h9574, rfl⟩ := hp
              have h9575 := HS.trans h9551 h9574 (by decide)
              have xP9576 := oP9576
              unfold OKP at xP9576
              unfold RA at rP9576
              refine m_aload_n F rfl e_X10_readLine_170 ?_
              refine m_dup F rfl e_X10_readLine_171 ?_
              refine r_get F e_X10_readLine_172 fl_X10_202 h9575 rfl (fun v hv f9578 => ?_)
              obtain ⟨x9579, rfl⟩ := hv
              refine m_iconst F (v := 1) (by decide) e_X10_readLine_175 ?_
              refine m_iadd F e_X10_readLine_176 ?_
              refine Wm.top (fun x9580 _ => ?_)
              refine r_put F (g' := (⟨T, Z, u, h, P9576, L⟩ : RG)) e_X10_readLine_177 fp_X10_202 h9575 (by decide) ⟨_, rfl⟩ (fun _ _ _ _ q => q) (fun _ _ _ q => q) rfl rfl (by decide) (fun σ9581 h9582 g9583 g9584 f9585 => ?_)
              have pg9586 := pr9577.of (g9584 23 (by decide)) (g9584 21 (by decide))
              exact m_vret F hQ e_X10_readLine_180 (⟨P9576, oP9576, (by unfold RP; omega), (pg9586.mono (by omega)), h9582, rfl⟩)
            · refine m_aload_n F rfl e_X10_readLine_161 ?_
              refine m_iconst F (v := 1) (by decide) e_X10_readLine_162 ?_
              refine r_callV F e_X10_readLine_163 (q_X10_wrong (x_l X) V c T Z u h P9552 L _ _ 1 h9551.1 (hob) oP9552 (by first | omega | assumption | decide)) cb_X10_wrong ml_X10_150 im_X10_wrong se_X10_wrong h9551 rfl rfl (rest := []) rfl (Nat.le_of_ble_eq_true rfl) ⟨Nat.le_of_ble_eq_true rfl, Nat.le_of_ble_eq_true rfl⟩ ⟨Nat.le_of_ble_eq_true rfl, Nat.le_of_ble_eq_true rfl⟩ (fun r σ9587 hp => ?_)
              obtain ⟨h9588, rfl⟩ := hp
              have h9589 := HS.trans h9551 h9588 (by decide)
              refine m_aload_n F rfl e_X10_readLine_166 ?_
              refine r_callV F e_X10_readLine_167 (q_X10_goOn (x_l X) V c T 0 u h P9552 L _ _  h9589.1 (hob) oP9552 ) cb_X10_goOn ml_X10_154 im_X10_goOn se_X10_goOn h9589 rfl rfl (rest := []) rfl (Nat.le_of_ble_eq_true rfl) ⟨Nat.le_of_ble_eq_true rfl, Nat.le_of_ble_eq_true rfl⟩ ⟨Nat.le_of_ble_eq_true rfl, Nat.le_of_ble_eq_true rfl⟩ (fun r σ9590 hp => ?_)
              obtain ⟨P9593, oP9593, rP9593, pr9594, h9591, rfl⟩ := hp
              have h9592 := HS.trans h9589 h9591 (by decide)
              have xP9593 := oP9593
              unfold OKP at xP9593
              unfold RA at rP9593
              refine m_aload_n F rfl e_X10_readLine_170 ?_
              refine m_dup F rfl e_X10_readLine_171 ?_
              refine r_get F e_X10_readLine_172 fl_X10_202 h9592 rfl (fun v hv f9595 => ?_)
              obtain ⟨x9596, rfl⟩ := hv
              refine m_iconst F (v := 1) (by decide) e_X10_readLine_175 ?_
              refine m_iadd F e_X10_readLine_176 ?_
              refine Wm.top (fun x9597 _ => ?_)
              refine r_put F (g' := (⟨T, 0, u, h, P9593, L⟩ : RG)) e_X10_readLine_177 fp_X10_202 h9592 (by decide) ⟨_, rfl⟩ (fun _ _ _ _ q => q) (fun _ _ _ q => q) rfl rfl (by decide) (fun σ9598 h9599 g9600 g9601 f9602 => ?_)
              have pg9603 := pr9594.of (g9601 23 (by decide)) (g9601 21 (by decide))
              have h9604 : HS V c _ [0, 2, 17, 18, 19, 20, 21, 22, 23] _ _ := ⟨HR.mono (Z' := Z) (by intro e; first | rfl | assumption | omega) h9599.1, h9599.2⟩
              exact m_vret F hQ e_X10_readLine_180 (⟨P9593, oP9593, (by unfold RP; omega), (pg9603.mono (by omega)), h9604, rfl⟩)
        · refine m_aload_n F rfl e_X10_readLine_52 ?_
          refine r_getC F e_X10_readLine_53 fl_X10_120 h1 (f9547) ?_
          refine m_iconst F (v := 5) (by decide) e_X10_readLine_56 ?_
          refine m_icmp_ne F e_X10_readLine_57 (fun q57 => ?_) (fun q57 => ?_)
          · refine m_aload_n F rfl e_X10_readLine_80 ?_
            refine r_getC F e_X10_readLine_81 fl_X10_120 h1 (f9547) ?_
            refine m_iconst F (v := 3) (by decide) e_X10_readLine_84 ?_
            refine m_icmp_ne F e_X10_readLine_85 (fun q85 => ?_) (fun q85 => ?_)
            · refine m_aload_n F rfl e_X10_readLine_95 ?_
              refine r_getC F e_X10_readLine_96 fl_X10_120 h1 (f9547) ?_
              refine m_iconst F (v := 4) (by decide) e_X10_readLine_99 ?_
              refine m_icmp_ne F e_X10_readLine_100 (fun q100 => ?_) (fun q100 => ?_)
              · refine m_aload_n F rfl e_X10_readLine_110 ?_
                refine r_getC F e_X10_readLine_111 fl_X10_120 h1 (f9547) ?_
                refine m_bipush F (v := 6) (by decide) e_X10_readLine_114 ?_
                refine m_icmp_ne F e_X10_readLine_116 (fun q116 => ?_) (fun q116 => ?_)
                · refine m_aload_n F rfl e_X10_readLine_126 ?_
                  refine r_getC F e_X10_readLine_127 fl_X10_120 h1 (f9547) ?_
                  refine m_bipush F (v := 7) (by decide) e_X10_readLine_130 ?_
                  refine m_icmp_ne F e_X10_readLine_132 (fun q132 => ?_) (fun q132 => ?_)
                  · refine m_aload_n F rfl e_X10_readLine_142 ?_
                    refine r_callV F e_X10_readLine_143 (q_X10_readSeed (x_l X) V c T Z u h P L _ _  h1.1 (hob) hP ) cb_X10_readSeed ml_X10_199 im_X10_readSeed se_X10_readSeed h1 rfl rfl (rest := []) rfl (Nat.le_of_ble_eq_true rfl) ⟨Nat.le_of_ble_eq_true rfl, Nat.le_of_ble_eq_true rfl⟩ ⟨Nat.le_of_ble_eq_true rfl, Nat.le_of_ble_eq_true rfl⟩ (fun r σ9605 hp => ?_)
                    obtain ⟨P9608, oP9608, rP9608, h9606, rfl⟩ := hp
                    have h9607 := HS.trans h1 h9606 (by decide)
                    have xP9608 := oP9608
                    unfold OKP at xP9608
                    unfold RP at rP9608
                    refine m_aload_n F rfl e_X10_readLine_146 ?_
                    refine r_get F e_X10_readLine_147 fl_X10_141 h9607 rfl (fun v hv f9609 => ?_)
                    obtain ⟨x9610, hx9610, rfl⟩ := hv
                    replace hx9610 : Z = 0 → x9610 ≠ 0 := hx9610
                    refine m_if_ne F e_X10_readLine_150 (fun q150 => ?_) (fun q150 => ?_)
                    · have h9611 := HS.z0 h9607 (f9609) q150
                      refine m_aload_n F rfl e_X10_readLine_166 ?_
                      refine r_callV F e_X10_readLine_167 (q_X10_goOn (x_l X) V c T 0 u h P9608 L _ _  h9611.1 (hob) oP9608 ) cb_X10_goOn ml_X10_154 im_X10_goOn se_X10_goOn h9611 rfl rfl (rest := []) rfl (Nat.le_of_ble_eq_true rfl) ⟨Nat.le_of_ble_eq_true rfl, Nat.le_of_ble_eq_true rfl⟩ ⟨Nat.le_of_ble_eq_true rfl, Nat.le_of_ble_eq_true rfl⟩ (fun r σ9612 hp => ?_)
                      obtain ⟨P9615, oP9615, rP9615, pr9616, h9613, rfl⟩ := hp
                      have h9614 := HS.trans h9611 h9613 (by decide)
                      have xP9615 := oP9615
                      unfold OKP at xP9615
                      unfold RA at rP9615
                      refine m_aload_n F rfl e_X10_readLine_170 ?_
                      refine m_dup F rfl e_X10_readLine_171 ?_
                      refine r_get F e_X10_readLine_172 fl_X10_202 h9614 rfl (fun v hv f9617 => ?_)
                      obtain ⟨x9618, rfl⟩ := hv
                      refine m_iconst F (v := 1) (by decide) e_X10_readLine_175 ?_
                      refine m_iadd F e_X10_readLine_176 ?_
                      refine Wm.top (fun x9619 _ => ?_)
                      refine r_put F (g' := (⟨T, 0, u, h, P9615, L⟩ : RG)) e_X10_readLine_177 fp_X10_202 h9614 (by decide) ⟨_, rfl⟩ (fun _ _ _ _ q => q) (fun _ _ _ q => q) rfl rfl (by decide) (fun σ9620 h9621 g9622 g9623 f9624 => ?_)
                      have pg9625 := pr9616.of (g9623 23 (by decide)) (g9623 21 (by decide))
                      have h9626 : HS V c _ [0, 2, 17, 18, 19, 20, 21, 22, 23] _ _ := ⟨HR.mono (Z' := Z) (by intro e; first | rfl | assumption | omega) h9621.1, h9621.2⟩
                      exact m_vret F hQ e_X10_readLine_180 (⟨P9615, oP9615, (by unfold RP; omega), (pg9625.mono (by omega)), h9626, rfl⟩)
                    · subst q150
                      refine m_aload_n F rfl e_X10_readLine_153 ?_
                      refine r_get F e_X10_readLine_154 fl_X10_110 h9607 rfl (fun v hv f9627 => ?_)
                      obtain ⟨x9628, rfl⟩ := hv
                      refine m_iconst F (v := 3) (by decide) e_X10_readLine_157 ?_
                      refine m_icmp_eq F e_X10_readLine_158 (fun q158 => ?_) (fun q158 => ?_)
                      · subst q158
                        refine m_aload_n F rfl e_X10_readLine_166 ?_
                        refine r_callV F e_X10_readLine_167 (q_X10_goOn (x_l X) V c T Z u h P9608 L _ _  h9607.1 (hob) oP9608 ) cb_X10_goOn ml_X10_154 im_X10_goOn se_X10_goOn h9607 rfl rfl (rest := []) rfl (Nat.le_of_ble_eq_true rfl) ⟨Nat.le_of_ble_eq_true rfl, Nat.le_of_ble_eq_true rfl⟩ ⟨Nat.le_of_ble_eq_true rfl, Nat.le_of_ble_eq_true rfl⟩ (fun r σ9629 hp => ?_)
                        obtain ⟨P9632, oP9632, rP9632, pr9633, h9630, rfl⟩ := hp
                        have h9631 := HS.trans h9607 h9630 (by decide)
                        have xP9632 := oP9632
                        unfold OKP at xP9632
                        unfold RA at rP9632
                        refine m_aload_n F rfl e_X10_readLine_170 ?_
                        refine m_dup F rfl e_X10_readLine_171 ?_
                        refine r_get F e_X10_readLine_172 fl_X10_202 h9631 rfl (fun v hv f9634 => ?_)
                        obtain ⟨x9635, rfl⟩ := hv
                        refine m_iconst F (v := 1) (by decide) e_X10_readLine_175 ?_
                        refine m_iadd F e_X10_readLine_176 ?_
                        refine Wm.top (fun x9636 _ => ?_)
                        refine r_put F (g' := (⟨T, Z, u, h, P9632, L⟩ : RG)) e_X10_readLine_177 fp_X10_202 h9631 (by decide) ⟨_, rfl⟩ (fun _ _ _ _ q => q) (fun _ _ _ q => q) rfl rfl (by decide) (fun σ9637 h9638 g9639 g9640 f9641 => ?_)
                        have pg9642 := pr9633.of (g9640 23 (by decide)) (g9640 21 (by decide))
                        exact m_vret F hQ e_X10_readLine_180 (⟨P9632, oP9632, (by unfold RP; omega), (pg9642.mono (by omega)), h9638, rfl⟩)
                      · refine m_aload_n F rfl e_X10_readLine_161 ?_
                        refine m_iconst F (v := 1) (by decide) e_X10_readLine_162 ?_
                        refine r_callV F e_X10_readLine_163 (q_X10_wrong (x_l X) V c T Z u h P9608 L _ _ 1 h9607.1 (hob) oP9608 (by first | omega | assumption | decide)) cb_X10_wrong ml_X10_150 im_X10_wrong se_X10_wrong h9607 rfl rfl (rest := []) rfl (Nat.le_of_ble_eq_true rfl) ⟨Nat.le_of_ble_eq_true rfl, Nat.le_of_ble_eq_true rfl⟩ ⟨Nat.le_of_ble_eq_true rfl, Nat.le_of_ble_eq_true rfl⟩ (fun r σ9643 hp => ?_)
                        obtain ⟨h9644, rfl⟩ := hp
                        have h9645 := HS.trans h9607 h9644 (by decide)
                        refine m_aload_n F rfl e_X10_readLine_166 ?_
                        refine r_callV F e_X10_readLine_167 (q_X10_goOn (x_l X) V c T 0 u h P9608 L _ _  h9645.1 (hob) oP9608 ) cb_X10_goOn ml_X10_154 im_X10_goOn se_X10_goOn h9645 rfl rfl (rest := []) rfl (Nat.le_of_ble_eq_true rfl) ⟨Nat.le_of_ble_eq_true rfl, Nat.le_of_ble_eq_true rfl⟩ ⟨Nat.le_of_ble_eq_true rfl, Nat.le_of_ble_eq_true rfl⟩ (fun r σ9646 hp => ?_)
                        obtain ⟨P9649, oP9649, rP9649, pr9650, h9647, rfl⟩ := hp
                        have h9648 := HS.trans h9645 h9647 (by decide)
                        have xP9649 := oP9649
                        unfold OKP at xP9649
                        unfold RA at rP9649
                        refine m_aload_n F rfl e_X10_readLine_170 ?_
                        refine m_dup F rfl e_X10_readLine_171 ?_
                        refine r_get F e_X10_readLine_172 fl_X10_202 h9648 rfl (fun v hv f9651 => ?_)
                        obtain ⟨x9652, rfl⟩ := hv
                        refine m_iconst F (v := 1) (by decide) e_X10_readLine_175 ?_
                        refine m_iadd F e_X10_readLine_176 ?_
                        refine Wm.top (fun x9653 _ => ?_)
                        refine r_put F (g' := (⟨T, 0, u, h, P9649, L⟩ : RG)) e_X10_readLine_177 fp_X10_202 h9648 (by decide) ⟨_, rfl⟩ (fun _ _ _ _ q => q) (fun _ _ _ q => q) rfl rfl (by decide) (fun σ9654 h9655 g9656 g9657 f9658 => ?_)
                        have pg9659 := pr9650.of (g9657 23 (by decide)) (g9657 21 (by decide))
                        have h9660 : HS V c _ [0, 2, 17, 18, 19, 20, 21, 22, 23] _ _ := ⟨HR.mono (Z' := Z) (by intro e; first | rfl | assumption | omega) h9655.1, h9655.2⟩
                        exact m_vret F hQ e_X10_readLine_180 (⟨P9649, oP9649, (by unfold RP; omega), (pg9659.mono (by omega)), h9660, rfl⟩)
                  · subst q132
                    refine m_aload_n F rfl e_X10_readLine_135 ?_
                    refine r_callV F e_X10_readLine_136 (q_X10_readOption (x_l X) V c T Z u h P L _ _  h1.1 (hob) hP ) cb_X10_readOption ml_X10_196 im_X10_readOption se_X10_readOption h1 rfl rfl (rest := []) rfl (Nat.le_of_ble_eq_true rfl) ⟨Nat.le_of_ble_eq_true rfl, Nat.le_of_ble_eq_true rfl⟩ ⟨Nat.le_of_ble_eq_true rfl, Nat.le_of_ble_eq_true rfl⟩ (fun r σ9661 hp => ?_)
                    obtain ⟨P9664, oP9664, rP9664, h9662, rfl⟩ := hp
                    have h9663 := HS.trans h1 h9662 (by decide)
                    have xP9664 := oP9664
                    unfold OKP at xP9664
                    unfold RP at rP9664
                    refine m_goto F e_X10_readLine_139 ?_
                    refine m_aload_n F rfl e_X10_readLine_146 ?_
                    refine r_get F e_X10_readLine_147 fl_X10_141 h9663 rfl (fun v hv f9665 => ?_)
                    obtain ⟨x9666, hx9666, rfl⟩ := hv
                    replace hx9666 : Z = 0 → x9666 ≠ 0 := hx9666
                    refine m_if_ne F e_X10_readLine_150 (fun q150 => ?_) (fun q150 => ?_)
                    · have h9667 := HS.z0 h9663 (f9665) q150
                      refine m_aload_n F rfl e_X10_readLine_166 ?_
                      refine r_callV F e_X10_readLine_167 (q_X10_goOn (x_l X) V c T 0 u h P9664 L _ _  h9667.1 (hob) oP9664 ) cb_X10_goOn ml_X10_154 im_X10_goOn se_X10_goOn h9667 rfl rfl (rest := []) rfl (Nat.le_of_ble_eq_true rfl) ⟨Nat.le_of_ble_eq_true rfl, Nat.le_of_ble_eq_true rfl⟩ ⟨Nat.le_of_ble_eq_true rfl, Nat.le_of_ble_eq_true rfl⟩ (fun r σ9668 hp => ?_)
                      obtain ⟨P9671, oP9671, rP9671, pr9672, h9669, rfl⟩ := hp
                      have h9670 := HS.trans h9667 h9669 (by decide)
                      have xP9671 := oP9671
                      unfold OKP at xP9671
                      unfold RA at rP9671
                      refine m_aload_n F rfl e_X10_readLine_170 ?_
                      refine m_dup F rfl e_X10_readLine_171 ?_
                      refine r_get F e_X10_readLine_172 fl_X10_202 h9670 rfl (fun v hv f9673 => ?_)
                      obtain ⟨x9674, rfl⟩ := hv
                      refine m_iconst F (v := 1) (by decide) e_X10_readLine_175 ?_
                      refine m_iadd F e_X10_readLine_176 ?_
                      refine Wm.top (fun x9675 _ => ?_)
                      refine r_put F (g' := (⟨T, 0, u, h, P9671, L⟩ : RG)) e_X10_readLine_177 fp_X10_202 h9670 (by decide) ⟨_, rfl⟩ (fun _ _ _ _ q => q) (fun _ _ _ q => q) rfl rfl (by decide) (fun σ9676 h9677 g9678 g9679 f9680 => ?_)
                      have pg9681 := pr9672.of (g9679 23 (by decide)) (g9679 21 (by decide))
                      have h9682 : HS V c _ [0, 2, 17, 18, 19, 20, 21, 22, 23] _ _ := ⟨HR.mono (Z' := Z) (by intro e; first | rfl | assumption | omega) h9677.1, h9677.2⟩
                      exact m_vret F hQ e_X10_readLine_180 (⟨P9671, oP9671, (by unfold RP; omega), (pg9681.mono (by omega)), h9682, rfl⟩)
                    · subst q150
                      refine m_aload_n F rfl e_X10_readLine_153 ?_
                      refine r_get F e_X10_readLine_154 fl_X10_110 h9663 rfl (fun v hv f9683 => ?_)
                      obtain ⟨x9684, rfl⟩ := hv
                      refine m_iconst F (v := 3) (by decide) e_X10_readLine_157 ?_
                      refine m_icmp_eq F e_X10_readLine_158 (fun q158 => ?_) (fun q158 => ?_)
                      · subst q158
                        refine m_aload_n F rfl e_X10_readLine_166 ?_
                        refine r_callV F e_X10_readLine_167 (q_X10_goOn (x_l X) V c T Z u h P9664 L _ _  h9663.1 (hob) oP9664 ) cb_X10_goOn ml_X10_154 im_X10_goOn se_X10_goOn h9663 rfl rfl (rest := []) rfl (Nat.le_of_ble_eq_true rfl) ⟨Nat.le_of_ble_eq_true rfl, Nat.le_of_ble_eq_true rfl⟩ ⟨Nat.le_of_ble_eq_true rfl, Nat.le_of_ble_eq_true rfl⟩ (fun r σ9685 hp => ?_)
                        obtain ⟨P9688, oP9688, rP9688, pr9689, h9686, rfl⟩ := hp
                        have h9687 := HS.trans h9663 h9686 (by decide)
                        have xP9688 := oP9688
                        unfold OKP at xP9688
                        unfold RA at rP9688
                        refine m_aload_n F rfl e_X10_readLine_170 ?_
                        refine m_dup F rfl e_X10_readLine_171 ?_
                        refine r_get F e_X10_readLine_172 fl_X10_202 h9687 rfl (fun v hv f9690 => ?_)
                        obtain ⟨x9691, rfl⟩ := hv
                        refine m_iconst F (v := 1) (by decide) e_X10_readLine_175 ?_
                        refine m_iadd F e_X10_readLine_176 ?_
                        refine Wm.top (fun x9692 _ => ?_)
                        refine r_put F (g' := (⟨T, Z, u, h, P9688, L⟩ : RG)) e_X10_readLine_177 fp_X10_202 h9687 (by decide) ⟨_, rfl⟩ (fun _ _ _ _ q => q) (fun _ _ _ q => q) rfl rfl (by decide) (fun σ9693 h9694 g9695 g9696 f9697 => ?_)
                        have pg9698 := pr9689.of (g9696 23 (by decide)) (g9696 21 (by decide))
                        exact m_vret F hQ e_X10_readLine_180 (⟨P9688, oP9688, (by unfold RP; omega), (pg9698.mono (by omega)), h9694, rfl⟩)
                      · refine m_aload_n F rfl e_X10_readLine_161 ?_
                        refine m_iconst F (v := 1) (by decide) e_X10_readLine_162 ?_
                        refine r_callV F e_X10_readLine_163 (q_X10_wrong (x_l X) V c T Z u h P9664 L _ _ 1 h9663.1 (hob) oP9664 (by first | omega | assumption | decide)) cb_X10_wrong ml_X10_150 im_X10_wrong se_X10_wrong h9663 rfl rfl (rest := []) rfl (Nat.le_of_ble_eq_true rfl) ⟨Nat.le_of_ble_eq_true rfl, Nat.le_of_ble_eq_true rfl⟩ ⟨Nat.le_of_ble_eq_true rfl, Nat.le_of_ble_eq_true rfl⟩ (fun r σ9699 hp => ?_)
                        obtain ⟨h9700, rfl⟩ := hp
                        have h9701 := HS.trans h9663 h9700 (by decide)
                        refine m_aload_n F rfl e_X10_readLine_166 ?_
                        refine r_callV F e_X10_readLine_167 (q_X10_goOn (x_l X) V c T 0 u h P9664 L _ _  h9701.1 (hob) oP9664 ) cb_X10_goOn ml_X10_154 im_X10_goOn se_X10_goOn h9701 rfl rfl (rest := []) rfl (Nat.le_of_ble_eq_true rfl) ⟨Nat.le_of_ble_eq_true rfl, Nat.le_of_ble_eq_true rfl⟩ ⟨Nat.le_of_ble_eq_true rfl, Nat.le_of_ble_eq_true rfl⟩ (fun r σ9702 hp => ?_)
                        obtain ⟨P9705, oP9705, rP9705, pr9706, h9703, rfl⟩ := hp
                        have h9704 := HS.trans h9701 h9703 (by decide)
                        have xP9705 := oP9705
                        unfold OKP at xP9705
                        unfold RA at rP9705
                        refine m_aload_n F rfl e_X10_readLine_170 ?_
                        refine m_dup F rfl e_X10_readLine_171 ?_
                        refine r_get F e_X10_readLine_172 fl_X10_202 h9704 rfl (fun v hv f9707 => ?_)
                        obtain ⟨x9708, rfl⟩ := hv
                        refine m_iconst F (v := 1) (by decide) e_X10_readLine_175 ?_
                        refine m_iadd F e_X10_readLine_176 ?_
                        refine Wm.top (fun x9709 _ => ?_)
                        refine r_put F (g' := (⟨T, 0, u, h, P9705, L⟩ : RG)) e_X10_readLine_177 fp_X10_202 h9704 (by decide) ⟨_, rfl⟩ (fun _ _ _ _ q => q) (fun _ _ _ q => q) rfl rfl (by decide) (fun σ9710 h9711 g9712 g9713 f9714 => ?_)
                        have pg9715 := pr9706.of (g9713 23 (by decide)) (g9713 21 (by decide))
                        have h9716 : HS V c _ [0, 2, 17, 18, 19, 20, 21, 22, 23] _ _ := ⟨HR.mono (Z' := Z) (by intro e; first | rfl | assumption | omega) h9711.1, h9711.2⟩
                        exact m_vret F hQ e_X10_readLine_180 (⟨P9705, oP9705, (by unfold RP; omega), (pg9715.mono (by omega)), h9716, rfl⟩)
                · subst q116
                  refine m_aload_n F rfl e_X10_readLine_119 ?_
                  refine r_callV F e_X10_readLine_120 (q_X10_readChange (x_l X) V c T Z u h P L _ _  h1.1 (hob) hP ) cb_X10_readChange ml_X10_193 im_X10_readChange se_X10_readChange h1 rfl rfl (rest := []) rfl (Nat.le_of_ble_eq_true rfl) ⟨Nat.le_of_ble_eq_true rfl, Nat.le_of_ble_eq_true rfl⟩ ⟨Nat.le_of_ble_eq_true rfl, Nat.le_of_ble_eq_true rfl⟩ (fun r σ9717 hp => ?_)
                  obtain ⟨P9720, oP9720, rP9720, h9718, rfl⟩ := hp
                  have h9719 := HS.trans h1 h9718 (by decide)
                  have xP9720 := oP9720
                  unfold OKP at xP9720
                  unfold RP at rP9720
                  refine m_goto F e_X10_readLine_123 ?_
                  refine m_aload_n F rfl e_X10_readLine_146 ?_
                  refine r_get F e_X10_readLine_147 fl_X10_141 h9719 rfl (fun v hv f9721 => ?_)
                  obtain ⟨x9722, hx9722, rfl⟩ := hv
                  replace hx9722 : Z = 0 → x9722 ≠ 0 := hx9722
                  refine m_if_ne F e_X10_readLine_150 (fun q150 => ?_) (fun q150 => ?_)
                  · have h9723 := HS.z0 h9719 (f9721) q150
                    refine m_aload_n F rfl e_X10_readLine_166 ?_
                    refine r_callV F e_X10_readLine_167 (q_X10_goOn (x_l X) V c T 0 u h P9720 L _ _  h9723.1 (hob) oP9720 ) cb_X10_goOn ml_X10_154 im_X10_goOn se_X10_goOn h9723 rfl rfl (rest := []) rfl (Nat.le_of_ble_eq_true rfl) ⟨Nat.le_of_ble_eq_true rfl, Nat.le_of_ble_eq_true rfl⟩ ⟨Nat.le_of_ble_eq_true rfl, Nat.le_of_ble_eq_true rfl⟩ (fun r σ9724 hp => ?_)
                    obtain ⟨P9727, oP9727, rP9727, pr9728, h9725, rfl⟩ := hp
                    have h9726 := HS.trans h9723 h9725 (by decide)
                    have xP9727 := oP9727
                    unfold OKP at xP9727
                    unfold RA at rP9727
                    refine m_aload_n F rfl e_X10_readLine_170 ?_
                    refine m_dup F rfl e_X10_readLine_171 ?_
                    refine r_get F e_X10_readLine_172 fl_X10_202 h9726 rfl (fun v hv f9729 => ?_)
                    obtain ⟨x9730, rfl⟩ := hv
                    refine m_iconst F (v := 1) (by decide) e_X10_readLine_175 ?_
                    refine m_iadd F e_X10_readLine_176 ?_
                    refine Wm.top (fun x9731 _ => ?_)
                    refine r_put F (g' := (⟨T, 0, u, h, P9727, L⟩ : RG)) e_X10_readLine_177 fp_X10_202 h9726 (by decide) ⟨_, rfl⟩ (fun _ _ _ _ q => q) (fun _ _ _ q => q) rfl rfl (by decide) (fun σ9732 h9733 g9734 g9735 f9736 => ?_)
                    have pg9737 := pr9728.of (g9735 23 (by decide)) (g9735 21 (by decide))
                    have h9738 : HS V c _ [0, 2, 17, 18, 19, 20, 21, 22, 23] _ _ := ⟨HR.mono (Z' := Z) (by intro e; first | rfl | assumption | omega) h9733.1, h9733.2⟩
                    exact m_vret F hQ e_X10_readLine_180 (⟨P9727, oP9727, (by unfold RP; omega), (pg9737.mono (by omega)), h9738, rfl⟩)
                  · subst q150
                    refine m_aload_n F rfl e_X10_readLine_153 ?_
                    refine r_get F e_X10_readLine_154 fl_X10_110 h9719 rfl (fun v hv f9739 => ?_)
                    obtain ⟨x9740, rfl⟩ := hv
                    refine m_iconst F (v := 3) (by decide) e_X10_readLine_157 ?_
                    refine m_icmp_eq F e_X10_readLine_158 (fun q158 => ?_) (fun q158 => ?_)
                    · subst q158
                      refine m_aload_n F rfl e_X10_readLine_166 ?_
                      refine r_callV F e_X10_readLine_167 (q_X10_goOn (x_l X) V c T Z u h P9720 L _ _  h9719.1 (hob) oP9720 ) cb_X10_goOn ml_X10_154 im_X10_goOn se_X10_goOn h9719 rfl rfl (rest := []) rfl (Nat.le_of_ble_eq_true rfl) ⟨Nat.le_of_ble_eq_true rfl, Nat.le_of_ble_eq_true rfl⟩ ⟨Nat.le_of_ble_eq_true rfl, Nat.le_of_ble_eq_true rfl⟩ (fun r σ9741 hp => ?_)
                      obtain ⟨P9744, oP9744, rP9744, pr9745, h9742, rfl⟩ := hp
                      have h9743 := HS.trans h9719 h9742 (by decide)
                      have xP9744 := oP9744
                      unfold OKP at xP9744
                      unfold RA at rP9744
                      refine m_aload_n F rfl e_X10_readLine_170 ?_
                      refine m_dup F rfl e_X10_readLine_171 ?_
                      refine r_get F e_X10_readLine_172 fl_X10_202 h9743 rfl (fun v hv f9746 => ?_)
                      obtain ⟨x9747, rfl⟩ := hv
                      refine m_iconst F (v := 1) (by decide) e_X10_readLine_175 ?_
                      refine m_iadd F e_X10_readLine_176 ?_
                      refine Wm.top (fun x9748 _ => ?_)
                      refine r_put F (g' := (⟨T, Z, u, h, P9744, L⟩ : RG)) e_X10_readLine_177 fp_X10_202 h9743 (by decide) ⟨_, rfl⟩ (fun _ _ _ _ q => q) (fun _ _ _ q => q) rfl rfl (by decide) (fun σ9749 h9750 g9751 g9752 f9753 => ?_)
                      have pg9754 := pr9745.of (g9752 23 (by decide)) (g9752 21 (by decide))
                      exact m_vret F hQ e_X10_readLine_180 (⟨P9744, oP9744, (by unfold RP; omega), (pg9754.mono (by omega)), h9750, rfl⟩)
                    · refine m_aload_n F rfl e_X10_readLine_161 ?_
                      refine m_iconst F (v := 1) (by decide) e_X10_readLine_162 ?_
                      refine r_callV F e_X10_readLine_163 (q_X10_wrong (x_l X) V c T Z u h P9720 L _ _ 1 h9719.1 (hob) oP9720 (by first | omega | assumption | decide)) cb_X10_wrong ml_X10_150 im_X10_wrong se_X10_wrong h9719 rfl rfl (rest := []) rfl (Nat.le_of_ble_eq_true rfl) ⟨Nat.le_of_ble_eq_true rfl, Nat.le_of_ble_eq_true rfl⟩ ⟨Nat.le_of_ble_eq_true rfl, Nat.le_of_ble_eq_true rfl⟩ (fun r σ9755 hp => ?_)
                      obtain ⟨h9756, rfl⟩ := hp
                      have h9757 := HS.trans h9719 h9756 (by decide)
                      refine m_aload_n F rfl e_X10_readLine_166 ?_
                      refine r_callV F e_X10_readLine_167 (q_X10_goOn (x_l X) V c T 0 u h P9720 L _ _  h9757.1 (hob) oP9720 ) cb_X10_goOn ml_X10_154 im_X10_goOn se_X10_goOn h9757 rfl rfl (rest := []) rfl (Nat.le_of_ble_eq_true rfl) ⟨Nat.le_of_ble_eq_true rfl, Nat.le_of_ble_eq_true rfl⟩ ⟨Nat.le_of_ble_eq_true rfl, Nat.le_of_ble_eq_true rfl⟩ (fun r σ9758 hp => ?_)
                      obtain ⟨P9761, oP9761, rP9761, pr9762, h9759, rfl⟩ := hp
                      have h9760 := HS.trans h9757 h9759 (by decide)
                      have xP9761 := oP9761
                      unfold OKP at xP9761
                      unfold RA at rP9761
                      refine m_aload_n F rfl e_X10_readLine_170 ?_
                      refine m_dup F rfl e_X10_readLine_171 ?_
                      refine r_get F e_X10_readLine_172 fl_X10_202 h9760 rfl (fun v hv f9763 => ?_)
                      obtain ⟨x9764, rfl⟩ := hv
                      refine m_iconst F (v := 1) (by decide) e_X10_readLine_175 ?_
                      refine m_iadd F e_X10_readLine_176 ?_
                      refine Wm.top (fun x9765 _ => ?_)
                      refine r_put F (g' := (⟨T, 0, u, h, P9761, L⟩ : RG)) e_X10_readLine_177 fp_X10_202 h9760 (by decide) ⟨_, rfl⟩ (fun _ _ _ _ q => q) (fun _ _ _ q => q) rfl rfl (by decide) (fun σ9766 h9767 g9768 g9769 f9770 => ?_)
                      have pg9771 := pr9762.of (g9769 23 (by decide)) (g9769 21 (by decide))
                      have h9772 : HS V c _ [0, 2, 17, 18, 19, 20, 21, 22, 23] _ _ := ⟨HR.mono (Z' := Z) (by intro e; first | rfl | assumption | omega) h9767.1, h9767.2⟩
                      exact m_vret F hQ e_X10_readLine_180 (⟨P9761, oP9761, (by unfold RP; omega), (pg9771.mono (by omega)), h9772, rfl⟩)
              · subst q100
                refine m_aload_n F rfl e_X10_readLine_103 ?_
                refine r_callV F e_X10_readLine_104 (q_X10_readFee (x_l X) V c T Z u h P L _ _  h1.1 (hob) hP ) cb_X10_readFee ml_X10_190 im_X10_readFee se_X10_readFee h1 rfl rfl (rest := []) rfl (Nat.le_of_ble_eq_true rfl) ⟨Nat.le_of_ble_eq_true rfl, Nat.le_of_ble_eq_true rfl⟩ ⟨Nat.le_of_ble_eq_true rfl, Nat.le_of_ble_eq_true rfl⟩ (fun r σ9773 hp => ?_)
                obtain ⟨P9776, oP9776, rP9776, h9774, rfl⟩ := hp
                have h9775 := HS.trans h1 h9774 (by decide)
                have xP9776 := oP9776
                unfold OKP at xP9776
                unfold RP at rP9776
                refine m_goto F e_X10_readLine_107 ?_
                refine m_aload_n F rfl e_X10_readLine_146 ?_
                refine r_get F e_X10_readLine_147 fl_X10_141 h9775 rfl (fun v hv f9777 => ?_)
                obtain ⟨x9778, hx9778, rfl⟩ := hv
                replace hx9778 : Z = 0 → x9778 ≠ 0 := hx9778
                refine m_if_ne F e_X10_readLine_150 (fun q150 => ?_) (fun q150 => ?_)
                · have h9779 := HS.z0 h9775 (f9777) q150
                  refine m_aload_n F rfl e_X10_readLine_166 ?_
                  refine r_callV F e_X10_readLine_167 (q_X10_goOn (x_l X) V c T 0 u h P9776 L _ _  h9779.1 (hob) oP9776 ) cb_X10_goOn ml_X10_154 im_X10_goOn se_X10_goOn h9779 rfl rfl (rest := []) rfl (Nat.le_of_ble_eq_true rfl) ⟨Nat.le_of_ble_eq_true rfl, Nat.le_of_ble_eq_true rfl⟩ ⟨Nat.le_of_ble_eq_true rfl, Nat.le_of_ble_eq_true rfl⟩ (fun r σ9780 hp => ?_)
                  obtain ⟨P9783, oP9783, rP9783, pr9784, h9781, rfl⟩ := hp
                  have h9782 := HS.trans h9779 h9781 (by decide)
                  have xP9783 := oP9783
                  unfold OKP at xP9783
                  unfold RA at rP9783
                  refine m_aload_n F rfl e_X10_readLine_170 ?_
                  refine m_dup F rfl e_X10_readLine_171 ?_
                  refine r_get F e_X10_readLine_172 fl_X10_202 h9782 rfl (fun v hv f9785 => ?_)
                  obtain ⟨x9786, rfl⟩ := hv
                  refine m_iconst F (v := 1) (by decide) e_X10_readLine_175 ?_
                  refine m_iadd F e_X10_readLine_176 ?_
                  refine Wm.top (fun x9787 _ => ?_)
                  refine r_put F (g' := (⟨T, 0, u, h, P9783, L⟩ : RG)) e_X10_readLine_177 fp_X10_202 h9782 (by decide) ⟨_, rfl⟩ (fun _ _ _ _ q => q) (fun _ _ _ q => q) rfl rfl (by decide) (fun σ9788 h9789 g9790 g9791 f9792 => ?_)
                  have pg9793 := pr9784.of (g9791 23 (by decide)) (g9791 21 (by decide))
                  have h9794 : HS V c _ [0, 2, 17, 18, 19, 20, 21, 22, 23] _ _ := ⟨HR.mono (Z' := Z) (by intro e; first | rfl | assumption | omega) h9789.1, h9789.2⟩
                  exact m_vret F hQ e_X10_readLine_180 (⟨P9783, oP9783, (by unfold RP; omega), (pg9793.mono (by omega)), h9794, rfl⟩)
                · subst q150
                  refine m_aload_n F rfl e_X10_readLine_153 ?_
                  refine r_get F e_X10_readLine_154 fl_X10_110 h9775 rfl (fun v hv f9795 => ?_)
                  obtain ⟨x9796, rfl⟩ := hv
                  refine m_iconst F (v := 3) (by decide) e_X10_readLine_157 ?_
                  refine m_icmp_eq F e_X10_readLine_158 (fun q158 => ?_) (fun q158 => ?_)
                  · subst q158
                    refine m_aload_n F rfl e_X10_readLine_166 ?_
                    refine r_callV F e_X10_readLine_167 (q_X10_goOn (x_l X) V c T Z u h P9776 L _ _  h9775.1 (hob) oP9776 ) cb_X10_goOn ml_X10_154 im_X10_goOn se_X10_goOn h9775 rfl rfl (rest := []) rfl (Nat.le_of_ble_eq_true rfl) ⟨Nat.le_of_ble_eq_true rfl, Nat.le_of_ble_eq_true rfl⟩ ⟨Nat.le_of_ble_eq_true rfl, Nat.le_of_ble_eq_true rfl⟩ (fun r σ9797 hp => ?_)
                    obtain ⟨P9800, oP9800, rP9800, pr9801, h9798, rfl⟩ := hp
                    have h9799 := HS.trans h9775 h9798 (by decide)
                    have xP9800 := oP9800
                    unfold OKP at xP9800
                    unfold RA at rP9800
                    refine m_aload_n F rfl e_X10_readLine_170 ?_
                    refine m_dup F rfl e_X10_readLine_171 ?_
                    refine r_get F e_X10_readLine_172 fl_X10_202 h9799 rfl (fun v hv f9802 => ?_)
                    obtain ⟨x9803, rfl⟩ := hv
                    refine m_iconst F (v := 1) (by decide) e_X10_readLine_175 ?_
                    refine m_iadd F e_X10_readLine_176 ?_
                    refine Wm.top (fun x9804 _ => ?_)
                    refine r_put F (g' := (⟨T, Z, u, h, P9800, L⟩ : RG)) e_X10_readLine_177 fp_X10_202 h9799 (by decide) ⟨_, rfl⟩ (fun _ _ _ _ q => q) (fun _ _ _ q => q) rfl rfl (by decide) (fun σ9805 h9806 g9807 g9808 f9809 => ?_)
                    have pg9810 := pr9801.of (g9808 23 (by decide)) (g9808 21 (by decide))
                    exact m_vret F hQ e_X10_readLine_180 (⟨P9800, oP9800, (by unfold RP; omega), (pg9810.mono (by omega)), h9806, rfl⟩)
                  · refine m_aload_n F rfl e_X10_readLine_161 ?_
                    refine m_iconst F (v := 1) (by decide) e_X10_readLine_162 ?_
                    refine r_callV F e_X10_readLine_163 (q_X10_wrong (x_l X) V c T Z u h P9776 L _ _ 1 h9775.1 (hob) oP9776 (by first | omega | assumption | decide)) cb_X10_wrong ml_X10_150 im_X10_wrong se_X10_wrong h9775 rfl rfl (rest := []) rfl (Nat.le_of_ble_eq_true rfl) ⟨Nat.le_of_ble_eq_true rfl, Nat.le_of_ble_eq_true rfl⟩ ⟨Nat.le_of_ble_eq_true rfl, Nat.le_of_ble_eq_true rfl⟩ (fun r σ9811 hp => ?_)
                    obtain ⟨h9812, rfl⟩ := hp
                    have h9813 := HS.trans h9775 h9812 (by decide)
                    refine m_aload_n F rfl e_X10_readLine_166 ?_
                    refine r_callV F e_X10_readLine_167 (q_X10_goOn (x_l X) V c T 0 u h P9776 L _ _  h9813.1 (hob) oP9776 ) cb_X10_goOn ml_X10_154 im_X10_goOn se_X10_goOn h9813 rfl rfl (rest := []) rfl (Nat.le_of_ble_eq_true rfl) ⟨Nat.le_of_ble_eq_true rfl, Nat.le_of_ble_eq_true rfl⟩ ⟨Nat.le_of_ble_eq_true rfl, Nat.le_of_ble_eq_true rfl⟩ (fun r σ9814 hp => ?_)
                    obtain ⟨P9817, oP9817, rP9817, pr9818, h9815, rfl⟩ := hp
                    have h9816 := HS.trans h9813 h9815 (by decide)
                    have xP9817 := oP9817
                    unfold OKP at xP9817
                    unfold RA at rP9817
                    refine m_aload_n F rfl e_X10_readLine_170 ?_
                    refine m_dup F rfl e_X10_readLine_171 ?_
                    refine r_get F e_X10_readLine_172 fl_X10_202 h9816 rfl (fun v hv f9819 => ?_)
                    obtain ⟨x9820, rfl⟩ := hv
                    refine m_iconst F (v := 1) (by decide) e_X10_readLine_175 ?_
                    refine m_iadd F e_X10_readLine_176 ?_
                    refine Wm.top (fun x9821 _ => ?_)
                    refine r_put F (g' := (⟨T, 0, u, h, P9817, L⟩ : RG)) e_X10_readLine_177 fp_X10_202 h9816 (by decide) ⟨_, rfl⟩ (fun _ _ _ _ q => q) (fun _ _ _ q => q) rfl rfl (by decide) (fun σ9822 h9823 g9824 g9825 f9826 => ?_)
                    have pg9827 := pr9818.of (g9825 23 (by decide)) (g9825 21 (by decide))
                    have h9828 : HS V c _ [0, 2, 17, 18, 19, 20, 21, 22, 23] _ _ := ⟨HR.mono (Z' := Z) (by intro e; first | rfl | assumption | omega) h9823.1, h9823.2⟩
                    exact m_vret F hQ e_X10_readLine_180 (⟨P9817, oP9817, (by unfold RP; omega), (pg9827.mono (by omega)), h9828, rfl⟩)
            · subst q85
              refine m_aload_n F rfl e_X10_readLine_88 ?_
              refine r_callV F e_X10_readLine_89 (q_X10_readFair (x_l X) V c T Z u h P L _ _  h1.1 (hob) hP ) cb_X10_readFair ml_X10_187 im_X10_readFair se_X10_readFair h1 rfl rfl (rest := []) rfl (Nat.le_of_ble_eq_true rfl) ⟨Nat.le_of_ble_eq_true rfl, Nat.le_of_ble_eq_true rfl⟩ ⟨Nat.le_of_ble_eq_true rfl, Nat.le_of_ble_eq_true rfl⟩ (fun r σ9829 hp => ?_)
              obtain ⟨P9832, oP9832, rP9832, h9830, rfl⟩ := hp
              have h9831 := HS.trans h1 h9830 (by decide)
              have xP9832 := oP9832
              unfold OKP at xP9832
              unfold RP at rP9832
              refine m_goto F e_X10_readLine_92 ?_
              refine m_aload_n F rfl e_X10_readLine_146 ?_
              refine r_get F e_X10_readLine_147 fl_X10_141 h9831 rfl (fun v hv f9833 => ?_)
              obtain ⟨x9834, hx9834, rfl⟩ := hv
              replace hx9834 : Z = 0 → x9834 ≠ 0 := hx9834
              refine m_if_ne F e_X10_readLine_150 (fun q150 => ?_) (fun q150 => ?_)
              · have h9835 := HS.z0 h9831 (f9833) q150
                refine m_aload_n F rfl e_X10_readLine_166 ?_
                refine r_callV F e_X10_readLine_167 (q_X10_goOn (x_l X) V c T 0 u h P9832 L _ _  h9835.1 (hob) oP9832 ) cb_X10_goOn ml_X10_154 im_X10_goOn se_X10_goOn h9835 rfl rfl (rest := []) rfl (Nat.le_of_ble_eq_true rfl) ⟨Nat.le_of_ble_eq_true rfl, Nat.le_of_ble_eq_true rfl⟩ ⟨Nat.le_of_ble_eq_true rfl, Nat.le_of_ble_eq_true rfl⟩ (fun r σ9836 hp => ?_)
                obtain ⟨P9839, oP9839, rP9839, pr9840, h9837, rfl⟩ := hp
                have h9838 := HS.trans h9835 h9837 (by decide)
                have xP9839 := oP9839
                unfold OKP at xP9839
                unfold RA at rP9839
                refine m_aload_n F rfl e_X10_readLine_170 ?_
                refine m_dup F rfl e_X10_readLine_171 ?_
                refine r_get F e_X10_readLine_172 fl_X10_202 h9838 rfl (fun v hv f9841 => ?_)
                obtain ⟨x9842, rfl⟩ := hv
                refine m_iconst F (v := 1) (by decide) e_X10_readLine_175 ?_
                refine m_iadd F e_X10_readLine_176 ?_
                refine Wm.top (fun x9843 _ => ?_)
                refine r_put F (g' := (⟨T, 0, u, h, P9839, L⟩ : RG)) e_X10_readLine_177 fp_X10_202 h9838 (by decide) ⟨_, rfl⟩ (fun _ _ _ _ q => q) (fun _ _ _ q => q) rfl rfl (by decide) (fun σ9844 h9845 g9846 g9847 f9848 => ?_)
                have pg9849 := pr9840.of (g9847 23 (by decide)) (g9847 21 (by decide))
                have h9850 : HS V c _ [0, 2, 17, 18, 19, 20, 21, 22, 23] _ _ := ⟨HR.mono (Z' := Z) (by intro e; first | rfl | assumption | omega) h9845.1, h9845.2⟩
                exact m_vret F hQ e_X10_readLine_180 (⟨P9839, oP9839, (by unfold RP; omega), (pg9849.mono (by omega)), h9850, rfl⟩)
              · subst q150
                refine m_aload_n F rfl e_X10_readLine_153 ?_
                refine r_get F e_X10_readLine_154 fl_X10_110 h9831 rfl (fun v hv f9851 => ?_)
                obtain ⟨x9852, rfl⟩ := hv
                refine m_iconst F (v := 3) (by decide) e_X10_readLine_157 ?_
                refine m_icmp_eq F e_X10_readLine_158 (fun q158 => ?_) (fun q158 => ?_)
                · subst q158
                  refine m_aload_n F rfl e_X10_readLine_166 ?_
                  refine r_callV F e_X10_readLine_167 (q_X10_goOn (x_l X) V c T Z u h P9832 L _ _  h9831.1 (hob) oP9832 ) cb_X10_goOn ml_X10_154 im_X10_goOn se_X10_goOn h9831 rfl rfl (rest := []) rfl (Nat.le_of_ble_eq_true rfl) ⟨Nat.le_of_ble_eq_true rfl, Nat.le_of_ble_eq_true rfl⟩ ⟨Nat.le_of_ble_eq_true rfl, Nat.le_of_ble_eq_true rfl⟩ (fun r σ9853 hp => ?_)
                  obtain ⟨P9856, oP9856, rP9856, pr9857, h9854, rfl⟩ := hp
                  have h9855 := HS.trans h9831 h9854 (by decide)
                  have xP9856 := oP9856
                  unfold OKP at xP9856
                  unfold RA at rP9856
                  refine m_aload_n F rfl e_X10_readLine_170 ?_
                  refine m_dup F rfl e_X10_readLine_171 ?_
                  refine r_get F e_X10_readLine_172 fl_X10_202 h9855 rfl (fun v hv f9858 => ?_)
                  obtain ⟨x9859, rfl⟩ := hv
                  refine m_iconst F (v := 1) (by decide) e_X10_readLine_175 ?_
                  refine m_iadd F e_X10_readLine_176 ?_
                  refine Wm.top (fun x9860 _ => ?_)
                  refine r_put F (g' := (⟨T, Z, u, h, P9856, L⟩ : RG)) e_X10_readLine_177 fp_X10_202 h9855 (by decide) ⟨_, rfl⟩ (fun _ _ _ _ q => q) (fun _ _ _ q => q) rfl rfl (by decide) (fun σ9861 h9862 g9863 g9864 f9865 => ?_)
                  have pg9866 := pr9857.of (g9864 23 (by decide)) (g9864 21 (by decide))
                  exact m_vret F hQ e_X10_readLine_180 (⟨P9856, oP9856, (by unfold RP; omega), (pg9866.mono (by omega)), h9862, rfl⟩)
                · refine m_aload_n F rfl e_X10_readLine_161 ?_
                  refine m_iconst F (v := 1) (by decide) e_X10_readLine_162 ?_
                  refine r_callV F e_X10_readLine_163 (q_X10_wrong (x_l X) V c T Z u h P9832 L _ _ 1 h9831.1 (hob) oP9832 (by first | omega | assumption | decide)) cb_X10_wrong ml_X10_150 im_X10_wrong se_X10_wrong h9831 rfl rfl (rest := []) rfl (Nat.le_of_ble_eq_true rfl) ⟨Nat.le_of_ble_eq_true rfl, Nat.le_of_ble_eq_true rfl⟩ ⟨Nat.le_of_ble_eq_true rfl, Nat.le_of_ble_eq_true rfl⟩ (fun r σ9867 hp => ?_)
                  obtain ⟨h9868, rfl⟩ := hp
                  have h9869 := HS.trans h9831 h9868 (by decide)
                  refine m_aload_n F rfl e_X10_readLine_166 ?_
                  refine r_callV F e_X10_readLine_167 (q_X10_goOn (x_l X) V c T 0 u h P9832 L _ _  h9869.1 (hob) oP9832 ) cb_X10_goOn ml_X10_154 im_X10_goOn se_X10_goOn h9869 rfl rfl (rest := []) rfl (Nat.le_of_ble_eq_true rfl) ⟨Nat.le_of_ble_eq_true rfl, Nat.le_of_ble_eq_true rfl⟩ ⟨Nat.le_of_ble_eq_true rfl, Nat.le_of_ble_eq_true rfl⟩ (fun r σ9870 hp => ?_)
                  obtain ⟨P9873, oP9873, rP9873, pr9874, h9871, rfl⟩ := hp
                  have h9872 := HS.trans h9869 h9871 (by decide)
                  have xP9873 := oP9873
                  unfold OKP at xP9873
                  unfold RA at rP9873
                  refine m_aload_n F rfl e_X10_readLine_170 ?_
                  refine m_dup F rfl e_X10_readLine_171 ?_
                  refine r_get F e_X10_readLine_172 fl_X10_202 h9872 rfl (fun v hv f9875 => ?_)
                  obtain ⟨x9876, rfl⟩ := hv
                  refine m_iconst F (v := 1) (by decide) e_X10_readLine_175 ?_
                  refine m_iadd F e_X10_readLine_176 ?_
                  refine Wm.top (fun x9877 _ => ?_)
                  refine r_put F (g' := (⟨T, 0, u, h, P9873, L⟩ : RG)) e_X10_readLine_177 fp_X10_202 h9872 (by decide) ⟨_, rfl⟩ (fun _ _ _ _ q => q) (fun _ _ _ q => q) rfl rfl (by decide) (fun σ9878 h9879 g9880 g9881 f9882 => ?_)
                  have pg9883 := pr9874.of (g9881 23 (by decide)) (g9881 21 (by decide))
                  have h9884 : HS V c _ [0, 2, 17, 18, 19, 20, 21, 22, 23] _ _ := ⟨HR.mono (Z' := Z) (by intro e; first | rfl | assumption | omega) h9879.1, h9879.2⟩
                  exact m_vret F hQ e_X10_readLine_180 (⟨P9873, oP9873, (by unfold RP; omega), (pg9883.mono (by omega)), h9884, rfl⟩)
          · subst q57
            refine m_aload_n F rfl e_X10_readLine_60 ?_
            refine m_aload_n F rfl e_X10_readLine_61 ?_
            refine r_getC F e_X10_readLine_62 fl_X10_120 h1 (f9547) ?_
            refine m_iconst F (v := 2) (by decide) e_X10_readLine_65 ?_
            refine m_icmp_ne F e_X10_readLine_66 (fun _ => ?_) (fun q => absurd q (by decide))
            refine m_iconst F (v := 2) (by decide) e_X10_readLine_73 ?_
            refine r_callV F e_X10_readLine_74 (q_X10_readMark (x_l X) V c T Z u h P L _ _ 2 h1.1 (hob) hP ) cb_X10_readMark ml_X10_184 im_X10_readMark se_X10_readMark h1 rfl rfl (rest := []) rfl (Nat.le_of_ble_eq_true rfl) ⟨Nat.le_of_ble_eq_true rfl, Nat.le_of_ble_eq_true rfl⟩ ⟨Nat.le_of_ble_eq_true rfl, Nat.le_of_ble_eq_true rfl⟩ (fun r σ9885 hp => ?_)
            obtain ⟨P9888, oP9888, rP9888, h9886, rfl⟩ := hp
            have h9887 := HS.trans h1 h9886 (by decide)
            have xP9888 := oP9888
            unfold OKP at xP9888
            unfold RP at rP9888
            refine m_goto F e_X10_readLine_77 ?_
            refine m_aload_n F rfl e_X10_readLine_146 ?_
            refine r_get F e_X10_readLine_147 fl_X10_141 h9887 rfl (fun v hv f9889 => ?_)
            obtain ⟨x9890, hx9890, rfl⟩ := hv
            replace hx9890 : Z = 0 → x9890 ≠ 0 := hx9890
            refine m_if_ne F e_X10_readLine_150 (fun q150 => ?_) (fun q150 => ?_)
            · have h9891 := HS.z0 h9887 (f9889) q150
              refine m_aload_n F rfl e_X10_readLine_166 ?_
              refine r_callV F e_X10_readLine_167 (q_X10_goOn (x_l X) V c T 0 u h P9888 L _ _  h9891.1 (hob) oP9888 ) cb_X10_goOn ml_X10_154 im_X10_goOn se_X10_goOn h9891 rfl rfl (rest := []) rfl (Nat.le_of_ble_eq_true rfl) ⟨Nat.le_of_ble_eq_true rfl, Nat.le_of_ble_eq_true rfl⟩ ⟨Nat.le_of_ble_eq_true rfl, Nat.le_of_ble_eq_true rfl⟩ (fun r σ9892 hp => ?_)
              obtain ⟨P9895, oP9895, rP9895, pr9896, h9893, rfl⟩ := hp
              have h9894 := HS.trans h9891 h9893 (by decide)
              have xP9895 := oP9895
              unfold OKP at xP9895
              unfold RA at rP9895
              refine m_aload_n F rfl e_X10_readLine_170 ?_
              refine m_dup F rfl e_X10_readLine_171 ?_
              refine r_get F e_X10_readLine_172 fl_X10_202 h9894 rfl (fun v hv f9897 => ?_)
              obtain ⟨x9898, rfl⟩ := hv
              refine m_iconst F (v := 1) (by decide) e_X10_readLine_175 ?_
              refine m_iadd F e_X10_readLine_176 ?_
              refine Wm.top (fun x9899 _ => ?_)
              refine r_put F (g' := (⟨T, 0, u, h, P9895, L⟩ : RG)) e_X10_readLine_177 fp_X10_202 h9894 (by decide) ⟨_, rfl⟩ (fun _ _ _ _ q => q) (fun _ _ _ q => q) rfl rfl (by decide) (fun σ9900 h9901 g9902 g9903 f9904 => ?_)
              have pg9905 := pr9896.of (g9903 23 (by decide)) (g9903 21 (by decide))
              have h9906 : HS V c _ [0, 2, 17, 18, 19, 20, 21, 22, 23] _ _ := ⟨HR.mono (Z' := Z) (by intro e; first | rfl | assumption | omega) h9901.1, h9901.2⟩
              exact m_vret F hQ e_X10_readLine_180 (⟨P9895, oP9895, (by unfold RP; omega), (pg9905.mono (by omega)), h9906, rfl⟩)
            · subst q150
              refine m_aload_n F rfl e_X10_readLine_153 ?_
              refine r_get F e_X10_readLine_154 fl_X10_110 h9887 rfl (fun v hv f9907 => ?_)
              obtain ⟨x9908, rfl⟩ := hv
              refine m_iconst F (v := 3) (by decide) e_X10_readLine_157 ?_
              refine m_icmp_eq F e_X10_readLine_158 (fun q158 => ?_) (fun q158 => ?_)
              · subst q158
                refine m_aload_n F rfl e_X10_readLine_166 ?_
                refine r_callV F e_X10_readLine_167 (q_X10_goOn (x_l X) V c T Z u h P9888 L _ _  h9887.1 (hob) oP9888 ) cb_X10_goOn ml_X10_154 im_X10_goOn se_X10_goOn h9887 rfl rfl (rest := []) rfl (Nat.le_of_ble_eq_true rfl) ⟨Nat.le_of_ble_eq_true rfl, Nat.le_of_ble_eq_true rfl⟩ ⟨Nat.le_of_ble_eq_true rfl, Nat.le_of_ble_eq_true rfl⟩ (fun r σ9909 hp => ?_)
                obtain ⟨P9912, oP9912, rP9912, pr9913, h9910, rfl⟩ := hp
                have h9911 := HS.trans h9887 h9910 (by decide)
                have xP9912 := oP9912
                unfold OKP at xP9912
                unfold RA at rP9912
                refine m_aload_n F rfl e_X10_readLine_170 ?_
                refine m_dup F rfl e_X10_readLine_171 ?_
                refine r_get F e_X10_readLine_172 fl_X10_202 h9911 rfl (fun v hv f9914 => ?_)
                obtain ⟨x9915, rfl⟩ := hv
                refine m_iconst F (v := 1) (by decide) e_X10_readLine_175 ?_
                refine m_iadd F e_X10_readLine_176 ?_
                refine Wm.top (fun x9916 _ => ?_)
                refine r_put F (g' := (⟨T, Z, u, h, P9912, L⟩ : RG)) e_X10_readLine_177 fp_X10_202 h9911 (by decide) ⟨_, rfl⟩ (fun _ _ _ _ q => q) (fun _ _ _ q => q) rfl rfl (by decide) (fun σ9917 h9918 g9919 g9920 f9921 => ?_)
                have pg9922 := pr9913.of (g9920 23 (by decide)) (g9920 21 (by decide))
                exact m_vret F hQ e_X10_readLine_180 (⟨P9912, oP9912, (by unfold RP; omega), (pg9922.mono (by omega)), h9918, rfl⟩)
              · refine m_aload_n F rfl e_X10_readLine_161 ?_
                refine m_iconst F (v := 1) (by decide) e_X10_readLine_162 ?_
                refine r_callV F e_X10_readLine_163 (q_X10_wrong (x_l X) V c T Z u h P9888 L _ _ 1 h9887.1 (hob) oP9888 (by first | omega | assumption | decide)) cb_X10_wrong ml_X10_150 im_X10_wrong se_X10_wrong h9887 rfl rfl (rest := []) rfl (Nat.le_of_ble_eq_true rfl) ⟨Nat.le_of_ble_eq_true rfl, Nat.le_of_ble_eq_true rfl⟩ ⟨Nat.le_of_ble_eq_true rfl, Nat.le_of_ble_eq_true rfl⟩ (fun r σ9923 hp => ?_)
                obtain ⟨h9924, rfl⟩ := hp
                have h9925 := HS.trans h9887 h9924 (by decide)
                refine m_aload_n F rfl e_X10_readLine_166 ?_
                refine r_callV F e_X10_readLine_167 (q_X10_goOn (x_l X) V c T 0 u h P9888 L _ _  h9925.1 (hob) oP9888 ) cb_X10_goOn ml_X10_154 im_X10_goOn se_X10_goOn h9925 rfl rfl (rest := []) rfl (Nat.le_of_ble_eq_true rfl) ⟨Nat.le_of_ble_eq_true rfl, Nat.le_of_ble_eq_true rfl⟩ ⟨Nat.le_of_ble_eq_true rfl, Nat.le_of_ble_eq_true rfl⟩ (fun r σ9926 hp => ?_)
                obtain ⟨P9929, oP9929, rP9929, pr9930, h9927, rfl⟩ := hp
                have h9928 := HS.trans h9925 h9927 (by decide)
                have xP9929 := oP9929
                unfold OKP at xP9929
                unfold RA at rP9929
                refine m_aload_n F rfl e_X10_readLine_170 ?_
                refine m_dup F rfl e_X10_readLine_171 ?_
                refine r_get F e_X10_readLine_172 fl_X10_202 h9928 rfl (fun v hv f9931 => ?_)
                obtain ⟨x9932, rfl⟩ := hv
                refine m_iconst F (v := 1) (by decide) e_X10_readLine_175 ?_
                refine m_iadd F e_X10_readLine_176 ?_
                refine Wm.top (fun x9933 _ => ?_)
                refine r_put F (g' := (⟨T, 0, u, h, P9929, L⟩ : RG)) e_X10_readLine_177 fp_X10_202 h9928 (by decide) ⟨_, rfl⟩ (fun _ _ _ _ q => q) (fun _ _ _ q => q) rfl rfl (by decide) (fun σ9934 h9935 g9936 g9937 f9938 => ?_)
                have pg9939 := pr9930.of (g9937 23 (by decide)) (g9937 21 (by decide))
                have h9940 : HS V c _ [0, 2, 17, 18, 19, 20, 21, 22, 23] _ _ := ⟨HR.mono (Z' := Z) (by intro e; first | rfl | assumption | omega) h9935.1, h9935.2⟩
                exact m_vret F hQ e_X10_readLine_180 (⟨P9929, oP9929, (by unfold RP; omega), (pg9939.mono (by omega)), h9940, rfl⟩)
      · subst q34
        refine m_aload_n F rfl e_X10_readLine_37 ?_
        refine r_callV F e_X10_readLine_38 (q_X10_readPay (x_l X) V c T Z u h P L _ _  h1.1 (hob) hP ) cb_X10_readPay ml_X10_181 im_X10_readPay se_X10_readPay h1 rfl rfl (rest := []) rfl (Nat.le_of_ble_eq_true rfl) ⟨Nat.le_of_ble_eq_true rfl, Nat.le_of_ble_eq_true rfl⟩ ⟨Nat.le_of_ble_eq_true rfl, Nat.le_of_ble_eq_true rfl⟩ (fun r σ9941 hp => ?_)
        obtain ⟨P9944, oP9944, rP9944, h9942, rfl⟩ := hp
        have h9943 := HS.trans h1 h9942 (by decide)
        have xP9944 := oP9944
        unfold OKP at xP9944
        unfold RP at rP9944
        refine m_goto F e_X10_readLine_41 ?_
        refine m_aload_n F rfl e_X10_readLine_146 ?_
        refine r_get F e_X10_readLine_147 fl_X10_141 h9943 rfl (fun v hv f9945 => ?_)
        obtain ⟨x9946, hx9946, rfl⟩ := hv
        replace hx9946 : Z = 0 → x9946 ≠ 0 := hx9946
        refine m_if_ne F e_X10_readLine_150 (fun q150 => ?_) (fun q150 => ?_)
        · have h9947 := HS.z0 h9943 (f9945) q150
          refine m_aload_n F rfl e_X10_readLine_166 ?_
          refine r_callV F e_X10_readLine_167 (q_X10_goOn (x_l X) V c T 0 u h P9944 L _ _  h9947.1 (hob) oP9944 ) cb_X10_goOn ml_X10_154 im_X10_goOn se_X10_goOn h9947 rfl rfl (rest := []) rfl (Nat.le_of_ble_eq_true rfl) ⟨Nat.le_of_ble_eq_true rfl, Nat.le_of_ble_eq_true rfl⟩ ⟨Nat.le_of_ble_eq_true rfl, Nat.le_of_ble_eq_true rfl⟩ (fun r σ9948 hp => ?_)
          obtain ⟨P9951, oP9951, rP9951, pr9952, h9949, rfl⟩ := hp
          have h9950 := HS.trans h9947 h9949 (by decide)
          have xP9951 := oP9951
          unfold OKP at xP9951
          unfold RA at rP9951
          refine m_aload_n F rfl e_X10_readLine_170 ?_
          refine m_dup F rfl e_X10_readLine_171 ?_
          refine r_get F e_X10_readLine_172 fl_X10_202 h9950 rfl (fun v hv f9953 => ?_)
          obtain ⟨x9954, rfl⟩ := hv
          refine m_iconst F (v := 1) (by decide) e_X10_readLine_175 ?_
          refine m_iadd F e_X10_readLine_176 ?_
          refine Wm.top (fun x9955 _ => ?_)
          refine r_put F (g' := (⟨T, 0, u, h, P9951, L⟩ : RG)) e_X10_readLine_177 fp_X10_202 h9950 (by decide) ⟨_, rfl⟩ (fun _ _ _ _ q => q) (fun _ _ _ q => q) rfl rfl (by decide) (fun σ9956 h9957 g9958 g9959 f9960 => ?_)
          have pg9961 := pr9952.of (g9959 23 (by decide)) (g9959 21 (by decide))
          have h9962 : HS V c _ [0, 2, 17, 18, 19, 20, 21, 22, 23] _ _ := ⟨HR.mono (Z' := Z) (by intro e; first | rfl | assumption | omega) h9957.1, h9957.2⟩
          exact m_vret F hQ e_X10_readLine_180 (⟨P9951, oP9951, (by unfold RP; omega), (pg9961.mono (by omega)), h9962, rfl⟩)
        · subst q150
          refine m_aload_n F rfl e_X10_readLine_153 ?_
          refine r_get F e_X10_readLine_154 fl_X10_110 h9943 rfl (fun v hv f9963 => ?_)
          obtain ⟨x9964, rfl⟩ := hv
          refine m_iconst F (v := 3) (by decide) e_X10_readLine_157 ?_
          refine m_icmp_eq F e_X10_readLine_158 (fun q158 => ?_) (fun q158 => ?_)
          · subst q158
            refine m_aload_n F rfl e_X10_readLine_166 ?_
            refine r_callV F e_X10_readLine_167 (q_X10_goOn (x_l X) V c T Z u h P9944 L _ _  h9943.1 (hob) oP9944 ) cb_X10_goOn ml_X10_154 im_X10_goOn se_X10_goOn h9943 rfl rfl (rest := []) rfl (Nat.le_of_ble_eq_true rfl) ⟨Nat.le_of_ble_eq_true rfl, Nat.le_of_ble_eq_true rfl⟩ ⟨Nat.le_of_ble_eq_true rfl, Nat.le_of_ble_eq_true rfl⟩ (fun r σ9965 hp => ?_)
            obtain ⟨P9968, oP9968, rP9968, pr9969, h9966, rfl⟩ := hp
            have h9967 := HS.trans h9943 h9966 (by decide)
            have xP9968 := oP9968
            unfold OKP at xP9968
            unfold RA at rP9968
            refine m_aload_n F rfl e_X10_readLine_170 ?_
            refine m_dup F rfl e_X10_readLine_171 ?_
            refine r_get F e_X10_readLine_172 fl_X10_202 h9967 rfl (fun v hv f9970 => ?_)
            obtain ⟨x9971, rfl⟩ := hv
            refine m_iconst F (v := 1) (by decide) e_X10_readLine_175 ?_
            refine m_iadd F e_X10_readLine_176 ?_
            refine Wm.top (fun x9972 _ => ?_)
            refine r_put F (g' := (⟨T, Z, u, h, P9968, L⟩ : RG)) e_X10_readLine_177 fp_X10_202 h9967 (by decide) ⟨_, rfl⟩ (fun _ _ _ _ q => q) (fun _ _ _ q => q) rfl rfl (by decide) (fun σ9973 h9974 g9975 g9976 f9977 => ?_)
            have pg9978 := pr9969.of (g9976 23 (by decide)) (g9976 21 (by decide))
            exact m_vret F hQ e_X10_readLine_180 (⟨P9968, oP9968, (by unfold RP; omega), (pg9978.mono (by omega)), h9974, rfl⟩)
          · refine m_aload_n F rfl e_X10_readLine_161 ?_
            refine m_iconst F (v := 1) (by decide) e_X10_readLine_162 ?_
            refine r_callV F e_X10_readLine_163 (q_X10_wrong (x_l X) V c T Z u h P9944 L _ _ 1 h9943.1 (hob) oP9944 (by first | omega | assumption | decide)) cb_X10_wrong ml_X10_150 im_X10_wrong se_X10_wrong h9943 rfl rfl (rest := []) rfl (Nat.le_of_ble_eq_true rfl) ⟨Nat.le_of_ble_eq_true rfl, Nat.le_of_ble_eq_true rfl⟩ ⟨Nat.le_of_ble_eq_true rfl, Nat.le_of_ble_eq_true rfl⟩ (fun r σ9979 hp => ?_)
            obtain ⟨h9980, rfl⟩ := hp
            have h9981 := HS.trans h9943 h9980 (by decide)
            refine m_aload_n F rfl e_X10_readLine_166 ?_
            refine r_callV F e_X10_readLine_167 (q_X10_goOn (x_l X) V c T 0 u h P9944 L _ _  h9981.1 (hob) oP9944 ) cb_X10_goOn ml_X10_154 im_X10_goOn se_X10_goOn h9981 rfl rfl (rest := []) rfl (Nat.le_of_ble_eq_true rfl) ⟨Nat.le_of_ble_eq_true rfl, Nat.le_of_ble_eq_true rfl⟩ ⟨Nat.le_of_ble_eq_true rfl, Nat.le_of_ble_eq_true rfl⟩ (fun r σ9982 hp => ?_)
            obtain ⟨P9985, oP9985, rP9985, pr9986, h9983, rfl⟩ := hp
            have h9984 := HS.trans h9981 h9983 (by decide)
            have xP9985 := oP9985
            unfold OKP at xP9985
            unfold RA at rP9985
            refine m_aload_n F rfl e_X10_readLine_170 ?_
            refine m_dup F rfl e_X10_readLine_171 ?_
            refine r_get F e_X10_readLine_172 fl_X10_202 h9984 rfl (fun v hv f9987 => ?_)
            obtain ⟨x9988, rfl⟩ := hv
            refine m_iconst F (v := 1) (by decide) e_X10_readLine_175 ?_
            refine m_iadd F e_X10_readLine_176 ?_
            refine Wm.top (fun x9989 _ => ?_)
            refine r_put F (g' := (⟨T, 0, u, h, P9985, L⟩ : RG)) e_X10_readLine_177 fp_X10_202 h9984 (by decide) ⟨_, rfl⟩ (fun _ _ _ _ q => q) (fun _ _ _ q => q) rfl rfl (by decide) (fun σ9990 h9991 g9992 g9993 f9994 => ?_)
            have pg9995 := pr9986.of (g9993 23 (by decide)) (g9993 21 (by decide))
            have h9996 : HS V c _ [0, 2, 17, 18, 19, 20, 21, 22, 23] _ _ := ⟨HR.mono (Z' := Z) (by intro e; first | rfl | assumption | omega) h9991.1, h9991.2⟩
            exact m_vret F hQ e_X10_readLine_180 (⟨P9985, oP9985, (by unfold RP; omega), (pg9995.mono (by omega)), h9996, rfl⟩)
    · subst q19
      refine m_aload_n F rfl e_X10_readLine_22 ?_
      refine r_callV F e_X10_readLine_23 (q_X10_readLease (x_l X) V c T Z u h P L _ _  h1.1 (hob) hP ) cb_X10_readLease ml_X10_178 im_X10_readLease se_X10_readLease h1 rfl rfl (rest := []) rfl (Nat.le_of_ble_eq_true rfl) ⟨Nat.le_of_ble_eq_true rfl, Nat.le_of_ble_eq_true rfl⟩ ⟨Nat.le_of_ble_eq_true rfl, Nat.le_of_ble_eq_true rfl⟩ (fun r σ9997 hp => ?_)
      obtain ⟨P10000, oP10000, rP10000, h9998, rfl⟩ := hp
      have h9999 := HS.trans h1 h9998 (by decide)
      have xP10000 := oP10000
      unfold OKP at xP10000
      unfold RP at rP10000
      refine m_goto F e_X10_readLine_26 ?_
      refine m_aload_n F rfl e_X10_readLine_146 ?_
      refine r_get F e_X10_readLine_147 fl_X10_141 h9999 rfl (fun v hv f10001 => ?_)
      obtain ⟨x10002, hx10002, rfl⟩ := hv
      replace hx10002 : Z = 0 → x10002 ≠ 0 := hx10002
      refine m_if_ne F e_X10_readLine_150 (fun q150 => ?_) (fun q150 => ?_)
      · have h10003 := HS.z0 h9999 (f10001) q150
        refine m_aload_n F rfl e_X10_readLine_166 ?_
        refine r_callV F e_X10_readLine_167 (q_X10_goOn (x_l X) V c T 0 u h P10000 L _ _  h10003.1 (hob) oP10000 ) cb_X10_goOn ml_X10_154 im_X10_goOn se_X10_goOn h10003 rfl rfl (rest := []) rfl (Nat.le_of_ble_eq_true rfl) ⟨Nat.le_of_ble_eq_true rfl, Nat.le_of_ble_eq_true rfl⟩ ⟨Nat.le_of_ble_eq_true rfl, Nat.le_of_ble_eq_true rfl⟩ (fun r σ10004 hp => ?_)
        obtain ⟨P10007, oP10007, rP10007, pr10008, h10005, rfl⟩ := hp
        have h10006 := HS.trans h10003 h10005 (by decide)
        have xP10007 := oP10007
        unfold OKP at xP10007
        unfold RA at rP10007
        refine m_aload_n F rfl e_X10_readLine_170 ?_
        refine m_dup F rfl e_X10_readLine_171 ?_
        refine r_get F e_X10_readLine_172 fl_X10_202 h10006 rfl (fun v hv f10009 => ?_)
        obtain ⟨x10010, rfl⟩ := hv
        refine m_iconst F (v := 1) (by decide) e_X10_readLine_175 ?_
        refine m_iadd F e_X10_readLine_176 ?_
        refine Wm.top (fun x10011 _ => ?_)
        refine r_put F (g' := (⟨T, 0, u, h, P10007, L⟩ : RG)) e_X10_readLine_177 fp_X10_202 h10006 (by decide) ⟨_, rfl⟩ (fun _ _ _ _ q => q) (fun _ _ _ q => q) rfl rfl (by decide) (fun σ10012 h10013 g10014 g10015 f10016 => ?_)
        have pg10017 := pr10008.of (g10015 23 (by decide)) (g10015 21 (by decide))
        have h10018 : HS V c _ [0, 2, 17, 18, 19, 20, 21, 22, 23] _ _ := ⟨HR.mono (Z' := Z) (by intro e; first | rfl | assumption | omega) h10013.1, h10013.2⟩
        exact m_vret F hQ e_X10_readLine_180 (⟨P10007, oP10007, (by unfold RP; omega), (pg10017.mono (by omega)), h10018, rfl⟩)
      · subst q150
        refine m_aload_n F rfl e_X10_readLine_153 ?_
        refine r_get F e_X10_readLine_154 fl_X10_110 h9999 rfl (fun v hv f10019 => ?_)
        obtain ⟨x10020, rfl⟩ := hv
        refine m_iconst F (v := 3) (by decide) e_X10_readLine_157 ?_
        refine m_icmp_eq F e_X10_readLine_158 (fun q158 => ?_) (fun q158 => ?_)
        · subst q158
          refine m_aload_n F rfl e_X10_readLine_166 ?_
          refine r_callV F e_X10_readLine_167 (q_X10_goOn (x_l X) V c T Z u h P10000 L _ _  h9999.1 (hob) oP10000 ) cb_X10_goOn ml_X10_154 im_X10_goOn se_X10_goOn h9999 rfl rfl (rest := []) rfl (Nat.le_of_ble_eq_true rfl) ⟨Nat.le_of_ble_eq_true rfl, Nat.le_of_ble_eq_true rfl⟩ ⟨Nat.le_of_ble_eq_true rfl, Nat.le_of_ble_eq_true rfl⟩ (fun r σ10021 hp => ?_)
          obtain ⟨P10024, oP10024, rP10024, pr10025, h10022, rfl⟩ := hp
          have h10023 := HS.trans h9999 h10022 (by decide)
          have xP10024 := oP10024
          unfold OKP at xP10024
          unfold RA at rP10024
          refine m_aload_n F rfl e_X10_readLine_170 ?_
          refine m_dup F rfl e_X10_readLine_171 ?_
          refine r_get F e_X10_readLine_172 fl_X10_202 h10023 rfl (fun v hv f10026 => ?_)
          obtain ⟨x10027, rfl⟩ := hv
          refine m_iconst F (v := 1) (by decide) e_X10_readLine_175 ?_
          refine m_iadd F e_X10_readLine_176 ?_
          refine Wm.top (fun x10028 _ => ?_)
          refine r_put F (g' := (⟨T, Z, u, h, P10024, L⟩ : RG)) e_X10_readLine_177 fp_X10_202 h10023 (by decide) ⟨_, rfl⟩ (fun _ _ _ _ q => q) (fun _ _ _ q => q) rfl rfl (by decide) (fun σ10029 h10030 g10031 g10032 f10033 => ?_)
          have pg10034 := pr10025.of (g10032 23 (by decide)) (g10032 21 (by decide))
          exact m_vret F hQ e_X10_readLine_180 (⟨P10024, oP10024, (by unfold RP; omega), (pg10034.mono (by omega)), h10030, rfl⟩)
        · refine m_aload_n F rfl e_X10_readLine_161 ?_
          refine m_iconst F (v := 1) (by decide) e_X10_readLine_162 ?_
          refine r_callV F e_X10_readLine_163 (q_X10_wrong (x_l X) V c T Z u h P10000 L _ _ 1 h9999.1 (hob) oP10000 (by first | omega | assumption | decide)) cb_X10_wrong ml_X10_150 im_X10_wrong se_X10_wrong h9999 rfl rfl (rest := []) rfl (Nat.le_of_ble_eq_true rfl) ⟨Nat.le_of_ble_eq_true rfl, Nat.le_of_ble_eq_true rfl⟩ ⟨Nat.le_of_ble_eq_true rfl, Nat.le_of_ble_eq_true rfl⟩ (fun r σ10035 hp => ?_)
          obtain ⟨h10036, rfl⟩ := hp
          have h10037 := HS.trans h9999 h10036 (by decide)
          refine m_aload_n F rfl e_X10_readLine_166 ?_
          refine r_callV F e_X10_readLine_167 (q_X10_goOn (x_l X) V c T 0 u h P10000 L _ _  h10037.1 (hob) oP10000 ) cb_X10_goOn ml_X10_154 im_X10_goOn se_X10_goOn h10037 rfl rfl (rest := []) rfl (Nat.le_of_ble_eq_true rfl) ⟨Nat.le_of_ble_eq_true rfl, Nat.le_of_ble_eq_true rfl⟩ ⟨Nat.le_of_ble_eq_true rfl, Nat.le_of_ble_eq_true rfl⟩ (fun r σ10038 hp => ?_)
          obtain ⟨P10041, oP10041, rP10041, pr10042, h10039, rfl⟩ := hp
          have h10040 := HS.trans h10037 h10039 (by decide)
          have xP10041 := oP10041
          unfold OKP at xP10041
          unfold RA at rP10041
          refine m_aload_n F rfl e_X10_readLine_170 ?_
          refine m_dup F rfl e_X10_readLine_171 ?_
          refine r_get F e_X10_readLine_172 fl_X10_202 h10040 rfl (fun v hv f10043 => ?_)
          obtain ⟨x10044, rfl⟩ := hv
          refine m_iconst F (v := 1) (by decide) e_X10_readLine_175 ?_
          refine m_iadd F e_X10_readLine_176 ?_
          refine Wm.top (fun x10045 _ => ?_)
          refine r_put F (g' := (⟨T, 0, u, h, P10041, L⟩ : RG)) e_X10_readLine_177 fp_X10_202 h10040 (by decide) ⟨_, rfl⟩ (fun _ _ _ _ q => q) (fun _ _ _ q => q) rfl rfl (by decide) (fun σ10046 h10047 g10048 g10049 f10050 => ?_)
          have pg10051 := pr10042.of (g10049 23 (by decide)) (g10049 21 (by decide))
          have h10052 : HS V c _ [0, 2, 17, 18, 19, 20, 21, 22, 23] _ _ := ⟨HR.mono (Z' := Z) (by intro e; first | rfl | assumption | omega) h10047.1, h10047.2⟩
          exact m_vret F hQ e_X10_readLine_180 (⟨P10041, oP10041, (by unfold RP; omega), (pg10051.mono (by omega)), h10052, rfl⟩)
  · refine m_aload_n F rfl e_X10_readLine_7 ?_
    refine m_iconst F (v := 1) (by decide) e_X10_readLine_8 ?_
    refine r_callV F e_X10_readLine_9 (q_X10_wrong (x_l X) V c T Z u h P L _ _ 1 h1.1 (hob) hP (by first | omega | assumption | decide)) cb_X10_wrong ml_X10_150 im_X10_wrong se_X10_wrong h1 rfl rfl (rest := []) rfl (Nat.le_of_ble_eq_true rfl) ⟨Nat.le_of_ble_eq_true rfl, Nat.le_of_ble_eq_true rfl⟩ ⟨Nat.le_of_ble_eq_true rfl, Nat.le_of_ble_eq_true rfl⟩ (fun r σ10053 hp => ?_)
    obtain ⟨h10054, rfl⟩ := hp
    have h10055 := HS.trans h1 h10054 (by decide)
    refine m_goto F e_X10_readLine_12 ?_
    refine m_aload_n F rfl e_X10_readLine_146 ?_
    refine r_get F e_X10_readLine_147 fl_X10_141 h10055 rfl (fun v hv f10056 => ?_)
    obtain ⟨x10057, hx10057, rfl⟩ := hv
    replace hx10057 : 0 = 0 → x10057 ≠ 0 := hx10057
    refine m_if_ne F e_X10_readLine_150 (fun q150 => ?_) (fun q150 => ?_)
    · have h10058 := HS.z0 h10055 (f10056) q150
      refine m_aload_n F rfl e_X10_readLine_166 ?_
      refine r_callV F e_X10_readLine_167 (q_X10_goOn (x_l X) V c T 0 u h P L _ _  h10058.1 (hob) hP ) cb_X10_goOn ml_X10_154 im_X10_goOn se_X10_goOn h10058 rfl rfl (rest := []) rfl (Nat.le_of_ble_eq_true rfl) ⟨Nat.le_of_ble_eq_true rfl, Nat.le_of_ble_eq_true rfl⟩ ⟨Nat.le_of_ble_eq_true rfl, Nat.le_of_ble_eq_true rfl⟩ (fun r σ10059 hp => ?_)
      obtain ⟨P10062, oP10062, rP10062, pr10063, h10060, rfl⟩ := hp
      have h10061 := HS.trans h10058 h10060 (by decide)
      have xP10062 := oP10062
      unfold OKP at xP10062
      unfold RA at rP10062
      refine m_aload_n F rfl e_X10_readLine_170 ?_
      refine m_dup F rfl e_X10_readLine_171 ?_
      refine r_get F e_X10_readLine_172 fl_X10_202 h10061 rfl (fun v hv f10064 => ?_)
      obtain ⟨x10065, rfl⟩ := hv
      refine m_iconst F (v := 1) (by decide) e_X10_readLine_175 ?_
      refine m_iadd F e_X10_readLine_176 ?_
      refine Wm.top (fun x10066 _ => ?_)
      refine r_put F (g' := (⟨T, 0, u, h, P10062, L⟩ : RG)) e_X10_readLine_177 fp_X10_202 h10061 (by decide) ⟨_, rfl⟩ (fun _ _ _ _ q => q) (fun _ _ _ q => q) rfl rfl (by decide) (fun σ10067 h10068 g10069 g10070 f10071 => ?_)
      have pg10072 := pr10063.of (g10070 23 (by decide)) (g10070 21 (by decide))
      have h10073 : HS V c _ [0, 2, 17, 18, 19, 20, 21, 22, 23] _ _ := ⟨HR.mono (Z' := Z) (by intro e; first | rfl | assumption | omega) h10068.1, h10068.2⟩
      exact m_vret F hQ e_X10_readLine_180 (⟨P10062, oP10062, (by unfold RP; omega), (pg10072.mono (by omega)), h10073, rfl⟩)
    · first | exact absurd q150 (hx10057 rfl) | contradiction
set_option maxRecDepth 20000 in
theorem q_X10_freshText (l : Launch) (V : VX) (c T Z u h : Nat) (P : NP) (L : Nat → LQ) (N : Nat) (σ : Mem)  (h0 : HR V c ⟨T, Z, u, h, P, L⟩ σ) (hob : OKB L) (hP : OKP P)  : Ct l V yX10_freshText cX10_freshText 2 none 1 0 0 N σ [.ref c] (fun r τ => ∃ P9 : NP, OKP P9 ∧ RP P P9 ∧ HS V c (⟨T, Z, u, h, P9, L⟩ : RG) [0, 1, 2, 4, 5, 6, 7, 8, 9, 10, 11, 12, 13, 14, 15, 16, 17, 18, 19, 20, 21, 22, 23] σ τ ∧ r = none) := by
  refine Ct.of (by decide) (Nat.le_of_ble_eq_true rfl) [(0, .ref c)] rfl (fun X hX F hQ => ?_)
  have hPP := hP
  unfold OKP at hPP
  have h1 : HS V c ⟨T, Z, u, h, P, L⟩ [0, 1, 2, 4, 5, 6, 7, 8, 9, 10, 11, 12, 13, 14, 15, 16, 17, 18, 19, 20, 21, 22, 23] σ σ := HS.start h0
  refine m_iconst F (v := 0) (by decide) e_X10_freshText_0 ?_
  refine m_istore_n F (lv' := [(1, .int 0), (0, .ref c)]) e_X10_freshText_1 (by decide) rfl ?_
  refine m_iload_n F rfl e_X10_freshText_2 ?_
  refine m_iconst F (v := 5) (by decide) e_X10_freshText_3 ?_
  refine m_icmp_ge F e_X10_freshText_4 (fun q => absurd q (by decide)) (fun _ => ?_)
  refine m_aload_n F rfl e_X10_freshText_7 ?_
  refine m_iload_n F rfl e_X10_freshText_8 ?_
  refine m_iconst F (v := 0) (by decide) e_X10_freshText_9 ?_
  refine r_callV F e_X10_freshText_10 (q_X10_reads0 (x_l X) V c T Z u h P L _ _ 0 h1.1 (hob) hP (by omega) (by first | omega | assumption | decide)) cb_X10_reads ml_X10_170 im_X10_reads se_X10_reads h1 rfl rfl (rest := []) rfl (Nat.le_of_ble_eq_true rfl) ⟨Nat.le_of_ble_eq_true rfl, Nat.le_of_ble_eq_true rfl⟩ ⟨Nat.le_of_ble_eq_true rfl, Nat.le_of_ble_eq_true rfl⟩ (fun r σ10074 hp => ?_)
  obtain ⟨h10075, rfl⟩ := hp
  have h10076 := HS.trans h1 h10075 (by decide)
  obtain ⟨P10077, eP10077⟩ : ∃ P9, P9 = (mkP P.n0 P.n2 0 P.n7 P.m0 P.m5 P.w2 P.w7 P.kk P.a) := ⟨_, rfl⟩
  rw [← eP10077] at h10076
  have fP10077 : P10077.n0 = P.n0 ∧ P10077.n2 = P.n2 ∧ P10077.n5 = 0 ∧ P10077.n7 = P.n7 ∧ P10077.m0 = P.m0 ∧ P10077.m5 = P.m5 ∧ P10077.w2 = P.w2 ∧ P10077.w7 = P.w7 ∧ P10077.kk = P.kk ∧ P10077.a = P.a := by rw [eP10077]; exact ⟨rfl, rfl, rfl, rfl, rfl, rfl, rfl, rfl, rfl, rfl⟩
  refine m_iinc F (v := 1) (lv' := [(1, .int 1), (0, .ref c)]) e_X10_freshText_13 rfl (by decide) (by decide) rfl ?_
  refine m_goto F e_X10_freshText_16 ?_
  refine m_iload_n F rfl e_X10_freshText_2 ?_
  refine m_iconst F (v := 5) (by decide) e_X10_freshText_3 ?_
  refine m_icmp_ge F e_X10_freshText_4 (fun q => absurd q (by decide)) (fun _ => ?_)
  refine m_aload_n F rfl e_X10_freshText_7 ?_
  refine m_iload_n F rfl e_X10_freshText_8 ?_
  refine m_iconst F (v := 0) (by decide) e_X10_freshText_9 ?_
  have oP10081 : OKP P10077 := by unfold OKP; omega
  refine r_callV F e_X10_freshText_10 (q_X10_reads1 (x_l X) V c T Z u h P10077 L _ _ 0 h10076.1 (hob) oP10081 ) cb_X10_reads ml_X10_170 im_X10_reads se_X10_reads h10076 rfl rfl (rest := []) rfl (Nat.le_of_ble_eq_true rfl) ⟨Nat.le_of_ble_eq_true rfl, Nat.le_of_ble_eq_true rfl⟩ ⟨Nat.le_of_ble_eq_true rfl, Nat.le_of_ble_eq_true rfl⟩ (fun r σ10078 hp => ?_)
  obtain ⟨h10079, rfl⟩ := hp
  have h10080 := HS.trans h10076 h10079 (by decide)
  refine m_iinc F (v := 2) (lv' := [(1, .int 2), (0, .ref c)]) e_X10_freshText_13 rfl (by decide) (by decide) rfl ?_
  refine m_goto F e_X10_freshText_16 ?_
  refine m_iload_n F rfl e_X10_freshText_2 ?_
  refine m_iconst F (v := 5) (by decide) e_X10_freshText_3 ?_
  refine m_icmp_ge F e_X10_freshText_4 (fun q => absurd q (by decide)) (fun _ => ?_)
  refine m_aload_n F rfl e_X10_freshText_7 ?_
  refine m_iload_n F rfl e_X10_freshText_8 ?_
  refine m_iconst F (v := 0) (by decide) e_X10_freshText_9 ?_
  refine r_callV F e_X10_freshText_10 (q_X10_reads2 (x_l X) V c T Z u h P10077 L _ _ 0 h10080.1 (hob) oP10081 (by omega) (by first | omega | assumption | decide)) cb_X10_reads ml_X10_170 im_X10_reads se_X10_reads h10080 rfl rfl (rest := []) rfl (Nat.le_of_ble_eq_true rfl) ⟨Nat.le_of_ble_eq_true rfl, Nat.le_of_ble_eq_true rfl⟩ ⟨Nat.le_of_ble_eq_true rfl, Nat.le_of_ble_eq_true rfl⟩ (fun r σ10082 hp => ?_)
  obtain ⟨h10083, rfl⟩ := hp
  have h10084 := HS.trans h10080 h10083 (by decide)
  obtain ⟨P10085, eP10085⟩ : ∃ P9, P9 = (mkP P10077.n0 P10077.n2 P10077.n5 0 P10077.m0 P10077.m5 P10077.w2 P10077.w7 P10077.kk P10077.a) := ⟨_, rfl⟩
  rw [← eP10085] at h10084
  have fP10085 : P10085.n0 = P10077.n0 ∧ P10085.n2 = P10077.n2 ∧ P10085.n5 = P10077.n5 ∧ P10085.n7 = 0 ∧ P10085.m0 = P10077.m0 ∧ P10085.m5 = P10077.m5 ∧ P10085.w2 = P10077.w2 ∧ P10085.w7 = P10077.w7 ∧ P10085.kk = P10077.kk ∧ P10085.a = P10077.a := by rw [eP10085]; exact ⟨rfl, rfl, rfl, rfl, rfl, rfl, rfl, rfl, rfl, rfl⟩
  refine m_iinc F (v := 3) (lv' := [(1, .int 3), (0, .ref c)]) e_X10_freshText_13 rfl (by decide) (by decide) rfl ?_
  refine m_goto F e_X10_freshText_16 ?_
  refine m_iload_n F rfl e_X10_freshText_2 ?_
  refine m_iconst F (v := 5) (by decide) e_X10_freshText_3 ?_
  refine m_icmp_ge F e_X10_freshText_4 (fun q => absurd q (by decide)) (fun _ => ?_)
  refine m_aload_n F rfl e_X10_freshText_7 ?_
  refine m_iload_n F rfl e_X10_freshText_8 ?_
  refine m_iconst F (v := 0) (by decide) e_X10_freshText_9 ?_
  have oP10089 : OKP P10085 := by unfold OKP; omega
  refine r_callV F e_X10_freshText_10 (q_X10_reads3 (x_l X) V c T Z u h P10085 L _ _ 0 h10084.1 (hob) oP10089 (by omega)) cb_X10_reads ml_X10_170 im_X10_reads se_X10_reads h10084 rfl rfl (rest := []) rfl (Nat.le_of_ble_eq_true rfl) ⟨Nat.le_of_ble_eq_true rfl, Nat.le_of_ble_eq_true rfl⟩ ⟨Nat.le_of_ble_eq_true rfl, Nat.le_of_ble_eq_true rfl⟩ (fun r σ10086 hp => ?_)
  obtain ⟨h10087, rfl⟩ := hp
  have h10088 := HS.trans h10084 h10087 (by decide)
  refine m_iinc F (v := 4) (lv' := [(1, .int 4), (0, .ref c)]) e_X10_freshText_13 rfl (by decide) (by decide) rfl ?_
  refine m_goto F e_X10_freshText_16 ?_
  refine m_iload_n F rfl e_X10_freshText_2 ?_
  refine m_iconst F (v := 5) (by decide) e_X10_freshText_3 ?_
  refine m_icmp_ge F e_X10_freshText_4 (fun q => absurd q (by decide)) (fun _ => ?_)
  refine m_aload_n F rfl e_X10_freshText_7 ?_
  refine m_iload_n F rfl e_X10_freshText_8 ?_
  refine m_iconst F (v := 0) (by decide) e_X10_freshText_9 ?_
  refine r_callV F e_X10_freshText_10 (q_X10_reads4 (x_l X) V c T Z u h P10085 L _ _ 0 h10088.1 (hob) oP10089 ) cb_X10_reads ml_X10_170 im_X10_reads se_X10_reads h10088 rfl rfl (rest := []) rfl (Nat.le_of_ble_eq_true rfl) ⟨Nat.le_of_ble_eq_true rfl, Nat.le_of_ble_eq_true rfl⟩ ⟨Nat.le_of_ble_eq_true rfl, Nat.le_of_ble_eq_true rfl⟩ (fun r σ10090 hp => ?_)
  obtain ⟨h10091, rfl⟩ := hp
  have h10092 := HS.trans h10088 h10091 (by decide)
  refine m_iinc F (v := 5) (lv' := [(1, .int 5), (0, .ref c)]) e_X10_freshText_13 rfl (by decide) (by decide) rfl ?_
  refine m_goto F e_X10_freshText_16 ?_
  refine m_iload_n F rfl e_X10_freshText_2 ?_
  refine m_iconst F (v := 5) (by decide) e_X10_freshText_3 ?_
  refine m_icmp_ge F e_X10_freshText_4 (fun _ => ?_) (fun q => absurd (by decide) q)
  exact m_vret F hQ e_X10_freshText_19 (⟨P10085, oP10089, (by unfold RP; omega), h10092, rfl⟩)
