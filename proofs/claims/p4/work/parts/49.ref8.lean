/-! the reader of the reference: its place is a ghost too -/
abbrev mkP (n0 n2 n5 n7 m0 m5 w2 w7 kk a f p : Nat) : NP := (n0, n2, n5, n7, m0, m5, w2, w7, kk, a, f, p)
def RA (P Q : NP) : Prop := Q.n0 = P.n0 ∧ Q.n2 = P.n2 ∧ Q.n5 = P.n5 ∧ Q.n7 = P.n7 ∧ Q.m0 = P.m0 ∧ Q.m5 = P.m5 ∧ Q.w2 = P.w2 ∧ Q.w7 = P.w7 ∧ Q.kk = P.kk ∧ P.a ≤ Q.a ∧ Q.f = P.f ∧ Q.p = P.p
def RP (P Q : NP) : Prop := Q.n0 = P.n0 ∧ Q.n2 = P.n2 ∧ Q.m0 = P.m0 ∧ Q.w2 = P.w2 ∧ Q.kk = P.kk ∧ P.a ≤ Q.a ∧ Q.f = P.f ∧ Q.p = P.p
def RQ (P Q : NP) : Prop := Q.n0 = P.n0 ∧ Q.n2 = P.n2 ∧ Q.m0 = P.m0 ∧ Q.w2 = P.w2 ∧ Q.kk = P.kk ∧ Q.f = P.f ∧ Q.p = P.p
theorem CR.setA {V : VX} {c T Z u h a : Nat} {P : NP} {L : Nat → LQ} : ∀ i, i ≠ 1 → ∀ x, CR V c ⟨T, Z, u, h, P, L⟩ i x → CR V c ⟨T, Z, u, h, mkP P.n0 P.n2 P.n5 P.n7 P.m0 P.m5 P.w2 P.w7 P.kk a P.f P.p, L⟩ i x := by
  intro i hi x hx
  unfold CR at hx ⊢
  split at hx <;> first | exact hx | exact absurd rfl hi
theorem ctl_a {c T Z u h a : Nat} {P : NP} {L : Nat → LQ} : ∀ i, i < rL.length → i ≠ 19 → ∀ w, TyW c ⟨T, Z, u, h, P, L⟩ (rL.getD i (0, 0)) w → TyW c ⟨T, Z, u, h, mkP P.n0 P.n2 P.n5 P.n7 P.m0 P.m5 P.w2 P.w7 P.kk a P.f P.p, L⟩ (rL.getD i (0, 0)) w := by
  intro i hi hne w hw
  have key : ∀ i, i < 37 → i ≠ 19 → (rL.getD i (0, 0)).1 ≠ 9 := by decide
  have hk := key i hi hne
  unfold TyW at hw ⊢
  split at hw <;> simp_all
theorem CR.setF {V : VX} {c T Z u h a : Nat} {P : NP} {L : Nat → LQ} : ∀ i, i ≠ 1 → ∀ x, CR V c ⟨T, Z, u, h, P, L⟩ i x → CR V c ⟨T, Z, u, h, mkP P.n0 P.n2 P.n5 P.n7 P.m0 P.m5 P.w2 P.w7 P.kk P.a a P.p, L⟩ i x := by
  intro i hi x hx
  unfold CR at hx ⊢
  split at hx <;> first | exact hx | exact absurd rfl hi
theorem ctl_f {c T Z u h a : Nat} {P : NP} {L : Nat → LQ} : ∀ i, i < rL.length → i ≠ 25 → ∀ w, TyW c ⟨T, Z, u, h, P, L⟩ (rL.getD i (0, 0)) w → TyW c ⟨T, Z, u, h, mkP P.n0 P.n2 P.n5 P.n7 P.m0 P.m5 P.w2 P.w7 P.kk P.a a P.p, L⟩ (rL.getD i (0, 0)) w := by
  intro i hi hne w hw
  have key : ∀ i, i < 37 → i ≠ 25 → (rL.getD i (0, 0)).1 ≠ 10 := by decide
  have hk := key i hi hne
  unfold TyW at hw ⊢
  split at hw <;> simp_all
theorem CR.setP {V : VX} {c T Z u h a : Nat} {P : NP} {L : Nat → LQ} : ∀ i, i ≠ 1 → ∀ x, CR V c ⟨T, Z, u, h, P, L⟩ i x → CR V c ⟨T, Z, u, h, mkP P.n0 P.n2 P.n5 P.n7 P.m0 P.m5 P.w2 P.w7 P.kk P.a P.f a, L⟩ i x := by
  intro i hi x hx
  unfold CR at hx ⊢
  split at hx <;> first | exact hx | exact absurd rfl hi
theorem ctl_p {c T Z u h a : Nat} {P : NP} {L : Nat → LQ} : ∀ i, i < rL.length → i ≠ 26 → ∀ w, TyW c ⟨T, Z, u, h, P, L⟩ (rL.getD i (0, 0)) w → TyW c ⟨T, Z, u, h, mkP P.n0 P.n2 P.n5 P.n7 P.m0 P.m5 P.w2 P.w7 P.kk P.a P.f a, L⟩ (rL.getD i (0, 0)) w := by
  intro i hi hne w hw
  have key : ∀ i, i < 37 → i ≠ 26 → (rL.getD i (0, 0)).1 ≠ 11 := by decide
  have hk := key i hi hne
  unfold TyW at hw ⊢
  split at hw <;> simp_all
theorem nI_ex (x : Int32) : ∃ n : Nat, x = nI n := ⟨x.toBitVec.toNat, ((Int32.ofNat_bitVecToNat x.toBitVec).trans (Int32.ofBitVec_toBitVec x)).symm⟩
/-- fault isn't 0: the ghost says so -/
theorem HS.z0 {V : VX} {c T Z u h : Nat} {P : NP} {L : Nat → LQ} {ks : List Nat} {σ0 σ : Mem} {x : Int32} (hh : HS V c ⟨T, Z, u, h, P, L⟩ ks σ0 σ) (hf : fld σ c 23 = some (.int x)) (hx : ¬ x = 0) : HS V c ⟨T, 0, u, h, P, L⟩ ks σ0 σ := by
  refine ⟨fun a => ?_, hh.2⟩
  by_cases ha : kC c a = 1
  · have h8 := kC_un (k := 0) ha
    have h9 : a = c := h8
    subst h9
    have h1 := hh.1 a
    rw [ha] at h1 ⊢
    obtain ⟨fs, e, q1, q2⟩ := h1
    refine ⟨fs, e, q1, fun j t ht => ?_⟩
    obtain ⟨v, h2, h3⟩ := q2 j t ht
    refine ⟨v, h2, ?_⟩
    by_cases hj : j = 23
    · subst hj
      have h4 : fs[23]? = some (.int x) := fld_ob e hf
      rw [h4] at h2
      cases h2
      obtain rfl : t = (5, 0) := (Option.some.inj ht).symm
      exact ⟨x, fun _ => hx, rfl⟩
    · have hl : j < rL.length := (List.getElem?_eq_some_iff.mp ht).1
      have hu' : rL.getD j (0, 0) = t := by rw [List.getD_eq_getElem?_getD, ht]; rfl
      rw [← hu'] at h3 ⊢
      exact ctl_Z j hl hj v h3
  · exact CR.ctl _ ha _ (hh.1 a)
/-- what stands at the reader's place -/
def HE (σ : Mem) (c a : Nat) (x : Int32) : Prop := ∃ z : Nat, z ≤ 700 ∧ fld σ c 18 = some (.int (nI z)) ∧ ((z ≤ a ∧ x = -1) ∨ (a < z ∧ elI σ (c + 1) a = some x))
theorem HE.of {σ τ : Mem} {c a : Nat} {x : Int32} (h : HE σ c a x) (e1 : fld τ c 18 = fld σ c 18) (e2 : elI τ (c + 1) a = elI σ (c + 1) a) : HE τ c a x := by
  obtain ⟨z, hz, h1, h2⟩ := h
  exact ⟨z, hz, e1.trans h1, h2.imp id (fun q => ⟨q.1, e2.trans q.2⟩)⟩
theorem HE.uniq {σ : Mem} {c a : Nat} {x y : Int32} (h : HE σ c a x) (h' : HE σ c a y) : x = y := by
  obtain ⟨z, hz, h1, h2⟩ := h
  obtain ⟨z', hz', h1', h2'⟩ := h'
  have e : z = z' := by
    rw [h1] at h1'
    have h3 : nI z = nI z' := by injection (Option.some.inj h1')
    exact nI_inj (by omega) (by omega) h3
  subst e
  rcases h2 with ⟨a1, a2⟩ | ⟨a1, a2⟩ <;> rcases h2' with ⟨b1, b2⟩ | ⟨b1, b2⟩
  · exact a2.trans b2.symm
  · omega
  · omega
  · exact Option.some.inj (a2.symm.trans b2)
theorem HE.lt {σ : Mem} {c a : Nat} {x : Int32} (h : HE σ c a x) (hx : ¬ x = -1) : a < 700 := by
  obtain ⟨z, hz, -, ⟨-, h2⟩ | ⟨h2, -⟩⟩ := h
  · exact absurd h2 hx
  · omega
/-- a line or a step of the reader: a fault, the end, or further on -/
def PG (c a b : Nat) (τ : Mem) : Prop := ∃ x y : Int32, fld τ c 23 = some (.int x) ∧ fld τ c 21 = some (.int y) ∧ (x ≠ 0 ∨ y = 4 ∨ a < b)
theorem PG.of {c a b : Nat} {σ τ : Mem} (h : PG c a b σ) (e1 : fld τ c 23 = fld σ c 23) (e2 : fld τ c 21 = fld σ c 21) : PG c a b τ := by
  obtain ⟨x, y, h1, h2, h3⟩ := h
  exact ⟨x, y, e1.trans h1, e2.trans h2, h3⟩
theorem PG.mono {c a a' b : Nat} {σ : Mem} (h : PG c a b σ) (e : a' ≤ a) : PG c a' b σ := by
  obtain ⟨x, y, h1, h2, h3⟩ := h
  exact ⟨x, y, h1, h2, h3.imp id (fun q => q.imp id (fun q => Nat.lt_of_le_of_lt e q))⟩
theorem HR.f21 {V : VX} {c : Nat} {g : RG} {σ : Mem} (h : HR V c g σ) : ∃ y : Int32, fld σ c 21 = some (.int y) := by
  obtain ⟨fs, e, q1, q2⟩ : ∃ fs, σ c = some (ob 8 fs) ∧ TyO c g fs := h.cell (k := 0) (by decide)
  obtain ⟨v, h2, x, rfl⟩ := q2 21 (0, 0) rfl
  exact ⟨x, fld_of e h2⟩
theorem HR.f23 {V : VX} {c : Nat} {g : RG} {σ : Mem} (h : HR V c g σ) : ∃ y : Int32, fld σ c 23 = some (.int y) := by
  obtain ⟨fs, e, q1, q2⟩ : ∃ fs, σ c = some (ob 8 fs) ∧ TyO c g fs := h.cell (k := 0) (by decide)
  obtain ⟨v, h2, x, hx, rfl⟩ := q2 23 (5, 0) rfl
  exact ⟨x, fld_of e h2⟩
theorem PG.a1 {V : VX} {c a b : Nat} {g : RG} {σ : Mem} {x : Int32} (h : HR V c g σ) (e : fld σ c 23 = some (.int x)) (hx : ¬ x = 0) : PG c a b σ := by
  obtain ⟨y, hy⟩ := h.f21
  exact ⟨x, y, e, hy, Or.inl hx⟩
theorem PG.a2 {V : VX} {c a b : Nat} {g : RG} {σ : Mem} (h : HR V c g σ) (e : fld σ c 21 = some (.int 4) ∨ a < b) : PG c a b σ := by
  obtain ⟨y, hy⟩ := h.f21
  obtain ⟨x, hx⟩ := h.f23
  rcases e with e | e
  · exact ⟨x, 4, hx, e, Or.inr (Or.inl rfl)⟩
  · exact ⟨x, y, hx, hy, Or.inr (Or.inr e)⟩
theorem CR.chg {V : VX} {c T Z u h K : Nat} {P P' : NP} {L : Nat → LQ} (hE : ∀ k, k ≠ K → ∀ i x, EI P k i x → EI P' k i x) (hk : P'.kk = P.kk) (ha : P'.a = P.a) (hf : P'.f = P.f) (hp : P'.p = P.p) : ∀ i, i ≠ K → ∀ x, CR V c ⟨T, Z, u, h, P, L⟩ i x → CR V c ⟨T, Z, u, h, P', L⟩ i x := by
  intro i hi x hx
  unfold CR at hx ⊢
  split at hx
  · trivial
  · obtain ⟨fs, e, q1, q2⟩ := hx
    refine ⟨fs, e, q1, fun j t ht => ?_⟩
    obtain ⟨v, h2, h3⟩ := q2 j t ht
    refine ⟨v, h2, ?_⟩
    obtain ⟨tc, tw⟩ := t
    unfold TyW at h3 ⊢
    split at h3 <;> first | exact h3 | (show v = .int (nI P'.a); rw [ha]; exact h3) | (show v = .int (nI P'.f); rw [hf]; exact h3) | (show v = .int (nI P'.p); rw [hp]; exact h3)
  · exact hx
  · exact hx
  · exact hx
  · show ∃ f, _ = some (aJ V 1113 f) ∧ (h = 1 → GR P'.kk f)
    rw [hk]; exact hx
  · show ∃ f, _ = some (aJ V 22260 f) ∧ ∀ j, j < u → GR P'.kk (fun i => f (1113 * j + i))
    rw [hk]; exact hx
  · obtain ⟨f, e, q⟩ := hx
    exact ⟨f, e, fun i9 h9 => hE _ hi i9 _ (q i9 h9)⟩
  · exact hx
  · obtain ⟨f, e, q⟩ := hx
    exact ⟨f, e, fun i9 h9 => hE _ hi i9 _ (q i9 h9)⟩
set_option maxRecDepth 20000 in
theorem q_X10_here (l : Launch) (V : VX) (c T Z u h : Nat) (P : NP) (L : Nat → LQ) (N : Nat) (σ : Mem)  (h0 : HR V c ⟨T, Z, u, h, P, L⟩ σ) (hob : OKB L) (hP : OKP P)  : Ct l V yX10_here cX10_here 1 (some .int) 0 0 0 N σ [.ref c] (fun r τ => HS V c (⟨T, Z, u, h, P, L⟩ : RG) [0, 1, 2, 3, 4, 5, 6, 7, 8, 9, 10, 11, 12, 13, 14, 15, 16, 17, 18, 19, 20, 21, 22, 23] σ τ ∧ ∃ x : Int32, HE τ c P.a x ∧ r = some (.int x)) := by
  refine Ct.of (by decide) (Nat.le_of_ble_eq_true rfl) [(0, .ref c)] rfl (fun X hX F hQ => ?_)
  have hPP := hP
  unfold OKP at hPP
  have h1 : HS V c ⟨T, Z, u, h, P, L⟩ [0, 1, 2, 3, 4, 5, 6, 7, 8, 9, 10, 11, 12, 13, 14, 15, 16, 17, 18, 19, 20, 21, 22, 23] σ σ := HS.start h0
  refine m_aload_n F rfl e_X10_here_0 ?_
  refine r_get F e_X10_here_1 fl_X10_97 h1 rfl (fun v hv f7500 => ?_)
  obtain rfl : v = .int (nI (P.a)) := hv
  refine m_aload_n F rfl e_X10_here_4 ?_
  refine r_get F e_X10_here_5 fl_X10_100 h1 rfl (fun v hv f7501 => ?_)
  obtain ⟨n7502, hn7502, rfl⟩ := hv
  replace hn7502 : n7502 ≤ 700 := hn7502
  refine m_icmp_ge F e_X10_here_8 (fun q8 => ?_) (fun q8 => ?_)
  · have c8 : P.a ≥ n7502 := (nI_leI (a := n7502) (b := P.a) (by omega) (by omega)).mp q8
    refine m_iconst F (v := (-1)) (by decide) e_X10_here_23 ?_
    exact m_iret F hQ e_X10_here_24 (⟨h1, -1, ⟨n7502, by omega, f7501, Or.inl ⟨by omega, rfl⟩⟩, rfl⟩)
  · have c8 : P.a < n7502 := by have hh := mt (nI_leI (a := n7502) (b := P.a) (by omega) (by omega)).mpr q8; omega
    refine m_aload_n F rfl e_X10_here_11 ?_
    refine r_get F e_X10_here_12 fl_X10_7 h1 rfl (fun v hv f7503 => ?_)
    obtain rfl : v = .ref (c + 1) := hv
    refine m_aload_n F rfl e_X10_here_15 ?_
    refine r_getC F e_X10_here_16 fl_X10_97 h1 (f7500) ?_
    refine r_iald F (len := 700) (j := P.a) e_X10_here_19 h1 (fun _ h => h) (by decide) (nI_clamp (by omega)) (vp_in_nI (by omega) (by decide)) (fun x7504 h7505 f7506 => ?_)
    refine m_goto F e_X10_here_20 ?_
    exact m_iret F hQ e_X10_here_24 (⟨h1, x7504, ⟨n7502, by omega, f7501, Or.inr ⟨by omega, f7506⟩⟩, rfl⟩)
set_option maxRecDepth 20000 in
theorem q_X10_isSmall2 (l : Launch) (V : VX) (N : Nat) (σ : Mem) (x901 : Int32)  : Ct l V yX10_isSmall cX10_isSmall 1 (some .boolean) 0 0 0 N σ [.int x901] (fun r τ => τ = σ ∧ (¬ (¬ x901 < 97 ∧ ¬ 122 < x901) ∧ r = some (.int 0) ∨ (¬ x901 < 97 ∧ ¬ 122 < x901) ∧ r = some (.int 1))) := by
  refine Ct.of (by decide) (Nat.le_of_ble_eq_true rfl) [(0, .int x901)] rfl (fun X hX F hQ => ?_)
  refine m_iload_n F rfl e_X10_isSmall_0 ?_
  refine m_bipush F (v := 97) (by decide) e_X10_isSmall_1 ?_
  refine m_icmp_lt F e_X10_isSmall_3 (fun q3 => ?_) (fun q3 => ?_)
  · refine m_iconst F (v := 0) (by decide) e_X10_isSmall_16 ?_
    exact m_zret F hQ e_X10_isSmall_17 (by decide) (⟨rfl, Or.inl ⟨fun e => e.1 q3, rfl⟩⟩)
  · obtain ⟨n7507, hn7507, rfl⟩ := nI_nn (x := x901) (fun e => q3 (Int32.lt_of_lt_of_le e (by decide)))
    have c3 : n7507 ≥ 97 := by have hh := mt (nI_ltI (a := n7507) (b := 97) (by omega) (by omega)).mpr q3; omega
    refine m_iload_n F rfl e_X10_isSmall_6 ?_
    refine m_bipush F (v := 122) (by decide) e_X10_isSmall_7 ?_
    refine m_icmp_gt F e_X10_isSmall_9 (fun q9 => ?_) (fun q9 => ?_)
    · have c9 : n7507 > 122 := (nI_ltI (a := 122) (b := n7507) (by omega) (by omega)).mp q9
      refine m_iconst F (v := 0) (by decide) e_X10_isSmall_16 ?_
      exact m_zret F hQ e_X10_isSmall_17 (by decide) (⟨rfl, Or.inl ⟨fun e => e.2 q9, rfl⟩⟩)
    · have c9 : n7507 ≤ 122 := by have hh := mt (nI_ltI (a := 122) (b := n7507) (by omega) (by omega)).mpr q9; omega
      refine m_iconst F (v := 1) (by decide) e_X10_isSmall_12 ?_
      refine m_goto F e_X10_isSmall_13 ?_
      exact m_zret F hQ e_X10_isSmall_17 (by decide) (⟨rfl, Or.inr ⟨⟨q3, q9⟩, rfl⟩⟩)
set_option maxRecDepth 20000 in
theorem q_X10_isDigit2 (l : Launch) (V : VX) (N : Nat) (σ : Mem) (x901 : Int32)  : Ct l V yX10_isDigit cX10_isDigit 1 (some .boolean) 0 0 0 N σ [.int x901] (fun r τ => τ = σ ∧ (¬ (¬ x901 < 48 ∧ ¬ 57 < x901) ∧ r = some (.int 0) ∨ (¬ x901 < 48 ∧ ¬ 57 < x901) ∧ r = some (.int 1))) := by
  refine Ct.of (by decide) (Nat.le_of_ble_eq_true rfl) [(0, .int x901)] rfl (fun X hX F hQ => ?_)
  refine m_iload_n F rfl e_X10_isDigit_0 ?_
  refine m_bipush F (v := 48) (by decide) e_X10_isDigit_1 ?_
  refine m_icmp_lt F e_X10_isDigit_3 (fun q3 => ?_) (fun q3 => ?_)
  · refine m_iconst F (v := 0) (by decide) e_X10_isDigit_16 ?_
    exact m_zret F hQ e_X10_isDigit_17 (by decide) (⟨rfl, Or.inl ⟨fun e => e.1 q3, rfl⟩⟩)
  · obtain ⟨n7508, hn7508, rfl⟩ := nI_nn (x := x901) (fun e => q3 (Int32.lt_of_lt_of_le e (by decide)))
    have c3 : n7508 ≥ 48 := by have hh := mt (nI_ltI (a := n7508) (b := 48) (by omega) (by omega)).mpr q3; omega
    refine m_iload_n F rfl e_X10_isDigit_6 ?_
    refine m_bipush F (v := 57) (by decide) e_X10_isDigit_7 ?_
    refine m_icmp_gt F e_X10_isDigit_9 (fun q9 => ?_) (fun q9 => ?_)
    · have c9 : n7508 > 57 := (nI_ltI (a := 57) (b := n7508) (by omega) (by omega)).mp q9
      refine m_iconst F (v := 0) (by decide) e_X10_isDigit_16 ?_
      exact m_zret F hQ e_X10_isDigit_17 (by decide) (⟨rfl, Or.inl ⟨fun e => e.2 q9, rfl⟩⟩)
    · have c9 : n7508 ≤ 57 := by have hh := mt (nI_ltI (a := 57) (b := n7508) (by omega) (by omega)).mpr q9; omega
      refine m_iconst F (v := 1) (by decide) e_X10_isDigit_12 ?_
      refine m_goto F e_X10_isDigit_13 ?_
      exact m_zret F hQ e_X10_isDigit_17 (by decide) (⟨rfl, Or.inr ⟨⟨q3, q9⟩, rfl⟩⟩)
set_option maxRecDepth 20000 in
theorem lq_X10_wordHere_97 {V : VX} {X : MX} {N : Nat} {σ : Mem} {c T Z u h : Nat} {P : NP} {L : Nat → LQ}   (F : Fx V X yX10_wordHere cX10_wordHere 4 (some .int) (rmd 4 0 0)) (hQ : Rt V X 0 0 N (fun r τ => HS V c (⟨T, Z, u, h, P, L⟩ : RG) [0, 1, 2, 3, 4, 5, 6, 7, 8, 9, 10, 11, 12, 13, 14, 15, 16, 17, 18, 19, 20, 21, 22, 23] σ τ ∧ ∃ x : Int32, r = some (.int x))) (hob : OKB L) (hP : OKP P)  {fuelO : Nat} (hO : ∀ (n1 : Int32) (k : Nat) (τ : Mem), HS V c (⟨T, Z, u, h, P, L⟩ : RG) [0, 1, 2, 3, 4, 5, 6, 7, 8, 9, 10, 11, 12, 13, 14, 15, 16, 17, 18, 19, 20, 21, 22, 23] σ τ → k ≤ 48 → 48 - k < fuelO → Wm V X 4 N τ 0 0 4 [(0, .ref c), (1, .int n1), (2, .int (nI k))] []) : ∀ (fuel : Nat) (n1 : Int32) (k : Nat) (τ : Mem), HS V c (⟨T, Z, u, h, P, L⟩ : RG) [0, 1, 2, 3, 4, 5, 6, 7, 8, 9, 10, 11, 12, 13, 14, 15, 16, 17, 18, 19, 20, 21, 22, 23] σ τ → k ≤ 47 ∧ 48 - k ≤ fuelO → 48 - k < fuel → Wm V X 4 N τ 0 0 97 [(0, .ref c), (1, .int n1), (2, .int (nI k))] [] := by
  intro fuel
  induction fuel with
  | zero => intros; rename_i hm; exact absurd hm (Nat.not_lt_zero _)
  | succ fuel ih =>
    intro n1 k τ h1 hi hm
    have hPP := hP
    unfold OKP at hPP
    refine m_ldcS F e_X10_wordHere_97 F.sw.1.2.2 ?_
    refine m_iload_n F rfl e_X10_wordHere_99 ?_
    refine m_callO F e_X10_wordHere_100 (q_charAt (x_l X) V _ _ k (by omega)) cb_J0_charAt_5068e ml_X10_137 im_J0_charAt_5068e se_J0_charAt_5068e F.sw.2.2.2.2.2.2.1 rfl (rest := []) rfl (Nat.le_of_ble_eq_true rfl) ⟨Nat.le_of_ble_eq_true rfl, Nat.le_of_ble_eq_true rfl⟩ ⟨Nat.le_of_ble_eq_true rfl, Nat.le_of_ble_eq_true rfl⟩ (k' := 0) (z' := 0) (N' := N) rfl rfl rfl (fun r σ7509 hp => ?_)
    obtain ⟨rfl, rfl⟩ := hp
    refine m_bipush F (v := 32) (by decide) e_X10_wordHere_103 ?_
    refine m_icmp_eq F e_X10_wordHere_105 (fun q105 => ?_) (fun q105 => ?_)
    · refine m_iinc F (v := nI (k + 1)) (lv' := [(2, .int (nI (k + 1))), (0, .ref c), (1, .int n1)]) e_X10_wordHere_114 rfl (nI_add k 1) (by decide) rfl ?_
      refine m_iinc F (v := (n1 + 1)) (lv' := [(1, .int (n1 + 1)), (2, .int (nI (k + 1))), (0, .ref c)]) e_X10_wordHere_117 rfl rfl (by decide) rfl ?_
      refine m_goto F e_X10_wordHere_120 ?_
      refine Wm.lvsub (lv' := [(0, .ref c), (1, .int (n1 + 1)), (2, .int (nI (k + 1)))]) ?_ [2, 0, 1] rfl
      exact hO (n1 + 1) (k + 1) _ h1 (by omega) (by omega)
    · have hw105 := wb_47 (i := k) (by omega) q105
      refine m_iinc F (v := nI (k + 1)) (lv' := [(2, .int (nI (k + 1))), (0, .ref c), (1, .int n1)]) e_X10_wordHere_108 rfl (nI_add k 1) (by decide) rfl ?_
      refine m_goto F e_X10_wordHere_111 ?_
      refine Wm.lvsub (lv' := [(0, .ref c), (1, .int n1), (2, .int (nI (k + 1)))]) ?_ [1, 2, 0] rfl
      exact ih n1 (k + 1) _ h1 (by omega) (by omega)
set_option maxRecDepth 20000 in
theorem lq_X10_wordHere_15 {V : VX} {X : MX} {N : Nat} {σ : Mem} {c T Z u h : Nat} {P : NP} {L : Nat → LQ}   (F : Fx V X yX10_wordHere cX10_wordHere 4 (some .int) (rmd 4 0 0)) (hQ : Rt V X 0 0 N (fun r τ => HS V c (⟨T, Z, u, h, P, L⟩ : RG) [0, 1, 2, 3, 4, 5, 6, 7, 8, 9, 10, 11, 12, 13, 14, 15, 16, 17, 18, 19, 20, 21, 22, 23] σ τ ∧ ∃ x : Int32, r = some (.int x))) (hob : OKB L) (hP : OKP P)  {fuelO : Nat} (hO : ∀ (n1 : Int32) (k : Nat) (τ : Mem), HS V c (⟨T, Z, u, h, P, L⟩ : RG) [0, 1, 2, 3, 4, 5, 6, 7, 8, 9, 10, 11, 12, 13, 14, 15, 16, 17, 18, 19, 20, 21, 22, 23] σ τ → k ≤ 48 → 48 - k < fuelO → Wm V X 4 N τ 0 0 4 [(0, .ref c), (1, .int n1), (2, .int (nI k))] []) : ∀ (fuel : Nat) (n1 : Int32) (k : Nat) (i : Nat) (τ : Mem), HS V c (⟨T, Z, u, h, P, L⟩ : RG) [0, 1, 2, 3, 4, 5, 6, 7, 8, 9, 10, 11, 12, 13, 14, 15, 16, 17, 18, 19, 20, 21, 22, 23] σ τ → k + i ≤ 47 ∧ 48 - k ≤ fuelO → 48 - i < fuel → Wm V X 4 N τ 0 0 15 [(0, .ref c), (1, .int n1), (2, .int (nI k)), (3, .int (nI i))] [] := by
  intro fuel
  induction fuel with
  | zero => intros; rename_i hm; exact absurd hm (Nat.not_lt_zero _)
  | succ fuel ih =>
    intro n1 k i τ h1 hi hm
    have hPP := hP
    unfold OKP at hPP
    refine m_ldcS F e_X10_wordHere_15 F.sw.1.2.2 ?_
    refine m_iload_n F rfl e_X10_wordHere_17 ?_
    refine m_iload_n F rfl e_X10_wordHere_18 ?_
    refine m_iadd F e_X10_wordHere_19 ?_
    refine Wm.topE (w := nI (k + i)) (nI_add k i) ?_
    refine m_callO F e_X10_wordHere_20 (q_charAt (x_l X) V _ _ (k + i) (by omega)) cb_J0_charAt_5068e ml_X10_137 im_J0_charAt_5068e se_J0_charAt_5068e F.sw.2.2.2.2.2.2.1 rfl (rest := []) rfl (Nat.le_of_ble_eq_true rfl) ⟨Nat.le_of_ble_eq_true rfl, Nat.le_of_ble_eq_true rfl⟩ ⟨Nat.le_of_ble_eq_true rfl, Nat.le_of_ble_eq_true rfl⟩ (k' := 0) (z' := 0) (N' := N) rfl rfl rfl (fun r σ7510 hp => ?_)
    obtain ⟨rfl, rfl⟩ := hp
    refine m_bipush F (v := 32) (by decide) e_X10_wordHere_23 ?_
    refine m_icmp_eq F e_X10_wordHere_25 (fun q25 => ?_) (fun q25 => ?_)
    · refine m_ldcS F e_X10_wordHere_69 F.sw.1.2.2 ?_
      refine m_iload_n F rfl e_X10_wordHere_71 ?_
      refine m_iload_n F rfl e_X10_wordHere_72 ?_
      refine m_iadd F e_X10_wordHere_73 ?_
      refine Wm.topE (w := nI (k + i)) (nI_add k i) ?_
      refine m_callO F e_X10_wordHere_74 (q_charAt (x_l X) V _ _ (k + i) (by omega)) cb_J0_charAt_5068e ml_X10_137 im_J0_charAt_5068e se_J0_charAt_5068e F.sw.2.2.2.2.2.2.1 rfl (rest := []) rfl (Nat.le_of_ble_eq_true rfl) ⟨Nat.le_of_ble_eq_true rfl, Nat.le_of_ble_eq_true rfl⟩ ⟨Nat.le_of_ble_eq_true rfl, Nat.le_of_ble_eq_true rfl⟩ (k' := 0) (z' := 0) (N' := N) rfl rfl rfl (fun r σ7511 hp => ?_)
      obtain ⟨rfl, rfl⟩ := hp
      refine m_bipush F (v := 32) (by decide) e_X10_wordHere_77 ?_
      refine m_icmp_ne F e_X10_wordHere_79 (fun q79 => ?_) (fun q79 => ?_)
      · refine Wm.lvsub (lv' := [(0, .ref c), (1, .int n1), (2, .int (nI k))]) ?_ [0, 1, 2] rfl
        exact lq_X10_wordHere_97 F hQ hob hP  hO (48 - k + 1) n1 k _ h1 (by omega) (Nat.lt_succ_self _)
      · refine m_aload_n F rfl e_X10_wordHere_82 ?_
        refine r_get F e_X10_wordHere_83 fl_X10_107 h1 rfl (fun v hv f7512 => ?_)
        obtain ⟨n7513, hn7513, rfl⟩ := hv
        replace hn7513 : n7513 ≤ 700 := hn7513
        refine m_iload_n F rfl e_X10_wordHere_86 ?_
        refine m_iadd F e_X10_wordHere_87 ?_
        refine Wm.topE (w := nI (n7513 + i)) (nI_add n7513 i) ?_
        refine m_aload_n F rfl e_X10_wordHere_88 ?_
        refine r_get F e_X10_wordHere_89 fl_X10_97 h1 rfl (fun v hv f7514 => ?_)
        obtain rfl : v = .int (nI (P.a)) := hv
        refine m_icmp_ne F e_X10_wordHere_92 (fun q92 => ?_) (fun q92 => ?_)
        · have c92 : (n7513 + i) ≠ P.a := by have hh := mt (nI_eq (a := (n7513 + i)) (b := P.a) (by omega) (by omega)).mpr q92; omega
          refine Wm.lvsub (lv' := [(0, .ref c), (1, .int n1), (2, .int (nI k))]) ?_ [0, 1, 2] rfl
          exact lq_X10_wordHere_97 F hQ hob hP  hO (48 - k + 1) n1 k _ h1 (by omega) (Nat.lt_succ_self _)
        · have c92 : (n7513 + i) = P.a := (nI_eq (a := (n7513 + i)) (b := P.a) (by omega) (by omega)).mp q92
          refine m_iload_n F rfl e_X10_wordHere_95 ?_
          exact m_iret F hQ e_X10_wordHere_96 (⟨h1, _, rfl⟩)
    · have hw25 := wb_47 (i := k + i) (by omega) q25
      refine m_aload_n F rfl e_X10_wordHere_28 ?_
      refine r_get F e_X10_wordHere_29 fl_X10_107 h1 rfl (fun v hv f7515 => ?_)
      obtain ⟨n7516, hn7516, rfl⟩ := hv
      replace hn7516 : n7516 ≤ 700 := hn7516
      refine m_iload_n F rfl e_X10_wordHere_32 ?_
      refine m_iadd F e_X10_wordHere_33 ?_
      refine Wm.topE (w := nI (n7516 + i)) (nI_add n7516 i) ?_
      refine m_aload_n F rfl e_X10_wordHere_34 ?_
      refine r_get F e_X10_wordHere_35 fl_X10_97 h1 rfl (fun v hv f7517 => ?_)
      obtain rfl : v = .int (nI (P.a)) := hv
      refine m_icmp_ge F e_X10_wordHere_38 (fun q38 => ?_) (fun q38 => ?_)
      · have c38 : (n7516 + i) ≥ P.a := (nI_leI (a := P.a) (b := (n7516 + i)) (by omega) (by omega)).mp q38
        refine m_ldcS F e_X10_wordHere_69 F.sw.1.2.2 ?_
        refine m_iload_n F rfl e_X10_wordHere_71 ?_
        refine m_iload_n F rfl e_X10_wordHere_72 ?_
        refine m_iadd F e_X10_wordHere_73 ?_
        refine Wm.topE (w := nI (k + i)) (nI_add k i) ?_
        refine m_callO F e_X10_wordHere_74 (q_charAt (x_l X) V _ _ (k + i) (by omega)) cb_J0_charAt_5068e ml_X10_137 im_J0_charAt_5068e se_J0_charAt_5068e F.sw.2.2.2.2.2.2.1 rfl (rest := []) rfl (Nat.le_of_ble_eq_true rfl) ⟨Nat.le_of_ble_eq_true rfl, Nat.le_of_ble_eq_true rfl⟩ ⟨Nat.le_of_ble_eq_true rfl, Nat.le_of_ble_eq_true rfl⟩ (k' := 0) (z' := 0) (N' := N) rfl rfl rfl (fun r σ7518 hp => ?_)
        obtain ⟨rfl, rfl⟩ := hp
        refine m_bipush F (v := 32) (by decide) e_X10_wordHere_77 ?_
        refine m_icmp_ne F e_X10_wordHere_79 (fun q79 => ?_) (fun q79 => ?_)
        · refine Wm.lvsub (lv' := [(0, .ref c), (1, .int n1), (2, .int (nI k))]) ?_ [0, 1, 2] rfl
          exact lq_X10_wordHere_97 F hQ hob hP  hO (48 - k + 1) n1 k _ h1 (by omega) (Nat.lt_succ_self _)
        · refine m_aload_n F rfl e_X10_wordHere_82 ?_
          refine r_getC F e_X10_wordHere_83 fl_X10_107 h1 (f7515) ?_
          refine m_iload_n F rfl e_X10_wordHere_86 ?_
          refine m_iadd F e_X10_wordHere_87 ?_
          refine Wm.topE (w := nI (n7516 + i)) (nI_add n7516 i) ?_
          refine m_aload_n F rfl e_X10_wordHere_88 ?_
          refine r_getC F e_X10_wordHere_89 fl_X10_97 h1 (f7517) ?_
          refine m_icmp_ne F e_X10_wordHere_92 (fun q92 => ?_) (fun q92 => ?_)
          · have c92 : (n7516 + i) ≠ P.a := by have hh := mt (nI_eq (a := (n7516 + i)) (b := P.a) (by omega) (by omega)).mpr q92; omega
            refine Wm.lvsub (lv' := [(0, .ref c), (1, .int n1), (2, .int (nI k))]) ?_ [0, 1, 2] rfl
            exact lq_X10_wordHere_97 F hQ hob hP  hO (48 - k + 1) n1 k _ h1 (by omega) (Nat.lt_succ_self _)
          · have c92 : (n7516 + i) = P.a := (nI_eq (a := (n7516 + i)) (b := P.a) (by omega) (by omega)).mp q92
            refine m_iload_n F rfl e_X10_wordHere_95 ?_
            exact m_iret F hQ e_X10_wordHere_96 (⟨h1, _, rfl⟩)
      · have c38 : (n7516 + i) < P.a := by have hh := mt (nI_leI (a := P.a) (b := (n7516 + i)) (by omega) (by omega)).mpr q38; omega
        refine m_aload_n F rfl e_X10_wordHere_41 ?_
        refine r_get F e_X10_wordHere_42 fl_X10_7 h1 rfl (fun v hv f7519 => ?_)
        obtain rfl : v = .ref (c + 1) := hv
        refine m_aload_n F rfl e_X10_wordHere_45 ?_
        refine r_getC F e_X10_wordHere_46 fl_X10_107 h1 (f7515) ?_
        refine m_iload_n F rfl e_X10_wordHere_49 ?_
        refine m_iadd F e_X10_wordHere_50 ?_
        refine Wm.topE (w := nI (n7516 + i)) (nI_add n7516 i) ?_
        refine r_iald F (len := 700) (j := n7516 + i) e_X10_wordHere_51 h1 (fun _ h => h) (by decide) (nI_clamp (by omega)) (vp_in_nI (by omega) (by decide)) (fun x7520 h7521 f7522 => ?_)
        refine m_ldcS F e_X10_wordHere_52 F.sw.1.2.2 ?_
        refine m_iload_n F rfl e_X10_wordHere_54 ?_
        refine m_iload_n F rfl e_X10_wordHere_55 ?_
        refine m_iadd F e_X10_wordHere_56 ?_
        refine Wm.topE (w := nI (k + i)) (nI_add k i) ?_
        refine m_callO F e_X10_wordHere_57 (q_charAt (x_l X) V _ _ (k + i) (by omega)) cb_J0_charAt_5068e ml_X10_137 im_J0_charAt_5068e se_J0_charAt_5068e F.sw.2.2.2.2.2.2.1 rfl (rest := [.int x7520]) rfl (Nat.le_of_ble_eq_true rfl) ⟨Nat.le_of_ble_eq_true rfl, Nat.le_of_ble_eq_true rfl⟩ ⟨Nat.le_of_ble_eq_true rfl, Nat.le_of_ble_eq_true rfl⟩ (k' := 0) (z' := 0) (N' := N) rfl rfl rfl (fun r σ7523 hp => ?_)
        obtain ⟨rfl, rfl⟩ := hp
        refine m_icmp_ne F e_X10_wordHere_60 (fun q60 => ?_) (fun q60 => ?_)
        · refine m_ldcS F e_X10_wordHere_69 F.sw.1.2.2 ?_
          refine m_iload_n F rfl e_X10_wordHere_71 ?_
          refine m_iload_n F rfl e_X10_wordHere_72 ?_
          refine m_iadd F e_X10_wordHere_73 ?_
          refine Wm.topE (w := nI (k + i)) (nI_add k i) ?_
          refine m_callO F e_X10_wordHere_74 (q_charAt (x_l X) V _ _ (k + i) (by omega)) cb_J0_charAt_5068e ml_X10_137 im_J0_charAt_5068e se_J0_charAt_5068e F.sw.2.2.2.2.2.2.1 rfl (rest := []) rfl (Nat.le_of_ble_eq_true rfl) ⟨Nat.le_of_ble_eq_true rfl, Nat.le_of_ble_eq_true rfl⟩ ⟨Nat.le_of_ble_eq_true rfl, Nat.le_of_ble_eq_true rfl⟩ (k' := 0) (z' := 0) (N' := N) rfl rfl rfl (fun r σ7524 hp => ?_)
          obtain ⟨rfl, rfl⟩ := hp
          refine m_bipush F (v := 32) (by decide) e_X10_wordHere_77 ?_
          refine m_icmp_ne F e_X10_wordHere_79 (fun q79 => ?_) (fun q79 => ?_)
          · refine Wm.lvsub (lv' := [(0, .ref c), (1, .int n1), (2, .int (nI k))]) ?_ [0, 1, 2] rfl
            exact lq_X10_wordHere_97 F hQ hob hP  hO (48 - k + 1) n1 k _ h1 (by omega) (Nat.lt_succ_self _)
          · refine m_aload_n F rfl e_X10_wordHere_82 ?_
            refine r_getC F e_X10_wordHere_83 fl_X10_107 h1 (f7515) ?_
            refine m_iload_n F rfl e_X10_wordHere_86 ?_
            refine m_iadd F e_X10_wordHere_87 ?_
            refine Wm.topE (w := nI (n7516 + i)) (nI_add n7516 i) ?_
            refine m_aload_n F rfl e_X10_wordHere_88 ?_
            refine r_getC F e_X10_wordHere_89 fl_X10_97 h1 (f7517) ?_
            refine m_icmp_ne F e_X10_wordHere_92 (fun q92 => ?_) (fun q92 => ?_)
            · have c92 : (n7516 + i) ≠ P.a := by have hh := mt (nI_eq (a := (n7516 + i)) (b := P.a) (by omega) (by omega)).mpr q92; omega
              refine Wm.lvsub (lv' := [(0, .ref c), (1, .int n1), (2, .int (nI k))]) ?_ [0, 1, 2] rfl
              exact lq_X10_wordHere_97 F hQ hob hP  hO (48 - k + 1) n1 k _ h1 (by omega) (Nat.lt_succ_self _)
            · have c92 : (n7516 + i) = P.a := (nI_eq (a := (n7516 + i)) (b := P.a) (by omega) (by omega)).mp q92
              refine m_iload_n F rfl e_X10_wordHere_95 ?_
              exact m_iret F hQ e_X10_wordHere_96 (⟨h1, _, rfl⟩)
        · refine m_iinc F (v := nI (i + 1)) (lv' := [(3, .int (nI (i + 1))), (0, .ref c), (1, .int n1), (2, .int (nI k))]) e_X10_wordHere_63 rfl (nI_add i 1) (by decide) rfl ?_
          refine m_goto F e_X10_wordHere_66 ?_
          refine Wm.lvsub (lv' := [(0, .ref c), (1, .int n1), (2, .int (nI k)), (3, .int (nI (i + 1)))]) ?_ [1, 2, 3, 0] rfl
          exact ih n1 k (i + 1) _ h1 (by omega) (by omega)
set_option maxRecDepth 20000 in
theorem lq_X10_wordHere_4 {V : VX} {X : MX} {N : Nat} {σ : Mem} {c T Z u h : Nat} {P : NP} {L : Nat → LQ}   (F : Fx V X yX10_wordHere cX10_wordHere 4 (some .int) (rmd 4 0 0)) (hQ : Rt V X 0 0 N (fun r τ => HS V c (⟨T, Z, u, h, P, L⟩ : RG) [0, 1, 2, 3, 4, 5, 6, 7, 8, 9, 10, 11, 12, 13, 14, 15, 16, 17, 18, 19, 20, 21, 22, 23] σ τ ∧ ∃ x : Int32, r = some (.int x))) (hob : OKB L) (hP : OKP P)   : ∀ (fuel : Nat) (n1 : Int32) (k : Nat) (τ : Mem), HS V c (⟨T, Z, u, h, P, L⟩ : RG) [0, 1, 2, 3, 4, 5, 6, 7, 8, 9, 10, 11, 12, 13, 14, 15, 16, 17, 18, 19, 20, 21, 22, 23] σ τ → k ≤ 48 → 48 - k < fuel → Wm V X 4 N τ 0 0 4 [(0, .ref c), (1, .int n1), (2, .int (nI k))] [] := by
  intro fuel
  induction fuel with
  | zero => intros; rename_i hm; exact absurd hm (Nat.not_lt_zero _)
  | succ fuel ih =>
    intro n1 k τ h1 hi hm
    have hPP := hP
    unfold OKP at hPP
    refine m_iload_n F rfl e_X10_wordHere_4 ?_
    refine m_ldcS F e_X10_wordHere_5 F.sw.1.2.2 ?_
    refine m_callO F e_X10_wordHere_7 (q_length (x_l X) V _ _) cb_J0_length_8abf5 ml_X10_132 im_J0_length_8abf5 se_J0_length_8abf5 F.sw.2.2.2.2.2.2.1 rfl (rest := [.int (nI k)]) rfl (Nat.le_of_ble_eq_true rfl) ⟨Nat.le_of_ble_eq_true rfl, Nat.le_of_ble_eq_true rfl⟩ ⟨Nat.le_of_ble_eq_true rfl, Nat.le_of_ble_eq_true rfl⟩ (k' := 0) (z' := 0) (N' := N) rfl rfl rfl (fun r σ7525 hp => ?_)
    obtain ⟨rfl, rfl⟩ := hp
    refine m_icmp_ge F e_X10_wordHere_10 (fun q10 => ?_) (fun q10 => ?_)
    · have c10 : k ≥ 48 := (nI_leI (a := 48) (b := k) (by omega) (by omega)).mp q10
      refine m_iconst F (v := (-1)) (by decide) e_X10_wordHere_123 ?_
      exact m_iret F hQ e_X10_wordHere_124 (⟨h1, _, rfl⟩)
    · have c10 : k < 48 := by have hh := mt (nI_leI (a := 48) (b := k) (by omega) (by omega)).mpr q10; omega
      refine m_iconst F (v := 0) (by decide) e_X10_wordHere_13 ?_
      refine m_istore_n F (lv' := [(3, .int 0), (0, .ref c), (1, .int n1), (2, .int (nI k))]) e_X10_wordHere_14 (by decide) rfl ?_
      refine Wm.lvsub (lv' := [(0, .ref c), (1, .int n1), (2, .int (nI k)), (3, .int 0)]) ?_ [1, 2, 3, 0] rfl
      exact lq_X10_wordHere_15 F hQ hob hP  ih (48 - 0 + 1) n1 k 0 _ h1 (by omega) (Nat.lt_succ_self _)
set_option maxRecDepth 20000 in
theorem q_X10_wordHere (l : Launch) (V : VX) (c T Z u h : Nat) (P : NP) (L : Nat → LQ) (N : Nat) (σ : Mem)  (h0 : HR V c ⟨T, Z, u, h, P, L⟩ σ) (hob : OKB L) (hP : OKP P)  : Ct l V yX10_wordHere cX10_wordHere 4 (some .int) 4 0 0 N σ [.ref c] (fun r τ => HS V c (⟨T, Z, u, h, P, L⟩ : RG) [0, 1, 2, 3, 4, 5, 6, 7, 8, 9, 10, 11, 12, 13, 14, 15, 16, 17, 18, 19, 20, 21, 22, 23] σ τ ∧ ∃ x : Int32, r = some (.int x)) := by
  refine Ct.of (by decide) (Nat.le_of_ble_eq_true rfl) [(0, .ref c)] rfl (fun X hX F hQ => ?_)
  have hPP := hP
  unfold OKP at hPP
  have h1 : HS V c ⟨T, Z, u, h, P, L⟩ [0, 1, 2, 3, 4, 5, 6, 7, 8, 9, 10, 11, 12, 13, 14, 15, 16, 17, 18, 19, 20, 21, 22, 23] σ σ := HS.start h0
  refine m_iconst F (v := 0) (by decide) e_X10_wordHere_0 ?_
  refine m_istore_n F (lv' := [(1, .int 0), (0, .ref c)]) e_X10_wordHere_1 (by decide) rfl ?_
  refine m_iconst F (v := 0) (by decide) e_X10_wordHere_2 ?_
  refine m_istore_n F (lv' := [(2, .int 0), (1, .int 0), (0, .ref c)]) e_X10_wordHere_3 (by decide) rfl ?_
  refine Wm.lvsub (lv' := [(0, .ref c), (1, .int 0), (2, .int 0)]) ?_ [2, 1, 0] rfl
  exact lq_X10_wordHere_4 F hQ hob hP  (48 - 0 + 1) 0 0 _ h1 (by omega) (Nat.lt_succ_self _)
set_option maxRecDepth 20000 in
theorem lq_X10_nameHere_7 {V : VX} {X : MX} {N : Nat} {σ : Mem} {c T Z u h : Nat} {P : NP} {L : Nat → LQ}   (F : Fx V X yX10_nameHere cX10_nameHere 2 none (rmd 0 0 0)) (hQ : Rt V X 0 0 N (fun r τ => HS V c (⟨T, Z, u, h, P, L⟩ : RG) [0, 2, 3, 4, 5, 6, 7, 8, 9, 10, 11, 12, 13, 14, 15, 16, 17, 18, 19, 20, 21, 22, 23] σ τ ∧ r = none)) (hob : OKB L) (hP : OKP P)   : ∀ (fuel : Nat) (i : Nat) (τ : Mem), HS V c (⟨T, Z, u, h, P, L⟩ : RG) [0, 2, 3, 4, 5, 6, 7, 8, 9, 10, 11, 12, 13, 14, 15, 16, 17, 18, 19, 20, 21, 22, 23] σ τ → i ≤ 6 → 6 - i < fuel → Wm V X 2 N τ 0 0 7 [(0, .ref c), (1, .int (nI i))] [] := by
  intro fuel
  induction fuel with
  | zero => intros; rename_i hm; exact absurd hm (Nat.not_lt_zero _)
  | succ fuel ih =>
    intro i τ h1 hi hm
    have hPP := hP
    unfold OKP at hPP
    refine m_iload_n F rfl e_X10_nameHere_7 ?_
    refine m_bipush F (v := 6) (by decide) e_X10_nameHere_8 ?_
    refine m_icmp_ge F e_X10_nameHere_10 (fun q10 => ?_) (fun q10 => ?_)
    · have c10 : i ≥ 6 := (nI_leI (a := 6) (b := i) (by omega) (by omega)).mp q10
      exact m_vret F hQ e_X10_nameHere_63 (⟨h1, rfl⟩)
    · have c10 : i < 6 := by have hh := mt (nI_leI (a := 6) (b := i) (by omega) (by omega)).mpr q10; omega
      refine m_aload_n F rfl e_X10_nameHere_13 ?_
      refine m_aload_n F rfl e_X10_nameHere_14 ?_
      refine r_get F e_X10_nameHere_15 fl_X10_120 h1 rfl (fun v hv f7526 => ?_)
      obtain ⟨x7527, rfl⟩ := hv
      refine m_iconst F (v := 5) (by decide) e_X10_nameHere_18 ?_
      refine m_ishl F e_X10_nameHere_19 ?_
      refine Wm.top (fun x7528 _ => ?_)
      refine m_aload_n F rfl e_X10_nameHere_20 ?_
      refine r_get F e_X10_nameHere_21 fl_X10_107 h1 rfl (fun v hv f7529 => ?_)
      obtain ⟨n7530, hn7530, rfl⟩ := hv
      replace hn7530 : n7530 ≤ 700 := hn7530
      refine m_iload_n F rfl e_X10_nameHere_24 ?_
      refine m_iadd F e_X10_nameHere_25 ?_
      refine Wm.topE (w := nI (n7530 + i)) (nI_add n7530 i) ?_
      refine m_aload_n F rfl e_X10_nameHere_26 ?_
      refine r_get F e_X10_nameHere_27 fl_X10_97 h1 rfl (fun v hv f7531 => ?_)
      obtain rfl : v = .int (nI (P.a)) := hv
      refine m_icmp_ge F e_X10_nameHere_30 (fun q30 => ?_) (fun q30 => ?_)
      · have c30 : (n7530 + i) ≥ P.a := (nI_leI (a := P.a) (b := (n7530 + i)) (by omega) (by omega)).mp q30
        refine m_iconst F (v := 0) (by decide) e_X10_nameHere_52 ?_
        refine m_ior F e_X10_nameHere_53 ?_
        refine Wm.top (fun x7532 _ => ?_)
        refine r_put F (g' := (⟨T, Z, u, h, P, L⟩ : RG)) e_X10_nameHere_54 fp_X10_120 h1 (by decide) ⟨_, rfl⟩ (fun _ _ _ _ q => q) (fun _ _ _ q => q) rfl rfl (by decide) (fun σ7533 h7534 g7535 g7536 f7537 => ?_)
        refine m_iinc F (v := nI (i + 1)) (lv' := [(1, .int (nI (i + 1))), (0, .ref c)]) e_X10_nameHere_57 rfl (nI_add i 1) (by decide) rfl ?_
        refine m_goto F e_X10_nameHere_60 ?_
        refine Wm.lvsub (lv' := [(0, .ref c), (1, .int (nI (i + 1)))]) ?_ [1, 0] rfl
        exact ih (i + 1) _ h7534 (by omega) (by omega)
      · have c30 : (n7530 + i) < P.a := by have hh := mt (nI_leI (a := P.a) (b := (n7530 + i)) (by omega) (by omega)).mpr q30; omega
        refine m_aload_n F rfl e_X10_nameHere_33 ?_
        refine r_get F e_X10_nameHere_34 fl_X10_7 h1 rfl (fun v hv f7538 => ?_)
        obtain rfl : v = .ref (c + 1) := hv
        refine m_aload_n F rfl e_X10_nameHere_37 ?_
        refine r_getC F e_X10_nameHere_38 fl_X10_107 h1 (f7529) ?_
        refine m_iload_n F rfl e_X10_nameHere_41 ?_
        refine m_iadd F e_X10_nameHere_42 ?_
        refine Wm.topE (w := nI (n7530 + i)) (nI_add n7530 i) ?_
        refine r_iald F (len := 700) (j := n7530 + i) e_X10_nameHere_43 h1 (fun _ h => h) (by decide) (nI_clamp (by omega)) (vp_in_nI (by omega) (by decide)) (fun x7539 h7540 f7541 => ?_)
        refine m_bipush F (v := 97) (by decide) e_X10_nameHere_44 ?_
        refine m_isub F e_X10_nameHere_46 ?_
        refine Wm.top (fun x7542 _ => ?_)
        refine m_iconst F (v := 1) (by decide) e_X10_nameHere_47 ?_
        refine m_iadd F e_X10_nameHere_48 ?_
        refine Wm.top (fun x7543 _ => ?_)
        refine m_goto F e_X10_nameHere_49 ?_
        refine m_ior F e_X10_nameHere_53 ?_
        refine Wm.top (fun x7544 _ => ?_)
        refine r_put F (g' := (⟨T, Z, u, h, P, L⟩ : RG)) e_X10_nameHere_54 fp_X10_120 h1 (by decide) ⟨_, rfl⟩ (fun _ _ _ _ q => q) (fun _ _ _ q => q) rfl rfl (by decide) (fun σ7545 h7546 g7547 g7548 f7549 => ?_)
        refine m_iinc F (v := nI (i + 1)) (lv' := [(1, .int (nI (i + 1))), (0, .ref c)]) e_X10_nameHere_57 rfl (nI_add i 1) (by decide) rfl ?_
        refine m_goto F e_X10_nameHere_60 ?_
        refine Wm.lvsub (lv' := [(0, .ref c), (1, .int (nI (i + 1)))]) ?_ [1, 0] rfl
        exact ih (i + 1) _ h7546 (by omega) (by omega)
set_option maxRecDepth 20000 in
theorem q_X10_nameHere (l : Launch) (V : VX) (c T Z u h : Nat) (P : NP) (L : Nat → LQ) (N : Nat) (σ : Mem)  (h0 : HR V c ⟨T, Z, u, h, P, L⟩ σ) (hob : OKB L) (hP : OKP P)  : Ct l V yX10_nameHere cX10_nameHere 2 none 0 0 0 N σ [.ref c] (fun r τ => HS V c (⟨T, Z, u, h, P, L⟩ : RG) [0, 2, 3, 4, 5, 6, 7, 8, 9, 10, 11, 12, 13, 14, 15, 16, 17, 18, 19, 20, 21, 22, 23] σ τ ∧ r = none) := by
  refine Ct.of (by decide) (Nat.le_of_ble_eq_true rfl) [(0, .ref c)] rfl (fun X hX F hQ => ?_)
  have hPP := hP
  unfold OKP at hPP
  have h1 : HS V c ⟨T, Z, u, h, P, L⟩ [0, 2, 3, 4, 5, 6, 7, 8, 9, 10, 11, 12, 13, 14, 15, 16, 17, 18, 19, 20, 21, 22, 23] σ σ := HS.start h0
  refine m_aload_n F rfl e_X10_nameHere_0 ?_
  refine m_iconst F (v := 0) (by decide) e_X10_nameHere_1 ?_
  refine r_put F (g' := (⟨T, Z, u, h, P, L⟩ : RG)) e_X10_nameHere_2 fp_X10_120 h1 (by decide) ⟨_, rfl⟩ (fun _ _ _ _ q => q) (fun _ _ _ q => q) rfl rfl (by decide) (fun σ7550 h7551 g7552 g7553 f7554 => ?_)
  refine m_iconst F (v := 0) (by decide) e_X10_nameHere_5 ?_
  refine m_istore_n F (lv' := [(1, .int 0), (0, .ref c)]) e_X10_nameHere_6 (by decide) rfl ?_
  refine Wm.lvsub (lv' := [(0, .ref c), (1, .int 0)]) ?_ [1, 0] rfl
  exact lq_X10_nameHere_7 F hQ hob hP  (6 - 0 + 1) 0 _ h7551 (by omega) (Nat.lt_succ_self _)
set_option maxRecDepth 20000 in
theorem lq_X10_token_162 {V : VX} {X : MX} {N : Nat} {σ : Mem} {c T Z u h : Nat} {P : NP} {L : Nat → LQ}   (F : Fx V X yX10_token cX10_token 2 none (rmd 5 0 0)) (hQ : Rt V X 0 0 N (fun r τ => ∃ P9 : NP, OKP P9 ∧ RA P P9 ∧ (fld τ c 21 = some (.int 4) ∨ P.a < P9.a) ∧ HS V c (⟨T, Z, u, h, P9, L⟩ : RG) [0, 2, 3, 4, 5, 6, 7, 8, 9, 10, 11, 12, 13, 14, 15, 16, 17, 18, 19, 20, 21, 22, 23] σ τ ∧ r = none)) (hob : OKB L) (hP : OKP P)   : ∀ (fuel : Nat)  (P1 : NP) (τ : Mem), HS V c (⟨T, Z, u, h, P1, L⟩ : RG) [0, 2, 3, 4, 5, 6, 7, 8, 9, 10, 11, 12, 13, 14, 15, 16, 17, 18, 19, 20, 21, 22, 23] σ τ → OKP P1 → RA P P1 → P.a < P1.a → 700 - P1.a < fuel → Wm V X 2 N τ 0 0 162 [(0, .ref c)] [] := by
  intro fuel
  induction fuel with
  | zero => intros; rename_i hm; exact absurd hm (Nat.not_lt_zero _)
  | succ fuel ih =>
    intro  P1 τ h1 hP1 hR1 hi hm
    have hPP := hP
    unfold OKP at hPP
    have hPP1 := hP1
    unfold OKP at hPP1
    unfold RA at hR1
    refine m_aload_n F rfl e_X10_token_162 ?_
    refine r_callV F e_X10_token_163 (q_X10_here (x_l X) V c T Z u h P1 L _ _  h1.1 (hob) hP1 ) cb_X10_here ml_X10_103 im_X10_here se_X10_here h1 rfl rfl (rest := []) rfl (Nat.le_of_ble_eq_true rfl) ⟨Nat.le_of_ble_eq_true rfl, Nat.le_of_ble_eq_true rfl⟩ ⟨Nat.le_of_ble_eq_true rfl, Nat.le_of_ble_eq_true rfl⟩ (fun r σ7555 hp => ?_)
    obtain ⟨h7556, x7558, gex7558, rfl⟩ := hp
    have h7557 := HS.trans h1 h7556 (by decide)
    refine m_callS F e_X10_token_166 (q_X10_isDigit2 (x_l X) V _ _ x7558 ) cb_X10_isDigit ml_X10_126 sm_X10_isDigit rfl (rest := []) rfl (Nat.le_of_ble_eq_true rfl) ⟨Nat.le_of_ble_eq_true rfl, Nat.le_of_ble_eq_true rfl⟩ ⟨Nat.le_of_ble_eq_true rfl, Nat.le_of_ble_eq_true rfl⟩ (k' := 0) (z' := 0) (N' := N) rfl rfl rfl (fun r σ7559 hp => ?_)
    obtain ⟨rfl, c7562⟩ := hp
    rcases c7562 with ⟨g7563, rfl⟩ | ⟨g7563, rfl⟩
    · refine m_if_eq F e_X10_token_169 (fun _ => ?_) (fun q => absurd (by decide) q)
      exact m_vret F hQ e_X10_token_245 (⟨P1, hP1, (by unfold RA; omega), (Or.inr (by omega)), h7557, rfl⟩)
    · refine m_if_eq F e_X10_token_169 (fun q => absurd q (by decide)) (fun _ => ?_)
      have ha7564 := gex7558.lt (fun e => g7563.1 (by rw [e]; decide))
      have ha7565 := gex7558.lt (fun e => g7563.1 (by rw [e]; decide))
      have ha7566 := gex7558.lt (fun e => g7563.1 (by rw [e]; decide))
      refine m_aload_n F rfl e_X10_token_172 ?_
      refine m_aload_n F rfl e_X10_token_173 ?_
      refine r_get F e_X10_token_174 fl_X10_120 h7557 rfl (fun v hv f7567 => ?_)
      obtain ⟨x7568, rfl⟩ := hv
      refine m_ldc F kc_X10_129 e_X10_token_177 ?_
      refine m_icmp_le F e_X10_token_179 (fun q179 => ?_) (fun q179 => ?_)
      · refine m_bipush F (v := 10) (by decide) e_X10_token_189 ?_
        refine m_aload_n F rfl e_X10_token_191 ?_
        refine r_getC F e_X10_token_192 fl_X10_120 h7557 (f7567) ?_
        refine m_imul F e_X10_token_195 ?_
        refine Wm.top (fun x7569 _ => ?_)
        refine m_aload_n F rfl e_X10_token_196 ?_
        refine r_callV F e_X10_token_197 (q_X10_here (x_l X) V c T Z u h P1 L _ _  h7557.1 (hob) hP1 ) cb_X10_here ml_X10_103 im_X10_here se_X10_here h7557 rfl rfl (rest := [.int x7569, .ref c]) rfl (Nat.le_of_ble_eq_true rfl) ⟨Nat.le_of_ble_eq_true rfl, Nat.le_of_ble_eq_true rfl⟩ ⟨Nat.le_of_ble_eq_true rfl, Nat.le_of_ble_eq_true rfl⟩ (fun r σ7570 hp => ?_)
        obtain ⟨h7571, x7573, gex7573, rfl⟩ := hp
        have h7572 := HS.trans h7557 h7571 (by decide)
        have he7574 := gex7558.of (fld_eq (h7571.2 c (by rw [show kC c c = 1 from kC_at (k := 0) (by decide)]; decide))) (elI_eq (h7571.2 (c + 1) (by rw [kC_at (k := 1) (by decide)]; decide)))
        obtain rfl : x7558 = x7573 := HE.uniq he7574 gex7573
        refine m_iadd F e_X10_token_200 ?_
        refine Wm.top (fun x7575 _ => ?_)
        refine m_bipush F (v := 48) (by decide) e_X10_token_201 ?_
        refine m_isub F e_X10_token_203 ?_
        refine Wm.top (fun x7576 _ => ?_)
        refine r_put F (g' := (⟨T, Z, u, h, P1, L⟩ : RG)) e_X10_token_204 fp_X10_120 h7572 (by decide) ⟨_, rfl⟩ (fun _ _ _ _ q => q) (fun _ _ _ q => q) rfl rfl (by decide) (fun σ7577 h7578 g7579 g7580 f7581 => ?_)
        have he7582 := gex7573.of (g7580 18 (by decide)) (elI_eq (g7579 _ (by omega)))
        refine m_aload_n F rfl e_X10_token_207 ?_
        refine m_dup F rfl e_X10_token_208 ?_
        refine r_get F e_X10_token_209 fl_X10_97 h7578 rfl (fun v hv f7583 => ?_)
        obtain rfl : v = .int (nI (P1.a)) := hv
        refine m_iconst F (v := 1) (by decide) e_X10_token_212 ?_
        refine m_iadd F e_X10_token_213 ?_
        refine Wm.topE (w := nI (P1.a + 1)) (nI_add P1.a 1) ?_
        refine r_put F (g' := (⟨T, Z, u, h, (mkP P1.n0 P1.n2 P1.n5 P1.n7 P1.m0 P1.m5 P1.w2 P1.w7 P1.kk (P1.a + 1) P1.f P1.p), L⟩ : RG)) e_X10_token_214 fp_X10_97 h7578 (by decide) rfl ctl_a CR.setA rfl rfl (by decide) (fun σ7584 h7585 g7586 g7587 f7588 => ?_)
        obtain ⟨P7589, eP7589⟩ : ∃ P9, P9 = (mkP P1.n0 P1.n2 P1.n5 P1.n7 P1.m0 P1.m5 P1.w2 P1.w7 P1.kk (P1.a + 1) P1.f P1.p) := ⟨_, rfl⟩
        rw [← eP7589] at h7585
        have fP7589 : P7589.n0 = P1.n0 ∧ P7589.n2 = P1.n2 ∧ P7589.n5 = P1.n5 ∧ P7589.n7 = P1.n7 ∧ P7589.m0 = P1.m0 ∧ P7589.m5 = P1.m5 ∧ P7589.w2 = P1.w2 ∧ P7589.w7 = P1.w7 ∧ P7589.kk = P1.kk ∧ P7589.a = P1.a + 1 ∧ P7589.f = P1.f ∧ P7589.p = P1.p := by rw [eP7589]; exact ⟨rfl, rfl, rfl, rfl, rfl, rfl, rfl, rfl, rfl, rfl, rfl, rfl⟩
        have he7590 := he7582.of (g7587 18 (by decide)) (elI_eq (g7586 _ (by omega)))
        refine m_goto F e_X10_token_217 ?_
        have oP7591 : OKP P7589 := by unfold OKP; omega
        exact ih  P7589 _ h7585 oP7591 (by unfold RA; omega) (by omega) (by omega)
      · obtain ⟨n7592, hn7592, rfl⟩ := nI_nn (x := x7568) (fun e => q179 (Int32.le_trans (Int32.le_of_lt e) (by decide)))
        have c179 : n7592 > 9999999 := by have hh := mt (nI_leI (a := n7592) (b := 9999999) (by omega) (by omega)).mpr q179; omega
        refine m_aload_n F rfl e_X10_token_182 ?_
        refine r_getC F e_X10_token_183 fl_X10_120 h7557 (f7567) ?_
        refine m_goto F e_X10_token_186 ?_
        refine r_put F (g' := (⟨T, Z, u, h, P1, L⟩ : RG)) e_X10_token_204 fp_X10_120 h7557 (by decide) ⟨_, rfl⟩ (fun _ _ _ _ q => q) (fun _ _ _ q => q) rfl rfl (by decide) (fun σ7593 h7594 g7595 g7596 f7597 => ?_)
        have he7598 := gex7558.of (g7596 18 (by decide)) (elI_eq (g7595 _ (by omega)))
        refine m_aload_n F rfl e_X10_token_207 ?_
        refine m_dup F rfl e_X10_token_208 ?_
        refine r_get F e_X10_token_209 fl_X10_97 h7594 rfl (fun v hv f7599 => ?_)
        obtain rfl : v = .int (nI (P1.a)) := hv
        refine m_iconst F (v := 1) (by decide) e_X10_token_212 ?_
        refine m_iadd F e_X10_token_213 ?_
        refine Wm.topE (w := nI (P1.a + 1)) (nI_add P1.a 1) ?_
        refine r_put F (g' := (⟨T, Z, u, h, (mkP P1.n0 P1.n2 P1.n5 P1.n7 P1.m0 P1.m5 P1.w2 P1.w7 P1.kk (P1.a + 1) P1.f P1.p), L⟩ : RG)) e_X10_token_214 fp_X10_97 h7594 (by decide) rfl ctl_a CR.setA rfl rfl (by decide) (fun σ7600 h7601 g7602 g7603 f7604 => ?_)
        obtain ⟨P7605, eP7605⟩ : ∃ P9, P9 = (mkP P1.n0 P1.n2 P1.n5 P1.n7 P1.m0 P1.m5 P1.w2 P1.w7 P1.kk (P1.a + 1) P1.f P1.p) := ⟨_, rfl⟩
        rw [← eP7605] at h7601
        have fP7605 : P7605.n0 = P1.n0 ∧ P7605.n2 = P1.n2 ∧ P7605.n5 = P1.n5 ∧ P7605.n7 = P1.n7 ∧ P7605.m0 = P1.m0 ∧ P7605.m5 = P1.m5 ∧ P7605.w2 = P1.w2 ∧ P7605.w7 = P1.w7 ∧ P7605.kk = P1.kk ∧ P7605.a = P1.a + 1 ∧ P7605.f = P1.f ∧ P7605.p = P1.p := by rw [eP7605]; exact ⟨rfl, rfl, rfl, rfl, rfl, rfl, rfl, rfl, rfl, rfl, rfl, rfl⟩
        have he7606 := he7598.of (g7603 18 (by decide)) (elI_eq (g7602 _ (by omega)))
        refine m_goto F e_X10_token_217 ?_
        have oP7607 : OKP P7605 := by unfold OKP; omega
        exact ih  P7605 _ h7601 oP7607 (by unfold RA; omega) (by omega) (by omega)
set_option maxRecDepth 20000 in
theorem lq_X10_token_64 {V : VX} {X : MX} {N : Nat} {σ : Mem} {c T Z u h : Nat} {P : NP} {L : Nat → LQ}   (F : Fx V X yX10_token cX10_token 2 none (rmd 5 0 0)) (hQ : Rt V X 0 0 N (fun r τ => ∃ P9 : NP, OKP P9 ∧ RA P P9 ∧ (fld τ c 21 = some (.int 4) ∨ P.a < P9.a) ∧ HS V c (⟨T, Z, u, h, P9, L⟩ : RG) [0, 2, 3, 4, 5, 6, 7, 8, 9, 10, 11, 12, 13, 14, 15, 16, 17, 18, 19, 20, 21, 22, 23] σ τ ∧ r = none)) (hob : OKB L) (hP : OKP P)   : ∀ (fuel : Nat)  (P1 : NP) (τ : Mem), HS V c (⟨T, Z, u, h, P1, L⟩ : RG) [0, 2, 3, 4, 5, 6, 7, 8, 9, 10, 11, 12, 13, 14, 15, 16, 17, 18, 19, 20, 21, 22, 23] σ τ → OKP P1 → RA P P1 → P.a < P1.a → 700 - P1.a < fuel → Wm V X 2 N τ 0 0 64 [(0, .ref c)] [] := by
  intro fuel
  induction fuel with
  | zero => intros; rename_i hm; exact absurd hm (Nat.not_lt_zero _)
  | succ fuel ih =>
    intro  P1 τ h1 hP1 hR1 hi hm
    have hPP := hP
    unfold OKP at hPP
    have hPP1 := hP1
    unfold OKP at hPP1
    unfold RA at hR1
    refine m_aload_n F rfl e_X10_token_64 ?_
    refine r_callV F e_X10_token_65 (q_X10_here (x_l X) V c T Z u h P1 L _ _  h1.1 (hob) hP1 ) cb_X10_here ml_X10_103 im_X10_here se_X10_here h1 rfl rfl (rest := []) rfl (Nat.le_of_ble_eq_true rfl) ⟨Nat.le_of_ble_eq_true rfl, Nat.le_of_ble_eq_true rfl⟩ ⟨Nat.le_of_ble_eq_true rfl, Nat.le_of_ble_eq_true rfl⟩ (fun r σ7608 hp => ?_)
    obtain ⟨h7609, x7611, gex7611, rfl⟩ := hp
    have h7610 := HS.trans h1 h7609 (by decide)
    refine m_callS F e_X10_token_68 (q_X10_isSmall2 (x_l X) V _ _ x7611 ) cb_X10_isSmall ml_X10_113 sm_X10_isSmall rfl (rest := []) rfl (Nat.le_of_ble_eq_true rfl) ⟨Nat.le_of_ble_eq_true rfl, Nat.le_of_ble_eq_true rfl⟩ ⟨Nat.le_of_ble_eq_true rfl, Nat.le_of_ble_eq_true rfl⟩ (k' := 0) (z' := 0) (N' := N) rfl rfl rfl (fun r σ7612 hp => ?_)
    obtain ⟨rfl, c7615⟩ := hp
    rcases c7615 with ⟨g7616, rfl⟩ | ⟨g7616, rfl⟩
    · refine m_if_eq F e_X10_token_71 (fun _ => ?_) (fun q => absurd (by decide) q)
      refine m_aload_n F rfl e_X10_token_87 ?_
      refine m_aload_n F rfl e_X10_token_88 ?_
      refine r_callV F e_X10_token_89 (q_X10_wordHere (x_l X) V c T Z u h P1 L _ _  h7610.1 (hob) hP1 ) cb_X10_wordHere ml_X10_117 im_X10_wordHere se_X10_wordHere h7610 rfl rfl (rest := [.ref c]) rfl (Nat.le_of_ble_eq_true rfl) ⟨Nat.le_of_ble_eq_true rfl, Nat.le_of_ble_eq_true rfl⟩ ⟨Nat.le_of_ble_eq_true rfl, Nat.le_of_ble_eq_true rfl⟩ (fun r σ7617 hp => ?_)
      obtain ⟨h7618, x7620, rfl⟩ := hp
      have h7619 := HS.trans h7610 h7618 (by decide)
      have he7621 := gex7611.of (fld_eq (h7618.2 c (by rw [show kC c c = 1 from kC_at (k := 0) (by decide)]; decide))) (elI_eq (h7618.2 (c + 1) (by rw [kC_at (k := 1) (by decide)]; decide)))
      refine r_put F (g' := (⟨T, Z, u, h, P1, L⟩ : RG)) e_X10_token_92 fp_X10_120 h7619 (by decide) ⟨_, rfl⟩ (fun _ _ _ _ q => q) (fun _ _ _ q => q) rfl rfl (by decide) (fun σ7622 h7623 g7624 g7625 f7626 => ?_)
      have he7627 := he7621.of (g7625 18 (by decide)) (elI_eq (g7624 _ (by omega)))
      refine m_aload_n F rfl e_X10_token_95 ?_
      refine m_aload_n F rfl e_X10_token_96 ?_
      refine r_getC F e_X10_token_97 fl_X10_120 h7623 (f7626) ?_
      refine m_iconst F (v := (-1)) (by decide) e_X10_token_100 ?_
      refine m_icmp_eq F e_X10_token_101 (fun q101 => ?_) (fun q101 => ?_)
      · subst q101
        refine m_aload_n F rfl e_X10_token_108 ?_
        refine r_get F e_X10_token_109 fl_X10_97 h7623 rfl (fun v hv f7628 => ?_)
        obtain rfl : v = .int (nI (P1.a)) := hv
        refine m_aload_n F rfl e_X10_token_112 ?_
        refine r_get F e_X10_token_113 fl_X10_107 h7623 rfl (fun v hv f7629 => ?_)
        obtain ⟨n7630, hn7630, rfl⟩ := hv
        replace hn7630 : n7630 ≤ 700 := hn7630
        refine m_isub F e_X10_token_116 ?_
        refine Wm.top (fun x7631 _ => ?_)
        refine m_bipush F (v := 6) (by decide) e_X10_token_117 ?_
        refine m_icmp_le F e_X10_token_119 (fun q119 => ?_) (fun q119 => ?_)
        · refine m_iconst F (v := 1) (by decide) e_X10_token_126 ?_
          refine r_put F (g' := (⟨T, Z, u, h, P1, L⟩ : RG)) e_X10_token_127 fp_X10_110 h7623 (by decide) ⟨_, rfl⟩ (fun _ _ _ _ q => q) (fun _ _ _ q => q) rfl rfl (by decide) (fun σ7632 h7633 g7634 g7635 f7636 => ?_)
          have he7637 := he7627.of (g7635 18 (by decide)) (elI_eq (g7634 _ (by omega)))
          refine m_aload_n F rfl e_X10_token_130 ?_
          refine r_getC F e_X10_token_131 fl_X10_110 h7633 (f7636) ?_
          refine m_iconst F (v := 1) (by decide) e_X10_token_134 ?_
          refine m_icmp_ne F e_X10_token_135 (fun q => absurd (by decide) q) (fun _ => ?_)
          refine m_aload_n F rfl e_X10_token_138 ?_
          refine r_callV F e_X10_token_139 (q_X10_nameHere (x_l X) V c T Z u h P1 L _ _  h7633.1 (hob) hP1 ) cb_X10_nameHere ml_X10_123 im_X10_nameHere se_X10_nameHere h7633 rfl rfl (rest := []) rfl (Nat.le_of_ble_eq_true rfl) ⟨Nat.le_of_ble_eq_true rfl, Nat.le_of_ble_eq_true rfl⟩ ⟨Nat.le_of_ble_eq_true rfl, Nat.le_of_ble_eq_true rfl⟩ (fun r σ7638 hp => ?_)
          obtain ⟨h7639, rfl⟩ := hp
          have h7640 := HS.trans h7633 h7639 (by decide)
          refine m_goto F e_X10_token_142 ?_
          exact m_vret F hQ e_X10_token_245 (⟨P1, hP1, (by unfold RA; omega), (Or.inr (by omega)), h7640, rfl⟩)
        · obtain ⟨n7641, hn7641, rfl⟩ := nI_nn (x := x7631) (fun e => q119 (Int32.le_trans (Int32.le_of_lt e) (by decide)))
          have c119 : n7641 > 6 := by have hh := mt (nI_leI (a := n7641) (b := 6) (by omega) (by omega)).mpr q119; omega
          refine m_iconst F (v := 5) (by decide) e_X10_token_122 ?_
          refine m_goto F e_X10_token_123 ?_
          refine r_put F (g' := (⟨T, Z, u, h, P1, L⟩ : RG)) e_X10_token_127 fp_X10_110 h7623 (by decide) ⟨_, rfl⟩ (fun _ _ _ _ q => q) (fun _ _ _ q => q) rfl rfl (by decide) (fun σ7642 h7643 g7644 g7645 f7646 => ?_)
          have he7647 := he7627.of (g7645 18 (by decide)) (elI_eq (g7644 _ (by omega)))
          refine m_aload_n F rfl e_X10_token_130 ?_
          refine r_getC F e_X10_token_131 fl_X10_110 h7643 (f7646) ?_
          refine m_iconst F (v := 1) (by decide) e_X10_token_134 ?_
          refine m_icmp_ne F e_X10_token_135 (fun _ => ?_) (fun q => absurd q (by decide))
          exact m_vret F hQ e_X10_token_245 (⟨P1, hP1, (by unfold RA; omega), (Or.inr (by omega)), h7643, rfl⟩)
      · refine m_iconst F (v := 0) (by decide) e_X10_token_104 ?_
        refine m_goto F e_X10_token_105 ?_
        refine r_put F (g' := (⟨T, Z, u, h, P1, L⟩ : RG)) e_X10_token_127 fp_X10_110 h7623 (by decide) ⟨_, rfl⟩ (fun _ _ _ _ q => q) (fun _ _ _ q => q) rfl rfl (by decide) (fun σ7648 h7649 g7650 g7651 f7652 => ?_)
        have he7653 := he7627.of (g7651 18 (by decide)) (elI_eq (g7650 _ (by omega)))
        refine m_aload_n F rfl e_X10_token_130 ?_
        refine r_getC F e_X10_token_131 fl_X10_110 h7649 (f7652) ?_
        refine m_iconst F (v := 1) (by decide) e_X10_token_134 ?_
        refine m_icmp_ne F e_X10_token_135 (fun _ => ?_) (fun q => absurd q (by decide))
        exact m_vret F hQ e_X10_token_245 (⟨P1, hP1, (by unfold RA; omega), (Or.inr (by omega)), h7649, rfl⟩)
    · refine m_if_eq F e_X10_token_71 (fun q => absurd q (by decide)) (fun _ => ?_)
      have ha7654 := gex7611.lt (fun e => g7616.1 (by rw [e]; decide))
      have ha7655 := gex7611.lt (fun e => g7616.1 (by rw [e]; decide))
      have ha7656 := gex7611.lt (fun e => g7616.1 (by rw [e]; decide))
      refine m_aload_n F rfl e_X10_token_74 ?_
      refine m_dup F rfl e_X10_token_75 ?_
      refine r_get F e_X10_token_76 fl_X10_97 h7610 rfl (fun v hv f7657 => ?_)
      obtain rfl : v = .int (nI (P1.a)) := hv
      refine m_iconst F (v := 1) (by decide) e_X10_token_79 ?_
      refine m_iadd F e_X10_token_80 ?_
      refine Wm.topE (w := nI (P1.a + 1)) (nI_add P1.a 1) ?_
      refine r_put F (g' := (⟨T, Z, u, h, (mkP P1.n0 P1.n2 P1.n5 P1.n7 P1.m0 P1.m5 P1.w2 P1.w7 P1.kk (P1.a + 1) P1.f P1.p), L⟩ : RG)) e_X10_token_81 fp_X10_97 h7610 (by decide) rfl ctl_a CR.setA rfl rfl (by decide) (fun σ7658 h7659 g7660 g7661 f7662 => ?_)
      obtain ⟨P7663, eP7663⟩ : ∃ P9, P9 = (mkP P1.n0 P1.n2 P1.n5 P1.n7 P1.m0 P1.m5 P1.w2 P1.w7 P1.kk (P1.a + 1) P1.f P1.p) := ⟨_, rfl⟩
      rw [← eP7663] at h7659
      have fP7663 : P7663.n0 = P1.n0 ∧ P7663.n2 = P1.n2 ∧ P7663.n5 = P1.n5 ∧ P7663.n7 = P1.n7 ∧ P7663.m0 = P1.m0 ∧ P7663.m5 = P1.m5 ∧ P7663.w2 = P1.w2 ∧ P7663.w7 = P1.w7 ∧ P7663.kk = P1.kk ∧ P7663.a = P1.a + 1 ∧ P7663.f = P1.f ∧ P7663.p = P1.p := by rw [eP7663]; exact ⟨rfl, rfl, rfl, rfl, rfl, rfl, rfl, rfl, rfl, rfl, rfl, rfl⟩
      have he7664 := gex7611.of (g7661 18 (by decide)) (elI_eq (g7660 _ (by omega)))
      refine m_goto F e_X10_token_84 ?_
      have oP7665 : OKP P7663 := by unfold OKP; omega
      exact ih  P7663 _ h7659 oP7665 (by unfold RA; omega) (by omega) (by omega)
set_option maxRecDepth 20000 in
theorem lq_X10_token_0 {V : VX} {X : MX} {N : Nat} {σ : Mem} {c T Z u h : Nat} {P : NP} {L : Nat → LQ}   (F : Fx V X yX10_token cX10_token 2 none (rmd 5 0 0)) (hQ : Rt V X 0 0 N (fun r τ => ∃ P9 : NP, OKP P9 ∧ RA P P9 ∧ (fld τ c 21 = some (.int 4) ∨ P.a < P9.a) ∧ HS V c (⟨T, Z, u, h, P9, L⟩ : RG) [0, 2, 3, 4, 5, 6, 7, 8, 9, 10, 11, 12, 13, 14, 15, 16, 17, 18, 19, 20, 21, 22, 23] σ τ ∧ r = none)) (hob : OKB L) (hP : OKP P)   : ∀ (fuel : Nat)  (P1 : NP) (τ : Mem), HS V c (⟨T, Z, u, h, P1, L⟩ : RG) [0, 2, 3, 4, 5, 6, 7, 8, 9, 10, 11, 12, 13, 14, 15, 16, 17, 18, 19, 20, 21, 22, 23] σ τ → OKP P1 → RA P P1 → True → 700 - P1.a < fuel → Wm V X 2 N τ 0 0 0 [(0, .ref c)] [] := by
  intro fuel
  induction fuel with
  | zero => intros; rename_i hm; exact absurd hm (Nat.not_lt_zero _)
  | succ fuel ih =>
    intro  P1 τ h1 hP1 hR1 hi hm
    have hPP := hP
    unfold OKP at hPP
    have hPP1 := hP1
    unfold OKP at hPP1
    unfold RA at hR1
    refine m_aload_n F rfl e_X10_token_0 ?_
    refine r_callV F e_X10_token_1 (q_X10_here (x_l X) V c T Z u h P1 L _ _  h1.1 (hob) hP1 ) cb_X10_here ml_X10_103 im_X10_here se_X10_here h1 rfl rfl (rest := []) rfl (Nat.le_of_ble_eq_true rfl) ⟨Nat.le_of_ble_eq_true rfl, Nat.le_of_ble_eq_true rfl⟩ ⟨Nat.le_of_ble_eq_true rfl, Nat.le_of_ble_eq_true rfl⟩ (fun r σ7666 hp => ?_)
    obtain ⟨h7667, x7669, gex7669, rfl⟩ := hp
    have h7668 := HS.trans h1 h7667 (by decide)
    refine m_bipush F (v := 10) (by decide) e_X10_token_4 ?_
    refine m_icmp_eq F e_X10_token_6 (fun q6 => ?_) (fun q6 => ?_)
    · subst q6
      have ha7670 := gex7669.lt (by decide)
      refine m_aload_n F rfl e_X10_token_18 ?_
      refine m_dup F rfl e_X10_token_19 ?_
      refine r_get F e_X10_token_20 fl_X10_97 h7668 rfl (fun v hv f7671 => ?_)
      obtain rfl : v = .int (nI (P1.a)) := hv
      refine m_iconst F (v := 1) (by decide) e_X10_token_23 ?_
      refine m_iadd F e_X10_token_24 ?_
      refine Wm.topE (w := nI (P1.a + 1)) (nI_add P1.a 1) ?_
      refine r_put F (g' := (⟨T, Z, u, h, (mkP P1.n0 P1.n2 P1.n5 P1.n7 P1.m0 P1.m5 P1.w2 P1.w7 P1.kk (P1.a + 1) P1.f P1.p), L⟩ : RG)) e_X10_token_25 fp_X10_97 h7668 (by decide) rfl ctl_a CR.setA rfl rfl (by decide) (fun σ7672 h7673 g7674 g7675 f7676 => ?_)
      obtain ⟨P7677, eP7677⟩ : ∃ P9, P9 = (mkP P1.n0 P1.n2 P1.n5 P1.n7 P1.m0 P1.m5 P1.w2 P1.w7 P1.kk (P1.a + 1) P1.f P1.p) := ⟨_, rfl⟩
      rw [← eP7677] at h7673
      have fP7677 : P7677.n0 = P1.n0 ∧ P7677.n2 = P1.n2 ∧ P7677.n5 = P1.n5 ∧ P7677.n7 = P1.n7 ∧ P7677.m0 = P1.m0 ∧ P7677.m5 = P1.m5 ∧ P7677.w2 = P1.w2 ∧ P7677.w7 = P1.w7 ∧ P7677.kk = P1.kk ∧ P7677.a = P1.a + 1 ∧ P7677.f = P1.f ∧ P7677.p = P1.p := by rw [eP7677]; exact ⟨rfl, rfl, rfl, rfl, rfl, rfl, rfl, rfl, rfl, rfl, rfl, rfl⟩
      have he7678 := gex7669.of (g7675 18 (by decide)) (elI_eq (g7674 _ (by omega)))
      refine m_goto F e_X10_token_28 ?_
      have oP7679 : OKP P7677 := by unfold OKP; omega
      exact ih  P7677 _ h7673 oP7679 (by unfold RA; omega) trivial (by omega)
    · refine m_aload_n F rfl e_X10_token_9 ?_
      refine r_callV F e_X10_token_10 (q_X10_here (x_l X) V c T Z u h P1 L _ _  h7668.1 (hob) hP1 ) cb_X10_here ml_X10_103 im_X10_here se_X10_here h7668 rfl rfl (rest := []) rfl (Nat.le_of_ble_eq_true rfl) ⟨Nat.le_of_ble_eq_true rfl, Nat.le_of_ble_eq_true rfl⟩ ⟨Nat.le_of_ble_eq_true rfl, Nat.le_of_ble_eq_true rfl⟩ (fun r σ7680 hp => ?_)
      obtain ⟨h7681, x7683, gex7683, rfl⟩ := hp
      have h7682 := HS.trans h7668 h7681 (by decide)
      have he7684 := gex7669.of (fld_eq (h7681.2 c (by rw [show kC c c = 1 from kC_at (k := 0) (by decide)]; decide))) (elI_eq (h7681.2 (c + 1) (by rw [kC_at (k := 1) (by decide)]; decide)))
      obtain rfl : x7669 = x7683 := HE.uniq he7684 gex7683
      refine m_bipush F (v := 32) (by decide) e_X10_token_13 ?_
      refine m_icmp_ne F e_X10_token_15 (fun q15 => ?_) (fun q15 => ?_)
      · refine m_aload_n F rfl e_X10_token_31 ?_
        refine m_aload_n F rfl e_X10_token_32 ?_
        refine r_get F e_X10_token_33 fl_X10_97 h7682 rfl (fun v hv f7685 => ?_)
        obtain rfl : v = .int (nI (P1.a)) := hv
        refine r_put F (g' := (⟨T, Z, u, h, P1, L⟩ : RG)) e_X10_token_36 fp_X10_107 h7682 (by decide) ⟨P1.a, (show P1.a ≤ 700 by omega), rfl⟩ (fun _ _ _ _ q => q) (fun _ _ _ q => q) rfl rfl (by decide) (fun σ7686 h7687 g7688 g7689 f7690 => ?_)
        have he7691 := gex7683.of (g7689 18 (by decide)) (elI_eq (g7688 _ (by omega)))
        refine m_aload_n F rfl e_X10_token_39 ?_
        refine r_callV F e_X10_token_40 (q_X10_here (x_l X) V c T Z u h P1 L _ _  h7687.1 (hob) hP1 ) cb_X10_here ml_X10_103 im_X10_here se_X10_here h7687 rfl rfl (rest := []) rfl (Nat.le_of_ble_eq_true rfl) ⟨Nat.le_of_ble_eq_true rfl, Nat.le_of_ble_eq_true rfl⟩ ⟨Nat.le_of_ble_eq_true rfl, Nat.le_of_ble_eq_true rfl⟩ (fun r σ7692 hp => ?_)
        obtain ⟨h7693, x7695, gex7695, rfl⟩ := hp
        have h7694 := HS.trans h7687 h7693 (by decide)
        have he7696 := he7691.of (fld_eq (h7693.2 c (by rw [show kC c c = 1 from kC_at (k := 0) (by decide)]; decide))) (elI_eq (h7693.2 (c + 1) (by rw [kC_at (k := 1) (by decide)]; decide)))
        obtain rfl : x7669 = x7695 := HE.uniq he7696 gex7695
        refine m_istore_n F (lv' := [(1, .int x7669), (0, .ref c)]) e_X10_token_43 (by decide) rfl ?_
        refine m_iload_n F rfl e_X10_token_44 ?_
        refine m_iconst F (v := (-1)) (by decide) e_X10_token_45 ?_
        refine m_icmp_ne F e_X10_token_46 (fun q46 => ?_) (fun q46 => ?_)
        · have ha7697 := gex7695.lt q46
          refine m_iload_n F rfl e_X10_token_57 ?_
          refine m_callS F e_X10_token_58 (q_X10_isSmall2 (x_l X) V _ _ x7669 ) cb_X10_isSmall ml_X10_113 sm_X10_isSmall rfl (rest := []) rfl (Nat.le_of_ble_eq_true rfl) ⟨Nat.le_of_ble_eq_true rfl, Nat.le_of_ble_eq_true rfl⟩ ⟨Nat.le_of_ble_eq_true rfl, Nat.le_of_ble_eq_true rfl⟩ (k' := 0) (z' := 0) (N' := N) rfl rfl rfl (fun r σ7698 hp => ?_)
          obtain ⟨rfl, c7701⟩ := hp
          rcases c7701 with ⟨g7702, rfl⟩ | ⟨g7702, rfl⟩
          · refine m_if_eq F e_X10_token_61 (fun _ => ?_) (fun q => absurd (by decide) q)
            refine m_iload_n F rfl e_X10_token_145 ?_
            refine m_callS F e_X10_token_146 (q_X10_isDigit2 (x_l X) V _ _ x7669 ) cb_X10_isDigit ml_X10_126 sm_X10_isDigit rfl (rest := []) rfl (Nat.le_of_ble_eq_true rfl) ⟨Nat.le_of_ble_eq_true rfl, Nat.le_of_ble_eq_true rfl⟩ ⟨Nat.le_of_ble_eq_true rfl, Nat.le_of_ble_eq_true rfl⟩ (k' := 0) (z' := 0) (N' := N) rfl rfl rfl (fun r σ7703 hp => ?_)
            obtain ⟨rfl, c7706⟩ := hp
            rcases c7706 with ⟨g7707, rfl⟩ | ⟨g7707, rfl⟩
            · refine m_if_eq F e_X10_token_149 (fun _ => ?_) (fun q => absurd (by decide) q)
              refine m_aload_n F rfl e_X10_token_220 ?_
              refine m_iload_n F rfl e_X10_token_221 ?_
              refine m_bipush F (v := 59) (by decide) e_X10_token_222 ?_
              refine m_icmp_ne F e_X10_token_224 (fun q224 => ?_) (fun q224 => ?_)
              · refine m_iconst F (v := 5) (by decide) e_X10_token_231 ?_
                refine r_put F (g' := (⟨T, Z, u, h, P1, L⟩ : RG)) e_X10_token_232 fp_X10_110 h7694 (by decide) ⟨_, rfl⟩ (fun _ _ _ _ q => q) (fun _ _ _ q => q) rfl rfl (by decide) (fun σ7708 h7709 g7710 g7711 f7712 => ?_)
                have he7713 := gex7695.of (g7711 18 (by decide)) (elI_eq (g7710 _ (by omega)))
                refine m_aload_n F rfl e_X10_token_235 ?_
                refine m_dup F rfl e_X10_token_236 ?_
                refine r_getC F e_X10_token_237 fl_X10_97 h7709 ((g7711 19 (by decide)).trans ((fld_eq (h7693.2 c (by rw [show kC c c = 1 from kC_at (k := 0) (by decide)]; decide))).trans ((g7689 19 (by decide)).trans f7685))) ?_
                refine m_iconst F (v := 1) (by decide) e_X10_token_240 ?_
                refine m_iadd F e_X10_token_241 ?_
                refine Wm.topE (w := nI (P1.a + 1)) (nI_add P1.a 1) ?_
                refine r_put F (g' := (⟨T, Z, u, h, (mkP P1.n0 P1.n2 P1.n5 P1.n7 P1.m0 P1.m5 P1.w2 P1.w7 P1.kk (P1.a + 1) P1.f P1.p), L⟩ : RG)) e_X10_token_242 fp_X10_97 h7709 (by decide) rfl ctl_a CR.setA rfl rfl (by decide) (fun σ7714 h7715 g7716 g7717 f7718 => ?_)
                obtain ⟨P7719, eP7719⟩ : ∃ P9, P9 = (mkP P1.n0 P1.n2 P1.n5 P1.n7 P1.m0 P1.m5 P1.w2 P1.w7 P1.kk (P1.a + 1) P1.f P1.p) := ⟨_, rfl⟩
                rw [← eP7719] at h7715
                have fP7719 : P7719.n0 = P1.n0 ∧ P7719.n2 = P1.n2 ∧ P7719.n5 = P1.n5 ∧ P7719.n7 = P1.n7 ∧ P7719.m0 = P1.m0 ∧ P7719.m5 = P1.m5 ∧ P7719.w2 = P1.w2 ∧ P7719.w7 = P1.w7 ∧ P7719.kk = P1.kk ∧ P7719.a = P1.a + 1 ∧ P7719.f = P1.f ∧ P7719.p = P1.p := by rw [eP7719]; exact ⟨rfl, rfl, rfl, rfl, rfl, rfl, rfl, rfl, rfl, rfl, rfl, rfl⟩
                have he7720 := he7713.of (g7717 18 (by decide)) (elI_eq (g7716 _ (by omega)))
                have oP7721 : OKP P7719 := by unfold OKP; omega
                exact m_vret F hQ e_X10_token_245 (⟨P7719, oP7721, (by unfold RA; omega), (Or.inr (by omega)), h7715, rfl⟩)
              · subst q224
                refine m_iconst F (v := 3) (by decide) e_X10_token_227 ?_
                refine m_goto F e_X10_token_228 ?_
                refine r_put F (g' := (⟨T, Z, u, h, P1, L⟩ : RG)) e_X10_token_232 fp_X10_110 h7694 (by decide) ⟨_, rfl⟩ (fun _ _ _ _ q => q) (fun _ _ _ q => q) rfl rfl (by decide) (fun σ7722 h7723 g7724 g7725 f7726 => ?_)
                have he7727 := gex7695.of (g7725 18 (by decide)) (elI_eq (g7724 _ (by omega)))
                refine m_aload_n F rfl e_X10_token_235 ?_
                refine m_dup F rfl e_X10_token_236 ?_
                refine r_getC F e_X10_token_237 fl_X10_97 h7723 ((g7725 19 (by decide)).trans ((fld_eq (h7693.2 c (by rw [show kC c c = 1 from kC_at (k := 0) (by decide)]; decide))).trans ((g7689 19 (by decide)).trans f7685))) ?_
                refine m_iconst F (v := 1) (by decide) e_X10_token_240 ?_
                refine m_iadd F e_X10_token_241 ?_
                refine Wm.topE (w := nI (P1.a + 1)) (nI_add P1.a 1) ?_
                refine r_put F (g' := (⟨T, Z, u, h, (mkP P1.n0 P1.n2 P1.n5 P1.n7 P1.m0 P1.m5 P1.w2 P1.w7 P1.kk (P1.a + 1) P1.f P1.p), L⟩ : RG)) e_X10_token_242 fp_X10_97 h7723 (by decide) rfl ctl_a CR.setA rfl rfl (by decide) (fun σ7728 h7729 g7730 g7731 f7732 => ?_)
                obtain ⟨P7733, eP7733⟩ : ∃ P9, P9 = (mkP P1.n0 P1.n2 P1.n5 P1.n7 P1.m0 P1.m5 P1.w2 P1.w7 P1.kk (P1.a + 1) P1.f P1.p) := ⟨_, rfl⟩
                rw [← eP7733] at h7729
                have fP7733 : P7733.n0 = P1.n0 ∧ P7733.n2 = P1.n2 ∧ P7733.n5 = P1.n5 ∧ P7733.n7 = P1.n7 ∧ P7733.m0 = P1.m0 ∧ P7733.m5 = P1.m5 ∧ P7733.w2 = P1.w2 ∧ P7733.w7 = P1.w7 ∧ P7733.kk = P1.kk ∧ P7733.a = P1.a + 1 ∧ P7733.f = P1.f ∧ P7733.p = P1.p := by rw [eP7733]; exact ⟨rfl, rfl, rfl, rfl, rfl, rfl, rfl, rfl, rfl, rfl, rfl, rfl⟩
                have he7734 := he7727.of (g7731 18 (by decide)) (elI_eq (g7730 _ (by omega)))
                have oP7735 : OKP P7733 := by unfold OKP; omega
                exact m_vret F hQ e_X10_token_245 (⟨P7733, oP7735, (by unfold RA; omega), (Or.inr (by omega)), h7729, rfl⟩)
            · refine m_if_eq F e_X10_token_149 (fun q => absurd q (by decide)) (fun _ => ?_)
              refine m_aload_n F rfl e_X10_token_152 ?_
              refine m_iconst F (v := 2) (by decide) e_X10_token_153 ?_
              refine r_put F (g' := (⟨T, Z, u, h, P1, L⟩ : RG)) e_X10_token_154 fp_X10_110 h7694 (by decide) ⟨_, rfl⟩ (fun _ _ _ _ q => q) (fun _ _ _ q => q) rfl rfl (by decide) (fun σ7736 h7737 g7738 g7739 f7740 => ?_)
              have he7741 := gex7695.of (g7739 18 (by decide)) (elI_eq (g7738 _ (by omega)))
              refine m_aload_n F rfl e_X10_token_157 ?_
              refine m_iconst F (v := 0) (by decide) e_X10_token_158 ?_
              refine r_put F (g' := (⟨T, Z, u, h, P1, L⟩ : RG)) e_X10_token_159 fp_X10_120 h7737 (by decide) ⟨_, rfl⟩ (fun _ _ _ _ q => q) (fun _ _ _ q => q) rfl rfl (by decide) (fun σ7742 h7743 g7744 g7745 f7746 => ?_)
              have he7747 := he7741.of (g7745 18 (by decide)) (elI_eq (g7744 _ (by omega)))
              refine m_aload_n F rfl e_X10_token_162 ?_
              refine r_callV F e_X10_token_163 (q_X10_here (x_l X) V c T Z u h P1 L _ _  h7743.1 (hob) hP1 ) cb_X10_here ml_X10_103 im_X10_here se_X10_here h7743 rfl rfl (rest := []) rfl (Nat.le_of_ble_eq_true rfl) ⟨Nat.le_of_ble_eq_true rfl, Nat.le_of_ble_eq_true rfl⟩ ⟨Nat.le_of_ble_eq_true rfl, Nat.le_of_ble_eq_true rfl⟩ (fun r σ7748 hp => ?_)
              obtain ⟨h7749, x7751, gex7751, rfl⟩ := hp
              have h7750 := HS.trans h7743 h7749 (by decide)
              have he7752 := he7747.of (fld_eq (h7749.2 c (by rw [show kC c c = 1 from kC_at (k := 0) (by decide)]; decide))) (elI_eq (h7749.2 (c + 1) (by rw [kC_at (k := 1) (by decide)]; decide)))
              obtain rfl : x7669 = x7751 := HE.uniq he7752 gex7751
              refine m_callS F e_X10_token_166 (q_X10_isDigit2 (x_l X) V _ _ x7669 ) cb_X10_isDigit ml_X10_126 sm_X10_isDigit rfl (rest := []) rfl (Nat.le_of_ble_eq_true rfl) ⟨Nat.le_of_ble_eq_true rfl, Nat.le_of_ble_eq_true rfl⟩ ⟨Nat.le_of_ble_eq_true rfl, Nat.le_of_ble_eq_true rfl⟩ (k' := 0) (z' := 0) (N' := N) rfl rfl rfl (fun r σ7753 hp => ?_)
              obtain ⟨rfl, c7756⟩ := hp
              rcases c7756 with ⟨g7757, rfl⟩ | ⟨g7757, rfl⟩
              · exact absurd g7707 g7757
              · refine m_if_eq F e_X10_token_169 (fun q => absurd q (by decide)) (fun _ => ?_)
                have ha7758 := gex7751.lt (fun e => g7757.1 (by rw [e]; decide))
                have ha7759 := gex7751.lt (fun e => g7757.1 (by rw [e]; decide))
                have ha7760 := gex7751.lt (fun e => g7757.1 (by rw [e]; decide))
                refine m_aload_n F rfl e_X10_token_172 ?_
                refine m_aload_n F rfl e_X10_token_173 ?_
                refine r_getC F e_X10_token_174 fl_X10_120 h7750 ((fld_eq (h7749.2 c (by rw [show kC c c = 1 from kC_at (k := 0) (by decide)]; decide))).trans f7746) ?_
                refine m_ldc F kc_X10_129 e_X10_token_177 ?_
                refine m_icmp_le F e_X10_token_179 (fun _ => ?_) (fun q => absurd (by decide) q)
                refine m_bipush F (v := 10) (by decide) e_X10_token_189 ?_
                refine m_aload_n F rfl e_X10_token_191 ?_
                refine r_getC F e_X10_token_192 fl_X10_120 h7750 ((fld_eq (h7749.2 c (by rw [show kC c c = 1 from kC_at (k := 0) (by decide)]; decide))).trans f7746) ?_
                refine m_imul F e_X10_token_195 ?_
                refine Wm.topE (w := 0) (by decide) ?_
                refine m_aload_n F rfl e_X10_token_196 ?_
                refine r_callV F e_X10_token_197 (q_X10_here (x_l X) V c T Z u h P1 L _ _  h7750.1 (hob) hP1 ) cb_X10_here ml_X10_103 im_X10_here se_X10_here h7750 rfl rfl (rest := [.int 0, .ref c]) rfl (Nat.le_of_ble_eq_true rfl) ⟨Nat.le_of_ble_eq_true rfl, Nat.le_of_ble_eq_true rfl⟩ ⟨Nat.le_of_ble_eq_true rfl, Nat.le_of_ble_eq_true rfl⟩ (fun r σ7761 hp => ?_)
                obtain ⟨h7762, x7764, gex7764, rfl⟩ := hp
                have h7763 := HS.trans h7750 h7762 (by decide)
                have he7765 := gex7751.of (fld_eq (h7762.2 c (by rw [show kC c c = 1 from kC_at (k := 0) (by decide)]; decide))) (elI_eq (h7762.2 (c + 1) (by rw [kC_at (k := 1) (by decide)]; decide)))
                obtain rfl : x7669 = x7764 := HE.uniq he7765 gex7764
                refine m_iadd F e_X10_token_200 ?_
                refine Wm.top (fun x7766 _ => ?_)
                refine m_bipush F (v := 48) (by decide) e_X10_token_201 ?_
                refine m_isub F e_X10_token_203 ?_
                refine Wm.top (fun x7767 _ => ?_)
                refine r_put F (g' := (⟨T, Z, u, h, P1, L⟩ : RG)) e_X10_token_204 fp_X10_120 h7763 (by decide) ⟨_, rfl⟩ (fun _ _ _ _ q => q) (fun _ _ _ q => q) rfl rfl (by decide) (fun σ7768 h7769 g7770 g7771 f7772 => ?_)
                have he7773 := gex7764.of (g7771 18 (by decide)) (elI_eq (g7770 _ (by omega)))
                refine m_aload_n F rfl e_X10_token_207 ?_
                refine m_dup F rfl e_X10_token_208 ?_
                refine r_getC F e_X10_token_209 fl_X10_97 h7769 ((g7771 19 (by decide)).trans ((fld_eq (h7762.2 c (by rw [show kC c c = 1 from kC_at (k := 0) (by decide)]; decide))).trans ((fld_eq (h7749.2 c (by rw [show kC c c = 1 from kC_at (k := 0) (by decide)]; decide))).trans ((g7745 19 (by decide)).trans ((g7739 19 (by decide)).trans ((fld_eq (h7693.2 c (by rw [show kC c c = 1 from kC_at (k := 0) (by decide)]; decide))).trans ((g7689 19 (by decide)).trans f7685))))))) ?_
                refine m_iconst F (v := 1) (by decide) e_X10_token_212 ?_
                refine m_iadd F e_X10_token_213 ?_
                refine Wm.topE (w := nI (P1.a + 1)) (nI_add P1.a 1) ?_
                refine r_put F (g' := (⟨T, Z, u, h, (mkP P1.n0 P1.n2 P1.n5 P1.n7 P1.m0 P1.m5 P1.w2 P1.w7 P1.kk (P1.a + 1) P1.f P1.p), L⟩ : RG)) e_X10_token_214 fp_X10_97 h7769 (by decide) rfl ctl_a CR.setA rfl rfl (by decide) (fun σ7774 h7775 g7776 g7777 f7778 => ?_)
                obtain ⟨P7779, eP7779⟩ : ∃ P9, P9 = (mkP P1.n0 P1.n2 P1.n5 P1.n7 P1.m0 P1.m5 P1.w2 P1.w7 P1.kk (P1.a + 1) P1.f P1.p) := ⟨_, rfl⟩
                rw [← eP7779] at h7775
                have fP7779 : P7779.n0 = P1.n0 ∧ P7779.n2 = P1.n2 ∧ P7779.n5 = P1.n5 ∧ P7779.n7 = P1.n7 ∧ P7779.m0 = P1.m0 ∧ P7779.m5 = P1.m5 ∧ P7779.w2 = P1.w2 ∧ P7779.w7 = P1.w7 ∧ P7779.kk = P1.kk ∧ P7779.a = P1.a + 1 ∧ P7779.f = P1.f ∧ P7779.p = P1.p := by rw [eP7779]; exact ⟨rfl, rfl, rfl, rfl, rfl, rfl, rfl, rfl, rfl, rfl, rfl, rfl⟩
                have he7780 := he7773.of (g7777 18 (by decide)) (elI_eq (g7776 _ (by omega)))
                refine m_goto F e_X10_token_217 ?_
                refine Wm.lvsub (lv' := [(0, .ref c)]) ?_ [1] rfl
                have oP7781 : OKP P7779 := by unfold OKP; omega
                exact lq_X10_token_162 F hQ hob hP  (700 - P7779.a + 1)  P7779 _ h7775 oP7781 (by unfold RA; omega) (by omega) (Nat.lt_succ_self _)
          · refine m_if_eq F e_X10_token_61 (fun q => absurd q (by decide)) (fun _ => ?_)
            refine m_aload_n F rfl e_X10_token_64 ?_
            refine r_callV F e_X10_token_65 (q_X10_here (x_l X) V c T Z u h P1 L _ _  h7694.1 (hob) hP1 ) cb_X10_here ml_X10_103 im_X10_here se_X10_here h7694 rfl rfl (rest := []) rfl (Nat.le_of_ble_eq_true rfl) ⟨Nat.le_of_ble_eq_true rfl, Nat.le_of_ble_eq_true rfl⟩ ⟨Nat.le_of_ble_eq_true rfl, Nat.le_of_ble_eq_true rfl⟩ (fun r σ7782 hp => ?_)
            obtain ⟨h7783, x7785, gex7785, rfl⟩ := hp
            have h7784 := HS.trans h7694 h7783 (by decide)
            have he7786 := gex7695.of (fld_eq (h7783.2 c (by rw [show kC c c = 1 from kC_at (k := 0) (by decide)]; decide))) (elI_eq (h7783.2 (c + 1) (by rw [kC_at (k := 1) (by decide)]; decide)))
            obtain rfl : x7669 = x7785 := HE.uniq he7786 gex7785
            refine m_callS F e_X10_token_68 (q_X10_isSmall2 (x_l X) V _ _ x7669 ) cb_X10_isSmall ml_X10_113 sm_X10_isSmall rfl (rest := []) rfl (Nat.le_of_ble_eq_true rfl) ⟨Nat.le_of_ble_eq_true rfl, Nat.le_of_ble_eq_true rfl⟩ ⟨Nat.le_of_ble_eq_true rfl, Nat.le_of_ble_eq_true rfl⟩ (k' := 0) (z' := 0) (N' := N) rfl rfl rfl (fun r σ7787 hp => ?_)
            obtain ⟨rfl, c7790⟩ := hp
            rcases c7790 with ⟨g7791, rfl⟩ | ⟨g7791, rfl⟩
            · exact absurd g7702 g7791
            · refine m_if_eq F e_X10_token_71 (fun q => absurd q (by decide)) (fun _ => ?_)
              have ha7792 := gex7785.lt (fun e => g7791.1 (by rw [e]; decide))
              have ha7793 := gex7785.lt (fun e => g7791.1 (by rw [e]; decide))
              have ha7794 := gex7785.lt (fun e => g7791.1 (by rw [e]; decide))
              refine m_aload_n F rfl e_X10_token_74 ?_
              refine m_dup F rfl e_X10_token_75 ?_
              refine r_getC F e_X10_token_76 fl_X10_97 h7784 ((fld_eq (h7783.2 c (by rw [show kC c c = 1 from kC_at (k := 0) (by decide)]; decide))).trans ((fld_eq (h7693.2 c (by rw [show kC c c = 1 from kC_at (k := 0) (by decide)]; decide))).trans ((g7689 19 (by decide)).trans f7685))) ?_
              refine m_iconst F (v := 1) (by decide) e_X10_token_79 ?_
              refine m_iadd F e_X10_token_80 ?_
              refine Wm.topE (w := nI (P1.a + 1)) (nI_add P1.a 1) ?_
              refine r_put F (g' := (⟨T, Z, u, h, (mkP P1.n0 P1.n2 P1.n5 P1.n7 P1.m0 P1.m5 P1.w2 P1.w7 P1.kk (P1.a + 1) P1.f P1.p), L⟩ : RG)) e_X10_token_81 fp_X10_97 h7784 (by decide) rfl ctl_a CR.setA rfl rfl (by decide) (fun σ7795 h7796 g7797 g7798 f7799 => ?_)
              obtain ⟨P7800, eP7800⟩ : ∃ P9, P9 = (mkP P1.n0 P1.n2 P1.n5 P1.n7 P1.m0 P1.m5 P1.w2 P1.w7 P1.kk (P1.a + 1) P1.f P1.p) := ⟨_, rfl⟩
              rw [← eP7800] at h7796
              have fP7800 : P7800.n0 = P1.n0 ∧ P7800.n2 = P1.n2 ∧ P7800.n5 = P1.n5 ∧ P7800.n7 = P1.n7 ∧ P7800.m0 = P1.m0 ∧ P7800.m5 = P1.m5 ∧ P7800.w2 = P1.w2 ∧ P7800.w7 = P1.w7 ∧ P7800.kk = P1.kk ∧ P7800.a = P1.a + 1 ∧ P7800.f = P1.f ∧ P7800.p = P1.p := by rw [eP7800]; exact ⟨rfl, rfl, rfl, rfl, rfl, rfl, rfl, rfl, rfl, rfl, rfl, rfl⟩
              have he7801 := gex7785.of (g7798 18 (by decide)) (elI_eq (g7797 _ (by omega)))
              refine m_goto F e_X10_token_84 ?_
              refine Wm.lvsub (lv' := [(0, .ref c)]) ?_ [1] rfl
              have oP7802 : OKP P7800 := by unfold OKP; omega
              exact lq_X10_token_64 F hQ hob hP  (700 - P7800.a + 1)  P7800 _ h7796 oP7802 (by unfold RA; omega) (by omega) (Nat.lt_succ_self _)
        · subst q46
          refine m_aload_n F rfl e_X10_token_49 ?_
          refine m_iconst F (v := 4) (by decide) e_X10_token_50 ?_
          refine r_put F (g' := (⟨T, Z, u, h, P1, L⟩ : RG)) e_X10_token_51 fp_X10_110 h7694 (by decide) ⟨_, rfl⟩ (fun _ _ _ _ q => q) (fun _ _ _ q => q) rfl rfl (by decide) (fun σ7803 h7804 g7805 g7806 f7807 => ?_)
          have he7808 := gex7695.of (g7806 18 (by decide)) (elI_eq (g7805 _ (by omega)))
          refine m_goto F e_X10_token_54 ?_
          exact m_vret F hQ e_X10_token_245 (⟨P1, hP1, (by unfold RA; omega), (Or.inl (f7807)), h7804, rfl⟩)
      · subst q15
        have ha7809 := gex7683.lt (by decide)
        refine m_aload_n F rfl e_X10_token_18 ?_
        refine m_dup F rfl e_X10_token_19 ?_
        refine r_get F e_X10_token_20 fl_X10_97 h7682 rfl (fun v hv f7810 => ?_)
        obtain rfl : v = .int (nI (P1.a)) := hv
        refine m_iconst F (v := 1) (by decide) e_X10_token_23 ?_
        refine m_iadd F e_X10_token_24 ?_
        refine Wm.topE (w := nI (P1.a + 1)) (nI_add P1.a 1) ?_
        refine r_put F (g' := (⟨T, Z, u, h, (mkP P1.n0 P1.n2 P1.n5 P1.n7 P1.m0 P1.m5 P1.w2 P1.w7 P1.kk (P1.a + 1) P1.f P1.p), L⟩ : RG)) e_X10_token_25 fp_X10_97 h7682 (by decide) rfl ctl_a CR.setA rfl rfl (by decide) (fun σ7811 h7812 g7813 g7814 f7815 => ?_)
        obtain ⟨P7816, eP7816⟩ : ∃ P9, P9 = (mkP P1.n0 P1.n2 P1.n5 P1.n7 P1.m0 P1.m5 P1.w2 P1.w7 P1.kk (P1.a + 1) P1.f P1.p) := ⟨_, rfl⟩
        rw [← eP7816] at h7812
        have fP7816 : P7816.n0 = P1.n0 ∧ P7816.n2 = P1.n2 ∧ P7816.n5 = P1.n5 ∧ P7816.n7 = P1.n7 ∧ P7816.m0 = P1.m0 ∧ P7816.m5 = P1.m5 ∧ P7816.w2 = P1.w2 ∧ P7816.w7 = P1.w7 ∧ P7816.kk = P1.kk ∧ P7816.a = P1.a + 1 ∧ P7816.f = P1.f ∧ P7816.p = P1.p := by rw [eP7816]; exact ⟨rfl, rfl, rfl, rfl, rfl, rfl, rfl, rfl, rfl, rfl, rfl, rfl⟩
        have he7817 := gex7683.of (g7814 18 (by decide)) (elI_eq (g7813 _ (by omega)))
        refine m_goto F e_X10_token_28 ?_
        have oP7818 : OKP P7816 := by unfold OKP; omega
        exact ih  P7816 _ h7812 oP7818 (by unfold RA; omega) trivial (by omega)
set_option maxRecDepth 20000 in
theorem q_X10_token (l : Launch) (V : VX) (c T Z u h : Nat) (P : NP) (L : Nat → LQ) (N : Nat) (σ : Mem)  (h0 : HR V c ⟨T, Z, u, h, P, L⟩ σ) (hob : OKB L) (hP : OKP P)  : Ct l V yX10_token cX10_token 2 none 5 0 0 N σ [.ref c] (fun r τ => ∃ P9 : NP, OKP P9 ∧ RA P P9 ∧ (fld τ c 21 = some (.int 4) ∨ P.a < P9.a) ∧ HS V c (⟨T, Z, u, h, P9, L⟩ : RG) [0, 2, 3, 4, 5, 6, 7, 8, 9, 10, 11, 12, 13, 14, 15, 16, 17, 18, 19, 20, 21, 22, 23] σ τ ∧ r = none) := by
  refine Ct.of (by decide) (Nat.le_of_ble_eq_true rfl) [(0, .ref c)] rfl (fun X hX F hQ => ?_)
  have hPP := hP
  unfold OKP at hPP
  have h1 : HS V c ⟨T, Z, u, h, P, L⟩ [0, 2, 3, 4, 5, 6, 7, 8, 9, 10, 11, 12, 13, 14, 15, 16, 17, 18, 19, 20, 21, 22, 23] σ σ := HS.start h0
  exact lq_X10_token_0 F hQ hob hP  (700 - P.a + 1)  P _ h1 hP (by unfold RA; omega) trivial (Nat.lt_succ_self _)
set_option maxRecDepth 20000 in
theorem q_X10_wrong (l : Launch) (V : VX) (c T Z u h : Nat) (P : NP) (L : Nat → LQ) (N : Nat) (σ : Mem) (x901 : Int32) (h0 : HR V c ⟨T, Z, u, h, P, L⟩ σ) (hob : OKB L) (hP : OKP P) (hp0 : x901 ≠ 0) : Ct l V yX10_wrong cX10_wrong 2 none 0 0 0 N σ [.ref c, .int x901] (fun r τ => HS V c (⟨T, 0, u, h, P, L⟩ : RG) [0, 2, 3, 4, 5, 6, 7, 8, 9, 10, 11, 12, 13, 14, 15, 16, 17, 18, 19, 20, 21, 22, 23] σ τ ∧ r = none) := by
  refine Ct.of (by decide) (Nat.le_of_ble_eq_true rfl) [(0, .ref c), (1, .int x901)] rfl (fun X hX F hQ => ?_)
  have hPP := hP
  unfold OKP at hPP
  have h1 : HS V c ⟨T, Z, u, h, P, L⟩ [0, 2, 3, 4, 5, 6, 7, 8, 9, 10, 11, 12, 13, 14, 15, 16, 17, 18, 19, 20, 21, 22, 23] σ σ := HS.start h0
  refine m_aload_n F rfl e_X10_wrong_0 ?_
  refine r_get F e_X10_wrong_1 fl_X10_141 h1 rfl (fun v hv f7819 => ?_)
  obtain ⟨x7820, hx7820, rfl⟩ := hv
  replace hx7820 : Z = 0 → x7820 ≠ 0 := hx7820
  refine m_if_eq F e_X10_wrong_4 (fun q4 => ?_) (fun q4 => ?_)
  · subst q4
    refine m_aload_n F rfl e_X10_wrong_8 ?_
    refine m_iload_n F rfl e_X10_wrong_9 ?_
    refine r_put F (g' := (⟨T, 0, u, h, P, L⟩ : RG)) e_X10_wrong_10 fp_X10_141 h1 (by decide) ⟨_, (fun _ => hp0), rfl⟩ ctl_Z CR.ctl rfl rfl (by decide) (fun σ7821 h7822 g7823 g7824 f7825 => ?_)
    refine m_aload_n F rfl e_X10_wrong_13 ?_
    refine m_aload_n F rfl e_X10_wrong_14 ?_
    refine r_get F e_X10_wrong_15 fl_X10_107 h7822 rfl (fun v hv f7826 => ?_)
    obtain ⟨n7827, hn7827, rfl⟩ := hv
    replace hn7827 : n7827 ≤ 700 := hn7827
    refine r_put F (g' := (⟨T, 0, u, h, P, L⟩ : RG)) e_X10_wrong_18 fp_X10_144 h7822 (by decide) ⟨_, rfl⟩ (fun _ _ _ _ q => q) (fun _ _ _ q => q) rfl rfl (by decide) (fun σ7828 h7829 g7830 g7831 f7832 => ?_)
    exact m_vret F hQ e_X10_wrong_21 (⟨h7829, rfl⟩)
  · have h7833 := HS.z0 h1 (f7819) q4
    exact m_vret F hQ e_X10_wrong_7 (⟨h7833, rfl⟩)
set_option maxRecDepth 20000 in
theorem q_X10_goOn (l : Launch) (V : VX) (c T Z u h : Nat) (P : NP) (L : Nat → LQ) (N : Nat) (σ : Mem)  (h0 : HR V c ⟨T, Z, u, h, P, L⟩ σ) (hob : OKB L) (hP : OKP P)  : Ct l V yX10_goOn cX10_goOn 1 none 6 0 0 N σ [.ref c] (fun r τ => ∃ P9 : NP, OKP P9 ∧ RA P P9 ∧ PG c P.a P9.a τ ∧ HS V c (⟨T, Z, u, h, P9, L⟩ : RG) [0, 2, 3, 4, 5, 6, 7, 8, 9, 10, 11, 12, 13, 14, 15, 16, 17, 18, 19, 20, 21, 22, 23] σ τ ∧ r = none) := by
  refine Ct.of (by decide) (Nat.le_of_ble_eq_true rfl) [(0, .ref c)] rfl (fun X hX F hQ => ?_)
  have hPP := hP
  unfold OKP at hPP
  have h1 : HS V c ⟨T, Z, u, h, P, L⟩ [0, 2, 3, 4, 5, 6, 7, 8, 9, 10, 11, 12, 13, 14, 15, 16, 17, 18, 19, 20, 21, 22, 23] σ σ := HS.start h0
  refine m_aload_n F rfl e_X10_goOn_0 ?_
  refine r_get F e_X10_goOn_1 fl_X10_141 h1 rfl (fun v hv f7834 => ?_)
  obtain ⟨x7835, hx7835, rfl⟩ := hv
  replace hx7835 : Z = 0 → x7835 ≠ 0 := hx7835
  refine m_if_ne F e_X10_goOn_4 (fun q4 => ?_) (fun q4 => ?_)
  · have h7836 := HS.z0 h1 (f7834) q4
    have h7837 : HS V c _ [0, 2, 3, 4, 5, 6, 7, 8, 9, 10, 11, 12, 13, 14, 15, 16, 17, 18, 19, 20, 21, 22, 23] _ _ := ⟨HR.mono (Z' := Z) (by intro e; first | rfl | assumption | omega) h7836.1, h7836.2⟩
    exact m_vret F hQ e_X10_goOn_11 (⟨P, hP, (by unfold RA; omega), (PG.a1 h7836.1 (f7834) q4), h7837, rfl⟩)
  · subst q4
    refine m_aload_n F rfl e_X10_goOn_7 ?_
    refine r_callV F e_X10_goOn_8 (q_X10_token (x_l X) V c T Z u h P L _ _  h1.1 (hob) hP ) cb_X10_token ml_X10_147 im_X10_token se_X10_token h1 rfl rfl (rest := []) rfl (Nat.le_of_ble_eq_true rfl) ⟨Nat.le_of_ble_eq_true rfl, Nat.le_of_ble_eq_true rfl⟩ ⟨Nat.le_of_ble_eq_true rfl, Nat.le_of_ble_eq_true rfl⟩ (fun r σ7838 hp => ?_)
    obtain ⟨P7841, oP7841, rP7841, pr7842, h7839, rfl⟩ := hp
    have h7840 := HS.trans h1 h7839 (by decide)
    have xP7841 := oP7841
    unfold OKP at xP7841
    unfold RA at rP7841
    exact m_vret F hQ e_X10_goOn_11 (⟨P7841, oP7841, (by unfold RA; omega), (PG.a2 h7840.1 pr7842), h7840, rfl⟩)
set_option maxRecDepth 20000 in
theorem q_X10_numeral (l : Launch) (V : VX) (c T Z u h : Nat) (P : NP) (L : Nat → LQ) (N : Nat) (σ : Mem) (n901 : Nat) (n902 : Nat) (h0 : HR V c ⟨T, Z, u, h, P, L⟩ σ) (hob : OKB L) (hP : OKP P) (hn901 : n901 ≤ 10000000) (hn902 : n902 ≤ 10000000) : Ct l V yX10_numeral cX10_numeral 4 (some .int) 7 0 0 N σ [.ref c, .int (nI n901), .int (nI n902)] (fun r τ => ∃ P9 : NP, OKP P9 ∧ RA P P9 ∧ HS V c (⟨T, Z, u, h, P9, L⟩ : RG) [0, 2, 3, 4, 5, 6, 7, 8, 9, 10, 11, 12, 13, 14, 15, 16, 17, 18, 19, 20, 21, 22, 23] σ τ ∧ ((∃ n : Nat, n901 ≤ n ∧ n ≤ n902 ∧ r = some (.int (nI n))) ∨ (HR V c ⟨T, 0, u, h, P9, L⟩ τ ∧ r = some (.int (nI n901))))) := by
  refine Ct.of (by decide) (Nat.le_of_ble_eq_true rfl) [(0, .ref c), (1, .int (nI n901)), (2, .int (nI n902))] rfl (fun X hX F hQ => ?_)
  have hPP := hP
  unfold OKP at hPP
  have h1 : HS V c ⟨T, Z, u, h, P, L⟩ [0, 2, 3, 4, 5, 6, 7, 8, 9, 10, 11, 12, 13, 14, 15, 16, 17, 18, 19, 20, 21, 22, 23] σ σ := HS.start h0
  refine m_aload_n F rfl e_X10_numeral_0 ?_
  refine r_get F e_X10_numeral_1 fl_X10_141 h1 rfl (fun v hv f7843 => ?_)
  obtain ⟨x7844, hx7844, rfl⟩ := hv
  replace hx7844 : Z = 0 → x7844 ≠ 0 := hx7844
  refine m_if_eq F e_X10_numeral_4 (fun q4 => ?_) (fun q4 => ?_)
  · subst q4
    refine m_aload_n F rfl e_X10_numeral_9 ?_
    refine r_get F e_X10_numeral_10 fl_X10_110 h1 rfl (fun v hv f7845 => ?_)
    obtain ⟨x7846, rfl⟩ := hv
    refine m_iconst F (v := 2) (by decide) e_X10_numeral_13 ?_
    refine m_icmp_eq F e_X10_numeral_14 (fun q14 => ?_) (fun q14 => ?_)
    · subst q14
      refine m_aload_n F rfl e_X10_numeral_25 ?_
      refine r_get F e_X10_numeral_26 fl_X10_120 h1 rfl (fun v hv f7847 => ?_)
      obtain ⟨x7848, rfl⟩ := hv
      refine m_iload_n F rfl e_X10_numeral_29 ?_
      refine m_icmp_lt F e_X10_numeral_30 (fun q30 => ?_) (fun q30 => ?_)
      · refine m_aload_n F rfl e_X10_numeral_41 ?_
        refine m_iconst F (v := 2) (by decide) e_X10_numeral_42 ?_
        refine r_callV F e_X10_numeral_43 (q_X10_wrong (x_l X) V c T Z u h P L _ _ 2 h1.1 (hob) hP (by first | omega | assumption | decide)) cb_X10_wrong ml_X10_150 im_X10_wrong se_X10_wrong h1 rfl rfl (rest := []) rfl (Nat.le_of_ble_eq_true rfl) ⟨Nat.le_of_ble_eq_true rfl, Nat.le_of_ble_eq_true rfl⟩ ⟨Nat.le_of_ble_eq_true rfl, Nat.le_of_ble_eq_true rfl⟩ (fun r σ7849 hp => ?_)
        obtain ⟨h7850, rfl⟩ := hp
        have h7851 := HS.trans h1 h7850 (by decide)
        refine m_aload_n F rfl e_X10_numeral_46 ?_
        refine r_get F e_X10_numeral_47 fl_X10_141 h7851 rfl (fun v hv f7852 => ?_)
        obtain ⟨x7853, hx7853, rfl⟩ := hv
        replace hx7853 : 0 = 0 → x7853 ≠ 0 := hx7853
        refine m_if_ne F e_X10_numeral_50 (fun q50 => ?_) (fun q50 => ?_)
        · have h7854 := HS.z0 h7851 (f7852) q50
          refine m_iload_n F rfl e_X10_numeral_60 ?_
          refine m_istore_n F (lv' := [(3, .int (nI n901)), (0, .ref c), (1, .int (nI n901)), (2, .int (nI n902))]) e_X10_numeral_61 (by decide) rfl ?_
          refine m_aload_n F rfl e_X10_numeral_62 ?_
          refine r_callV F e_X10_numeral_63 (q_X10_goOn (x_l X) V c T 0 u h P L _ _  h7854.1 (hob) hP ) cb_X10_goOn ml_X10_154 im_X10_goOn se_X10_goOn h7854 rfl rfl (rest := []) rfl (Nat.le_of_ble_eq_true rfl) ⟨Nat.le_of_ble_eq_true rfl, Nat.le_of_ble_eq_true rfl⟩ ⟨Nat.le_of_ble_eq_true rfl, Nat.le_of_ble_eq_true rfl⟩ (fun r σ7855 hp => ?_)
          obtain ⟨P7858, oP7858, rP7858, pr7859, h7856, rfl⟩ := hp
          have h7857 := HS.trans h7854 h7856 (by decide)
          have xP7858 := oP7858
          unfold OKP at xP7858
          unfold RA at rP7858
          refine m_iload_n F rfl e_X10_numeral_66 ?_
          have h7860 : HS V c _ [0, 2, 3, 4, 5, 6, 7, 8, 9, 10, 11, 12, 13, 14, 15, 16, 17, 18, 19, 20, 21, 22, 23] _ _ := ⟨HR.mono (Z' := Z) (by intro e; first | rfl | assumption | omega) h7857.1, h7857.2⟩
          exact m_iret F hQ e_X10_numeral_67 (⟨P7858, oP7858, (by unfold RA; omega), h7860, Or.inr ⟨h7857.1, rfl⟩⟩)
        · first | exact absurd q50 (hx7853 rfl) | contradiction
      · obtain ⟨n7861, hn7861, rfl⟩ := nI_nn (x := x7848) (fun e => q30 (Int32.lt_of_lt_of_le e (nI_0le (by omega))))
        have c30 : n7861 ≥ n901 := by have hh := mt (nI_ltI (a := n7861) (b := n901) (by omega) (by omega)).mpr q30; omega
        refine m_aload_n F rfl e_X10_numeral_33 ?_
        refine r_getC F e_X10_numeral_34 fl_X10_120 h1 (f7847) ?_
        refine m_iload_n F rfl e_X10_numeral_37 ?_
        refine m_icmp_le F e_X10_numeral_38 (fun q38 => ?_) (fun q38 => ?_)
        · have c38 : n7861 ≤ n902 := (nI_leI (a := n7861) (b := n902) (by omega) (by omega)).mp q38
          refine m_aload_n F rfl e_X10_numeral_46 ?_
          refine r_getC F e_X10_numeral_47 fl_X10_141 h1 (f7843) ?_
          refine m_if_ne F e_X10_numeral_50 (fun q => absurd (by decide) q) (fun _ => ?_)
          refine m_aload_n F rfl e_X10_numeral_53 ?_
          refine r_getC F e_X10_numeral_54 fl_X10_120 h1 (f7847) ?_
          refine m_goto F e_X10_numeral_57 ?_
          refine m_istore_n F (lv' := [(3, .int (nI n7861)), (0, .ref c), (1, .int (nI n901)), (2, .int (nI n902))]) e_X10_numeral_61 (by decide) rfl ?_
          refine m_aload_n F rfl e_X10_numeral_62 ?_
          refine r_callV F e_X10_numeral_63 (q_X10_goOn (x_l X) V c T Z u h P L _ _  h1.1 (hob) hP ) cb_X10_goOn ml_X10_154 im_X10_goOn se_X10_goOn h1 rfl rfl (rest := []) rfl (Nat.le_of_ble_eq_true rfl) ⟨Nat.le_of_ble_eq_true rfl, Nat.le_of_ble_eq_true rfl⟩ ⟨Nat.le_of_ble_eq_true rfl, Nat.le_of_ble_eq_true rfl⟩ (fun r σ7862 hp => ?_)
          obtain ⟨P7865, oP7865, rP7865, pr7866, h7863, rfl⟩ := hp
          have h7864 := HS.trans h1 h7863 (by decide)
          have xP7865 := oP7865
          unfold OKP at xP7865
          unfold RA at rP7865
          refine m_iload_n F rfl e_X10_numeral_66 ?_
          exact m_iret F hQ e_X10_numeral_67 (⟨P7865, oP7865, (by unfold RA; omega), h7864, Or.inl ⟨n7861, by omega, by omega, rfl⟩⟩)
        · have c38 : n7861 > n902 := by have hh := mt (nI_leI (a := n7861) (b := n902) (by omega) (by omega)).mpr q38; omega
          refine m_aload_n F rfl e_X10_numeral_41 ?_
          refine m_iconst F (v := 2) (by decide) e_X10_numeral_42 ?_
          refine r_callV F e_X10_numeral_43 (q_X10_wrong (x_l X) V c T Z u h P L _ _ 2 h1.1 (hob) hP (by first | omega | assumption | decide)) cb_X10_wrong ml_X10_150 im_X10_wrong se_X10_wrong h1 rfl rfl (rest := []) rfl (Nat.le_of_ble_eq_true rfl) ⟨Nat.le_of_ble_eq_true rfl, Nat.le_of_ble_eq_true rfl⟩ ⟨Nat.le_of_ble_eq_true rfl, Nat.le_of_ble_eq_true rfl⟩ (fun r σ7867 hp => ?_)
          obtain ⟨h7868, rfl⟩ := hp
          have h7869 := HS.trans h1 h7868 (by decide)
          refine m_aload_n F rfl e_X10_numeral_46 ?_
          refine r_get F e_X10_numeral_47 fl_X10_141 h7869 rfl (fun v hv f7870 => ?_)
          obtain ⟨x7871, hx7871, rfl⟩ := hv
          replace hx7871 : 0 = 0 → x7871 ≠ 0 := hx7871
          refine m_if_ne F e_X10_numeral_50 (fun q50 => ?_) (fun q50 => ?_)
          · have h7872 := HS.z0 h7869 (f7870) q50
            refine m_iload_n F rfl e_X10_numeral_60 ?_
            refine m_istore_n F (lv' := [(3, .int (nI n901)), (0, .ref c), (1, .int (nI n901)), (2, .int (nI n902))]) e_X10_numeral_61 (by decide) rfl ?_
            refine m_aload_n F rfl e_X10_numeral_62 ?_
            refine r_callV F e_X10_numeral_63 (q_X10_goOn (x_l X) V c T 0 u h P L _ _  h7872.1 (hob) hP ) cb_X10_goOn ml_X10_154 im_X10_goOn se_X10_goOn h7872 rfl rfl (rest := []) rfl (Nat.le_of_ble_eq_true rfl) ⟨Nat.le_of_ble_eq_true rfl, Nat.le_of_ble_eq_true rfl⟩ ⟨Nat.le_of_ble_eq_true rfl, Nat.le_of_ble_eq_true rfl⟩ (fun r σ7873 hp => ?_)
            obtain ⟨P7876, oP7876, rP7876, pr7877, h7874, rfl⟩ := hp
            have h7875 := HS.trans h7872 h7874 (by decide)
            have xP7876 := oP7876
            unfold OKP at xP7876
            unfold RA at rP7876
            refine m_iload_n F rfl e_X10_numeral_66 ?_
            have h7878 : HS V c _ [0, 2, 3, 4, 5, 6, 7, 8, 9, 10, 11, 12, 13, 14, 15, 16, 17, 18, 19, 20, 21, 22, 23] _ _ := ⟨HR.mono (Z' := Z) (by intro e; first | rfl | assumption | omega) h7875.1, h7875.2⟩
            exact m_iret F hQ e_X10_numeral_67 (⟨P7876, oP7876, (by unfold RA; omega), h7878, Or.inr ⟨h7875.1, rfl⟩⟩)
          · first | exact absurd q50 (hx7871 rfl) | contradiction
    · refine m_aload_n F rfl e_X10_numeral_17 ?_
      refine m_iconst F (v := 1) (by decide) e_X10_numeral_18 ?_
      refine r_callV F e_X10_numeral_19 (q_X10_wrong (x_l X) V c T Z u h P L _ _ 1 h1.1 (hob) hP (by first | omega | assumption | decide)) cb_X10_wrong ml_X10_150 im_X10_wrong se_X10_wrong h1 rfl rfl (rest := []) rfl (Nat.le_of_ble_eq_true rfl) ⟨Nat.le_of_ble_eq_true rfl, Nat.le_of_ble_eq_true rfl⟩ ⟨Nat.le_of_ble_eq_true rfl, Nat.le_of_ble_eq_true rfl⟩ (fun r σ7879 hp => ?_)
      obtain ⟨h7880, rfl⟩ := hp
      have h7881 := HS.trans h1 h7880 (by decide)
      refine m_goto F e_X10_numeral_22 ?_
      refine m_aload_n F rfl e_X10_numeral_46 ?_
      refine r_get F e_X10_numeral_47 fl_X10_141 h7881 rfl (fun v hv f7882 => ?_)
      obtain ⟨x7883, hx7883, rfl⟩ := hv
      replace hx7883 : 0 = 0 → x7883 ≠ 0 := hx7883
      refine m_if_ne F e_X10_numeral_50 (fun q50 => ?_) (fun q50 => ?_)
      · have h7884 := HS.z0 h7881 (f7882) q50
        refine m_iload_n F rfl e_X10_numeral_60 ?_
        refine m_istore_n F (lv' := [(3, .int (nI n901)), (0, .ref c), (1, .int (nI n901)), (2, .int (nI n902))]) e_X10_numeral_61 (by decide) rfl ?_
        refine m_aload_n F rfl e_X10_numeral_62 ?_
        refine r_callV F e_X10_numeral_63 (q_X10_goOn (x_l X) V c T 0 u h P L _ _  h7884.1 (hob) hP ) cb_X10_goOn ml_X10_154 im_X10_goOn se_X10_goOn h7884 rfl rfl (rest := []) rfl (Nat.le_of_ble_eq_true rfl) ⟨Nat.le_of_ble_eq_true rfl, Nat.le_of_ble_eq_true rfl⟩ ⟨Nat.le_of_ble_eq_true rfl, Nat.le_of_ble_eq_true rfl⟩ (fun r σ7885 hp => ?_)
        obtain ⟨P7888, oP7888, rP7888, pr7889, h7886, rfl⟩ := hp
        have h7887 := HS.trans h7884 h7886 (by decide)
        have xP7888 := oP7888
        unfold OKP at xP7888
        unfold RA at rP7888
        refine m_iload_n F rfl e_X10_numeral_66 ?_
        have h7890 : HS V c _ [0, 2, 3, 4, 5, 6, 7, 8, 9, 10, 11, 12, 13, 14, 15, 16, 17, 18, 19, 20, 21, 22, 23] _ _ := ⟨HR.mono (Z' := Z) (by intro e; first | rfl | assumption | omega) h7887.1, h7887.2⟩
        exact m_iret F hQ e_X10_numeral_67 (⟨P7888, oP7888, (by unfold RA; omega), h7890, Or.inr ⟨h7887.1, rfl⟩⟩)
      · first | exact absurd q50 (hx7883 rfl) | contradiction
  · have h7891 := HS.z0 h1 (f7843) q4
    refine m_iload_n F rfl e_X10_numeral_7 ?_
    have h7892 : HS V c _ [0, 2, 3, 4, 5, 6, 7, 8, 9, 10, 11, 12, 13, 14, 15, 16, 17, 18, 19, 20, 21, 22, 23] _ _ := ⟨HR.mono (Z' := Z) (by intro e; first | rfl | assumption | omega) h7891.1, h7891.2⟩
    exact m_iret F hQ e_X10_numeral_8 (⟨P, hP, (by unfold RA; omega), h7892, Or.inr ⟨h7891.1, rfl⟩⟩)
set_option maxRecDepth 20000 in
theorem q_X10_reading0 (l : Launch) (V : VX) (c T Z u h : Nat) (P : NP) (L : Nat → LQ) (N : Nat) (σ : Mem)  (h0 : HR V c ⟨T, Z, u, h, P, L⟩ σ) (hob : OKB L) (hP : OKP P)  : Ct l V yX10_reading cX10_reading 2 (some .int) 0 0 0 N σ [.ref c, .int 0] (fun r τ => HS V c (⟨T, Z, u, h, P, L⟩ : RG) [0, 1, 2, 3, 4, 5, 6, 7, 8, 9, 10, 11, 12, 13, 14, 15, 16, 17, 18, 19, 20, 21, 22, 23] σ τ ∧ r = some (.int (nI P.n5))) := by
  refine Ct.of (by decide) (Nat.le_of_ble_eq_true rfl) [(0, .ref c), (1, .int 0)] rfl (fun X hX F hQ => ?_)
  have hPP := hP
  unfold OKP at hPP
  have h1 : HS V c ⟨T, Z, u, h, P, L⟩ [0, 1, 2, 3, 4, 5, 6, 7, 8, 9, 10, 11, 12, 13, 14, 15, 16, 17, 18, 19, 20, 21, 22, 23] σ σ := HS.start h0
  refine m_aload_n F rfl e_X10_reading_0 ?_
  refine r_get F e_X10_reading_1 fl_X10_13 h1 rfl (fun v hv f7893 => ?_)
  obtain rfl : v = .ref (c + 2) := hv
  refine m_iconst F (v := 5) (by decide) e_X10_reading_4 ?_
  refine m_iload_n F rfl e_X10_reading_5 ?_
  refine m_iadd F e_X10_reading_6 ?_
  refine Wm.topE (w := 5) (by decide) ?_
  refine r_iald F (len := 10) (j := 5) e_X10_reading_7 h1 (fun _ h => h) (by decide) (by decide) (by unfold vp_in; decide) (fun x7894 h7895 f7896 => ?_)
  obtain rfl : x7894 = nI P.n5 := h7895.2.2.1 rfl
  exact m_iret F hQ e_X10_reading_8 (⟨h1, rfl⟩)
set_option maxRecDepth 20000 in
theorem q_X10_reading2 (l : Launch) (V : VX) (c T Z u h : Nat) (P : NP) (L : Nat → LQ) (N : Nat) (σ : Mem)  (h0 : HR V c ⟨T, Z, u, h, P, L⟩ σ) (hob : OKB L) (hP : OKP P)  : Ct l V yX10_reading cX10_reading 2 (some .int) 0 0 0 N σ [.ref c, .int 2] (fun r τ => HS V c (⟨T, Z, u, h, P, L⟩ : RG) [0, 1, 2, 3, 4, 5, 6, 7, 8, 9, 10, 11, 12, 13, 14, 15, 16, 17, 18, 19, 20, 21, 22, 23] σ τ ∧ r = some (.int (nI P.n7))) := by
  refine Ct.of (by decide) (Nat.le_of_ble_eq_true rfl) [(0, .ref c), (1, .int 2)] rfl (fun X hX F hQ => ?_)
  have hPP := hP
  unfold OKP at hPP
  have h1 : HS V c ⟨T, Z, u, h, P, L⟩ [0, 1, 2, 3, 4, 5, 6, 7, 8, 9, 10, 11, 12, 13, 14, 15, 16, 17, 18, 19, 20, 21, 22, 23] σ σ := HS.start h0
  refine m_aload_n F rfl e_X10_reading_0 ?_
  refine r_get F e_X10_reading_1 fl_X10_13 h1 rfl (fun v hv f7897 => ?_)
  obtain rfl : v = .ref (c + 2) := hv
  refine m_iconst F (v := 5) (by decide) e_X10_reading_4 ?_
  refine m_iload_n F rfl e_X10_reading_5 ?_
  refine m_iadd F e_X10_reading_6 ?_
  refine Wm.topE (w := 7) (by decide) ?_
  refine r_iald F (len := 10) (j := 7) e_X10_reading_7 h1 (fun _ h => h) (by decide) (by decide) (by unfold vp_in; decide) (fun x7898 h7899 f7900 => ?_)
  obtain rfl : x7898 = nI P.n7 := h7899.2.2.2.1 rfl
  exact m_iret F hQ e_X10_reading_8 (⟨h1, rfl⟩)
set_option maxRecDepth 20000 in
theorem q_X10_reading3 (l : Launch) (V : VX) (c T Z u h : Nat) (P : NP) (L : Nat → LQ) (N : Nat) (σ : Mem)  (h0 : HR V c ⟨T, Z, u, h, P, L⟩ σ) (hob : OKB L) (hP : OKP P)  : Ct l V yX10_reading cX10_reading 2 (some .int) 0 0 0 N σ [.ref c, .int 3] (fun r τ => HS V c (⟨T, Z, u, h, P, L⟩ : RG) [0, 1, 2, 3, 4, 5, 6, 7, 8, 9, 10, 11, 12, 13, 14, 15, 16, 17, 18, 19, 20, 21, 22, 23] σ τ ∧ ∃ n : Nat, n ≤ 4 ∧ elI τ (c + 2) 8 = some (nI n) ∧ r = some (.int (nI n))) := by
  refine Ct.of (by decide) (Nat.le_of_ble_eq_true rfl) [(0, .ref c), (1, .int 3)] rfl (fun X hX F hQ => ?_)
  have hPP := hP
  unfold OKP at hPP
  have h1 : HS V c ⟨T, Z, u, h, P, L⟩ [0, 1, 2, 3, 4, 5, 6, 7, 8, 9, 10, 11, 12, 13, 14, 15, 16, 17, 18, 19, 20, 21, 22, 23] σ σ := HS.start h0
  refine m_aload_n F rfl e_X10_reading_0 ?_
  refine r_get F e_X10_reading_1 fl_X10_13 h1 rfl (fun v hv f7901 => ?_)
  obtain rfl : v = .ref (c + 2) := hv
  refine m_iconst F (v := 5) (by decide) e_X10_reading_4 ?_
  refine m_iload_n F rfl e_X10_reading_5 ?_
  refine m_iadd F e_X10_reading_6 ?_
  refine Wm.topE (w := 8) (by decide) ?_
  refine r_iald F (len := 10) (j := 8) e_X10_reading_7 h1 (fun _ h => h) (by decide) (by decide) (by unfold vp_in; decide) (fun x7902 h7903 f7904 => ?_)
  obtain ⟨n7905, hn7905, rfl⟩ := h7903.2.2.2.2.2 rfl
  exact m_iret F hQ e_X10_reading_8 (⟨h1, n7905, by omega, f7904, rfl⟩)
set_option maxRecDepth 20000 in
theorem q_X10_reading1 (l : Launch) (V : VX) (c T Z u h : Nat) (P : NP) (L : Nat → LQ) (N : Nat) (σ : Mem)  (h0 : HR V c ⟨T, Z, u, h, P, L⟩ σ) (hob : OKB L) (hP : OKP P)  : Ct l V yX10_reading cX10_reading 2 (some .int) 0 0 0 N σ [.ref c, .int 1] (fun r τ => HS V c (⟨T, Z, u, h, P, L⟩ : RG) [0, 1, 2, 3, 4, 5, 6, 7, 8, 9, 10, 11, 12, 13, 14, 15, 16, 17, 18, 19, 20, 21, 22, 23] σ τ ∧ ∃ x : Int32, r = some (.int x)) := by
  refine Ct.of (by decide) (Nat.le_of_ble_eq_true rfl) [(0, .ref c), (1, .int 1)] rfl (fun X hX F hQ => ?_)
  have hPP := hP
  unfold OKP at hPP
  have h1 : HS V c ⟨T, Z, u, h, P, L⟩ [0, 1, 2, 3, 4, 5, 6, 7, 8, 9, 10, 11, 12, 13, 14, 15, 16, 17, 18, 19, 20, 21, 22, 23] σ σ := HS.start h0
  refine m_aload_n F rfl e_X10_reading_0 ?_
  refine r_get F e_X10_reading_1 fl_X10_13 h1 rfl (fun v hv f7906 => ?_)
  obtain rfl : v = .ref (c + 2) := hv
  refine m_iconst F (v := 5) (by decide) e_X10_reading_4 ?_
  refine m_iload_n F rfl e_X10_reading_5 ?_
  refine m_iadd F e_X10_reading_6 ?_
  refine Wm.topE (w := 6) (by decide) ?_
  refine r_iald F (len := 10) (j := 6) e_X10_reading_7 h1 (fun _ h => h) (by decide) (by decide) (by unfold vp_in; decide) (fun x7907 h7908 f7909 => ?_)
  exact m_iret F hQ e_X10_reading_8 (⟨h1, _, rfl⟩)
set_option maxRecDepth 20000 in
theorem q_X10_reading4 (l : Launch) (V : VX) (c T Z u h : Nat) (P : NP) (L : Nat → LQ) (N : Nat) (σ : Mem)  (h0 : HR V c ⟨T, Z, u, h, P, L⟩ σ) (hob : OKB L) (hP : OKP P)  : Ct l V yX10_reading cX10_reading 2 (some .int) 0 0 0 N σ [.ref c, .int 4] (fun r τ => HS V c (⟨T, Z, u, h, P, L⟩ : RG) [0, 1, 2, 3, 4, 5, 6, 7, 8, 9, 10, 11, 12, 13, 14, 15, 16, 17, 18, 19, 20, 21, 22, 23] σ τ ∧ ∃ x : Int32, r = some (.int x)) := by
  refine Ct.of (by decide) (Nat.le_of_ble_eq_true rfl) [(0, .ref c), (1, .int 4)] rfl (fun X hX F hQ => ?_)
  have hPP := hP
  unfold OKP at hPP
  have h1 : HS V c ⟨T, Z, u, h, P, L⟩ [0, 1, 2, 3, 4, 5, 6, 7, 8, 9, 10, 11, 12, 13, 14, 15, 16, 17, 18, 19, 20, 21, 22, 23] σ σ := HS.start h0
  refine m_aload_n F rfl e_X10_reading_0 ?_
  refine r_get F e_X10_reading_1 fl_X10_13 h1 rfl (fun v hv f7910 => ?_)
  obtain rfl : v = .ref (c + 2) := hv
  refine m_iconst F (v := 5) (by decide) e_X10_reading_4 ?_
  refine m_iload_n F rfl e_X10_reading_5 ?_
  refine m_iadd F e_X10_reading_6 ?_
  refine Wm.topE (w := 9) (by decide) ?_
  refine r_iald F (len := 10) (j := 9) e_X10_reading_7 h1 (fun _ h => h) (by decide) (by decide) (by unfold vp_in; decide) (fun x7911 h7912 f7913 => ?_)
  exact m_iret F hQ e_X10_reading_8 (⟨h1, _, rfl⟩)
set_option maxRecDepth 20000 in
theorem q_X10_reads0 (l : Launch) (V : VX) (c T Z u h : Nat) (P : NP) (L : Nat → LQ) (N : Nat) (σ : Mem) (n902 : Nat) (h0 : HR V c ⟨T, Z, u, h, P, L⟩ σ) (hob : OKB L) (hP : OKP P) (hn902 : n902 ≤ 4) (hp0 : n902 ≤ P.m5) : Ct l V yX10_reads cX10_reads 3 none 0 0 0 N σ [.ref c, .int 0, .int (nI n902)] (fun r τ => HS V c (⟨T, Z, u, h, (mkP P.n0 P.n2 n902 P.n7 P.m0 P.m5 P.w2 P.w7 P.kk P.a P.f P.p), L⟩ : RG) [0, 1, 2, 4, 5, 6, 7, 8, 9, 10, 11, 12, 13, 14, 15, 16, 17, 18, 19, 20, 21, 22, 23] σ τ ∧ r = none) := by
  refine Ct.of (by decide) (Nat.le_of_ble_eq_true rfl) [(0, .ref c), (1, .int 0), (2, .int (nI n902))] rfl (fun X hX F hQ => ?_)
  have hPP := hP
  unfold OKP at hPP
  have h1 : HS V c ⟨T, Z, u, h, P, L⟩ [0, 1, 2, 4, 5, 6, 7, 8, 9, 10, 11, 12, 13, 14, 15, 16, 17, 18, 19, 20, 21, 22, 23] σ σ := HS.start h0
  refine m_aload_n F rfl e_X10_reads_0 ?_
  refine r_get F e_X10_reads_1 fl_X10_13 h1 rfl (fun v hv f7914 => ?_)
  obtain rfl : v = .ref (c + 2) := hv
  refine m_iconst F (v := 5) (by decide) e_X10_reads_4 ?_
  refine m_iload_n F rfl e_X10_reads_5 ?_
  refine m_iadd F e_X10_reads_6 ?_
  refine Wm.topE (w := 5) (by decide) ?_
  refine m_iload_n F rfl e_X10_reads_7 ?_
  refine r_iast F (g' := (⟨T, Z, u, h, (mkP P.n0 P.n2 n902 P.n7 P.m0 P.m5 P.w2 P.w7 P.kk P.a P.f P.p), L⟩ : RG)) (len := 10) (j := 5) e_X10_reads_8 h1 (fun _ h => h) (fun f h => ⟨f, rfl, h⟩) (by decide) (by decide) (by decide) (by unfold vp_in; decide) (by refine ⟨?_, ?_, ?_, ?_, ?_, ?_⟩ <;> intro e <;> first | exact absurd e (by decide) | rfl | exact ⟨_, by omega, rfl⟩) (fun i hi y hy => ⟨hy.1, hy.2.1, fun e => absurd e hi, hy.2.2.2.1, hy.2.2.2.2.1, hy.2.2.2.2.2⟩) (CR.chg (by intro k hk i x h; unfold EI at h ⊢; split at h <;> first | exact h | exact absurd rfl hk | trivial) rfl rfl rfl rfl) (fun σ7915 h7916 g7917 f7918 g7919 => ?_)
  exact m_vret F hQ e_X10_reads_9 (⟨h7916, rfl⟩)
set_option maxRecDepth 20000 in
theorem q_X10_reads2 (l : Launch) (V : VX) (c T Z u h : Nat) (P : NP) (L : Nat → LQ) (N : Nat) (σ : Mem) (n902 : Nat) (h0 : HR V c ⟨T, Z, u, h, P, L⟩ σ) (hob : OKB L) (hP : OKP P) (hn902 : n902 ≤ 8) (hp0 : n902 ≤ P.w7) : Ct l V yX10_reads cX10_reads 3 none 0 0 0 N σ [.ref c, .int 2, .int (nI n902)] (fun r τ => HS V c (⟨T, Z, u, h, (mkP P.n0 P.n2 P.n5 n902 P.m0 P.m5 P.w2 P.w7 P.kk P.a P.f P.p), L⟩ : RG) [0, 1, 2, 4, 5, 6, 7, 8, 9, 10, 11, 12, 13, 14, 15, 16, 17, 18, 19, 20, 21, 22, 23] σ τ ∧ r = none) := by
  refine Ct.of (by decide) (Nat.le_of_ble_eq_true rfl) [(0, .ref c), (1, .int 2), (2, .int (nI n902))] rfl (fun X hX F hQ => ?_)
  have hPP := hP
  unfold OKP at hPP
  have h1 : HS V c ⟨T, Z, u, h, P, L⟩ [0, 1, 2, 4, 5, 6, 7, 8, 9, 10, 11, 12, 13, 14, 15, 16, 17, 18, 19, 20, 21, 22, 23] σ σ := HS.start h0
  refine m_aload_n F rfl e_X10_reads_0 ?_
  refine r_get F e_X10_reads_1 fl_X10_13 h1 rfl (fun v hv f7920 => ?_)
  obtain rfl : v = .ref (c + 2) := hv
  refine m_iconst F (v := 5) (by decide) e_X10_reads_4 ?_
  refine m_iload_n F rfl e_X10_reads_5 ?_
  refine m_iadd F e_X10_reads_6 ?_
  refine Wm.topE (w := 7) (by decide) ?_
  refine m_iload_n F rfl e_X10_reads_7 ?_
  refine r_iast F (g' := (⟨T, Z, u, h, (mkP P.n0 P.n2 P.n5 n902 P.m0 P.m5 P.w2 P.w7 P.kk P.a P.f P.p), L⟩ : RG)) (len := 10) (j := 7) e_X10_reads_8 h1 (fun _ h => h) (fun f h => ⟨f, rfl, h⟩) (by decide) (by decide) (by decide) (by unfold vp_in; decide) (by refine ⟨?_, ?_, ?_, ?_, ?_, ?_⟩ <;> intro e <;> first | exact absurd e (by decide) | rfl | exact ⟨_, by omega, rfl⟩) (fun i hi y hy => ⟨hy.1, hy.2.1, hy.2.2.1, fun e => absurd e hi, hy.2.2.2.2.1, hy.2.2.2.2.2⟩) (CR.chg (by intro k hk i x h; unfold EI at h ⊢; split at h <;> first | exact h | exact absurd rfl hk | trivial) rfl rfl rfl rfl) (fun σ7921 h7922 g7923 f7924 g7925 => ?_)
  exact m_vret F hQ e_X10_reads_9 (⟨h7922, rfl⟩)
set_option maxRecDepth 20000 in
theorem q_X10_reads3 (l : Launch) (V : VX) (c T Z u h : Nat) (P : NP) (L : Nat → LQ) (N : Nat) (σ : Mem) (n902 : Nat) (h0 : HR V c ⟨T, Z, u, h, P, L⟩ σ) (hob : OKB L) (hP : OKP P) (hn902 : n902 ≤ 4) : Ct l V yX10_reads cX10_reads 3 none 0 0 0 N σ [.ref c, .int 3, .int (nI n902)] (fun r τ => HS V c (⟨T, Z, u, h, P, L⟩ : RG) [0, 1, 2, 4, 5, 6, 7, 8, 9, 10, 11, 12, 13, 14, 15, 16, 17, 18, 19, 20, 21, 22, 23] σ τ ∧ r = none) := by
  refine Ct.of (by decide) (Nat.le_of_ble_eq_true rfl) [(0, .ref c), (1, .int 3), (2, .int (nI n902))] rfl (fun X hX F hQ => ?_)
  have hPP := hP
  unfold OKP at hPP
  have h1 : HS V c ⟨T, Z, u, h, P, L⟩ [0, 1, 2, 4, 5, 6, 7, 8, 9, 10, 11, 12, 13, 14, 15, 16, 17, 18, 19, 20, 21, 22, 23] σ σ := HS.start h0
  refine m_aload_n F rfl e_X10_reads_0 ?_
  refine r_get F e_X10_reads_1 fl_X10_13 h1 rfl (fun v hv f7926 => ?_)
  obtain rfl : v = .ref (c + 2) := hv
  refine m_iconst F (v := 5) (by decide) e_X10_reads_4 ?_
  refine m_iload_n F rfl e_X10_reads_5 ?_
  refine m_iadd F e_X10_reads_6 ?_
  refine Wm.topE (w := 8) (by decide) ?_
  refine m_iload_n F rfl e_X10_reads_7 ?_
  refine r_iast F (g' := (⟨T, Z, u, h, P, L⟩ : RG)) (len := 10) (j := 8) e_X10_reads_8 h1 (fun _ h => h) (fun f h => ⟨f, rfl, h⟩) (by decide) (by decide) (by decide) (by unfold vp_in; decide) (by refine ⟨?_, ?_, ?_, ?_, ?_, ?_⟩ <;> intro e <;> first | exact absurd e (by decide) | rfl | exact ⟨_, by omega, rfl⟩) (fun _ _ _ h => h) (fun _ _ _ h => h) (fun σ7927 h7928 g7929 f7930 g7931 => ?_)
  exact m_vret F hQ e_X10_reads_9 (⟨h7928, rfl⟩)
set_option maxRecDepth 20000 in
theorem q_X10_reads1 (l : Launch) (V : VX) (c T Z u h : Nat) (P : NP) (L : Nat → LQ) (N : Nat) (σ : Mem) (x902 : Int32) (h0 : HR V c ⟨T, Z, u, h, P, L⟩ σ) (hob : OKB L) (hP : OKP P)  : Ct l V yX10_reads cX10_reads 3 none 0 0 0 N σ [.ref c, .int 1, .int x902] (fun r τ => HS V c (⟨T, Z, u, h, P, L⟩ : RG) [0, 1, 2, 4, 5, 6, 7, 8, 9, 10, 11, 12, 13, 14, 15, 16, 17, 18, 19, 20, 21, 22, 23] σ τ ∧ r = none) := by
  refine Ct.of (by decide) (Nat.le_of_ble_eq_true rfl) [(0, .ref c), (1, .int 1), (2, .int x902)] rfl (fun X hX F hQ => ?_)
  have hPP := hP
  unfold OKP at hPP
  have h1 : HS V c ⟨T, Z, u, h, P, L⟩ [0, 1, 2, 4, 5, 6, 7, 8, 9, 10, 11, 12, 13, 14, 15, 16, 17, 18, 19, 20, 21, 22, 23] σ σ := HS.start h0
  refine m_aload_n F rfl e_X10_reads_0 ?_
  refine r_get F e_X10_reads_1 fl_X10_13 h1 rfl (fun v hv f7932 => ?_)
  obtain rfl : v = .ref (c + 2) := hv
  refine m_iconst F (v := 5) (by decide) e_X10_reads_4 ?_
  refine m_iload_n F rfl e_X10_reads_5 ?_
  refine m_iadd F e_X10_reads_6 ?_
  refine Wm.topE (w := 6) (by decide) ?_
  refine m_iload_n F rfl e_X10_reads_7 ?_
  refine r_iast F (g' := (⟨T, Z, u, h, P, L⟩ : RG)) (len := 10) (j := 6) e_X10_reads_8 h1 (fun _ h => h) (fun f h => ⟨f, rfl, h⟩) (by decide) (by decide) (by decide) (by unfold vp_in; decide) (by refine ⟨?_, ?_, ?_, ?_, ?_, ?_⟩ <;> intro e <;> first | exact absurd e (by decide) | rfl | exact ⟨_, by omega, rfl⟩) (fun _ _ _ h => h) (fun _ _ _ h => h) (fun σ7933 h7934 g7935 f7936 g7937 => ?_)
  exact m_vret F hQ e_X10_reads_9 (⟨h7934, rfl⟩)
set_option maxRecDepth 20000 in
theorem q_X10_reads4 (l : Launch) (V : VX) (c T Z u h : Nat) (P : NP) (L : Nat → LQ) (N : Nat) (σ : Mem) (x902 : Int32) (h0 : HR V c ⟨T, Z, u, h, P, L⟩ σ) (hob : OKB L) (hP : OKP P)  : Ct l V yX10_reads cX10_reads 3 none 0 0 0 N σ [.ref c, .int 4, .int x902] (fun r τ => HS V c (⟨T, Z, u, h, P, L⟩ : RG) [0, 1, 2, 4, 5, 6, 7, 8, 9, 10, 11, 12, 13, 14, 15, 16, 17, 18, 19, 20, 21, 22, 23] σ τ ∧ r = none) := by
  refine Ct.of (by decide) (Nat.le_of_ble_eq_true rfl) [(0, .ref c), (1, .int 4), (2, .int x902)] rfl (fun X hX F hQ => ?_)
  have hPP := hP
  unfold OKP at hPP
  have h1 : HS V c ⟨T, Z, u, h, P, L⟩ [0, 1, 2, 4, 5, 6, 7, 8, 9, 10, 11, 12, 13, 14, 15, 16, 17, 18, 19, 20, 21, 22, 23] σ σ := HS.start h0
  refine m_aload_n F rfl e_X10_reads_0 ?_
  refine r_get F e_X10_reads_1 fl_X10_13 h1 rfl (fun v hv f7938 => ?_)
  obtain rfl : v = .ref (c + 2) := hv
  refine m_iconst F (v := 5) (by decide) e_X10_reads_4 ?_
  refine m_iload_n F rfl e_X10_reads_5 ?_
  refine m_iadd F e_X10_reads_6 ?_
  refine Wm.topE (w := 9) (by decide) ?_
  refine m_iload_n F rfl e_X10_reads_7 ?_
  refine r_iast F (g' := (⟨T, Z, u, h, P, L⟩ : RG)) (len := 10) (j := 9) e_X10_reads_8 h1 (fun _ h => h) (fun f h => ⟨f, rfl, h⟩) (by decide) (by decide) (by decide) (by unfold vp_in; decide) (by refine ⟨?_, ?_, ?_, ?_, ?_, ?_⟩ <;> intro e <;> first | exact absurd e (by decide) | rfl | exact ⟨_, by omega, rfl⟩) (fun _ _ _ h => h) (fun _ _ _ h => h) (fun σ7939 h7940 g7941 f7942 g7943 => ?_)
  exact m_vret F hQ e_X10_reads_9 (⟨h7940, rfl⟩)
set_option maxRecDepth 20000 in
theorem q_X10_atHand (l : Launch) (V : VX) (c T Z u h : Nat) (P : NP) (L : Nat → LQ) (N : Nat) (σ : Mem)  (h0 : HR V c ⟨T, Z, u, h, P, L⟩ σ) (hob : OKB L) (hP : OKP P)  : Ct l V yX10_atHand cX10_atHand 2 (some .int) 7 0 0 N σ [.ref c] (fun r τ => ∃ P9 : NP, OKP P9 ∧ RA P P9 ∧ HS V c (⟨T, Z, u, h, P9, L⟩ : RG) [0, 2, 3, 4, 5, 6, 7, 8, 9, 10, 11, 12, 13, 14, 15, 16, 17, 18, 19, 20, 21, 22, 23] σ τ ∧ ∃ n : Nat, 4 ≤ n ∧ n ≤ 7 ∧ r = some (.int (nI n))) := by
  refine Ct.of (by decide) (Nat.le_of_ble_eq_true rfl) [(0, .ref c)] rfl (fun X hX F hQ => ?_)
  have hPP := hP
  unfold OKP at hPP
  have h1 : HS V c ⟨T, Z, u, h, P, L⟩ [0, 2, 3, 4, 5, 6, 7, 8, 9, 10, 11, 12, 13, 14, 15, 16, 17, 18, 19, 20, 21, 22, 23] σ σ := HS.start h0
  refine m_aload_n F rfl e_X10_atHand_0 ?_
  refine r_callV F e_X10_atHand_1 (q_X10_goOn (x_l X) V c T Z u h P L _ _  h1.1 (hob) hP ) cb_X10_goOn ml_X10_154 im_X10_goOn se_X10_goOn h1 rfl rfl (rest := []) rfl (Nat.le_of_ble_eq_true rfl) ⟨Nat.le_of_ble_eq_true rfl, Nat.le_of_ble_eq_true rfl⟩ ⟨Nat.le_of_ble_eq_true rfl, Nat.le_of_ble_eq_true rfl⟩ (fun r σ7944 hp => ?_)
  obtain ⟨P7947, oP7947, rP7947, pr7948, h7945, rfl⟩ := hp
  have h7946 := HS.trans h1 h7945 (by decide)
  have xP7947 := oP7947
  unfold OKP at xP7947
  unfold RA at rP7947
  refine m_aload_n F rfl e_X10_atHand_4 ?_
  refine r_get F e_X10_atHand_5 fl_X10_141 h7946 rfl (fun v hv f7949 => ?_)
  obtain ⟨x7950, hx7950, rfl⟩ := hv
  replace hx7950 : Z = 0 → x7950 ≠ 0 := hx7950
  refine m_if_eq F e_X10_atHand_8 (fun q8 => ?_) (fun q8 => ?_)
  · subst q8
    refine m_aload_n F rfl e_X10_atHand_13 ?_
    refine r_get F e_X10_atHand_14 fl_X10_110 h7946 rfl (fun v hv f7951 => ?_)
    obtain ⟨x7952, rfl⟩ := hv
    refine m_iconst F (v := 1) (by decide) e_X10_atHand_17 ?_
    refine m_icmp_eq F e_X10_atHand_18 (fun q18 => ?_) (fun q18 => ?_)
    · subst q18
      refine m_aload_n F rfl e_X10_atHand_26 ?_
      refine r_getC F e_X10_atHand_27 fl_X10_141 h7946 (f7949) ?_
      refine m_if_ne F e_X10_atHand_30 (fun q => absurd (by decide) q) (fun _ => ?_)
      refine m_aload_n F rfl e_X10_atHand_33 ?_
      refine m_iconst F (v := 4) (by decide) e_X10_atHand_34 ?_
      refine m_aload_n F rfl e_X10_atHand_35 ?_
      refine m_iconst F (v := 0) (by decide) e_X10_atHand_36 ?_
      refine r_callV F e_X10_atHand_37 (q_X10_reading0 (x_l X) V c T Z u h P7947 L _ _  h7946.1 (hob) oP7947 ) cb_X10_reading ml_X10_157 im_X10_reading se_X10_reading h7946 rfl rfl (rest := [.int 4, .ref c]) rfl (Nat.le_of_ble_eq_true rfl) ⟨Nat.le_of_ble_eq_true rfl, Nat.le_of_ble_eq_true rfl⟩ ⟨Nat.le_of_ble_eq_true rfl, Nat.le_of_ble_eq_true rfl⟩ (fun r σ7953 hp => ?_)
      obtain ⟨h7954, rfl⟩ := hp
      have h7955 := HS.trans h7946 h7954 (by decide)
      refine m_aload_n F rfl e_X10_atHand_40 ?_
      refine r_get F e_X10_atHand_41 fl_X10_120 h7955 rfl (fun v hv f7956 => ?_)
      obtain ⟨x7957, rfl⟩ := hv
      refine r_callV F e_X10_atHand_44 (q_X10_namedAt (x_l X) V c T Z u h P7947 L _ _ 4 P7947.n5 x7957 h7955.1 (hob) oP7947 (by omega) (by omega)) cb_X10_namedAt ml_X10_161 im_X10_namedAt se_X10_namedAt h7955 rfl rfl (rest := []) rfl (Nat.le_of_ble_eq_true rfl) ⟨Nat.le_of_ble_eq_true rfl, Nat.le_of_ble_eq_true rfl⟩ ⟨Nat.le_of_ble_eq_true rfl, Nat.le_of_ble_eq_true rfl⟩ (fun r σ7958 hp => ?_)
      obtain ⟨h7959, c7961⟩ := hp
      have h7960 := HS.trans h7955 h7959 (by decide)
      rcases c7961 with rfl | ⟨n7962, hn7962, rfl⟩
      · refine m_goto F e_X10_atHand_47 ?_
        refine m_istore_n F (lv' := [(1, .int (-1)), (0, .ref c)]) e_X10_atHand_51 (by decide) rfl ?_
        refine m_iload_n F rfl e_X10_atHand_52 ?_
        refine m_iconst F (v := (-1)) (by decide) e_X10_atHand_53 ?_
        refine m_icmp_ne F e_X10_atHand_54 (fun q => absurd (by decide) q) (fun _ => ?_)
        refine m_aload_n F rfl e_X10_atHand_57 ?_
        refine m_iconst F (v := 4) (by decide) e_X10_atHand_58 ?_
        refine r_callV F e_X10_atHand_59 (q_X10_wrong (x_l X) V c T Z u h P7947 L _ _ 4 h7960.1 (hob) oP7947 (by first | omega | assumption | decide)) cb_X10_wrong ml_X10_150 im_X10_wrong se_X10_wrong h7960 rfl rfl (rest := []) rfl (Nat.le_of_ble_eq_true rfl) ⟨Nat.le_of_ble_eq_true rfl, Nat.le_of_ble_eq_true rfl⟩ ⟨Nat.le_of_ble_eq_true rfl, Nat.le_of_ble_eq_true rfl⟩ (fun r σ7963 hp => ?_)
        obtain ⟨h7964, rfl⟩ := hp
        have h7965 := HS.trans h7960 h7964 (by decide)
        refine m_aload_n F rfl e_X10_atHand_62 ?_
        refine r_get F e_X10_atHand_63 fl_X10_141 h7965 rfl (fun v hv f7966 => ?_)
        obtain ⟨x7967, hx7967, rfl⟩ := hv
        replace hx7967 : 0 = 0 → x7967 ≠ 0 := hx7967
        refine m_if_ne F e_X10_atHand_66 (fun q66 => ?_) (fun q66 => ?_)
        · have h7968 := HS.z0 h7965 (f7966) q66
          refine m_iconst F (v := 4) (by decide) e_X10_atHand_75 ?_
          have h7969 : HS V c _ [0, 2, 3, 4, 5, 6, 7, 8, 9, 10, 11, 12, 13, 14, 15, 16, 17, 18, 19, 20, 21, 22, 23] _ _ := ⟨HR.mono (Z' := Z) (by intro e; first | rfl | assumption | omega) h7968.1, h7968.2⟩
          exact m_iret F hQ e_X10_atHand_76 (⟨P7947, oP7947, (by unfold RA; omega), h7969, 4, by omega, by omega, rfl⟩)
        · first | exact absurd q66 (hx7967 rfl) | contradiction
      · refine m_goto F e_X10_atHand_47 ?_
        refine m_istore_n F (lv' := [(1, .int (nI n7962)), (0, .ref c)]) e_X10_atHand_51 (by decide) rfl ?_
        refine m_iload_n F rfl e_X10_atHand_52 ?_
        refine m_iconst F (v := (-1)) (by decide) e_X10_atHand_53 ?_
        refine m_icmp_ne F e_X10_atHand_54 (fun q54 => ?_) (fun q54 => ?_)
        · refine m_aload_n F rfl e_X10_atHand_62 ?_
          refine r_getC F e_X10_atHand_63 fl_X10_141 h7960 ((fld_eq (h7959.2 c (by rw [show kC c c = 1 from kC_at (k := 0) (by decide)]; decide))).trans ((fld_eq (h7954.2 c (by rw [show kC c c = 1 from kC_at (k := 0) (by decide)]; decide))).trans f7949)) ?_
          refine m_if_ne F e_X10_atHand_66 (fun q => absurd (by decide) q) (fun _ => ?_)
          refine m_iconst F (v := 4) (by decide) e_X10_atHand_69 ?_
          refine m_iload_n F rfl e_X10_atHand_70 ?_
          refine m_iadd F e_X10_atHand_71 ?_
          refine Wm.topE (w := nI (4 + n7962)) (nI_add 4 n7962) ?_
          refine m_goto F e_X10_atHand_72 ?_
          exact m_iret F hQ e_X10_atHand_76 (⟨P7947, oP7947, (by unfold RA; omega), h7960, 4 + n7962, by omega, by omega, rfl⟩)
        · refine m_aload_n F rfl e_X10_atHand_57 ?_
          refine m_iconst F (v := 4) (by decide) e_X10_atHand_58 ?_
          refine r_callV F e_X10_atHand_59 (q_X10_wrong (x_l X) V c T Z u h P7947 L _ _ 4 h7960.1 (hob) oP7947 (by first | omega | assumption | decide)) cb_X10_wrong ml_X10_150 im_X10_wrong se_X10_wrong h7960 rfl rfl (rest := []) rfl (Nat.le_of_ble_eq_true rfl) ⟨Nat.le_of_ble_eq_true rfl, Nat.le_of_ble_eq_true rfl⟩ ⟨Nat.le_of_ble_eq_true rfl, Nat.le_of_ble_eq_true rfl⟩ (fun r σ7970 hp => ?_)
          obtain ⟨h7971, rfl⟩ := hp
          have h7972 := HS.trans h7960 h7971 (by decide)
          refine m_aload_n F rfl e_X10_atHand_62 ?_
          refine r_get F e_X10_atHand_63 fl_X10_141 h7972 rfl (fun v hv f7973 => ?_)
          obtain ⟨x7974, hx7974, rfl⟩ := hv
          replace hx7974 : 0 = 0 → x7974 ≠ 0 := hx7974
          refine m_if_ne F e_X10_atHand_66 (fun q66 => ?_) (fun q66 => ?_)
          · have h7975 := HS.z0 h7972 (f7973) q66
            refine m_iconst F (v := 4) (by decide) e_X10_atHand_75 ?_
            have h7976 : HS V c _ [0, 2, 3, 4, 5, 6, 7, 8, 9, 10, 11, 12, 13, 14, 15, 16, 17, 18, 19, 20, 21, 22, 23] _ _ := ⟨HR.mono (Z' := Z) (by intro e; first | rfl | assumption | omega) h7975.1, h7975.2⟩
            exact m_iret F hQ e_X10_atHand_76 (⟨P7947, oP7947, (by unfold RA; omega), h7976, 4, by omega, by omega, rfl⟩)
          · first | exact absurd q66 (hx7974 rfl) | contradiction
    · refine m_aload_n F rfl e_X10_atHand_21 ?_
      refine m_iconst F (v := 1) (by decide) e_X10_atHand_22 ?_
      refine r_callV F e_X10_atHand_23 (q_X10_wrong (x_l X) V c T Z u h P7947 L _ _ 1 h7946.1 (hob) oP7947 (by first | omega | assumption | decide)) cb_X10_wrong ml_X10_150 im_X10_wrong se_X10_wrong h7946 rfl rfl (rest := []) rfl (Nat.le_of_ble_eq_true rfl) ⟨Nat.le_of_ble_eq_true rfl, Nat.le_of_ble_eq_true rfl⟩ ⟨Nat.le_of_ble_eq_true rfl, Nat.le_of_ble_eq_true rfl⟩ (fun r σ7977 hp => ?_)
      obtain ⟨h7978, rfl⟩ := hp
      have h7979 := HS.trans h7946 h7978 (by decide)
      refine m_aload_n F rfl e_X10_atHand_26 ?_
      refine r_get F e_X10_atHand_27 fl_X10_141 h7979 rfl (fun v hv f7980 => ?_)
      obtain ⟨x7981, hx7981, rfl⟩ := hv
      replace hx7981 : 0 = 0 → x7981 ≠ 0 := hx7981
      refine m_if_ne F e_X10_atHand_30 (fun q30 => ?_) (fun q30 => ?_)
      · have h7982 := HS.z0 h7979 (f7980) q30
        refine m_iconst F (v := 0) (by decide) e_X10_atHand_50 ?_
        refine m_istore_n F (lv' := [(1, .int 0), (0, .ref c)]) e_X10_atHand_51 (by decide) rfl ?_
        refine m_iload_n F rfl e_X10_atHand_52 ?_
        refine m_iconst F (v := (-1)) (by decide) e_X10_atHand_53 ?_
        refine m_icmp_ne F e_X10_atHand_54 (fun _ => ?_) (fun q => absurd q (by decide))
        refine m_aload_n F rfl e_X10_atHand_62 ?_
        refine r_getC F e_X10_atHand_63 fl_X10_141 h7982 (f7980) ?_
        refine m_if_ne F e_X10_atHand_66 (fun q66 => ?_) (fun q66 => ?_)
        · have h7983 := HS.z0 h7982 (f7980) q66
          refine m_iconst F (v := 4) (by decide) e_X10_atHand_75 ?_
          have h7984 : HS V c _ [0, 2, 3, 4, 5, 6, 7, 8, 9, 10, 11, 12, 13, 14, 15, 16, 17, 18, 19, 20, 21, 22, 23] _ _ := ⟨HR.mono (Z' := Z) (by intro e; first | rfl | assumption | omega) h7983.1, h7983.2⟩
          exact m_iret F hQ e_X10_atHand_76 (⟨P7947, oP7947, (by unfold RA; omega), h7984, 4, by omega, by omega, rfl⟩)
        · first | exact absurd q66 (hx7981 rfl) | contradiction
      · first | exact absurd q30 (hx7981 rfl) | contradiction
  · have h7985 := HS.z0 h7946 (f7949) q8
    refine m_iconst F (v := 4) (by decide) e_X10_atHand_11 ?_
    have h7986 : HS V c _ [0, 2, 3, 4, 5, 6, 7, 8, 9, 10, 11, 12, 13, 14, 15, 16, 17, 18, 19, 20, 21, 22, 23] _ _ := ⟨HR.mono (Z' := Z) (by intro e; first | rfl | assumption | omega) h7985.1, h7985.2⟩
    exact m_iret F hQ e_X10_atHand_12 (⟨P7947, oP7947, (by unfold RA; omega), h7986, 4, by omega, by omega, rfl⟩)
set_option maxRecDepth 20000 in
theorem lq_X10_readLease_157 {V : VX} {X : MX} {N : Nat} {σ : Mem} {c T Z u h : Nat} {P : NP} {L : Nat → LQ}   (F : Fx V X yX10_readLease cX10_readLease 3 none (rmd 8 0 0)) (hQ : Rt V X 0 0 N (fun r τ => ∃ P9 : NP, OKP P9 ∧ RP P P9 ∧ HS V c (⟨T, Z, u, h, P9, L⟩ : RG) [0, 2, 12, 13, 14, 15, 16, 17, 18, 19, 20, 21, 22, 23] σ τ ∧ r = none)) (hob : OKB L) (hP : OKP P)   : ∀ (fuel : Nat) (a : Nat) (i : Nat) (P1 : NP) (τ : Mem), HS V c (⟨T, Z, u, h, P1, L⟩ : RG) [0, 2, 12, 13, 14, 15, 16, 17, 18, 19, 20, 21, 22, 23] σ τ → OKP P1 → RP P P1 → a = 4 + P1.n5 ∧ i ≤ 48 ∧ P1.n5 ≤ 3 ∧ P1.n5 + 1 ≤ P1.m5 → 48 - i < fuel → Wm V X 3 N τ 0 0 157 [(0, .ref c), (1, .int (nI a)), (2, .int (nI i))] [] := by
  intro fuel
  induction fuel with
  | zero => intros; rename_i hm; exact absurd hm (Nat.not_lt_zero _)
  | succ fuel ih =>
    intro a i P1 τ h1 hP1 hR1 hi hm
    have hPP := hP
    unfold OKP at hPP
    have hPP1 := hP1
    unfold OKP at hPP1
    unfold RP at hR1
    refine m_iload_n F rfl e_X10_readLease_157 ?_
    refine m_bipush F (v := 48) (by decide) e_X10_readLease_158 ?_
    refine m_icmp_ge F e_X10_readLease_160 (fun q160 => ?_) (fun q160 => ?_)
    · have c160 : i ≥ 48 := (nI_leI (a := 48) (b := i) (by omega) (by omega)).mp q160
      refine m_aload_n F rfl e_X10_readLease_181 ?_
      refine m_iconst F (v := 0) (by decide) e_X10_readLease_182 ?_
      refine m_aload_n F rfl e_X10_readLease_183 ?_
      refine m_iconst F (v := 0) (by decide) e_X10_readLease_184 ?_
      refine r_callV F e_X10_readLease_185 (q_X10_reading0 (x_l X) V c T Z u h P1 L _ _  h1.1 (hob) hP1 ) cb_X10_reading ml_X10_157 im_X10_reading se_X10_reading h1 rfl rfl (rest := [.int 0, .ref c]) rfl (Nat.le_of_ble_eq_true rfl) ⟨Nat.le_of_ble_eq_true rfl, Nat.le_of_ble_eq_true rfl⟩ ⟨Nat.le_of_ble_eq_true rfl, Nat.le_of_ble_eq_true rfl⟩ (fun r σ7987 hp => ?_)
      obtain ⟨h7988, rfl⟩ := hp
      have h7989 := HS.trans h1 h7988 (by decide)
      refine m_iconst F (v := 1) (by decide) e_X10_readLease_188 ?_
      refine m_iadd F e_X10_readLease_189 ?_
      refine Wm.topE (w := nI (P1.n5 + 1)) (nI_add P1.n5 1) ?_
      refine r_callV F e_X10_readLease_190 (q_X10_reads0 (x_l X) V c T Z u h P1 L _ _ (P1.n5 + 1) h7989.1 (hob) hP1 (by omega) (by first | omega | assumption | decide)) cb_X10_reads ml_X10_170 im_X10_reads se_X10_reads h7989 rfl rfl (rest := []) rfl (Nat.le_of_ble_eq_true rfl) ⟨Nat.le_of_ble_eq_true rfl, Nat.le_of_ble_eq_true rfl⟩ ⟨Nat.le_of_ble_eq_true rfl, Nat.le_of_ble_eq_true rfl⟩ (fun r σ7990 hp => ?_)
      obtain ⟨h7991, rfl⟩ := hp
      have h7992 := HS.trans h7989 h7991 (by decide)
      obtain ⟨P7993, eP7993⟩ : ∃ P9, P9 = (mkP P1.n0 P1.n2 (P1.n5 + 1) P1.n7 P1.m0 P1.m5 P1.w2 P1.w7 P1.kk P1.a P1.f P1.p) := ⟨_, rfl⟩
      rw [← eP7993] at h7992
      have fP7993 : P7993.n0 = P1.n0 ∧ P7993.n2 = P1.n2 ∧ P7993.n5 = P1.n5 + 1 ∧ P7993.n7 = P1.n7 ∧ P7993.m0 = P1.m0 ∧ P7993.m5 = P1.m5 ∧ P7993.w2 = P1.w2 ∧ P7993.w7 = P1.w7 ∧ P7993.kk = P1.kk ∧ P7993.a = P1.a ∧ P7993.f = P1.f ∧ P7993.p = P1.p := by rw [eP7993]; exact ⟨rfl, rfl, rfl, rfl, rfl, rfl, rfl, rfl, rfl, rfl, rfl, rfl⟩
      have oP7994 : OKP P7993 := by unfold OKP; omega
      exact m_vret F hQ e_X10_readLease_193 (⟨P7993, oP7994, (by unfold RP; omega), h7992, rfl⟩)
    · have c160 : i < 48 := by have hh := mt (nI_leI (a := 48) (b := i) (by omega) (by omega)).mpr q160; omega
      refine m_aload_n F rfl e_X10_readLease_163 ?_
      refine r_get F e_X10_readLease_164 fl_X10_37 h1 rfl (fun v hv f7995 => ?_)
      obtain rfl : v = .ref (c + 10) := hv
      refine m_bipush F (v := 48) (by decide) e_X10_readLease_167 ?_
      refine m_iload_n F rfl e_X10_readLease_169 ?_
      refine m_imul F e_X10_readLease_170 ?_
      refine Wm.topE (w := nI (48 * a)) (pk_mul 48 a) ?_
      refine m_iload_n F rfl e_X10_readLease_171 ?_
      refine m_iadd F e_X10_readLease_172 ?_
      refine Wm.topE (w := nI ((48 * a) + i)) (nI_add (48 * a) i) ?_
      refine m_iconst F (v := 0) (by decide) e_X10_readLease_173 ?_
      refine r_iast F (g' := (⟨T, Z, u, h, P1, L⟩ : RG)) (len := 384) (j := (48 * a) + i) e_X10_readLease_174 h1 (fun _ h => h) (fun f h => ⟨f, rfl, h⟩) (by decide) (by decide) (nI_clamp (by omega)) (vp_in_nI (by omega) (by decide)) trivial (fun _ _ _ h => h) (fun _ _ _ h => h) (fun σ7996 h7997 g7998 f7999 g8000 => ?_)
      refine m_iinc F (v := nI (i + 1)) (lv' := [(2, .int (nI (i + 1))), (0, .ref c), (1, .int (nI a))]) e_X10_readLease_175 rfl (nI_add i 1) (by decide) rfl ?_
      refine m_goto F e_X10_readLease_178 ?_
      refine Wm.lvsub (lv' := [(0, .ref c), (1, .int (nI a)), (2, .int (nI (i + 1)))]) ?_ [1, 2, 0] rfl
      exact ih a (i + 1) P1 _ h7997 hP1 (by unfold RP; omega) (by omega) (by omega)
set_option maxRecDepth 20000 in
theorem q_X10_readLease (l : Launch) (V : VX) (c T Z u h : Nat) (P : NP) (L : Nat → LQ) (N : Nat) (σ : Mem)  (h0 : HR V c ⟨T, Z, u, h, P, L⟩ σ) (hob : OKB L) (hP : OKP P)  : Ct l V yX10_readLease cX10_readLease 3 none 8 0 0 N σ [.ref c] (fun r τ => ∃ P9 : NP, OKP P9 ∧ RP P P9 ∧ HS V c (⟨T, Z, u, h, P9, L⟩ : RG) [0, 2, 12, 13, 14, 15, 16, 17, 18, 19, 20, 21, 22, 23] σ τ ∧ r = none) := by
  refine Ct.of (by decide) (Nat.le_of_ble_eq_true rfl) [(0, .ref c)] rfl (fun X hX F hQ => ?_)
  have hPP := hP
  unfold OKP at hPP
  have h1 : HS V c ⟨T, Z, u, h, P, L⟩ [0, 2, 12, 13, 14, 15, 16, 17, 18, 19, 20, 21, 22, 23] σ σ := HS.start h0
  refine m_aload_n F rfl e_X10_readLease_0 ?_
  refine m_iconst F (v := 0) (by decide) e_X10_readLease_1 ?_
  refine r_callV F e_X10_readLease_2 (q_X10_reading0 (x_l X) V c T Z u h P L _ _  h1.1 (hob) hP ) cb_X10_reading ml_X10_157 im_X10_reading se_X10_reading h1 rfl rfl (rest := []) rfl (Nat.le_of_ble_eq_true rfl) ⟨Nat.le_of_ble_eq_true rfl, Nat.le_of_ble_eq_true rfl⟩ ⟨Nat.le_of_ble_eq_true rfl, Nat.le_of_ble_eq_true rfl⟩ (fun r σ8001 hp => ?_)
  obtain ⟨h8002, rfl⟩ := hp
  have h8003 := HS.trans h1 h8002 (by decide)
  refine m_iconst F (v := 4) (by decide) e_X10_readLease_5 ?_
  refine m_icmp_ne F e_X10_readLease_6 (fun q6 => ?_) (fun q6 => ?_)
  · have c6 : P.n5 ≠ 4 := by have hh := mt (nI_eq (a := P.n5) (b := 4) (by omega) (by omega)).mpr q6; omega
    refine m_aload_n F rfl e_X10_readLease_14 ?_
    refine r_callV F e_X10_readLease_15 (q_X10_goOn (x_l X) V c T Z u h P L _ _  h8003.1 (hob) hP ) cb_X10_goOn ml_X10_154 im_X10_goOn se_X10_goOn h8003 rfl rfl (rest := []) rfl (Nat.le_of_ble_eq_true rfl) ⟨Nat.le_of_ble_eq_true rfl, Nat.le_of_ble_eq_true rfl⟩ ⟨Nat.le_of_ble_eq_true rfl, Nat.le_of_ble_eq_true rfl⟩ (fun r σ8004 hp => ?_)
    obtain ⟨P8007, oP8007, rP8007, pr8008, h8005, rfl⟩ := hp
    have h8006 := HS.trans h8003 h8005 (by decide)
    have xP8007 := oP8007
    unfold OKP at xP8007
    unfold RA at rP8007
    refine m_aload_n F rfl e_X10_readLease_18 ?_
    refine r_get F e_X10_readLease_19 fl_X10_141 h8006 rfl (fun v hv f8009 => ?_)
    obtain ⟨x8010, hx8010, rfl⟩ := hv
    replace hx8010 : Z = 0 → x8010 ≠ 0 := hx8010
    refine m_if_eq F e_X10_readLease_22 (fun q22 => ?_) (fun q22 => ?_)
    · subst q22
      refine m_aload_n F rfl e_X10_readLease_26 ?_
      refine r_get F e_X10_readLease_27 fl_X10_110 h8006 rfl (fun v hv f8011 => ?_)
      obtain ⟨x8012, rfl⟩ := hv
      refine m_iconst F (v := 1) (by decide) e_X10_readLease_30 ?_
      refine m_icmp_eq F e_X10_readLease_31 (fun q31 => ?_) (fun q31 => ?_)
      · subst q31
        refine m_aload_n F rfl e_X10_readLease_42 ?_
        refine m_iconst F (v := 4) (by decide) e_X10_readLease_43 ?_
        refine m_aload_n F rfl e_X10_readLease_44 ?_
        refine m_iconst F (v := 0) (by decide) e_X10_readLease_45 ?_
        refine r_callV F e_X10_readLease_46 (q_X10_reading0 (x_l X) V c T Z u h P8007 L _ _  h8006.1 (hob) oP8007 ) cb_X10_reading ml_X10_157 im_X10_reading se_X10_reading h8006 rfl rfl (rest := [.int 4, .ref c]) rfl (Nat.le_of_ble_eq_true rfl) ⟨Nat.le_of_ble_eq_true rfl, Nat.le_of_ble_eq_true rfl⟩ ⟨Nat.le_of_ble_eq_true rfl, Nat.le_of_ble_eq_true rfl⟩ (fun r σ8013 hp => ?_)
        obtain ⟨h8014, rfl⟩ := hp
        have h8015 := HS.trans h8006 h8014 (by decide)
        refine m_aload_n F rfl e_X10_readLease_49 ?_
        refine r_get F e_X10_readLease_50 fl_X10_120 h8015 rfl (fun v hv f8016 => ?_)
        obtain ⟨x8017, rfl⟩ := hv
        refine r_callV F e_X10_readLease_53 (q_X10_namedAt (x_l X) V c T Z u h P8007 L _ _ 4 P8007.n5 x8017 h8015.1 (hob) oP8007 (by omega) (by omega)) cb_X10_namedAt ml_X10_161 im_X10_namedAt se_X10_namedAt h8015 rfl rfl (rest := []) rfl (Nat.le_of_ble_eq_true rfl) ⟨Nat.le_of_ble_eq_true rfl, Nat.le_of_ble_eq_true rfl⟩ ⟨Nat.le_of_ble_eq_true rfl, Nat.le_of_ble_eq_true rfl⟩ (fun r σ8018 hp => ?_)
        obtain ⟨h8019, c8021⟩ := hp
        have h8020 := HS.trans h8015 h8019 (by decide)
        rcases c8021 with rfl | ⟨n8022, hn8022, rfl⟩
        · refine m_iconst F (v := (-1)) (by decide) e_X10_readLease_56 ?_
          refine m_icmp_eq F e_X10_readLease_57 (fun _ => ?_) (fun q => absurd (by decide) q)
          refine m_aload_n F rfl e_X10_readLease_65 ?_
          refine r_getC F e_X10_readLease_66 fl_X10_141 h8020 ((fld_eq (h8019.2 c (by rw [show kC c c = 1 from kC_at (k := 0) (by decide)]; decide))).trans ((fld_eq (h8014.2 c (by rw [show kC c c = 1 from kC_at (k := 0) (by decide)]; decide))).trans f8009)) ?_
          refine m_if_eq F e_X10_readLease_69 (fun _ => ?_) (fun q => absurd (by decide) q)
          refine m_iconst F (v := 4) (by decide) e_X10_readLease_73 ?_
          refine m_aload_n F rfl e_X10_readLease_74 ?_
          refine m_iconst F (v := 0) (by decide) e_X10_readLease_75 ?_
          refine r_callV F e_X10_readLease_76 (q_X10_reading0 (x_l X) V c T Z u h P8007 L _ _  h8020.1 (hob) oP8007 ) cb_X10_reading ml_X10_157 im_X10_reading se_X10_reading h8020 rfl rfl (rest := [.int 4]) rfl (Nat.le_of_ble_eq_true rfl) ⟨Nat.le_of_ble_eq_true rfl, Nat.le_of_ble_eq_true rfl⟩ ⟨Nat.le_of_ble_eq_true rfl, Nat.le_of_ble_eq_true rfl⟩ (fun r σ8023 hp => ?_)
          obtain ⟨h8024, rfl⟩ := hp
          have h8025 := HS.trans h8020 h8024 (by decide)
          refine m_iadd F e_X10_readLease_79 ?_
          refine Wm.topE (w := nI (4 + P8007.n5)) (nI_add 4 P8007.n5) ?_
          refine m_istore_n F (lv' := [(1, .int (nI (4 + P8007.n5))), (0, .ref c)]) e_X10_readLease_80 (by decide) rfl ?_
          refine m_aload_n F rfl e_X10_readLease_81 ?_
          refine r_get F e_X10_readLease_82 fl_X10_16 h8025 rfl (fun v hv f8026 => ?_)
          obtain rfl : v = .ref (c + 3) := hv
          refine m_iload_n F rfl e_X10_readLease_85 ?_
          refine m_aload_n F rfl e_X10_readLease_86 ?_
          refine r_getC F e_X10_readLease_87 fl_X10_120 h8025 ((fld_eq (h8024.2 c (by rw [show kC c c = 1 from kC_at (k := 0) (by decide)]; decide))).trans ((fld_eq (h8019.2 c (by rw [show kC c c = 1 from kC_at (k := 0) (by decide)]; decide))).trans f8016)) ?_
          refine r_iast F (g' := (⟨T, Z, u, h, P8007, L⟩ : RG)) (len := 8) (j := 4 + P8007.n5) e_X10_readLease_90 h8025 (fun _ h => h) (fun f h => ⟨f, rfl, h⟩) (by decide) (by decide) (nI_clamp (by omega)) (vp_in_nI (by omega) (by decide)) trivial (fun _ _ _ h => h) (fun _ _ _ h => h) (fun σ8027 h8028 g8029 f8030 g8031 => ?_)
          refine m_aload_n F rfl e_X10_readLease_91 ?_
          refine r_callV F e_X10_readLease_92 (q_X10_token (x_l X) V c T Z u h P8007 L _ _  h8028.1 (hob) oP8007 ) cb_X10_token ml_X10_147 im_X10_token se_X10_token h8028 rfl rfl (rest := []) rfl (Nat.le_of_ble_eq_true rfl) ⟨Nat.le_of_ble_eq_true rfl, Nat.le_of_ble_eq_true rfl⟩ ⟨Nat.le_of_ble_eq_true rfl, Nat.le_of_ble_eq_true rfl⟩ (fun r σ8032 hp => ?_)
          obtain ⟨P8035, oP8035, rP8035, pr8036, h8033, rfl⟩ := hp
          have h8034 := HS.trans h8028 h8033 (by decide)
          have xP8035 := oP8035
          unfold OKP at xP8035
          unfold RA at rP8035
          refine m_aload_n F rfl e_X10_readLease_95 ?_
          refine r_get F e_X10_readLease_96 fl_X10_19 h8034 rfl (fun v hv f8037 => ?_)
          obtain rfl : v = .ref (c + 4) := hv
          refine m_iload_n F rfl e_X10_readLease_99 ?_
          refine m_aload_n F rfl e_X10_readLease_100 ?_
          refine m_iconst F (v := 0) (by decide) e_X10_readLease_101 ?_
          refine m_bipush F (v := 20) (by decide) e_X10_readLease_102 ?_
          refine r_callV F e_X10_readLease_104 (q_X10_numeral (x_l X) V c T Z u h P8035 L _ _ 0 20 h8034.1 (hob) oP8035 (by omega) (by omega)) cb_X10_numeral ml_X10_165 im_X10_numeral se_X10_numeral h8034 rfl rfl (rest := [.int (nI (4 + P8007.n5)), .ref (c + 4)]) rfl (Nat.le_of_ble_eq_true rfl) ⟨Nat.le_of_ble_eq_true rfl, Nat.le_of_ble_eq_true rfl⟩ ⟨Nat.le_of_ble_eq_true rfl, Nat.le_of_ble_eq_true rfl⟩ (fun r σ8038 hp => ?_)
          obtain ⟨P8042, oP8042, rP8042, h8039, c8041⟩ := hp
          have h8040 := HS.trans h8034 h8039 (by decide)
          have xP8042 := oP8042
          unfold OKP at xP8042
          unfold RA at rP8042
          rcases c8041 with ⟨n8043, gn8043, hn8043, rfl⟩ | ⟨h8044, rfl⟩
          · refine r_iast F (g' := (⟨T, Z, u, h, P8042, L⟩ : RG)) (len := 8) (j := 4 + P8007.n5) e_X10_readLease_107 h8040 (fun _ h => h) (fun f h => ⟨f, rfl, h⟩) (by decide) (by decide) (nI_clamp (by omega)) (vp_in_nI (by omega) (by decide)) trivial (fun _ _ _ h => h) (fun _ _ _ h => h) (fun σ8045 h8046 g8047 f8048 g8049 => ?_)
            refine m_aload_n F rfl e_X10_readLease_108 ?_
            refine r_get F e_X10_readLease_109 fl_X10_22 h8046 rfl (fun v hv f8050 => ?_)
            obtain rfl : v = .ref (c + 5) := hv
            refine m_iload_n F rfl e_X10_readLease_112 ?_
            refine m_aload_n F rfl e_X10_readLease_113 ?_
            refine m_iconst F (v := 1) (by decide) e_X10_readLease_114 ?_
            refine m_bipush F (v := 48) (by decide) e_X10_readLease_115 ?_
            refine r_callV F e_X10_readLease_117 (q_X10_numeral (x_l X) V c T Z u h P8042 L _ _ 1 48 h8046.1 (hob) oP8042 (by omega) (by omega)) cb_X10_numeral ml_X10_165 im_X10_numeral se_X10_numeral h8046 rfl rfl (rest := [.int (nI (4 + P8007.n5)), .ref (c + 5)]) rfl (Nat.le_of_ble_eq_true rfl) ⟨Nat.le_of_ble_eq_true rfl, Nat.le_of_ble_eq_true rfl⟩ ⟨Nat.le_of_ble_eq_true rfl, Nat.le_of_ble_eq_true rfl⟩ (fun r σ8051 hp => ?_)
            obtain ⟨P8055, oP8055, rP8055, h8052, c8054⟩ := hp
            have h8053 := HS.trans h8046 h8052 (by decide)
            have xP8055 := oP8055
            unfold OKP at xP8055
            unfold RA at rP8055
            rcases c8054 with ⟨n8056, gn8056, hn8056, rfl⟩ | ⟨h8057, rfl⟩
            · refine r_iast F (g' := (⟨T, Z, u, h, (mkP P8055.n0 P8055.n2 P8055.n5 P8055.n7 P8055.m0 (P8055.n5 + 1) P8055.w2 P8055.w7 P8055.kk P8055.a P8055.f P8055.p), L⟩ : RG)) (len := 8) (j := 4 + P8007.n5) e_X10_readLease_120 h8053 (fun _ h => h) (fun f h => ⟨f, rfl, h⟩) (by decide) (by decide) (nI_clamp (by omega)) (vp_in_nI (by omega) (by decide)) ⟨n8056, by omega, rfl, fun h7 _ => absurd h7 (by omega), fun _ _ => by omega⟩ (fun i hi y hy => by obtain ⟨n9, a9, b9, c9, d9⟩ := hy; exact ⟨n9, a9, b9, c9, fun h7 h8 => d9 h7 (show i < 4 + P8055.m5 by have h6 : i < 4 + (P8055.n5 + 1) := h8; omega)⟩) (CR.chg (by intro k hk i x h; unfold EI at h ⊢; split at h <;> first | exact h | exact absurd rfl hk | trivial) rfl rfl rfl rfl) (fun σ8058 h8059 g8060 f8061 g8062 => ?_)
              obtain ⟨P8063, eP8063⟩ : ∃ P9, P9 = (mkP P8055.n0 P8055.n2 P8055.n5 P8055.n7 P8055.m0 (P8055.n5 + 1) P8055.w2 P8055.w7 P8055.kk P8055.a P8055.f P8055.p) := ⟨_, rfl⟩
              rw [← eP8063] at h8059
              have fP8063 : P8063.n0 = P8055.n0 ∧ P8063.n2 = P8055.n2 ∧ P8063.n5 = P8055.n5 ∧ P8063.n7 = P8055.n7 ∧ P8063.m0 = P8055.m0 ∧ P8063.m5 = P8055.n5 + 1 ∧ P8063.w2 = P8055.w2 ∧ P8063.w7 = P8055.w7 ∧ P8063.kk = P8055.kk ∧ P8063.a = P8055.a ∧ P8063.f = P8055.f ∧ P8063.p = P8055.p := by rw [eP8063]; exact ⟨rfl, rfl, rfl, rfl, rfl, rfl, rfl, rfl, rfl, rfl, rfl, rfl⟩
              refine m_aload_n F rfl e_X10_readLease_121 ?_
              refine r_get F e_X10_readLease_122 fl_X10_25 h8059 rfl (fun v hv f8064 => ?_)
              obtain rfl : v = .ref (c + 6) := hv
              refine m_iload_n F rfl e_X10_readLease_125 ?_
              refine m_aload_n F rfl e_X10_readLease_126 ?_
              refine m_iconst F (v := 0) (by decide) e_X10_readLease_127 ?_
              refine m_ldc F kc_X10_169 e_X10_readLease_128 ?_
              have oP8068 : OKP P8063 := by unfold OKP; omega
              refine r_callV F e_X10_readLease_130 (q_X10_numeral (x_l X) V c T Z u h P8063 L _ _ 0 200000 h8059.1 (hob) oP8068 (by omega) (by omega)) cb_X10_numeral ml_X10_165 im_X10_numeral se_X10_numeral h8059 rfl rfl (rest := [.int (nI (4 + P8007.n5)), .ref (c + 6)]) rfl (Nat.le_of_ble_eq_true rfl) ⟨Nat.le_of_ble_eq_true rfl, Nat.le_of_ble_eq_true rfl⟩ ⟨Nat.le_of_ble_eq_true rfl, Nat.le_of_ble_eq_true rfl⟩ (fun r σ8065 hp => ?_)
              obtain ⟨P8070, oP8070, rP8070, h8066, c8069⟩ := hp
              have h8067 := HS.trans h8059 h8066 (by decide)
              have xP8070 := oP8070
              unfold OKP at xP8070
              unfold RA at rP8070
              rcases c8069 with ⟨n8071, gn8071, hn8071, rfl⟩ | ⟨h8072, rfl⟩
              · refine r_iast F (g' := (⟨T, Z, u, h, P8070, L⟩ : RG)) (len := 8) (j := 4 + P8007.n5) e_X10_readLease_133 h8067 (fun _ h => h) (fun f h => ⟨f, rfl, h⟩) (by decide) (by decide) (nI_clamp (by omega)) (vp_in_nI (by omega) (by decide)) ⟨n8071, by omega, rfl⟩ (fun _ _ _ h => h) (fun _ _ _ h => h) (fun σ8073 h8074 g8075 f8076 g8077 => ?_)
                refine m_aload_n F rfl e_X10_readLease_134 ?_
                refine r_get F e_X10_readLease_135 fl_X10_28 h8074 rfl (fun v hv f8078 => ?_)
                obtain rfl : v = .ref (c + 7) := hv
                refine m_iload_n F rfl e_X10_readLease_138 ?_
                refine m_iconst F (v := 0) (by decide) e_X10_readLease_139 ?_
                refine r_iast F (g' := (⟨T, Z, u, h, P8070, L⟩ : RG)) (len := 8) (j := 4 + P8007.n5) e_X10_readLease_140 h8074 (fun _ h => h) (fun f h => ⟨f, rfl, h⟩) (by decide) (by decide) (nI_clamp (by omega)) (vp_in_nI (by omega) (by decide)) trivial (fun _ _ _ h => h) (fun _ _ _ h => h) (fun σ8079 h8080 g8081 f8082 g8083 => ?_)
                refine m_aload_n F rfl e_X10_readLease_141 ?_
                refine r_get F e_X10_readLease_142 fl_X10_31 h8080 rfl (fun v hv f8084 => ?_)
                obtain rfl : v = .ref (c + 8) := hv
                refine m_iload_n F rfl e_X10_readLease_145 ?_
                refine m_iconst F (v := 0) (by decide) e_X10_readLease_146 ?_
                refine r_iast F (g' := (⟨T, Z, u, h, P8070, L⟩ : RG)) (len := 8) (j := 4 + P8007.n5) e_X10_readLease_147 h8080 (fun _ h => h) (fun f h => ⟨f, rfl, h⟩) (by decide) (by decide) (nI_clamp (by omega)) (vp_in_nI (by omega) (by decide)) trivial (fun _ _ _ h => h) (fun _ _ _ h => h) (fun σ8085 h8086 g8087 f8088 g8089 => ?_)
                refine m_aload_n F rfl e_X10_readLease_148 ?_
                refine r_get F e_X10_readLease_149 fl_X10_34 h8086 rfl (fun v hv f8090 => ?_)
                obtain rfl : v = .ref (c + 9) := hv
                refine m_iload_n F rfl e_X10_readLease_152 ?_
                refine m_iconst F (v := 0) (by decide) e_X10_readLease_153 ?_
                refine r_iast F (g' := (⟨T, Z, u, h, P8070, L⟩ : RG)) (len := 8) (j := 4 + P8007.n5) e_X10_readLease_154 h8086 (fun _ h => h) (fun f h => ⟨f, rfl, h⟩) (by decide) (by decide) (nI_clamp (by omega)) (vp_in_nI (by omega) (by decide)) trivial (fun _ _ _ h => h) (fun _ _ _ h => h) (fun σ8091 h8092 g8093 f8094 g8095 => ?_)
                refine m_iconst F (v := 0) (by decide) e_X10_readLease_155 ?_
                refine m_istore_n F (lv' := [(2, .int 0), (1, .int (nI (4 + P8007.n5))), (0, .ref c)]) e_X10_readLease_156 (by decide) rfl ?_
                refine Wm.lvsub (lv' := [(0, .ref c), (1, .int (nI (4 + P8007.n5))), (2, .int 0)]) ?_ [2, 1, 0] rfl
                exact lq_X10_readLease_157 F hQ hob hP  (48 - 0 + 1) (4 + P8007.n5) 0 P8070 _ h8092 oP8070 (by unfold RP; omega) (by omega) (Nat.lt_succ_self _)
              · have h8096 : HS V c (⟨T, 0, u, h, P8070, L⟩ : RG) [0, 2, 12, 13, 14, 15, 16, 17, 18, 19, 20, 21, 22, 23] _ _ := ⟨h8072, h8067.2⟩
                refine r_iast F (g' := (⟨T, 0, u, h, P8070, L⟩ : RG)) (len := 8) (j := 4 + P8007.n5) e_X10_readLease_133 h8096 (fun _ h => h) (fun f h => ⟨f, rfl, h⟩) (by decide) (by decide) (nI_clamp (by omega)) (vp_in_nI (by omega) (by decide)) ⟨0, by omega, rfl⟩ (fun _ _ _ h => h) (fun _ _ _ h => h) (fun σ8097 h8098 g8099 f8100 g8101 => ?_)
                refine m_aload_n F rfl e_X10_readLease_134 ?_
                refine r_get F e_X10_readLease_135 fl_X10_28 h8098 rfl (fun v hv f8102 => ?_)
                obtain rfl : v = .ref (c + 7) := hv
                refine m_iload_n F rfl e_X10_readLease_138 ?_
                refine m_iconst F (v := 0) (by decide) e_X10_readLease_139 ?_
                refine r_iast F (g' := (⟨T, 0, u, h, P8070, L⟩ : RG)) (len := 8) (j := 4 + P8007.n5) e_X10_readLease_140 h8098 (fun _ h => h) (fun f h => ⟨f, rfl, h⟩) (by decide) (by decide) (nI_clamp (by omega)) (vp_in_nI (by omega) (by decide)) trivial (fun _ _ _ h => h) (fun _ _ _ h => h) (fun σ8103 h8104 g8105 f8106 g8107 => ?_)
                refine m_aload_n F rfl e_X10_readLease_141 ?_
                refine r_get F e_X10_readLease_142 fl_X10_31 h8104 rfl (fun v hv f8108 => ?_)
                obtain rfl : v = .ref (c + 8) := hv
                refine m_iload_n F rfl e_X10_readLease_145 ?_
                refine m_iconst F (v := 0) (by decide) e_X10_readLease_146 ?_
                refine r_iast F (g' := (⟨T, 0, u, h, P8070, L⟩ : RG)) (len := 8) (j := 4 + P8007.n5) e_X10_readLease_147 h8104 (fun _ h => h) (fun f h => ⟨f, rfl, h⟩) (by decide) (by decide) (nI_clamp (by omega)) (vp_in_nI (by omega) (by decide)) trivial (fun _ _ _ h => h) (fun _ _ _ h => h) (fun σ8109 h8110 g8111 f8112 g8113 => ?_)
                refine m_aload_n F rfl e_X10_readLease_148 ?_
                refine r_get F e_X10_readLease_149 fl_X10_34 h8110 rfl (fun v hv f8114 => ?_)
                obtain rfl : v = .ref (c + 9) := hv
                refine m_iload_n F rfl e_X10_readLease_152 ?_
                refine m_iconst F (v := 0) (by decide) e_X10_readLease_153 ?_
                refine r_iast F (g' := (⟨T, 0, u, h, P8070, L⟩ : RG)) (len := 8) (j := 4 + P8007.n5) e_X10_readLease_154 h8110 (fun _ h => h) (fun f h => ⟨f, rfl, h⟩) (by decide) (by decide) (nI_clamp (by omega)) (vp_in_nI (by omega) (by decide)) trivial (fun _ _ _ h => h) (fun _ _ _ h => h) (fun σ8115 h8116 g8117 f8118 g8119 => ?_)
                refine m_iconst F (v := 0) (by decide) e_X10_readLease_155 ?_
                refine m_istore_n F (lv' := [(2, .int 0), (1, .int (nI (4 + P8007.n5))), (0, .ref c)]) e_X10_readLease_156 (by decide) rfl ?_
                refine Wm.lvsub (lv' := [(0, .ref c), (1, .int (nI (4 + P8007.n5))), (2, .int 0)]) ?_ [2, 1, 0] rfl
                exact lq_X10_readLease_157 F hQ hob hP  (48 - 0 + 1) (4 + P8007.n5) 0 P8070 _ ⟨HR.mono (Z' := Z) (by intro e9; first | rfl | assumption | omega) h8116.1, h8116.2⟩ oP8070 (by unfold RP; omega) (by omega) (Nat.lt_succ_self _)
            · have h8120 : HS V c (⟨T, 0, u, h, P8055, L⟩ : RG) [0, 2, 12, 13, 14, 15, 16, 17, 18, 19, 20, 21, 22, 23] _ _ := ⟨h8057, h8053.2⟩
              refine r_iast F (g' := (⟨T, 0, u, h, (mkP P8055.n0 P8055.n2 P8055.n5 P8055.n7 P8055.m0 (P8055.n5 + 1) P8055.w2 P8055.w7 P8055.kk P8055.a P8055.f P8055.p), L⟩ : RG)) (len := 8) (j := 4 + P8007.n5) e_X10_readLease_120 h8120 (fun _ h => h) (fun f h => ⟨f, rfl, h⟩) (by decide) (by decide) (nI_clamp (by omega)) (vp_in_nI (by omega) (by decide)) ⟨1, by omega, rfl, fun h7 _ => absurd h7 (by omega), fun _ _ => by omega⟩ (fun i hi y hy => by obtain ⟨n9, a9, b9, c9, d9⟩ := hy; exact ⟨n9, a9, b9, c9, fun h7 h8 => d9 h7 (show i < 4 + P8055.m5 by have h6 : i < 4 + (P8055.n5 + 1) := h8; omega)⟩) (CR.chg (by intro k hk i x h; unfold EI at h ⊢; split at h <;> first | exact h | exact absurd rfl hk | trivial) rfl rfl rfl rfl) (fun σ8121 h8122 g8123 f8124 g8125 => ?_)
              obtain ⟨P8126, eP8126⟩ : ∃ P9, P9 = (mkP P8055.n0 P8055.n2 P8055.n5 P8055.n7 P8055.m0 (P8055.n5 + 1) P8055.w2 P8055.w7 P8055.kk P8055.a P8055.f P8055.p) := ⟨_, rfl⟩
              rw [← eP8126] at h8122
              have fP8126 : P8126.n0 = P8055.n0 ∧ P8126.n2 = P8055.n2 ∧ P8126.n5 = P8055.n5 ∧ P8126.n7 = P8055.n7 ∧ P8126.m0 = P8055.m0 ∧ P8126.m5 = P8055.n5 + 1 ∧ P8126.w2 = P8055.w2 ∧ P8126.w7 = P8055.w7 ∧ P8126.kk = P8055.kk ∧ P8126.a = P8055.a ∧ P8126.f = P8055.f ∧ P8126.p = P8055.p := by rw [eP8126]; exact ⟨rfl, rfl, rfl, rfl, rfl, rfl, rfl, rfl, rfl, rfl, rfl, rfl⟩
              refine m_aload_n F rfl e_X10_readLease_121 ?_
              refine r_get F e_X10_readLease_122 fl_X10_25 h8122 rfl (fun v hv f8127 => ?_)
              obtain rfl : v = .ref (c + 6) := hv
              refine m_iload_n F rfl e_X10_readLease_125 ?_
              refine m_aload_n F rfl e_X10_readLease_126 ?_
              refine m_iconst F (v := 0) (by decide) e_X10_readLease_127 ?_
              refine m_ldc F kc_X10_169 e_X10_readLease_128 ?_
              have oP8131 : OKP P8126 := by unfold OKP; omega
              refine r_callV F e_X10_readLease_130 (q_X10_numeral (x_l X) V c T 0 u h P8126 L _ _ 0 200000 h8122.1 (hob) oP8131 (by omega) (by omega)) cb_X10_numeral ml_X10_165 im_X10_numeral se_X10_numeral h8122 rfl rfl (rest := [.int (nI (4 + P8007.n5)), .ref (c + 6)]) rfl (Nat.le_of_ble_eq_true rfl) ⟨Nat.le_of_ble_eq_true rfl, Nat.le_of_ble_eq_true rfl⟩ ⟨Nat.le_of_ble_eq_true rfl, Nat.le_of_ble_eq_true rfl⟩ (fun r σ8128 hp => ?_)
              obtain ⟨P8133, oP8133, rP8133, h8129, c8132⟩ := hp
              have h8130 := HS.trans h8122 h8129 (by decide)
              have xP8133 := oP8133
              unfold OKP at xP8133
              unfold RA at rP8133
              rcases c8132 with ⟨n8134, gn8134, hn8134, rfl⟩ | ⟨h8135, rfl⟩
              · refine r_iast F (g' := (⟨T, 0, u, h, P8133, L⟩ : RG)) (len := 8) (j := 4 + P8007.n5) e_X10_readLease_133 h8130 (fun _ h => h) (fun f h => ⟨f, rfl, h⟩) (by decide) (by decide) (nI_clamp (by omega)) (vp_in_nI (by omega) (by decide)) ⟨n8134, by omega, rfl⟩ (fun _ _ _ h => h) (fun _ _ _ h => h) (fun σ8136 h8137 g8138 f8139 g8140 => ?_)
                refine m_aload_n F rfl e_X10_readLease_134 ?_
                refine r_get F e_X10_readLease_135 fl_X10_28 h8137 rfl (fun v hv f8141 => ?_)
                obtain rfl : v = .ref (c + 7) := hv
                refine m_iload_n F rfl e_X10_readLease_138 ?_
                refine m_iconst F (v := 0) (by decide) e_X10_readLease_139 ?_
                refine r_iast F (g' := (⟨T, 0, u, h, P8133, L⟩ : RG)) (len := 8) (j := 4 + P8007.n5) e_X10_readLease_140 h8137 (fun _ h => h) (fun f h => ⟨f, rfl, h⟩) (by decide) (by decide) (nI_clamp (by omega)) (vp_in_nI (by omega) (by decide)) trivial (fun _ _ _ h => h) (fun _ _ _ h => h) (fun σ8142 h8143 g8144 f8145 g8146 => ?_)
                refine m_aload_n F rfl e_X10_readLease_141 ?_
                refine r_get F e_X10_readLease_142 fl_X10_31 h8143 rfl (fun v hv f8147 => ?_)
                obtain rfl : v = .ref (c + 8) := hv
                refine m_iload_n F rfl e_X10_readLease_145 ?_
                refine m_iconst F (v := 0) (by decide) e_X10_readLease_146 ?_
                refine r_iast F (g' := (⟨T, 0, u, h, P8133, L⟩ : RG)) (len := 8) (j := 4 + P8007.n5) e_X10_readLease_147 h8143 (fun _ h => h) (fun f h => ⟨f, rfl, h⟩) (by decide) (by decide) (nI_clamp (by omega)) (vp_in_nI (by omega) (by decide)) trivial (fun _ _ _ h => h) (fun _ _ _ h => h) (fun σ8148 h8149 g8150 f8151 g8152 => ?_)
                refine m_aload_n F rfl e_X10_readLease_148 ?_
                refine r_get F e_X10_readLease_149 fl_X10_34 h8149 rfl (fun v hv f8153 => ?_)
                obtain rfl : v = .ref (c + 9) := hv
                refine m_iload_n F rfl e_X10_readLease_152 ?_
                refine m_iconst F (v := 0) (by decide) e_X10_readLease_153 ?_
                refine r_iast F (g' := (⟨T, 0, u, h, P8133, L⟩ : RG)) (len := 8) (j := 4 + P8007.n5) e_X10_readLease_154 h8149 (fun _ h => h) (fun f h => ⟨f, rfl, h⟩) (by decide) (by decide) (nI_clamp (by omega)) (vp_in_nI (by omega) (by decide)) trivial (fun _ _ _ h => h) (fun _ _ _ h => h) (fun σ8154 h8155 g8156 f8157 g8158 => ?_)
                refine m_iconst F (v := 0) (by decide) e_X10_readLease_155 ?_
                refine m_istore_n F (lv' := [(2, .int 0), (1, .int (nI (4 + P8007.n5))), (0, .ref c)]) e_X10_readLease_156 (by decide) rfl ?_
                refine Wm.lvsub (lv' := [(0, .ref c), (1, .int (nI (4 + P8007.n5))), (2, .int 0)]) ?_ [2, 1, 0] rfl
                exact lq_X10_readLease_157 F hQ hob hP  (48 - 0 + 1) (4 + P8007.n5) 0 P8133 _ ⟨HR.mono (Z' := Z) (by intro e9; first | rfl | assumption | omega) h8155.1, h8155.2⟩ oP8133 (by unfold RP; omega) (by omega) (Nat.lt_succ_self _)
              · have h8159 : HS V c (⟨T, 0, u, h, P8133, L⟩ : RG) [0, 2, 12, 13, 14, 15, 16, 17, 18, 19, 20, 21, 22, 23] _ _ := ⟨h8135, h8130.2⟩
                refine r_iast F (g' := (⟨T, 0, u, h, P8133, L⟩ : RG)) (len := 8) (j := 4 + P8007.n5) e_X10_readLease_133 h8159 (fun _ h => h) (fun f h => ⟨f, rfl, h⟩) (by decide) (by decide) (nI_clamp (by omega)) (vp_in_nI (by omega) (by decide)) ⟨0, by omega, rfl⟩ (fun _ _ _ h => h) (fun _ _ _ h => h) (fun σ8160 h8161 g8162 f8163 g8164 => ?_)
                refine m_aload_n F rfl e_X10_readLease_134 ?_
                refine r_get F e_X10_readLease_135 fl_X10_28 h8161 rfl (fun v hv f8165 => ?_)
                obtain rfl : v = .ref (c + 7) := hv
                refine m_iload_n F rfl e_X10_readLease_138 ?_
                refine m_iconst F (v := 0) (by decide) e_X10_readLease_139 ?_
                refine r_iast F (g' := (⟨T, 0, u, h, P8133, L⟩ : RG)) (len := 8) (j := 4 + P8007.n5) e_X10_readLease_140 h8161 (fun _ h => h) (fun f h => ⟨f, rfl, h⟩) (by decide) (by decide) (nI_clamp (by omega)) (vp_in_nI (by omega) (by decide)) trivial (fun _ _ _ h => h) (fun _ _ _ h => h) (fun σ8166 h8167 g8168 f8169 g8170 => ?_)
                refine m_aload_n F rfl e_X10_readLease_141 ?_
                refine r_get F e_X10_readLease_142 fl_X10_31 h8167 rfl (fun v hv f8171 => ?_)
                obtain rfl : v = .ref (c + 8) := hv
                refine m_iload_n F rfl e_X10_readLease_145 ?_
                refine m_iconst F (v := 0) (by decide) e_X10_readLease_146 ?_
                refine r_iast F (g' := (⟨T, 0, u, h, P8133, L⟩ : RG)) (len := 8) (j := 4 + P8007.n5) e_X10_readLease_147 h8167 (fun _ h => h) (fun f h => ⟨f, rfl, h⟩) (by decide) (by decide) (nI_clamp (by omega)) (vp_in_nI (by omega) (by decide)) trivial (fun _ _ _ h => h) (fun _ _ _ h => h) (fun σ8172 h8173 g8174 f8175 g8176 => ?_)
                refine m_aload_n F rfl e_X10_readLease_148 ?_
                refine r_get F e_X10_readLease_149 fl_X10_34 h8173 rfl (fun v hv f8177 => ?_)
                obtain rfl : v = .ref (c + 9) := hv
                refine m_iload_n F rfl e_X10_readLease_152 ?_
                refine m_iconst F (v := 0) (by decide) e_X10_readLease_153 ?_
                refine r_iast F (g' := (⟨T, 0, u, h, P8133, L⟩ : RG)) (len := 8) (j := 4 + P8007.n5) e_X10_readLease_154 h8173 (fun _ h => h) (fun f h => ⟨f, rfl, h⟩) (by decide) (by decide) (nI_clamp (by omega)) (vp_in_nI (by omega) (by decide)) trivial (fun _ _ _ h => h) (fun _ _ _ h => h) (fun σ8178 h8179 g8180 f8181 g8182 => ?_)
                refine m_iconst F (v := 0) (by decide) e_X10_readLease_155 ?_
                refine m_istore_n F (lv' := [(2, .int 0), (1, .int (nI (4 + P8007.n5))), (0, .ref c)]) e_X10_readLease_156 (by decide) rfl ?_
                refine Wm.lvsub (lv' := [(0, .ref c), (1, .int (nI (4 + P8007.n5))), (2, .int 0)]) ?_ [2, 1, 0] rfl
                exact lq_X10_readLease_157 F hQ hob hP  (48 - 0 + 1) (4 + P8007.n5) 0 P8133 _ ⟨HR.mono (Z' := Z) (by intro e9; first | rfl | assumption | omega) h8179.1, h8179.2⟩ oP8133 (by unfold RP; omega) (by omega) (Nat.lt_succ_self _)
          · have h8183 : HS V c (⟨T, 0, u, h, P8042, L⟩ : RG) [0, 2, 12, 13, 14, 15, 16, 17, 18, 19, 20, 21, 22, 23] _ _ := ⟨h8044, h8040.2⟩
            refine r_iast F (g' := (⟨T, 0, u, h, P8042, L⟩ : RG)) (len := 8) (j := 4 + P8007.n5) e_X10_readLease_107 h8183 (fun _ h => h) (fun f h => ⟨f, rfl, h⟩) (by decide) (by decide) (nI_clamp (by omega)) (vp_in_nI (by omega) (by decide)) trivial (fun _ _ _ h => h) (fun _ _ _ h => h) (fun σ8184 h8185 g8186 f8187 g8188 => ?_)
            refine m_aload_n F rfl e_X10_readLease_108 ?_
            refine r_get F e_X10_readLease_109 fl_X10_22 h8185 rfl (fun v hv f8189 => ?_)
            obtain rfl : v = .ref (c + 5) := hv
            refine m_iload_n F rfl e_X10_readLease_112 ?_
            refine m_aload_n F rfl e_X10_readLease_113 ?_
            refine m_iconst F (v := 1) (by decide) e_X10_readLease_114 ?_
            refine m_bipush F (v := 48) (by decide) e_X10_readLease_115 ?_
            refine r_callV F e_X10_readLease_117 (q_X10_numeral (x_l X) V c T 0 u h P8042 L _ _ 1 48 h8185.1 (hob) oP8042 (by omega) (by omega)) cb_X10_numeral ml_X10_165 im_X10_numeral se_X10_numeral h8185 rfl rfl (rest := [.int (nI (4 + P8007.n5)), .ref (c + 5)]) rfl (Nat.le_of_ble_eq_true rfl) ⟨Nat.le_of_ble_eq_true rfl, Nat.le_of_ble_eq_true rfl⟩ ⟨Nat.le_of_ble_eq_true rfl, Nat.le_of_ble_eq_true rfl⟩ (fun r σ8190 hp => ?_)
            obtain ⟨P8194, oP8194, rP8194, h8191, c8193⟩ := hp
            have h8192 := HS.trans h8185 h8191 (by decide)
            have xP8194 := oP8194
            unfold OKP at xP8194
            unfold RA at rP8194
            rcases c8193 with ⟨n8195, gn8195, hn8195, rfl⟩ | ⟨h8196, rfl⟩
            · refine r_iast F (g' := (⟨T, 0, u, h, (mkP P8194.n0 P8194.n2 P8194.n5 P8194.n7 P8194.m0 (P8194.n5 + 1) P8194.w2 P8194.w7 P8194.kk P8194.a P8194.f P8194.p), L⟩ : RG)) (len := 8) (j := 4 + P8007.n5) e_X10_readLease_120 h8192 (fun _ h => h) (fun f h => ⟨f, rfl, h⟩) (by decide) (by decide) (nI_clamp (by omega)) (vp_in_nI (by omega) (by decide)) ⟨n8195, by omega, rfl, fun h7 _ => absurd h7 (by omega), fun _ _ => by omega⟩ (fun i hi y hy => by obtain ⟨n9, a9, b9, c9, d9⟩ := hy; exact ⟨n9, a9, b9, c9, fun h7 h8 => d9 h7 (show i < 4 + P8194.m5 by have h6 : i < 4 + (P8194.n5 + 1) := h8; omega)⟩) (CR.chg (by intro k hk i x h; unfold EI at h ⊢; split at h <;> first | exact h | exact absurd rfl hk | trivial) rfl rfl rfl rfl) (fun σ8197 h8198 g8199 f8200 g8201 => ?_)
              obtain ⟨P8202, eP8202⟩ : ∃ P9, P9 = (mkP P8194.n0 P8194.n2 P8194.n5 P8194.n7 P8194.m0 (P8194.n5 + 1) P8194.w2 P8194.w7 P8194.kk P8194.a P8194.f P8194.p) := ⟨_, rfl⟩
              rw [← eP8202] at h8198
              have fP8202 : P8202.n0 = P8194.n0 ∧ P8202.n2 = P8194.n2 ∧ P8202.n5 = P8194.n5 ∧ P8202.n7 = P8194.n7 ∧ P8202.m0 = P8194.m0 ∧ P8202.m5 = P8194.n5 + 1 ∧ P8202.w2 = P8194.w2 ∧ P8202.w7 = P8194.w7 ∧ P8202.kk = P8194.kk ∧ P8202.a = P8194.a ∧ P8202.f = P8194.f ∧ P8202.p = P8194.p := by rw [eP8202]; exact ⟨rfl, rfl, rfl, rfl, rfl, rfl, rfl, rfl, rfl, rfl, rfl, rfl⟩
              refine m_aload_n F rfl e_X10_readLease_121 ?_
              refine r_get F e_X10_readLease_122 fl_X10_25 h8198 rfl (fun v hv f8203 => ?_)
              obtain rfl : v = .ref (c + 6) := hv
              refine m_iload_n F rfl e_X10_readLease_125 ?_
              refine m_aload_n F rfl e_X10_readLease_126 ?_
              refine m_iconst F (v := 0) (by decide) e_X10_readLease_127 ?_
              refine m_ldc F kc_X10_169 e_X10_readLease_128 ?_
              have oP8207 : OKP P8202 := by unfold OKP; omega
              refine r_callV F e_X10_readLease_130 (q_X10_numeral (x_l X) V c T 0 u h P8202 L _ _ 0 200000 h8198.1 (hob) oP8207 (by omega) (by omega)) cb_X10_numeral ml_X10_165 im_X10_numeral se_X10_numeral h8198 rfl rfl (rest := [.int (nI (4 + P8007.n5)), .ref (c + 6)]) rfl (Nat.le_of_ble_eq_true rfl) ⟨Nat.le_of_ble_eq_true rfl, Nat.le_of_ble_eq_true rfl⟩ ⟨Nat.le_of_ble_eq_true rfl, Nat.le_of_ble_eq_true rfl⟩ (fun r σ8204 hp => ?_)
              obtain ⟨P8209, oP8209, rP8209, h8205, c8208⟩ := hp
              have h8206 := HS.trans h8198 h8205 (by decide)
              have xP8209 := oP8209
              unfold OKP at xP8209
              unfold RA at rP8209
              rcases c8208 with ⟨n8210, gn8210, hn8210, rfl⟩ | ⟨h8211, rfl⟩
              · refine r_iast F (g' := (⟨T, 0, u, h, P8209, L⟩ : RG)) (len := 8) (j := 4 + P8007.n5) e_X10_readLease_133 h8206 (fun _ h => h) (fun f h => ⟨f, rfl, h⟩) (by decide) (by decide) (nI_clamp (by omega)) (vp_in_nI (by omega) (by decide)) ⟨n8210, by omega, rfl⟩ (fun _ _ _ h => h) (fun _ _ _ h => h) (fun σ8212 h8213 g8214 f8215 g8216 => ?_)
                refine m_aload_n F rfl e_X10_readLease_134 ?_
                refine r_get F e_X10_readLease_135 fl_X10_28 h8213 rfl (fun v hv f8217 => ?_)
                obtain rfl : v = .ref (c + 7) := hv
                refine m_iload_n F rfl e_X10_readLease_138 ?_
                refine m_iconst F (v := 0) (by decide) e_X10_readLease_139 ?_
                refine r_iast F (g' := (⟨T, 0, u, h, P8209, L⟩ : RG)) (len := 8) (j := 4 + P8007.n5) e_X10_readLease_140 h8213 (fun _ h => h) (fun f h => ⟨f, rfl, h⟩) (by decide) (by decide) (nI_clamp (by omega)) (vp_in_nI (by omega) (by decide)) trivial (fun _ _ _ h => h) (fun _ _ _ h => h) (fun σ8218 h8219 g8220 f8221 g8222 => ?_)
                refine m_aload_n F rfl e_X10_readLease_141 ?_
                refine r_get F e_X10_readLease_142 fl_X10_31 h8219 rfl (fun v hv f8223 => ?_)
                obtain rfl : v = .ref (c + 8) := hv
                refine m_iload_n F rfl e_X10_readLease_145 ?_
                refine m_iconst F (v := 0) (by decide) e_X10_readLease_146 ?_
                refine r_iast F (g' := (⟨T, 0, u, h, P8209, L⟩ : RG)) (len := 8) (j := 4 + P8007.n5) e_X10_readLease_147 h8219 (fun _ h => h) (fun f h => ⟨f, rfl, h⟩) (by decide) (by decide) (nI_clamp (by omega)) (vp_in_nI (by omega) (by decide)) trivial (fun _ _ _ h => h) (fun _ _ _ h => h) (fun σ8224 h8225 g8226 f8227 g8228 => ?_)
                refine m_aload_n F rfl e_X10_readLease_148 ?_
                refine r_get F e_X10_readLease_149 fl_X10_34 h8225 rfl (fun v hv f8229 => ?_)
                obtain rfl : v = .ref (c + 9) := hv
                refine m_iload_n F rfl e_X10_readLease_152 ?_
                refine m_iconst F (v := 0) (by decide) e_X10_readLease_153 ?_
                refine r_iast F (g' := (⟨T, 0, u, h, P8209, L⟩ : RG)) (len := 8) (j := 4 + P8007.n5) e_X10_readLease_154 h8225 (fun _ h => h) (fun f h => ⟨f, rfl, h⟩) (by decide) (by decide) (nI_clamp (by omega)) (vp_in_nI (by omega) (by decide)) trivial (fun _ _ _ h => h) (fun _ _ _ h => h) (fun σ8230 h8231 g8232 f8233 g8234 => ?_)
                refine m_iconst F (v := 0) (by decide) e_X10_readLease_155 ?_
                refine m_istore_n F (lv' := [(2, .int 0), (1, .int (nI (4 + P8007.n5))), (0, .ref c)]) e_X10_readLease_156 (by decide) rfl ?_
                refine Wm.lvsub (lv' := [(0, .ref c), (1, .int (nI (4 + P8007.n5))), (2, .int 0)]) ?_ [2, 1, 0] rfl
                exact lq_X10_readLease_157 F hQ hob hP  (48 - 0 + 1) (4 + P8007.n5) 0 P8209 _ ⟨HR.mono (Z' := Z) (by intro e9; first | rfl | assumption | omega) h8231.1, h8231.2⟩ oP8209 (by unfold RP; omega) (by omega) (Nat.lt_succ_self _)
              · have h8235 : HS V c (⟨T, 0, u, h, P8209, L⟩ : RG) [0, 2, 12, 13, 14, 15, 16, 17, 18, 19, 20, 21, 22, 23] _ _ := ⟨h8211, h8206.2⟩
                refine r_iast F (g' := (⟨T, 0, u, h, P8209, L⟩ : RG)) (len := 8) (j := 4 + P8007.n5) e_X10_readLease_133 h8235 (fun _ h => h) (fun f h => ⟨f, rfl, h⟩) (by decide) (by decide) (nI_clamp (by omega)) (vp_in_nI (by omega) (by decide)) ⟨0, by omega, rfl⟩ (fun _ _ _ h => h) (fun _ _ _ h => h) (fun σ8236 h8237 g8238 f8239 g8240 => ?_)
                refine m_aload_n F rfl e_X10_readLease_134 ?_
                refine r_get F e_X10_readLease_135 fl_X10_28 h8237 rfl (fun v hv f8241 => ?_)
                obtain rfl : v = .ref (c + 7) := hv
                refine m_iload_n F rfl e_X10_readLease_138 ?_
                refine m_iconst F (v := 0) (by decide) e_X10_readLease_139 ?_
                refine r_iast F (g' := (⟨T, 0, u, h, P8209, L⟩ : RG)) (len := 8) (j := 4 + P8007.n5) e_X10_readLease_140 h8237 (fun _ h => h) (fun f h => ⟨f, rfl, h⟩) (by decide) (by decide) (nI_clamp (by omega)) (vp_in_nI (by omega) (by decide)) trivial (fun _ _ _ h => h) (fun _ _ _ h => h) (fun σ8242 h8243 g8244 f8245 g8246 => ?_)
                refine m_aload_n F rfl e_X10_readLease_141 ?_
                refine r_get F e_X10_readLease_142 fl_X10_31 h8243 rfl (fun v hv f8247 => ?_)
                obtain rfl : v = .ref (c + 8) := hv
                refine m_iload_n F rfl e_X10_readLease_145 ?_
                refine m_iconst F (v := 0) (by decide) e_X10_readLease_146 ?_
                refine r_iast F (g' := (⟨T, 0, u, h, P8209, L⟩ : RG)) (len := 8) (j := 4 + P8007.n5) e_X10_readLease_147 h8243 (fun _ h => h) (fun f h => ⟨f, rfl, h⟩) (by decide) (by decide) (nI_clamp (by omega)) (vp_in_nI (by omega) (by decide)) trivial (fun _ _ _ h => h) (fun _ _ _ h => h) (fun σ8248 h8249 g8250 f8251 g8252 => ?_)
                refine m_aload_n F rfl e_X10_readLease_148 ?_
                refine r_get F e_X10_readLease_149 fl_X10_34 h8249 rfl (fun v hv f8253 => ?_)
                obtain rfl : v = .ref (c + 9) := hv
                refine m_iload_n F rfl e_X10_readLease_152 ?_
                refine m_iconst F (v := 0) (by decide) e_X10_readLease_153 ?_
                refine r_iast F (g' := (⟨T, 0, u, h, P8209, L⟩ : RG)) (len := 8) (j := 4 + P8007.n5) e_X10_readLease_154 h8249 (fun _ h => h) (fun f h => ⟨f, rfl, h⟩) (by decide) (by decide) (nI_clamp (by omega)) (vp_in_nI (by omega) (by decide)) trivial (fun _ _ _ h => h) (fun _ _ _ h => h) (fun σ8254 h8255 g8256 f8257 g8258 => ?_)
                refine m_iconst F (v := 0) (by decide) e_X10_readLease_155 ?_
                refine m_istore_n F (lv' := [(2, .int 0), (1, .int (nI (4 + P8007.n5))), (0, .ref c)]) e_X10_readLease_156 (by decide) rfl ?_
                refine Wm.lvsub (lv' := [(0, .ref c), (1, .int (nI (4 + P8007.n5))), (2, .int 0)]) ?_ [2, 1, 0] rfl
                exact lq_X10_readLease_157 F hQ hob hP  (48 - 0 + 1) (4 + P8007.n5) 0 P8209 _ ⟨HR.mono (Z' := Z) (by intro e9; first | rfl | assumption | omega) h8255.1, h8255.2⟩ oP8209 (by unfold RP; omega) (by omega) (Nat.lt_succ_self _)
            · have h8259 : HS V c (⟨T, 0, u, h, P8194, L⟩ : RG) [0, 2, 12, 13, 14, 15, 16, 17, 18, 19, 20, 21, 22, 23] _ _ := ⟨h8196, h8192.2⟩
              refine r_iast F (g' := (⟨T, 0, u, h, (mkP P8194.n0 P8194.n2 P8194.n5 P8194.n7 P8194.m0 (P8194.n5 + 1) P8194.w2 P8194.w7 P8194.kk P8194.a P8194.f P8194.p), L⟩ : RG)) (len := 8) (j := 4 + P8007.n5) e_X10_readLease_120 h8259 (fun _ h => h) (fun f h => ⟨f, rfl, h⟩) (by decide) (by decide) (nI_clamp (by omega)) (vp_in_nI (by omega) (by decide)) ⟨1, by omega, rfl, fun h7 _ => absurd h7 (by omega), fun _ _ => by omega⟩ (fun i hi y hy => by obtain ⟨n9, a9, b9, c9, d9⟩ := hy; exact ⟨n9, a9, b9, c9, fun h7 h8 => d9 h7 (show i < 4 + P8194.m5 by have h6 : i < 4 + (P8194.n5 + 1) := h8; omega)⟩) (CR.chg (by intro k hk i x h; unfold EI at h ⊢; split at h <;> first | exact h | exact absurd rfl hk | trivial) rfl rfl rfl rfl) (fun σ8260 h8261 g8262 f8263 g8264 => ?_)
              obtain ⟨P8265, eP8265⟩ : ∃ P9, P9 = (mkP P8194.n0 P8194.n2 P8194.n5 P8194.n7 P8194.m0 (P8194.n5 + 1) P8194.w2 P8194.w7 P8194.kk P8194.a P8194.f P8194.p) := ⟨_, rfl⟩
              rw [← eP8265] at h8261
              have fP8265 : P8265.n0 = P8194.n0 ∧ P8265.n2 = P8194.n2 ∧ P8265.n5 = P8194.n5 ∧ P8265.n7 = P8194.n7 ∧ P8265.m0 = P8194.m0 ∧ P8265.m5 = P8194.n5 + 1 ∧ P8265.w2 = P8194.w2 ∧ P8265.w7 = P8194.w7 ∧ P8265.kk = P8194.kk ∧ P8265.a = P8194.a ∧ P8265.f = P8194.f ∧ P8265.p = P8194.p := by rw [eP8265]; exact ⟨rfl, rfl, rfl, rfl, rfl, rfl, rfl, rfl, rfl, rfl, rfl, rfl⟩
              refine m_aload_n F rfl e_X10_readLease_121 ?_
              refine r_get F e_X10_readLease_122 fl_X10_25 h8261 rfl (fun v hv f8266 => ?_)
              obtain rfl : v = .ref (c + 6) := hv
              refine m_iload_n F rfl e_X10_readLease_125 ?_
              refine m_aload_n F rfl e_X10_readLease_126 ?_
              refine m_iconst F (v := 0) (by decide) e_X10_readLease_127 ?_
              refine m_ldc F kc_X10_169 e_X10_readLease_128 ?_
              have oP8270 : OKP P8265 := by unfold OKP; omega
              refine r_callV F e_X10_readLease_130 (q_X10_numeral (x_l X) V c T 0 u h P8265 L _ _ 0 200000 h8261.1 (hob) oP8270 (by omega) (by omega)) cb_X10_numeral ml_X10_165 im_X10_numeral se_X10_numeral h8261 rfl rfl (rest := [.int (nI (4 + P8007.n5)), .ref (c + 6)]) rfl (Nat.le_of_ble_eq_true rfl) ⟨Nat.le_of_ble_eq_true rfl, Nat.le_of_ble_eq_true rfl⟩ ⟨Nat.le_of_ble_eq_true rfl, Nat.le_of_ble_eq_true rfl⟩ (fun r σ8267 hp => ?_)
              obtain ⟨P8272, oP8272, rP8272, h8268, c8271⟩ := hp
              have h8269 := HS.trans h8261 h8268 (by decide)
              have xP8272 := oP8272
              unfold OKP at xP8272
              unfold RA at rP8272
              rcases c8271 with ⟨n8273, gn8273, hn8273, rfl⟩ | ⟨h8274, rfl⟩
              · refine r_iast F (g' := (⟨T, 0, u, h, P8272, L⟩ : RG)) (len := 8) (j := 4 + P8007.n5) e_X10_readLease_133 h8269 (fun _ h => h) (fun f h => ⟨f, rfl, h⟩) (by decide) (by decide) (nI_clamp (by omega)) (vp_in_nI (by omega) (by decide)) ⟨n8273, by omega, rfl⟩ (fun _ _ _ h => h) (fun _ _ _ h => h) (fun σ8275 h8276 g8277 f8278 g8279 => ?_)
                refine m_aload_n F rfl e_X10_readLease_134 ?_
                refine r_get F e_X10_readLease_135 fl_X10_28 h8276 rfl (fun v hv f8280 => ?_)
                obtain rfl : v = .ref (c + 7) := hv
                refine m_iload_n F rfl e_X10_readLease_138 ?_
                refine m_iconst F (v := 0) (by decide) e_X10_readLease_139 ?_
                refine r_iast F (g' := (⟨T, 0, u, h, P8272, L⟩ : RG)) (len := 8) (j := 4 + P8007.n5) e_X10_readLease_140 h8276 (fun _ h => h) (fun f h => ⟨f, rfl, h⟩) (by decide) (by decide) (nI_clamp (by omega)) (vp_in_nI (by omega) (by decide)) trivial (fun _ _ _ h => h) (fun _ _ _ h => h) (fun σ8281 h8282 g8283 f8284 g8285 => ?_)
                refine m_aload_n F rfl e_X10_readLease_141 ?_
                refine r_get F e_X10_readLease_142 fl_X10_31 h8282 rfl (fun v hv f8286 => ?_)
                obtain rfl : v = .ref (c + 8) := hv
                refine m_iload_n F rfl e_X10_readLease_145 ?_
                refine m_iconst F (v := 0) (by decide) e_X10_readLease_146 ?_
                refine r_iast F (g' := (⟨T, 0, u, h, P8272, L⟩ : RG)) (len := 8) (j := 4 + P8007.n5) e_X10_readLease_147 h8282 (fun _ h => h) (fun f h => ⟨f, rfl, h⟩) (by decide) (by decide) (nI_clamp (by omega)) (vp_in_nI (by omega) (by decide)) trivial (fun _ _ _ h => h) (fun _ _ _ h => h) (fun σ8287 h8288 g8289 f8290 g8291 => ?_)
                refine m_aload_n F rfl e_X10_readLease_148 ?_
                refine r_get F e_X10_readLease_149 fl_X10_34 h8288 rfl (fun v hv f8292 => ?_)
                obtain rfl : v = .ref (c + 9) := hv
                refine m_iload_n F rfl e_X10_readLease_152 ?_
                refine m_iconst F (v := 0) (by decide) e_X10_readLease_153 ?_
                refine r_iast F (g' := (⟨T, 0, u, h, P8272, L⟩ : RG)) (len := 8) (j := 4 + P8007.n5) e_X10_readLease_154 h8288 (fun _ h => h) (fun f h => ⟨f, rfl, h⟩) (by decide) (by decide) (nI_clamp (by omega)) (vp_in_nI (by omega) (by decide)) trivial (fun _ _ _ h => h) (fun _ _ _ h => h) (fun σ8293 h8294 g8295 f8296 g8297 => ?_)
                refine m_iconst F (v := 0) (by decide) e_X10_readLease_155 ?_
                refine m_istore_n F (lv' := [(2, .int 0), (1, .int (nI (4 + P8007.n5))), (0, .ref c)]) e_X10_readLease_156 (by decide) rfl ?_
                refine Wm.lvsub (lv' := [(0, .ref c), (1, .int (nI (4 + P8007.n5))), (2, .int 0)]) ?_ [2, 1, 0] rfl
                exact lq_X10_readLease_157 F hQ hob hP  (48 - 0 + 1) (4 + P8007.n5) 0 P8272 _ ⟨HR.mono (Z' := Z) (by intro e9; first | rfl | assumption | omega) h8294.1, h8294.2⟩ oP8272 (by unfold RP; omega) (by omega) (Nat.lt_succ_self _)
              · have h8298 : HS V c (⟨T, 0, u, h, P8272, L⟩ : RG) [0, 2, 12, 13, 14, 15, 16, 17, 18, 19, 20, 21, 22, 23] _ _ := ⟨h8274, h8269.2⟩
                refine r_iast F (g' := (⟨T, 0, u, h, P8272, L⟩ : RG)) (len := 8) (j := 4 + P8007.n5) e_X10_readLease_133 h8298 (fun _ h => h) (fun f h => ⟨f, rfl, h⟩) (by decide) (by decide) (nI_clamp (by omega)) (vp_in_nI (by omega) (by decide)) ⟨0, by omega, rfl⟩ (fun _ _ _ h => h) (fun _ _ _ h => h) (fun σ8299 h8300 g8301 f8302 g8303 => ?_)
                refine m_aload_n F rfl e_X10_readLease_134 ?_
                refine r_get F e_X10_readLease_135 fl_X10_28 h8300 rfl (fun v hv f8304 => ?_)
                obtain rfl : v = .ref (c + 7) := hv
                refine m_iload_n F rfl e_X10_readLease_138 ?_
                refine m_iconst F (v := 0) (by decide) e_X10_readLease_139 ?_
                refine r_iast F (g' := (⟨T, 0, u, h, P8272, L⟩ : RG)) (len := 8) (j := 4 + P8007.n5) e_X10_readLease_140 h8300 (fun _ h => h) (fun f h => ⟨f, rfl, h⟩) (by decide) (by decide) (nI_clamp (by omega)) (vp_in_nI (by omega) (by decide)) trivial (fun _ _ _ h => h) (fun _ _ _ h => h) (fun σ8305 h8306 g8307 f8308 g8309 => ?_)
                refine m_aload_n F rfl e_X10_readLease_141 ?_
                refine r_get F e_X10_readLease_142 fl_X10_31 h8306 rfl (fun v hv f8310 => ?_)
                obtain rfl : v = .ref (c + 8) := hv
                refine m_iload_n F rfl e_X10_readLease_145 ?_
                refine m_iconst F (v := 0) (by decide) e_X10_readLease_146 ?_
                refine r_iast F (g' := (⟨T, 0, u, h, P8272, L⟩ : RG)) (len := 8) (j := 4 + P8007.n5) e_X10_readLease_147 h8306 (fun _ h => h) (fun f h => ⟨f, rfl, h⟩) (by decide) (by decide) (nI_clamp (by omega)) (vp_in_nI (by omega) (by decide)) trivial (fun _ _ _ h => h) (fun _ _ _ h => h) (fun σ8311 h8312 g8313 f8314 g8315 => ?_)
                refine m_aload_n F rfl e_X10_readLease_148 ?_
                refine r_get F e_X10_readLease_149 fl_X10_34 h8312 rfl (fun v hv f8316 => ?_)
                obtain rfl : v = .ref (c + 9) := hv
                refine m_iload_n F rfl e_X10_readLease_152 ?_
                refine m_iconst F (v := 0) (by decide) e_X10_readLease_153 ?_
                refine r_iast F (g' := (⟨T, 0, u, h, P8272, L⟩ : RG)) (len := 8) (j := 4 + P8007.n5) e_X10_readLease_154 h8312 (fun _ h => h) (fun f h => ⟨f, rfl, h⟩) (by decide) (by decide) (nI_clamp (by omega)) (vp_in_nI (by omega) (by decide)) trivial (fun _ _ _ h => h) (fun _ _ _ h => h) (fun σ8317 h8318 g8319 f8320 g8321 => ?_)
                refine m_iconst F (v := 0) (by decide) e_X10_readLease_155 ?_
                refine m_istore_n F (lv' := [(2, .int 0), (1, .int (nI (4 + P8007.n5))), (0, .ref c)]) e_X10_readLease_156 (by decide) rfl ?_
                refine Wm.lvsub (lv' := [(0, .ref c), (1, .int (nI (4 + P8007.n5))), (2, .int 0)]) ?_ [2, 1, 0] rfl
                exact lq_X10_readLease_157 F hQ hob hP  (48 - 0 + 1) (4 + P8007.n5) 0 P8272 _ ⟨HR.mono (Z' := Z) (by intro e9; first | rfl | assumption | omega) h8318.1, h8318.2⟩ oP8272 (by unfold RP; omega) (by omega) (Nat.lt_succ_self _)
        · refine m_iconst F (v := (-1)) (by decide) e_X10_readLease_56 ?_
          refine m_icmp_eq F e_X10_readLease_57 (fun q57 => ?_) (fun q57 => ?_)
          · refine m_aload_n F rfl e_X10_readLease_65 ?_
            refine r_getC F e_X10_readLease_66 fl_X10_141 h8020 ((fld_eq (h8019.2 c (by rw [show kC c c = 1 from kC_at (k := 0) (by decide)]; decide))).trans ((fld_eq (h8014.2 c (by rw [show kC c c = 1 from kC_at (k := 0) (by decide)]; decide))).trans f8009)) ?_
            refine m_if_eq F e_X10_readLease_69 (fun _ => ?_) (fun q => absurd (by decide) q)
            refine m_iconst F (v := 4) (by decide) e_X10_readLease_73 ?_
            refine m_aload_n F rfl e_X10_readLease_74 ?_
            refine m_iconst F (v := 0) (by decide) e_X10_readLease_75 ?_
            refine r_callV F e_X10_readLease_76 (q_X10_reading0 (x_l X) V c T Z u h P8007 L _ _  h8020.1 (hob) oP8007 ) cb_X10_reading ml_X10_157 im_X10_reading se_X10_reading h8020 rfl rfl (rest := [.int 4]) rfl (Nat.le_of_ble_eq_true rfl) ⟨Nat.le_of_ble_eq_true rfl, Nat.le_of_ble_eq_true rfl⟩ ⟨Nat.le_of_ble_eq_true rfl, Nat.le_of_ble_eq_true rfl⟩ (fun r σ8322 hp => ?_)
            obtain ⟨h8323, rfl⟩ := hp
            have h8324 := HS.trans h8020 h8323 (by decide)
            refine m_iadd F e_X10_readLease_79 ?_
            refine Wm.topE (w := nI (4 + P8007.n5)) (nI_add 4 P8007.n5) ?_
            refine m_istore_n F (lv' := [(1, .int (nI (4 + P8007.n5))), (0, .ref c)]) e_X10_readLease_80 (by decide) rfl ?_
            refine m_aload_n F rfl e_X10_readLease_81 ?_
            refine r_get F e_X10_readLease_82 fl_X10_16 h8324 rfl (fun v hv f8325 => ?_)
            obtain rfl : v = .ref (c + 3) := hv
            refine m_iload_n F rfl e_X10_readLease_85 ?_
            refine m_aload_n F rfl e_X10_readLease_86 ?_
            refine r_getC F e_X10_readLease_87 fl_X10_120 h8324 ((fld_eq (h8323.2 c (by rw [show kC c c = 1 from kC_at (k := 0) (by decide)]; decide))).trans ((fld_eq (h8019.2 c (by rw [show kC c c = 1 from kC_at (k := 0) (by decide)]; decide))).trans f8016)) ?_
            refine r_iast F (g' := (⟨T, Z, u, h, P8007, L⟩ : RG)) (len := 8) (j := 4 + P8007.n5) e_X10_readLease_90 h8324 (fun _ h => h) (fun f h => ⟨f, rfl, h⟩) (by decide) (by decide) (nI_clamp (by omega)) (vp_in_nI (by omega) (by decide)) trivial (fun _ _ _ h => h) (fun _ _ _ h => h) (fun σ8326 h8327 g8328 f8329 g8330 => ?_)
            refine m_aload_n F rfl e_X10_readLease_91 ?_
            refine r_callV F e_X10_readLease_92 (q_X10_token (x_l X) V c T Z u h P8007 L _ _  h8327.1 (hob) oP8007 ) cb_X10_token ml_X10_147 im_X10_token se_X10_token h8327 rfl rfl (rest := []) rfl (Nat.le_of_ble_eq_true rfl) ⟨Nat.le_of_ble_eq_true rfl, Nat.le_of_ble_eq_true rfl⟩ ⟨Nat.le_of_ble_eq_true rfl, Nat.le_of_ble_eq_true rfl⟩ (fun r σ8331 hp => ?_)
            obtain ⟨P8334, oP8334, rP8334, pr8335, h8332, rfl⟩ := hp
            have h8333 := HS.trans h8327 h8332 (by decide)
            have xP8334 := oP8334
            unfold OKP at xP8334
            unfold RA at rP8334
            refine m_aload_n F rfl e_X10_readLease_95 ?_
            refine r_get F e_X10_readLease_96 fl_X10_19 h8333 rfl (fun v hv f8336 => ?_)
            obtain rfl : v = .ref (c + 4) := hv
            refine m_iload_n F rfl e_X10_readLease_99 ?_
            refine m_aload_n F rfl e_X10_readLease_100 ?_
            refine m_iconst F (v := 0) (by decide) e_X10_readLease_101 ?_
            refine m_bipush F (v := 20) (by decide) e_X10_readLease_102 ?_
            refine r_callV F e_X10_readLease_104 (q_X10_numeral (x_l X) V c T Z u h P8334 L _ _ 0 20 h8333.1 (hob) oP8334 (by omega) (by omega)) cb_X10_numeral ml_X10_165 im_X10_numeral se_X10_numeral h8333 rfl rfl (rest := [.int (nI (4 + P8007.n5)), .ref (c + 4)]) rfl (Nat.le_of_ble_eq_true rfl) ⟨Nat.le_of_ble_eq_true rfl, Nat.le_of_ble_eq_true rfl⟩ ⟨Nat.le_of_ble_eq_true rfl, Nat.le_of_ble_eq_true rfl⟩ (fun r σ8337 hp => ?_)
            obtain ⟨P8341, oP8341, rP8341, h8338, c8340⟩ := hp
            have h8339 := HS.trans h8333 h8338 (by decide)
            have xP8341 := oP8341
            unfold OKP at xP8341
            unfold RA at rP8341
            rcases c8340 with ⟨n8342, gn8342, hn8342, rfl⟩ | ⟨h8343, rfl⟩
            · refine r_iast F (g' := (⟨T, Z, u, h, P8341, L⟩ : RG)) (len := 8) (j := 4 + P8007.n5) e_X10_readLease_107 h8339 (fun _ h => h) (fun f h => ⟨f, rfl, h⟩) (by decide) (by decide) (nI_clamp (by omega)) (vp_in_nI (by omega) (by decide)) trivial (fun _ _ _ h => h) (fun _ _ _ h => h) (fun σ8344 h8345 g8346 f8347 g8348 => ?_)
              refine m_aload_n F rfl e_X10_readLease_108 ?_
              refine r_get F e_X10_readLease_109 fl_X10_22 h8345 rfl (fun v hv f8349 => ?_)
              obtain rfl : v = .ref (c + 5) := hv
              refine m_iload_n F rfl e_X10_readLease_112 ?_
              refine m_aload_n F rfl e_X10_readLease_113 ?_
              refine m_iconst F (v := 1) (by decide) e_X10_readLease_114 ?_
              refine m_bipush F (v := 48) (by decide) e_X10_readLease_115 ?_
              refine r_callV F e_X10_readLease_117 (q_X10_numeral (x_l X) V c T Z u h P8341 L _ _ 1 48 h8345.1 (hob) oP8341 (by omega) (by omega)) cb_X10_numeral ml_X10_165 im_X10_numeral se_X10_numeral h8345 rfl rfl (rest := [.int (nI (4 + P8007.n5)), .ref (c + 5)]) rfl (Nat.le_of_ble_eq_true rfl) ⟨Nat.le_of_ble_eq_true rfl, Nat.le_of_ble_eq_true rfl⟩ ⟨Nat.le_of_ble_eq_true rfl, Nat.le_of_ble_eq_true rfl⟩ (fun r σ8350 hp => ?_)
              obtain ⟨P8354, oP8354, rP8354, h8351, c8353⟩ := hp
              have h8352 := HS.trans h8345 h8351 (by decide)
              have xP8354 := oP8354
              unfold OKP at xP8354
              unfold RA at rP8354
              rcases c8353 with ⟨n8355, gn8355, hn8355, rfl⟩ | ⟨h8356, rfl⟩
              · refine r_iast F (g' := (⟨T, Z, u, h, (mkP P8354.n0 P8354.n2 P8354.n5 P8354.n7 P8354.m0 (P8354.n5 + 1) P8354.w2 P8354.w7 P8354.kk P8354.a P8354.f P8354.p), L⟩ : RG)) (len := 8) (j := 4 + P8007.n5) e_X10_readLease_120 h8352 (fun _ h => h) (fun f h => ⟨f, rfl, h⟩) (by decide) (by decide) (nI_clamp (by omega)) (vp_in_nI (by omega) (by decide)) ⟨n8355, by omega, rfl, fun h7 _ => absurd h7 (by omega), fun _ _ => by omega⟩ (fun i hi y hy => by obtain ⟨n9, a9, b9, c9, d9⟩ := hy; exact ⟨n9, a9, b9, c9, fun h7 h8 => d9 h7 (show i < 4 + P8354.m5 by have h6 : i < 4 + (P8354.n5 + 1) := h8; omega)⟩) (CR.chg (by intro k hk i x h; unfold EI at h ⊢; split at h <;> first | exact h | exact absurd rfl hk | trivial) rfl rfl rfl rfl) (fun σ8357 h8358 g8359 f8360 g8361 => ?_)
                obtain ⟨P8362, eP8362⟩ : ∃ P9, P9 = (mkP P8354.n0 P8354.n2 P8354.n5 P8354.n7 P8354.m0 (P8354.n5 + 1) P8354.w2 P8354.w7 P8354.kk P8354.a P8354.f P8354.p) := ⟨_, rfl⟩
                rw [← eP8362] at h8358
                have fP8362 : P8362.n0 = P8354.n0 ∧ P8362.n2 = P8354.n2 ∧ P8362.n5 = P8354.n5 ∧ P8362.n7 = P8354.n7 ∧ P8362.m0 = P8354.m0 ∧ P8362.m5 = P8354.n5 + 1 ∧ P8362.w2 = P8354.w2 ∧ P8362.w7 = P8354.w7 ∧ P8362.kk = P8354.kk ∧ P8362.a = P8354.a ∧ P8362.f = P8354.f ∧ P8362.p = P8354.p := by rw [eP8362]; exact ⟨rfl, rfl, rfl, rfl, rfl, rfl, rfl, rfl, rfl, rfl, rfl, rfl⟩
                refine m_aload_n F rfl e_X10_readLease_121 ?_
                refine r_get F e_X10_readLease_122 fl_X10_25 h8358 rfl (fun v hv f8363 => ?_)
                obtain rfl : v = .ref (c + 6) := hv
                refine m_iload_n F rfl e_X10_readLease_125 ?_
                refine m_aload_n F rfl e_X10_readLease_126 ?_
                refine m_iconst F (v := 0) (by decide) e_X10_readLease_127 ?_
                refine m_ldc F kc_X10_169 e_X10_readLease_128 ?_
                have oP8367 : OKP P8362 := by unfold OKP; omega
                refine r_callV F e_X10_readLease_130 (q_X10_numeral (x_l X) V c T Z u h P8362 L _ _ 0 200000 h8358.1 (hob) oP8367 (by omega) (by omega)) cb_X10_numeral ml_X10_165 im_X10_numeral se_X10_numeral h8358 rfl rfl (rest := [.int (nI (4 + P8007.n5)), .ref (c + 6)]) rfl (Nat.le_of_ble_eq_true rfl) ⟨Nat.le_of_ble_eq_true rfl, Nat.le_of_ble_eq_true rfl⟩ ⟨Nat.le_of_ble_eq_true rfl, Nat.le_of_ble_eq_true rfl⟩ (fun r σ8364 hp => ?_)
                obtain ⟨P8369, oP8369, rP8369, h8365, c8368⟩ := hp
                have h8366 := HS.trans h8358 h8365 (by decide)
                have xP8369 := oP8369
                unfold OKP at xP8369
                unfold RA at rP8369
                rcases c8368 with ⟨n8370, gn8370, hn8370, rfl⟩ | ⟨h8371, rfl⟩
                · refine r_iast F (g' := (⟨T, Z, u, h, P8369, L⟩ : RG)) (len := 8) (j := 4 + P8007.n5) e_X10_readLease_133 h8366 (fun _ h => h) (fun f h => ⟨f, rfl, h⟩) (by decide) (by decide) (nI_clamp (by omega)) (vp_in_nI (by omega) (by decide)) ⟨n8370, by omega, rfl⟩ (fun _ _ _ h => h) (fun _ _ _ h => h) (fun σ8372 h8373 g8374 f8375 g8376 => ?_)
                  refine m_aload_n F rfl e_X10_readLease_134 ?_
                  refine r_get F e_X10_readLease_135 fl_X10_28 h8373 rfl (fun v hv f8377 => ?_)
                  obtain rfl : v = .ref (c + 7) := hv
                  refine m_iload_n F rfl e_X10_readLease_138 ?_
                  refine m_iconst F (v := 0) (by decide) e_X10_readLease_139 ?_
                  refine r_iast F (g' := (⟨T, Z, u, h, P8369, L⟩ : RG)) (len := 8) (j := 4 + P8007.n5) e_X10_readLease_140 h8373 (fun _ h => h) (fun f h => ⟨f, rfl, h⟩) (by decide) (by decide) (nI_clamp (by omega)) (vp_in_nI (by omega) (by decide)) trivial (fun _ _ _ h => h) (fun _ _ _ h => h) (fun σ8378 h8379 g8380 f8381 g8382 => ?_)
                  refine m_aload_n F rfl e_X10_readLease_141 ?_
                  refine r_get F e_X10_readLease_142 fl_X10_31 h8379 rfl (fun v hv f8383 => ?_)
                  obtain rfl : v = .ref (c + 8) := hv
                  refine m_iload_n F rfl e_X10_readLease_145 ?_
                  refine m_iconst F (v := 0) (by decide) e_X10_readLease_146 ?_
                  refine r_iast F (g' := (⟨T, Z, u, h, P8369, L⟩ : RG)) (len := 8) (j := 4 + P8007.n5) e_X10_readLease_147 h8379 (fun _ h => h) (fun f h => ⟨f, rfl, h⟩) (by decide) (by decide) (nI_clamp (by omega)) (vp_in_nI (by omega) (by decide)) trivial (fun _ _ _ h => h) (fun _ _ _ h => h) (fun σ8384 h8385 g8386 f8387 g8388 => ?_)
                  refine m_aload_n F rfl e_X10_readLease_148 ?_
                  refine r_get F e_X10_readLease_149 fl_X10_34 h8385 rfl (fun v hv f8389 => ?_)
                  obtain rfl : v = .ref (c + 9) := hv
                  refine m_iload_n F rfl e_X10_readLease_152 ?_
                  refine m_iconst F (v := 0) (by decide) e_X10_readLease_153 ?_
                  refine r_iast F (g' := (⟨T, Z, u, h, P8369, L⟩ : RG)) (len := 8) (j := 4 + P8007.n5) e_X10_readLease_154 h8385 (fun _ h => h) (fun f h => ⟨f, rfl, h⟩) (by decide) (by decide) (nI_clamp (by omega)) (vp_in_nI (by omega) (by decide)) trivial (fun _ _ _ h => h) (fun _ _ _ h => h) (fun σ8390 h8391 g8392 f8393 g8394 => ?_)
                  refine m_iconst F (v := 0) (by decide) e_X10_readLease_155 ?_
                  refine m_istore_n F (lv' := [(2, .int 0), (1, .int (nI (4 + P8007.n5))), (0, .ref c)]) e_X10_readLease_156 (by decide) rfl ?_
                  refine Wm.lvsub (lv' := [(0, .ref c), (1, .int (nI (4 + P8007.n5))), (2, .int 0)]) ?_ [2, 1, 0] rfl
                  exact lq_X10_readLease_157 F hQ hob hP  (48 - 0 + 1) (4 + P8007.n5) 0 P8369 _ h8391 oP8369 (by unfold RP; omega) (by omega) (Nat.lt_succ_self _)
                · have h8395 : HS V c (⟨T, 0, u, h, P8369, L⟩ : RG) [0, 2, 12, 13, 14, 15, 16, 17, 18, 19, 20, 21, 22, 23] _ _ := ⟨h8371, h8366.2⟩
                  refine r_iast F (g' := (⟨T, 0, u, h, P8369, L⟩ : RG)) (len := 8) (j := 4 + P8007.n5) e_X10_readLease_133 h8395 (fun _ h => h) (fun f h => ⟨f, rfl, h⟩) (by decide) (by decide) (nI_clamp (by omega)) (vp_in_nI (by omega) (by decide)) ⟨0, by omega, rfl⟩ (fun _ _ _ h => h) (fun _ _ _ h => h) (fun σ8396 h8397 g8398 f8399 g8400 => ?_)
                  refine m_aload_n F rfl e_X10_readLease_134 ?_
                  refine r_get F e_X10_readLease_135 fl_X10_28 h8397 rfl (fun v hv f8401 => ?_)
                  obtain rfl : v = .ref (c + 7) := hv
                  refine m_iload_n F rfl e_X10_readLease_138 ?_
                  refine m_iconst F (v := 0) (by decide) e_X10_readLease_139 ?_
                  refine r_iast F (g' := (⟨T, 0, u, h, P8369, L⟩ : RG)) (len := 8) (j := 4 + P8007.n5) e_X10_readLease_140 h8397 (fun _ h => h) (fun f h => ⟨f, rfl, h⟩) (by decide) (by decide) (nI_clamp (by omega)) (vp_in_nI (by omega) (by decide)) trivial (fun _ _ _ h => h) (fun _ _ _ h => h) (fun σ8402 h8403 g8404 f8405 g8406 => ?_)
                  refine m_aload_n F rfl e_X10_readLease_141 ?_
                  refine r_get F e_X10_readLease_142 fl_X10_31 h8403 rfl (fun v hv f8407 => ?_)
                  obtain rfl : v = .ref (c + 8) := hv
                  refine m_iload_n F rfl e_X10_readLease_145 ?_
                  refine m_iconst F (v := 0) (by decide) e_X10_readLease_146 ?_
                  refine r_iast F (g' := (⟨T, 0, u, h, P8369, L⟩ : RG)) (len := 8) (j := 4 + P8007.n5) e_X10_readLease_147 h8403 (fun _ h => h) (fun f h => ⟨f, rfl, h⟩) (by decide) (by decide) (nI_clamp (by omega)) (vp_in_nI (by omega) (by decide)) trivial (fun _ _ _ h => h) (fun _ _ _ h => h) (fun σ8408 h8409 g8410 f8411 g8412 => ?_)
                  refine m_aload_n F rfl e_X10_readLease_148 ?_
                  refine r_get F e_X10_readLease_149 fl_X10_34 h8409 rfl (fun v hv f8413 => ?_)
                  obtain rfl : v = .ref (c + 9) := hv
                  refine m_iload_n F rfl e_X10_readLease_152 ?_
                  refine m_iconst F (v := 0) (by decide) e_X10_readLease_153 ?_
                  refine r_iast F (g' := (⟨T, 0, u, h, P8369, L⟩ : RG)) (len := 8) (j := 4 + P8007.n5) e_X10_readLease_154 h8409 (fun _ h => h) (fun f h => ⟨f, rfl, h⟩) (by decide) (by decide) (nI_clamp (by omega)) (vp_in_nI (by omega) (by decide)) trivial (fun _ _ _ h => h) (fun _ _ _ h => h) (fun σ8414 h8415 g8416 f8417 g8418 => ?_)
                  refine m_iconst F (v := 0) (by decide) e_X10_readLease_155 ?_
                  refine m_istore_n F (lv' := [(2, .int 0), (1, .int (nI (4 + P8007.n5))), (0, .ref c)]) e_X10_readLease_156 (by decide) rfl ?_
                  refine Wm.lvsub (lv' := [(0, .ref c), (1, .int (nI (4 + P8007.n5))), (2, .int 0)]) ?_ [2, 1, 0] rfl
                  exact lq_X10_readLease_157 F hQ hob hP  (48 - 0 + 1) (4 + P8007.n5) 0 P8369 _ ⟨HR.mono (Z' := Z) (by intro e9; first | rfl | assumption | omega) h8415.1, h8415.2⟩ oP8369 (by unfold RP; omega) (by omega) (Nat.lt_succ_self _)
              · have h8419 : HS V c (⟨T, 0, u, h, P8354, L⟩ : RG) [0, 2, 12, 13, 14, 15, 16, 17, 18, 19, 20, 21, 22, 23] _ _ := ⟨h8356, h8352.2⟩
                refine r_iast F (g' := (⟨T, 0, u, h, (mkP P8354.n0 P8354.n2 P8354.n5 P8354.n7 P8354.m0 (P8354.n5 + 1) P8354.w2 P8354.w7 P8354.kk P8354.a P8354.f P8354.p), L⟩ : RG)) (len := 8) (j := 4 + P8007.n5) e_X10_readLease_120 h8419 (fun _ h => h) (fun f h => ⟨f, rfl, h⟩) (by decide) (by decide) (nI_clamp (by omega)) (vp_in_nI (by omega) (by decide)) ⟨1, by omega, rfl, fun h7 _ => absurd h7 (by omega), fun _ _ => by omega⟩ (fun i hi y hy => by obtain ⟨n9, a9, b9, c9, d9⟩ := hy; exact ⟨n9, a9, b9, c9, fun h7 h8 => d9 h7 (show i < 4 + P8354.m5 by have h6 : i < 4 + (P8354.n5 + 1) := h8; omega)⟩) (CR.chg (by intro k hk i x h; unfold EI at h ⊢; split at h <;> first | exact h | exact absurd rfl hk | trivial) rfl rfl rfl rfl) (fun σ8420 h8421 g8422 f8423 g8424 => ?_)
                obtain ⟨P8425, eP8425⟩ : ∃ P9, P9 = (mkP P8354.n0 P8354.n2 P8354.n5 P8354.n7 P8354.m0 (P8354.n5 + 1) P8354.w2 P8354.w7 P8354.kk P8354.a P8354.f P8354.p) := ⟨_, rfl⟩
                rw [← eP8425] at h8421
                have fP8425 : P8425.n0 = P8354.n0 ∧ P8425.n2 = P8354.n2 ∧ P8425.n5 = P8354.n5 ∧ P8425.n7 = P8354.n7 ∧ P8425.m0 = P8354.m0 ∧ P8425.m5 = P8354.n5 + 1 ∧ P8425.w2 = P8354.w2 ∧ P8425.w7 = P8354.w7 ∧ P8425.kk = P8354.kk ∧ P8425.a = P8354.a ∧ P8425.f = P8354.f ∧ P8425.p = P8354.p := by rw [eP8425]; exact ⟨rfl, rfl, rfl, rfl, rfl, rfl, rfl, rfl, rfl, rfl, rfl, rfl⟩
                refine m_aload_n F rfl e_X10_readLease_121 ?_
                refine r_get F e_X10_readLease_122 fl_X10_25 h8421 rfl (fun v hv f8426 => ?_)
                obtain rfl : v = .ref (c + 6) := hv
                refine m_iload_n F rfl e_X10_readLease_125 ?_
                refine m_aload_n F rfl e_X10_readLease_126 ?_
                refine m_iconst F (v := 0) (by decide) e_X10_readLease_127 ?_
                refine m_ldc F kc_X10_169 e_X10_readLease_128 ?_
                have oP8430 : OKP P8425 := by unfold OKP; omega
                refine r_callV F e_X10_readLease_130 (q_X10_numeral (x_l X) V c T 0 u h P8425 L _ _ 0 200000 h8421.1 (hob) oP8430 (by omega) (by omega)) cb_X10_numeral ml_X10_165 im_X10_numeral se_X10_numeral h8421 rfl rfl (rest := [.int (nI (4 + P8007.n5)), .ref (c + 6)]) rfl (Nat.le_of_ble_eq_true rfl) ⟨Nat.le_of_ble_eq_true rfl, Nat.le_of_ble_eq_true rfl⟩ ⟨Nat.le_of_ble_eq_true rfl, Nat.le_of_ble_eq_true rfl⟩ (fun r σ8427 hp => ?_)
                obtain ⟨P8432, oP8432, rP8432, h8428, c8431⟩ := hp
                have h8429 := HS.trans h8421 h8428 (by decide)
                have xP8432 := oP8432
                unfold OKP at xP8432
                unfold RA at rP8432
                rcases c8431 with ⟨n8433, gn8433, hn8433, rfl⟩ | ⟨h8434, rfl⟩
                · refine r_iast F (g' := (⟨T, 0, u, h, P8432, L⟩ : RG)) (len := 8) (j := 4 + P8007.n5) e_X10_readLease_133 h8429 (fun _ h => h) (fun f h => ⟨f, rfl, h⟩) (by decide) (by decide) (nI_clamp (by omega)) (vp_in_nI (by omega) (by decide)) ⟨n8433, by omega, rfl⟩ (fun _ _ _ h => h) (fun _ _ _ h => h) (fun σ8435 h8436 g8437 f8438 g8439 => ?_)
                  refine m_aload_n F rfl e_X10_readLease_134 ?_
                  refine r_get F e_X10_readLease_135 fl_X10_28 h8436 rfl (fun v hv f8440 => ?_)
                  obtain rfl : v = .ref (c + 7) := hv
                  refine m_iload_n F rfl e_X10_readLease_138 ?_
                  refine m_iconst F (v := 0) (by decide) e_X10_readLease_139 ?_
                  refine r_iast F (g' := (⟨T, 0, u, h, P8432, L⟩ : RG)) (len := 8) (j := 4 + P8007.n5) e_X10_readLease_140 h8436 (fun _ h => h) (fun f h => ⟨f, rfl, h⟩) (by decide) (by decide) (nI_clamp (by omega)) (vp_in_nI (by omega) (by decide)) trivial (fun _ _ _ h => h) (fun _ _ _ h => h) (fun σ8441 h8442 g8443 f8444 g8445 => ?_)
                  refine m_aload_n F rfl e_X10_readLease_141 ?_
                  refine r_get F e_X10_readLease_142 fl_X10_31 h8442 rfl (fun v hv f8446 => ?_)
                  obtain rfl : v = .ref (c + 8) := hv
                  refine m_iload_n F rfl e_X10_readLease_145 ?_
                  refine m_iconst F (v := 0) (by decide) e_X10_readLease_146 ?_
                  refine r_iast F (g' := (⟨T, 0, u, h, P8432, L⟩ : RG)) (len := 8) (j := 4 + P8007.n5) e_X10_readLease_147 h8442 (fun _ h => h) (fun f h => ⟨f, rfl, h⟩) (by decide) (by decide) (nI_clamp (by omega)) (vp_in_nI (by omega) (by decide)) trivial (fun _ _ _ h => h) (fun _ _ _ h => h) (fun σ8447 h8448 g8449 f8450 g8451 => ?_)
                  refine m_aload_n F rfl e_X10_readLease_148 ?_
                  refine r_get F e_X10_readLease_149 fl_X10_34 h8448 rfl (fun v hv f8452 => ?_)
                  obtain rfl : v = .ref (c + 9) := hv
                  refine m_iload_n F rfl e_X10_readLease_152 ?_
                  refine m_iconst F (v := 0) (by decide) e_X10_readLease_153 ?_
                  refine r_iast F (g' := (⟨T, 0, u, h, P8432, L⟩ : RG)) (len := 8) (j := 4 + P8007.n5) e_X10_readLease_154 h8448 (fun _ h => h) (fun f h => ⟨f, rfl, h⟩) (by decide) (by decide) (nI_clamp (by omega)) (vp_in_nI (by omega) (by decide)) trivial (fun _ _ _ h => h) (fun _ _ _ h => h) (fun σ8453 h8454 g8455 f8456 g8457 => ?_)
                  refine m_iconst F (v := 0) (by decide) e_X10_readLease_155 ?_
                  refine m_istore_n F (lv' := [(2, .int 0), (1, .int (nI (4 + P8007.n5))), (0, .ref c)]) e_X10_readLease_156 (by decide) rfl ?_
                  refine Wm.lvsub (lv' := [(0, .ref c), (1, .int (nI (4 + P8007.n5))), (2, .int 0)]) ?_ [2, 1, 0] rfl
                  exact lq_X10_readLease_157 F hQ hob hP  (48 - 0 + 1) (4 + P8007.n5) 0 P8432 _ ⟨HR.mono (Z' := Z) (by intro e9; first | rfl | assumption | omega) h8454.1, h8454.2⟩ oP8432 (by unfold RP; omega) (by omega) (Nat.lt_succ_self _)
                · have h8458 : HS V c (⟨T, 0, u, h, P8432, L⟩ : RG) [0, 2, 12, 13, 14, 15, 16, 17, 18, 19, 20, 21, 22, 23] _ _ := ⟨h8434, h8429.2⟩
                  refine r_iast F (g' := (⟨T, 0, u, h, P8432, L⟩ : RG)) (len := 8) (j := 4 + P8007.n5) e_X10_readLease_133 h8458 (fun _ h => h) (fun f h => ⟨f, rfl, h⟩) (by decide) (by decide) (nI_clamp (by omega)) (vp_in_nI (by omega) (by decide)) ⟨0, by omega, rfl⟩ (fun _ _ _ h => h) (fun _ _ _ h => h) (fun σ8459 h8460 g8461 f8462 g8463 => ?_)
                  refine m_aload_n F rfl e_X10_readLease_134 ?_
                  refine r_get F e_X10_readLease_135 fl_X10_28 h8460 rfl (fun v hv f8464 => ?_)
                  obtain rfl : v = .ref (c + 7) := hv
                  refine m_iload_n F rfl e_X10_readLease_138 ?_
                  refine m_iconst F (v := 0) (by decide) e_X10_readLease_139 ?_
                  refine r_iast F (g' := (⟨T, 0, u, h, P8432, L⟩ : RG)) (len := 8) (j := 4 + P8007.n5) e_X10_readLease_140 h8460 (fun _ h => h) (fun f h => ⟨f, rfl, h⟩) (by decide) (by decide) (nI_clamp (by omega)) (vp_in_nI (by omega) (by decide)) trivial (fun _ _ _ h => h) (fun _ _ _ h => h) (fun σ8465 h8466 g8467 f8468 g8469 => ?_)
                  refine m_aload_n F rfl e_X10_readLease_141 ?_
                  refine r_get F e_X10_readLease_142 fl_X10_31 h8466 rfl (fun v hv f8470 => ?_)
                  obtain rfl : v = .ref (c + 8) := hv
                  refine m_iload_n F rfl e_X10_readLease_145 ?_
                  refine m_iconst F (v := 0) (by decide) e_X10_readLease_146 ?_
                  refine r_iast F (g' := (⟨T, 0, u, h, P8432, L⟩ : RG)) (len := 8) (j := 4 + P8007.n5) e_X10_readLease_147 h8466 (fun _ h => h) (fun f h => ⟨f, rfl, h⟩) (by decide) (by decide) (nI_clamp (by omega)) (vp_in_nI (by omega) (by decide)) trivial (fun _ _ _ h => h) (fun _ _ _ h => h) (fun σ8471 h8472 g8473 f8474 g8475 => ?_)
                  refine m_aload_n F rfl e_X10_readLease_148 ?_
                  refine r_get F e_X10_readLease_149 fl_X10_34 h8472 rfl (fun v hv f8476 => ?_)
                  obtain rfl : v = .ref (c + 9) := hv
                  refine m_iload_n F rfl e_X10_readLease_152 ?_
                  refine m_iconst F (v := 0) (by decide) e_X10_readLease_153 ?_
                  refine r_iast F (g' := (⟨T, 0, u, h, P8432, L⟩ : RG)) (len := 8) (j := 4 + P8007.n5) e_X10_readLease_154 h8472 (fun _ h => h) (fun f h => ⟨f, rfl, h⟩) (by decide) (by decide) (nI_clamp (by omega)) (vp_in_nI (by omega) (by decide)) trivial (fun _ _ _ h => h) (fun _ _ _ h => h) (fun σ8477 h8478 g8479 f8480 g8481 => ?_)
                  refine m_iconst F (v := 0) (by decide) e_X10_readLease_155 ?_
                  refine m_istore_n F (lv' := [(2, .int 0), (1, .int (nI (4 + P8007.n5))), (0, .ref c)]) e_X10_readLease_156 (by decide) rfl ?_
                  refine Wm.lvsub (lv' := [(0, .ref c), (1, .int (nI (4 + P8007.n5))), (2, .int 0)]) ?_ [2, 1, 0] rfl
                  exact lq_X10_readLease_157 F hQ hob hP  (48 - 0 + 1) (4 + P8007.n5) 0 P8432 _ ⟨HR.mono (Z' := Z) (by intro e9; first | rfl | assumption | omega) h8478.1, h8478.2⟩ oP8432 (by unfold RP; omega) (by omega) (Nat.lt_succ_self _)
            · have h8482 : HS V c (⟨T, 0, u, h, P8341, L⟩ : RG) [0, 2, 12, 13, 14, 15, 16, 17, 18, 19, 20, 21, 22, 23] _ _ := ⟨h8343, h8339.2⟩
              refine r_iast F (g' := (⟨T, 0, u, h, P8341, L⟩ : RG)) (len := 8) (j := 4 + P8007.n5) e_X10_readLease_107 h8482 (fun _ h => h) (fun f h => ⟨f, rfl, h⟩) (by decide) (by decide) (nI_clamp (by omega)) (vp_in_nI (by omega) (by decide)) trivial (fun _ _ _ h => h) (fun _ _ _ h => h) (fun σ8483 h8484 g8485 f8486 g8487 => ?_)
              refine m_aload_n F rfl e_X10_readLease_108 ?_
              refine r_get F e_X10_readLease_109 fl_X10_22 h8484 rfl (fun v hv f8488 => ?_)
              obtain rfl : v = .ref (c + 5) := hv
              refine m_iload_n F rfl e_X10_readLease_112 ?_
              refine m_aload_n F rfl e_X10_readLease_113 ?_
              refine m_iconst F (v := 1) (by decide) e_X10_readLease_114 ?_
              refine m_bipush F (v := 48) (by decide) e_X10_readLease_115 ?_
              refine r_callV F e_X10_readLease_117 (q_X10_numeral (x_l X) V c T 0 u h P8341 L _ _ 1 48 h8484.1 (hob) oP8341 (by omega) (by omega)) cb_X10_numeral ml_X10_165 im_X10_numeral se_X10_numeral h8484 rfl rfl (rest := [.int (nI (4 + P8007.n5)), .ref (c + 5)]) rfl (Nat.le_of_ble_eq_true rfl) ⟨Nat.le_of_ble_eq_true rfl, Nat.le_of_ble_eq_true rfl⟩ ⟨Nat.le_of_ble_eq_true rfl, Nat.le_of_ble_eq_true rfl⟩ (fun r σ8489 hp => ?_)
              obtain ⟨P8493, oP8493, rP8493, h8490, c8492⟩ := hp
              have h8491 := HS.trans h8484 h8490 (by decide)
              have xP8493 := oP8493
              unfold OKP at xP8493
              unfold RA at rP8493
              rcases c8492 with ⟨n8494, gn8494, hn8494, rfl⟩ | ⟨h8495, rfl⟩
              · refine r_iast F (g' := (⟨T, 0, u, h, (mkP P8493.n0 P8493.n2 P8493.n5 P8493.n7 P8493.m0 (P8493.n5 + 1) P8493.w2 P8493.w7 P8493.kk P8493.a P8493.f P8493.p), L⟩ : RG)) (len := 8) (j := 4 + P8007.n5) e_X10_readLease_120 h8491 (fun _ h => h) (fun f h => ⟨f, rfl, h⟩) (by decide) (by decide) (nI_clamp (by omega)) (vp_in_nI (by omega) (by decide)) ⟨n8494, by omega, rfl, fun h7 _ => absurd h7 (by omega), fun _ _ => by omega⟩ (fun i hi y hy => by obtain ⟨n9, a9, b9, c9, d9⟩ := hy; exact ⟨n9, a9, b9, c9, fun h7 h8 => d9 h7 (show i < 4 + P8493.m5 by have h6 : i < 4 + (P8493.n5 + 1) := h8; omega)⟩) (CR.chg (by intro k hk i x h; unfold EI at h ⊢; split at h <;> first | exact h | exact absurd rfl hk | trivial) rfl rfl rfl rfl) (fun σ8496 h8497 g8498 f8499 g8500 => ?_)
                obtain ⟨P8501, eP8501⟩ : ∃ P9, P9 = (mkP P8493.n0 P8493.n2 P8493.n5 P8493.n7 P8493.m0 (P8493.n5 + 1) P8493.w2 P8493.w7 P8493.kk P8493.a P8493.f P8493.p) := ⟨_, rfl⟩
                rw [← eP8501] at h8497
                have fP8501 : P8501.n0 = P8493.n0 ∧ P8501.n2 = P8493.n2 ∧ P8501.n5 = P8493.n5 ∧ P8501.n7 = P8493.n7 ∧ P8501.m0 = P8493.m0 ∧ P8501.m5 = P8493.n5 + 1 ∧ P8501.w2 = P8493.w2 ∧ P8501.w7 = P8493.w7 ∧ P8501.kk = P8493.kk ∧ P8501.a = P8493.a ∧ P8501.f = P8493.f ∧ P8501.p = P8493.p := by rw [eP8501]; exact ⟨rfl, rfl, rfl, rfl, rfl, rfl, rfl, rfl, rfl, rfl, rfl, rfl⟩
                refine m_aload_n F rfl e_X10_readLease_121 ?_
                refine r_get F e_X10_readLease_122 fl_X10_25 h8497 rfl (fun v hv f8502 => ?_)
                obtain rfl : v = .ref (c + 6) := hv
                refine m_iload_n F rfl e_X10_readLease_125 ?_
                refine m_aload_n F rfl e_X10_readLease_126 ?_
                refine m_iconst F (v := 0) (by decide) e_X10_readLease_127 ?_
                refine m_ldc F kc_X10_169 e_X10_readLease_128 ?_
                have oP8506 : OKP P8501 := by unfold OKP; omega
                refine r_callV F e_X10_readLease_130 (q_X10_numeral (x_l X) V c T 0 u h P8501 L _ _ 0 200000 h8497.1 (hob) oP8506 (by omega) (by omega)) cb_X10_numeral ml_X10_165 im_X10_numeral se_X10_numeral h8497 rfl rfl (rest := [.int (nI (4 + P8007.n5)), .ref (c + 6)]) rfl (Nat.le_of_ble_eq_true rfl) ⟨Nat.le_of_ble_eq_true rfl, Nat.le_of_ble_eq_true rfl⟩ ⟨Nat.le_of_ble_eq_true rfl, Nat.le_of_ble_eq_true rfl⟩ (fun r σ8503 hp => ?_)
                obtain ⟨P8508, oP8508, rP8508, h8504, c8507⟩ := hp
                have h8505 := HS.trans h8497 h8504 (by decide)
                have xP8508 := oP8508
                unfold OKP at xP8508
                unfold RA at rP8508
                rcases c8507 with ⟨n8509, gn8509, hn8509, rfl⟩ | ⟨h8510, rfl⟩
                · refine r_iast F (g' := (⟨T, 0, u, h, P8508, L⟩ : RG)) (len := 8) (j := 4 + P8007.n5) e_X10_readLease_133 h8505 (fun _ h => h) (fun f h => ⟨f, rfl, h⟩) (by decide) (by decide) (nI_clamp (by omega)) (vp_in_nI (by omega) (by decide)) ⟨n8509, by omega, rfl⟩ (fun _ _ _ h => h) (fun _ _ _ h => h) (fun σ8511 h8512 g8513 f8514 g8515 => ?_)
                  refine m_aload_n F rfl e_X10_readLease_134 ?_
                  refine r_get F e_X10_readLease_135 fl_X10_28 h8512 rfl (fun v hv f8516 => ?_)
                  obtain rfl : v = .ref (c + 7) := hv
                  refine m_iload_n F rfl e_X10_readLease_138 ?_
                  refine m_iconst F (v := 0) (by decide) e_X10_readLease_139 ?_
                  refine r_iast F (g' := (⟨T, 0, u, h, P8508, L⟩ : RG)) (len := 8) (j := 4 + P8007.n5) e_X10_readLease_140 h8512 (fun _ h => h) (fun f h => ⟨f, rfl, h⟩) (by decide) (by decide) (nI_clamp (by omega)) (vp_in_nI (by omega) (by decide)) trivial (fun _ _ _ h => h) (fun _ _ _ h => h) (fun σ8517 h8518 g8519 f8520 g8521 => ?_)
                  refine m_aload_n F rfl e_X10_readLease_141 ?_
                  refine r_get F e_X10_readLease_142 fl_X10_31 h8518 rfl (fun v hv f8522 => ?_)
                  obtain rfl : v = .ref (c + 8) := hv
                  refine m_iload_n F rfl e_X10_readLease_145 ?_
                  refine m_iconst F (v := 0) (by decide) e_X10_readLease_146 ?_
                  refine r_iast F (g' := (⟨T, 0, u, h, P8508, L⟩ : RG)) (len := 8) (j := 4 + P8007.n5) e_X10_readLease_147 h8518 (fun _ h => h) (fun f h => ⟨f, rfl, h⟩) (by decide) (by decide) (nI_clamp (by omega)) (vp_in_nI (by omega) (by decide)) trivial (fun _ _ _ h => h) (fun _ _ _ h => h) (fun σ8523 h8524 g8525 f8526 g8527 => ?_)
                  refine m_aload_n F rfl e_X10_readLease_148 ?_
                  refine r_get F e_X10_readLease_149 fl_X10_34 h8524 rfl (fun v hv f8528 => ?_)
                  obtain rfl : v = .ref (c + 9) := hv
                  refine m_iload_n F rfl e_X10_readLease_152 ?_
                  refine m_iconst F (v := 0) (by decide) e_X10_readLease_153 ?_
                  refine r_iast F (g' := (⟨T, 0, u, h, P8508, L⟩ : RG)) (len := 8) (j := 4 + P8007.n5) e_X10_readLease_154 h8524 (fun _ h => h) (fun f h => ⟨f, rfl, h⟩) (by decide) (by decide) (nI_clamp (by omega)) (vp_in_nI (by omega) (by decide)) trivial (fun _ _ _ h => h) (fun _ _ _ h => h) (fun σ8529 h8530 g8531 f8532 g8533 => ?_)
                  refine m_iconst F (v := 0) (by decide) e_X10_readLease_155 ?_
                  refine m_istore_n F (lv' := [(2, .int 0), (1, .int (nI (4 + P8007.n5))), (0, .ref c)]) e_X10_readLease_156 (by decide) rfl ?_
                  refine Wm.lvsub (lv' := [(0, .ref c), (1, .int (nI (4 + P8007.n5))), (2, .int 0)]) ?_ [2, 1, 0] rfl
                  exact lq_X10_readLease_157 F hQ hob hP  (48 - 0 + 1) (4 + P8007.n5) 0 P8508 _ ⟨HR.mono (Z' := Z) (by intro e9; first | rfl | assumption | omega) h8530.1, h8530.2⟩ oP8508 (by unfold RP; omega) (by omega) (Nat.lt_succ_self _)
                · have h8534 : HS V c (⟨T, 0, u, h, P8508, L⟩ : RG) [0, 2, 12, 13, 14, 15, 16, 17, 18, 19, 20, 21, 22, 23] _ _ := ⟨h8510, h8505.2⟩
                  refine r_iast F (g' := (⟨T, 0, u, h, P8508, L⟩ : RG)) (len := 8) (j := 4 + P8007.n5) e_X10_readLease_133 h8534 (fun _ h => h) (fun f h => ⟨f, rfl, h⟩) (by decide) (by decide) (nI_clamp (by omega)) (vp_in_nI (by omega) (by decide)) ⟨0, by omega, rfl⟩ (fun _ _ _ h => h) (fun _ _ _ h => h) (fun σ8535 h8536 g8537 f8538 g8539 => ?_)
                  refine m_aload_n F rfl e_X10_readLease_134 ?_
                  refine r_get F e_X10_readLease_135 fl_X10_28 h8536 rfl (fun v hv f8540 => ?_)
                  obtain rfl : v = .ref (c + 7) := hv
                  refine m_iload_n F rfl e_X10_readLease_138 ?_
                  refine m_iconst F (v := 0) (by decide) e_X10_readLease_139 ?_
                  refine r_iast F (g' := (⟨T, 0, u, h, P8508, L⟩ : RG)) (len := 8) (j := 4 + P8007.n5) e_X10_readLease_140 h8536 (fun _ h => h) (fun f h => ⟨f, rfl, h⟩) (by decide) (by decide) (nI_clamp (by omega)) (vp_in_nI (by omega) (by decide)) trivial (fun _ _ _ h => h) (fun _ _ _ h => h) (fun σ8541 h8542 g8543 f8544 g8545 => ?_)
                  refine m_aload_n F rfl e_X10_readLease_141 ?_
                  refine r_get F e_X10_readLease_142 fl_X10_31 h8542 rfl (fun v hv f8546 => ?_)
                  obtain rfl : v = .ref (c + 8) := hv
                  refine m_iload_n F rfl e_X10_readLease_145 ?_
                  refine m_iconst F (v := 0) (by decide) e_X10_readLease_146 ?_
                  refine r_iast F (g' := (⟨T, 0, u, h, P8508, L⟩ : RG)) (len := 8) (j := 4 + P8007.n5) e_X10_readLease_147 h8542 (fun _ h => h) (fun f h => ⟨f, rfl, h⟩) (by decide) (by decide) (nI_clamp (by omega)) (vp_in_nI (by omega) (by decide)) trivial (fun _ _ _ h => h) (fun _ _ _ h => h) (fun σ8547 h8548 g8549 f8550 g8551 => ?_)
                  refine m_aload_n F rfl e_X10_readLease_148 ?_
                  refine r_get F e_X10_readLease_149 fl_X10_34 h8548 rfl (fun v hv f8552 => ?_)
                  obtain rfl : v = .ref (c + 9) := hv
                  refine m_iload_n F rfl e_X10_readLease_152 ?_
                  refine m_iconst F (v := 0) (by decide) e_X10_readLease_153 ?_
                  refine r_iast F (g' := (⟨T, 0, u, h, P8508, L⟩ : RG)) (len := 8) (j := 4 + P8007.n5) e_X10_readLease_154 h8548 (fun _ h => h) (fun f h => ⟨f, rfl, h⟩) (by decide) (by decide) (nI_clamp (by omega)) (vp_in_nI (by omega) (by decide)) trivial (fun _ _ _ h => h) (fun _ _ _ h => h) (fun σ8553 h8554 g8555 f8556 g8557 => ?_)
                  refine m_iconst F (v := 0) (by decide) e_X10_readLease_155 ?_
                  refine m_istore_n F (lv' := [(2, .int 0), (1, .int (nI (4 + P8007.n5))), (0, .ref c)]) e_X10_readLease_156 (by decide) rfl ?_
                  refine Wm.lvsub (lv' := [(0, .ref c), (1, .int (nI (4 + P8007.n5))), (2, .int 0)]) ?_ [2, 1, 0] rfl
                  exact lq_X10_readLease_157 F hQ hob hP  (48 - 0 + 1) (4 + P8007.n5) 0 P8508 _ ⟨HR.mono (Z' := Z) (by intro e9; first | rfl | assumption | omega) h8554.1, h8554.2⟩ oP8508 (by unfold RP; omega) (by omega) (Nat.lt_succ_self _)
              · have h8558 : HS V c (⟨T, 0, u, h, P8493, L⟩ : RG) [0, 2, 12, 13, 14, 15, 16, 17, 18, 19, 20, 21, 22, 23] _ _ := ⟨h8495, h8491.2⟩
                refine r_iast F (g' := (⟨T, 0, u, h, (mkP P8493.n0 P8493.n2 P8493.n5 P8493.n7 P8493.m0 (P8493.n5 + 1) P8493.w2 P8493.w7 P8493.kk P8493.a P8493.f P8493.p), L⟩ : RG)) (len := 8) (j := 4 + P8007.n5) e_X10_readLease_120 h8558 (fun _ h => h) (fun f h => ⟨f, rfl, h⟩) (by decide) (by decide) (nI_clamp (by omega)) (vp_in_nI (by omega) (by decide)) ⟨1, by omega, rfl, fun h7 _ => absurd h7 (by omega), fun _ _ => by omega⟩ (fun i hi y hy => by obtain ⟨n9, a9, b9, c9, d9⟩ := hy; exact ⟨n9, a9, b9, c9, fun h7 h8 => d9 h7 (show i < 4 + P8493.m5 by have h6 : i < 4 + (P8493.n5 + 1) := h8; omega)⟩) (CR.chg (by intro k hk i x h; unfold EI at h ⊢; split at h <;> first | exact h | exact absurd rfl hk | trivial) rfl rfl rfl rfl) (fun σ8559 h8560 g8561 f8562 g8563 => ?_)
                obtain ⟨P8564, eP8564⟩ : ∃ P9, P9 = (mkP P8493.n0 P8493.n2 P8493.n5 P8493.n7 P8493.m0 (P8493.n5 + 1) P8493.w2 P8493.w7 P8493.kk P8493.a P8493.f P8493.p) := ⟨_, rfl⟩
                rw [← eP8564] at h8560
                have fP8564 : P8564.n0 = P8493.n0 ∧ P8564.n2 = P8493.n2 ∧ P8564.n5 = P8493.n5 ∧ P8564.n7 = P8493.n7 ∧ P8564.m0 = P8493.m0 ∧ P8564.m5 = P8493.n5 + 1 ∧ P8564.w2 = P8493.w2 ∧ P8564.w7 = P8493.w7 ∧ P8564.kk = P8493.kk ∧ P8564.a = P8493.a ∧ P8564.f = P8493.f ∧ P8564.p = P8493.p := by rw [eP8564]; exact ⟨rfl, rfl, rfl, rfl, rfl, rfl, rfl, rfl, rfl, rfl, rfl, rfl⟩
                refine m_aload_n F rfl e_X10_readLease_121 ?_
                refine r_get F e_X10_readLease_122 fl_X10_25 h8560 rfl (fun v hv f8565 => ?_)
                obtain rfl : v = .ref (c + 6) := hv
                refine m_iload_n F rfl e_X10_readLease_125 ?_
                refine m_aload_n F rfl e_X10_readLease_126 ?_
                refine m_iconst F (v := 0) (by decide) e_X10_readLease_127 ?_
                refine m_ldc F kc_X10_169 e_X10_readLease_128 ?_
                have oP8569 : OKP P8564 := by unfold OKP; omega
                refine r_callV F e_X10_readLease_130 (q_X10_numeral (x_l X) V c T 0 u h P8564 L _ _ 0 200000 h8560.1 (hob) oP8569 (by omega) (by omega)) cb_X10_numeral ml_X10_165 im_X10_numeral se_X10_numeral h8560 rfl rfl (rest := [.int (nI (4 + P8007.n5)), .ref (c + 6)]) rfl (Nat.le_of_ble_eq_true rfl) ⟨Nat.le_of_ble_eq_true rfl, Nat.le_of_ble_eq_true rfl⟩ ⟨Nat.le_of_ble_eq_true rfl, Nat.le_of_ble_eq_true rfl⟩ (fun r σ8566 hp => ?_)
                obtain ⟨P8571, oP8571, rP8571, h8567, c8570⟩ := hp
                have h8568 := HS.trans h8560 h8567 (by decide)
                have xP8571 := oP8571
                unfold OKP at xP8571
                unfold RA at rP8571
                rcases c8570 with ⟨n8572, gn8572, hn8572, rfl⟩ | ⟨h8573, rfl⟩
                · refine r_iast F (g' := (⟨T, 0, u, h, P8571, L⟩ : RG)) (len := 8) (j := 4 + P8007.n5) e_X10_readLease_133 h8568 (fun _ h => h) (fun f h => ⟨f, rfl, h⟩) (by decide) (by decide) (nI_clamp (by omega)) (vp_in_nI (by omega) (by decide)) ⟨n8572, by omega, rfl⟩ (fun _ _ _ h => h) (fun _ _ _ h => h) (fun σ8574 h8575 g8576 f8577 g8578 => ?_)
                  refine m_aload_n F rfl e_X10_readLease_134 ?_
                  refine r_get F e_X10_readLease_135 fl_X10_28 h8575 rfl (fun v hv f8579 => ?_)
                  obtain rfl : v = .ref (c + 7) := hv
                  refine m_iload_n F rfl e_X10_readLease_138 ?_
                  refine m_iconst F (v := 0) (by decide) e_X10_readLease_139 ?_
                  refine r_iast F (g' := (⟨T, 0, u, h, P8571, L⟩ : RG)) (len := 8) (j := 4 + P8007.n5) e_X10_readLease_140 h8575 (fun _ h => h) (fun f h => ⟨f, rfl, h⟩) (by decide) (by decide) (nI_clamp (by omega)) (vp_in_nI (by omega) (by decide)) trivial (fun _ _ _ h => h) (fun _ _ _ h => h) (fun σ8580 h8581 g8582 f8583 g8584 => ?_)
                  refine m_aload_n F rfl e_X10_readLease_141 ?_
                  refine r_get F e_X10_readLease_142 fl_X10_31 h8581 rfl (fun v hv f8585 => ?_)
                  obtain rfl : v = .ref (c + 8) := hv
                  refine m_iload_n F rfl e_X10_readLease_145 ?_
                  refine m_iconst F (v := 0) (by decide) e_X10_readLease_146 ?_
                  refine r_iast F (g' := (⟨T, 0, u, h, P8571, L⟩ : RG)) (len := 8) (j := 4 + P8007.n5) e_X10_readLease_147 h8581 (fun _ h => h) (fun f h => ⟨f, rfl, h⟩) (by decide) (by decide) (nI_clamp (by omega)) (vp_in_nI (by omega) (by decide)) trivial (fun _ _ _ h => h) (fun _ _ _ h => h) (fun σ8586 h8587 g8588 f8589 g8590 => ?_)
                  refine m_aload_n F rfl e_X10_readLease_148 ?_
                  refine r_get F e_X10_readLease_149 fl_X10_34 h8587 rfl (fun v hv f8591 => ?_)
                  obtain rfl : v = .ref (c + 9) := hv
                  refine m_iload_n F rfl e_X10_readLease_152 ?_
                  refine m_iconst F (v := 0) (by decide) e_X10_readLease_153 ?_
                  refine r_iast F (g' := (⟨T, 0, u, h, P8571, L⟩ : RG)) (len := 8) (j := 4 + P8007.n5) e_X10_readLease_154 h8587 (fun _ h => h) (fun f h => ⟨f, rfl, h⟩) (by decide) (by decide) (nI_clamp (by omega)) (vp_in_nI (by omega) (by decide)) trivial (fun _ _ _ h => h) (fun _ _ _ h => h) (fun σ8592 h8593 g8594 f8595 g8596 => ?_)
                  refine m_iconst F (v := 0) (by decide) e_X10_readLease_155 ?_
                  refine m_istore_n F (lv' := [(2, .int 0), (1, .int (nI (4 + P8007.n5))), (0, .ref c)]) e_X10_readLease_156 (by decide) rfl ?_
                  refine Wm.lvsub (lv' := [(0, .ref c), (1, .int (nI (4 + P8007.n5))), (2, .int 0)]) ?_ [2, 1, 0] rfl
                  exact lq_X10_readLease_157 F hQ hob hP  (48 - 0 + 1) (4 + P8007.n5) 0 P8571 _ ⟨HR.mono (Z' := Z) (by intro e9; first | rfl | assumption | omega) h8593.1, h8593.2⟩ oP8571 (by unfold RP; omega) (by omega) (Nat.lt_succ_self _)
                · have h8597 : HS V c (⟨T, 0, u, h, P8571, L⟩ : RG) [0, 2, 12, 13, 14, 15, 16, 17, 18, 19, 20, 21, 22, 23] _ _ := ⟨h8573, h8568.2⟩
                  refine r_iast F (g' := (⟨T, 0, u, h, P8571, L⟩ : RG)) (len := 8) (j := 4 + P8007.n5) e_X10_readLease_133 h8597 (fun _ h => h) (fun f h => ⟨f, rfl, h⟩) (by decide) (by decide) (nI_clamp (by omega)) (vp_in_nI (by omega) (by decide)) ⟨0, by omega, rfl⟩ (fun _ _ _ h => h) (fun _ _ _ h => h) (fun σ8598 h8599 g8600 f8601 g8602 => ?_)
                  refine m_aload_n F rfl e_X10_readLease_134 ?_
                  refine r_get F e_X10_readLease_135 fl_X10_28 h8599 rfl (fun v hv f8603 => ?_)
                  obtain rfl : v = .ref (c + 7) := hv
                  refine m_iload_n F rfl e_X10_readLease_138 ?_
                  refine m_iconst F (v := 0) (by decide) e_X10_readLease_139 ?_
                  refine r_iast F (g' := (⟨T, 0, u, h, P8571, L⟩ : RG)) (len := 8) (j := 4 + P8007.n5) e_X10_readLease_140 h8599 (fun _ h => h) (fun f h => ⟨f, rfl, h⟩) (by decide) (by decide) (nI_clamp (by omega)) (vp_in_nI (by omega) (by decide)) trivial (fun _ _ _ h => h) (fun _ _ _ h => h) (fun σ8604 h8605 g8606 f8607 g8608 => ?_)
                  refine m_aload_n F rfl e_X10_readLease_141 ?_
                  refine r_get F e_X10_readLease_142 fl_X10_31 h8605 rfl (fun v hv f8609 => ?_)
                  obtain rfl : v = .ref (c + 8) := hv
                  refine m_iload_n F rfl e_X10_readLease_145 ?_
                  refine m_iconst F (v := 0) (by decide) e_X10_readLease_146 ?_
                  refine r_iast F (g' := (⟨T, 0, u, h, P8571, L⟩ : RG)) (len := 8) (j := 4 + P8007.n5) e_X10_readLease_147 h8605 (fun _ h => h) (fun f h => ⟨f, rfl, h⟩) (by decide) (by decide) (nI_clamp (by omega)) (vp_in_nI (by omega) (by decide)) trivial (fun _ _ _ h => h) (fun _ _ _ h => h) (fun σ8610 h8611 g8612 f8613 g8614 => ?_)
                  refine m_aload_n F rfl e_X10_readLease_148 ?_
                  refine r_get F e_X10_readLease_149 fl_X10_34 h8611 rfl (fun v hv f8615 => ?_)
                  obtain rfl : v = .ref (c + 9) := hv
                  refine m_iload_n F rfl e_X10_readLease_152 ?_
                  refine m_iconst F (v := 0) (by decide) e_X10_readLease_153 ?_
                  refine r_iast F (g' := (⟨T, 0, u, h, P8571, L⟩ : RG)) (len := 8) (j := 4 + P8007.n5) e_X10_readLease_154 h8611 (fun _ h => h) (fun f h => ⟨f, rfl, h⟩) (by decide) (by decide) (nI_clamp (by omega)) (vp_in_nI (by omega) (by decide)) trivial (fun _ _ _ h => h) (fun _ _ _ h => h) (fun σ8616 h8617 g8618 f8619 g8620 => ?_)
                  refine m_iconst F (v := 0) (by decide) e_X10_readLease_155 ?_
                  refine m_istore_n F (lv' := [(2, .int 0), (1, .int (nI (4 + P8007.n5))), (0, .ref c)]) e_X10_readLease_156 (by decide) rfl ?_
                  refine Wm.lvsub (lv' := [(0, .ref c), (1, .int (nI (4 + P8007.n5))), (2, .int 0)]) ?_ [2, 1, 0] rfl
                  exact lq_X10_readLease_157 F hQ hob hP  (48 - 0 + 1) (4 + P8007.n5) 0 P8571 _ ⟨HR.mono (Z' := Z) (by intro e9; first | rfl | assumption | omega) h8617.1, h8617.2⟩ oP8571 (by unfold RP; omega) (by omega) (Nat.lt_succ_self _)
          · refine m_aload_n F rfl e_X10_readLease_60 ?_
            refine m_iconst F (v := 3) (by decide) e_X10_readLease_61 ?_
            refine r_callV F e_X10_readLease_62 (q_X10_wrong (x_l X) V c T Z u h P8007 L _ _ 3 h8020.1 (hob) oP8007 (by first | omega | assumption | decide)) cb_X10_wrong ml_X10_150 im_X10_wrong se_X10_wrong h8020 rfl rfl (rest := []) rfl (Nat.le_of_ble_eq_true rfl) ⟨Nat.le_of_ble_eq_true rfl, Nat.le_of_ble_eq_true rfl⟩ ⟨Nat.le_of_ble_eq_true rfl, Nat.le_of_ble_eq_true rfl⟩ (fun r σ8621 hp => ?_)
            obtain ⟨h8622, rfl⟩ := hp
            have h8623 := HS.trans h8020 h8622 (by decide)
            refine m_aload_n F rfl e_X10_readLease_65 ?_
            refine r_get F e_X10_readLease_66 fl_X10_141 h8623 rfl (fun v hv f8624 => ?_)
            obtain ⟨x8625, hx8625, rfl⟩ := hv
            replace hx8625 : 0 = 0 → x8625 ≠ 0 := hx8625
            refine m_if_eq F e_X10_readLease_69 (fun q69 => ?_) (fun q69 => ?_)
            · first | exact absurd q69 (hx8625 rfl) | contradiction
            · have h8626 := HS.z0 h8623 (f8624) q69
              have h8627 : HS V c _ [0, 2, 12, 13, 14, 15, 16, 17, 18, 19, 20, 21, 22, 23] _ _ := ⟨HR.mono (Z' := Z) (by intro e; first | rfl | assumption | omega) h8626.1, h8626.2⟩
              exact m_vret F hQ e_X10_readLease_72 (⟨P8007, oP8007, (by unfold RP; omega), h8627, rfl⟩)
      · refine m_aload_n F rfl e_X10_readLease_34 ?_
        refine m_iconst F (v := 1) (by decide) e_X10_readLease_35 ?_
        refine r_callV F e_X10_readLease_36 (q_X10_wrong (x_l X) V c T Z u h P8007 L _ _ 1 h8006.1 (hob) oP8007 (by first | omega | assumption | decide)) cb_X10_wrong ml_X10_150 im_X10_wrong se_X10_wrong h8006 rfl rfl (rest := []) rfl (Nat.le_of_ble_eq_true rfl) ⟨Nat.le_of_ble_eq_true rfl, Nat.le_of_ble_eq_true rfl⟩ ⟨Nat.le_of_ble_eq_true rfl, Nat.le_of_ble_eq_true rfl⟩ (fun r σ8628 hp => ?_)
        obtain ⟨h8629, rfl⟩ := hp
        have h8630 := HS.trans h8006 h8629 (by decide)
        refine m_goto F e_X10_readLease_39 ?_
        refine m_aload_n F rfl e_X10_readLease_65 ?_
        refine r_get F e_X10_readLease_66 fl_X10_141 h8630 rfl (fun v hv f8631 => ?_)
        obtain ⟨x8632, hx8632, rfl⟩ := hv
        replace hx8632 : 0 = 0 → x8632 ≠ 0 := hx8632
        refine m_if_eq F e_X10_readLease_69 (fun q69 => ?_) (fun q69 => ?_)
        · first | exact absurd q69 (hx8632 rfl) | contradiction
        · have h8633 := HS.z0 h8630 (f8631) q69
          have h8634 : HS V c _ [0, 2, 12, 13, 14, 15, 16, 17, 18, 19, 20, 21, 22, 23] _ _ := ⟨HR.mono (Z' := Z) (by intro e; first | rfl | assumption | omega) h8633.1, h8633.2⟩
          exact m_vret F hQ e_X10_readLease_72 (⟨P8007, oP8007, (by unfold RP; omega), h8634, rfl⟩)
    · have h8635 := HS.z0 h8006 (f8009) q22
      have h8636 : HS V c _ [0, 2, 12, 13, 14, 15, 16, 17, 18, 19, 20, 21, 22, 23] _ _ := ⟨HR.mono (Z' := Z) (by intro e; first | rfl | assumption | omega) h8635.1, h8635.2⟩
      exact m_vret F hQ e_X10_readLease_25 (⟨P8007, oP8007, (by unfold RP; omega), h8636, rfl⟩)
  · have c6 : P.n5 = 4 := (nI_eq (a := P.n5) (b := 4) (by omega) (by omega)).mp q6
    refine m_aload_n F rfl e_X10_readLease_9 ?_
    refine m_iconst F (v := 2) (by decide) e_X10_readLease_10 ?_
    refine r_callV F e_X10_readLease_11 (q_X10_wrong (x_l X) V c T Z u h P L _ _ 2 h8003.1 (hob) hP (by first | omega | assumption | decide)) cb_X10_wrong ml_X10_150 im_X10_wrong se_X10_wrong h8003 rfl rfl (rest := []) rfl (Nat.le_of_ble_eq_true rfl) ⟨Nat.le_of_ble_eq_true rfl, Nat.le_of_ble_eq_true rfl⟩ ⟨Nat.le_of_ble_eq_true rfl, Nat.le_of_ble_eq_true rfl⟩ (fun r σ8637 hp => ?_)
    obtain ⟨h8638, rfl⟩ := hp
    have h8639 := HS.trans h8003 h8638 (by decide)
    refine m_aload_n F rfl e_X10_readLease_14 ?_
    refine r_callV F e_X10_readLease_15 (q_X10_goOn (x_l X) V c T 0 u h P L _ _  h8639.1 (hob) hP ) cb_X10_goOn ml_X10_154 im_X10_goOn se_X10_goOn h8639 rfl rfl (rest := []) rfl (Nat.le_of_ble_eq_true rfl) ⟨Nat.le_of_ble_eq_true rfl, Nat.le_of_ble_eq_true rfl⟩ ⟨Nat.le_of_ble_eq_true rfl, Nat.le_of_ble_eq_true rfl⟩ (fun r σ8640 hp => ?_)
    obtain ⟨P8643, oP8643, rP8643, pr8644, h8641, rfl⟩ := hp
    have h8642 := HS.trans h8639 h8641 (by decide)
    have xP8643 := oP8643
    unfold OKP at xP8643
    unfold RA at rP8643
    refine m_aload_n F rfl e_X10_readLease_18 ?_
    refine r_get F e_X10_readLease_19 fl_X10_141 h8642 rfl (fun v hv f8645 => ?_)
    obtain ⟨x8646, hx8646, rfl⟩ := hv
    replace hx8646 : 0 = 0 → x8646 ≠ 0 := hx8646
    refine m_if_eq F e_X10_readLease_22 (fun q22 => ?_) (fun q22 => ?_)
    · first | exact absurd q22 (hx8646 rfl) | contradiction
    · have h8647 := HS.z0 h8642 (f8645) q22
      have h8648 : HS V c _ [0, 2, 12, 13, 14, 15, 16, 17, 18, 19, 20, 21, 22, 23] _ _ := ⟨HR.mono (Z' := Z) (by intro e; first | rfl | assumption | omega) h8647.1, h8647.2⟩
      exact m_vret F hQ e_X10_readLease_25 (⟨P8643, oP8643, (by unfold RP; omega), h8648, rfl⟩)
set_option maxRecDepth 20000 in
theorem lq_X10_readPay_60 {V : VX} {X : MX} {N : Nat} {σ : Mem} {c T Z u h : Nat} {P : NP} {L : Nat → LQ}   (F : Fx V X yX10_readPay cX10_readPay 6 none (rmd 8 0 0)) (hQ : Rt V X 0 0 N (fun r τ => ∃ P9 : NP, OKP P9 ∧ RP P P9 ∧ HS V c (⟨T, Z, u, h, P9, L⟩ : RG) [0, 2, 4, 5, 6, 7, 8, 9, 10, 12, 13, 14, 15, 16, 17, 18, 19, 20, 21, 22, 23] σ τ ∧ r = none)) (hob : OKB L) (hP : OKP P)   : ∀ (fuel : Nat) (a : Nat) (b : Nat) (m1 : Int32) (k : Nat) (P1 : NP) (τ : Mem), HS V c (⟨T, Z, u, h, P1, L⟩ : RG) [0, 2, 4, 5, 6, 7, 8, 9, 10, 12, 13, 14, 15, 16, 17, 18, 19, 20, 21, 22, 23] σ τ → OKP P1 → RP P P1 → a ≤ 7 ∧ 1 ≤ k ∧ k ≤ 49 ∧ b ≤ 48 → 49 - k < fuel → Wm V X 6 N τ 0 0 60 [(0, .ref c), (1, .int (nI a)), (3, .int (nI b)), (4, .int m1), (5, .int (nI k))] [] := by
  intro fuel
  induction fuel with
  | zero => intros; rename_i hm; exact absurd hm (Nat.not_lt_zero _)
  | succ fuel ih =>
    intro a b m1 k P1 τ h1 hP1 hR1 hi hm
    have hPP := hP
    unfold OKP at hPP
    have hPP1 := hP1
    unfold OKP at hPP1
    unfold RP at hR1
    refine m_iload F rfl e_X10_readPay_60 ?_
    refine m_iload_n F rfl e_X10_readPay_62 ?_
    refine m_icmp_gt F e_X10_readPay_63 (fun q63 => ?_) (fun q63 => ?_)
    · have c63 : k > b := (nI_ltI (a := b) (b := k) (by omega) (by omega)).mp q63
      refine m_aload_n F rfl e_X10_readPay_91 ?_
      refine m_iconst F (v := 1) (by decide) e_X10_readPay_92 ?_
      refine m_aload_n F rfl e_X10_readPay_93 ?_
      refine m_iconst F (v := 1) (by decide) e_X10_readPay_94 ?_
      refine r_callV F e_X10_readPay_95 (q_X10_reading1 (x_l X) V c T Z u h P1 L _ _  h1.1 (hob) hP1 ) cb_X10_reading ml_X10_157 im_X10_reading se_X10_reading h1 rfl rfl (rest := [.int 1, .ref c]) rfl (Nat.le_of_ble_eq_true rfl) ⟨Nat.le_of_ble_eq_true rfl, Nat.le_of_ble_eq_true rfl⟩ ⟨Nat.le_of_ble_eq_true rfl, Nat.le_of_ble_eq_true rfl⟩ (fun r σ8649 hp => ?_)
      obtain ⟨h8650, x8652, rfl⟩ := hp
      have h8651 := HS.trans h1 h8650 (by decide)
      refine m_iconst F (v := 1) (by decide) e_X10_readPay_98 ?_
      refine m_iadd F e_X10_readPay_99 ?_
      refine Wm.top (fun x8653 _ => ?_)
      refine r_callV F e_X10_readPay_100 (q_X10_reads1 (x_l X) V c T Z u h P1 L _ _ x8653 h8651.1 (hob) hP1 ) cb_X10_reads ml_X10_170 im_X10_reads se_X10_reads h8651 rfl rfl (rest := []) rfl (Nat.le_of_ble_eq_true rfl) ⟨Nat.le_of_ble_eq_true rfl, Nat.le_of_ble_eq_true rfl⟩ ⟨Nat.le_of_ble_eq_true rfl, Nat.le_of_ble_eq_true rfl⟩ (fun r σ8654 hp => ?_)
      obtain ⟨h8655, rfl⟩ := hp
      have h8656 := HS.trans h8651 h8655 (by decide)
      exact m_vret F hQ e_X10_readPay_103 (⟨P1, hP1, (by unfold RP; omega), h8656, rfl⟩)
    · have c63 : k ≤ b := by have hh := mt (nI_ltI (a := b) (b := k) (by omega) (by omega)).mpr q63; omega
      refine m_aload_n F rfl e_X10_readPay_66 ?_
      refine r_get F e_X10_readPay_67 fl_X10_37 h1 rfl (fun v hv f8657 => ?_)
      obtain rfl : v = .ref (c + 10) := hv
      refine m_bipush F (v := 48) (by decide) e_X10_readPay_70 ?_
      refine m_iload_n F rfl e_X10_readPay_72 ?_
      refine m_imul F e_X10_readPay_73 ?_
      refine Wm.topE (w := nI (48 * a)) (pk_mul 48 a) ?_
      refine m_iload F rfl e_X10_readPay_74 ?_
      refine m_iadd F e_X10_readPay_76 ?_
      refine Wm.topE (w := nI ((48 * a) + k)) (nI_add (48 * a) k) ?_
      refine m_iconst F (v := 1) (by decide) e_X10_readPay_77 ?_
      refine m_isub F e_X10_readPay_78 ?_
      refine Wm.topE (w := nI (((48 * a) + k) - 1)) (pk_sub (a := (48 * a) + k) (b := 1) (by omega)) ?_
      refine m_dup2_11 F rfl rfl e_X10_readPay_79 ?_
      refine r_iald F (len := 384) (j := ((48 * a) + k) - 1) e_X10_readPay_80 h1 (fun _ h => h) (by decide) (nI_clamp (by omega)) (vp_in_nI (by omega) (by decide)) (fun x8658 h8659 f8660 => ?_)
      refine m_iload F rfl e_X10_readPay_81 ?_
      refine m_iadd F e_X10_readPay_83 ?_
      refine Wm.top (fun x8661 _ => ?_)
      refine r_iast F (g' := (⟨T, Z, u, h, P1, L⟩ : RG)) (len := 384) (j := ((48 * a) + k) - 1) e_X10_readPay_84 h1 (fun _ h => h) (fun f h => ⟨f, rfl, h⟩) (by decide) (by decide) (nI_clamp (by omega)) (vp_in_nI (by omega) (by decide)) trivial (fun _ _ _ h => h) (fun _ _ _ h => h) (fun σ8662 h8663 g8664 f8665 g8666 => ?_)
      refine m_iinc F (v := nI (k + 1)) (lv' := [(5, .int (nI (k + 1))), (0, .ref c), (1, .int (nI a)), (3, .int (nI b)), (4, .int m1)]) e_X10_readPay_85 rfl (nI_add k 1) (by decide) rfl ?_
      refine m_goto F e_X10_readPay_88 ?_
      refine Wm.lvsub (lv' := [(0, .ref c), (1, .int (nI a)), (3, .int (nI b)), (4, .int m1), (5, .int (nI (k + 1)))]) ?_ [1, 2, 3, 4, 0] rfl
      exact ih a b m1 (k + 1) P1 _ h8663 hP1 (by unfold RP; omega) (by omega) (by omega)
set_option maxRecDepth 20000 in
theorem q_X10_readPay (l : Launch) (V : VX) (c T Z u h : Nat) (P : NP) (L : Nat → LQ) (N : Nat) (σ : Mem)  (h0 : HR V c ⟨T, Z, u, h, P, L⟩ σ) (hob : OKB L) (hP : OKP P)  : Ct l V yX10_readPay cX10_readPay 6 none 8 0 0 N σ [.ref c] (fun r τ => ∃ P9 : NP, OKP P9 ∧ RP P P9 ∧ HS V c (⟨T, Z, u, h, P9, L⟩ : RG) [0, 2, 4, 5, 6, 7, 8, 9, 10, 12, 13, 14, 15, 16, 17, 18, 19, 20, 21, 22, 23] σ τ ∧ r = none) := by
  refine Ct.of (by decide) (Nat.le_of_ble_eq_true rfl) [(0, .ref c)] rfl (fun X hX F hQ => ?_)
  have hPP := hP
  unfold OKP at hPP
  have h1 : HS V c ⟨T, Z, u, h, P, L⟩ [0, 2, 4, 5, 6, 7, 8, 9, 10, 12, 13, 14, 15, 16, 17, 18, 19, 20, 21, 22, 23] σ σ := HS.start h0
  refine m_aload_n F rfl e_X10_readPay_0 ?_
  refine m_iconst F (v := 1) (by decide) e_X10_readPay_1 ?_
  refine r_callV F e_X10_readPay_2 (q_X10_reading1 (x_l X) V c T Z u h P L _ _  h1.1 (hob) hP ) cb_X10_reading ml_X10_157 im_X10_reading se_X10_reading h1 rfl rfl (rest := []) rfl (Nat.le_of_ble_eq_true rfl) ⟨Nat.le_of_ble_eq_true rfl, Nat.le_of_ble_eq_true rfl⟩ ⟨Nat.le_of_ble_eq_true rfl, Nat.le_of_ble_eq_true rfl⟩ (fun r σ8667 hp => ?_)
  obtain ⟨h8668, x8670, rfl⟩ := hp
  have h8669 := HS.trans h1 h8668 (by decide)
  refine m_bipush F (v := 12) (by decide) e_X10_readPay_5 ?_
  refine m_icmp_ne F e_X10_readPay_7 (fun q7 => ?_) (fun q7 => ?_)
  · refine m_aload_n F rfl e_X10_readPay_15 ?_
    refine r_callV F e_X10_readPay_16 (q_X10_atHand (x_l X) V c T Z u h P L _ _  h8669.1 (hob) hP ) cb_X10_atHand ml_X10_174 im_X10_atHand se_X10_atHand h8669 rfl rfl (rest := []) rfl (Nat.le_of_ble_eq_true rfl) ⟨Nat.le_of_ble_eq_true rfl, Nat.le_of_ble_eq_true rfl⟩ ⟨Nat.le_of_ble_eq_true rfl, Nat.le_of_ble_eq_true rfl⟩ (fun r σ8671 hp => ?_)
    obtain ⟨P8675, oP8675, rP8675, h8672, n8674, gn8674, hn8674, rfl⟩ := hp
    have h8673 := HS.trans h8669 h8672 (by decide)
    have xP8675 := oP8675
    unfold OKP at xP8675
    unfold RA at rP8675
    refine m_istore_n F (lv' := [(1, .int (nI n8674)), (0, .ref c)]) e_X10_readPay_19 (by decide) rfl ?_
    refine m_aload_n F rfl e_X10_readPay_20 ?_
    refine r_callV F e_X10_readPay_21 (q_X10_goOn (x_l X) V c T Z u h P8675 L _ _  h8673.1 (hob) oP8675 ) cb_X10_goOn ml_X10_154 im_X10_goOn se_X10_goOn h8673 rfl rfl (rest := []) rfl (Nat.le_of_ble_eq_true rfl) ⟨Nat.le_of_ble_eq_true rfl, Nat.le_of_ble_eq_true rfl⟩ ⟨Nat.le_of_ble_eq_true rfl, Nat.le_of_ble_eq_true rfl⟩ (fun r σ8676 hp => ?_)
    obtain ⟨P8679, oP8679, rP8679, pr8680, h8677, rfl⟩ := hp
    have h8678 := HS.trans h8673 h8677 (by decide)
    have xP8679 := oP8679
    unfold OKP at xP8679
    unfold RA at rP8679
    refine m_aload_n F rfl e_X10_readPay_24 ?_
    refine m_iconst F (v := 1) (by decide) e_X10_readPay_25 ?_
    refine m_bipush F (v := 48) (by decide) e_X10_readPay_26 ?_
    refine r_callV F e_X10_readPay_28 (q_X10_numeral (x_l X) V c T Z u h P8679 L _ _ 1 48 h8678.1 (hob) oP8679 (by omega) (by omega)) cb_X10_numeral ml_X10_165 im_X10_numeral se_X10_numeral h8678 rfl rfl (rest := []) rfl (Nat.le_of_ble_eq_true rfl) ⟨Nat.le_of_ble_eq_true rfl, Nat.le_of_ble_eq_true rfl⟩ ⟨Nat.le_of_ble_eq_true rfl, Nat.le_of_ble_eq_true rfl⟩ (fun r σ8681 hp => ?_)
    obtain ⟨P8685, oP8685, rP8685, h8682, c8684⟩ := hp
    have h8683 := HS.trans h8678 h8682 (by decide)
    have xP8685 := oP8685
    unfold OKP at xP8685
    unfold RA at rP8685
    rcases c8684 with ⟨n8686, gn8686, hn8686, rfl⟩ | ⟨h8687, rfl⟩
    · refine m_istore_n F (lv' := [(2, .int (nI n8686)), (1, .int (nI n8674)), (0, .ref c)]) e_X10_readPay_31 (by decide) rfl ?_
      refine m_aload_n F rfl e_X10_readPay_32 ?_
      refine m_iload_n F rfl e_X10_readPay_33 ?_
      refine m_bipush F (v := 48) (by decide) e_X10_readPay_34 ?_
      refine r_callV F e_X10_readPay_36 (q_X10_numeral (x_l X) V c T Z u h P8685 L _ _ n8686 48 h8683.1 (hob) oP8685 (by omega) (by omega)) cb_X10_numeral ml_X10_165 im_X10_numeral se_X10_numeral h8683 rfl rfl (rest := []) rfl (Nat.le_of_ble_eq_true rfl) ⟨Nat.le_of_ble_eq_true rfl, Nat.le_of_ble_eq_true rfl⟩ ⟨Nat.le_of_ble_eq_true rfl, Nat.le_of_ble_eq_true rfl⟩ (fun r σ8688 hp => ?_)
      obtain ⟨P8692, oP8692, rP8692, h8689, c8691⟩ := hp
      have h8690 := HS.trans h8683 h8689 (by decide)
      have xP8692 := oP8692
      unfold OKP at xP8692
      unfold RA at rP8692
      rcases c8691 with ⟨n8693, gn8693, hn8693, rfl⟩ | ⟨h8694, rfl⟩
      · refine m_istore_n F (lv' := [(3, .int (nI n8693)), (2, .int (nI n8686)), (1, .int (nI n8674)), (0, .ref c)]) e_X10_readPay_39 (by decide) rfl ?_
        refine m_aload_n F rfl e_X10_readPay_40 ?_
        refine m_iconst F (v := 0) (by decide) e_X10_readPay_41 ?_
        refine m_ldc F kc_X10_177 e_X10_readPay_42 ?_
        refine r_callV F e_X10_readPay_44 (q_X10_numeral (x_l X) V c T Z u h P8692 L _ _ 0 99999 h8690.1 (hob) oP8692 (by omega) (by omega)) cb_X10_numeral ml_X10_165 im_X10_numeral se_X10_numeral h8690 rfl rfl (rest := []) rfl (Nat.le_of_ble_eq_true rfl) ⟨Nat.le_of_ble_eq_true rfl, Nat.le_of_ble_eq_true rfl⟩ ⟨Nat.le_of_ble_eq_true rfl, Nat.le_of_ble_eq_true rfl⟩ (fun r σ8695 hp => ?_)
        obtain ⟨P8699, oP8699, rP8699, h8696, c8698⟩ := hp
        have h8697 := HS.trans h8690 h8696 (by decide)
        have xP8699 := oP8699
        unfold OKP at xP8699
        unfold RA at rP8699
        rcases c8698 with ⟨n8700, gn8700, hn8700, rfl⟩ | ⟨h8701, rfl⟩
        · refine m_istore F (lv' := [(4, .int (nI n8700)), (3, .int (nI n8693)), (2, .int (nI n8686)), (1, .int (nI n8674)), (0, .ref c)]) e_X10_readPay_47 (by decide) rfl ?_
          refine m_aload_n F rfl e_X10_readPay_49 ?_
          refine r_get F e_X10_readPay_50 fl_X10_141 h8697 rfl (fun v hv f8702 => ?_)
          obtain ⟨x8703, hx8703, rfl⟩ := hv
          replace hx8703 : Z = 0 → x8703 ≠ 0 := hx8703
          refine m_if_eq F e_X10_readPay_53 (fun q53 => ?_) (fun q53 => ?_)
          · subst q53
            refine m_iload_n F rfl e_X10_readPay_57 ?_
            refine m_istore F (lv' := [(5, .int (nI n8686)), (4, .int (nI n8700)), (3, .int (nI n8693)), (2, .int (nI n8686)), (1, .int (nI n8674)), (0, .ref c)]) e_X10_readPay_58 (by decide) rfl ?_
            refine Wm.lvsub (lv' := [(0, .ref c), (1, .int (nI n8674)), (3, .int (nI n8693)), (4, .int (nI n8700)), (5, .int (nI n8686))]) ?_ [5, 4, 2, 1, 0] rfl
            exact lq_X10_readPay_60 F hQ hob hP  (49 - n8686 + 1) n8674 n8693 (nI n8700) n8686 P8699 _ h8697 oP8699 (by unfold RP; omega) (by omega) (Nat.lt_succ_self _)
          · have h8704 := HS.z0 h8697 (f8702) q53
            have h8705 : HS V c _ [0, 2, 4, 5, 6, 7, 8, 9, 10, 12, 13, 14, 15, 16, 17, 18, 19, 20, 21, 22, 23] _ _ := ⟨HR.mono (Z' := Z) (by intro e; first | rfl | assumption | omega) h8704.1, h8704.2⟩
            exact m_vret F hQ e_X10_readPay_56 (⟨P8699, oP8699, (by unfold RP; omega), h8705, rfl⟩)
        · have h8706 : HS V c (⟨T, 0, u, h, P8699, L⟩ : RG) [0, 2, 4, 5, 6, 7, 8, 9, 10, 12, 13, 14, 15, 16, 17, 18, 19, 20, 21, 22, 23] _ _ := ⟨h8701, h8697.2⟩
          refine m_istore F (lv' := [(4, .int (nI 0)), (3, .int (nI n8693)), (2, .int (nI n8686)), (1, .int (nI n8674)), (0, .ref c)]) e_X10_readPay_47 (by decide) rfl ?_
          refine m_aload_n F rfl e_X10_readPay_49 ?_
          refine r_get F e_X10_readPay_50 fl_X10_141 h8706 rfl (fun v hv f8707 => ?_)
          obtain ⟨x8708, hx8708, rfl⟩ := hv
          replace hx8708 : 0 = 0 → x8708 ≠ 0 := hx8708
          refine m_if_eq F e_X10_readPay_53 (fun q53 => ?_) (fun q53 => ?_)
          · first | exact absurd q53 (hx8708 rfl) | contradiction
          · have h8709 := HS.z0 h8706 (f8707) q53
            have h8710 : HS V c _ [0, 2, 4, 5, 6, 7, 8, 9, 10, 12, 13, 14, 15, 16, 17, 18, 19, 20, 21, 22, 23] _ _ := ⟨HR.mono (Z' := Z) (by intro e; first | rfl | assumption | omega) h8709.1, h8709.2⟩
            exact m_vret F hQ e_X10_readPay_56 (⟨P8699, oP8699, (by unfold RP; omega), h8710, rfl⟩)
      · have h8711 : HS V c (⟨T, 0, u, h, P8692, L⟩ : RG) [0, 2, 4, 5, 6, 7, 8, 9, 10, 12, 13, 14, 15, 16, 17, 18, 19, 20, 21, 22, 23] _ _ := ⟨h8694, h8690.2⟩
        refine m_istore_n F (lv' := [(3, .int (nI n8686)), (2, .int (nI n8686)), (1, .int (nI n8674)), (0, .ref c)]) e_X10_readPay_39 (by decide) rfl ?_
        refine m_aload_n F rfl e_X10_readPay_40 ?_
        refine m_iconst F (v := 0) (by decide) e_X10_readPay_41 ?_
        refine m_ldc F kc_X10_177 e_X10_readPay_42 ?_
        refine r_callV F e_X10_readPay_44 (q_X10_numeral (x_l X) V c T 0 u h P8692 L _ _ 0 99999 h8711.1 (hob) oP8692 (by omega) (by omega)) cb_X10_numeral ml_X10_165 im_X10_numeral se_X10_numeral h8711 rfl rfl (rest := []) rfl (Nat.le_of_ble_eq_true rfl) ⟨Nat.le_of_ble_eq_true rfl, Nat.le_of_ble_eq_true rfl⟩ ⟨Nat.le_of_ble_eq_true rfl, Nat.le_of_ble_eq_true rfl⟩ (fun r σ8712 hp => ?_)
        obtain ⟨P8716, oP8716, rP8716, h8713, c8715⟩ := hp
        have h8714 := HS.trans h8711 h8713 (by decide)
        have xP8716 := oP8716
        unfold OKP at xP8716
        unfold RA at rP8716
        rcases c8715 with ⟨n8717, gn8717, hn8717, rfl⟩ | ⟨h8718, rfl⟩
        · refine m_istore F (lv' := [(4, .int (nI n8717)), (3, .int (nI n8686)), (2, .int (nI n8686)), (1, .int (nI n8674)), (0, .ref c)]) e_X10_readPay_47 (by decide) rfl ?_
          refine m_aload_n F rfl e_X10_readPay_49 ?_
          refine r_get F e_X10_readPay_50 fl_X10_141 h8714 rfl (fun v hv f8719 => ?_)
          obtain ⟨x8720, hx8720, rfl⟩ := hv
          replace hx8720 : 0 = 0 → x8720 ≠ 0 := hx8720
          refine m_if_eq F e_X10_readPay_53 (fun q53 => ?_) (fun q53 => ?_)
          · first | exact absurd q53 (hx8720 rfl) | contradiction
          · have h8721 := HS.z0 h8714 (f8719) q53
            have h8722 : HS V c _ [0, 2, 4, 5, 6, 7, 8, 9, 10, 12, 13, 14, 15, 16, 17, 18, 19, 20, 21, 22, 23] _ _ := ⟨HR.mono (Z' := Z) (by intro e; first | rfl | assumption | omega) h8721.1, h8721.2⟩
            exact m_vret F hQ e_X10_readPay_56 (⟨P8716, oP8716, (by unfold RP; omega), h8722, rfl⟩)
        · have h8723 : HS V c (⟨T, 0, u, h, P8716, L⟩ : RG) [0, 2, 4, 5, 6, 7, 8, 9, 10, 12, 13, 14, 15, 16, 17, 18, 19, 20, 21, 22, 23] _ _ := ⟨h8718, h8714.2⟩
          refine m_istore F (lv' := [(4, .int (nI 0)), (3, .int (nI n8686)), (2, .int (nI n8686)), (1, .int (nI n8674)), (0, .ref c)]) e_X10_readPay_47 (by decide) rfl ?_
          refine m_aload_n F rfl e_X10_readPay_49 ?_
          refine r_get F e_X10_readPay_50 fl_X10_141 h8723 rfl (fun v hv f8724 => ?_)
          obtain ⟨x8725, hx8725, rfl⟩ := hv
          replace hx8725 : 0 = 0 → x8725 ≠ 0 := hx8725
          refine m_if_eq F e_X10_readPay_53 (fun q53 => ?_) (fun q53 => ?_)
          · first | exact absurd q53 (hx8725 rfl) | contradiction
          · have h8726 := HS.z0 h8723 (f8724) q53
            have h8727 : HS V c _ [0, 2, 4, 5, 6, 7, 8, 9, 10, 12, 13, 14, 15, 16, 17, 18, 19, 20, 21, 22, 23] _ _ := ⟨HR.mono (Z' := Z) (by intro e; first | rfl | assumption | omega) h8726.1, h8726.2⟩
            exact m_vret F hQ e_X10_readPay_56 (⟨P8716, oP8716, (by unfold RP; omega), h8727, rfl⟩)
    · have h8728 : HS V c (⟨T, 0, u, h, P8685, L⟩ : RG) [0, 2, 4, 5, 6, 7, 8, 9, 10, 12, 13, 14, 15, 16, 17, 18, 19, 20, 21, 22, 23] _ _ := ⟨h8687, h8683.2⟩
      refine m_istore_n F (lv' := [(2, .int (nI 1)), (1, .int (nI n8674)), (0, .ref c)]) e_X10_readPay_31 (by decide) rfl ?_
      refine m_aload_n F rfl e_X10_readPay_32 ?_
      refine m_iload_n F rfl e_X10_readPay_33 ?_
      refine m_bipush F (v := 48) (by decide) e_X10_readPay_34 ?_
      refine r_callV F e_X10_readPay_36 (q_X10_numeral (x_l X) V c T 0 u h P8685 L _ _ 1 48 h8728.1 (hob) oP8685 (by omega) (by omega)) cb_X10_numeral ml_X10_165 im_X10_numeral se_X10_numeral h8728 rfl rfl (rest := []) rfl (Nat.le_of_ble_eq_true rfl) ⟨Nat.le_of_ble_eq_true rfl, Nat.le_of_ble_eq_true rfl⟩ ⟨Nat.le_of_ble_eq_true rfl, Nat.le_of_ble_eq_true rfl⟩ (fun r σ8729 hp => ?_)
      obtain ⟨P8733, oP8733, rP8733, h8730, c8732⟩ := hp
      have h8731 := HS.trans h8728 h8730 (by decide)
      have xP8733 := oP8733
      unfold OKP at xP8733
      unfold RA at rP8733
      rcases c8732 with ⟨n8734, gn8734, hn8734, rfl⟩ | ⟨h8735, rfl⟩
      · refine m_istore_n F (lv' := [(3, .int (nI n8734)), (2, .int (nI 1)), (1, .int (nI n8674)), (0, .ref c)]) e_X10_readPay_39 (by decide) rfl ?_
        refine m_aload_n F rfl e_X10_readPay_40 ?_
        refine m_iconst F (v := 0) (by decide) e_X10_readPay_41 ?_
        refine m_ldc F kc_X10_177 e_X10_readPay_42 ?_
        refine r_callV F e_X10_readPay_44 (q_X10_numeral (x_l X) V c T 0 u h P8733 L _ _ 0 99999 h8731.1 (hob) oP8733 (by omega) (by omega)) cb_X10_numeral ml_X10_165 im_X10_numeral se_X10_numeral h8731 rfl rfl (rest := []) rfl (Nat.le_of_ble_eq_true rfl) ⟨Nat.le_of_ble_eq_true rfl, Nat.le_of_ble_eq_true rfl⟩ ⟨Nat.le_of_ble_eq_true rfl, Nat.le_of_ble_eq_true rfl⟩ (fun r σ8736 hp => ?_)
        obtain ⟨P8740, oP8740, rP8740, h8737, c8739⟩ := hp
        have h8738 := HS.trans h8731 h8737 (by decide)
        have xP8740 := oP8740
        unfold OKP at xP8740
        unfold RA at rP8740
        rcases c8739 with ⟨n8741, gn8741, hn8741, rfl⟩ | ⟨h8742, rfl⟩
        · refine m_istore F (lv' := [(4, .int (nI n8741)), (3, .int (nI n8734)), (2, .int (nI 1)), (1, .int (nI n8674)), (0, .ref c)]) e_X10_readPay_47 (by decide) rfl ?_
          refine m_aload_n F rfl e_X10_readPay_49 ?_
          refine r_get F e_X10_readPay_50 fl_X10_141 h8738 rfl (fun v hv f8743 => ?_)
          obtain ⟨x8744, hx8744, rfl⟩ := hv
          replace hx8744 : 0 = 0 → x8744 ≠ 0 := hx8744
          refine m_if_eq F e_X10_readPay_53 (fun q53 => ?_) (fun q53 => ?_)
          · first | exact absurd q53 (hx8744 rfl) | contradiction
          · have h8745 := HS.z0 h8738 (f8743) q53
            have h8746 : HS V c _ [0, 2, 4, 5, 6, 7, 8, 9, 10, 12, 13, 14, 15, 16, 17, 18, 19, 20, 21, 22, 23] _ _ := ⟨HR.mono (Z' := Z) (by intro e; first | rfl | assumption | omega) h8745.1, h8745.2⟩
            exact m_vret F hQ e_X10_readPay_56 (⟨P8740, oP8740, (by unfold RP; omega), h8746, rfl⟩)
        · have h8747 : HS V c (⟨T, 0, u, h, P8740, L⟩ : RG) [0, 2, 4, 5, 6, 7, 8, 9, 10, 12, 13, 14, 15, 16, 17, 18, 19, 20, 21, 22, 23] _ _ := ⟨h8742, h8738.2⟩
          refine m_istore F (lv' := [(4, .int (nI 0)), (3, .int (nI n8734)), (2, .int (nI 1)), (1, .int (nI n8674)), (0, .ref c)]) e_X10_readPay_47 (by decide) rfl ?_
          refine m_aload_n F rfl e_X10_readPay_49 ?_
          refine r_get F e_X10_readPay_50 fl_X10_141 h8747 rfl (fun v hv f8748 => ?_)
          obtain ⟨x8749, hx8749, rfl⟩ := hv
          replace hx8749 : 0 = 0 → x8749 ≠ 0 := hx8749
          refine m_if_eq F e_X10_readPay_53 (fun q53 => ?_) (fun q53 => ?_)
          · first | exact absurd q53 (hx8749 rfl) | contradiction
          · have h8750 := HS.z0 h8747 (f8748) q53
            have h8751 : HS V c _ [0, 2, 4, 5, 6, 7, 8, 9, 10, 12, 13, 14, 15, 16, 17, 18, 19, 20, 21, 22, 23] _ _ := ⟨HR.mono (Z' := Z) (by intro e; first | rfl | assumption | omega) h8750.1, h8750.2⟩
            exact m_vret F hQ e_X10_readPay_56 (⟨P8740, oP8740, (by unfold RP; omega), h8751, rfl⟩)
      · have h8752 : HS V c (⟨T, 0, u, h, P8733, L⟩ : RG) [0, 2, 4, 5, 6, 7, 8, 9, 10, 12, 13, 14, 15, 16, 17, 18, 19, 20, 21, 22, 23] _ _ := ⟨h8735, h8731.2⟩
        refine m_istore_n F (lv' := [(3, .int (nI 1)), (2, .int (nI 1)), (1, .int (nI n8674)), (0, .ref c)]) e_X10_readPay_39 (by decide) rfl ?_
        refine m_aload_n F rfl e_X10_readPay_40 ?_
        refine m_iconst F (v := 0) (by decide) e_X10_readPay_41 ?_
        refine m_ldc F kc_X10_177 e_X10_readPay_42 ?_
        refine r_callV F e_X10_readPay_44 (q_X10_numeral (x_l X) V c T 0 u h P8733 L _ _ 0 99999 h8752.1 (hob) oP8733 (by omega) (by omega)) cb_X10_numeral ml_X10_165 im_X10_numeral se_X10_numeral h8752 rfl rfl (rest := []) rfl (Nat.le_of_ble_eq_true rfl) ⟨Nat.le_of_ble_eq_true rfl, Nat.le_of_ble_eq_true rfl⟩ ⟨Nat.le_of_ble_eq_true rfl, Nat.le_of_ble_eq_true rfl⟩ (fun r σ8753 hp => ?_)
        obtain ⟨P8757, oP8757, rP8757, h8754, c8756⟩ := hp
        have h8755 := HS.trans h8752 h8754 (by decide)
        have xP8757 := oP8757
        unfold OKP at xP8757
        unfold RA at rP8757
        rcases c8756 with ⟨n8758, gn8758, hn8758, rfl⟩ | ⟨h8759, rfl⟩
        · refine m_istore F (lv' := [(4, .int (nI n8758)), (3, .int (nI 1)), (2, .int (nI 1)), (1, .int (nI n8674)), (0, .ref c)]) e_X10_readPay_47 (by decide) rfl ?_
          refine m_aload_n F rfl e_X10_readPay_49 ?_
          refine r_get F e_X10_readPay_50 fl_X10_141 h8755 rfl (fun v hv f8760 => ?_)
          obtain ⟨x8761, hx8761, rfl⟩ := hv
          replace hx8761 : 0 = 0 → x8761 ≠ 0 := hx8761
          refine m_if_eq F e_X10_readPay_53 (fun q53 => ?_) (fun q53 => ?_)
          · first | exact absurd q53 (hx8761 rfl) | contradiction
          · have h8762 := HS.z0 h8755 (f8760) q53
            have h8763 : HS V c _ [0, 2, 4, 5, 6, 7, 8, 9, 10, 12, 13, 14, 15, 16, 17, 18, 19, 20, 21, 22, 23] _ _ := ⟨HR.mono (Z' := Z) (by intro e; first | rfl | assumption | omega) h8762.1, h8762.2⟩
            exact m_vret F hQ e_X10_readPay_56 (⟨P8757, oP8757, (by unfold RP; omega), h8763, rfl⟩)
        · have h8764 : HS V c (⟨T, 0, u, h, P8757, L⟩ : RG) [0, 2, 4, 5, 6, 7, 8, 9, 10, 12, 13, 14, 15, 16, 17, 18, 19, 20, 21, 22, 23] _ _ := ⟨h8759, h8755.2⟩
          refine m_istore F (lv' := [(4, .int (nI 0)), (3, .int (nI 1)), (2, .int (nI 1)), (1, .int (nI n8674)), (0, .ref c)]) e_X10_readPay_47 (by decide) rfl ?_
          refine m_aload_n F rfl e_X10_readPay_49 ?_
          refine r_get F e_X10_readPay_50 fl_X10_141 h8764 rfl (fun v hv f8765 => ?_)
          obtain ⟨x8766, hx8766, rfl⟩ := hv
          replace hx8766 : 0 = 0 → x8766 ≠ 0 := hx8766
          refine m_if_eq F e_X10_readPay_53 (fun q53 => ?_) (fun q53 => ?_)
          · first | exact absurd q53 (hx8766 rfl) | contradiction
          · have h8767 := HS.z0 h8764 (f8765) q53
            have h8768 : HS V c _ [0, 2, 4, 5, 6, 7, 8, 9, 10, 12, 13, 14, 15, 16, 17, 18, 19, 20, 21, 22, 23] _ _ := ⟨HR.mono (Z' := Z) (by intro e; first | rfl | assumption | omega) h8767.1, h8767.2⟩
            exact m_vret F hQ e_X10_readPay_56 (⟨P8757, oP8757, (by unfold RP; omega), h8768, rfl⟩)
  · subst q7
    refine m_aload_n F rfl e_X10_readPay_10 ?_
    refine m_iconst F (v := 2) (by decide) e_X10_readPay_11 ?_
    refine r_callV F e_X10_readPay_12 (q_X10_wrong (x_l X) V c T Z u h P L _ _ 2 h8669.1 (hob) hP (by first | omega | assumption | decide)) cb_X10_wrong ml_X10_150 im_X10_wrong se_X10_wrong h8669 rfl rfl (rest := []) rfl (Nat.le_of_ble_eq_true rfl) ⟨Nat.le_of_ble_eq_true rfl, Nat.le_of_ble_eq_true rfl⟩ ⟨Nat.le_of_ble_eq_true rfl, Nat.le_of_ble_eq_true rfl⟩ (fun r σ8769 hp => ?_)
    obtain ⟨h8770, rfl⟩ := hp
    have h8771 := HS.trans h8669 h8770 (by decide)
    refine m_aload_n F rfl e_X10_readPay_15 ?_
    refine r_callV F e_X10_readPay_16 (q_X10_atHand (x_l X) V c T 0 u h P L _ _  h8771.1 (hob) hP ) cb_X10_atHand ml_X10_174 im_X10_atHand se_X10_atHand h8771 rfl rfl (rest := []) rfl (Nat.le_of_ble_eq_true rfl) ⟨Nat.le_of_ble_eq_true rfl, Nat.le_of_ble_eq_true rfl⟩ ⟨Nat.le_of_ble_eq_true rfl, Nat.le_of_ble_eq_true rfl⟩ (fun r σ8772 hp => ?_)
    obtain ⟨P8776, oP8776, rP8776, h8773, n8775, gn8775, hn8775, rfl⟩ := hp
    have h8774 := HS.trans h8771 h8773 (by decide)
    have xP8776 := oP8776
    unfold OKP at xP8776
    unfold RA at rP8776
    refine m_istore_n F (lv' := [(1, .int (nI n8775)), (0, .ref c)]) e_X10_readPay_19 (by decide) rfl ?_
    refine m_aload_n F rfl e_X10_readPay_20 ?_
    refine r_callV F e_X10_readPay_21 (q_X10_goOn (x_l X) V c T 0 u h P8776 L _ _  h8774.1 (hob) oP8776 ) cb_X10_goOn ml_X10_154 im_X10_goOn se_X10_goOn h8774 rfl rfl (rest := []) rfl (Nat.le_of_ble_eq_true rfl) ⟨Nat.le_of_ble_eq_true rfl, Nat.le_of_ble_eq_true rfl⟩ ⟨Nat.le_of_ble_eq_true rfl, Nat.le_of_ble_eq_true rfl⟩ (fun r σ8777 hp => ?_)
    obtain ⟨P8780, oP8780, rP8780, pr8781, h8778, rfl⟩ := hp
    have h8779 := HS.trans h8774 h8778 (by decide)
    have xP8780 := oP8780
    unfold OKP at xP8780
    unfold RA at rP8780
    refine m_aload_n F rfl e_X10_readPay_24 ?_
    refine m_iconst F (v := 1) (by decide) e_X10_readPay_25 ?_
    refine m_bipush F (v := 48) (by decide) e_X10_readPay_26 ?_
    refine r_callV F e_X10_readPay_28 (q_X10_numeral (x_l X) V c T 0 u h P8780 L _ _ 1 48 h8779.1 (hob) oP8780 (by omega) (by omega)) cb_X10_numeral ml_X10_165 im_X10_numeral se_X10_numeral h8779 rfl rfl (rest := []) rfl (Nat.le_of_ble_eq_true rfl) ⟨Nat.le_of_ble_eq_true rfl, Nat.le_of_ble_eq_true rfl⟩ ⟨Nat.le_of_ble_eq_true rfl, Nat.le_of_ble_eq_true rfl⟩ (fun r σ8782 hp => ?_)
    obtain ⟨P8786, oP8786, rP8786, h8783, c8785⟩ := hp
    have h8784 := HS.trans h8779 h8783 (by decide)
    have xP8786 := oP8786
    unfold OKP at xP8786
    unfold RA at rP8786
    rcases c8785 with ⟨n8787, gn8787, hn8787, rfl⟩ | ⟨h8788, rfl⟩
    · refine m_istore_n F (lv' := [(2, .int (nI n8787)), (1, .int (nI n8775)), (0, .ref c)]) e_X10_readPay_31 (by decide) rfl ?_
      refine m_aload_n F rfl e_X10_readPay_32 ?_
      refine m_iload_n F rfl e_X10_readPay_33 ?_
      refine m_bipush F (v := 48) (by decide) e_X10_readPay_34 ?_
      refine r_callV F e_X10_readPay_36 (q_X10_numeral (x_l X) V c T 0 u h P8786 L _ _ n8787 48 h8784.1 (hob) oP8786 (by omega) (by omega)) cb_X10_numeral ml_X10_165 im_X10_numeral se_X10_numeral h8784 rfl rfl (rest := []) rfl (Nat.le_of_ble_eq_true rfl) ⟨Nat.le_of_ble_eq_true rfl, Nat.le_of_ble_eq_true rfl⟩ ⟨Nat.le_of_ble_eq_true rfl, Nat.le_of_ble_eq_true rfl⟩ (fun r σ8789 hp => ?_)
      obtain ⟨P8793, oP8793, rP8793, h8790, c8792⟩ := hp
      have h8791 := HS.trans h8784 h8790 (by decide)
      have xP8793 := oP8793
      unfold OKP at xP8793
      unfold RA at rP8793
      rcases c8792 with ⟨n8794, gn8794, hn8794, rfl⟩ | ⟨h8795, rfl⟩
      · refine m_istore_n F (lv' := [(3, .int (nI n8794)), (2, .int (nI n8787)), (1, .int (nI n8775)), (0, .ref c)]) e_X10_readPay_39 (by decide) rfl ?_
        refine m_aload_n F rfl e_X10_readPay_40 ?_
        refine m_iconst F (v := 0) (by decide) e_X10_readPay_41 ?_
        refine m_ldc F kc_X10_177 e_X10_readPay_42 ?_
        refine r_callV F e_X10_readPay_44 (q_X10_numeral (x_l X) V c T 0 u h P8793 L _ _ 0 99999 h8791.1 (hob) oP8793 (by omega) (by omega)) cb_X10_numeral ml_X10_165 im_X10_numeral se_X10_numeral h8791 rfl rfl (rest := []) rfl (Nat.le_of_ble_eq_true rfl) ⟨Nat.le_of_ble_eq_true rfl, Nat.le_of_ble_eq_true rfl⟩ ⟨Nat.le_of_ble_eq_true rfl, Nat.le_of_ble_eq_true rfl⟩ (fun r σ8796 hp => ?_)
        obtain ⟨P8800, oP8800, rP8800, h8797, c8799⟩ := hp
        have h8798 := HS.trans h8791 h8797 (by decide)
        have xP8800 := oP8800
        unfold OKP at xP8800
        unfold RA at rP8800
        rcases c8799 with ⟨n8801, gn8801, hn8801, rfl⟩ | ⟨h8802, rfl⟩
        · refine m_istore F (lv' := [(4, .int (nI n8801)), (3, .int (nI n8794)), (2, .int (nI n8787)), (1, .int (nI n8775)), (0, .ref c)]) e_X10_readPay_47 (by decide) rfl ?_
          refine m_aload_n F rfl e_X10_readPay_49 ?_
          refine r_get F e_X10_readPay_50 fl_X10_141 h8798 rfl (fun v hv f8803 => ?_)
          obtain ⟨x8804, hx8804, rfl⟩ := hv
          replace hx8804 : 0 = 0 → x8804 ≠ 0 := hx8804
          refine m_if_eq F e_X10_readPay_53 (fun q53 => ?_) (fun q53 => ?_)
          · first | exact absurd q53 (hx8804 rfl) | contradiction
          · have h8805 := HS.z0 h8798 (f8803) q53
            have h8806 : HS V c _ [0, 2, 4, 5, 6, 7, 8, 9, 10, 12, 13, 14, 15, 16, 17, 18, 19, 20, 21, 22, 23] _ _ := ⟨HR.mono (Z' := Z) (by intro e; first | rfl | assumption | omega) h8805.1, h8805.2⟩
            exact m_vret F hQ e_X10_readPay_56 (⟨P8800, oP8800, (by unfold RP; omega), h8806, rfl⟩)
        · have h8807 : HS V c (⟨T, 0, u, h, P8800, L⟩ : RG) [0, 2, 4, 5, 6, 7, 8, 9, 10, 12, 13, 14, 15, 16, 17, 18, 19, 20, 21, 22, 23] _ _ := ⟨h8802, h8798.2⟩
          refine m_istore F (lv' := [(4, .int (nI 0)), (3, .int (nI n8794)), (2, .int (nI n8787)), (1, .int (nI n8775)), (0, .ref c)]) e_X10_readPay_47 (by decide) rfl ?_
          refine m_aload_n F rfl e_X10_readPay_49 ?_
          refine r_get F e_X10_readPay_50 fl_X10_141 h8807 rfl (fun v hv f8808 => ?_)
          obtain ⟨x8809, hx8809, rfl⟩ := hv
          replace hx8809 : 0 = 0 → x8809 ≠ 0 := hx8809
          refine m_if_eq F e_X10_readPay_53 (fun q53 => ?_) (fun q53 => ?_)
          · first | exact absurd q53 (hx8809 rfl) | contradiction
          · have h8810 := HS.z0 h8807 (f8808) q53
            have h8811 : HS V c _ [0, 2, 4, 5, 6, 7, 8, 9, 10, 12, 13, 14, 15, 16, 17, 18, 19, 20, 21, 22, 23] _ _ := ⟨HR.mono (Z' := Z) (by intro e; first | rfl | assumption | omega) h8810.1, h8810.2⟩
            exact m_vret F hQ e_X10_readPay_56 (⟨P8800, oP8800, (by unfold RP; omega), h8811, rfl⟩)
      · have h8812 : HS V c (⟨T, 0, u, h, P8793, L⟩ : RG) [0, 2, 4, 5, 6, 7, 8, 9, 10, 12, 13, 14, 15, 16, 17, 18, 19, 20, 21, 22, 23] _ _ := ⟨h8795, h8791.2⟩
        refine m_istore_n F (lv' := [(3, .int (nI n8787)), (2, .int (nI n8787)), (1, .int (nI n8775)), (0, .ref c)]) e_X10_readPay_39 (by decide) rfl ?_
        refine m_aload_n F rfl e_X10_readPay_40 ?_
        refine m_iconst F (v := 0) (by decide) e_X10_readPay_41 ?_
        refine m_ldc F kc_X10_177 e_X10_readPay_42 ?_
        refine r_callV F e_X10_readPay_44 (q_X10_numeral (x_l X) V c T 0 u h P8793 L _ _ 0 99999 h8812.1 (hob) oP8793 (by omega) (by omega)) cb_X10_numeral ml_X10_165 im_X10_numeral se_X10_numeral h8812 rfl rfl (rest := []) rfl (Nat.le_of_ble_eq_true rfl) ⟨Nat.le_of_ble_eq_true rfl, Nat.le_of_ble_eq_true rfl⟩ ⟨Nat.le_of_ble_eq_true rfl, Nat.le_of_ble_eq_true rfl⟩ (fun r σ8813 hp => ?_)
        obtain ⟨P8817, oP8817, rP8817, h8814, c8816⟩ := hp
        have h8815 := HS.trans h8812 h8814 (by decide)
        have xP8817 := oP8817
        unfold OKP at xP8817
        unfold RA at rP8817
        rcases c8816 with ⟨n8818, gn8818, hn8818, rfl⟩ | ⟨h8819, rfl⟩
        · refine m_istore F (lv' := [(4, .int (nI n8818)), (3, .int (nI n8787)), (2, .int (nI n8787)), (1, .int (nI n8775)), (0, .ref c)]) e_X10_readPay_47 (by decide) rfl ?_
          refine m_aload_n F rfl e_X10_readPay_49 ?_
          refine r_get F e_X10_readPay_50 fl_X10_141 h8815 rfl (fun v hv f8820 => ?_)
          obtain ⟨x8821, hx8821, rfl⟩ := hv
          replace hx8821 : 0 = 0 → x8821 ≠ 0 := hx8821
          refine m_if_eq F e_X10_readPay_53 (fun q53 => ?_) (fun q53 => ?_)
          · first | exact absurd q53 (hx8821 rfl) | contradiction
          · have h8822 := HS.z0 h8815 (f8820) q53
            have h8823 : HS V c _ [0, 2, 4, 5, 6, 7, 8, 9, 10, 12, 13, 14, 15, 16, 17, 18, 19, 20, 21, 22, 23] _ _ := ⟨HR.mono (Z' := Z) (by intro e; first | rfl | assumption | omega) h8822.1, h8822.2⟩
            exact m_vret F hQ e_X10_readPay_56 (⟨P8817, oP8817, (by unfold RP; omega), h8823, rfl⟩)
        · have h8824 : HS V c (⟨T, 0, u, h, P8817, L⟩ : RG) [0, 2, 4, 5, 6, 7, 8, 9, 10, 12, 13, 14, 15, 16, 17, 18, 19, 20, 21, 22, 23] _ _ := ⟨h8819, h8815.2⟩
          refine m_istore F (lv' := [(4, .int (nI 0)), (3, .int (nI n8787)), (2, .int (nI n8787)), (1, .int (nI n8775)), (0, .ref c)]) e_X10_readPay_47 (by decide) rfl ?_
          refine m_aload_n F rfl e_X10_readPay_49 ?_
          refine r_get F e_X10_readPay_50 fl_X10_141 h8824 rfl (fun v hv f8825 => ?_)
          obtain ⟨x8826, hx8826, rfl⟩ := hv
          replace hx8826 : 0 = 0 → x8826 ≠ 0 := hx8826
          refine m_if_eq F e_X10_readPay_53 (fun q53 => ?_) (fun q53 => ?_)
          · first | exact absurd q53 (hx8826 rfl) | contradiction
          · have h8827 := HS.z0 h8824 (f8825) q53
            have h8828 : HS V c _ [0, 2, 4, 5, 6, 7, 8, 9, 10, 12, 13, 14, 15, 16, 17, 18, 19, 20, 21, 22, 23] _ _ := ⟨HR.mono (Z' := Z) (by intro e; first | rfl | assumption | omega) h8827.1, h8827.2⟩
            exact m_vret F hQ e_X10_readPay_56 (⟨P8817, oP8817, (by unfold RP; omega), h8828, rfl⟩)
    · have h8829 : HS V c (⟨T, 0, u, h, P8786, L⟩ : RG) [0, 2, 4, 5, 6, 7, 8, 9, 10, 12, 13, 14, 15, 16, 17, 18, 19, 20, 21, 22, 23] _ _ := ⟨h8788, h8784.2⟩
      refine m_istore_n F (lv' := [(2, .int (nI 1)), (1, .int (nI n8775)), (0, .ref c)]) e_X10_readPay_31 (by decide) rfl ?_
      refine m_aload_n F rfl e_X10_readPay_32 ?_
      refine m_iload_n F rfl e_X10_readPay_33 ?_
      refine m_bipush F (v := 48) (by decide) e_X10_readPay_34 ?_
      refine r_callV F e_X10_readPay_36 (q_X10_numeral (x_l X) V c T 0 u h P8786 L _ _ 1 48 h8829.1 (hob) oP8786 (by omega) (by omega)) cb_X10_numeral ml_X10_165 im_X10_numeral se_X10_numeral h8829 rfl rfl (rest := []) rfl (Nat.le_of_ble_eq_true rfl) ⟨Nat.le_of_ble_eq_true rfl, Nat.le_of_ble_eq_true rfl⟩ ⟨Nat.le_of_ble_eq_true rfl, Nat.le_of_ble_eq_true rfl⟩ (fun r σ8830 hp => ?_)
      obtain ⟨P8834, oP8834, rP8834, h8831, c8833⟩ := hp
      have h8832 := HS.trans h8829 h8831 (by decide)
      have xP8834 := oP8834
      unfold OKP at xP8834
      unfold RA at rP8834
      rcases c8833 with ⟨n8835, gn8835, hn8835, rfl⟩ | ⟨h8836, rfl⟩
      · refine m_istore_n F (lv' := [(3, .int (nI n8835)), (2, .int (nI 1)), (1, .int (nI n8775)), (0, .ref c)]) e_X10_readPay_39 (by decide) rfl ?_
        refine m_aload_n F rfl e_X10_readPay_40 ?_
        refine m_iconst F (v := 0) (by decide) e_X10_readPay_41 ?_
        refine m_ldc F kc_X10_177 e_X10_readPay_42 ?_
        refine r_callV F e_X10_readPay_44 (q_X10_numeral (x_l X) V c T 0 u h P8834 L _ _ 0 99999 h8832.1 (hob) oP8834 (by omega) (by omega)) cb_X10_numeral ml_X10_165 im_X10_numeral se_X10_numeral h8832 rfl rfl (rest := []) rfl (Nat.le_of_ble_eq_true rfl) ⟨Nat.le_of_ble_eq_true rfl, Nat.le_of_ble_eq_true rfl⟩ ⟨Nat.le_of_ble_eq_true rfl, Nat.le_of_ble_eq_true rfl⟩ (fun r σ8837 hp => ?_)
        obtain ⟨P8841, oP8841, rP8841, h8838, c8840⟩ := hp
        have h8839 := HS.trans h8832 h8838 (by decide)
        have xP8841 := oP8841
        unfold OKP at xP8841
        unfold RA at rP8841
        rcases c8840 with ⟨n8842, gn8842, hn8842, rfl⟩ | ⟨h8843, rfl⟩
        · refine m_istore F (lv' := [(4, .int (nI n8842)), (3, .int (nI n8835)), (2, .int (nI 1)), (1, .int (nI n8775)), (0, .ref c)]) e_X10_readPay_47 (by decide) rfl ?_
          refine m_aload_n F rfl e_X10_readPay_49 ?_
          refine r_get F e_X10_readPay_50 fl_X10_141 h8839 rfl (fun v hv f8844 => ?_)
          obtain ⟨x8845, hx8845, rfl⟩ := hv
          replace hx8845 : 0 = 0 → x8845 ≠ 0 := hx8845
          refine m_if_eq F e_X10_readPay_53 (fun q53 => ?_) (fun q53 => ?_)
          · first | exact absurd q53 (hx8845 rfl) | contradiction
          · have h8846 := HS.z0 h8839 (f8844) q53
            have h8847 : HS V c _ [0, 2, 4, 5, 6, 7, 8, 9, 10, 12, 13, 14, 15, 16, 17, 18, 19, 20, 21, 22, 23] _ _ := ⟨HR.mono (Z' := Z) (by intro e; first | rfl | assumption | omega) h8846.1, h8846.2⟩
            exact m_vret F hQ e_X10_readPay_56 (⟨P8841, oP8841, (by unfold RP; omega), h8847, rfl⟩)
        · have h8848 : HS V c (⟨T, 0, u, h, P8841, L⟩ : RG) [0, 2, 4, 5, 6, 7, 8, 9, 10, 12, 13, 14, 15, 16, 17, 18, 19, 20, 21, 22, 23] _ _ := ⟨h8843, h8839.2⟩
          refine m_istore F (lv' := [(4, .int (nI 0)), (3, .int (nI n8835)), (2, .int (nI 1)), (1, .int (nI n8775)), (0, .ref c)]) e_X10_readPay_47 (by decide) rfl ?_
          refine m_aload_n F rfl e_X10_readPay_49 ?_
          refine r_get F e_X10_readPay_50 fl_X10_141 h8848 rfl (fun v hv f8849 => ?_)
          obtain ⟨x8850, hx8850, rfl⟩ := hv
          replace hx8850 : 0 = 0 → x8850 ≠ 0 := hx8850
          refine m_if_eq F e_X10_readPay_53 (fun q53 => ?_) (fun q53 => ?_)
          · first | exact absurd q53 (hx8850 rfl) | contradiction
          · have h8851 := HS.z0 h8848 (f8849) q53
            have h8852 : HS V c _ [0, 2, 4, 5, 6, 7, 8, 9, 10, 12, 13, 14, 15, 16, 17, 18, 19, 20, 21, 22, 23] _ _ := ⟨HR.mono (Z' := Z) (by intro e; first | rfl | assumption | omega) h8851.1, h8851.2⟩
            exact m_vret F hQ e_X10_readPay_56 (⟨P8841, oP8841, (by unfold RP; omega), h8852, rfl⟩)
      · have h8853 : HS V c (⟨T, 0, u, h, P8834, L⟩ : RG) [0, 2, 4, 5, 6, 7, 8, 9, 10, 12, 13, 14, 15, 16, 17, 18, 19, 20, 21, 22, 23] _ _ := ⟨h8836, h8832.2⟩
        refine m_istore_n F (lv' := [(3, .int (nI 1)), (2, .int (nI 1)), (1, .int (nI n8775)), (0, .ref c)]) e_X10_readPay_39 (by decide) rfl ?_
        refine m_aload_n F rfl e_X10_readPay_40 ?_
        refine m_iconst F (v := 0) (by decide) e_X10_readPay_41 ?_
        refine m_ldc F kc_X10_177 e_X10_readPay_42 ?_
        refine r_callV F e_X10_readPay_44 (q_X10_numeral (x_l X) V c T 0 u h P8834 L _ _ 0 99999 h8853.1 (hob) oP8834 (by omega) (by omega)) cb_X10_numeral ml_X10_165 im_X10_numeral se_X10_numeral h8853 rfl rfl (rest := []) rfl (Nat.le_of_ble_eq_true rfl) ⟨Nat.le_of_ble_eq_true rfl, Nat.le_of_ble_eq_true rfl⟩ ⟨Nat.le_of_ble_eq_true rfl, Nat.le_of_ble_eq_true rfl⟩ (fun r σ8854 hp => ?_)
        obtain ⟨P8858, oP8858, rP8858, h8855, c8857⟩ := hp
        have h8856 := HS.trans h8853 h8855 (by decide)
        have xP8858 := oP8858
        unfold OKP at xP8858
        unfold RA at rP8858
        rcases c8857 with ⟨n8859, gn8859, hn8859, rfl⟩ | ⟨h8860, rfl⟩
        · refine m_istore F (lv' := [(4, .int (nI n8859)), (3, .int (nI 1)), (2, .int (nI 1)), (1, .int (nI n8775)), (0, .ref c)]) e_X10_readPay_47 (by decide) rfl ?_
          refine m_aload_n F rfl e_X10_readPay_49 ?_
          refine r_get F e_X10_readPay_50 fl_X10_141 h8856 rfl (fun v hv f8861 => ?_)
          obtain ⟨x8862, hx8862, rfl⟩ := hv
          replace hx8862 : 0 = 0 → x8862 ≠ 0 := hx8862
          refine m_if_eq F e_X10_readPay_53 (fun q53 => ?_) (fun q53 => ?_)
          · first | exact absurd q53 (hx8862 rfl) | contradiction
          · have h8863 := HS.z0 h8856 (f8861) q53
            have h8864 : HS V c _ [0, 2, 4, 5, 6, 7, 8, 9, 10, 12, 13, 14, 15, 16, 17, 18, 19, 20, 21, 22, 23] _ _ := ⟨HR.mono (Z' := Z) (by intro e; first | rfl | assumption | omega) h8863.1, h8863.2⟩
            exact m_vret F hQ e_X10_readPay_56 (⟨P8858, oP8858, (by unfold RP; omega), h8864, rfl⟩)
        · have h8865 : HS V c (⟨T, 0, u, h, P8858, L⟩ : RG) [0, 2, 4, 5, 6, 7, 8, 9, 10, 12, 13, 14, 15, 16, 17, 18, 19, 20, 21, 22, 23] _ _ := ⟨h8860, h8856.2⟩
          refine m_istore F (lv' := [(4, .int (nI 0)), (3, .int (nI 1)), (2, .int (nI 1)), (1, .int (nI n8775)), (0, .ref c)]) e_X10_readPay_47 (by decide) rfl ?_
          refine m_aload_n F rfl e_X10_readPay_49 ?_
          refine r_get F e_X10_readPay_50 fl_X10_141 h8865 rfl (fun v hv f8866 => ?_)
          obtain ⟨x8867, hx8867, rfl⟩ := hv
          replace hx8867 : 0 = 0 → x8867 ≠ 0 := hx8867
          refine m_if_eq F e_X10_readPay_53 (fun q53 => ?_) (fun q53 => ?_)
          · first | exact absurd q53 (hx8867 rfl) | contradiction
          · have h8868 := HS.z0 h8865 (f8866) q53
            have h8869 : HS V c _ [0, 2, 4, 5, 6, 7, 8, 9, 10, 12, 13, 14, 15, 16, 17, 18, 19, 20, 21, 22, 23] _ _ := ⟨HR.mono (Z' := Z) (by intro e; first | rfl | assumption | omega) h8868.1, h8868.2⟩
            exact m_vret F hQ e_X10_readPay_56 (⟨P8858, oP8858, (by unfold RP; omega), h8869, rfl⟩)
set_option maxRecDepth 20000 in
theorem q_X10_readMark (l : Launch) (V : VX) (c T Z u h : Nat) (P : NP) (L : Nat → LQ) (N : Nat) (σ : Mem) (x901 : Int32) (h0 : HR V c ⟨T, Z, u, h, P, L⟩ σ) (hob : OKB L) (hP : OKP P)  : Ct l V yX10_readMark cX10_readMark 3 none 8 0 0 N σ [.ref c, .int x901] (fun r τ => ∃ P9 : NP, OKP P9 ∧ RP P P9 ∧ HS V c (⟨T, Z, u, h, P9, L⟩ : RG) [0, 2, 3, 4, 5, 6, 7, 9, 10, 11, 12, 13, 14, 15, 16, 17, 18, 19, 20, 21, 22, 23] σ τ ∧ r = none) := by
  refine Ct.of (by decide) (Nat.le_of_ble_eq_true rfl) [(0, .ref c), (1, .int x901)] rfl (fun X hX F hQ => ?_)
  have hPP := hP
  unfold OKP at hPP
  have h1 : HS V c ⟨T, Z, u, h, P, L⟩ [0, 2, 3, 4, 5, 6, 7, 9, 10, 11, 12, 13, 14, 15, 16, 17, 18, 19, 20, 21, 22, 23] σ σ := HS.start h0
  refine m_aload_n F rfl e_X10_readMark_0 ?_
  refine r_callV F e_X10_readMark_1 (q_X10_atHand (x_l X) V c T Z u h P L _ _  h1.1 (hob) hP ) cb_X10_atHand ml_X10_174 im_X10_atHand se_X10_atHand h1 rfl rfl (rest := []) rfl (Nat.le_of_ble_eq_true rfl) ⟨Nat.le_of_ble_eq_true rfl, Nat.le_of_ble_eq_true rfl⟩ ⟨Nat.le_of_ble_eq_true rfl, Nat.le_of_ble_eq_true rfl⟩ (fun r σ8870 hp => ?_)
  obtain ⟨P8874, oP8874, rP8874, h8871, n8873, gn8873, hn8873, rfl⟩ := hp
  have h8872 := HS.trans h1 h8871 (by decide)
  have xP8874 := oP8874
  unfold OKP at xP8874
  unfold RA at rP8874
  refine m_istore_n F (lv' := [(2, .int (nI n8873)), (0, .ref c), (1, .int x901)]) e_X10_readMark_4 (by decide) rfl ?_
  refine m_aload_n F rfl e_X10_readMark_5 ?_
  refine r_get F e_X10_readMark_6 fl_X10_141 h8872 rfl (fun v hv f8875 => ?_)
  obtain ⟨x8876, hx8876, rfl⟩ := hv
  replace hx8876 : Z = 0 → x8876 ≠ 0 := hx8876
  refine m_if_ne F e_X10_readMark_9 (fun q9 => ?_) (fun q9 => ?_)
  · have h8877 := HS.z0 h8872 (f8875) q9
    refine m_aload_n F rfl e_X10_readMark_28 ?_
    refine r_getC F e_X10_readMark_29 fl_X10_141 h8877 (f8875) ?_
    refine m_if_ne F e_X10_readMark_32 (fun q32 => ?_) (fun q32 => ?_)
    · have h8878 := HS.z0 h8877 (f8875) q32
      refine m_aload_n F rfl e_X10_readMark_45 ?_
      refine r_callV F e_X10_readMark_46 (q_X10_goOn (x_l X) V c T 0 u h P8874 L _ _  h8878.1 (hob) oP8874 ) cb_X10_goOn ml_X10_154 im_X10_goOn se_X10_goOn h8878 rfl rfl (rest := []) rfl (Nat.le_of_ble_eq_true rfl) ⟨Nat.le_of_ble_eq_true rfl, Nat.le_of_ble_eq_true rfl⟩ ⟨Nat.le_of_ble_eq_true rfl, Nat.le_of_ble_eq_true rfl⟩ (fun r σ8879 hp => ?_)
      obtain ⟨P8882, oP8882, rP8882, pr8883, h8880, rfl⟩ := hp
      have h8881 := HS.trans h8878 h8880 (by decide)
      have xP8882 := oP8882
      unfold OKP at xP8882
      unfold RA at rP8882
      have h8884 : HS V c _ [0, 2, 3, 4, 5, 6, 7, 9, 10, 11, 12, 13, 14, 15, 16, 17, 18, 19, 20, 21, 22, 23] _ _ := ⟨HR.mono (Z' := Z) (by intro e; first | rfl | assumption | omega) h8881.1, h8881.2⟩
      exact m_vret F hQ e_X10_readMark_49 (⟨P8882, oP8882, (by unfold RP; omega), h8884, rfl⟩)
    · first | exact absurd q32 (hx8876 rfl) | contradiction
  · subst q9
    refine m_aload_n F rfl e_X10_readMark_12 ?_
    refine r_get F e_X10_readMark_13 fl_X10_28 h8872 rfl (fun v hv f8885 => ?_)
    obtain rfl : v = .ref (c + 7) := hv
    refine m_iload_n F rfl e_X10_readMark_16 ?_
    refine r_iald F (len := 8) (j := n8873) e_X10_readMark_17 h8872 (fun _ h => h) (by decide) (nI_clamp (by omega)) (vp_in_nI (by omega) (by decide)) (fun x8886 h8887 f8888 => ?_)
    refine m_iload_n F rfl e_X10_readMark_18 ?_
    refine m_iand F e_X10_readMark_19 ?_
    refine Wm.top (fun x8889 _ => ?_)
    refine m_if_eq F e_X10_readMark_20 (fun q20 => ?_) (fun q20 => ?_)
    · subst q20
      refine m_aload_n F rfl e_X10_readMark_28 ?_
      refine r_getC F e_X10_readMark_29 fl_X10_141 h8872 (f8875) ?_
      refine m_if_ne F e_X10_readMark_32 (fun q => absurd (by decide) q) (fun _ => ?_)
      refine m_aload_n F rfl e_X10_readMark_35 ?_
      refine r_getC F e_X10_readMark_36 fl_X10_28 h8872 (f8885) ?_
      refine m_iload_n F rfl e_X10_readMark_39 ?_
      refine m_dup2_11 F rfl rfl e_X10_readMark_40 ?_
      refine r_iald F (len := 8) (j := n8873) e_X10_readMark_41 h8872 (fun _ h => h) (by decide) (nI_clamp (by omega)) (vp_in_nI (by omega) (by decide)) (fun x8890 h8891 f8892 => ?_)
      obtain rfl := Option.some.inj ((f8892).symm.trans (f8888))
      refine m_iload_n F rfl e_X10_readMark_42 ?_
      refine m_ior F e_X10_readMark_43 ?_
      refine Wm.top (fun x8893 _ => ?_)
      refine r_iast F (g' := (⟨T, Z, u, h, P8874, L⟩ : RG)) (len := 8) (j := n8873) e_X10_readMark_44 h8872 (fun _ h => h) (fun f h => ⟨f, rfl, h⟩) (by decide) (by decide) (nI_clamp (by omega)) (vp_in_nI (by omega) (by decide)) trivial (fun _ _ _ h => h) (fun _ _ _ h => h) (fun σ8894 h8895 g8896 f8897 g8898 => ?_)
      refine m_aload_n F rfl e_X10_readMark_45 ?_
      refine r_callV F e_X10_readMark_46 (q_X10_goOn (x_l X) V c T Z u h P8874 L _ _  h8895.1 (hob) oP8874 ) cb_X10_goOn ml_X10_154 im_X10_goOn se_X10_goOn h8895 rfl rfl (rest := []) rfl (Nat.le_of_ble_eq_true rfl) ⟨Nat.le_of_ble_eq_true rfl, Nat.le_of_ble_eq_true rfl⟩ ⟨Nat.le_of_ble_eq_true rfl, Nat.le_of_ble_eq_true rfl⟩ (fun r σ8899 hp => ?_)
      obtain ⟨P8902, oP8902, rP8902, pr8903, h8900, rfl⟩ := hp
      have h8901 := HS.trans h8895 h8900 (by decide)
      have xP8902 := oP8902
      unfold OKP at xP8902
      unfold RA at rP8902
      exact m_vret F hQ e_X10_readMark_49 (⟨P8902, oP8902, (by unfold RP; omega), h8901, rfl⟩)
    · refine m_aload_n F rfl e_X10_readMark_23 ?_
      refine m_iconst F (v := 3) (by decide) e_X10_readMark_24 ?_
      refine r_callV F e_X10_readMark_25 (q_X10_wrong (x_l X) V c T Z u h P8874 L _ _ 3 h8872.1 (hob) oP8874 (by first | omega | assumption | decide)) cb_X10_wrong ml_X10_150 im_X10_wrong se_X10_wrong h8872 rfl rfl (rest := []) rfl (Nat.le_of_ble_eq_true rfl) ⟨Nat.le_of_ble_eq_true rfl, Nat.le_of_ble_eq_true rfl⟩ ⟨Nat.le_of_ble_eq_true rfl, Nat.le_of_ble_eq_true rfl⟩ (fun r σ8904 hp => ?_)
      obtain ⟨h8905, rfl⟩ := hp
      have h8906 := HS.trans h8872 h8905 (by decide)
      refine m_aload_n F rfl e_X10_readMark_28 ?_
      refine r_get F e_X10_readMark_29 fl_X10_141 h8906 rfl (fun v hv f8907 => ?_)
      obtain ⟨x8908, hx8908, rfl⟩ := hv
      replace hx8908 : 0 = 0 → x8908 ≠ 0 := hx8908
      refine m_if_ne F e_X10_readMark_32 (fun q32 => ?_) (fun q32 => ?_)
      · have h8909 := HS.z0 h8906 (f8907) q32
        refine m_aload_n F rfl e_X10_readMark_45 ?_
        refine r_callV F e_X10_readMark_46 (q_X10_goOn (x_l X) V c T 0 u h P8874 L _ _  h8909.1 (hob) oP8874 ) cb_X10_goOn ml_X10_154 im_X10_goOn se_X10_goOn h8909 rfl rfl (rest := []) rfl (Nat.le_of_ble_eq_true rfl) ⟨Nat.le_of_ble_eq_true rfl, Nat.le_of_ble_eq_true rfl⟩ ⟨Nat.le_of_ble_eq_true rfl, Nat.le_of_ble_eq_true rfl⟩ (fun r σ8910 hp => ?_)
        obtain ⟨P8913, oP8913, rP8913, pr8914, h8911, rfl⟩ := hp
        have h8912 := HS.trans h8909 h8911 (by decide)
        have xP8913 := oP8913
        unfold OKP at xP8913
        unfold RA at rP8913
        have h8915 : HS V c _ [0, 2, 3, 4, 5, 6, 7, 9, 10, 11, 12, 13, 14, 15, 16, 17, 18, 19, 20, 21, 22, 23] _ _ := ⟨HR.mono (Z' := Z) (by intro e; first | rfl | assumption | omega) h8912.1, h8912.2⟩
        exact m_vret F hQ e_X10_readMark_49 (⟨P8913, oP8913, (by unfold RP; omega), h8915, rfl⟩)
      · first | exact absurd q32 (hx8908 rfl) | contradiction
set_option maxRecDepth 20000 in
theorem q_X10_readFair (l : Launch) (V : VX) (c T Z u h : Nat) (P : NP) (L : Nat → LQ) (N : Nat) (σ : Mem)  (h0 : HR V c ⟨T, Z, u, h, P, L⟩ σ) (hob : OKB L) (hP : OKP P)  : Ct l V yX10_readFair cX10_readFair 3 none 8 0 0 N σ [.ref c] (fun r τ => ∃ P9 : NP, OKP P9 ∧ RP P P9 ∧ HS V c (⟨T, Z, u, h, P9, L⟩ : RG) [0, 2, 3, 4, 5, 6, 7, 8, 10, 11, 12, 13, 14, 15, 16, 17, 18, 19, 20, 21, 22, 23] σ τ ∧ r = none) := by
  refine Ct.of (by decide) (Nat.le_of_ble_eq_true rfl) [(0, .ref c)] rfl (fun X hX F hQ => ?_)
  have hPP := hP
  unfold OKP at hPP
  have h1 : HS V c ⟨T, Z, u, h, P, L⟩ [0, 2, 3, 4, 5, 6, 7, 8, 10, 11, 12, 13, 14, 15, 16, 17, 18, 19, 20, 21, 22, 23] σ σ := HS.start h0
  refine m_aload_n F rfl e_X10_readFair_0 ?_
  refine r_callV F e_X10_readFair_1 (q_X10_atHand (x_l X) V c T Z u h P L _ _  h1.1 (hob) hP ) cb_X10_atHand ml_X10_174 im_X10_atHand se_X10_atHand h1 rfl rfl (rest := []) rfl (Nat.le_of_ble_eq_true rfl) ⟨Nat.le_of_ble_eq_true rfl, Nat.le_of_ble_eq_true rfl⟩ ⟨Nat.le_of_ble_eq_true rfl, Nat.le_of_ble_eq_true rfl⟩ (fun r σ8916 hp => ?_)
  obtain ⟨P8920, oP8920, rP8920, h8917, n8919, gn8919, hn8919, rfl⟩ := hp
  have h8918 := HS.trans h1 h8917 (by decide)
  have xP8920 := oP8920
  unfold OKP at xP8920
  unfold RA at rP8920
  refine m_istore_n F (lv' := [(1, .int (nI n8919)), (0, .ref c)]) e_X10_readFair_4 (by decide) rfl ?_
  refine m_aload_n F rfl e_X10_readFair_5 ?_
  refine r_get F e_X10_readFair_6 fl_X10_141 h8918 rfl (fun v hv f8921 => ?_)
  obtain ⟨x8922, hx8922, rfl⟩ := hv
  replace hx8922 : Z = 0 → x8922 ≠ 0 := hx8922
  refine m_if_ne F e_X10_readFair_9 (fun q9 => ?_) (fun q9 => ?_)
  · have h8923 := HS.z0 h8918 (f8921) q9
    refine m_aload_n F rfl e_X10_readFair_26 ?_
    refine r_callV F e_X10_readFair_27 (q_X10_goOn (x_l X) V c T 0 u h P8920 L _ _  h8923.1 (hob) oP8920 ) cb_X10_goOn ml_X10_154 im_X10_goOn se_X10_goOn h8923 rfl rfl (rest := []) rfl (Nat.le_of_ble_eq_true rfl) ⟨Nat.le_of_ble_eq_true rfl, Nat.le_of_ble_eq_true rfl⟩ ⟨Nat.le_of_ble_eq_true rfl, Nat.le_of_ble_eq_true rfl⟩ (fun r σ8924 hp => ?_)
    obtain ⟨P8927, oP8927, rP8927, pr8928, h8925, rfl⟩ := hp
    have h8926 := HS.trans h8923 h8925 (by decide)
    have xP8927 := oP8927
    unfold OKP at xP8927
    unfold RA at rP8927
    refine m_aload_n F rfl e_X10_readFair_30 ?_
    refine m_iconst F (v := 1) (by decide) e_X10_readFair_31 ?_
    refine m_ldc F kc_X10_129 e_X10_readFair_32 ?_
    refine r_callV F e_X10_readFair_34 (q_X10_numeral (x_l X) V c T 0 u h P8927 L _ _ 1 9999999 h8926.1 (hob) oP8927 (by omega) (by omega)) cb_X10_numeral ml_X10_165 im_X10_numeral se_X10_numeral h8926 rfl rfl (rest := []) rfl (Nat.le_of_ble_eq_true rfl) ⟨Nat.le_of_ble_eq_true rfl, Nat.le_of_ble_eq_true rfl⟩ ⟨Nat.le_of_ble_eq_true rfl, Nat.le_of_ble_eq_true rfl⟩ (fun r σ8929 hp => ?_)
    obtain ⟨P8933, oP8933, rP8933, h8930, c8932⟩ := hp
    have h8931 := HS.trans h8926 h8930 (by decide)
    have xP8933 := oP8933
    unfold OKP at xP8933
    unfold RA at rP8933
    rcases c8932 with ⟨n8934, gn8934, hn8934, rfl⟩ | ⟨h8935, rfl⟩
    · refine m_istore_n F (lv' := [(2, .int (nI n8934)), (1, .int (nI n8919)), (0, .ref c)]) e_X10_readFair_37 (by decide) rfl ?_
      refine m_aload_n F rfl e_X10_readFair_38 ?_
      refine r_get F e_X10_readFair_39 fl_X10_141 h8931 rfl (fun v hv f8936 => ?_)
      obtain ⟨x8937, hx8937, rfl⟩ := hv
      replace hx8937 : 0 = 0 → x8937 ≠ 0 := hx8937
      refine m_if_ne F e_X10_readFair_42 (fun q42 => ?_) (fun q42 => ?_)
      · have h8938 := HS.z0 h8931 (f8936) q42
        have h8939 : HS V c _ [0, 2, 3, 4, 5, 6, 7, 8, 10, 11, 12, 13, 14, 15, 16, 17, 18, 19, 20, 21, 22, 23] _ _ := ⟨HR.mono (Z' := Z) (by intro e; first | rfl | assumption | omega) h8938.1, h8938.2⟩
        exact m_vret F hQ e_X10_readFair_52 (⟨P8933, oP8933, (by unfold RP; omega), h8939, rfl⟩)
      · first | exact absurd q42 (hx8937 rfl) | contradiction
    · have h8940 : HS V c (⟨T, 0, u, h, P8933, L⟩ : RG) [0, 2, 3, 4, 5, 6, 7, 8, 10, 11, 12, 13, 14, 15, 16, 17, 18, 19, 20, 21, 22, 23] _ _ := ⟨h8935, h8931.2⟩
      refine m_istore_n F (lv' := [(2, .int (nI 1)), (1, .int (nI n8919)), (0, .ref c)]) e_X10_readFair_37 (by decide) rfl ?_
      refine m_aload_n F rfl e_X10_readFair_38 ?_
      refine r_get F e_X10_readFair_39 fl_X10_141 h8940 rfl (fun v hv f8941 => ?_)
      obtain ⟨x8942, hx8942, rfl⟩ := hv
      replace hx8942 : 0 = 0 → x8942 ≠ 0 := hx8942
      refine m_if_ne F e_X10_readFair_42 (fun q42 => ?_) (fun q42 => ?_)
      · have h8943 := HS.z0 h8940 (f8941) q42
        have h8944 : HS V c _ [0, 2, 3, 4, 5, 6, 7, 8, 10, 11, 12, 13, 14, 15, 16, 17, 18, 19, 20, 21, 22, 23] _ _ := ⟨HR.mono (Z' := Z) (by intro e; first | rfl | assumption | omega) h8943.1, h8943.2⟩
        exact m_vret F hQ e_X10_readFair_52 (⟨P8933, oP8933, (by unfold RP; omega), h8944, rfl⟩)
      · first | exact absurd q42 (hx8942 rfl) | contradiction
  · subst q9
    refine m_aload_n F rfl e_X10_readFair_12 ?_
    refine r_get F e_X10_readFair_13 fl_X10_31 h8918 rfl (fun v hv f8945 => ?_)
    obtain rfl : v = .ref (c + 8) := hv
    refine m_iload_n F rfl e_X10_readFair_16 ?_
    refine r_iald F (len := 8) (j := n8919) e_X10_readFair_17 h8918 (fun _ h => h) (by decide) (nI_clamp (by omega)) (vp_in_nI (by omega) (by decide)) (fun x8946 h8947 f8948 => ?_)
    refine m_if_eq F e_X10_readFair_18 (fun q18 => ?_) (fun q18 => ?_)
    · subst q18
      refine m_aload_n F rfl e_X10_readFair_26 ?_
      refine r_callV F e_X10_readFair_27 (q_X10_goOn (x_l X) V c T Z u h P8920 L _ _  h8918.1 (hob) oP8920 ) cb_X10_goOn ml_X10_154 im_X10_goOn se_X10_goOn h8918 rfl rfl (rest := []) rfl (Nat.le_of_ble_eq_true rfl) ⟨Nat.le_of_ble_eq_true rfl, Nat.le_of_ble_eq_true rfl⟩ ⟨Nat.le_of_ble_eq_true rfl, Nat.le_of_ble_eq_true rfl⟩ (fun r σ8949 hp => ?_)
      obtain ⟨P8952, oP8952, rP8952, pr8953, h8950, rfl⟩ := hp
      have h8951 := HS.trans h8918 h8950 (by decide)
      have xP8952 := oP8952
      unfold OKP at xP8952
      unfold RA at rP8952
      refine m_aload_n F rfl e_X10_readFair_30 ?_
      refine m_iconst F (v := 1) (by decide) e_X10_readFair_31 ?_
      refine m_ldc F kc_X10_129 e_X10_readFair_32 ?_
      refine r_callV F e_X10_readFair_34 (q_X10_numeral (x_l X) V c T Z u h P8952 L _ _ 1 9999999 h8951.1 (hob) oP8952 (by omega) (by omega)) cb_X10_numeral ml_X10_165 im_X10_numeral se_X10_numeral h8951 rfl rfl (rest := []) rfl (Nat.le_of_ble_eq_true rfl) ⟨Nat.le_of_ble_eq_true rfl, Nat.le_of_ble_eq_true rfl⟩ ⟨Nat.le_of_ble_eq_true rfl, Nat.le_of_ble_eq_true rfl⟩ (fun r σ8954 hp => ?_)
      obtain ⟨P8958, oP8958, rP8958, h8955, c8957⟩ := hp
      have h8956 := HS.trans h8951 h8955 (by decide)
      have xP8958 := oP8958
      unfold OKP at xP8958
      unfold RA at rP8958
      rcases c8957 with ⟨n8959, gn8959, hn8959, rfl⟩ | ⟨h8960, rfl⟩
      · refine m_istore_n F (lv' := [(2, .int (nI n8959)), (1, .int (nI n8919)), (0, .ref c)]) e_X10_readFair_37 (by decide) rfl ?_
        refine m_aload_n F rfl e_X10_readFair_38 ?_
        refine r_get F e_X10_readFair_39 fl_X10_141 h8956 rfl (fun v hv f8961 => ?_)
        obtain ⟨x8962, hx8962, rfl⟩ := hv
        replace hx8962 : Z = 0 → x8962 ≠ 0 := hx8962
        refine m_if_ne F e_X10_readFair_42 (fun q42 => ?_) (fun q42 => ?_)
        · have h8963 := HS.z0 h8956 (f8961) q42
          have h8964 : HS V c _ [0, 2, 3, 4, 5, 6, 7, 8, 10, 11, 12, 13, 14, 15, 16, 17, 18, 19, 20, 21, 22, 23] _ _ := ⟨HR.mono (Z' := Z) (by intro e; first | rfl | assumption | omega) h8963.1, h8963.2⟩
          exact m_vret F hQ e_X10_readFair_52 (⟨P8958, oP8958, (by unfold RP; omega), h8964, rfl⟩)
        · subst q42
          refine m_aload_n F rfl e_X10_readFair_45 ?_
          refine r_get F e_X10_readFair_46 fl_X10_31 h8956 rfl (fun v hv f8965 => ?_)
          obtain rfl : v = .ref (c + 8) := hv
          refine m_iload_n F rfl e_X10_readFair_49 ?_
          refine m_iload_n F rfl e_X10_readFair_50 ?_
          refine r_iast F (g' := (⟨T, Z, u, h, P8958, L⟩ : RG)) (len := 8) (j := n8919) e_X10_readFair_51 h8956 (fun _ h => h) (fun f h => ⟨f, rfl, h⟩) (by decide) (by decide) (nI_clamp (by omega)) (vp_in_nI (by omega) (by decide)) trivial (fun _ _ _ h => h) (fun _ _ _ h => h) (fun σ8966 h8967 g8968 f8969 g8970 => ?_)
          exact m_vret F hQ e_X10_readFair_52 (⟨P8958, oP8958, (by unfold RP; omega), h8967, rfl⟩)
      · have h8971 : HS V c (⟨T, 0, u, h, P8958, L⟩ : RG) [0, 2, 3, 4, 5, 6, 7, 8, 10, 11, 12, 13, 14, 15, 16, 17, 18, 19, 20, 21, 22, 23] _ _ := ⟨h8960, h8956.2⟩
        refine m_istore_n F (lv' := [(2, .int (nI 1)), (1, .int (nI n8919)), (0, .ref c)]) e_X10_readFair_37 (by decide) rfl ?_
        refine m_aload_n F rfl e_X10_readFair_38 ?_
        refine r_get F e_X10_readFair_39 fl_X10_141 h8971 rfl (fun v hv f8972 => ?_)
        obtain ⟨x8973, hx8973, rfl⟩ := hv
        replace hx8973 : 0 = 0 → x8973 ≠ 0 := hx8973
        refine m_if_ne F e_X10_readFair_42 (fun q42 => ?_) (fun q42 => ?_)
        · have h8974 := HS.z0 h8971 (f8972) q42
          have h8975 : HS V c _ [0, 2, 3, 4, 5, 6, 7, 8, 10, 11, 12, 13, 14, 15, 16, 17, 18, 19, 20, 21, 22, 23] _ _ := ⟨HR.mono (Z' := Z) (by intro e; first | rfl | assumption | omega) h8974.1, h8974.2⟩
          exact m_vret F hQ e_X10_readFair_52 (⟨P8958, oP8958, (by unfold RP; omega), h8975, rfl⟩)
        · first | exact absurd q42 (hx8973 rfl) | contradiction
    · refine m_aload_n F rfl e_X10_readFair_21 ?_
      refine m_iconst F (v := 3) (by decide) e_X10_readFair_22 ?_
      refine r_callV F e_X10_readFair_23 (q_X10_wrong (x_l X) V c T Z u h P8920 L _ _ 3 h8918.1 (hob) oP8920 (by first | omega | assumption | decide)) cb_X10_wrong ml_X10_150 im_X10_wrong se_X10_wrong h8918 rfl rfl (rest := []) rfl (Nat.le_of_ble_eq_true rfl) ⟨Nat.le_of_ble_eq_true rfl, Nat.le_of_ble_eq_true rfl⟩ ⟨Nat.le_of_ble_eq_true rfl, Nat.le_of_ble_eq_true rfl⟩ (fun r σ8976 hp => ?_)
      obtain ⟨h8977, rfl⟩ := hp
      have h8978 := HS.trans h8918 h8977 (by decide)
      refine m_aload_n F rfl e_X10_readFair_26 ?_
      refine r_callV F e_X10_readFair_27 (q_X10_goOn (x_l X) V c T 0 u h P8920 L _ _  h8978.1 (hob) oP8920 ) cb_X10_goOn ml_X10_154 im_X10_goOn se_X10_goOn h8978 rfl rfl (rest := []) rfl (Nat.le_of_ble_eq_true rfl) ⟨Nat.le_of_ble_eq_true rfl, Nat.le_of_ble_eq_true rfl⟩ ⟨Nat.le_of_ble_eq_true rfl, Nat.le_of_ble_eq_true rfl⟩ (fun r σ8979 hp => ?_)
      obtain ⟨P8982, oP8982, rP8982, pr8983, h8980, rfl⟩ := hp
      have h8981 := HS.trans h8978 h8980 (by decide)
      have xP8982 := oP8982
      unfold OKP at xP8982
      unfold RA at rP8982
      refine m_aload_n F rfl e_X10_readFair_30 ?_
      refine m_iconst F (v := 1) (by decide) e_X10_readFair_31 ?_
      refine m_ldc F kc_X10_129 e_X10_readFair_32 ?_
      refine r_callV F e_X10_readFair_34 (q_X10_numeral (x_l X) V c T 0 u h P8982 L _ _ 1 9999999 h8981.1 (hob) oP8982 (by omega) (by omega)) cb_X10_numeral ml_X10_165 im_X10_numeral se_X10_numeral h8981 rfl rfl (rest := []) rfl (Nat.le_of_ble_eq_true rfl) ⟨Nat.le_of_ble_eq_true rfl, Nat.le_of_ble_eq_true rfl⟩ ⟨Nat.le_of_ble_eq_true rfl, Nat.le_of_ble_eq_true rfl⟩ (fun r σ8984 hp => ?_)
      obtain ⟨P8988, oP8988, rP8988, h8985, c8987⟩ := hp
      have h8986 := HS.trans h8981 h8985 (by decide)
      have xP8988 := oP8988
      unfold OKP at xP8988
      unfold RA at rP8988
      rcases c8987 with ⟨n8989, gn8989, hn8989, rfl⟩ | ⟨h8990, rfl⟩
      · refine m_istore_n F (lv' := [(2, .int (nI n8989)), (1, .int (nI n8919)), (0, .ref c)]) e_X10_readFair_37 (by decide) rfl ?_
        refine m_aload_n F rfl e_X10_readFair_38 ?_
        refine r_get F e_X10_readFair_39 fl_X10_141 h8986 rfl (fun v hv f8991 => ?_)
        obtain ⟨x8992, hx8992, rfl⟩ := hv
        replace hx8992 : 0 = 0 → x8992 ≠ 0 := hx8992
        refine m_if_ne F e_X10_readFair_42 (fun q42 => ?_) (fun q42 => ?_)
        · have h8993 := HS.z0 h8986 (f8991) q42
          have h8994 : HS V c _ [0, 2, 3, 4, 5, 6, 7, 8, 10, 11, 12, 13, 14, 15, 16, 17, 18, 19, 20, 21, 22, 23] _ _ := ⟨HR.mono (Z' := Z) (by intro e; first | rfl | assumption | omega) h8993.1, h8993.2⟩
          exact m_vret F hQ e_X10_readFair_52 (⟨P8988, oP8988, (by unfold RP; omega), h8994, rfl⟩)
        · first | exact absurd q42 (hx8992 rfl) | contradiction
      · have h8995 : HS V c (⟨T, 0, u, h, P8988, L⟩ : RG) [0, 2, 3, 4, 5, 6, 7, 8, 10, 11, 12, 13, 14, 15, 16, 17, 18, 19, 20, 21, 22, 23] _ _ := ⟨h8990, h8986.2⟩
        refine m_istore_n F (lv' := [(2, .int (nI 1)), (1, .int (nI n8919)), (0, .ref c)]) e_X10_readFair_37 (by decide) rfl ?_
        refine m_aload_n F rfl e_X10_readFair_38 ?_
        refine r_get F e_X10_readFair_39 fl_X10_141 h8995 rfl (fun v hv f8996 => ?_)
        obtain ⟨x8997, hx8997, rfl⟩ := hv
        replace hx8997 : 0 = 0 → x8997 ≠ 0 := hx8997
        refine m_if_ne F e_X10_readFair_42 (fun q42 => ?_) (fun q42 => ?_)
        · have h8998 := HS.z0 h8995 (f8996) q42
          have h8999 : HS V c _ [0, 2, 3, 4, 5, 6, 7, 8, 10, 11, 12, 13, 14, 15, 16, 17, 18, 19, 20, 21, 22, 23] _ _ := ⟨HR.mono (Z' := Z) (by intro e; first | rfl | assumption | omega) h8998.1, h8998.2⟩
          exact m_vret F hQ e_X10_readFair_52 (⟨P8988, oP8988, (by unfold RP; omega), h8999, rfl⟩)
        · first | exact absurd q42 (hx8997 rfl) | contradiction
set_option maxRecDepth 20000 in
theorem q_X10_readFee (l : Launch) (V : VX) (c T Z u h : Nat) (P : NP) (L : Nat → LQ) (N : Nat) (σ : Mem)  (h0 : HR V c ⟨T, Z, u, h, P, L⟩ σ) (hob : OKB L) (hP : OKP P)  : Ct l V yX10_readFee cX10_readFee 3 none 8 0 0 N σ [.ref c] (fun r τ => ∃ P9 : NP, OKP P9 ∧ RP P P9 ∧ HS V c (⟨T, Z, u, h, P9, L⟩ : RG) [0, 2, 3, 4, 5, 6, 7, 8, 9, 11, 12, 13, 14, 15, 16, 17, 18, 19, 20, 21, 22, 23] σ τ ∧ r = none) := by
  refine Ct.of (by decide) (Nat.le_of_ble_eq_true rfl) [(0, .ref c)] rfl (fun X hX F hQ => ?_)
  have hPP := hP
  unfold OKP at hPP
  have h1 : HS V c ⟨T, Z, u, h, P, L⟩ [0, 2, 3, 4, 5, 6, 7, 8, 9, 11, 12, 13, 14, 15, 16, 17, 18, 19, 20, 21, 22, 23] σ σ := HS.start h0
  refine m_aload_n F rfl e_X10_readFee_0 ?_
  refine r_callV F e_X10_readFee_1 (q_X10_atHand (x_l X) V c T Z u h P L _ _  h1.1 (hob) hP ) cb_X10_atHand ml_X10_174 im_X10_atHand se_X10_atHand h1 rfl rfl (rest := []) rfl (Nat.le_of_ble_eq_true rfl) ⟨Nat.le_of_ble_eq_true rfl, Nat.le_of_ble_eq_true rfl⟩ ⟨Nat.le_of_ble_eq_true rfl, Nat.le_of_ble_eq_true rfl⟩ (fun r σ9000 hp => ?_)
  obtain ⟨P9004, oP9004, rP9004, h9001, n9003, gn9003, hn9003, rfl⟩ := hp
  have h9002 := HS.trans h1 h9001 (by decide)
  have xP9004 := oP9004
  unfold OKP at xP9004
  unfold RA at rP9004
  refine m_istore_n F (lv' := [(1, .int (nI n9003)), (0, .ref c)]) e_X10_readFee_4 (by decide) rfl ?_
  refine m_aload_n F rfl e_X10_readFee_5 ?_
  refine r_get F e_X10_readFee_6 fl_X10_141 h9002 rfl (fun v hv f9005 => ?_)
  obtain ⟨x9006, hx9006, rfl⟩ := hv
  replace hx9006 : Z = 0 → x9006 ≠ 0 := hx9006
  refine m_if_ne F e_X10_readFee_9 (fun q9 => ?_) (fun q9 => ?_)
  · have h9007 := HS.z0 h9002 (f9005) q9
    refine m_aload_n F rfl e_X10_readFee_26 ?_
    refine r_callV F e_X10_readFee_27 (q_X10_goOn (x_l X) V c T 0 u h P9004 L _ _  h9007.1 (hob) oP9004 ) cb_X10_goOn ml_X10_154 im_X10_goOn se_X10_goOn h9007 rfl rfl (rest := []) rfl (Nat.le_of_ble_eq_true rfl) ⟨Nat.le_of_ble_eq_true rfl, Nat.le_of_ble_eq_true rfl⟩ ⟨Nat.le_of_ble_eq_true rfl, Nat.le_of_ble_eq_true rfl⟩ (fun r σ9008 hp => ?_)
    obtain ⟨P9011, oP9011, rP9011, pr9012, h9009, rfl⟩ := hp
    have h9010 := HS.trans h9007 h9009 (by decide)
    have xP9011 := oP9011
    unfold OKP at xP9011
    unfold RA at rP9011
    refine m_aload_n F rfl e_X10_readFee_30 ?_
    refine m_iconst F (v := 0) (by decide) e_X10_readFee_31 ?_
    refine m_ldc F kc_X10_177 e_X10_readFee_32 ?_
    refine r_callV F e_X10_readFee_34 (q_X10_numeral (x_l X) V c T 0 u h P9011 L _ _ 0 99999 h9010.1 (hob) oP9011 (by omega) (by omega)) cb_X10_numeral ml_X10_165 im_X10_numeral se_X10_numeral h9010 rfl rfl (rest := []) rfl (Nat.le_of_ble_eq_true rfl) ⟨Nat.le_of_ble_eq_true rfl, Nat.le_of_ble_eq_true rfl⟩ ⟨Nat.le_of_ble_eq_true rfl, Nat.le_of_ble_eq_true rfl⟩ (fun r σ9013 hp => ?_)
    obtain ⟨P9017, oP9017, rP9017, h9014, c9016⟩ := hp
    have h9015 := HS.trans h9010 h9014 (by decide)
    have xP9017 := oP9017
    unfold OKP at xP9017
    unfold RA at rP9017
    rcases c9016 with ⟨n9018, gn9018, hn9018, rfl⟩ | ⟨h9019, rfl⟩
    · refine m_istore_n F (lv' := [(2, .int (nI n9018)), (1, .int (nI n9003)), (0, .ref c)]) e_X10_readFee_37 (by decide) rfl ?_
      refine m_aload_n F rfl e_X10_readFee_38 ?_
      refine r_get F e_X10_readFee_39 fl_X10_141 h9015 rfl (fun v hv f9020 => ?_)
      obtain ⟨x9021, hx9021, rfl⟩ := hv
      replace hx9021 : 0 = 0 → x9021 ≠ 0 := hx9021
      refine m_if_ne F e_X10_readFee_42 (fun q42 => ?_) (fun q42 => ?_)
      · have h9022 := HS.z0 h9015 (f9020) q42
        have h9023 : HS V c _ [0, 2, 3, 4, 5, 6, 7, 8, 9, 11, 12, 13, 14, 15, 16, 17, 18, 19, 20, 21, 22, 23] _ _ := ⟨HR.mono (Z' := Z) (by intro e; first | rfl | assumption | omega) h9022.1, h9022.2⟩
        exact m_vret F hQ e_X10_readFee_54 (⟨P9017, oP9017, (by unfold RP; omega), h9023, rfl⟩)
      · first | exact absurd q42 (hx9021 rfl) | contradiction
    · have h9024 : HS V c (⟨T, 0, u, h, P9017, L⟩ : RG) [0, 2, 3, 4, 5, 6, 7, 8, 9, 11, 12, 13, 14, 15, 16, 17, 18, 19, 20, 21, 22, 23] _ _ := ⟨h9019, h9015.2⟩
      refine m_istore_n F (lv' := [(2, .int (nI 0)), (1, .int (nI n9003)), (0, .ref c)]) e_X10_readFee_37 (by decide) rfl ?_
      refine m_aload_n F rfl e_X10_readFee_38 ?_
      refine r_get F e_X10_readFee_39 fl_X10_141 h9024 rfl (fun v hv f9025 => ?_)
      obtain ⟨x9026, hx9026, rfl⟩ := hv
      replace hx9026 : 0 = 0 → x9026 ≠ 0 := hx9026
      refine m_if_ne F e_X10_readFee_42 (fun q42 => ?_) (fun q42 => ?_)
      · have h9027 := HS.z0 h9024 (f9025) q42
        have h9028 : HS V c _ [0, 2, 3, 4, 5, 6, 7, 8, 9, 11, 12, 13, 14, 15, 16, 17, 18, 19, 20, 21, 22, 23] _ _ := ⟨HR.mono (Z' := Z) (by intro e; first | rfl | assumption | omega) h9027.1, h9027.2⟩
        exact m_vret F hQ e_X10_readFee_54 (⟨P9017, oP9017, (by unfold RP; omega), h9028, rfl⟩)
      · first | exact absurd q42 (hx9026 rfl) | contradiction
  · subst q9
    refine m_aload_n F rfl e_X10_readFee_12 ?_
    refine r_get F e_X10_readFee_13 fl_X10_34 h9002 rfl (fun v hv f9029 => ?_)
    obtain rfl : v = .ref (c + 9) := hv
    refine m_iload_n F rfl e_X10_readFee_16 ?_
    refine r_iald F (len := 8) (j := n9003) e_X10_readFee_17 h9002 (fun _ h => h) (by decide) (nI_clamp (by omega)) (vp_in_nI (by omega) (by decide)) (fun x9030 h9031 f9032 => ?_)
    refine m_if_eq F e_X10_readFee_18 (fun q18 => ?_) (fun q18 => ?_)
    · subst q18
      refine m_aload_n F rfl e_X10_readFee_26 ?_
      refine r_callV F e_X10_readFee_27 (q_X10_goOn (x_l X) V c T Z u h P9004 L _ _  h9002.1 (hob) oP9004 ) cb_X10_goOn ml_X10_154 im_X10_goOn se_X10_goOn h9002 rfl rfl (rest := []) rfl (Nat.le_of_ble_eq_true rfl) ⟨Nat.le_of_ble_eq_true rfl, Nat.le_of_ble_eq_true rfl⟩ ⟨Nat.le_of_ble_eq_true rfl, Nat.le_of_ble_eq_true rfl⟩ (fun r σ9033 hp => ?_)
      obtain ⟨P9036, oP9036, rP9036, pr9037, h9034, rfl⟩ := hp
      have h9035 := HS.trans h9002 h9034 (by decide)
      have xP9036 := oP9036
      unfold OKP at xP9036
      unfold RA at rP9036
      refine m_aload_n F rfl e_X10_readFee_30 ?_
      refine m_iconst F (v := 0) (by decide) e_X10_readFee_31 ?_
      refine m_ldc F kc_X10_177 e_X10_readFee_32 ?_
      refine r_callV F e_X10_readFee_34 (q_X10_numeral (x_l X) V c T Z u h P9036 L _ _ 0 99999 h9035.1 (hob) oP9036 (by omega) (by omega)) cb_X10_numeral ml_X10_165 im_X10_numeral se_X10_numeral h9035 rfl rfl (rest := []) rfl (Nat.le_of_ble_eq_true rfl) ⟨Nat.le_of_ble_eq_true rfl, Nat.le_of_ble_eq_true rfl⟩ ⟨Nat.le_of_ble_eq_true rfl, Nat.le_of_ble_eq_true rfl⟩ (fun r σ9038 hp => ?_)
      obtain ⟨P9042, oP9042, rP9042, h9039, c9041⟩ := hp
      have h9040 := HS.trans h9035 h9039 (by decide)
      have xP9042 := oP9042
      unfold OKP at xP9042
      unfold RA at rP9042
      rcases c9041 with ⟨n9043, gn9043, hn9043, rfl⟩ | ⟨h9044, rfl⟩
      · refine m_istore_n F (lv' := [(2, .int (nI n9043)), (1, .int (nI n9003)), (0, .ref c)]) e_X10_readFee_37 (by decide) rfl ?_
        refine m_aload_n F rfl e_X10_readFee_38 ?_
        refine r_get F e_X10_readFee_39 fl_X10_141 h9040 rfl (fun v hv f9045 => ?_)
        obtain ⟨x9046, hx9046, rfl⟩ := hv
        replace hx9046 : Z = 0 → x9046 ≠ 0 := hx9046
        refine m_if_ne F e_X10_readFee_42 (fun q42 => ?_) (fun q42 => ?_)
        · have h9047 := HS.z0 h9040 (f9045) q42
          have h9048 : HS V c _ [0, 2, 3, 4, 5, 6, 7, 8, 9, 11, 12, 13, 14, 15, 16, 17, 18, 19, 20, 21, 22, 23] _ _ := ⟨HR.mono (Z' := Z) (by intro e; first | rfl | assumption | omega) h9047.1, h9047.2⟩
          exact m_vret F hQ e_X10_readFee_54 (⟨P9042, oP9042, (by unfold RP; omega), h9048, rfl⟩)
        · subst q42
          refine m_aload_n F rfl e_X10_readFee_45 ?_
          refine r_get F e_X10_readFee_46 fl_X10_34 h9040 rfl (fun v hv f9049 => ?_)
          obtain rfl : v = .ref (c + 9) := hv
          refine m_iload_n F rfl e_X10_readFee_49 ?_
          refine m_iload_n F rfl e_X10_readFee_50 ?_
          refine m_iconst F (v := 1) (by decide) e_X10_readFee_51 ?_
          refine m_iadd F e_X10_readFee_52 ?_
          refine Wm.topE (w := nI (n9043 + 1)) (nI_add n9043 1) ?_
          refine r_iast F (g' := (⟨T, Z, u, h, P9042, L⟩ : RG)) (len := 8) (j := n9003) e_X10_readFee_53 h9040 (fun _ h => h) (fun f h => ⟨f, rfl, h⟩) (by decide) (by decide) (nI_clamp (by omega)) (vp_in_nI (by omega) (by decide)) trivial (fun _ _ _ h => h) (fun _ _ _ h => h) (fun σ9050 h9051 g9052 f9053 g9054 => ?_)
          exact m_vret F hQ e_X10_readFee_54 (⟨P9042, oP9042, (by unfold RP; omega), h9051, rfl⟩)
      · have h9055 : HS V c (⟨T, 0, u, h, P9042, L⟩ : RG) [0, 2, 3, 4, 5, 6, 7, 8, 9, 11, 12, 13, 14, 15, 16, 17, 18, 19, 20, 21, 22, 23] _ _ := ⟨h9044, h9040.2⟩
        refine m_istore_n F (lv' := [(2, .int (nI 0)), (1, .int (nI n9003)), (0, .ref c)]) e_X10_readFee_37 (by decide) rfl ?_
        refine m_aload_n F rfl e_X10_readFee_38 ?_
        refine r_get F e_X10_readFee_39 fl_X10_141 h9055 rfl (fun v hv f9056 => ?_)
        obtain ⟨x9057, hx9057, rfl⟩ := hv
        replace hx9057 : 0 = 0 → x9057 ≠ 0 := hx9057
        refine m_if_ne F e_X10_readFee_42 (fun q42 => ?_) (fun q42 => ?_)
        · have h9058 := HS.z0 h9055 (f9056) q42
          have h9059 : HS V c _ [0, 2, 3, 4, 5, 6, 7, 8, 9, 11, 12, 13, 14, 15, 16, 17, 18, 19, 20, 21, 22, 23] _ _ := ⟨HR.mono (Z' := Z) (by intro e; first | rfl | assumption | omega) h9058.1, h9058.2⟩
          exact m_vret F hQ e_X10_readFee_54 (⟨P9042, oP9042, (by unfold RP; omega), h9059, rfl⟩)
        · first | exact absurd q42 (hx9057 rfl) | contradiction
    · refine m_aload_n F rfl e_X10_readFee_21 ?_
      refine m_iconst F (v := 3) (by decide) e_X10_readFee_22 ?_
      refine r_callV F e_X10_readFee_23 (q_X10_wrong (x_l X) V c T Z u h P9004 L _ _ 3 h9002.1 (hob) oP9004 (by first | omega | assumption | decide)) cb_X10_wrong ml_X10_150 im_X10_wrong se_X10_wrong h9002 rfl rfl (rest := []) rfl (Nat.le_of_ble_eq_true rfl) ⟨Nat.le_of_ble_eq_true rfl, Nat.le_of_ble_eq_true rfl⟩ ⟨Nat.le_of_ble_eq_true rfl, Nat.le_of_ble_eq_true rfl⟩ (fun r σ9060 hp => ?_)
      obtain ⟨h9061, rfl⟩ := hp
      have h9062 := HS.trans h9002 h9061 (by decide)
      refine m_aload_n F rfl e_X10_readFee_26 ?_
      refine r_callV F e_X10_readFee_27 (q_X10_goOn (x_l X) V c T 0 u h P9004 L _ _  h9062.1 (hob) oP9004 ) cb_X10_goOn ml_X10_154 im_X10_goOn se_X10_goOn h9062 rfl rfl (rest := []) rfl (Nat.le_of_ble_eq_true rfl) ⟨Nat.le_of_ble_eq_true rfl, Nat.le_of_ble_eq_true rfl⟩ ⟨Nat.le_of_ble_eq_true rfl, Nat.le_of_ble_eq_true rfl⟩ (fun r σ9063 hp => ?_)
      obtain ⟨P9066, oP9066, rP9066, pr9067, h9064, rfl⟩ := hp
      have h9065 := HS.trans h9062 h9064 (by decide)
      have xP9066 := oP9066
      unfold OKP at xP9066
      unfold RA at rP9066
      refine m_aload_n F rfl e_X10_readFee_30 ?_
      refine m_iconst F (v := 0) (by decide) e_X10_readFee_31 ?_
      refine m_ldc F kc_X10_177 e_X10_readFee_32 ?_
      refine r_callV F e_X10_readFee_34 (q_X10_numeral (x_l X) V c T 0 u h P9066 L _ _ 0 99999 h9065.1 (hob) oP9066 (by omega) (by omega)) cb_X10_numeral ml_X10_165 im_X10_numeral se_X10_numeral h9065 rfl rfl (rest := []) rfl (Nat.le_of_ble_eq_true rfl) ⟨Nat.le_of_ble_eq_true rfl, Nat.le_of_ble_eq_true rfl⟩ ⟨Nat.le_of_ble_eq_true rfl, Nat.le_of_ble_eq_true rfl⟩ (fun r σ9068 hp => ?_)
      obtain ⟨P9072, oP9072, rP9072, h9069, c9071⟩ := hp
      have h9070 := HS.trans h9065 h9069 (by decide)
      have xP9072 := oP9072
      unfold OKP at xP9072
      unfold RA at rP9072
      rcases c9071 with ⟨n9073, gn9073, hn9073, rfl⟩ | ⟨h9074, rfl⟩
      · refine m_istore_n F (lv' := [(2, .int (nI n9073)), (1, .int (nI n9003)), (0, .ref c)]) e_X10_readFee_37 (by decide) rfl ?_
        refine m_aload_n F rfl e_X10_readFee_38 ?_
        refine r_get F e_X10_readFee_39 fl_X10_141 h9070 rfl (fun v hv f9075 => ?_)
        obtain ⟨x9076, hx9076, rfl⟩ := hv
        replace hx9076 : 0 = 0 → x9076 ≠ 0 := hx9076
        refine m_if_ne F e_X10_readFee_42 (fun q42 => ?_) (fun q42 => ?_)
        · have h9077 := HS.z0 h9070 (f9075) q42
          have h9078 : HS V c _ [0, 2, 3, 4, 5, 6, 7, 8, 9, 11, 12, 13, 14, 15, 16, 17, 18, 19, 20, 21, 22, 23] _ _ := ⟨HR.mono (Z' := Z) (by intro e; first | rfl | assumption | omega) h9077.1, h9077.2⟩
          exact m_vret F hQ e_X10_readFee_54 (⟨P9072, oP9072, (by unfold RP; omega), h9078, rfl⟩)
        · first | exact absurd q42 (hx9076 rfl) | contradiction
      · have h9079 : HS V c (⟨T, 0, u, h, P9072, L⟩ : RG) [0, 2, 3, 4, 5, 6, 7, 8, 9, 11, 12, 13, 14, 15, 16, 17, 18, 19, 20, 21, 22, 23] _ _ := ⟨h9074, h9070.2⟩
        refine m_istore_n F (lv' := [(2, .int (nI 0)), (1, .int (nI n9003)), (0, .ref c)]) e_X10_readFee_37 (by decide) rfl ?_
        refine m_aload_n F rfl e_X10_readFee_38 ?_
        refine r_get F e_X10_readFee_39 fl_X10_141 h9079 rfl (fun v hv f9080 => ?_)
        obtain ⟨x9081, hx9081, rfl⟩ := hv
        replace hx9081 : 0 = 0 → x9081 ≠ 0 := hx9081
        refine m_if_ne F e_X10_readFee_42 (fun q42 => ?_) (fun q42 => ?_)
        · have h9082 := HS.z0 h9079 (f9080) q42
          have h9083 : HS V c _ [0, 2, 3, 4, 5, 6, 7, 8, 9, 11, 12, 13, 14, 15, 16, 17, 18, 19, 20, 21, 22, 23] _ _ := ⟨HR.mono (Z' := Z) (by intro e; first | rfl | assumption | omega) h9082.1, h9082.2⟩
          exact m_vret F hQ e_X10_readFee_54 (⟨P9072, oP9072, (by unfold RP; omega), h9083, rfl⟩)
        · first | exact absurd q42 (hx9081 rfl) | contradiction
set_option maxRecDepth 20000 in
theorem q_X10_readChange (l : Launch) (V : VX) (c T Z u h : Nat) (P : NP) (L : Nat → LQ) (N : Nat) (σ : Mem)  (h0 : HR V c ⟨T, Z, u, h, P, L⟩ σ) (hob : OKB L) (hP : OKP P)  : Ct l V yX10_readChange cX10_readChange 5 none 8 0 0 N σ [.ref c] (fun r τ => ∃ P9 : NP, OKP P9 ∧ RP P P9 ∧ HS V c (⟨T, Z, u, h, P9, L⟩ : RG) [0, 2, 4, 5, 6, 7, 8, 9, 10, 11, 14, 15, 16, 17, 18, 19, 20, 21, 22, 23] σ τ ∧ r = none) := by
  refine Ct.of (by decide) (Nat.le_of_ble_eq_true rfl) [(0, .ref c)] rfl (fun X hX F hQ => ?_)
  have hPP := hP
  unfold OKP at hPP
  have h1 : HS V c ⟨T, Z, u, h, P, L⟩ [0, 2, 4, 5, 6, 7, 8, 9, 10, 11, 14, 15, 16, 17, 18, 19, 20, 21, 22, 23] σ σ := HS.start h0
  refine m_bipush F (v := 8) (by decide) e_X10_readChange_0 ?_
  refine m_aload_n F rfl e_X10_readChange_2 ?_
  refine m_iconst F (v := 2) (by decide) e_X10_readChange_3 ?_
  refine r_callV F e_X10_readChange_4 (q_X10_reading2 (x_l X) V c T Z u h P L _ _  h1.1 (hob) hP ) cb_X10_reading ml_X10_157 im_X10_reading se_X10_reading h1 rfl rfl (rest := [.int 8]) rfl (Nat.le_of_ble_eq_true rfl) ⟨Nat.le_of_ble_eq_true rfl, Nat.le_of_ble_eq_true rfl⟩ ⟨Nat.le_of_ble_eq_true rfl, Nat.le_of_ble_eq_true rfl⟩ (fun r σ9084 hp => ?_)
  obtain ⟨h9085, rfl⟩ := hp
  have h9086 := HS.trans h1 h9085 (by decide)
  refine m_iadd F e_X10_readChange_7 ?_
  refine Wm.topE (w := nI (8 + P.n7)) (nI_add 8 P.n7) ?_
  refine m_istore_n F (lv' := [(1, .int (nI (8 + P.n7))), (0, .ref c)]) e_X10_readChange_8 (by decide) rfl ?_
  refine m_iload_n F rfl e_X10_readChange_9 ?_
  refine m_bipush F (v := 16) (by decide) e_X10_readChange_10 ?_
  refine m_icmp_ne F e_X10_readChange_12 (fun q12 => ?_) (fun q12 => ?_)
  · have c12 : (8 + P.n7) ≠ 16 := by have hh := mt (nI_eq (a := (8 + P.n7)) (b := 16) (by omega) (by omega)).mpr q12; omega
    refine m_aload_n F rfl e_X10_readChange_20 ?_
    refine r_callV F e_X10_readChange_21 (q_X10_goOn (x_l X) V c T Z u h P L _ _  h9086.1 (hob) hP ) cb_X10_goOn ml_X10_154 im_X10_goOn se_X10_goOn h9086 rfl rfl (rest := []) rfl (Nat.le_of_ble_eq_true rfl) ⟨Nat.le_of_ble_eq_true rfl, Nat.le_of_ble_eq_true rfl⟩ ⟨Nat.le_of_ble_eq_true rfl, Nat.le_of_ble_eq_true rfl⟩ (fun r σ9087 hp => ?_)
    obtain ⟨P9090, oP9090, rP9090, pr9091, h9088, rfl⟩ := hp
    have h9089 := HS.trans h9086 h9088 (by decide)
    have xP9090 := oP9090
    unfold OKP at xP9090
    unfold RA at rP9090
    refine m_aload_n F rfl e_X10_readChange_24 ?_
    refine m_iconst F (v := 2) (by decide) e_X10_readChange_25 ?_
    refine r_callV F e_X10_readChange_26 (q_X10_reading2 (x_l X) V c T Z u h P9090 L _ _  h9089.1 (hob) oP9090 ) cb_X10_reading ml_X10_157 im_X10_reading se_X10_reading h9089 rfl rfl (rest := []) rfl (Nat.le_of_ble_eq_true rfl) ⟨Nat.le_of_ble_eq_true rfl, Nat.le_of_ble_eq_true rfl⟩ ⟨Nat.le_of_ble_eq_true rfl, Nat.le_of_ble_eq_true rfl⟩ (fun r σ9092 hp => ?_)
    obtain ⟨h9093, rfl⟩ := hp
    have h9094 := HS.trans h9089 h9093 (by decide)
    refine m_if_eq F e_X10_readChange_29 (fun q29 => ?_) (fun q29 => ?_)
    · have c29 : P9090.n7 = 0 := (nI_eq (a := P9090.n7) (b := 0) (by omega) (by omega)).mp q29
      refine m_iconst F (v := 0) (by decide) e_X10_readChange_39 ?_
      refine m_goto F e_X10_readChange_40 ?_
      refine m_istore_n F (lv' := [(2, .int 0), (1, .int (nI (8 + P.n7))), (0, .ref c)]) e_X10_readChange_53 (by decide) rfl ?_
      refine m_aload_n F rfl e_X10_readChange_54 ?_
      refine m_iload_n F rfl e_X10_readChange_55 ?_
      refine m_bipush F (v := 99) (by decide) e_X10_readChange_56 ?_
      refine r_callV F e_X10_readChange_58 (q_X10_numeral (x_l X) V c T Z u h P9090 L _ _ 0 99 h9094.1 (hob) oP9090 (by omega) (by omega)) cb_X10_numeral ml_X10_165 im_X10_numeral se_X10_numeral h9094 rfl rfl (rest := []) rfl (Nat.le_of_ble_eq_true rfl) ⟨Nat.le_of_ble_eq_true rfl, Nat.le_of_ble_eq_true rfl⟩ ⟨Nat.le_of_ble_eq_true rfl, Nat.le_of_ble_eq_true rfl⟩ (fun r σ9095 hp => ?_)
      obtain ⟨P9099, oP9099, rP9099, h9096, c9098⟩ := hp
      have h9097 := HS.trans h9094 h9096 (by decide)
      have xP9099 := oP9099
      unfold OKP at xP9099
      unfold RA at rP9099
      rcases c9098 with ⟨n9100, gn9100, hn9100, rfl⟩ | ⟨h9101, rfl⟩
      · refine m_istore_n F (lv' := [(3, .int (nI n9100)), (2, .int 0), (1, .int (nI (8 + P.n7))), (0, .ref c)]) e_X10_readChange_61 (by decide) rfl ?_
        refine m_aload_n F rfl e_X10_readChange_62 ?_
        refine m_sipush F (v := 500) (by decide) e_X10_readChange_63 ?_
        refine m_sipush F (v := 2000) (by decide) e_X10_readChange_66 ?_
        refine r_callV F e_X10_readChange_69 (q_X10_numeral (x_l X) V c T Z u h P9099 L _ _ 500 2000 h9097.1 (hob) oP9099 (by omega) (by omega)) cb_X10_numeral ml_X10_165 im_X10_numeral se_X10_numeral h9097 rfl rfl (rest := []) rfl (Nat.le_of_ble_eq_true rfl) ⟨Nat.le_of_ble_eq_true rfl, Nat.le_of_ble_eq_true rfl⟩ ⟨Nat.le_of_ble_eq_true rfl, Nat.le_of_ble_eq_true rfl⟩ (fun r σ9102 hp => ?_)
        obtain ⟨P9106, oP9106, rP9106, h9103, c9105⟩ := hp
        have h9104 := HS.trans h9097 h9103 (by decide)
        have xP9106 := oP9106
        unfold OKP at xP9106
        unfold RA at rP9106
        rcases c9105 with ⟨n9107, gn9107, hn9107, rfl⟩ | ⟨h9108, rfl⟩
        · refine m_istore F (lv' := [(4, .int (nI n9107)), (3, .int (nI n9100)), (2, .int 0), (1, .int (nI (8 + P.n7))), (0, .ref c)]) e_X10_readChange_72 (by decide) rfl ?_
          refine m_aload_n F rfl e_X10_readChange_74 ?_
          refine r_get F e_X10_readChange_75 fl_X10_141 h9104 rfl (fun v hv f9109 => ?_)
          obtain ⟨x9110, hx9110, rfl⟩ := hv
          replace hx9110 : Z = 0 → x9110 ≠ 0 := hx9110
          refine m_if_eq F e_X10_readChange_78 (fun q78 => ?_) (fun q78 => ?_)
          · subst q78
            refine m_aload_n F rfl e_X10_readChange_82 ?_
            refine r_get F e_X10_readChange_83 fl_X10_40 h9104 rfl (fun v hv f9111 => ?_)
            obtain rfl : v = .ref (c + 11) := hv
            refine m_iload_n F rfl e_X10_readChange_86 ?_
            refine m_iload_n F rfl e_X10_readChange_87 ?_
            refine r_iast F (g' := (⟨T, Z, u, h, P9106, L⟩ : RG)) (len := 16) (j := 8 + P.n7) e_X10_readChange_88 h9104 (fun _ h => h) (fun f h => ⟨f, rfl, h⟩) (by decide) (by decide) (nI_clamp (by omega)) (vp_in_nI (by omega) (by decide)) ⟨n9100, by omega, rfl⟩ (fun _ _ _ h => h) (fun _ _ _ h => h) (fun σ9112 h9113 g9114 f9115 g9116 => ?_)
            refine m_aload_n F rfl e_X10_readChange_89 ?_
            refine r_get F e_X10_readChange_90 fl_X10_43 h9113 rfl (fun v hv f9117 => ?_)
            obtain rfl : v = .ref (c + 12) := hv
            refine m_iload_n F rfl e_X10_readChange_93 ?_
            refine m_iload F rfl e_X10_readChange_94 ?_
            refine r_iast F (g' := (⟨T, Z, u, h, (mkP P9106.n0 P9106.n2 P9106.n5 P9106.n7 P9106.m0 P9106.m5 P9106.w2 (P9106.n7 + 1) P9106.kk P9106.a P9106.f P9106.p), L⟩ : RG)) (len := 16) (j := 8 + P.n7) e_X10_readChange_96 h9113 (fun _ h => h) (fun f h => ⟨f, rfl, h⟩) (by decide) (by decide) (nI_clamp (by omega)) (vp_in_nI (by omega) (by decide)) ⟨n9107, by omega, rfl, fun h7 _ => absurd h7 (by omega), fun _ _ => by omega⟩ (fun i hi y hy => by obtain ⟨n9, a9, b9, c9, d9⟩ := hy; exact ⟨n9, a9, b9, c9, fun h7 h8 => d9 h7 (show i < 8 + P9106.w7 by have h6 : i < 8 + (P9106.n7 + 1) := h8; omega)⟩) (CR.chg (by intro k hk i x h; unfold EI at h ⊢; split at h <;> first | exact h | exact absurd rfl hk | trivial) rfl rfl rfl rfl) (fun σ9118 h9119 g9120 f9121 g9122 => ?_)
            obtain ⟨P9123, eP9123⟩ : ∃ P9, P9 = (mkP P9106.n0 P9106.n2 P9106.n5 P9106.n7 P9106.m0 P9106.m5 P9106.w2 (P9106.n7 + 1) P9106.kk P9106.a P9106.f P9106.p) := ⟨_, rfl⟩
            rw [← eP9123] at h9119
            have fP9123 : P9123.n0 = P9106.n0 ∧ P9123.n2 = P9106.n2 ∧ P9123.n5 = P9106.n5 ∧ P9123.n7 = P9106.n7 ∧ P9123.m0 = P9106.m0 ∧ P9123.m5 = P9106.m5 ∧ P9123.w2 = P9106.w2 ∧ P9123.w7 = P9106.n7 + 1 ∧ P9123.kk = P9106.kk ∧ P9123.a = P9106.a ∧ P9123.f = P9106.f ∧ P9123.p = P9106.p := by rw [eP9123]; exact ⟨rfl, rfl, rfl, rfl, rfl, rfl, rfl, rfl, rfl, rfl, rfl, rfl⟩
            refine m_aload_n F rfl e_X10_readChange_97 ?_
            refine m_iconst F (v := 2) (by decide) e_X10_readChange_98 ?_
            refine m_aload_n F rfl e_X10_readChange_99 ?_
            refine m_iconst F (v := 2) (by decide) e_X10_readChange_100 ?_
            have oP9127 : OKP P9123 := by unfold OKP; omega
            refine r_callV F e_X10_readChange_101 (q_X10_reading2 (x_l X) V c T Z u h P9123 L _ _  h9119.1 (hob) oP9127 ) cb_X10_reading ml_X10_157 im_X10_reading se_X10_reading h9119 rfl rfl (rest := [.int 2, .ref c]) rfl (Nat.le_of_ble_eq_true rfl) ⟨Nat.le_of_ble_eq_true rfl, Nat.le_of_ble_eq_true rfl⟩ ⟨Nat.le_of_ble_eq_true rfl, Nat.le_of_ble_eq_true rfl⟩ (fun r σ9124 hp => ?_)
            obtain ⟨h9125, rfl⟩ := hp
            have h9126 := HS.trans h9119 h9125 (by decide)
            refine m_iconst F (v := 1) (by decide) e_X10_readChange_104 ?_
            refine m_iadd F e_X10_readChange_105 ?_
            refine Wm.topE (w := nI (P9123.n7 + 1)) (nI_add P9123.n7 1) ?_
            refine r_callV F e_X10_readChange_106 (q_X10_reads2 (x_l X) V c T Z u h P9123 L _ _ (P9123.n7 + 1) h9126.1 (hob) oP9127 (by omega) (by first | omega | assumption | decide)) cb_X10_reads ml_X10_170 im_X10_reads se_X10_reads h9126 rfl rfl (rest := []) rfl (Nat.le_of_ble_eq_true rfl) ⟨Nat.le_of_ble_eq_true rfl, Nat.le_of_ble_eq_true rfl⟩ ⟨Nat.le_of_ble_eq_true rfl, Nat.le_of_ble_eq_true rfl⟩ (fun r σ9128 hp => ?_)
            obtain ⟨h9129, rfl⟩ := hp
            have h9130 := HS.trans h9126 h9129 (by decide)
            obtain ⟨P9131, eP9131⟩ : ∃ P9, P9 = (mkP P9123.n0 P9123.n2 P9123.n5 (P9123.n7 + 1) P9123.m0 P9123.m5 P9123.w2 P9123.w7 P9123.kk P9123.a P9123.f P9123.p) := ⟨_, rfl⟩
            rw [← eP9131] at h9130
            have fP9131 : P9131.n0 = P9123.n0 ∧ P9131.n2 = P9123.n2 ∧ P9131.n5 = P9123.n5 ∧ P9131.n7 = P9123.n7 + 1 ∧ P9131.m0 = P9123.m0 ∧ P9131.m5 = P9123.m5 ∧ P9131.w2 = P9123.w2 ∧ P9131.w7 = P9123.w7 ∧ P9131.kk = P9123.kk ∧ P9131.a = P9123.a ∧ P9131.f = P9123.f ∧ P9131.p = P9123.p := by rw [eP9131]; exact ⟨rfl, rfl, rfl, rfl, rfl, rfl, rfl, rfl, rfl, rfl, rfl, rfl⟩
            have oP9132 : OKP P9131 := by unfold OKP; omega
            exact m_vret F hQ e_X10_readChange_109 (⟨P9131, oP9132, (by unfold RP; omega), h9130, rfl⟩)
          · have h9133 := HS.z0 h9104 (f9109) q78
            have h9134 : HS V c _ [0, 2, 4, 5, 6, 7, 8, 9, 10, 11, 14, 15, 16, 17, 18, 19, 20, 21, 22, 23] _ _ := ⟨HR.mono (Z' := Z) (by intro e; first | rfl | assumption | omega) h9133.1, h9133.2⟩
            exact m_vret F hQ e_X10_readChange_81 (⟨P9106, oP9106, (by unfold RP; omega), h9134, rfl⟩)
        · have h9135 : HS V c (⟨T, 0, u, h, P9106, L⟩ : RG) [0, 2, 4, 5, 6, 7, 8, 9, 10, 11, 14, 15, 16, 17, 18, 19, 20, 21, 22, 23] _ _ := ⟨h9108, h9104.2⟩
          refine m_istore F (lv' := [(4, .int (nI 500)), (3, .int (nI n9100)), (2, .int 0), (1, .int (nI (8 + P.n7))), (0, .ref c)]) e_X10_readChange_72 (by decide) rfl ?_
          refine m_aload_n F rfl e_X10_readChange_74 ?_
          refine r_get F e_X10_readChange_75 fl_X10_141 h9135 rfl (fun v hv f9136 => ?_)
          obtain ⟨x9137, hx9137, rfl⟩ := hv
          replace hx9137 : 0 = 0 → x9137 ≠ 0 := hx9137
          refine m_if_eq F e_X10_readChange_78 (fun q78 => ?_) (fun q78 => ?_)
          · first | exact absurd q78 (hx9137 rfl) | contradiction
          · have h9138 := HS.z0 h9135 (f9136) q78
            have h9139 : HS V c _ [0, 2, 4, 5, 6, 7, 8, 9, 10, 11, 14, 15, 16, 17, 18, 19, 20, 21, 22, 23] _ _ := ⟨HR.mono (Z' := Z) (by intro e; first | rfl | assumption | omega) h9138.1, h9138.2⟩
            exact m_vret F hQ e_X10_readChange_81 (⟨P9106, oP9106, (by unfold RP; omega), h9139, rfl⟩)
      · have h9140 : HS V c (⟨T, 0, u, h, P9099, L⟩ : RG) [0, 2, 4, 5, 6, 7, 8, 9, 10, 11, 14, 15, 16, 17, 18, 19, 20, 21, 22, 23] _ _ := ⟨h9101, h9097.2⟩
        refine m_istore_n F (lv' := [(3, .int (nI 0)), (2, .int 0), (1, .int (nI (8 + P.n7))), (0, .ref c)]) e_X10_readChange_61 (by decide) rfl ?_
        refine m_aload_n F rfl e_X10_readChange_62 ?_
        refine m_sipush F (v := 500) (by decide) e_X10_readChange_63 ?_
        refine m_sipush F (v := 2000) (by decide) e_X10_readChange_66 ?_
        refine r_callV F e_X10_readChange_69 (q_X10_numeral (x_l X) V c T 0 u h P9099 L _ _ 500 2000 h9140.1 (hob) oP9099 (by omega) (by omega)) cb_X10_numeral ml_X10_165 im_X10_numeral se_X10_numeral h9140 rfl rfl (rest := []) rfl (Nat.le_of_ble_eq_true rfl) ⟨Nat.le_of_ble_eq_true rfl, Nat.le_of_ble_eq_true rfl⟩ ⟨Nat.le_of_ble_eq_true rfl, Nat.le_of_ble_eq_true rfl⟩ (fun r σ9141 hp => ?_)
        obtain ⟨P9145, oP9145, rP9145, h9142, c9144⟩ := hp
        have h9143 := HS.trans h9140 h9142 (by decide)
        have xP9145 := oP9145
        unfold OKP at xP9145
        unfold RA at rP9145
        rcases c9144 with ⟨n9146, gn9146, hn9146, rfl⟩ | ⟨h9147, rfl⟩
        · refine m_istore F (lv' := [(4, .int (nI n9146)), (3, .int (nI 0)), (2, .int 0), (1, .int (nI (8 + P.n7))), (0, .ref c)]) e_X10_readChange_72 (by decide) rfl ?_
          refine m_aload_n F rfl e_X10_readChange_74 ?_
          refine r_get F e_X10_readChange_75 fl_X10_141 h9143 rfl (fun v hv f9148 => ?_)
          obtain ⟨x9149, hx9149, rfl⟩ := hv
          replace hx9149 : 0 = 0 → x9149 ≠ 0 := hx9149
          refine m_if_eq F e_X10_readChange_78 (fun q78 => ?_) (fun q78 => ?_)
          · first | exact absurd q78 (hx9149 rfl) | contradiction
          · have h9150 := HS.z0 h9143 (f9148) q78
            have h9151 : HS V c _ [0, 2, 4, 5, 6, 7, 8, 9, 10, 11, 14, 15, 16, 17, 18, 19, 20, 21, 22, 23] _ _ := ⟨HR.mono (Z' := Z) (by intro e; first | rfl | assumption | omega) h9150.1, h9150.2⟩
            exact m_vret F hQ e_X10_readChange_81 (⟨P9145, oP9145, (by unfold RP; omega), h9151, rfl⟩)
        · have h9152 : HS V c (⟨T, 0, u, h, P9145, L⟩ : RG) [0, 2, 4, 5, 6, 7, 8, 9, 10, 11, 14, 15, 16, 17, 18, 19, 20, 21, 22, 23] _ _ := ⟨h9147, h9143.2⟩
          refine m_istore F (lv' := [(4, .int (nI 500)), (3, .int (nI 0)), (2, .int 0), (1, .int (nI (8 + P.n7))), (0, .ref c)]) e_X10_readChange_72 (by decide) rfl ?_
          refine m_aload_n F rfl e_X10_readChange_74 ?_
          refine r_get F e_X10_readChange_75 fl_X10_141 h9152 rfl (fun v hv f9153 => ?_)
          obtain ⟨x9154, hx9154, rfl⟩ := hv
          replace hx9154 : 0 = 0 → x9154 ≠ 0 := hx9154
          refine m_if_eq F e_X10_readChange_78 (fun q78 => ?_) (fun q78 => ?_)
          · first | exact absurd q78 (hx9154 rfl) | contradiction
          · have h9155 := HS.z0 h9152 (f9153) q78
            have h9156 : HS V c _ [0, 2, 4, 5, 6, 7, 8, 9, 10, 11, 14, 15, 16, 17, 18, 19, 20, 21, 22, 23] _ _ := ⟨HR.mono (Z' := Z) (by intro e; first | rfl | assumption | omega) h9155.1, h9155.2⟩
            exact m_vret F hQ e_X10_readChange_81 (⟨P9145, oP9145, (by unfold RP; omega), h9156, rfl⟩)
    · have c29 : P9090.n7 ≠ 0 := by have hh := mt (nI_eq (a := P9090.n7) (b := 0) (by omega) (by omega)).mpr q29; omega
      refine m_aload_n F rfl e_X10_readChange_32 ?_
      refine r_get F e_X10_readChange_33 fl_X10_141 h9094 rfl (fun v hv f9157 => ?_)
      obtain ⟨x9158, hx9158, rfl⟩ := hv
      replace hx9158 : Z = 0 → x9158 ≠ 0 := hx9158
      refine m_if_eq F e_X10_readChange_36 (fun q36 => ?_) (fun q36 => ?_)
      · subst q36
        refine m_aload_n F rfl e_X10_readChange_43 ?_
        refine r_get F e_X10_readChange_44 fl_X10_40 h9094 rfl (fun v hv f9159 => ?_)
        obtain rfl : v = .ref (c + 11) := hv
        refine m_iload_n F rfl e_X10_readChange_47 ?_
        refine m_iconst F (v := 1) (by decide) e_X10_readChange_48 ?_
        refine m_isub F e_X10_readChange_49 ?_
        refine Wm.topE (w := nI ((8 + P.n7) - 1)) (pk_sub (a := 8 + P.n7) (b := 1) (by omega)) ?_
        refine r_iald F (len := 16) (j := (8 + P.n7) - 1) e_X10_readChange_50 h9094 (fun _ h => h) (by decide) (nI_clamp (by omega)) (vp_in_nI (by omega) (by decide)) (fun x9160 h9161 f9162 => ?_)
        obtain ⟨n9163, hn9163, rfl⟩ := h9161
        refine m_iconst F (v := 1) (by decide) e_X10_readChange_51 ?_
        refine m_iadd F e_X10_readChange_52 ?_
        refine Wm.topE (w := nI (n9163 + 1)) (nI_add n9163 1) ?_
        refine m_istore_n F (lv' := [(2, .int (nI (n9163 + 1))), (1, .int (nI (8 + P.n7))), (0, .ref c)]) e_X10_readChange_53 (by decide) rfl ?_
        refine m_aload_n F rfl e_X10_readChange_54 ?_
        refine m_iload_n F rfl e_X10_readChange_55 ?_
        refine m_bipush F (v := 99) (by decide) e_X10_readChange_56 ?_
        refine r_callV F e_X10_readChange_58 (q_X10_numeral (x_l X) V c T Z u h P9090 L _ _ (n9163 + 1) 99 h9094.1 (hob) oP9090 (by omega) (by omega)) cb_X10_numeral ml_X10_165 im_X10_numeral se_X10_numeral h9094 rfl rfl (rest := []) rfl (Nat.le_of_ble_eq_true rfl) ⟨Nat.le_of_ble_eq_true rfl, Nat.le_of_ble_eq_true rfl⟩ ⟨Nat.le_of_ble_eq_true rfl, Nat.le_of_ble_eq_true rfl⟩ (fun r σ9164 hp => ?_)
        obtain ⟨P9168, oP9168, rP9168, h9165, c9167⟩ := hp
        have h9166 := HS.trans h9094 h9165 (by decide)
        have xP9168 := oP9168
        unfold OKP at xP9168
        unfold RA at rP9168
        rcases c9167 with ⟨n9169, gn9169, hn9169, rfl⟩ | ⟨h9170, rfl⟩
        · refine m_istore_n F (lv' := [(3, .int (nI n9169)), (2, .int (nI (n9163 + 1))), (1, .int (nI (8 + P.n7))), (0, .ref c)]) e_X10_readChange_61 (by decide) rfl ?_
          refine m_aload_n F rfl e_X10_readChange_62 ?_
          refine m_sipush F (v := 500) (by decide) e_X10_readChange_63 ?_
          refine m_sipush F (v := 2000) (by decide) e_X10_readChange_66 ?_
          refine r_callV F e_X10_readChange_69 (q_X10_numeral (x_l X) V c T Z u h P9168 L _ _ 500 2000 h9166.1 (hob) oP9168 (by omega) (by omega)) cb_X10_numeral ml_X10_165 im_X10_numeral se_X10_numeral h9166 rfl rfl (rest := []) rfl (Nat.le_of_ble_eq_true rfl) ⟨Nat.le_of_ble_eq_true rfl, Nat.le_of_ble_eq_true rfl⟩ ⟨Nat.le_of_ble_eq_true rfl, Nat.le_of_ble_eq_true rfl⟩ (fun r σ9171 hp => ?_)
          obtain ⟨P9175, oP9175, rP9175, h9172, c9174⟩ := hp
          have h9173 := HS.trans h9166 h9172 (by decide)
          have xP9175 := oP9175
          unfold OKP at xP9175
          unfold RA at rP9175
          rcases c9174 with ⟨n9176, gn9176, hn9176, rfl⟩ | ⟨h9177, rfl⟩
          · refine m_istore F (lv' := [(4, .int (nI n9176)), (3, .int (nI n9169)), (2, .int (nI (n9163 + 1))), (1, .int (nI (8 + P.n7))), (0, .ref c)]) e_X10_readChange_72 (by decide) rfl ?_
            refine m_aload_n F rfl e_X10_readChange_74 ?_
            refine r_get F e_X10_readChange_75 fl_X10_141 h9173 rfl (fun v hv f9178 => ?_)
            obtain ⟨x9179, hx9179, rfl⟩ := hv
            replace hx9179 : Z = 0 → x9179 ≠ 0 := hx9179
            refine m_if_eq F e_X10_readChange_78 (fun q78 => ?_) (fun q78 => ?_)
            · subst q78
              refine m_aload_n F rfl e_X10_readChange_82 ?_
              refine r_get F e_X10_readChange_83 fl_X10_40 h9173 rfl (fun v hv f9180 => ?_)
              obtain rfl : v = .ref (c + 11) := hv
              refine m_iload_n F rfl e_X10_readChange_86 ?_
              refine m_iload_n F rfl e_X10_readChange_87 ?_
              refine r_iast F (g' := (⟨T, Z, u, h, P9175, L⟩ : RG)) (len := 16) (j := 8 + P.n7) e_X10_readChange_88 h9173 (fun _ h => h) (fun f h => ⟨f, rfl, h⟩) (by decide) (by decide) (nI_clamp (by omega)) (vp_in_nI (by omega) (by decide)) ⟨n9169, by omega, rfl⟩ (fun _ _ _ h => h) (fun _ _ _ h => h) (fun σ9181 h9182 g9183 f9184 g9185 => ?_)
              refine m_aload_n F rfl e_X10_readChange_89 ?_
              refine r_get F e_X10_readChange_90 fl_X10_43 h9182 rfl (fun v hv f9186 => ?_)
              obtain rfl : v = .ref (c + 12) := hv
              refine m_iload_n F rfl e_X10_readChange_93 ?_
              refine m_iload F rfl e_X10_readChange_94 ?_
              refine r_iast F (g' := (⟨T, Z, u, h, (mkP P9175.n0 P9175.n2 P9175.n5 P9175.n7 P9175.m0 P9175.m5 P9175.w2 (P9175.n7 + 1) P9175.kk P9175.a P9175.f P9175.p), L⟩ : RG)) (len := 16) (j := 8 + P.n7) e_X10_readChange_96 h9182 (fun _ h => h) (fun f h => ⟨f, rfl, h⟩) (by decide) (by decide) (nI_clamp (by omega)) (vp_in_nI (by omega) (by decide)) ⟨n9176, by omega, rfl, fun h7 _ => absurd h7 (by omega), fun _ _ => by omega⟩ (fun i hi y hy => by obtain ⟨n9, a9, b9, c9, d9⟩ := hy; exact ⟨n9, a9, b9, c9, fun h7 h8 => d9 h7 (show i < 8 + P9175.w7 by have h6 : i < 8 + (P9175.n7 + 1) := h8; omega)⟩) (CR.chg (by intro k hk i x h; unfold EI at h ⊢; split at h <;> first | exact h | exact absurd rfl hk | trivial) rfl rfl rfl rfl) (fun σ9187 h9188 g9189 f9190 g9191 => ?_)
              obtain ⟨P9192, eP9192⟩ : ∃ P9, P9 = (mkP P9175.n0 P9175.n2 P9175.n5 P9175.n7 P9175.m0 P9175.m5 P9175.w2 (P9175.n7 + 1) P9175.kk P9175.a P9175.f P9175.p) := ⟨_, rfl⟩
              rw [← eP9192] at h9188
              have fP9192 : P9192.n0 = P9175.n0 ∧ P9192.n2 = P9175.n2 ∧ P9192.n5 = P9175.n5 ∧ P9192.n7 = P9175.n7 ∧ P9192.m0 = P9175.m0 ∧ P9192.m5 = P9175.m5 ∧ P9192.w2 = P9175.w2 ∧ P9192.w7 = P9175.n7 + 1 ∧ P9192.kk = P9175.kk ∧ P9192.a = P9175.a ∧ P9192.f = P9175.f ∧ P9192.p = P9175.p := by rw [eP9192]; exact ⟨rfl, rfl, rfl, rfl, rfl, rfl, rfl, rfl, rfl, rfl, rfl, rfl⟩
              refine m_aload_n F rfl e_X10_readChange_97 ?_
              refine m_iconst F (v := 2) (by decide) e_X10_readChange_98 ?_
              refine m_aload_n F rfl e_X10_readChange_99 ?_
              refine m_iconst F (v := 2) (by decide) e_X10_readChange_100 ?_
              have oP9196 : OKP P9192 := by unfold OKP; omega
              refine r_callV F e_X10_readChange_101 (q_X10_reading2 (x_l X) V c T Z u h P9192 L _ _  h9188.1 (hob) oP9196 ) cb_X10_reading ml_X10_157 im_X10_reading se_X10_reading h9188 rfl rfl (rest := [.int 2, .ref c]) rfl (Nat.le_of_ble_eq_true rfl) ⟨Nat.le_of_ble_eq_true rfl, Nat.le_of_ble_eq_true rfl⟩ ⟨Nat.le_of_ble_eq_true rfl, Nat.le_of_ble_eq_true rfl⟩ (fun r σ9193 hp => ?_)
              obtain ⟨h9194, rfl⟩ := hp
              have h9195 := HS.trans h9188 h9194 (by decide)
              refine m_iconst F (v := 1) (by decide) e_X10_readChange_104 ?_
              refine m_iadd F e_X10_readChange_105 ?_
              refine Wm.topE (w := nI (P9192.n7 + 1)) (nI_add P9192.n7 1) ?_
              refine r_callV F e_X10_readChange_106 (q_X10_reads2 (x_l X) V c T Z u h P9192 L _ _ (P9192.n7 + 1) h9195.1 (hob) oP9196 (by omega) (by first | omega | assumption | decide)) cb_X10_reads ml_X10_170 im_X10_reads se_X10_reads h9195 rfl rfl (rest := []) rfl (Nat.le_of_ble_eq_true rfl) ⟨Nat.le_of_ble_eq_true rfl, Nat.le_of_ble_eq_true rfl⟩ ⟨Nat.le_of_ble_eq_true rfl, Nat.le_of_ble_eq_true rfl⟩ (fun r σ9197 hp => ?_)
              obtain ⟨h9198, rfl⟩ := hp
              have h9199 := HS.trans h9195 h9198 (by decide)
              obtain ⟨P9200, eP9200⟩ : ∃ P9, P9 = (mkP P9192.n0 P9192.n2 P9192.n5 (P9192.n7 + 1) P9192.m0 P9192.m5 P9192.w2 P9192.w7 P9192.kk P9192.a P9192.f P9192.p) := ⟨_, rfl⟩
              rw [← eP9200] at h9199
              have fP9200 : P9200.n0 = P9192.n0 ∧ P9200.n2 = P9192.n2 ∧ P9200.n5 = P9192.n5 ∧ P9200.n7 = P9192.n7 + 1 ∧ P9200.m0 = P9192.m0 ∧ P9200.m5 = P9192.m5 ∧ P9200.w2 = P9192.w2 ∧ P9200.w7 = P9192.w7 ∧ P9200.kk = P9192.kk ∧ P9200.a = P9192.a ∧ P9200.f = P9192.f ∧ P9200.p = P9192.p := by rw [eP9200]; exact ⟨rfl, rfl, rfl, rfl, rfl, rfl, rfl, rfl, rfl, rfl, rfl, rfl⟩
              have oP9201 : OKP P9200 := by unfold OKP; omega
              exact m_vret F hQ e_X10_readChange_109 (⟨P9200, oP9201, (by unfold RP; omega), h9199, rfl⟩)
            · have h9202 := HS.z0 h9173 (f9178) q78
              have h9203 : HS V c _ [0, 2, 4, 5, 6, 7, 8, 9, 10, 11, 14, 15, 16, 17, 18, 19, 20, 21, 22, 23] _ _ := ⟨HR.mono (Z' := Z) (by intro e; first | rfl | assumption | omega) h9202.1, h9202.2⟩
              exact m_vret F hQ e_X10_readChange_81 (⟨P9175, oP9175, (by unfold RP; omega), h9203, rfl⟩)
          · have h9204 : HS V c (⟨T, 0, u, h, P9175, L⟩ : RG) [0, 2, 4, 5, 6, 7, 8, 9, 10, 11, 14, 15, 16, 17, 18, 19, 20, 21, 22, 23] _ _ := ⟨h9177, h9173.2⟩
            refine m_istore F (lv' := [(4, .int (nI 500)), (3, .int (nI n9169)), (2, .int (nI (n9163 + 1))), (1, .int (nI (8 + P.n7))), (0, .ref c)]) e_X10_readChange_72 (by decide) rfl ?_
            refine m_aload_n F rfl e_X10_readChange_74 ?_
            refine r_get F e_X10_readChange_75 fl_X10_141 h9204 rfl (fun v hv f9205 => ?_)
            obtain ⟨x9206, hx9206, rfl⟩ := hv
            replace hx9206 : 0 = 0 → x9206 ≠ 0 := hx9206
            refine m_if_eq F e_X10_readChange_78 (fun q78 => ?_) (fun q78 => ?_)
            · first | exact absurd q78 (hx9206 rfl) | contradiction
            · have h9207 := HS.z0 h9204 (f9205) q78
              have h9208 : HS V c _ [0, 2, 4, 5, 6, 7, 8, 9, 10, 11, 14, 15, 16, 17, 18, 19, 20, 21, 22, 23] _ _ := ⟨HR.mono (Z' := Z) (by intro e; first | rfl | assumption | omega) h9207.1, h9207.2⟩
              exact m_vret F hQ e_X10_readChange_81 (⟨P9175, oP9175, (by unfold RP; omega), h9208, rfl⟩)
        · have h9209 : HS V c (⟨T, 0, u, h, P9168, L⟩ : RG) [0, 2, 4, 5, 6, 7, 8, 9, 10, 11, 14, 15, 16, 17, 18, 19, 20, 21, 22, 23] _ _ := ⟨h9170, h9166.2⟩
          refine m_istore_n F (lv' := [(3, .int (nI (n9163 + 1))), (2, .int (nI (n9163 + 1))), (1, .int (nI (8 + P.n7))), (0, .ref c)]) e_X10_readChange_61 (by decide) rfl ?_
          refine m_aload_n F rfl e_X10_readChange_62 ?_
          refine m_sipush F (v := 500) (by decide) e_X10_readChange_63 ?_
          refine m_sipush F (v := 2000) (by decide) e_X10_readChange_66 ?_
          refine r_callV F e_X10_readChange_69 (q_X10_numeral (x_l X) V c T 0 u h P9168 L _ _ 500 2000 h9209.1 (hob) oP9168 (by omega) (by omega)) cb_X10_numeral ml_X10_165 im_X10_numeral se_X10_numeral h9209 rfl rfl (rest := []) rfl (Nat.le_of_ble_eq_true rfl) ⟨Nat.le_of_ble_eq_true rfl, Nat.le_of_ble_eq_true rfl⟩ ⟨Nat.le_of_ble_eq_true rfl, Nat.le_of_ble_eq_true rfl⟩ (fun r σ9210 hp => ?_)
          obtain ⟨P9214, oP9214, rP9214, h9211, c9213⟩ := hp
          have h9212 := HS.trans h9209 h9211 (by decide)
          have xP9214 := oP9214
          unfold OKP at xP9214
          unfold RA at rP9214
          rcases c9213 with ⟨n9215, gn9215, hn9215, rfl⟩ | ⟨h9216, rfl⟩
          · refine m_istore F (lv' := [(4, .int (nI n9215)), (3, .int (nI (n9163 + 1))), (2, .int (nI (n9163 + 1))), (1, .int (nI (8 + P.n7))), (0, .ref c)]) e_X10_readChange_72 (by decide) rfl ?_
            refine m_aload_n F rfl e_X10_readChange_74 ?_
            refine r_get F e_X10_readChange_75 fl_X10_141 h9212 rfl (fun v hv f9217 => ?_)
            obtain ⟨x9218, hx9218, rfl⟩ := hv
            replace hx9218 : 0 = 0 → x9218 ≠ 0 := hx9218
            refine m_if_eq F e_X10_readChange_78 (fun q78 => ?_) (fun q78 => ?_)
            · first | exact absurd q78 (hx9218 rfl) | contradiction
            · have h9219 := HS.z0 h9212 (f9217) q78
              have h9220 : HS V c _ [0, 2, 4, 5, 6, 7, 8, 9, 10, 11, 14, 15, 16, 17, 18, 19, 20, 21, 22, 23] _ _ := ⟨HR.mono (Z' := Z) (by intro e; first | rfl | assumption | omega) h9219.1, h9219.2⟩
              exact m_vret F hQ e_X10_readChange_81 (⟨P9214, oP9214, (by unfold RP; omega), h9220, rfl⟩)
          · have h9221 : HS V c (⟨T, 0, u, h, P9214, L⟩ : RG) [0, 2, 4, 5, 6, 7, 8, 9, 10, 11, 14, 15, 16, 17, 18, 19, 20, 21, 22, 23] _ _ := ⟨h9216, h9212.2⟩
            refine m_istore F (lv' := [(4, .int (nI 500)), (3, .int (nI (n9163 + 1))), (2, .int (nI (n9163 + 1))), (1, .int (nI (8 + P.n7))), (0, .ref c)]) e_X10_readChange_72 (by decide) rfl ?_
            refine m_aload_n F rfl e_X10_readChange_74 ?_
            refine r_get F e_X10_readChange_75 fl_X10_141 h9221 rfl (fun v hv f9222 => ?_)
            obtain ⟨x9223, hx9223, rfl⟩ := hv
            replace hx9223 : 0 = 0 → x9223 ≠ 0 := hx9223
            refine m_if_eq F e_X10_readChange_78 (fun q78 => ?_) (fun q78 => ?_)
            · first | exact absurd q78 (hx9223 rfl) | contradiction
            · have h9224 := HS.z0 h9221 (f9222) q78
              have h9225 : HS V c _ [0, 2, 4, 5, 6, 7, 8, 9, 10, 11, 14, 15, 16, 17, 18, 19, 20, 21, 22, 23] _ _ := ⟨HR.mono (Z' := Z) (by intro e; first | rfl | assumption | omega) h9224.1, h9224.2⟩
              exact m_vret F hQ e_X10_readChange_81 (⟨P9214, oP9214, (by unfold RP; omega), h9225, rfl⟩)
      · have h9226 := HS.z0 h9094 (f9157) q36
        refine m_iconst F (v := 0) (by decide) e_X10_readChange_39 ?_
        refine m_goto F e_X10_readChange_40 ?_
        refine m_istore_n F (lv' := [(2, .int 0), (1, .int (nI (8 + P.n7))), (0, .ref c)]) e_X10_readChange_53 (by decide) rfl ?_
        refine m_aload_n F rfl e_X10_readChange_54 ?_
        refine m_iload_n F rfl e_X10_readChange_55 ?_
        refine m_bipush F (v := 99) (by decide) e_X10_readChange_56 ?_
        refine r_callV F e_X10_readChange_58 (q_X10_numeral (x_l X) V c T 0 u h P9090 L _ _ 0 99 h9226.1 (hob) oP9090 (by omega) (by omega)) cb_X10_numeral ml_X10_165 im_X10_numeral se_X10_numeral h9226 rfl rfl (rest := []) rfl (Nat.le_of_ble_eq_true rfl) ⟨Nat.le_of_ble_eq_true rfl, Nat.le_of_ble_eq_true rfl⟩ ⟨Nat.le_of_ble_eq_true rfl, Nat.le_of_ble_eq_true rfl⟩ (fun r σ9227 hp => ?_)
        obtain ⟨P9231, oP9231, rP9231, h9228, c9230⟩ := hp
        have h9229 := HS.trans h9226 h9228 (by decide)
        have xP9231 := oP9231
        unfold OKP at xP9231
        unfold RA at rP9231
        rcases c9230 with ⟨n9232, gn9232, hn9232, rfl⟩ | ⟨h9233, rfl⟩
        · refine m_istore_n F (lv' := [(3, .int (nI n9232)), (2, .int 0), (1, .int (nI (8 + P.n7))), (0, .ref c)]) e_X10_readChange_61 (by decide) rfl ?_
          refine m_aload_n F rfl e_X10_readChange_62 ?_
          refine m_sipush F (v := 500) (by decide) e_X10_readChange_63 ?_
          refine m_sipush F (v := 2000) (by decide) e_X10_readChange_66 ?_
          refine r_callV F e_X10_readChange_69 (q_X10_numeral (x_l X) V c T 0 u h P9231 L _ _ 500 2000 h9229.1 (hob) oP9231 (by omega) (by omega)) cb_X10_numeral ml_X10_165 im_X10_numeral se_X10_numeral h9229 rfl rfl (rest := []) rfl (Nat.le_of_ble_eq_true rfl) ⟨Nat.le_of_ble_eq_true rfl, Nat.le_of_ble_eq_true rfl⟩ ⟨Nat.le_of_ble_eq_true rfl, Nat.le_of_ble_eq_true rfl⟩ (fun r σ9234 hp => ?_)
          obtain ⟨P9238, oP9238, rP9238, h9235, c9237⟩ := hp
          have h9236 := HS.trans h9229 h9235 (by decide)
          have xP9238 := oP9238
          unfold OKP at xP9238
          unfold RA at rP9238
          rcases c9237 with ⟨n9239, gn9239, hn9239, rfl⟩ | ⟨h9240, rfl⟩
          · refine m_istore F (lv' := [(4, .int (nI n9239)), (3, .int (nI n9232)), (2, .int 0), (1, .int (nI (8 + P.n7))), (0, .ref c)]) e_X10_readChange_72 (by decide) rfl ?_
            refine m_aload_n F rfl e_X10_readChange_74 ?_
            refine r_get F e_X10_readChange_75 fl_X10_141 h9236 rfl (fun v hv f9241 => ?_)
            obtain ⟨x9242, hx9242, rfl⟩ := hv
            replace hx9242 : 0 = 0 → x9242 ≠ 0 := hx9242
            refine m_if_eq F e_X10_readChange_78 (fun q78 => ?_) (fun q78 => ?_)
            · first | exact absurd q78 (hx9242 rfl) | contradiction
            · have h9243 := HS.z0 h9236 (f9241) q78
              have h9244 : HS V c _ [0, 2, 4, 5, 6, 7, 8, 9, 10, 11, 14, 15, 16, 17, 18, 19, 20, 21, 22, 23] _ _ := ⟨HR.mono (Z' := Z) (by intro e; first | rfl | assumption | omega) h9243.1, h9243.2⟩
              exact m_vret F hQ e_X10_readChange_81 (⟨P9238, oP9238, (by unfold RP; omega), h9244, rfl⟩)
          · have h9245 : HS V c (⟨T, 0, u, h, P9238, L⟩ : RG) [0, 2, 4, 5, 6, 7, 8, 9, 10, 11, 14, 15, 16, 17, 18, 19, 20, 21, 22, 23] _ _ := ⟨h9240, h9236.2⟩
            refine m_istore F (lv' := [(4, .int (nI 500)), (3, .int (nI n9232)), (2, .int 0), (1, .int (nI (8 + P.n7))), (0, .ref c)]) e_X10_readChange_72 (by decide) rfl ?_
            refine m_aload_n F rfl e_X10_readChange_74 ?_
            refine r_get F e_X10_readChange_75 fl_X10_141 h9245 rfl (fun v hv f9246 => ?_)
            obtain ⟨x9247, hx9247, rfl⟩ := hv
            replace hx9247 : 0 = 0 → x9247 ≠ 0 := hx9247
            refine m_if_eq F e_X10_readChange_78 (fun q78 => ?_) (fun q78 => ?_)
            · first | exact absurd q78 (hx9247 rfl) | contradiction
            · have h9248 := HS.z0 h9245 (f9246) q78
              have h9249 : HS V c _ [0, 2, 4, 5, 6, 7, 8, 9, 10, 11, 14, 15, 16, 17, 18, 19, 20, 21, 22, 23] _ _ := ⟨HR.mono (Z' := Z) (by intro e; first | rfl | assumption | omega) h9248.1, h9248.2⟩
              exact m_vret F hQ e_X10_readChange_81 (⟨P9238, oP9238, (by unfold RP; omega), h9249, rfl⟩)
        · have h9250 : HS V c (⟨T, 0, u, h, P9231, L⟩ : RG) [0, 2, 4, 5, 6, 7, 8, 9, 10, 11, 14, 15, 16, 17, 18, 19, 20, 21, 22, 23] _ _ := ⟨h9233, h9229.2⟩
          refine m_istore_n F (lv' := [(3, .int (nI 0)), (2, .int 0), (1, .int (nI (8 + P.n7))), (0, .ref c)]) e_X10_readChange_61 (by decide) rfl ?_
          refine m_aload_n F rfl e_X10_readChange_62 ?_
          refine m_sipush F (v := 500) (by decide) e_X10_readChange_63 ?_
          refine m_sipush F (v := 2000) (by decide) e_X10_readChange_66 ?_
          refine r_callV F e_X10_readChange_69 (q_X10_numeral (x_l X) V c T 0 u h P9231 L _ _ 500 2000 h9250.1 (hob) oP9231 (by omega) (by omega)) cb_X10_numeral ml_X10_165 im_X10_numeral se_X10_numeral h9250 rfl rfl (rest := []) rfl (Nat.le_of_ble_eq_true rfl) ⟨Nat.le_of_ble_eq_true rfl, Nat.le_of_ble_eq_true rfl⟩ ⟨Nat.le_of_ble_eq_true rfl, Nat.le_of_ble_eq_true rfl⟩ (fun r σ9251 hp => ?_)
          obtain ⟨P9255, oP9255, rP9255, h9252, c9254⟩ := hp
          have h9253 := HS.trans h9250 h9252 (by decide)
          have xP9255 := oP9255
          unfold OKP at xP9255
          unfold RA at rP9255
          rcases c9254 with ⟨n9256, gn9256, hn9256, rfl⟩ | ⟨h9257, rfl⟩
          · refine m_istore F (lv' := [(4, .int (nI n9256)), (3, .int (nI 0)), (2, .int 0), (1, .int (nI (8 + P.n7))), (0, .ref c)]) e_X10_readChange_72 (by decide) rfl ?_
            refine m_aload_n F rfl e_X10_readChange_74 ?_
            refine r_get F e_X10_readChange_75 fl_X10_141 h9253 rfl (fun v hv f9258 => ?_)
            obtain ⟨x9259, hx9259, rfl⟩ := hv
            replace hx9259 : 0 = 0 → x9259 ≠ 0 := hx9259
            refine m_if_eq F e_X10_readChange_78 (fun q78 => ?_) (fun q78 => ?_)
            · first | exact absurd q78 (hx9259 rfl) | contradiction
            · have h9260 := HS.z0 h9253 (f9258) q78
              have h9261 : HS V c _ [0, 2, 4, 5, 6, 7, 8, 9, 10, 11, 14, 15, 16, 17, 18, 19, 20, 21, 22, 23] _ _ := ⟨HR.mono (Z' := Z) (by intro e; first | rfl | assumption | omega) h9260.1, h9260.2⟩
              exact m_vret F hQ e_X10_readChange_81 (⟨P9255, oP9255, (by unfold RP; omega), h9261, rfl⟩)
          · have h9262 : HS V c (⟨T, 0, u, h, P9255, L⟩ : RG) [0, 2, 4, 5, 6, 7, 8, 9, 10, 11, 14, 15, 16, 17, 18, 19, 20, 21, 22, 23] _ _ := ⟨h9257, h9253.2⟩
            refine m_istore F (lv' := [(4, .int (nI 500)), (3, .int (nI 0)), (2, .int 0), (1, .int (nI (8 + P.n7))), (0, .ref c)]) e_X10_readChange_72 (by decide) rfl ?_
            refine m_aload_n F rfl e_X10_readChange_74 ?_
            refine r_get F e_X10_readChange_75 fl_X10_141 h9262 rfl (fun v hv f9263 => ?_)
            obtain ⟨x9264, hx9264, rfl⟩ := hv
            replace hx9264 : 0 = 0 → x9264 ≠ 0 := hx9264
            refine m_if_eq F e_X10_readChange_78 (fun q78 => ?_) (fun q78 => ?_)
            · first | exact absurd q78 (hx9264 rfl) | contradiction
            · have h9265 := HS.z0 h9262 (f9263) q78
              have h9266 : HS V c _ [0, 2, 4, 5, 6, 7, 8, 9, 10, 11, 14, 15, 16, 17, 18, 19, 20, 21, 22, 23] _ _ := ⟨HR.mono (Z' := Z) (by intro e; first | rfl | assumption | omega) h9265.1, h9265.2⟩
              exact m_vret F hQ e_X10_readChange_81 (⟨P9255, oP9255, (by unfold RP; omega), h9266, rfl⟩)
  · have c12 : (8 + P.n7) = 16 := (nI_eq (a := (8 + P.n7)) (b := 16) (by omega) (by omega)).mp q12
    refine m_aload_n F rfl e_X10_readChange_15 ?_
    refine m_iconst F (v := 2) (by decide) e_X10_readChange_16 ?_
    refine r_callV F e_X10_readChange_17 (q_X10_wrong (x_l X) V c T Z u h P L _ _ 2 h9086.1 (hob) hP (by first | omega | assumption | decide)) cb_X10_wrong ml_X10_150 im_X10_wrong se_X10_wrong h9086 rfl rfl (rest := []) rfl (Nat.le_of_ble_eq_true rfl) ⟨Nat.le_of_ble_eq_true rfl, Nat.le_of_ble_eq_true rfl⟩ ⟨Nat.le_of_ble_eq_true rfl, Nat.le_of_ble_eq_true rfl⟩ (fun r σ9267 hp => ?_)
    obtain ⟨h9268, rfl⟩ := hp
    have h9269 := HS.trans h9086 h9268 (by decide)
    refine m_aload_n F rfl e_X10_readChange_20 ?_
    refine r_callV F e_X10_readChange_21 (q_X10_goOn (x_l X) V c T 0 u h P L _ _  h9269.1 (hob) hP ) cb_X10_goOn ml_X10_154 im_X10_goOn se_X10_goOn h9269 rfl rfl (rest := []) rfl (Nat.le_of_ble_eq_true rfl) ⟨Nat.le_of_ble_eq_true rfl, Nat.le_of_ble_eq_true rfl⟩ ⟨Nat.le_of_ble_eq_true rfl, Nat.le_of_ble_eq_true rfl⟩ (fun r σ9270 hp => ?_)
    obtain ⟨P9273, oP9273, rP9273, pr9274, h9271, rfl⟩ := hp
    have h9272 := HS.trans h9269 h9271 (by decide)
    have xP9273 := oP9273
    unfold OKP at xP9273
    unfold RA at rP9273
    refine m_aload_n F rfl e_X10_readChange_24 ?_
    refine m_iconst F (v := 2) (by decide) e_X10_readChange_25 ?_
    refine r_callV F e_X10_readChange_26 (q_X10_reading2 (x_l X) V c T 0 u h P9273 L _ _  h9272.1 (hob) oP9273 ) cb_X10_reading ml_X10_157 im_X10_reading se_X10_reading h9272 rfl rfl (rest := []) rfl (Nat.le_of_ble_eq_true rfl) ⟨Nat.le_of_ble_eq_true rfl, Nat.le_of_ble_eq_true rfl⟩ ⟨Nat.le_of_ble_eq_true rfl, Nat.le_of_ble_eq_true rfl⟩ (fun r σ9275 hp => ?_)
    obtain ⟨h9276, rfl⟩ := hp
    have h9277 := HS.trans h9272 h9276 (by decide)
    refine m_if_eq F e_X10_readChange_29 (fun q29 => ?_) (fun q29 => ?_)
    · have c29 : P9273.n7 = 0 := (nI_eq (a := P9273.n7) (b := 0) (by omega) (by omega)).mp q29
      refine m_iconst F (v := 0) (by decide) e_X10_readChange_39 ?_
      refine m_goto F e_X10_readChange_40 ?_
      refine m_istore_n F (lv' := [(2, .int 0), (1, .int (nI (8 + P.n7))), (0, .ref c)]) e_X10_readChange_53 (by decide) rfl ?_
      refine m_aload_n F rfl e_X10_readChange_54 ?_
      refine m_iload_n F rfl e_X10_readChange_55 ?_
      refine m_bipush F (v := 99) (by decide) e_X10_readChange_56 ?_
      refine r_callV F e_X10_readChange_58 (q_X10_numeral (x_l X) V c T 0 u h P9273 L _ _ 0 99 h9277.1 (hob) oP9273 (by omega) (by omega)) cb_X10_numeral ml_X10_165 im_X10_numeral se_X10_numeral h9277 rfl rfl (rest := []) rfl (Nat.le_of_ble_eq_true rfl) ⟨Nat.le_of_ble_eq_true rfl, Nat.le_of_ble_eq_true rfl⟩ ⟨Nat.le_of_ble_eq_true rfl, Nat.le_of_ble_eq_true rfl⟩ (fun r σ9278 hp => ?_)
      obtain ⟨P9282, oP9282, rP9282, h9279, c9281⟩ := hp
      have h9280 := HS.trans h9277 h9279 (by decide)
      have xP9282 := oP9282
      unfold OKP at xP9282
      unfold RA at rP9282
      rcases c9281 with ⟨n9283, gn9283, hn9283, rfl⟩ | ⟨h9284, rfl⟩
      · refine m_istore_n F (lv' := [(3, .int (nI n9283)), (2, .int 0), (1, .int (nI (8 + P.n7))), (0, .ref c)]) e_X10_readChange_61 (by decide) rfl ?_
        refine m_aload_n F rfl e_X10_readChange_62 ?_
        refine m_sipush F (v := 500) (by decide) e_X10_readChange_63 ?_
        refine m_sipush F (v := 2000) (by decide) e_X10_readChange_66 ?_
        refine r_callV F e_X10_readChange_69 (q_X10_numeral (x_l X) V c T 0 u h P9282 L _ _ 500 2000 h9280.1 (hob) oP9282 (by omega) (by omega)) cb_X10_numeral ml_X10_165 im_X10_numeral se_X10_numeral h9280 rfl rfl (rest := []) rfl (Nat.le_of_ble_eq_true rfl) ⟨Nat.le_of_ble_eq_true rfl, Nat.le_of_ble_eq_true rfl⟩ ⟨Nat.le_of_ble_eq_true rfl, Nat.le_of_ble_eq_true rfl⟩ (fun r σ9285 hp => ?_)
        obtain ⟨P9289, oP9289, rP9289, h9286, c9288⟩ := hp
        have h9287 := HS.trans h9280 h9286 (by decide)
        have xP9289 := oP9289
        unfold OKP at xP9289
        unfold RA at rP9289
        rcases c9288 with ⟨n9290, gn9290, hn9290, rfl⟩ | ⟨h9291, rfl⟩
        · refine m_istore F (lv' := [(4, .int (nI n9290)), (3, .int (nI n9283)), (2, .int 0), (1, .int (nI (8 + P.n7))), (0, .ref c)]) e_X10_readChange_72 (by decide) rfl ?_
          refine m_aload_n F rfl e_X10_readChange_74 ?_
          refine r_get F e_X10_readChange_75 fl_X10_141 h9287 rfl (fun v hv f9292 => ?_)
          obtain ⟨x9293, hx9293, rfl⟩ := hv
          replace hx9293 : 0 = 0 → x9293 ≠ 0 := hx9293
          refine m_if_eq F e_X10_readChange_78 (fun q78 => ?_) (fun q78 => ?_)
          · first | exact absurd q78 (hx9293 rfl) | contradiction
          · have h9294 := HS.z0 h9287 (f9292) q78
            have h9295 : HS V c _ [0, 2, 4, 5, 6, 7, 8, 9, 10, 11, 14, 15, 16, 17, 18, 19, 20, 21, 22, 23] _ _ := ⟨HR.mono (Z' := Z) (by intro e; first | rfl | assumption | omega) h9294.1, h9294.2⟩
            exact m_vret F hQ e_X10_readChange_81 (⟨P9289, oP9289, (by unfold RP; omega), h9295, rfl⟩)
        · have h9296 : HS V c (⟨T, 0, u, h, P9289, L⟩ : RG) [0, 2, 4, 5, 6, 7, 8, 9, 10, 11, 14, 15, 16, 17, 18, 19, 20, 21, 22, 23] _ _ := ⟨h9291, h9287.2⟩
          refine m_istore F (lv' := [(4, .int (nI 500)), (3, .int (nI n9283)), (2, .int 0), (1, .int (nI (8 + P.n7))), (0, .ref c)]) e_X10_readChange_72 (by decide) rfl ?_
          refine m_aload_n F rfl e_X10_readChange_74 ?_
          refine r_get F e_X10_readChange_75 fl_X10_141 h9296 rfl (fun v hv f9297 => ?_)
          obtain ⟨x9298, hx9298, rfl⟩ := hv
          replace hx9298 : 0 = 0 → x9298 ≠ 0 := hx9298
          refine m_if_eq F e_X10_readChange_78 (fun q78 => ?_) (fun q78 => ?_)
          · first | exact absurd q78 (hx9298 rfl) | contradiction
          · have h9299 := HS.z0 h9296 (f9297) q78
            have h9300 : HS V c _ [0, 2, 4, 5, 6, 7, 8, 9, 10, 11, 14, 15, 16, 17, 18, 19, 20, 21, 22, 23] _ _ := ⟨HR.mono (Z' := Z) (by intro e; first | rfl | assumption | omega) h9299.1, h9299.2⟩
            exact m_vret F hQ e_X10_readChange_81 (⟨P9289, oP9289, (by unfold RP; omega), h9300, rfl⟩)
      · have h9301 : HS V c (⟨T, 0, u, h, P9282, L⟩ : RG) [0, 2, 4, 5, 6, 7, 8, 9, 10, 11, 14, 15, 16, 17, 18, 19, 20, 21, 22, 23] _ _ := ⟨h9284, h9280.2⟩
        refine m_istore_n F (lv' := [(3, .int (nI 0)), (2, .int 0), (1, .int (nI (8 + P.n7))), (0, .ref c)]) e_X10_readChange_61 (by decide) rfl ?_
        refine m_aload_n F rfl e_X10_readChange_62 ?_
        refine m_sipush F (v := 500) (by decide) e_X10_readChange_63 ?_
        refine m_sipush F (v := 2000) (by decide) e_X10_readChange_66 ?_
        refine r_callV F e_X10_readChange_69 (q_X10_numeral (x_l X) V c T 0 u h P9282 L _ _ 500 2000 h9301.1 (hob) oP9282 (by omega) (by omega)) cb_X10_numeral ml_X10_165 im_X10_numeral se_X10_numeral h9301 rfl rfl (rest := []) rfl (Nat.le_of_ble_eq_true rfl) ⟨Nat.le_of_ble_eq_true rfl, Nat.le_of_ble_eq_true rfl⟩ ⟨Nat.le_of_ble_eq_true rfl, Nat.le_of_ble_eq_true rfl⟩ (fun r σ9302 hp => ?_)
        obtain ⟨P9306, oP9306, rP9306, h9303, c9305⟩ := hp
        have h9304 := HS.trans h9301 h9303 (by decide)
        have xP9306 := oP9306
        unfold OKP at xP9306
        unfold RA at rP9306
        rcases c9305 with ⟨n9307, gn9307, hn9307, rfl⟩ | ⟨h9308, rfl⟩
        · refine m_istore F (lv' := [(4, .int (nI n9307)), (3, .int (nI 0)), (2, .int 0), (1, .int (nI (8 + P.n7))), (0, .ref c)]) e_X10_readChange_72 (by decide) rfl ?_
          refine m_aload_n F rfl e_X10_readChange_74 ?_
          refine r_get F e_X10_readChange_75 fl_X10_141 h9304 rfl (fun v hv f9309 => ?_)
          obtain ⟨x9310, hx9310, rfl⟩ := hv
          replace hx9310 : 0 = 0 → x9310 ≠ 0 := hx9310
          refine m_if_eq F e_X10_readChange_78 (fun q78 => ?_) (fun q78 => ?_)
          · first | exact absurd q78 (hx9310 rfl) | contradiction
          · have h9311 := HS.z0 h9304 (f9309) q78
            have h9312 : HS V c _ [0, 2, 4, 5, 6, 7, 8, 9, 10, 11, 14, 15, 16, 17, 18, 19, 20, 21, 22, 23] _ _ := ⟨HR.mono (Z' := Z) (by intro e; first | rfl | assumption | omega) h9311.1, h9311.2⟩
            exact m_vret F hQ e_X10_readChange_81 (⟨P9306, oP9306, (by unfold RP; omega), h9312, rfl⟩)
        · have h9313 : HS V c (⟨T, 0, u, h, P9306, L⟩ : RG) [0, 2, 4, 5, 6, 7, 8, 9, 10, 11, 14, 15, 16, 17, 18, 19, 20, 21, 22, 23] _ _ := ⟨h9308, h9304.2⟩
          refine m_istore F (lv' := [(4, .int (nI 500)), (3, .int (nI 0)), (2, .int 0), (1, .int (nI (8 + P.n7))), (0, .ref c)]) e_X10_readChange_72 (by decide) rfl ?_
          refine m_aload_n F rfl e_X10_readChange_74 ?_
          refine r_get F e_X10_readChange_75 fl_X10_141 h9313 rfl (fun v hv f9314 => ?_)
          obtain ⟨x9315, hx9315, rfl⟩ := hv
          replace hx9315 : 0 = 0 → x9315 ≠ 0 := hx9315
          refine m_if_eq F e_X10_readChange_78 (fun q78 => ?_) (fun q78 => ?_)
          · first | exact absurd q78 (hx9315 rfl) | contradiction
          · have h9316 := HS.z0 h9313 (f9314) q78
            have h9317 : HS V c _ [0, 2, 4, 5, 6, 7, 8, 9, 10, 11, 14, 15, 16, 17, 18, 19, 20, 21, 22, 23] _ _ := ⟨HR.mono (Z' := Z) (by intro e; first | rfl | assumption | omega) h9316.1, h9316.2⟩
            exact m_vret F hQ e_X10_readChange_81 (⟨P9306, oP9306, (by unfold RP; omega), h9317, rfl⟩)
    · have c29 : P9273.n7 ≠ 0 := by have hh := mt (nI_eq (a := P9273.n7) (b := 0) (by omega) (by omega)).mpr q29; omega
      refine m_aload_n F rfl e_X10_readChange_32 ?_
      refine r_get F e_X10_readChange_33 fl_X10_141 h9277 rfl (fun v hv f9318 => ?_)
      obtain ⟨x9319, hx9319, rfl⟩ := hv
      replace hx9319 : 0 = 0 → x9319 ≠ 0 := hx9319
      refine m_if_eq F e_X10_readChange_36 (fun q36 => ?_) (fun q36 => ?_)
      · first | exact absurd q36 (hx9319 rfl) | contradiction
      · have h9320 := HS.z0 h9277 (f9318) q36
        refine m_iconst F (v := 0) (by decide) e_X10_readChange_39 ?_
        refine m_goto F e_X10_readChange_40 ?_
        refine m_istore_n F (lv' := [(2, .int 0), (1, .int (nI (8 + P.n7))), (0, .ref c)]) e_X10_readChange_53 (by decide) rfl ?_
        refine m_aload_n F rfl e_X10_readChange_54 ?_
        refine m_iload_n F rfl e_X10_readChange_55 ?_
        refine m_bipush F (v := 99) (by decide) e_X10_readChange_56 ?_
        refine r_callV F e_X10_readChange_58 (q_X10_numeral (x_l X) V c T 0 u h P9273 L _ _ 0 99 h9320.1 (hob) oP9273 (by omega) (by omega)) cb_X10_numeral ml_X10_165 im_X10_numeral se_X10_numeral h9320 rfl rfl (rest := []) rfl (Nat.le_of_ble_eq_true rfl) ⟨Nat.le_of_ble_eq_true rfl, Nat.le_of_ble_eq_true rfl⟩ ⟨Nat.le_of_ble_eq_true rfl, Nat.le_of_ble_eq_true rfl⟩ (fun r σ9321 hp => ?_)
        obtain ⟨P9325, oP9325, rP9325, h9322, c9324⟩ := hp
        have h9323 := HS.trans h9320 h9322 (by decide)
        have xP9325 := oP9325
        unfold OKP at xP9325
        unfold RA at rP9325
        rcases c9324 with ⟨n9326, gn9326, hn9326, rfl⟩ | ⟨h9327, rfl⟩
        · refine m_istore_n F (lv' := [(3, .int (nI n9326)), (2, .int 0), (1, .int (nI (8 + P.n7))), (0, .ref c)]) e_X10_readChange_61 (by decide) rfl ?_
          refine m_aload_n F rfl e_X10_readChange_62 ?_
          refine m_sipush F (v := 500) (by decide) e_X10_readChange_63 ?_
          refine m_sipush F (v := 2000) (by decide) e_X10_readChange_66 ?_
          refine r_callV F e_X10_readChange_69 (q_X10_numeral (x_l X) V c T 0 u h P9325 L _ _ 500 2000 h9323.1 (hob) oP9325 (by omega) (by omega)) cb_X10_numeral ml_X10_165 im_X10_numeral se_X10_numeral h9323 rfl rfl (rest := []) rfl (Nat.le_of_ble_eq_true rfl) ⟨Nat.le_of_ble_eq_true rfl, Nat.le_of_ble_eq_true rfl⟩ ⟨Nat.le_of_ble_eq_true rfl, Nat.le_of_ble_eq_true rfl⟩ (fun r σ9328 hp => ?_)
          obtain ⟨P9332, oP9332, rP9332, h9329, c9331⟩ := hp
          have h9330 := HS.trans h9323 h9329 (by decide)
          have xP9332 := oP9332
          unfold OKP at xP9332
          unfold RA at rP9332
          rcases c9331 with ⟨n9333, gn9333, hn9333, rfl⟩ | ⟨h9334, rfl⟩
          · refine m_istore F (lv' := [(4, .int (nI n9333)), (3, .int (nI n9326)), (2, .int 0), (1, .int (nI (8 + P.n7))), (0, .ref c)]) e_X10_readChange_72 (by decide) rfl ?_
            refine m_aload_n F rfl e_X10_readChange_74 ?_
            refine r_get F e_X10_readChange_75 fl_X10_141 h9330 rfl (fun v hv f9335 => ?_)
            obtain ⟨x9336, hx9336, rfl⟩ := hv
            replace hx9336 : 0 = 0 → x9336 ≠ 0 := hx9336
            refine m_if_eq F e_X10_readChange_78 (fun q78 => ?_) (fun q78 => ?_)
            · first | exact absurd q78 (hx9336 rfl) | contradiction
            · have h9337 := HS.z0 h9330 (f9335) q78
              have h9338 : HS V c _ [0, 2, 4, 5, 6, 7, 8, 9, 10, 11, 14, 15, 16, 17, 18, 19, 20, 21, 22, 23] _ _ := ⟨HR.mono (Z' := Z) (by intro e; first | rfl | assumption | omega) h9337.1, h9337.2⟩
              exact m_vret F hQ e_X10_readChange_81 (⟨P9332, oP9332, (by unfold RP; omega), h9338, rfl⟩)
          · have h9339 : HS V c (⟨T, 0, u, h, P9332, L⟩ : RG) [0, 2, 4, 5, 6, 7, 8, 9, 10, 11, 14, 15, 16, 17, 18, 19, 20, 21, 22, 23] _ _ := ⟨h9334, h9330.2⟩
            refine m_istore F (lv' := [(4, .int (nI 500)), (3, .int (nI n9326)), (2, .int 0), (1, .int (nI (8 + P.n7))), (0, .ref c)]) e_X10_readChange_72 (by decide) rfl ?_
            refine m_aload_n F rfl e_X10_readChange_74 ?_
            refine r_get F e_X10_readChange_75 fl_X10_141 h9339 rfl (fun v hv f9340 => ?_)
            obtain ⟨x9341, hx9341, rfl⟩ := hv
            replace hx9341 : 0 = 0 → x9341 ≠ 0 := hx9341
            refine m_if_eq F e_X10_readChange_78 (fun q78 => ?_) (fun q78 => ?_)
            · first | exact absurd q78 (hx9341 rfl) | contradiction
            · have h9342 := HS.z0 h9339 (f9340) q78
              have h9343 : HS V c _ [0, 2, 4, 5, 6, 7, 8, 9, 10, 11, 14, 15, 16, 17, 18, 19, 20, 21, 22, 23] _ _ := ⟨HR.mono (Z' := Z) (by intro e; first | rfl | assumption | omega) h9342.1, h9342.2⟩
              exact m_vret F hQ e_X10_readChange_81 (⟨P9332, oP9332, (by unfold RP; omega), h9343, rfl⟩)
        · have h9344 : HS V c (⟨T, 0, u, h, P9325, L⟩ : RG) [0, 2, 4, 5, 6, 7, 8, 9, 10, 11, 14, 15, 16, 17, 18, 19, 20, 21, 22, 23] _ _ := ⟨h9327, h9323.2⟩
          refine m_istore_n F (lv' := [(3, .int (nI 0)), (2, .int 0), (1, .int (nI (8 + P.n7))), (0, .ref c)]) e_X10_readChange_61 (by decide) rfl ?_
          refine m_aload_n F rfl e_X10_readChange_62 ?_
          refine m_sipush F (v := 500) (by decide) e_X10_readChange_63 ?_
          refine m_sipush F (v := 2000) (by decide) e_X10_readChange_66 ?_
          refine r_callV F e_X10_readChange_69 (q_X10_numeral (x_l X) V c T 0 u h P9325 L _ _ 500 2000 h9344.1 (hob) oP9325 (by omega) (by omega)) cb_X10_numeral ml_X10_165 im_X10_numeral se_X10_numeral h9344 rfl rfl (rest := []) rfl (Nat.le_of_ble_eq_true rfl) ⟨Nat.le_of_ble_eq_true rfl, Nat.le_of_ble_eq_true rfl⟩ ⟨Nat.le_of_ble_eq_true rfl, Nat.le_of_ble_eq_true rfl⟩ (fun r σ9345 hp => ?_)
          obtain ⟨P9349, oP9349, rP9349, h9346, c9348⟩ := hp
          have h9347 := HS.trans h9344 h9346 (by decide)
          have xP9349 := oP9349
          unfold OKP at xP9349
          unfold RA at rP9349
          rcases c9348 with ⟨n9350, gn9350, hn9350, rfl⟩ | ⟨h9351, rfl⟩
          · refine m_istore F (lv' := [(4, .int (nI n9350)), (3, .int (nI 0)), (2, .int 0), (1, .int (nI (8 + P.n7))), (0, .ref c)]) e_X10_readChange_72 (by decide) rfl ?_
            refine m_aload_n F rfl e_X10_readChange_74 ?_
            refine r_get F e_X10_readChange_75 fl_X10_141 h9347 rfl (fun v hv f9352 => ?_)
            obtain ⟨x9353, hx9353, rfl⟩ := hv
            replace hx9353 : 0 = 0 → x9353 ≠ 0 := hx9353
            refine m_if_eq F e_X10_readChange_78 (fun q78 => ?_) (fun q78 => ?_)
            · first | exact absurd q78 (hx9353 rfl) | contradiction
            · have h9354 := HS.z0 h9347 (f9352) q78
              have h9355 : HS V c _ [0, 2, 4, 5, 6, 7, 8, 9, 10, 11, 14, 15, 16, 17, 18, 19, 20, 21, 22, 23] _ _ := ⟨HR.mono (Z' := Z) (by intro e; first | rfl | assumption | omega) h9354.1, h9354.2⟩
              exact m_vret F hQ e_X10_readChange_81 (⟨P9349, oP9349, (by unfold RP; omega), h9355, rfl⟩)
          · have h9356 : HS V c (⟨T, 0, u, h, P9349, L⟩ : RG) [0, 2, 4, 5, 6, 7, 8, 9, 10, 11, 14, 15, 16, 17, 18, 19, 20, 21, 22, 23] _ _ := ⟨h9351, h9347.2⟩
            refine m_istore F (lv' := [(4, .int (nI 500)), (3, .int (nI 0)), (2, .int 0), (1, .int (nI (8 + P.n7))), (0, .ref c)]) e_X10_readChange_72 (by decide) rfl ?_
            refine m_aload_n F rfl e_X10_readChange_74 ?_
            refine r_get F e_X10_readChange_75 fl_X10_141 h9356 rfl (fun v hv f9357 => ?_)
            obtain ⟨x9358, hx9358, rfl⟩ := hv
            replace hx9358 : 0 = 0 → x9358 ≠ 0 := hx9358
            refine m_if_eq F e_X10_readChange_78 (fun q78 => ?_) (fun q78 => ?_)
            · first | exact absurd q78 (hx9358 rfl) | contradiction
            · have h9359 := HS.z0 h9356 (f9357) q78
              have h9360 : HS V c _ [0, 2, 4, 5, 6, 7, 8, 9, 10, 11, 14, 15, 16, 17, 18, 19, 20, 21, 22, 23] _ _ := ⟨HR.mono (Z' := Z) (by intro e; first | rfl | assumption | omega) h9359.1, h9359.2⟩
              exact m_vret F hQ e_X10_readChange_81 (⟨P9349, oP9349, (by unfold RP; omega), h9360, rfl⟩)
set_option maxRecDepth 20000 in
theorem q_X10_readOption (l : Launch) (V : VX) (c T Z u h : Nat) (P : NP) (L : Nat → LQ) (N : Nat) (σ : Mem)  (h0 : HR V c ⟨T, Z, u, h, P, L⟩ σ) (hob : OKB L) (hP : OKP P)  : Ct l V yX10_readOption cX10_readOption 5 none 8 0 0 N σ [.ref c] (fun r τ => ∃ P9 : NP, OKP P9 ∧ RP P P9 ∧ HS V c (⟨T, Z, u, h, P9, L⟩ : RG) [0, 2, 4, 5, 6, 7, 8, 9, 10, 11, 12, 13, 17, 18, 19, 20, 21, 22, 23] σ τ ∧ r = none) := by
  refine Ct.of (by decide) (Nat.le_of_ble_eq_true rfl) [(0, .ref c)] rfl (fun X hX F hQ => ?_)
  have hPP := hP
  unfold OKP at hPP
  have h1 : HS V c ⟨T, Z, u, h, P, L⟩ [0, 2, 4, 5, 6, 7, 8, 9, 10, 11, 12, 13, 17, 18, 19, 20, 21, 22, 23] σ σ := HS.start h0
  refine m_iconst F (v := 4) (by decide) e_X10_readOption_0 ?_
  refine m_aload_n F rfl e_X10_readOption_1 ?_
  refine m_iconst F (v := 3) (by decide) e_X10_readOption_2 ?_
  refine r_callV F e_X10_readOption_3 (q_X10_reading3 (x_l X) V c T Z u h P L _ _  h1.1 (hob) hP ) cb_X10_reading ml_X10_157 im_X10_reading se_X10_reading h1 rfl rfl (rest := [.int 4]) rfl (Nat.le_of_ble_eq_true rfl) ⟨Nat.le_of_ble_eq_true rfl, Nat.le_of_ble_eq_true rfl⟩ ⟨Nat.le_of_ble_eq_true rfl, Nat.le_of_ble_eq_true rfl⟩ (fun r σ9361 hp => ?_)
  obtain ⟨h9362, n9364, hn9364, f9365, rfl⟩ := hp
  have h9363 := HS.trans h1 h9362 (by decide)
  refine m_iadd F e_X10_readOption_6 ?_
  refine Wm.topE (w := nI (4 + n9364)) (nI_add 4 n9364) ?_
  refine m_istore_n F (lv' := [(1, .int (nI (4 + n9364))), (0, .ref c)]) e_X10_readOption_7 (by decide) rfl ?_
  refine m_iload_n F rfl e_X10_readOption_8 ?_
  refine m_bipush F (v := 8) (by decide) e_X10_readOption_9 ?_
  refine m_icmp_ne F e_X10_readOption_11 (fun q11 => ?_) (fun q11 => ?_)
  · have c11 : (4 + n9364) ≠ 8 := by have hh := mt (nI_eq (a := (4 + n9364)) (b := 8) (by omega) (by omega)).mpr q11; omega
    refine m_aload_n F rfl e_X10_readOption_19 ?_
    refine r_callV F e_X10_readOption_20 (q_X10_atHand (x_l X) V c T Z u h P L _ _  h9363.1 (hob) hP ) cb_X10_atHand ml_X10_174 im_X10_atHand se_X10_atHand h9363 rfl rfl (rest := []) rfl (Nat.le_of_ble_eq_true rfl) ⟨Nat.le_of_ble_eq_true rfl, Nat.le_of_ble_eq_true rfl⟩ ⟨Nat.le_of_ble_eq_true rfl, Nat.le_of_ble_eq_true rfl⟩ (fun r σ9366 hp => ?_)
    obtain ⟨P9370, oP9370, rP9370, h9367, n9369, gn9369, hn9369, rfl⟩ := hp
    have h9368 := HS.trans h9363 h9367 (by decide)
    have xP9370 := oP9370
    unfold OKP at xP9370
    unfold RA at rP9370
    refine m_istore_n F (lv' := [(2, .int (nI n9369)), (1, .int (nI (4 + n9364))), (0, .ref c)]) e_X10_readOption_23 (by decide) rfl ?_
    refine m_aload_n F rfl e_X10_readOption_24 ?_
    refine r_callV F e_X10_readOption_25 (q_X10_goOn (x_l X) V c T Z u h P9370 L _ _  h9368.1 (hob) oP9370 ) cb_X10_goOn ml_X10_154 im_X10_goOn se_X10_goOn h9368 rfl rfl (rest := []) rfl (Nat.le_of_ble_eq_true rfl) ⟨Nat.le_of_ble_eq_true rfl, Nat.le_of_ble_eq_true rfl⟩ ⟨Nat.le_of_ble_eq_true rfl, Nat.le_of_ble_eq_true rfl⟩ (fun r σ9371 hp => ?_)
    obtain ⟨P9374, oP9374, rP9374, pr9375, h9372, rfl⟩ := hp
    have h9373 := HS.trans h9368 h9372 (by decide)
    have xP9374 := oP9374
    unfold OKP at xP9374
    unfold RA at rP9374
    refine m_aload_n F rfl e_X10_readOption_28 ?_
    refine m_iconst F (v := 1) (by decide) e_X10_readOption_29 ?_
    refine m_bipush F (v := 24) (by decide) e_X10_readOption_30 ?_
    refine r_callV F e_X10_readOption_32 (q_X10_numeral (x_l X) V c T Z u h P9374 L _ _ 1 24 h9373.1 (hob) oP9374 (by omega) (by omega)) cb_X10_numeral ml_X10_165 im_X10_numeral se_X10_numeral h9373 rfl rfl (rest := []) rfl (Nat.le_of_ble_eq_true rfl) ⟨Nat.le_of_ble_eq_true rfl, Nat.le_of_ble_eq_true rfl⟩ ⟨Nat.le_of_ble_eq_true rfl, Nat.le_of_ble_eq_true rfl⟩ (fun r σ9376 hp => ?_)
    obtain ⟨P9380, oP9380, rP9380, h9377, c9379⟩ := hp
    have h9378 := HS.trans h9373 h9377 (by decide)
    have xP9380 := oP9380
    unfold OKP at xP9380
    unfold RA at rP9380
    rcases c9379 with ⟨n9381, gn9381, hn9381, rfl⟩ | ⟨h9382, rfl⟩
    · refine m_istore_n F (lv' := [(3, .int (nI n9381)), (2, .int (nI n9369)), (1, .int (nI (4 + n9364))), (0, .ref c)]) e_X10_readOption_35 (by decide) rfl ?_
      refine m_aload_n F rfl e_X10_readOption_36 ?_
      refine m_iconst F (v := 0) (by decide) e_X10_readOption_37 ?_
      refine m_ldc F kc_X10_177 e_X10_readOption_38 ?_
      refine r_callV F e_X10_readOption_40 (q_X10_numeral (x_l X) V c T Z u h P9380 L _ _ 0 99999 h9378.1 (hob) oP9380 (by omega) (by omega)) cb_X10_numeral ml_X10_165 im_X10_numeral se_X10_numeral h9378 rfl rfl (rest := []) rfl (Nat.le_of_ble_eq_true rfl) ⟨Nat.le_of_ble_eq_true rfl, Nat.le_of_ble_eq_true rfl⟩ ⟨Nat.le_of_ble_eq_true rfl, Nat.le_of_ble_eq_true rfl⟩ (fun r σ9383 hp => ?_)
      obtain ⟨P9387, oP9387, rP9387, h9384, c9386⟩ := hp
      have h9385 := HS.trans h9378 h9384 (by decide)
      have xP9387 := oP9387
      unfold OKP at xP9387
      unfold RA at rP9387
      rcases c9386 with ⟨n9388, gn9388, hn9388, rfl⟩ | ⟨h9389, rfl⟩
      · refine m_istore F (lv' := [(4, .int (nI n9388)), (3, .int (nI n9381)), (2, .int (nI n9369)), (1, .int (nI (4 + n9364))), (0, .ref c)]) e_X10_readOption_43 (by decide) rfl ?_
        refine m_aload_n F rfl e_X10_readOption_45 ?_
        refine r_get F e_X10_readOption_46 fl_X10_141 h9385 rfl (fun v hv f9390 => ?_)
        obtain ⟨x9391, hx9391, rfl⟩ := hv
        replace hx9391 : Z = 0 → x9391 ≠ 0 := hx9391
        refine m_if_eq F e_X10_readOption_49 (fun q49 => ?_) (fun q49 => ?_)
        · subst q49
          refine m_aload_n F rfl e_X10_readOption_53 ?_
          refine r_get F e_X10_readOption_54 fl_X10_46 h9385 rfl (fun v hv f9392 => ?_)
          obtain rfl : v = .ref (c + 13) := hv
          refine m_iload_n F rfl e_X10_readOption_57 ?_
          refine m_iload_n F rfl e_X10_readOption_58 ?_
          refine m_iconst F (v := 4) (by decide) e_X10_readOption_59 ?_
          refine m_isub F e_X10_readOption_60 ?_
          refine Wm.topE (w := nI (n9369 - 4)) (pk_sub (a := n9369) (b := 4) (by omega)) ?_
          refine r_iast F (g' := (⟨T, Z, u, h, P9387, L⟩ : RG)) (len := 8) (j := 4 + n9364) e_X10_readOption_61 h9385 (fun _ h => h) (fun f h => ⟨f, rfl, h⟩) (by decide) (by decide) (nI_clamp (by omega)) (vp_in_nI (by omega) (by decide)) ⟨n9369 - 4, by omega, rfl⟩ (fun _ _ _ h => h) (fun _ _ _ h => h) (fun σ9393 h9394 g9395 f9396 g9397 => ?_)
          refine m_aload_n F rfl e_X10_readOption_62 ?_
          refine r_get F e_X10_readOption_63 fl_X10_49 h9394 rfl (fun v hv f9398 => ?_)
          obtain rfl : v = .ref (c + 14) := hv
          refine m_iload_n F rfl e_X10_readOption_66 ?_
          refine m_iload_n F rfl e_X10_readOption_67 ?_
          refine r_iast F (g' := (⟨T, Z, u, h, P9387, L⟩ : RG)) (len := 8) (j := 4 + n9364) e_X10_readOption_68 h9394 (fun _ h => h) (fun f h => ⟨f, rfl, h⟩) (by decide) (by decide) (nI_clamp (by omega)) (vp_in_nI (by omega) (by decide)) ⟨n9381, by omega, rfl⟩ (fun _ _ _ h => h) (fun _ _ _ h => h) (fun σ9399 h9400 g9401 f9402 g9403 => ?_)
          refine m_aload_n F rfl e_X10_readOption_69 ?_
          refine r_get F e_X10_readOption_70 fl_X10_52 h9400 rfl (fun v hv f9404 => ?_)
          obtain rfl : v = .ref (c + 15) := hv
          refine m_iload_n F rfl e_X10_readOption_73 ?_
          refine m_iload F rfl e_X10_readOption_74 ?_
          refine r_iast F (g' := (⟨T, Z, u, h, P9387, L⟩ : RG)) (len := 8) (j := 4 + n9364) e_X10_readOption_76 h9400 (fun _ h => h) (fun f h => ⟨f, rfl, h⟩) (by decide) (by decide) (nI_clamp (by omega)) (vp_in_nI (by omega) (by decide)) trivial (fun _ _ _ h => h) (fun _ _ _ h => h) (fun σ9405 h9406 g9407 f9408 g9409 => ?_)
          refine m_aload_n F rfl e_X10_readOption_77 ?_
          refine m_iconst F (v := 3) (by decide) e_X10_readOption_78 ?_
          refine m_aload_n F rfl e_X10_readOption_79 ?_
          refine m_iconst F (v := 3) (by decide) e_X10_readOption_80 ?_
          refine r_callV F e_X10_readOption_81 (q_X10_reading3 (x_l X) V c T Z u h P9387 L _ _  h9406.1 (hob) oP9387 ) cb_X10_reading ml_X10_157 im_X10_reading se_X10_reading h9406 rfl rfl (rest := [.int 3, .ref c]) rfl (Nat.le_of_ble_eq_true rfl) ⟨Nat.le_of_ble_eq_true rfl, Nat.le_of_ble_eq_true rfl⟩ ⟨Nat.le_of_ble_eq_true rfl, Nat.le_of_ble_eq_true rfl⟩ (fun r σ9410 hp => ?_)
          obtain ⟨h9411, n9413, hn9413, f9414, rfl⟩ := hp
          have h9412 := HS.trans h9406 h9411 (by decide)
          have gn9413 := nI_inj (by omega) (by omega) (Option.some.inj ((f9414).symm.trans ((elI_eq (h9411.2 (c + 2) (by rw [kC_at (k := 2) (by decide)]; decide))).trans ((elI_eq (g9407 _ (by omega))).trans ((elI_eq (g9401 _ (by omega))).trans ((elI_eq (g9395 _ (by omega))).trans ((elI_eq (h9384.2 (c + 2) (by rw [kC_at (k := 2) (by decide)]; decide))).trans ((elI_eq (h9377.2 (c + 2) (by rw [kC_at (k := 2) (by decide)]; decide))).trans ((elI_eq (h9372.2 (c + 2) (by rw [kC_at (k := 2) (by decide)]; decide))).trans ((elI_eq (h9367.2 (c + 2) (by rw [kC_at (k := 2) (by decide)]; decide))).trans f9365))))))))))
          refine m_iconst F (v := 1) (by decide) e_X10_readOption_84 ?_
          refine m_iadd F e_X10_readOption_85 ?_
          refine Wm.topE (w := nI (n9413 + 1)) (nI_add n9413 1) ?_
          refine r_callV F e_X10_readOption_86 (q_X10_reads3 (x_l X) V c T Z u h P9387 L _ _ (n9413 + 1) h9412.1 (hob) oP9387 (by omega)) cb_X10_reads ml_X10_170 im_X10_reads se_X10_reads h9412 rfl rfl (rest := []) rfl (Nat.le_of_ble_eq_true rfl) ⟨Nat.le_of_ble_eq_true rfl, Nat.le_of_ble_eq_true rfl⟩ ⟨Nat.le_of_ble_eq_true rfl, Nat.le_of_ble_eq_true rfl⟩ (fun r σ9415 hp => ?_)
          obtain ⟨h9416, rfl⟩ := hp
          have h9417 := HS.trans h9412 h9416 (by decide)
          exact m_vret F hQ e_X10_readOption_89 (⟨P9387, oP9387, (by unfold RP; omega), h9417, rfl⟩)
        · have h9418 := HS.z0 h9385 (f9390) q49
          have h9419 : HS V c _ [0, 2, 4, 5, 6, 7, 8, 9, 10, 11, 12, 13, 17, 18, 19, 20, 21, 22, 23] _ _ := ⟨HR.mono (Z' := Z) (by intro e; first | rfl | assumption | omega) h9418.1, h9418.2⟩
          exact m_vret F hQ e_X10_readOption_52 (⟨P9387, oP9387, (by unfold RP; omega), h9419, rfl⟩)
      · have h9420 : HS V c (⟨T, 0, u, h, P9387, L⟩ : RG) [0, 2, 4, 5, 6, 7, 8, 9, 10, 11, 12, 13, 17, 18, 19, 20, 21, 22, 23] _ _ := ⟨h9389, h9385.2⟩
        refine m_istore F (lv' := [(4, .int (nI 0)), (3, .int (nI n9381)), (2, .int (nI n9369)), (1, .int (nI (4 + n9364))), (0, .ref c)]) e_X10_readOption_43 (by decide) rfl ?_
        refine m_aload_n F rfl e_X10_readOption_45 ?_
        refine r_get F e_X10_readOption_46 fl_X10_141 h9420 rfl (fun v hv f9421 => ?_)
        obtain ⟨x9422, hx9422, rfl⟩ := hv
        replace hx9422 : 0 = 0 → x9422 ≠ 0 := hx9422
        refine m_if_eq F e_X10_readOption_49 (fun q49 => ?_) (fun q49 => ?_)
        · first | exact absurd q49 (hx9422 rfl) | contradiction
        · have h9423 := HS.z0 h9420 (f9421) q49
          have h9424 : HS V c _ [0, 2, 4, 5, 6, 7, 8, 9, 10, 11, 12, 13, 17, 18, 19, 20, 21, 22, 23] _ _ := ⟨HR.mono (Z' := Z) (by intro e; first | rfl | assumption | omega) h9423.1, h9423.2⟩
          exact m_vret F hQ e_X10_readOption_52 (⟨P9387, oP9387, (by unfold RP; omega), h9424, rfl⟩)
    · have h9425 : HS V c (⟨T, 0, u, h, P9380, L⟩ : RG) [0, 2, 4, 5, 6, 7, 8, 9, 10, 11, 12, 13, 17, 18, 19, 20, 21, 22, 23] _ _ := ⟨h9382, h9378.2⟩
      refine m_istore_n F (lv' := [(3, .int (nI 1)), (2, .int (nI n9369)), (1, .int (nI (4 + n9364))), (0, .ref c)]) e_X10_readOption_35 (by decide) rfl ?_
      refine m_aload_n F rfl e_X10_readOption_36 ?_
      refine m_iconst F (v := 0) (by decide) e_X10_readOption_37 ?_
      refine m_ldc F kc_X10_177 e_X10_readOption_38 ?_
      refine r_callV F e_X10_readOption_40 (q_X10_numeral (x_l X) V c T 0 u h P9380 L _ _ 0 99999 h9425.1 (hob) oP9380 (by omega) (by omega)) cb_X10_numeral ml_X10_165 im_X10_numeral se_X10_numeral h9425 rfl rfl (rest := []) rfl (Nat.le_of_ble_eq_true rfl) ⟨Nat.le_of_ble_eq_true rfl, Nat.le_of_ble_eq_true rfl⟩ ⟨Nat.le_of_ble_eq_true rfl, Nat.le_of_ble_eq_true rfl⟩ (fun r σ9426 hp => ?_)
      obtain ⟨P9430, oP9430, rP9430, h9427, c9429⟩ := hp
      have h9428 := HS.trans h9425 h9427 (by decide)
      have xP9430 := oP9430
      unfold OKP at xP9430
      unfold RA at rP9430
      rcases c9429 with ⟨n9431, gn9431, hn9431, rfl⟩ | ⟨h9432, rfl⟩
      · refine m_istore F (lv' := [(4, .int (nI n9431)), (3, .int (nI 1)), (2, .int (nI n9369)), (1, .int (nI (4 + n9364))), (0, .ref c)]) e_X10_readOption_43 (by decide) rfl ?_
        refine m_aload_n F rfl e_X10_readOption_45 ?_
        refine r_get F e_X10_readOption_46 fl_X10_141 h9428 rfl (fun v hv f9433 => ?_)
        obtain ⟨x9434, hx9434, rfl⟩ := hv
        replace hx9434 : 0 = 0 → x9434 ≠ 0 := hx9434
        refine m_if_eq F e_X10_readOption_49 (fun q49 => ?_) (fun q49 => ?_)
        · first | exact absurd q49 (hx9434 rfl) | contradiction
        · have h9435 := HS.z0 h9428 (f9433) q49
          have h9436 : HS V c _ [0, 2, 4, 5, 6, 7, 8, 9, 10, 11, 12, 13, 17, 18, 19, 20, 21, 22, 23] _ _ := ⟨HR.mono (Z' := Z) (by intro e; first | rfl | assumption | omega) h9435.1, h9435.2⟩
          exact m_vret F hQ e_X10_readOption_52 (⟨P9430, oP9430, (by unfold RP; omega), h9436, rfl⟩)
      · have h9437 : HS V c (⟨T, 0, u, h, P9430, L⟩ : RG) [0, 2, 4, 5, 6, 7, 8, 9, 10, 11, 12, 13, 17, 18, 19, 20, 21, 22, 23] _ _ := ⟨h9432, h9428.2⟩
        refine m_istore F (lv' := [(4, .int (nI 0)), (3, .int (nI 1)), (2, .int (nI n9369)), (1, .int (nI (4 + n9364))), (0, .ref c)]) e_X10_readOption_43 (by decide) rfl ?_
        refine m_aload_n F rfl e_X10_readOption_45 ?_
        refine r_get F e_X10_readOption_46 fl_X10_141 h9437 rfl (fun v hv f9438 => ?_)
        obtain ⟨x9439, hx9439, rfl⟩ := hv
        replace hx9439 : 0 = 0 → x9439 ≠ 0 := hx9439
        refine m_if_eq F e_X10_readOption_49 (fun q49 => ?_) (fun q49 => ?_)
        · first | exact absurd q49 (hx9439 rfl) | contradiction
        · have h9440 := HS.z0 h9437 (f9438) q49
          have h9441 : HS V c _ [0, 2, 4, 5, 6, 7, 8, 9, 10, 11, 12, 13, 17, 18, 19, 20, 21, 22, 23] _ _ := ⟨HR.mono (Z' := Z) (by intro e; first | rfl | assumption | omega) h9440.1, h9440.2⟩
          exact m_vret F hQ e_X10_readOption_52 (⟨P9430, oP9430, (by unfold RP; omega), h9441, rfl⟩)
  · have c11 : (4 + n9364) = 8 := (nI_eq (a := (4 + n9364)) (b := 8) (by omega) (by omega)).mp q11
    refine m_aload_n F rfl e_X10_readOption_14 ?_
    refine m_iconst F (v := 2) (by decide) e_X10_readOption_15 ?_
    refine r_callV F e_X10_readOption_16 (q_X10_wrong (x_l X) V c T Z u h P L _ _ 2 h9363.1 (hob) hP (by first | omega | assumption | decide)) cb_X10_wrong ml_X10_150 im_X10_wrong se_X10_wrong h9363 rfl rfl (rest := []) rfl (Nat.le_of_ble_eq_true rfl) ⟨Nat.le_of_ble_eq_true rfl, Nat.le_of_ble_eq_true rfl⟩ ⟨Nat.le_of_ble_eq_true rfl, Nat.le_of_ble_eq_true rfl⟩ (fun r σ9442 hp => ?_)
    obtain ⟨h9443, rfl⟩ := hp
    have h9444 := HS.trans h9363 h9443 (by decide)
    refine m_aload_n F rfl e_X10_readOption_19 ?_
    refine r_callV F e_X10_readOption_20 (q_X10_atHand (x_l X) V c T 0 u h P L _ _  h9444.1 (hob) hP ) cb_X10_atHand ml_X10_174 im_X10_atHand se_X10_atHand h9444 rfl rfl (rest := []) rfl (Nat.le_of_ble_eq_true rfl) ⟨Nat.le_of_ble_eq_true rfl, Nat.le_of_ble_eq_true rfl⟩ ⟨Nat.le_of_ble_eq_true rfl, Nat.le_of_ble_eq_true rfl⟩ (fun r σ9445 hp => ?_)
    obtain ⟨P9449, oP9449, rP9449, h9446, n9448, gn9448, hn9448, rfl⟩ := hp
    have h9447 := HS.trans h9444 h9446 (by decide)
    have xP9449 := oP9449
    unfold OKP at xP9449
    unfold RA at rP9449
    refine m_istore_n F (lv' := [(2, .int (nI n9448)), (1, .int (nI (4 + n9364))), (0, .ref c)]) e_X10_readOption_23 (by decide) rfl ?_
    refine m_aload_n F rfl e_X10_readOption_24 ?_
    refine r_callV F e_X10_readOption_25 (q_X10_goOn (x_l X) V c T 0 u h P9449 L _ _  h9447.1 (hob) oP9449 ) cb_X10_goOn ml_X10_154 im_X10_goOn se_X10_goOn h9447 rfl rfl (rest := []) rfl (Nat.le_of_ble_eq_true rfl) ⟨Nat.le_of_ble_eq_true rfl, Nat.le_of_ble_eq_true rfl⟩ ⟨Nat.le_of_ble_eq_true rfl, Nat.le_of_ble_eq_true rfl⟩ (fun r σ9450 hp => ?_)
    obtain ⟨P9453, oP9453, rP9453, pr9454, h9451, rfl⟩ := hp
    have h9452 := HS.trans h9447 h9451 (by decide)
    have xP9453 := oP9453
    unfold OKP at xP9453
    unfold RA at rP9453
    refine m_aload_n F rfl e_X10_readOption_28 ?_
    refine m_iconst F (v := 1) (by decide) e_X10_readOption_29 ?_
    refine m_bipush F (v := 24) (by decide) e_X10_readOption_30 ?_
    refine r_callV F e_X10_readOption_32 (q_X10_numeral (x_l X) V c T 0 u h P9453 L _ _ 1 24 h9452.1 (hob) oP9453 (by omega) (by omega)) cb_X10_numeral ml_X10_165 im_X10_numeral se_X10_numeral h9452 rfl rfl (rest := []) rfl (Nat.le_of_ble_eq_true rfl) ⟨Nat.le_of_ble_eq_true rfl, Nat.le_of_ble_eq_true rfl⟩ ⟨Nat.le_of_ble_eq_true rfl, Nat.le_of_ble_eq_true rfl⟩ (fun r σ9455 hp => ?_)
    obtain ⟨P9459, oP9459, rP9459, h9456, c9458⟩ := hp
    have h9457 := HS.trans h9452 h9456 (by decide)
    have xP9459 := oP9459
    unfold OKP at xP9459
    unfold RA at rP9459
    rcases c9458 with ⟨n9460, gn9460, hn9460, rfl⟩ | ⟨h9461, rfl⟩
    · refine m_istore_n F (lv' := [(3, .int (nI n9460)), (2, .int (nI n9448)), (1, .int (nI (4 + n9364))), (0, .ref c)]) e_X10_readOption_35 (by decide) rfl ?_
      refine m_aload_n F rfl e_X10_readOption_36 ?_
      refine m_iconst F (v := 0) (by decide) e_X10_readOption_37 ?_
      refine m_ldc F kc_X10_177 e_X10_readOption_38 ?_
      refine r_callV F e_X10_readOption_40 (q_X10_numeral (x_l X) V c T 0 u h P9459 L _ _ 0 99999 h9457.1 (hob) oP9459 (by omega) (by omega)) cb_X10_numeral ml_X10_165 im_X10_numeral se_X10_numeral h9457 rfl rfl (rest := []) rfl (Nat.le_of_ble_eq_true rfl) ⟨Nat.le_of_ble_eq_true rfl, Nat.le_of_ble_eq_true rfl⟩ ⟨Nat.le_of_ble_eq_true rfl, Nat.le_of_ble_eq_true rfl⟩ (fun r σ9462 hp => ?_)
      obtain ⟨P9466, oP9466, rP9466, h9463, c9465⟩ := hp
      have h9464 := HS.trans h9457 h9463 (by decide)
      have xP9466 := oP9466
      unfold OKP at xP9466
      unfold RA at rP9466
      rcases c9465 with ⟨n9467, gn9467, hn9467, rfl⟩ | ⟨h9468, rfl⟩
      · refine m_istore F (lv' := [(4, .int (nI n9467)), (3, .int (nI n9460)), (2, .int (nI n9448)), (1, .int (nI (4 + n9364))), (0, .ref c)]) e_X10_readOption_43 (by decide) rfl ?_
        refine m_aload_n F rfl e_X10_readOption_45 ?_
        refine r_get F e_X10_readOption_46 fl_X10_141 h9464 rfl (fun v hv f9469 => ?_)
        obtain ⟨x9470, hx9470, rfl⟩ := hv
        replace hx9470 : 0 = 0 → x9470 ≠ 0 := hx9470
        refine m_if_eq F e_X10_readOption_49 (fun q49 => ?_) (fun q49 => ?_)
        · first | exact absurd q49 (hx9470 rfl) | contradiction
        · have h9471 := HS.z0 h9464 (f9469) q49
          have h9472 : HS V c _ [0, 2, 4, 5, 6, 7, 8, 9, 10, 11, 12, 13, 17, 18, 19, 20, 21, 22, 23] _ _ := ⟨HR.mono (Z' := Z) (by intro e; first | rfl | assumption | omega) h9471.1, h9471.2⟩
          exact m_vret F hQ e_X10_readOption_52 (⟨P9466, oP9466, (by unfold RP; omega), h9472, rfl⟩)
      · have h9473 : HS V c (⟨T, 0, u, h, P9466, L⟩ : RG) [0, 2, 4, 5, 6, 7, 8, 9, 10, 11, 12, 13, 17, 18, 19, 20, 21, 22, 23] _ _ := ⟨h9468, h9464.2⟩
        refine m_istore F (lv' := [(4, .int (nI 0)), (3, .int (nI n9460)), (2, .int (nI n9448)), (1, .int (nI (4 + n9364))), (0, .ref c)]) e_X10_readOption_43 (by decide) rfl ?_
        refine m_aload_n F rfl e_X10_readOption_45 ?_
        refine r_get F e_X10_readOption_46 fl_X10_141 h9473 rfl (fun v hv f9474 => ?_)
        obtain ⟨x9475, hx9475, rfl⟩ := hv
        replace hx9475 : 0 = 0 → x9475 ≠ 0 := hx9475
        refine m_if_eq F e_X10_readOption_49 (fun q49 => ?_) (fun q49 => ?_)
        · first | exact absurd q49 (hx9475 rfl) | contradiction
        · have h9476 := HS.z0 h9473 (f9474) q49
          have h9477 : HS V c _ [0, 2, 4, 5, 6, 7, 8, 9, 10, 11, 12, 13, 17, 18, 19, 20, 21, 22, 23] _ _ := ⟨HR.mono (Z' := Z) (by intro e; first | rfl | assumption | omega) h9476.1, h9476.2⟩
          exact m_vret F hQ e_X10_readOption_52 (⟨P9466, oP9466, (by unfold RP; omega), h9477, rfl⟩)
    · have h9478 : HS V c (⟨T, 0, u, h, P9459, L⟩ : RG) [0, 2, 4, 5, 6, 7, 8, 9, 10, 11, 12, 13, 17, 18, 19, 20, 21, 22, 23] _ _ := ⟨h9461, h9457.2⟩
      refine m_istore_n F (lv' := [(3, .int (nI 1)), (2, .int (nI n9448)), (1, .int (nI (4 + n9364))), (0, .ref c)]) e_X10_readOption_35 (by decide) rfl ?_
      refine m_aload_n F rfl e_X10_readOption_36 ?_
      refine m_iconst F (v := 0) (by decide) e_X10_readOption_37 ?_
      refine m_ldc F kc_X10_177 e_X10_readOption_38 ?_
      refine r_callV F e_X10_readOption_40 (q_X10_numeral (x_l X) V c T 0 u h P9459 L _ _ 0 99999 h9478.1 (hob) oP9459 (by omega) (by omega)) cb_X10_numeral ml_X10_165 im_X10_numeral se_X10_numeral h9478 rfl rfl (rest := []) rfl (Nat.le_of_ble_eq_true rfl) ⟨Nat.le_of_ble_eq_true rfl, Nat.le_of_ble_eq_true rfl⟩ ⟨Nat.le_of_ble_eq_true rfl, Nat.le_of_ble_eq_true rfl⟩ (fun r σ9479 hp => ?_)
      obtain ⟨P9483, oP9483, rP9483, h9480, c9482⟩ := hp
      have h9481 := HS.trans h9478 h9480 (by decide)
      have xP9483 := oP9483
      unfold OKP at xP9483
      unfold RA at rP9483
      rcases c9482 with ⟨n9484, gn9484, hn9484, rfl⟩ | ⟨h9485, rfl⟩
      · refine m_istore F (lv' := [(4, .int (nI n9484)), (3, .int (nI 1)), (2, .int (nI n9448)), (1, .int (nI (4 + n9364))), (0, .ref c)]) e_X10_readOption_43 (by decide) rfl ?_
        refine m_aload_n F rfl e_X10_readOption_45 ?_
        refine r_get F e_X10_readOption_46 fl_X10_141 h9481 rfl (fun v hv f9486 => ?_)
        obtain ⟨x9487, hx9487, rfl⟩ := hv
        replace hx9487 : 0 = 0 → x9487 ≠ 0 := hx9487
        refine m_if_eq F e_X10_readOption_49 (fun q49 => ?_) (fun q49 => ?_)
        · first | exact absurd q49 (hx9487 rfl) | contradiction
        · have h9488 := HS.z0 h9481 (f9486) q49
          have h9489 : HS V c _ [0, 2, 4, 5, 6, 7, 8, 9, 10, 11, 12, 13, 17, 18, 19, 20, 21, 22, 23] _ _ := ⟨HR.mono (Z' := Z) (by intro e; first | rfl | assumption | omega) h9488.1, h9488.2⟩
          exact m_vret F hQ e_X10_readOption_52 (⟨P9483, oP9483, (by unfold RP; omega), h9489, rfl⟩)
      · have h9490 : HS V c (⟨T, 0, u, h, P9483, L⟩ : RG) [0, 2, 4, 5, 6, 7, 8, 9, 10, 11, 12, 13, 17, 18, 19, 20, 21, 22, 23] _ _ := ⟨h9485, h9481.2⟩
        refine m_istore F (lv' := [(4, .int (nI 0)), (3, .int (nI 1)), (2, .int (nI n9448)), (1, .int (nI (4 + n9364))), (0, .ref c)]) e_X10_readOption_43 (by decide) rfl ?_
        refine m_aload_n F rfl e_X10_readOption_45 ?_
        refine r_get F e_X10_readOption_46 fl_X10_141 h9490 rfl (fun v hv f9491 => ?_)
        obtain ⟨x9492, hx9492, rfl⟩ := hv
        replace hx9492 : 0 = 0 → x9492 ≠ 0 := hx9492
        refine m_if_eq F e_X10_readOption_49 (fun q49 => ?_) (fun q49 => ?_)
        · first | exact absurd q49 (hx9492 rfl) | contradiction
        · have h9493 := HS.z0 h9490 (f9491) q49
          have h9494 : HS V c _ [0, 2, 4, 5, 6, 7, 8, 9, 10, 11, 12, 13, 17, 18, 19, 20, 21, 22, 23] _ _ := ⟨HR.mono (Z' := Z) (by intro e; first | rfl | assumption | omega) h9493.1, h9493.2⟩
          exact m_vret F hQ e_X10_readOption_52 (⟨P9483, oP9483, (by unfold RP; omega), h9494, rfl⟩)
set_option maxRecDepth 20000 in
theorem q_X10_readSeed (l : Launch) (V : VX) (c T Z u h : Nat) (P : NP) (L : Nat → LQ) (N : Nat) (σ : Mem)  (h0 : HR V c ⟨T, Z, u, h, P, L⟩ σ) (hob : OKB L) (hP : OKP P)  : Ct l V yX10_readSeed cX10_readSeed 1 none 8 0 0 N σ [.ref c] (fun r τ => ∃ P9 : NP, OKP P9 ∧ RP P P9 ∧ HS V c (⟨T, Z, u, h, P9, L⟩ : RG) [0, 2, 4, 5, 6, 7, 8, 9, 10, 11, 12, 13, 14, 15, 16, 17, 18, 19, 20, 21, 22, 23] σ τ ∧ r = none) := by
  refine Ct.of (by decide) (Nat.le_of_ble_eq_true rfl) [(0, .ref c)] rfl (fun X hX F hQ => ?_)
  have hPP := hP
  unfold OKP at hPP
  have h1 : HS V c ⟨T, Z, u, h, P, L⟩ [0, 2, 4, 5, 6, 7, 8, 9, 10, 11, 12, 13, 14, 15, 16, 17, 18, 19, 20, 21, 22, 23] σ σ := HS.start h0
  refine m_aload_n F rfl e_X10_readSeed_0 ?_
  refine m_iconst F (v := 4) (by decide) e_X10_readSeed_1 ?_
  refine r_callV F e_X10_readSeed_2 (q_X10_reading4 (x_l X) V c T Z u h P L _ _  h1.1 (hob) hP ) cb_X10_reading ml_X10_157 im_X10_reading se_X10_reading h1 rfl rfl (rest := []) rfl (Nat.le_of_ble_eq_true rfl) ⟨Nat.le_of_ble_eq_true rfl, Nat.le_of_ble_eq_true rfl⟩ ⟨Nat.le_of_ble_eq_true rfl, Nat.le_of_ble_eq_true rfl⟩ (fun r σ9495 hp => ?_)
  obtain ⟨h9496, x9498, rfl⟩ := hp
  have h9497 := HS.trans h1 h9496 (by decide)
  refine m_if_eq F e_X10_readSeed_5 (fun q5 => ?_) (fun q5 => ?_)
  · subst q5
    refine m_aload_n F rfl e_X10_readSeed_13 ?_
    refine r_callV F e_X10_readSeed_14 (q_X10_goOn (x_l X) V c T Z u h P L _ _  h9497.1 (hob) hP ) cb_X10_goOn ml_X10_154 im_X10_goOn se_X10_goOn h9497 rfl rfl (rest := []) rfl (Nat.le_of_ble_eq_true rfl) ⟨Nat.le_of_ble_eq_true rfl, Nat.le_of_ble_eq_true rfl⟩ ⟨Nat.le_of_ble_eq_true rfl, Nat.le_of_ble_eq_true rfl⟩ (fun r σ9499 hp => ?_)
    obtain ⟨P9502, oP9502, rP9502, pr9503, h9500, rfl⟩ := hp
    have h9501 := HS.trans h9497 h9500 (by decide)
    have xP9502 := oP9502
    unfold OKP at xP9502
    unfold RA at rP9502
    refine m_aload_n F rfl e_X10_readSeed_17 ?_
    refine m_iconst F (v := 4) (by decide) e_X10_readSeed_18 ?_
    refine m_aload_n F rfl e_X10_readSeed_19 ?_
    refine m_iconst F (v := 0) (by decide) e_X10_readSeed_20 ?_
    refine m_ldc F kc_X10_177 e_X10_readSeed_21 ?_
    refine r_callV F e_X10_readSeed_23 (q_X10_numeral (x_l X) V c T Z u h P9502 L _ _ 0 99999 h9501.1 (hob) oP9502 (by omega) (by omega)) cb_X10_numeral ml_X10_165 im_X10_numeral se_X10_numeral h9501 rfl rfl (rest := [.int 4, .ref c]) rfl (Nat.le_of_ble_eq_true rfl) ⟨Nat.le_of_ble_eq_true rfl, Nat.le_of_ble_eq_true rfl⟩ ⟨Nat.le_of_ble_eq_true rfl, Nat.le_of_ble_eq_true rfl⟩ (fun r σ9504 hp => ?_)
    obtain ⟨P9508, oP9508, rP9508, h9505, c9507⟩ := hp
    have h9506 := HS.trans h9501 h9505 (by decide)
    have xP9508 := oP9508
    unfold OKP at xP9508
    unfold RA at rP9508
    rcases c9507 with ⟨n9509, gn9509, hn9509, rfl⟩ | ⟨h9510, rfl⟩
    · refine m_iconst F (v := 1) (by decide) e_X10_readSeed_26 ?_
      refine m_iadd F e_X10_readSeed_27 ?_
      refine Wm.topE (w := nI (n9509 + 1)) (nI_add n9509 1) ?_
      refine r_callV F e_X10_readSeed_28 (q_X10_reads4 (x_l X) V c T Z u h P9508 L _ _ (nI (n9509 + 1)) h9506.1 (hob) oP9508 ) cb_X10_reads ml_X10_170 im_X10_reads se_X10_reads h9506 rfl rfl (rest := []) rfl (Nat.le_of_ble_eq_true rfl) ⟨Nat.le_of_ble_eq_true rfl, Nat.le_of_ble_eq_true rfl⟩ ⟨Nat.le_of_ble_eq_true rfl, Nat.le_of_ble_eq_true rfl⟩ (fun r σ9511 hp => ?_)
      obtain ⟨h9512, rfl⟩ := hp
      have h9513 := HS.trans h9506 h9512 (by decide)
      exact m_vret F hQ e_X10_readSeed_31 (⟨P9508, oP9508, (by unfold RP; omega), h9513, rfl⟩)
    · have h9514 : HS V c (⟨T, 0, u, h, P9508, L⟩ : RG) [0, 2, 4, 5, 6, 7, 8, 9, 10, 11, 12, 13, 14, 15, 16, 17, 18, 19, 20, 21, 22, 23] _ _ := ⟨h9510, h9506.2⟩
      refine m_iconst F (v := 1) (by decide) e_X10_readSeed_26 ?_
      refine m_iadd F e_X10_readSeed_27 ?_
      refine Wm.topE (w := nI (0 + 1)) (nI_add 0 1) ?_
      refine r_callV F e_X10_readSeed_28 (q_X10_reads4 (x_l X) V c T 0 u h P9508 L _ _ (nI (0 + 1)) h9514.1 (hob) oP9508 ) cb_X10_reads ml_X10_170 im_X10_reads se_X10_reads h9514 rfl rfl (rest := []) rfl (Nat.le_of_ble_eq_true rfl) ⟨Nat.le_of_ble_eq_true rfl, Nat.le_of_ble_eq_true rfl⟩ ⟨Nat.le_of_ble_eq_true rfl, Nat.le_of_ble_eq_true rfl⟩ (fun r σ9515 hp => ?_)
      obtain ⟨h9516, rfl⟩ := hp
      have h9517 := HS.trans h9514 h9516 (by decide)
      have h9518 : HS V c _ [0, 2, 4, 5, 6, 7, 8, 9, 10, 11, 12, 13, 14, 15, 16, 17, 18, 19, 20, 21, 22, 23] _ _ := ⟨HR.mono (Z' := Z) (by intro e; first | rfl | assumption | omega) h9517.1, h9517.2⟩
      exact m_vret F hQ e_X10_readSeed_31 (⟨P9508, oP9508, (by unfold RP; omega), h9518, rfl⟩)
  · refine m_aload_n F rfl e_X10_readSeed_8 ?_
    refine m_iconst F (v := 3) (by decide) e_X10_readSeed_9 ?_
    refine r_callV F e_X10_readSeed_10 (q_X10_wrong (x_l X) V c T Z u h P L _ _ 3 h9497.1 (hob) hP (by first | omega | assumption | decide)) cb_X10_wrong ml_X10_150 im_X10_wrong se_X10_wrong h9497 rfl rfl (rest := []) rfl (Nat.le_of_ble_eq_true rfl) ⟨Nat.le_of_ble_eq_true rfl, Nat.le_of_ble_eq_true rfl⟩ ⟨Nat.le_of_ble_eq_true rfl, Nat.le_of_ble_eq_true rfl⟩ (fun r σ9519 hp => ?_)
    obtain ⟨h9520, rfl⟩ := hp
    have h9521 := HS.trans h9497 h9520 (by decide)
    refine m_aload_n F rfl e_X10_readSeed_13 ?_
    refine r_callV F e_X10_readSeed_14 (q_X10_goOn (x_l X) V c T 0 u h P L _ _  h9521.1 (hob) hP ) cb_X10_goOn ml_X10_154 im_X10_goOn se_X10_goOn h9521 rfl rfl (rest := []) rfl (Nat.le_of_ble_eq_true rfl) ⟨Nat.le_of_ble_eq_true rfl, Nat.le_of_ble_eq_true rfl⟩ ⟨Nat.le_of_ble_eq_true rfl, Nat.le_of_ble_eq_true rfl⟩ (fun r σ9522 hp => ?_)
    obtain ⟨P9525, oP9525, rP9525, pr9526, h9523, rfl⟩ := hp
    have h9524 := HS.trans h9521 h9523 (by decide)
    have xP9525 := oP9525
    unfold OKP at xP9525
    unfold RA at rP9525
    refine m_aload_n F rfl e_X10_readSeed_17 ?_
    refine m_iconst F (v := 4) (by decide) e_X10_readSeed_18 ?_
    refine m_aload_n F rfl e_X10_readSeed_19 ?_
    refine m_iconst F (v := 0) (by decide) e_X10_readSeed_20 ?_
    refine m_ldc F kc_X10_177 e_X10_readSeed_21 ?_
    refine r_callV F e_X10_readSeed_23 (q_X10_numeral (x_l X) V c T 0 u h P9525 L _ _ 0 99999 h9524.1 (hob) oP9525 (by omega) (by omega)) cb_X10_numeral ml_X10_165 im_X10_numeral se_X10_numeral h9524 rfl rfl (rest := [.int 4, .ref c]) rfl (Nat.le_of_ble_eq_true rfl) ⟨Nat.le_of_ble_eq_true rfl, Nat.le_of_ble_eq_true rfl⟩ ⟨Nat.le_of_ble_eq_true rfl, Nat.le_of_ble_eq_true rfl⟩ (fun r σ9527 hp => ?_)
    obtain ⟨P9531, oP9531, rP9531, h9528, c9530⟩ := hp
    have h9529 := HS.trans h9524 h9528 (by decide)
    have xP9531 := oP9531
    unfold OKP at xP9531
    unfold RA at rP9531
    rcases c9530 with ⟨n9532, gn9532, hn9532, rfl⟩ | ⟨h9533, rfl⟩
    · refine m_iconst F (v := 1) (by decide) e_X10_readSeed_26 ?_
      refine m_iadd F e_X10_readSeed_27 ?_
      refine Wm.topE (w := nI (n9532 + 1)) (nI_add n9532 1) ?_
      refine r_callV F e_X10_readSeed_28 (q_X10_reads4 (x_l X) V c T 0 u h P9531 L _ _ (nI (n9532 + 1)) h9529.1 (hob) oP9531 ) cb_X10_reads ml_X10_170 im_X10_reads se_X10_reads h9529 rfl rfl (rest := []) rfl (Nat.le_of_ble_eq_true rfl) ⟨Nat.le_of_ble_eq_true rfl, Nat.le_of_ble_eq_true rfl⟩ ⟨Nat.le_of_ble_eq_true rfl, Nat.le_of_ble_eq_true rfl⟩ (fun r σ9534 hp => ?_)
      obtain ⟨h9535, rfl⟩ := hp
      have h9536 := HS.trans h9529 h9535 (by decide)
      have h9537 : HS V c _ [0, 2, 4, 5, 6, 7, 8, 9, 10, 11, 12, 13, 14, 15, 16, 17, 18, 19, 20, 21, 22, 23] _ _ := ⟨HR.mono (Z' := Z) (by intro e; first | rfl | assumption | omega) h9536.1, h9536.2⟩
      exact m_vret F hQ e_X10_readSeed_31 (⟨P9531, oP9531, (by unfold RP; omega), h9537, rfl⟩)
    · have h9538 : HS V c (⟨T, 0, u, h, P9531, L⟩ : RG) [0, 2, 4, 5, 6, 7, 8, 9, 10, 11, 12, 13, 14, 15, 16, 17, 18, 19, 20, 21, 22, 23] _ _ := ⟨h9533, h9529.2⟩
      refine m_iconst F (v := 1) (by decide) e_X10_readSeed_26 ?_
      refine m_iadd F e_X10_readSeed_27 ?_
      refine Wm.topE (w := nI (0 + 1)) (nI_add 0 1) ?_
      refine r_callV F e_X10_readSeed_28 (q_X10_reads4 (x_l X) V c T 0 u h P9531 L _ _ (nI (0 + 1)) h9538.1 (hob) oP9531 ) cb_X10_reads ml_X10_170 im_X10_reads se_X10_reads h9538 rfl rfl (rest := []) rfl (Nat.le_of_ble_eq_true rfl) ⟨Nat.le_of_ble_eq_true rfl, Nat.le_of_ble_eq_true rfl⟩ ⟨Nat.le_of_ble_eq_true rfl, Nat.le_of_ble_eq_true rfl⟩ (fun r σ9539 hp => ?_)
      obtain ⟨h9540, rfl⟩ := hp
      have h9541 := HS.trans h9538 h9540 (by decide)
      have h9542 : HS V c _ [0, 2, 4, 5, 6, 7, 8, 9, 10, 11, 12, 13, 14, 15, 16, 17, 18, 19, 20, 21, 22, 23] _ _ := ⟨HR.mono (Z' := Z) (by intro e; first | rfl | assumption | omega) h9541.1, h9541.2⟩
      exact m_vret F hQ e_X10_readSeed_31 (⟨P9531, oP9531, (by unfold RP; omega), h9542, rfl⟩)
set_option maxRecDepth 20000 in
theorem q_X10_readLine (l : Launch) (V : VX) (c T Z u h : Nat) (P : NP) (L : Nat → LQ) (N : Nat) (σ : Mem)  (h0 : HR V c ⟨T, Z, u, h, P, L⟩ σ) (hob : OKB L) (hP : OKP P)  : Ct l V yX10_readLine cX10_readLine 1 none 9 0 0 N σ [.ref c] (fun r τ => ∃ P9 : NP, OKP P9 ∧ RP P P9 ∧ PG c P.a P9.a τ ∧ HS V c (⟨T, Z, u, h, P9, L⟩ : RG) [0, 2, 17, 18, 19, 20, 21, 22, 23] σ τ ∧ r = none) := by
  refine Ct.of (by decide) (Nat.le_of_ble_eq_true rfl) [(0, .ref c)] rfl (fun X hX F hQ => ?_)
  have hPP := hP
  unfold OKP at hPP
  have h1 : HS V c ⟨T, Z, u, h, P, L⟩ [0, 2, 17, 18, 19, 20, 21, 22, 23] σ σ := HS.start h0
  refine m_aload_n F rfl e_X10_readLine_0 ?_
  refine r_get F e_X10_readLine_1 fl_X10_110 h1 rfl (fun v hv f9543 => ?_)
  obtain ⟨x9544, rfl⟩ := hv
  refine m_if_eq F e_X10_readLine_4 (fun q4 => ?_) (fun q4 => ?_)
  · subst q4
    refine m_aload_n F rfl e_X10_readLine_15 ?_
    refine r_get F e_X10_readLine_16 fl_X10_120 h1 rfl (fun v hv f9545 => ?_)
    obtain ⟨x9546, rfl⟩ := hv
    refine m_if_ne F e_X10_readLine_19 (fun q19 => ?_) (fun q19 => ?_)
    · refine m_aload_n F rfl e_X10_readLine_29 ?_
      refine r_getC F e_X10_readLine_30 fl_X10_120 h1 (f9545) ?_
      refine m_iconst F (v := 1) (by decide) e_X10_readLine_33 ?_
      refine m_icmp_ne F e_X10_readLine_34 (fun q34 => ?_) (fun q34 => ?_)
      · refine m_aload_n F rfl e_X10_readLine_44 ?_
        refine r_getC F e_X10_readLine_45 fl_X10_120 h1 (f9545) ?_
        refine m_iconst F (v := 2) (by decide) e_X10_readLine_48 ?_
        refine m_icmp_eq F e_X10_readLine_49 (fun q49 => ?_) (fun q49 => ?_)
        · subst q49
          refine m_aload_n F rfl e_X10_readLine_60 ?_
          refine m_aload_n F rfl e_X10_readLine_61 ?_
          refine r_getC F e_X10_readLine_62 fl_X10_120 h1 (f9545) ?_
          refine m_iconst F (v := 2) (by decide) e_X10_readLine_65 ?_
          refine m_icmp_ne F e_X10_readLine_66 (fun q => absurd (by decide) q) (fun _ => ?_)
          refine m_iconst F (v := 1) (by decide) e_X10_readLine_69 ?_
          refine m_goto F e_X10_readLine_70 ?_
          refine r_callV F e_X10_readLine_74 (q_X10_readMark (x_l X) V c T Z u h P L _ _ 1 h1.1 (hob) hP ) cb_X10_readMark ml_X10_184 im_X10_readMark se_X10_readMark h1 rfl rfl (rest := []) rfl (Nat.le_of_ble_eq_true rfl) ⟨Nat.le_of_ble_eq_true rfl, Nat.le_of_ble_eq_true rfl⟩ ⟨Nat.le_of_ble_eq_true rfl, Nat.le_of_ble_eq_true rfl⟩ (fun r σ9547 hp => ?_)
          obtain ⟨P9550, oP9550, rP9550, h9548, rfl⟩ := hp
          have h9549 := HS.trans h1 h9548 (by decide)
          have xP9550 := oP9550
          unfold OKP at xP9550
          unfold RP at rP9550
          refine m_goto F e_X10_readLine_77 ?_
          refine m_aload_n F rfl e_X10_readLine_146 ?_
          refine r_get F e_X10_readLine_147 fl_X10_141 h9549 rfl (fun v hv f9551 => ?_)
          obtain ⟨x9552, hx9552, rfl⟩ := hv
          replace hx9552 : Z = 0 → x9552 ≠ 0 := hx9552
          refine m_if_ne F e_X10_readLine_150 (fun q150 => ?_) (fun q150 => ?_)
          · have h9553 := HS.z0 h9549 (f9551) q150
            refine m_aload_n F rfl e_X10_readLine_166 ?_
            refine r_callV F e_X10_readLine_167 (q_X10_goOn (x_l X) V c T 0 u h P9550 L _ _  h9553.1 (hob) oP9550 ) cb_X10_goOn ml_X10_154 im_X10_goOn se_X10_goOn h9553 rfl rfl (rest := []) rfl (Nat.le_of_ble_eq_true rfl) ⟨Nat.le_of_ble_eq_true rfl, Nat.le_of_ble_eq_true rfl⟩ ⟨Nat.le_of_ble_eq_true rfl, Nat.le_of_ble_eq_true rfl⟩ (fun r σ9554 hp => ?_)
            obtain ⟨P9557, oP9557, rP9557, pr9558, h9555, rfl⟩ := hp
            have h9556 := HS.trans h9553 h9555 (by decide)
            have xP9557 := oP9557
            unfold OKP at xP9557
            unfold RA at rP9557
            refine m_aload_n F rfl e_X10_readLine_170 ?_
            refine m_dup F rfl e_X10_readLine_171 ?_
            refine r_get F e_X10_readLine_172 fl_X10_202 h9556 rfl (fun v hv f9559 => ?_)
            obtain ⟨x9560, rfl⟩ := hv
            refine m_iconst F (v := 1) (by decide) e_X10_readLine_175 ?_
            refine m_iadd F e_X10_readLine_176 ?_
            refine Wm.top (fun x9561 _ => ?_)
            refine r_put F (g' := (⟨T, 0, u, h, P9557, L⟩ : RG)) e_X10_readLine_177 fp_X10_202 h9556 (by decide) ⟨_, rfl⟩ (fun _ _ _ _ q => q) (fun _ _ _ q => q) rfl rfl (by decide) (fun σ9562 h9563 g9564 g9565 f9566 => ?_)
            have pg9567 := pr9558.of (g9565 23 (by decide)) (g9565 21 (by decide))
            have h9568 : HS V c _ [0, 2, 17, 18, 19, 20, 21, 22, 23] _ _ := ⟨HR.mono (Z' := Z) (by intro e; first | rfl | assumption | omega) h9563.1, h9563.2⟩
            exact m_vret F hQ e_X10_readLine_180 (⟨P9557, oP9557, (by unfold RP; omega), (pg9567.mono (by omega)), h9568, rfl⟩)
          · subst q150
            refine m_aload_n F rfl e_X10_readLine_153 ?_
            refine r_get F e_X10_readLine_154 fl_X10_110 h9549 rfl (fun v hv f9569 => ?_)
            obtain ⟨x9570, rfl⟩ := hv
            refine m_iconst F (v := 3) (by decide) e_X10_readLine_157 ?_
            refine m_icmp_eq F e_X10_readLine_158 (fun q158 => ?_) (fun q158 => ?_)
            · subst q158
              refine m_aload_n F rfl e_X10_readLine_166 ?_
              refine r_callV F e_X10_readLine_167 (q_X10_goOn (x_l X) V c T Z u h P9550 L _ _  h9549.1 (hob) oP9550 ) cb_X10_goOn ml_X10_154 im_X10_goOn se_X10_goOn h9549 rfl rfl (rest := []) rfl (Nat.le_of_ble_eq_true rfl) ⟨Nat.le_of_ble_eq_true rfl, Nat.le_of_ble_eq_true rfl⟩ ⟨Nat.le_of_ble_eq_true rfl, Nat.le_of_ble_eq_true rfl⟩ (fun r σ9571 hp => ?_)
              obtain ⟨P9574, oP9574, rP9574, pr9575, h9572, rfl⟩ := hp
              have h9573 := HS.trans h9549 h9572 (by decide)
              have xP9574 := oP9574
              unfold OKP at xP9574
              unfold RA at rP9574
              refine m_aload_n F rfl e_X10_readLine_170 ?_
              refine m_dup F rfl e_X10_readLine_171 ?_
              refine r_get F e_X10_readLine_172 fl_X10_202 h9573 rfl (fun v hv f9576 => ?_)
              obtain ⟨x9577, rfl⟩ := hv
              refine m_iconst F (v := 1) (by decide) e_X10_readLine_175 ?_
              refine m_iadd F e_X10_readLine_176 ?_
              refine Wm.top (fun x9578 _ => ?_)
              refine r_put F (g' := (⟨T, Z, u, h, P9574, L⟩ : RG)) e_X10_readLine_177 fp_X10_202 h9573 (by decide) ⟨_, rfl⟩ (fun _ _ _ _ q => q) (fun _ _ _ q => q) rfl rfl (by decide) (fun σ9579 h9580 g9581 g9582 f9583 => ?_)
              have pg9584 := pr9575.of (g9582 23 (by decide)) (g9582 21 (by decide))
              exact m_vret F hQ e_X10_readLine_180 (⟨P9574, oP9574, (by unfold RP; omega), (pg9584.mono (by omega)), h9580, rfl⟩)
            · refine m_aload_n F rfl e_X10_readLine_161 ?_
              refine m_iconst F (v := 1) (by decide) e_X10_readLine_162 ?_
              refine r_callV F e_X10_readLine_163 (q_X10_wrong (x_l X) V c T Z u h P9550 L _ _ 1 h9549.1 (hob) oP9550 (by first | omega | assumption | decide)) cb_X10_wrong ml_X10_150 im_X10_wrong se_X10_wrong h9549 rfl rfl (rest := []) rfl (Nat.le_of_ble_eq_true rfl) ⟨Nat.le_of_ble_eq_true rfl, Nat.le_of_ble_eq_true rfl⟩ ⟨Nat.le_of_ble_eq_true rfl, Nat.le_of_ble_eq_true rfl⟩ (fun r σ9585 hp => ?_)
              obtain ⟨h9586, rfl⟩ := hp
              have h9587 := HS.trans h9549 h9586 (by decide)
              refine m_aload_n F rfl e_X10_readLine_166 ?_
              refine r_callV F e_X10_readLine_167 (q_X10_goOn (x_l X) V c T 0 u h P9550 L _ _  h9587.1 (hob) oP9550 ) cb_X10_goOn ml_X10_154 im_X10_goOn se_X10_goOn h9587 rfl rfl (rest := []) rfl (Nat.le_of_ble_eq_true rfl) ⟨Nat.le_of_ble_eq_true rfl, Nat.le_of_ble_eq_true rfl⟩ ⟨Nat.le_of_ble_eq_true rfl, Nat.le_of_ble_eq_true rfl⟩ (fun r σ9588 hp => ?_)
              obtain ⟨P9591, oP9591, rP9591, pr9592, h9589, rfl⟩ := hp
              have h9590 := HS.trans h9587 h9589 (by decide)
              have xP9591 := oP9591
              unfold OKP at xP9591
              unfold RA at rP9591
              refine m_aload_n F rfl e_X10_readLine_170 ?_
              refine m_dup F rfl e_X10_readLine_171 ?_
              refine r_get F e_X10_readLine_172 fl_X10_202 h9590 rfl (fun v hv f9593 => ?_)
              obtain ⟨x9594, rfl⟩ := hv
              refine m_iconst F (v := 1) (by decide) e_X10_readLine_175 ?_
              refine m_iadd F e_X10_readLine_176 ?_
              refine Wm.top (fun x9595 _ => ?_)
              refine r_put F (g' := (⟨T, 0, u, h, P9591, L⟩ : RG)) e_X10_readLine_177 fp_X10_202 h9590 (by decide) ⟨_, rfl⟩ (fun _ _ _ _ q => q) (fun _ _ _ q => q) rfl rfl (by decide) (fun σ9596 h9597 g9598 g9599 f9600 => ?_)
              have pg9601 := pr9592.of (g9599 23 (by decide)) (g9599 21 (by decide))
              have h9602 : HS V c _ [0, 2, 17, 18, 19, 20, 21, 22, 23] _ _ := ⟨HR.mono (Z' := Z) (by intro e; first | rfl | assumption | omega) h9597.1, h9597.2⟩
              exact m_vret F hQ e_X10_readLine_180 (⟨P9591, oP9591, (by unfold RP; omega), (pg9601.mono (by omega)), h9602, rfl⟩)
        · refine m_aload_n F rfl e_X10_readLine_52 ?_
          refine r_getC F e_X10_readLine_53 fl_X10_120 h1 (f9545) ?_
          refine m_iconst F (v := 5) (by decide) e_X10_readLine_56 ?_
          refine m_icmp_ne F e_X10_readLine_57 (fun q57 => ?_) (fun q57 => ?_)
          · refine m_aload_n F rfl e_X10_readLine_80 ?_
            refine r_getC F e_X10_readLine_81 fl_X10_120 h1 (f9545) ?_
            refine m_iconst F (v := 3) (by decide) e_X10_readLine_84 ?_
            refine m_icmp_ne F e_X10_readLine_85 (fun q85 => ?_) (fun q85 => ?_)
            · refine m_aload_n F rfl e_X10_readLine_95 ?_
              refine r_getC F e_X10_readLine_96 fl_X10_120 h1 (f9545) ?_
              refine m_iconst F (v := 4) (by decide) e_X10_readLine_99 ?_
              refine m_icmp_ne F e_X10_readLine_100 (fun q100 => ?_) (fun q100 => ?_)
              · refine m_aload_n F rfl e_X10_readLine_110 ?_
                refine r_getC F e_X10_readLine_111 fl_X10_120 h1 (f9545) ?_
                refine m_bipush F (v := 6) (by decide) e_X10_readLine_114 ?_
                refine m_icmp_ne F e_X10_readLine_116 (fun q116 => ?_) (fun q116 => ?_)
                · refine m_aload_n F rfl e_X10_readLine_126 ?_
                  refine r_getC F e_X10_readLine_127 fl_X10_120 h1 (f9545) ?_
                  refine m_bipush F (v := 7) (by decide) e_X10_readLine_130 ?_
                  refine m_icmp_ne F e_X10_readLine_132 (fun q132 => ?_) (fun q132 => ?_)
                  · refine m_aload_n F rfl e_X10_readLine_142 ?_
                    refine r_callV F e_X10_readLine_143 (q_X10_readSeed (x_l X) V c T Z u h P L _ _  h1.1 (hob) hP ) cb_X10_readSeed ml_X10_199 im_X10_readSeed se_X10_readSeed h1 rfl rfl (rest := []) rfl (Nat.le_of_ble_eq_true rfl) ⟨Nat.le_of_ble_eq_true rfl, Nat.le_of_ble_eq_true rfl⟩ ⟨Nat.le_of_ble_eq_true rfl, Nat.le_of_ble_eq_true rfl⟩ (fun r σ9603 hp => ?_)
                    obtain ⟨P9606, oP9606, rP9606, h9604, rfl⟩ := hp
                    have h9605 := HS.trans h1 h9604 (by decide)
                    have xP9606 := oP9606
                    unfold OKP at xP9606
                    unfold RP at rP9606
                    refine m_aload_n F rfl e_X10_readLine_146 ?_
                    refine r_get F e_X10_readLine_147 fl_X10_141 h9605 rfl (fun v hv f9607 => ?_)
                    obtain ⟨x9608, hx9608, rfl⟩ := hv
                    replace hx9608 : Z = 0 → x9608 ≠ 0 := hx9608
                    refine m_if_ne F e_X10_readLine_150 (fun q150 => ?_) (fun q150 => ?_)
                    · have h9609 := HS.z0 h9605 (f9607) q150
                      refine m_aload_n F rfl e_X10_readLine_166 ?_
                      refine r_callV F e_X10_readLine_167 (q_X10_goOn (x_l X) V c T 0 u h P9606 L _ _  h9609.1 (hob) oP9606 ) cb_X10_goOn ml_X10_154 im_X10_goOn se_X10_goOn h9609 rfl rfl (rest := []) rfl (Nat.le_of_ble_eq_true rfl) ⟨Nat.le_of_ble_eq_true rfl, Nat.le_of_ble_eq_true rfl⟩ ⟨Nat.le_of_ble_eq_true rfl, Nat.le_of_ble_eq_true rfl⟩ (fun r σ9610 hp => ?_)
                      obtain ⟨P9613, oP9613, rP9613, pr9614, h9611, rfl⟩ := hp
                      have h9612 := HS.trans h9609 h9611 (by decide)
                      have xP9613 := oP9613
                      unfold OKP at xP9613
                      unfold RA at rP9613
                      refine m_aload_n F rfl e_X10_readLine_170 ?_
                      refine m_dup F rfl e_X10_readLine_171 ?_
                      refine r_get F e_X10_readLine_172 fl_X10_202 h9612 rfl (fun v hv f9615 => ?_)
                      obtain ⟨x9616, rfl⟩ := hv
                      refine m_iconst F (v := 1) (by decide) e_X10_readLine_175 ?_
                      refine m_iadd F e_X10_readLine_176 ?_
                      refine Wm.top (fun x9617 _ => ?_)
                      refine r_put F (g' := (⟨T, 0, u, h, P9613, L⟩ : RG)) e_X10_readLine_177 fp_X10_202 h9612 (by decide) ⟨_, rfl⟩ (fun _ _ _ _ q => q) (fun _ _ _ q => q) rfl rfl (by decide) (fun σ9618 h9619 g9620 g9621 f9622 => ?_)
                      have pg9623 := pr9614.of (g9621 23 (by decide)) (g9621 21 (by decide))
                      have h9624 : HS V c _ [0, 2, 17, 18, 19, 20, 21, 22, 23] _ _ := ⟨HR.mono (Z' := Z) (by intro e; first | rfl | assumption | omega) h9619.1, h9619.2⟩
                      exact m_vret F hQ e_X10_readLine_180 (⟨P9613, oP9613, (by unfold RP; omega), (pg9623.mono (by omega)), h9624, rfl⟩)
                    · subst q150
                      refine m_aload_n F rfl e_X10_readLine_153 ?_
                      refine r_get F e_X10_readLine_154 fl_X10_110 h9605 rfl (fun v hv f9625 => ?_)
                      obtain ⟨x9626, rfl⟩ := hv
                      refine m_iconst F (v := 3) (by decide) e_X10_readLine_157 ?_
                      refine m_icmp_eq F e_X10_readLine_158 (fun q158 => ?_) (fun q158 => ?_)
                      · subst q158
                        refine m_aload_n F rfl e_X10_readLine_166 ?_
                        refine r_callV F e_X10_readLine_167 (q_X10_goOn (x_l X) V c T Z u h P9606 L _ _  h9605.1 (hob) oP9606 ) cb_X10_goOn ml_X10_154 im_X10_goOn se_X10_goOn h9605 rfl rfl (rest := []) rfl (Nat.le_of_ble_eq_true rfl) ⟨Nat.le_of_ble_eq_true rfl, Nat.le_of_ble_eq_true rfl⟩ ⟨Nat.le_of_ble_eq_true rfl, Nat.le_of_ble_eq_true rfl⟩ (fun r σ9627 hp => ?_)
                        obtain ⟨P9630, oP9630, rP9630, pr9631, h9628, rfl⟩ := hp
                        have h9629 := HS.trans h9605 h9628 (by decide)
                        have xP9630 := oP9630
                        unfold OKP at xP9630
                        unfold RA at rP9630
                        refine m_aload_n F rfl e_X10_readLine_170 ?_
                        refine m_dup F rfl e_X10_readLine_171 ?_
                        refine r_get F e_X10_readLine_172 fl_X10_202 h9629 rfl (fun v hv f9632 => ?_)
                        obtain ⟨x9633, rfl⟩ := hv
                        refine m_iconst F (v := 1) (by decide) e_X10_readLine_175 ?_
                        refine m_iadd F e_X10_readLine_176 ?_
                        refine Wm.top (fun x9634 _ => ?_)
                        refine r_put F (g' := (⟨T, Z, u, h, P9630, L⟩ : RG)) e_X10_readLine_177 fp_X10_202 h9629 (by decide) ⟨_, rfl⟩ (fun _ _ _ _ q => q) (fun _ _ _ q => q) rfl rfl (by decide) (fun σ9635 h9636 g9637 g9638 f9639 => ?_)
                        have pg9640 := pr9631.of (g9638 23 (by decide)) (g9638 21 (by decide))
                        exact m_vret F hQ e_X10_readLine_180 (⟨P9630, oP9630, (by unfold RP; omega), (pg9640.mono (by omega)), h9636, rfl⟩)
                      · refine m_aload_n F rfl e_X10_readLine_161 ?_
                        refine m_iconst F (v := 1) (by decide) e_X10_readLine_162 ?_
                        refine r_callV F e_X10_readLine_163 (q_X10_wrong (x_l X) V c T Z u h P9606 L _ _ 1 h9605.1 (hob) oP9606 (by first | omega | assumption | decide)) cb_X10_wrong ml_X10_150 im_X10_wrong se_X10_wrong h9605 rfl rfl (rest := []) rfl (Nat.le_of_ble_eq_true rfl) ⟨Nat.le_of_ble_eq_true rfl, Nat.le_of_ble_eq_true rfl⟩ ⟨Nat.le_of_ble_eq_true rfl, Nat.le_of_ble_eq_true rfl⟩ (fun r σ9641 hp => ?_)
                        obtain ⟨h9642, rfl⟩ := hp
                        have h9643 := HS.trans h9605 h9642 (by decide)
                        refine m_aload_n F rfl e_X10_readLine_166 ?_
                        refine r_callV F e_X10_readLine_167 (q_X10_goOn (x_l X) V c T 0 u h P9606 L _ _  h9643.1 (hob) oP9606 ) cb_X10_goOn ml_X10_154 im_X10_goOn se_X10_goOn h9643 rfl rfl (rest := []) rfl (Nat.le_of_ble_eq_true rfl) ⟨Nat.le_of_ble_eq_true rfl, Nat.le_of_ble_eq_true rfl⟩ ⟨Nat.le_of_ble_eq_true rfl, Nat.le_of_ble_eq_true rfl⟩ (fun r σ9644 hp => ?_)
                        obtain ⟨P9647, oP9647, rP9647, pr9648, h9645, rfl⟩ := hp
                        have h9646 := HS.trans h9643 h9645 (by decide)
                        have xP9647 := oP9647
                        unfold OKP at xP9647
                        unfold RA at rP9647
                        refine m_aload_n F rfl e_X10_readLine_170 ?_
                        refine m_dup F rfl e_X10_readLine_171 ?_
                        refine r_get F e_X10_readLine_172 fl_X10_202 h9646 rfl (fun v hv f9649 => ?_)
                        obtain ⟨x9650, rfl⟩ := hv
                        refine m_iconst F (v := 1) (by decide) e_X10_readLine_175 ?_
                        refine m_iadd F e_X10_readLine_176 ?_
                        refine Wm.top (fun x9651 _ => ?_)
                        refine r_put F (g' := (⟨T, 0, u, h, P9647, L⟩ : RG)) e_X10_readLine_177 fp_X10_202 h9646 (by decide) ⟨_, rfl⟩ (fun _ _ _ _ q => q) (fun _ _ _ q => q) rfl rfl (by decide) (fun σ9652 h9653 g9654 g9655 f9656 => ?_)
                        have pg9657 := pr9648.of (g9655 23 (by decide)) (g9655 21 (by decide))
                        have h9658 : HS V c _ [0, 2, 17, 18, 19, 20, 21, 22, 23] _ _ := ⟨HR.mono (Z' := Z) (by intro e; first | rfl | assumption | omega) h9653.1, h9653.2⟩
                        exact m_vret F hQ e_X10_readLine_180 (⟨P9647, oP9647, (by unfold RP; omega), (pg9657.mono (by omega)), h9658, rfl⟩)
                  · subst q132
                    refine m_aload_n F rfl e_X10_readLine_135 ?_
                    refine r_callV F e_X10_readLine_136 (q_X10_readOption (x_l X) V c T Z u h P L _ _  h1.1 (hob) hP ) cb_X10_readOption ml_X10_196 im_X10_readOption se_X10_readOption h1 rfl rfl (rest := []) rfl (Nat.le_of_ble_eq_true rfl) ⟨Nat.le_of_ble_eq_true rfl, Nat.le_of_ble_eq_true rfl⟩ ⟨Nat.le_of_ble_eq_true rfl, Nat.le_of_ble_eq_true rfl⟩ (fun r σ9659 hp => ?_)
                    obtain ⟨P9662, oP9662, rP9662, h9660, rfl⟩ := hp
                    have h9661 := HS.trans h1 h9660 (by decide)
                    have xP9662 := oP9662
                    unfold OKP at xP9662
                    unfold RP at rP9662
                    refine m_goto F e_X10_readLine_139 ?_
                    refine m_aload_n F rfl e_X10_readLine_146 ?_
                    refine r_get F e_X10_readLine_147 fl_X10_141 h9661 rfl (fun v hv f9663 => ?_)
                    obtain ⟨x9664, hx9664, rfl⟩ := hv
                    replace hx9664 : Z = 0 → x9664 ≠ 0 := hx9664
                    refine m_if_ne F e_X10_readLine_150 (fun q150 => ?_) (fun q150 => ?_)
                    · have h9665 := HS.z0 h9661 (f9663) q150
                      refine m_aload_n F rfl e_X10_readLine_166 ?_
                      refine r_callV F e_X10_readLine_167 (q_X10_goOn (x_l X) V c T 0 u h P9662 L _ _  h9665.1 (hob) oP9662 ) cb_X10_goOn ml_X10_154 im_X10_goOn se_X10_goOn h9665 rfl rfl (rest := []) rfl (Nat.le_of_ble_eq_true rfl) ⟨Nat.le_of_ble_eq_true rfl, Nat.le_of_ble_eq_true rfl⟩ ⟨Nat.le_of_ble_eq_true rfl, Nat.le_of_ble_eq_true rfl⟩ (fun r σ9666 hp => ?_)
                      obtain ⟨P9669, oP9669, rP9669, pr9670, h9667, rfl⟩ := hp
                      have h9668 := HS.trans h9665 h9667 (by decide)
                      have xP9669 := oP9669
                      unfold OKP at xP9669
                      unfold RA at rP9669
                      refine m_aload_n F rfl e_X10_readLine_170 ?_
                      refine m_dup F rfl e_X10_readLine_171 ?_
                      refine r_get F e_X10_readLine_172 fl_X10_202 h9668 rfl (fun v hv f9671 => ?_)
                      obtain ⟨x9672, rfl⟩ := hv
                      refine m_iconst F (v := 1) (by decide) e_X10_readLine_175 ?_
                      refine m_iadd F e_X10_readLine_176 ?_
                      refine Wm.top (fun x9673 _ => ?_)
                      refine r_put F (g' := (⟨T, 0, u, h, P9669, L⟩ : RG)) e_X10_readLine_177 fp_X10_202 h9668 (by decide) ⟨_, rfl⟩ (fun _ _ _ _ q => q) (fun _ _ _ q => q) rfl rfl (by decide) (fun σ9674 h9675 g9676 g9677 f9678 => ?_)
                      have pg9679 := pr9670.of (g9677 23 (by decide)) (g9677 21 (by decide))
                      have h9680 : HS V c _ [0, 2, 17, 18, 19, 20, 21, 22, 23] _ _ := ⟨HR.mono (Z' := Z) (by intro e; first | rfl | assumption | omega) h9675.1, h9675.2⟩
                      exact m_vret F hQ e_X10_readLine_180 (⟨P9669, oP9669, (by unfold RP; omega), (pg9679.mono (by omega)), h9680, rfl⟩)
                    · subst q150
                      refine m_aload_n F rfl e_X10_readLine_153 ?_
                      refine r_get F e_X10_readLine_154 fl_X10_110 h9661 rfl (fun v hv f9681 => ?_)
                      obtain ⟨x9682, rfl⟩ := hv
                      refine m_iconst F (v := 3) (by decide) e_X10_readLine_157 ?_
                      refine m_icmp_eq F e_X10_readLine_158 (fun q158 => ?_) (fun q158 => ?_)
                      · subst q158
                        refine m_aload_n F rfl e_X10_readLine_166 ?_
                        refine r_callV F e_X10_readLine_167 (q_X10_goOn (x_l X) V c T Z u h P9662 L _ _  h9661.1 (hob) oP9662 ) cb_X10_goOn ml_X10_154 im_X10_goOn se_X10_goOn h9661 rfl rfl (rest := []) rfl (Nat.le_of_ble_eq_true rfl) ⟨Nat.le_of_ble_eq_true rfl, Nat.le_of_ble_eq_true rfl⟩ ⟨Nat.le_of_ble_eq_true rfl, Nat.le_of_ble_eq_true rfl⟩ (fun r σ9683 hp => ?_)
                        obtain ⟨P9686, oP9686, rP9686, pr9687, h9684, rfl⟩ := hp
                        have h9685 := HS.trans h9661 h9684 (by decide)
                        have xP9686 := oP9686
                        unfold OKP at xP9686
                        unfold RA at rP9686
                        refine m_aload_n F rfl e_X10_readLine_170 ?_
                        refine m_dup F rfl e_X10_readLine_171 ?_
                        refine r_get F e_X10_readLine_172 fl_X10_202 h9685 rfl (fun v hv f9688 => ?_)
                        obtain ⟨x9689, rfl⟩ := hv
                        refine m_iconst F (v := 1) (by decide) e_X10_readLine_175 ?_
                        refine m_iadd F e_X10_readLine_176 ?_
                        refine Wm.top (fun x9690 _ => ?_)
                        refine r_put F (g' := (⟨T, Z, u, h, P9686, L⟩ : RG)) e_X10_readLine_177 fp_X10_202 h9685 (by decide) ⟨_, rfl⟩ (fun _ _ _ _ q => q) (fun _ _ _ q => q) rfl rfl (by decide) (fun σ9691 h9692 g9693 g9694 f9695 => ?_)
                        have pg9696 := pr9687.of (g9694 23 (by decide)) (g9694 21 (by decide))
                        exact m_vret F hQ e_X10_readLine_180 (⟨P9686, oP9686, (by unfold RP; omega), (pg9696.mono (by omega)), h9692, rfl⟩)
                      · refine m_aload_n F rfl e_X10_readLine_161 ?_
                        refine m_iconst F (v := 1) (by decide) e_X10_readLine_162 ?_
                        refine r_callV F e_X10_readLine_163 (q_X10_wrong (x_l X) V c T Z u h P9662 L _ _ 1 h9661.1 (hob) oP9662 (by first | omega | assumption | decide)) cb_X10_wrong ml_X10_150 im_X10_wrong se_X10_wrong h9661 rfl rfl (rest := []) rfl (Nat.le_of_ble_eq_true rfl) ⟨Nat.le_of_ble_eq_true rfl, Nat.le_of_ble_eq_true rfl⟩ ⟨Nat.le_of_ble_eq_true rfl, Nat.le_of_ble_eq_true rfl⟩ (fun r σ9697 hp => ?_)
                        obtain ⟨h9698, rfl⟩ := hp
                        have h9699 := HS.trans h9661 h9698 (by decide)
                        refine m_aload_n F rfl e_X10_readLine_166 ?_
                        refine r_callV F e_X10_readLine_167 (q_X10_goOn (x_l X) V c T 0 u h P9662 L _ _  h9699.1 (hob) oP9662 ) cb_X10_goOn ml_X10_154 im_X10_goOn se_X10_goOn h9699 rfl rfl (rest := []) rfl (Nat.le_of_ble_eq_true rfl) ⟨Nat.le_of_ble_eq_true rfl, Nat.le_of_ble_eq_true rfl⟩ ⟨Nat.le_of_ble_eq_true rfl, Nat.le_of_ble_eq_true rfl⟩ (fun r σ9700 hp => ?_)
                        obtain ⟨P9703, oP9703, rP9703, pr9704, h9701, rfl⟩ := hp
                        have h9702 := HS.trans h9699 h9701 (by decide)
                        have xP9703 := oP9703
                        unfold OKP at xP9703
                        unfold RA at rP9703
                        refine m_aload_n F rfl e_X10_readLine_170 ?_
                        refine m_dup F rfl e_X10_readLine_171 ?_
                        refine r_get F e_X10_readLine_172 fl_X10_202 h9702 rfl (fun v hv f9705 => ?_)
                        obtain ⟨x9706, rfl⟩ := hv
                        refine m_iconst F (v := 1) (by decide) e_X10_readLine_175 ?_
                        refine m_iadd F e_X10_readLine_176 ?_
                        refine Wm.top (fun x9707 _ => ?_)
                        refine r_put F (g' := (⟨T, 0, u, h, P9703, L⟩ : RG)) e_X10_readLine_177 fp_X10_202 h9702 (by decide) ⟨_, rfl⟩ (fun _ _ _ _ q => q) (fun _ _ _ q => q) rfl rfl (by decide) (fun σ9708 h9709 g9710 g9711 f9712 => ?_)
                        have pg9713 := pr9704.of (g9711 23 (by decide)) (g9711 21 (by decide))
                        have h9714 : HS V c _ [0, 2, 17, 18, 19, 20, 21, 22, 23] _ _ := ⟨HR.mono (Z' := Z) (by intro e; first | rfl | assumption | omega) h9709.1, h9709.2⟩
                        exact m_vret F hQ e_X10_readLine_180 (⟨P9703, oP9703, (by unfold RP; omega), (pg9713.mono (by omega)), h9714, rfl⟩)
                · subst q116
                  refine m_aload_n F rfl e_X10_readLine_119 ?_
                  refine r_callV F e_X10_readLine_120 (q_X10_readChange (x_l X) V c T Z u h P L _ _  h1.1 (hob) hP ) cb_X10_readChange ml_X10_193 im_X10_readChange se_X10_readChange h1 rfl rfl (rest := []) rfl (Nat.le_of_ble_eq_true rfl) ⟨Nat.le_of_ble_eq_true rfl, Nat.le_of_ble_eq_true rfl⟩ ⟨Nat.le_of_ble_eq_true rfl, Nat.le_of_ble_eq_true rfl⟩ (fun r σ9715 hp => ?_)
                  obtain ⟨P9718, oP9718, rP9718, h9716, rfl⟩ := hp
                  have h9717 := HS.trans h1 h9716 (by decide)
                  have xP9718 := oP9718
                  unfold OKP at xP9718
                  unfold RP at rP9718
                  refine m_goto F e_X10_readLine_123 ?_
                  refine m_aload_n F rfl e_X10_readLine_146 ?_
                  refine r_get F e_X10_readLine_147 fl_X10_141 h9717 rfl (fun v hv f9719 => ?_)
                  obtain ⟨x9720, hx9720, rfl⟩ := hv
                  replace hx9720 : Z = 0 → x9720 ≠ 0 := hx9720
                  refine m_if_ne F e_X10_readLine_150 (fun q150 => ?_) (fun q150 => ?_)
                  · have h9721 := HS.z0 h9717 (f9719) q150
                    refine m_aload_n F rfl e_X10_readLine_166 ?_
                    refine r_callV F e_X10_readLine_167 (q_X10_goOn (x_l X) V c T 0 u h P9718 L _ _  h9721.1 (hob) oP9718 ) cb_X10_goOn ml_X10_154 im_X10_goOn se_X10_goOn h9721 rfl rfl (rest := []) rfl (Nat.le_of_ble_eq_true rfl) ⟨Nat.le_of_ble_eq_true rfl, Nat.le_of_ble_eq_true rfl⟩ ⟨Nat.le_of_ble_eq_true rfl, Nat.le_of_ble_eq_true rfl⟩ (fun r σ9722 hp => ?_)
                    obtain ⟨P9725, oP9725, rP9725, pr9726, h9723, rfl⟩ := hp
                    have h9724 := HS.trans h9721 h9723 (by decide)
                    have xP9725 := oP9725
                    unfold OKP at xP9725
                    unfold RA at rP9725
                    refine m_aload_n F rfl e_X10_readLine_170 ?_
                    refine m_dup F rfl e_X10_readLine_171 ?_
                    refine r_get F e_X10_readLine_172 fl_X10_202 h9724 rfl (fun v hv f9727 => ?_)
                    obtain ⟨x9728, rfl⟩ := hv
                    refine m_iconst F (v := 1) (by decide) e_X10_readLine_175 ?_
                    refine m_iadd F e_X10_readLine_176 ?_
                    refine Wm.top (fun x9729 _ => ?_)
                    refine r_put F (g' := (⟨T, 0, u, h, P9725, L⟩ : RG)) e_X10_readLine_177 fp_X10_202 h9724 (by decide) ⟨_, rfl⟩ (fun _ _ _ _ q => q) (fun _ _ _ q => q) rfl rfl (by decide) (fun σ9730 h9731 g9732 g9733 f9734 => ?_)
                    have pg9735 := pr9726.of (g9733 23 (by decide)) (g9733 21 (by decide))
                    have h9736 : HS V c _ [0, 2, 17, 18, 19, 20, 21, 22, 23] _ _ := ⟨HR.mono (Z' := Z) (by intro e; first | rfl | assumption | omega) h9731.1, h9731.2⟩
                    exact m_vret F hQ e_X10_readLine_180 (⟨P9725, oP9725, (by unfold RP; omega), (pg9735.mono (by omega)), h9736, rfl⟩)
                  · subst q150
                    refine m_aload_n F rfl e_X10_readLine_153 ?_
                    refine r_get F e_X10_readLine_154 fl_X10_110 h9717 rfl (fun v hv f9737 => ?_)
                    obtain ⟨x9738, rfl⟩ := hv
                    refine m_iconst F (v := 3) (by decide) e_X10_readLine_157 ?_
                    refine m_icmp_eq F e_X10_readLine_158 (fun q158 => ?_) (fun q158 => ?_)
                    · subst q158
                      refine m_aload_n F rfl e_X10_readLine_166 ?_
                      refine r_callV F e_X10_readLine_167 (q_X10_goOn (x_l X) V c T Z u h P9718 L _ _  h9717.1 (hob) oP9718 ) cb_X10_goOn ml_X10_154 im_X10_goOn se_X10_goOn h9717 rfl rfl (rest := []) rfl (Nat.le_of_ble_eq_true rfl) ⟨Nat.le_of_ble_eq_true rfl, Nat.le_of_ble_eq_true rfl⟩ ⟨Nat.le_of_ble_eq_true rfl, Nat.le_of_ble_eq_true rfl⟩ (fun r σ9739 hp => ?_)
                      obtain ⟨P9742, oP9742, rP9742, pr9743, h9740, rfl⟩ := hp
                      have h9741 := HS.trans h9717 h9740 (by decide)
                      have xP9742 := oP9742
                      unfold OKP at xP9742
                      unfold RA at rP9742
                      refine m_aload_n F rfl e_X10_readLine_170 ?_
                      refine m_dup F rfl e_X10_readLine_171 ?_
                      refine r_get F e_X10_readLine_172 fl_X10_202 h9741 rfl (fun v hv f9744 => ?_)
                      obtain ⟨x9745, rfl⟩ := hv
                      refine m_iconst F (v := 1) (by decide) e_X10_readLine_175 ?_
                      refine m_iadd F e_X10_readLine_176 ?_
                      refine Wm.top (fun x9746 _ => ?_)
                      refine r_put F (g' := (⟨T, Z, u, h, P9742, L⟩ : RG)) e_X10_readLine_177 fp_X10_202 h9741 (by decide) ⟨_, rfl⟩ (fun _ _ _ _ q => q) (fun _ _ _ q => q) rfl rfl (by decide) (fun σ9747 h9748 g9749 g9750 f9751 => ?_)
                      have pg9752 := pr9743.of (g9750 23 (by decide)) (g9750 21 (by decide))
                      exact m_vret F hQ e_X10_readLine_180 (⟨P9742, oP9742, (by unfold RP; omega), (pg9752.mono (by omega)), h9748, rfl⟩)
                    · refine m_aload_n F rfl e_X10_readLine_161 ?_
                      refine m_iconst F (v := 1) (by decide) e_X10_readLine_162 ?_
                      refine r_callV F e_X10_readLine_163 (q_X10_wrong (x_l X) V c T Z u h P9718 L _ _ 1 h9717.1 (hob) oP9718 (by first | omega | assumption | decide)) cb_X10_wrong ml_X10_150 im_X10_wrong se_X10_wrong h9717 rfl rfl (rest := []) rfl (Nat.le_of_ble_eq_true rfl) ⟨Nat.le_of_ble_eq_true rfl, Nat.le_of_ble_eq_true rfl⟩ ⟨Nat.le_of_ble_eq_true rfl, Nat.le_of_ble_eq_true rfl⟩ (fun r σ9753 hp => ?_)
                      obtain ⟨h9754, rfl⟩ := hp
                      have h9755 := HS.trans h9717 h9754 (by decide)
                      refine m_aload_n F rfl e_X10_readLine_166 ?_
                      refine r_callV F e_X10_readLine_167 (q_X10_goOn (x_l X) V c T 0 u h P9718 L _ _  h9755.1 (hob) oP9718 ) cb_X10_goOn ml_X10_154 im_X10_goOn se_X10_goOn h9755 rfl rfl (rest := []) rfl (Nat.le_of_ble_eq_true rfl) ⟨Nat.le_of_ble_eq_true rfl, Nat.le_of_ble_eq_true rfl⟩ ⟨Nat.le_of_ble_eq_true rfl, Nat.le_of_ble_eq_true rfl⟩ (fun r σ9756 hp => ?_)
                      obtain ⟨P9759, oP9759, rP9759, pr9760, h9757, rfl⟩ := hp
                      have h9758 := HS.trans h9755 h9757 (by decide)
                      have xP9759 := oP9759
                      unfold OKP at xP9759
                      unfold RA at rP9759
                      refine m_aload_n F rfl e_X10_readLine_170 ?_
                      refine m_dup F rfl e_X10_readLine_171 ?_
                      refine r_get F e_X10_readLine_172 fl_X10_202 h9758 rfl (fun v hv f9761 => ?_)
                      obtain ⟨x9762, rfl⟩ := hv
                      refine m_iconst F (v := 1) (by decide) e_X10_readLine_175 ?_
                      refine m_iadd F e_X10_readLine_176 ?_
                      refine Wm.top (fun x9763 _ => ?_)
                      refine r_put F (g' := (⟨T, 0, u, h, P9759, L⟩ : RG)) e_X10_readLine_177 fp_X10_202 h9758 (by decide) ⟨_, rfl⟩ (fun _ _ _ _ q => q) (fun _ _ _ q => q) rfl rfl (by decide) (fun σ9764 h9765 g9766 g9767 f9768 => ?_)
                      have pg9769 := pr9760.of (g9767 23 (by decide)) (g9767 21 (by decide))
                      have h9770 : HS V c _ [0, 2, 17, 18, 19, 20, 21, 22, 23] _ _ := ⟨HR.mono (Z' := Z) (by intro e; first | rfl | assumption | omega) h9765.1, h9765.2⟩
                      exact m_vret F hQ e_X10_readLine_180 (⟨P9759, oP9759, (by unfold RP; omega), (pg9769.mono (by omega)), h9770, rfl⟩)
              · subst q100
                refine m_aload_n F rfl e_X10_readLine_103 ?_
                refine r_callV F e_X10_readLine_104 (q_X10_readFee (x_l X) V c T Z u h P L _ _  h1.1 (hob) hP ) cb_X10_readFee ml_X10_190 im_X10_readFee se_X10_readFee h1 rfl rfl (rest := []) rfl (Nat.le_of_ble_eq_true rfl) ⟨Nat.le_of_ble_eq_true rfl, Nat.le_of_ble_eq_true rfl⟩ ⟨Nat.le_of_ble_eq_true rfl, Nat.le_of_ble_eq_true rfl⟩ (fun r σ9771 hp => ?_)
                obtain ⟨P9774, oP9774, rP9774, h9772, rfl⟩ := hp
                have h9773 := HS.trans h1 h9772 (by decide)
                have xP9774 := oP9774
                unfold OKP at xP9774
                unfold RP at rP9774
                refine m_goto F e_X10_readLine_107 ?_
                refine m_aload_n F rfl e_X10_readLine_146 ?_
                refine r_get F e_X10_readLine_147 fl_X10_141 h9773 rfl (fun v hv f9775 => ?_)
                obtain ⟨x9776, hx9776, rfl⟩ := hv
                replace hx9776 : Z = 0 → x9776 ≠ 0 := hx9776
                refine m_if_ne F e_X10_readLine_150 (fun q150 => ?_) (fun q150 => ?_)
                · have h9777 := HS.z0 h9773 (f9775) q150
                  refine m_aload_n F rfl e_X10_readLine_166 ?_
                  refine r_callV F e_X10_readLine_167 (q_X10_goOn (x_l X) V c T 0 u h P9774 L _ _  h9777.1 (hob) oP9774 ) cb_X10_goOn ml_X10_154 im_X10_goOn se_X10_goOn h9777 rfl rfl (rest := []) rfl (Nat.le_of_ble_eq_true rfl) ⟨Nat.le_of_ble_eq_true rfl, Nat.le_of_ble_eq_true rfl⟩ ⟨Nat.le_of_ble_eq_true rfl, Nat.le_of_ble_eq_true rfl⟩ (fun r σ9778 hp => ?_)
                  obtain ⟨P9781, oP9781, rP9781, pr9782, h9779, rfl⟩ := hp
                  have h9780 := HS.trans h9777 h9779 (by decide)
                  have xP9781 := oP9781
                  unfold OKP at xP9781
                  unfold RA at rP9781
                  refine m_aload_n F rfl e_X10_readLine_170 ?_
                  refine m_dup F rfl e_X10_readLine_171 ?_
                  refine r_get F e_X10_readLine_172 fl_X10_202 h9780 rfl (fun v hv f9783 => ?_)
                  obtain ⟨x9784, rfl⟩ := hv
                  refine m_iconst F (v := 1) (by decide) e_X10_readLine_175 ?_
                  refine m_iadd F e_X10_readLine_176 ?_
                  refine Wm.top (fun x9785 _ => ?_)
                  refine r_put F (g' := (⟨T, 0, u, h, P9781, L⟩ : RG)) e_X10_readLine_177 fp_X10_202 h9780 (by decide) ⟨_, rfl⟩ (fun _ _ _ _ q => q) (fun _ _ _ q => q) rfl rfl (by decide) (fun σ9786 h9787 g9788 g9789 f9790 => ?_)
                  have pg9791 := pr9782.of (g9789 23 (by decide)) (g9789 21 (by decide))
                  have h9792 : HS V c _ [0, 2, 17, 18, 19, 20, 21, 22, 23] _ _ := ⟨HR.mono (Z' := Z) (by intro e; first | rfl | assumption | omega) h9787.1, h9787.2⟩
                  exact m_vret F hQ e_X10_readLine_180 (⟨P9781, oP9781, (by unfold RP; omega), (pg9791.mono (by omega)), h9792, rfl⟩)
                · subst q150
                  refine m_aload_n F rfl e_X10_readLine_153 ?_
                  refine r_get F e_X10_readLine_154 fl_X10_110 h9773 rfl (fun v hv f9793 => ?_)
                  obtain ⟨x9794, rfl⟩ := hv
                  refine m_iconst F (v := 3) (by decide) e_X10_readLine_157 ?_
                  refine m_icmp_eq F e_X10_readLine_158 (fun q158 => ?_) (fun q158 => ?_)
                  · subst q158
                    refine m_aload_n F rfl e_X10_readLine_166 ?_
                    refine r_callV F e_X10_readLine_167 (q_X10_goOn (x_l X) V c T Z u h P9774 L _ _  h9773.1 (hob) oP9774 ) cb_X10_goOn ml_X10_154 im_X10_goOn se_X10_goOn h9773 rfl rfl (rest := []) rfl (Nat.le_of_ble_eq_true rfl) ⟨Nat.le_of_ble_eq_true rfl, Nat.le_of_ble_eq_true rfl⟩ ⟨Nat.le_of_ble_eq_true rfl, Nat.le_of_ble_eq_true rfl⟩ (fun r σ9795 hp => ?_)
                    obtain ⟨P9798, oP9798, rP9798, pr9799, h9796, rfl⟩ := hp
                    have h9797 := HS.trans h9773 h9796 (by decide)
                    have xP9798 := oP9798
                    unfold OKP at xP9798
                    unfold RA at rP9798
                    refine m_aload_n F rfl e_X10_readLine_170 ?_
                    refine m_dup F rfl e_X10_readLine_171 ?_
                    refine r_get F e_X10_readLine_172 fl_X10_202 h9797 rfl (fun v hv f9800 => ?_)
                    obtain ⟨x9801, rfl⟩ := hv
                    refine m_iconst F (v := 1) (by decide) e_X10_readLine_175 ?_
                    refine m_iadd F e_X10_readLine_176 ?_
                    refine Wm.top (fun x9802 _ => ?_)
                    refine r_put F (g' := (⟨T, Z, u, h, P9798, L⟩ : RG)) e_X10_readLine_177 fp_X10_202 h9797 (by decide) ⟨_, rfl⟩ (fun _ _ _ _ q => q) (fun _ _ _ q => q) rfl rfl (by decide) (fun σ9803 h9804 g9805 g9806 f9807 => ?_)
                    have pg9808 := pr9799.of (g9806 23 (by decide)) (g9806 21 (by decide))
                    exact m_vret F hQ e_X10_readLine_180 (⟨P9798, oP9798, (by unfold RP; omega), (pg9808.mono (by omega)), h9804, rfl⟩)
                  · refine m_aload_n F rfl e_X10_readLine_161 ?_
                    refine m_iconst F (v := 1) (by decide) e_X10_readLine_162 ?_
                    refine r_callV F e_X10_readLine_163 (q_X10_wrong (x_l X) V c T Z u h P9774 L _ _ 1 h9773.1 (hob) oP9774 (by first | omega | assumption | decide)) cb_X10_wrong ml_X10_150 im_X10_wrong se_X10_wrong h9773 rfl rfl (rest := []) rfl (Nat.le_of_ble_eq_true rfl) ⟨Nat.le_of_ble_eq_true rfl, Nat.le_of_ble_eq_true rfl⟩ ⟨Nat.le_of_ble_eq_true rfl, Nat.le_of_ble_eq_true rfl⟩ (fun r σ9809 hp => ?_)
                    obtain ⟨h9810, rfl⟩ := hp
                    have h9811 := HS.trans h9773 h9810 (by decide)
                    refine m_aload_n F rfl e_X10_readLine_166 ?_
                    refine r_callV F e_X10_readLine_167 (q_X10_goOn (x_l X) V c T 0 u h P9774 L _ _  h9811.1 (hob) oP9774 ) cb_X10_goOn ml_X10_154 im_X10_goOn se_X10_goOn h9811 rfl rfl (rest := []) rfl (Nat.le_of_ble_eq_true rfl) ⟨Nat.le_of_ble_eq_true rfl, Nat.le_of_ble_eq_true rfl⟩ ⟨Nat.le_of_ble_eq_true rfl, Nat.le_of_ble_eq_true rfl⟩ (fun r σ9812 hp => ?_)
                    obtain ⟨P9815, oP9815, rP9815, pr9816, h9813, rfl⟩ := hp
                    have h9814 := HS.trans h9811 h9813 (by decide)
                    have xP9815 := oP9815
                    unfold OKP at xP9815
                    unfold RA at rP9815
                    refine m_aload_n F rfl e_X10_readLine_170 ?_
                    refine m_dup F rfl e_X10_readLine_171 ?_
                    refine r_get F e_X10_readLine_172 fl_X10_202 h9814 rfl (fun v hv f9817 => ?_)
                    obtain ⟨x9818, rfl⟩ := hv
                    refine m_iconst F (v := 1) (by decide) e_X10_readLine_175 ?_
                    refine m_iadd F e_X10_readLine_176 ?_
                    refine Wm.top (fun x9819 _ => ?_)
                    refine r_put F (g' := (⟨T, 0, u, h, P9815, L⟩ : RG)) e_X10_readLine_177 fp_X10_202 h9814 (by decide) ⟨_, rfl⟩ (fun _ _ _ _ q => q) (fun _ _ _ q => q) rfl rfl (by decide) (fun σ9820 h9821 g9822 g9823 f9824 => ?_)
                    have pg9825 := pr9816.of (g9823 23 (by decide)) (g9823 21 (by decide))
                    have h9826 : HS V c _ [0, 2, 17, 18, 19, 20, 21, 22, 23] _ _ := ⟨HR.mono (Z' := Z) (by intro e; first | rfl | assumption | omega) h9821.1, h9821.2⟩
                    exact m_vret F hQ e_X10_readLine_180 (⟨P9815, oP9815, (by unfold RP; omega), (pg9825.mono (by omega)), h9826, rfl⟩)
            · subst q85
              refine m_aload_n F rfl e_X10_readLine_88 ?_
              refine r_callV F e_X10_readLine_89 (q_X10_readFair (x_l X) V c T Z u h P L _ _  h1.1 (hob) hP ) cb_X10_readFair ml_X10_187 im_X10_readFair se_X10_readFair h1 rfl rfl (rest := []) rfl (Nat.le_of_ble_eq_true rfl) ⟨Nat.le_of_ble_eq_true rfl, Nat.le_of_ble_eq_true rfl⟩ ⟨Nat.le_of_ble_eq_true rfl, Nat.le_of_ble_eq_true rfl⟩ (fun r σ9827 hp => ?_)
              obtain ⟨P9830, oP9830, rP9830, h9828, rfl⟩ := hp
              have h9829 := HS.trans h1 h9828 (by decide)
              have xP9830 := oP9830
              unfold OKP at xP9830
              unfold RP at rP9830
              refine m_goto F e_X10_readLine_92 ?_
              refine m_aload_n F rfl e_X10_readLine_146 ?_
              refine r_get F e_X10_readLine_147 fl_X10_141 h9829 rfl (fun v hv f9831 => ?_)
              obtain ⟨x9832, hx9832, rfl⟩ := hv
              replace hx9832 : Z = 0 → x9832 ≠ 0 := hx9832
              refine m_if_ne F e_X10_readLine_150 (fun q150 => ?_) (fun q150 => ?_)
              · have h9833 := HS.z0 h9829 (f9831) q150
                refine m_aload_n F rfl e_X10_readLine_166 ?_
                refine r_callV F e_X10_readLine_167 (q_X10_goOn (x_l X) V c T 0 u h P9830 L _ _  h9833.1 (hob) oP9830 ) cb_X10_goOn ml_X10_154 im_X10_goOn se_X10_goOn h9833 rfl rfl (rest := []) rfl (Nat.le_of_ble_eq_true rfl) ⟨Nat.le_of_ble_eq_true rfl, Nat.le_of_ble_eq_true rfl⟩ ⟨Nat.le_of_ble_eq_true rfl, Nat.le_of_ble_eq_true rfl⟩ (fun r σ9834 hp => ?_)
                obtain ⟨P9837, oP9837, rP9837, pr9838, h9835, rfl⟩ := hp
                have h9836 := HS.trans h9833 h9835 (by decide)
                have xP9837 := oP9837
                unfold OKP at xP9837
                unfold RA at rP9837
                refine m_aload_n F rfl e_X10_readLine_170 ?_
                refine m_dup F rfl e_X10_readLine_171 ?_
                refine r_get F e_X10_readLine_172 fl_X10_202 h9836 rfl (fun v hv f9839 => ?_)
                obtain ⟨x9840, rfl⟩ := hv
                refine m_iconst F (v := 1) (by decide) e_X10_readLine_175 ?_
                refine m_iadd F e_X10_readLine_176 ?_
                refine Wm.top (fun x9841 _ => ?_)
                refine r_put F (g' := (⟨T, 0, u, h, P9837, L⟩ : RG)) e_X10_readLine_177 fp_X10_202 h9836 (by decide) ⟨_, rfl⟩ (fun _ _ _ _ q => q) (fun _ _ _ q => q) rfl rfl (by decide) (fun σ9842 h9843 g9844 g9845 f9846 => ?_)
                have pg9847 := pr9838.of (g9845 23 (by decide)) (g9845 21 (by decide))
                have h9848 : HS V c _ [0, 2, 17, 18, 19, 20, 21, 22, 23] _ _ := ⟨HR.mono (Z' := Z) (by intro e; first | rfl | assumption | omega) h9843.1, h9843.2⟩
                exact m_vret F hQ e_X10_readLine_180 (⟨P9837, oP9837, (by unfold RP; omega), (pg9847.mono (by omega)), h9848, rfl⟩)
              · subst q150
                refine m_aload_n F rfl e_X10_readLine_153 ?_
                refine r_get F e_X10_readLine_154 fl_X10_110 h9829 rfl (fun v hv f9849 => ?_)
                obtain ⟨x9850, rfl⟩ := hv
                refine m_iconst F (v := 3) (by decide) e_X10_readLine_157 ?_
                refine m_icmp_eq F e_X10_readLine_158 (fun q158 => ?_) (fun q158 => ?_)
                · subst q158
                  refine m_aload_n F rfl e_X10_readLine_166 ?_
                  refine r_callV F e_X10_readLine_167 (q_X10_goOn (x_l X) V c T Z u h P9830 L _ _  h9829.1 (hob) oP9830 ) cb_X10_goOn ml_X10_154 im_X10_goOn se_X10_goOn h9829 rfl rfl (rest := []) rfl (Nat.le_of_ble_eq_true rfl) ⟨Nat.le_of_ble_eq_true rfl, Nat.le_of_ble_eq_true rfl⟩ ⟨Nat.le_of_ble_eq_true rfl, Nat.le_of_ble_eq_true rfl⟩ (fun r σ9851 hp => ?_)
                  obtain ⟨P9854, oP9854, rP9854, pr9855, h9852, rfl⟩ := hp
                  have h9853 := HS.trans h9829 h9852 (by decide)
                  have xP9854 := oP9854
                  unfold OKP at xP9854
                  unfold RA at rP9854
                  refine m_aload_n F rfl e_X10_readLine_170 ?_
                  refine m_dup F rfl e_X10_readLine_171 ?_
                  refine r_get F e_X10_readLine_172 fl_X10_202 h9853 rfl (fun v hv f9856 => ?_)
                  obtain ⟨x9857, rfl⟩ := hv
                  refine m_iconst F (v := 1) (by decide) e_X10_readLine_175 ?_
                  refine m_iadd F e_X10_readLine_176 ?_
                  refine Wm.top (fun x9858 _ => ?_)
                  refine r_put F (g' := (⟨T, Z, u, h, P9854, L⟩ : RG)) e_X10_readLine_177 fp_X10_202 h9853 (by decide) ⟨_, rfl⟩ (fun _ _ _ _ q => q) (fun _ _ _ q => q) rfl rfl (by decide) (fun σ9859 h9860 g9861 g9862 f9863 => ?_)
                  have pg9864 := pr9855.of (g9862 23 (by decide)) (g9862 21 (by decide))
                  exact m_vret F hQ e_X10_readLine_180 (⟨P9854, oP9854, (by unfold RP; omega), (pg9864.mono (by omega)), h9860, rfl⟩)
                · refine m_aload_n F rfl e_X10_readLine_161 ?_
                  refine m_iconst F (v := 1) (by decide) e_X10_readLine_162 ?_
                  refine r_callV F e_X10_readLine_163 (q_X10_wrong (x_l X) V c T Z u h P9830 L _ _ 1 h9829.1 (hob) oP9830 (by first | omega | assumption | decide)) cb_X10_wrong ml_X10_150 im_X10_wrong se_X10_wrong h9829 rfl rfl (rest := []) rfl (Nat.le_of_ble_eq_true rfl) ⟨Nat.le_of_ble_eq_true rfl, Nat.le_of_ble_eq_true rfl⟩ ⟨Nat.le_of_ble_eq_true rfl, Nat.le_of_ble_eq_true rfl⟩ (fun r σ9865 hp => ?_)
                  obtain ⟨h9866, rfl⟩ := hp
                  have h9867 := HS.trans h9829 h9866 (by decide)
                  refine m_aload_n F rfl e_X10_readLine_166 ?_
                  refine r_callV F e_X10_readLine_167 (q_X10_goOn (x_l X) V c T 0 u h P9830 L _ _  h9867.1 (hob) oP9830 ) cb_X10_goOn ml_X10_154 im_X10_goOn se_X10_goOn h9867 rfl rfl (rest := []) rfl (Nat.le_of_ble_eq_true rfl) ⟨Nat.le_of_ble_eq_true rfl, Nat.le_of_ble_eq_true rfl⟩ ⟨Nat.le_of_ble_eq_true rfl, Nat.le_of_ble_eq_true rfl⟩ (fun r σ9868 hp => ?_)
                  obtain ⟨P9871, oP9871, rP9871, pr9872, h9869, rfl⟩ := hp
                  have h9870 := HS.trans h9867 h9869 (by decide)
                  have xP9871 := oP9871
                  unfold OKP at xP9871
                  unfold RA at rP9871
                  refine m_aload_n F rfl e_X10_readLine_170 ?_
                  refine m_dup F rfl e_X10_readLine_171 ?_
                  refine r_get F e_X10_readLine_172 fl_X10_202 h9870 rfl (fun v hv f9873 => ?_)
                  obtain ⟨x9874, rfl⟩ := hv
                  refine m_iconst F (v := 1) (by decide) e_X10_readLine_175 ?_
                  refine m_iadd F e_X10_readLine_176 ?_
                  refine Wm.top (fun x9875 _ => ?_)
                  refine r_put F (g' := (⟨T, 0, u, h, P9871, L⟩ : RG)) e_X10_readLine_177 fp_X10_202 h9870 (by decide) ⟨_, rfl⟩ (fun _ _ _ _ q => q) (fun _ _ _ q => q) rfl rfl (by decide) (fun σ9876 h9877 g9878 g9879 f9880 => ?_)
                  have pg9881 := pr9872.of (g9879 23 (by decide)) (g9879 21 (by decide))
                  have h9882 : HS V c _ [0, 2, 17, 18, 19, 20, 21, 22, 23] _ _ := ⟨HR.mono (Z' := Z) (by intro e; first | rfl | assumption | omega) h9877.1, h9877.2⟩
                  exact m_vret F hQ e_X10_readLine_180 (⟨P9871, oP9871, (by unfold RP; omega), (pg9881.mono (by omega)), h9882, rfl⟩)
          · subst q57
            refine m_aload_n F rfl e_X10_readLine_60 ?_
            refine m_aload_n F rfl e_X10_readLine_61 ?_
            refine r_getC F e_X10_readLine_62 fl_X10_120 h1 (f9545) ?_
            refine m_iconst F (v := 2) (by decide) e_X10_readLine_65 ?_
            refine m_icmp_ne F e_X10_readLine_66 (fun _ => ?_) (fun q => absurd q (by decide))
            refine m_iconst F (v := 2) (by decide) e_X10_readLine_73 ?_
            refine r_callV F e_X10_readLine_74 (q_X10_readMark (x_l X) V c T Z u h P L _ _ 2 h1.1 (hob) hP ) cb_X10_readMark ml_X10_184 im_X10_readMark se_X10_readMark h1 rfl rfl (rest := []) rfl (Nat.le_of_ble_eq_true rfl) ⟨Nat.le_of_ble_eq_true rfl, Nat.le_of_ble_eq_true rfl⟩ ⟨Nat.le_of_ble_eq_true rfl, Nat.le_of_ble_eq_true rfl⟩ (fun r σ9883 hp => ?_)
            obtain ⟨P9886, oP9886, rP9886, h9884, rfl⟩ := hp
            have h9885 := HS.trans h1 h9884 (by decide)
            have xP9886 := oP9886
            unfold OKP at xP9886
            unfold RP at rP9886
            refine m_goto F e_X10_readLine_77 ?_
            refine m_aload_n F rfl e_X10_readLine_146 ?_
            refine r_get F e_X10_readLine_147 fl_X10_141 h9885 rfl (fun v hv f9887 => ?_)
            obtain ⟨x9888, hx9888, rfl⟩ := hv
            replace hx9888 : Z = 0 → x9888 ≠ 0 := hx9888
            refine m_if_ne F e_X10_readLine_150 (fun q150 => ?_) (fun q150 => ?_)
            · have h9889 := HS.z0 h9885 (f9887) q150
              refine m_aload_n F rfl e_X10_readLine_166 ?_
              refine r_callV F e_X10_readLine_167 (q_X10_goOn (x_l X) V c T 0 u h P9886 L _ _  h9889.1 (hob) oP9886 ) cb_X10_goOn ml_X10_154 im_X10_goOn se_X10_goOn h9889 rfl rfl (rest := []) rfl (Nat.le_of_ble_eq_true rfl) ⟨Nat.le_of_ble_eq_true rfl, Nat.le_of_ble_eq_true rfl⟩ ⟨Nat.le_of_ble_eq_true rfl, Nat.le_of_ble_eq_true rfl⟩ (fun r σ9890 hp => ?_)
              obtain ⟨P9893, oP9893, rP9893, pr9894, h9891, rfl⟩ := hp
              have h9892 := HS.trans h9889 h9891 (by decide)
              have xP9893 := oP9893
              unfold OKP at xP9893
              unfold RA at rP9893
              refine m_aload_n F rfl e_X10_readLine_170 ?_
              refine m_dup F rfl e_X10_readLine_171 ?_
              refine r_get F e_X10_readLine_172 fl_X10_202 h9892 rfl (fun v hv f9895 => ?_)
              obtain ⟨x9896, rfl⟩ := hv
              refine m_iconst F (v := 1) (by decide) e_X10_readLine_175 ?_
              refine m_iadd F e_X10_readLine_176 ?_
              refine Wm.top (fun x9897 _ => ?_)
              refine r_put F (g' := (⟨T, 0, u, h, P9893, L⟩ : RG)) e_X10_readLine_177 fp_X10_202 h9892 (by decide) ⟨_, rfl⟩ (fun _ _ _ _ q => q) (fun _ _ _ q => q) rfl rfl (by decide) (fun σ9898 h9899 g9900 g9901 f9902 => ?_)
              have pg9903 := pr9894.of (g9901 23 (by decide)) (g9901 21 (by decide))
              have h9904 : HS V c _ [0, 2, 17, 18, 19, 20, 21, 22, 23] _ _ := ⟨HR.mono (Z' := Z) (by intro e; first | rfl | assumption | omega) h9899.1, h9899.2⟩
              exact m_vret F hQ e_X10_readLine_180 (⟨P9893, oP9893, (by unfold RP; omega), (pg9903.mono (by omega)), h9904, rfl⟩)
            · subst q150
              refine m_aload_n F rfl e_X10_readLine_153 ?_
              refine r_get F e_X10_readLine_154 fl_X10_110 h9885 rfl (fun v hv f9905 => ?_)
              obtain ⟨x9906, rfl⟩ := hv
              refine m_iconst F (v := 3) (by decide) e_X10_readLine_157 ?_
              refine m_icmp_eq F e_X10_readLine_158 (fun q158 => ?_) (fun q158 => ?_)
              · subst q158
                refine m_aload_n F rfl e_X10_readLine_166 ?_
                refine r_callV F e_X10_readLine_167 (q_X10_goOn (x_l X) V c T Z u h P9886 L _ _  h9885.1 (hob) oP9886 ) cb_X10_goOn ml_X10_154 im_X10_goOn se_X10_goOn h9885 rfl rfl (rest := []) rfl (Nat.le_of_ble_eq_true rfl) ⟨Nat.le_of_ble_eq_true rfl, Nat.le_of_ble_eq_true rfl⟩ ⟨Nat.le_of_ble_eq_true rfl, Nat.le_of_ble_eq_true rfl⟩ (fun r σ9907 hp => ?_)
                obtain ⟨P9910, oP9910, rP9910, pr9911, h9908, rfl⟩ := hp
                have h9909 := HS.trans h9885 h9908 (by decide)
                have xP9910 := oP9910
                unfold OKP at xP9910
                unfold RA at rP9910
                refine m_aload_n F rfl e_X10_readLine_170 ?_
                refine m_dup F rfl e_X10_readLine_171 ?_
                refine r_get F e_X10_readLine_172 fl_X10_202 h9909 rfl (fun v hv f9912 => ?_)
                obtain ⟨x9913, rfl⟩ := hv
                refine m_iconst F (v := 1) (by decide) e_X10_readLine_175 ?_
                refine m_iadd F e_X10_readLine_176 ?_
                refine Wm.top (fun x9914 _ => ?_)
                refine r_put F (g' := (⟨T, Z, u, h, P9910, L⟩ : RG)) e_X10_readLine_177 fp_X10_202 h9909 (by decide) ⟨_, rfl⟩ (fun _ _ _ _ q => q) (fun _ _ _ q => q) rfl rfl (by decide) (fun σ9915 h9916 g9917 g9918 f9919 => ?_)
                have pg9920 := pr9911.of (g9918 23 (by decide)) (g9918 21 (by decide))
                exact m_vret F hQ e_X10_readLine_180 (⟨P9910, oP9910, (by unfold RP; omega), (pg9920.mono (by omega)), h9916, rfl⟩)
              · refine m_aload_n F rfl e_X10_readLine_161 ?_
                refine m_iconst F (v := 1) (by decide) e_X10_readLine_162 ?_
                refine r_callV F e_X10_readLine_163 (q_X10_wrong (x_l X) V c T Z u h P9886 L _ _ 1 h9885.1 (hob) oP9886 (by first | omega | assumption | decide)) cb_X10_wrong ml_X10_150 im_X10_wrong se_X10_wrong h9885 rfl rfl (rest := []) rfl (Nat.le_of_ble_eq_true rfl) ⟨Nat.le_of_ble_eq_true rfl, Nat.le_of_ble_eq_true rfl⟩ ⟨Nat.le_of_ble_eq_true rfl, Nat.le_of_ble_eq_true rfl⟩ (fun r σ9921 hp => ?_)
                obtain ⟨h9922, rfl⟩ := hp
                have h9923 := HS.trans h9885 h9922 (by decide)
                refine m_aload_n F rfl e_X10_readLine_166 ?_
                refine r_callV F e_X10_readLine_167 (q_X10_goOn (x_l X) V c T 0 u h P9886 L _ _  h9923.1 (hob) oP9886 ) cb_X10_goOn ml_X10_154 im_X10_goOn se_X10_goOn h9923 rfl rfl (rest := []) rfl (Nat.le_of_ble_eq_true rfl) ⟨Nat.le_of_ble_eq_true rfl, Nat.le_of_ble_eq_true rfl⟩ ⟨Nat.le_of_ble_eq_true rfl, Nat.le_of_ble_eq_true rfl⟩ (fun r σ9924 hp => ?_)
                obtain ⟨P9927, oP9927, rP9927, pr9928, h9925, rfl⟩ := hp
                have h9926 := HS.trans h9923 h9925 (by decide)
                have xP9927 := oP9927
                unfold OKP at xP9927
                unfold RA at rP9927
                refine m_aload_n F rfl e_X10_readLine_170 ?_
                refine m_dup F rfl e_X10_readLine_171 ?_
                refine r_get F e_X10_readLine_172 fl_X10_202 h9926 rfl (fun v hv f9929 => ?_)
                obtain ⟨x9930, rfl⟩ := hv
                refine m_iconst F (v := 1) (by decide) e_X10_readLine_175 ?_
                refine m_iadd F e_X10_readLine_176 ?_
                refine Wm.top (fun x9931 _ => ?_)
                refine r_put F (g' := (⟨T, 0, u, h, P9927, L⟩ : RG)) e_X10_readLine_177 fp_X10_202 h9926 (by decide) ⟨_, rfl⟩ (fun _ _ _ _ q => q) (fun _ _ _ q => q) rfl rfl (by decide) (fun σ9932 h9933 g9934 g9935 f9936 => ?_)
                have pg9937 := pr9928.of (g9935 23 (by decide)) (g9935 21 (by decide))
                have h9938 : HS V c _ [0, 2, 17, 18, 19, 20, 21, 22, 23] _ _ := ⟨HR.mono (Z' := Z) (by intro e; first | rfl | assumption | omega) h9933.1, h9933.2⟩
                exact m_vret F hQ e_X10_readLine_180 (⟨P9927, oP9927, (by unfold RP; omega), (pg9937.mono (by omega)), h9938, rfl⟩)
      · subst q34
        refine m_aload_n F rfl e_X10_readLine_37 ?_
        refine r_callV F e_X10_readLine_38 (q_X10_readPay (x_l X) V c T Z u h P L _ _  h1.1 (hob) hP ) cb_X10_readPay ml_X10_181 im_X10_readPay se_X10_readPay h1 rfl rfl (rest := []) rfl (Nat.le_of_ble_eq_true rfl) ⟨Nat.le_of_ble_eq_true rfl, Nat.le_of_ble_eq_true rfl⟩ ⟨Nat.le_of_ble_eq_true rfl, Nat.le_of_ble_eq_true rfl⟩ (fun r σ9939 hp => ?_)
        obtain ⟨P9942, oP9942, rP9942, h9940, rfl⟩ := hp
        have h9941 := HS.trans h1 h9940 (by decide)
        have xP9942 := oP9942
        unfold OKP at xP9942
        unfold RP at rP9942
        refine m_goto F e_X10_readLine_41 ?_
        refine m_aload_n F rfl e_X10_readLine_146 ?_
        refine r_get F e_X10_readLine_147 fl_X10_141 h9941 rfl (fun v hv f9943 => ?_)
        obtain ⟨x9944, hx9944, rfl⟩ := hv
        replace hx9944 : Z = 0 → x9944 ≠ 0 := hx9944
        refine m_if_ne F e_X10_readLine_150 (fun q150 => ?_) (fun q150 => ?_)
        · have h9945 := HS.z0 h9941 (f9943) q150
          refine m_aload_n F rfl e_X10_readLine_166 ?_
          refine r_callV F e_X10_readLine_167 (q_X10_goOn (x_l X) V c T 0 u h P9942 L _ _  h9945.1 (hob) oP9942 ) cb_X10_goOn ml_X10_154 im_X10_goOn se_X10_goOn h9945 rfl rfl (rest := []) rfl (Nat.le_of_ble_eq_true rfl) ⟨Nat.le_of_ble_eq_true rfl, Nat.le_of_ble_eq_true rfl⟩ ⟨Nat.le_of_ble_eq_true rfl, Nat.le_of_ble_eq_true rfl⟩ (fun r σ9946 hp => ?_)
          obtain ⟨P9949, oP9949, rP9949, pr9950, h9947, rfl⟩ := hp
          have h9948 := HS.trans h9945 h9947 (by decide)
          have xP9949 := oP9949
          unfold OKP at xP9949
          unfold RA at rP9949
          refine m_aload_n F rfl e_X10_readLine_170 ?_
          refine m_dup F rfl e_X10_readLine_171 ?_
          refine r_get F e_X10_readLine_172 fl_X10_202 h9948 rfl (fun v hv f9951 => ?_)
          obtain ⟨x9952, rfl⟩ := hv
          refine m_iconst F (v := 1) (by decide) e_X10_readLine_175 ?_
          refine m_iadd F e_X10_readLine_176 ?_
          refine Wm.top (fun x9953 _ => ?_)
          refine r_put F (g' := (⟨T, 0, u, h, P9949, L⟩ : RG)) e_X10_readLine_177 fp_X10_202 h9948 (by decide) ⟨_, rfl⟩ (fun _ _ _ _ q => q) (fun _ _ _ q => q) rfl rfl (by decide) (fun σ9954 h9955 g9956 g9957 f9958 => ?_)
          have pg9959 := pr9950.of (g9957 23 (by decide)) (g9957 21 (by decide))
          have h9960 : HS V c _ [0, 2, 17, 18, 19, 20, 21, 22, 23] _ _ := ⟨HR.mono (Z' := Z) (by intro e; first | rfl | assumption | omega) h9955.1, h9955.2⟩
          exact m_vret F hQ e_X10_readLine_180 (⟨P9949, oP9949, (by unfold RP; omega), (pg9959.mono (by omega)), h9960, rfl⟩)
        · subst q150
          refine m_aload_n F rfl e_X10_readLine_153 ?_
          refine r_get F e_X10_readLine_154 fl_X10_110 h9941 rfl (fun v hv f9961 => ?_)
          obtain ⟨x9962, rfl⟩ := hv
          refine m_iconst F (v := 3) (by decide) e_X10_readLine_157 ?_
          refine m_icmp_eq F e_X10_readLine_158 (fun q158 => ?_) (fun q158 => ?_)
          · subst q158
            refine m_aload_n F rfl e_X10_readLine_166 ?_
            refine r_callV F e_X10_readLine_167 (q_X10_goOn (x_l X) V c T Z u h P9942 L _ _  h9941.1 (hob) oP9942 ) cb_X10_goOn ml_X10_154 im_X10_goOn se_X10_goOn h9941 rfl rfl (rest := []) rfl (Nat.le_of_ble_eq_true rfl) ⟨Nat.le_of_ble_eq_true rfl, Nat.le_of_ble_eq_true rfl⟩ ⟨Nat.le_of_ble_eq_true rfl, Nat.le_of_ble_eq_true rfl⟩ (fun r σ9963 hp => ?_)
            obtain ⟨P9966, oP9966, rP9966, pr9967, h9964, rfl⟩ := hp
            have h9965 := HS.trans h9941 h9964 (by decide)
            have xP9966 := oP9966
            unfold OKP at xP9966
            unfold RA at rP9966
            refine m_aload_n F rfl e_X10_readLine_170 ?_
            refine m_dup F rfl e_X10_readLine_171 ?_
            refine r_get F e_X10_readLine_172 fl_X10_202 h9965 rfl (fun v hv f9968 => ?_)
            obtain ⟨x9969, rfl⟩ := hv
            refine m_iconst F (v := 1) (by decide) e_X10_readLine_175 ?_
            refine m_iadd F e_X10_readLine_176 ?_
            refine Wm.top (fun x9970 _ => ?_)
            refine r_put F (g' := (⟨T, Z, u, h, P9966, L⟩ : RG)) e_X10_readLine_177 fp_X10_202 h9965 (by decide) ⟨_, rfl⟩ (fun _ _ _ _ q => q) (fun _ _ _ q => q) rfl rfl (by decide) (fun σ9971 h9972 g9973 g9974 f9975 => ?_)
            have pg9976 := pr9967.of (g9974 23 (by decide)) (g9974 21 (by decide))
            exact m_vret F hQ e_X10_readLine_180 (⟨P9966, oP9966, (by unfold RP; omega), (pg9976.mono (by omega)), h9972, rfl⟩)
          · refine m_aload_n F rfl e_X10_readLine_161 ?_
            refine m_iconst F (v := 1) (by decide) e_X10_readLine_162 ?_
            refine r_callV F e_X10_readLine_163 (q_X10_wrong (x_l X) V c T Z u h P9942 L _ _ 1 h9941.1 (hob) oP9942 (by first | omega | assumption | decide)) cb_X10_wrong ml_X10_150 im_X10_wrong se_X10_wrong h9941 rfl rfl (rest := []) rfl (Nat.le_of_ble_eq_true rfl) ⟨Nat.le_of_ble_eq_true rfl, Nat.le_of_ble_eq_true rfl⟩ ⟨Nat.le_of_ble_eq_true rfl, Nat.le_of_ble_eq_true rfl⟩ (fun r σ9977 hp => ?_)
            obtain ⟨h9978, rfl⟩ := hp
            have h9979 := HS.trans h9941 h9978 (by decide)
            refine m_aload_n F rfl e_X10_readLine_166 ?_
            refine r_callV F e_X10_readLine_167 (q_X10_goOn (x_l X) V c T 0 u h P9942 L _ _  h9979.1 (hob) oP9942 ) cb_X10_goOn ml_X10_154 im_X10_goOn se_X10_goOn h9979 rfl rfl (rest := []) rfl (Nat.le_of_ble_eq_true rfl) ⟨Nat.le_of_ble_eq_true rfl, Nat.le_of_ble_eq_true rfl⟩ ⟨Nat.le_of_ble_eq_true rfl, Nat.le_of_ble_eq_true rfl⟩ (fun r σ9980 hp => ?_)
            obtain ⟨P9983, oP9983, rP9983, pr9984, h9981, rfl⟩ := hp
            have h9982 := HS.trans h9979 h9981 (by decide)
            have xP9983 := oP9983
            unfold OKP at xP9983
            unfold RA at rP9983
            refine m_aload_n F rfl e_X10_readLine_170 ?_
            refine m_dup F rfl e_X10_readLine_171 ?_
            refine r_get F e_X10_readLine_172 fl_X10_202 h9982 rfl (fun v hv f9985 => ?_)
            obtain ⟨x9986, rfl⟩ := hv
            refine m_iconst F (v := 1) (by decide) e_X10_readLine_175 ?_
            refine m_iadd F e_X10_readLine_176 ?_
            refine Wm.top (fun x9987 _ => ?_)
            refine r_put F (g' := (⟨T, 0, u, h, P9983, L⟩ : RG)) e_X10_readLine_177 fp_X10_202 h9982 (by decide) ⟨_, rfl⟩ (fun _ _ _ _ q => q) (fun _ _ _ q => q) rfl rfl (by decide) (fun σ9988 h9989 g9990 g9991 f9992 => ?_)
            have pg9993 := pr9984.of (g9991 23 (by decide)) (g9991 21 (by decide))
            have h9994 : HS V c _ [0, 2, 17, 18, 19, 20, 21, 22, 23] _ _ := ⟨HR.mono (Z' := Z) (by intro e; first | rfl | assumption | omega) h9989.1, h9989.2⟩
            exact m_vret F hQ e_X10_readLine_180 (⟨P9983, oP9983, (by unfold RP; omega), (pg9993.mono (by omega)), h9994, rfl⟩)
    · subst q19
      refine m_aload_n F rfl e_X10_readLine_22 ?_
      refine r_callV F e_X10_readLine_23 (q_X10_readLease (x_l X) V c T Z u h P L _ _  h1.1 (hob) hP ) cb_X10_readLease ml_X10_178 im_X10_readLease se_X10_readLease h1 rfl rfl (rest := []) rfl (Nat.le_of_ble_eq_true rfl) ⟨Nat.le_of_ble_eq_true rfl, Nat.le_of_ble_eq_true rfl⟩ ⟨Nat.le_of_ble_eq_true rfl, Nat.le_of_ble_eq_true rfl⟩ (fun r σ9995 hp => ?_)
      obtain ⟨P9998, oP9998, rP9998, h9996, rfl⟩ := hp
      have h9997 := HS.trans h1 h9996 (by decide)
      have xP9998 := oP9998
      unfold OKP at xP9998
      unfold RP at rP9998
      refine m_goto F e_X10_readLine_26 ?_
      refine m_aload_n F rfl e_X10_readLine_146 ?_
      refine r_get F e_X10_readLine_147 fl_X10_141 h9997 rfl (fun v hv f9999 => ?_)
      obtain ⟨x10000, hx10000, rfl⟩ := hv
      replace hx10000 : Z = 0 → x10000 ≠ 0 := hx10000
      refine m_if_ne F e_X10_readLine_150 (fun q150 => ?_) (fun q150 => ?_)
      · have h10001 := HS.z0 h9997 (f9999) q150
        refine m_aload_n F rfl e_X10_readLine_166 ?_
        refine r_callV F e_X10_readLine_167 (q_X10_goOn (x_l X) V c T 0 u h P9998 L _ _  h10001.1 (hob) oP9998 ) cb_X10_goOn ml_X10_154 im_X10_goOn se_X10_goOn h10001 rfl rfl (rest := []) rfl (Nat.le_of_ble_eq_true rfl) ⟨Nat.le_of_ble_eq_true rfl, Nat.le_of_ble_eq_true rfl⟩ ⟨Nat.le_of_ble_eq_true rfl, Nat.le_of_ble_eq_true rfl⟩ (fun r σ10002 hp => ?_)
        obtain ⟨P10005, oP10005, rP10005, pr10006, h10003, rfl⟩ := hp
        have h10004 := HS.trans h10001 h10003 (by decide)
        have xP10005 := oP10005
        unfold OKP at xP10005
        unfold RA at rP10005
        refine m_aload_n F rfl e_X10_readLine_170 ?_
        refine m_dup F rfl e_X10_readLine_171 ?_
        refine r_get F e_X10_readLine_172 fl_X10_202 h10004 rfl (fun v hv f10007 => ?_)
        obtain ⟨x10008, rfl⟩ := hv
        refine m_iconst F (v := 1) (by decide) e_X10_readLine_175 ?_
        refine m_iadd F e_X10_readLine_176 ?_
        refine Wm.top (fun x10009 _ => ?_)
        refine r_put F (g' := (⟨T, 0, u, h, P10005, L⟩ : RG)) e_X10_readLine_177 fp_X10_202 h10004 (by decide) ⟨_, rfl⟩ (fun _ _ _ _ q => q) (fun _ _ _ q => q) rfl rfl (by decide) (fun σ10010 h10011 g10012 g10013 f10014 => ?_)
        have pg10015 := pr10006.of (g10013 23 (by decide)) (g10013 21 (by decide))
        have h10016 : HS V c _ [0, 2, 17, 18, 19, 20, 21, 22, 23] _ _ := ⟨HR.mono (Z' := Z) (by intro e; first | rfl | assumption | omega) h10011.1, h10011.2⟩
        exact m_vret F hQ e_X10_readLine_180 (⟨P10005, oP10005, (by unfold RP; omega), (pg10015.mono (by omega)), h10016, rfl⟩)
      · subst q150
        refine m_aload_n F rfl e_X10_readLine_153 ?_
        refine r_get F e_X10_readLine_154 fl_X10_110 h9997 rfl (fun v hv f10017 => ?_)
        obtain ⟨x10018, rfl⟩ := hv
        refine m_iconst F (v := 3) (by decide) e_X10_readLine_157 ?_
        refine m_icmp_eq F e_X10_readLine_158 (fun q158 => ?_) (fun q158 => ?_)
        · subst q158
          refine m_aload_n F rfl e_X10_readLine_166 ?_
          refine r_callV F e_X10_readLine_167 (q_X10_goOn (x_l X) V c T Z u h P9998 L _ _  h9997.1 (hob) oP9998 ) cb_X10_goOn ml_X10_154 im_X10_goOn se_X10_goOn h9997 rfl rfl (rest := []) rfl (Nat.le_of_ble_eq_true rfl) ⟨Nat.le_of_ble_eq_true rfl, Nat.le_of_ble_eq_true rfl⟩ ⟨Nat.le_of_ble_eq_true rfl, Nat.le_of_ble_eq_true rfl⟩ (fun r σ10019 hp => ?_)
          obtain ⟨P10022, oP10022, rP10022, pr10023, h10020, rfl⟩ := hp
          have h10021 := HS.trans h9997 h10020 (by decide)
          have xP10022 := oP10022
          unfold OKP at xP10022
          unfold RA at rP10022
          refine m_aload_n F rfl e_X10_readLine_170 ?_
          refine m_dup F rfl e_X10_readLine_171 ?_
          refine r_get F e_X10_readLine_172 fl_X10_202 h10021 rfl (fun v hv f10024 => ?_)
          obtain ⟨x10025, rfl⟩ := hv
          refine m_iconst F (v := 1) (by decide) e_X10_readLine_175 ?_
          refine m_iadd F e_X10_readLine_176 ?_
          refine Wm.top (fun x10026 _ => ?_)
          refine r_put F (g' := (⟨T, Z, u, h, P10022, L⟩ : RG)) e_X10_readLine_177 fp_X10_202 h10021 (by decide) ⟨_, rfl⟩ (fun _ _ _ _ q => q) (fun _ _ _ q => q) rfl rfl (by decide) (fun σ10027 h10028 g10029 g10030 f10031 => ?_)
          have pg10032 := pr10023.of (g10030 23 (by decide)) (g10030 21 (by decide))
          exact m_vret F hQ e_X10_readLine_180 (⟨P10022, oP10022, (by unfold RP; omega), (pg10032.mono (by omega)), h10028, rfl⟩)
        · refine m_aload_n F rfl e_X10_readLine_161 ?_
          refine m_iconst F (v := 1) (by decide) e_X10_readLine_162 ?_
          refine r_callV F e_X10_readLine_163 (q_X10_wrong (x_l X) V c T Z u h P9998 L _ _ 1 h9997.1 (hob) oP9998 (by first | omega | assumption | decide)) cb_X10_wrong ml_X10_150 im_X10_wrong se_X10_wrong h9997 rfl rfl (rest := []) rfl (Nat.le_of_ble_eq_true rfl) ⟨Nat.le_of_ble_eq_true rfl, Nat.le_of_ble_eq_true rfl⟩ ⟨Nat.le_of_ble_eq_true rfl, Nat.le_of_ble_eq_true rfl⟩ (fun r σ10033 hp => ?_)
          obtain ⟨h10034, rfl⟩ := hp
          have h10035 := HS.trans h9997 h10034 (by decide)
          refine m_aload_n F rfl e_X10_readLine_166 ?_
          refine r_callV F e_X10_readLine_167 (q_X10_goOn (x_l X) V c T 0 u h P9998 L _ _  h10035.1 (hob) oP9998 ) cb_X10_goOn ml_X10_154 im_X10_goOn se_X10_goOn h10035 rfl rfl (rest := []) rfl (Nat.le_of_ble_eq_true rfl) ⟨Nat.le_of_ble_eq_true rfl, Nat.le_of_ble_eq_true rfl⟩ ⟨Nat.le_of_ble_eq_true rfl, Nat.le_of_ble_eq_true rfl⟩ (fun r σ10036 hp => ?_)
          obtain ⟨P10039, oP10039, rP10039, pr10040, h10037, rfl⟩ := hp
          have h10038 := HS.trans h10035 h10037 (by decide)
          have xP10039 := oP10039
          unfold OKP at xP10039
          unfold RA at rP10039
          refine m_aload_n F rfl e_X10_readLine_170 ?_
          refine m_dup F rfl e_X10_readLine_171 ?_
          refine r_get F e_X10_readLine_172 fl_X10_202 h10038 rfl (fun v hv f10041 => ?_)
          obtain ⟨x10042, rfl⟩ := hv
          refine m_iconst F (v := 1) (by decide) e_X10_readLine_175 ?_
          refine m_iadd F e_X10_readLine_176 ?_
          refine Wm.top (fun x10043 _ => ?_)
          refine r_put F (g' := (⟨T, 0, u, h, P10039, L⟩ : RG)) e_X10_readLine_177 fp_X10_202 h10038 (by decide) ⟨_, rfl⟩ (fun _ _ _ _ q => q) (fun _ _ _ q => q) rfl rfl (by decide) (fun σ10044 h10045 g10046 g10047 f10048 => ?_)
          have pg10049 := pr10040.of (g10047 23 (by decide)) (g10047 21 (by decide))
          have h10050 : HS V c _ [0, 2, 17, 18, 19, 20, 21, 22, 23] _ _ := ⟨HR.mono (Z' := Z) (by intro e; first | rfl | assumption | omega) h10045.1, h10045.2⟩
          exact m_vret F hQ e_X10_readLine_180 (⟨P10039, oP10039, (by unfold RP; omega), (pg10049.mono (by omega)), h10050, rfl⟩)
  · refine m_aload_n F rfl e_X10_readLine_7 ?_
    refine m_iconst F (v := 1) (by decide) e_X10_readLine_8 ?_
    refine r_callV F e_X10_readLine_9 (q_X10_wrong (x_l X) V c T Z u h P L _ _ 1 h1.1 (hob) hP (by first | omega | assumption | decide)) cb_X10_wrong ml_X10_150 im_X10_wrong se_X10_wrong h1 rfl rfl (rest := []) rfl (Nat.le_of_ble_eq_true rfl) ⟨Nat.le_of_ble_eq_true rfl, Nat.le_of_ble_eq_true rfl⟩ ⟨Nat.le_of_ble_eq_true rfl, Nat.le_of_ble_eq_true rfl⟩ (fun r σ10051 hp => ?_)
    obtain ⟨h10052, rfl⟩ := hp
    have h10053 := HS.trans h1 h10052 (by decide)
    refine m_goto F e_X10_readLine_12 ?_
    refine m_aload_n F rfl e_X10_readLine_146 ?_
    refine r_get F e_X10_readLine_147 fl_X10_141 h10053 rfl (fun v hv f10054 => ?_)
    obtain ⟨x10055, hx10055, rfl⟩ := hv
    replace hx10055 : 0 = 0 → x10055 ≠ 0 := hx10055
    refine m_if_ne F e_X10_readLine_150 (fun q150 => ?_) (fun q150 => ?_)
    · have h10056 := HS.z0 h10053 (f10054) q150
      refine m_aload_n F rfl e_X10_readLine_166 ?_
      refine r_callV F e_X10_readLine_167 (q_X10_goOn (x_l X) V c T 0 u h P L _ _  h10056.1 (hob) hP ) cb_X10_goOn ml_X10_154 im_X10_goOn se_X10_goOn h10056 rfl rfl (rest := []) rfl (Nat.le_of_ble_eq_true rfl) ⟨Nat.le_of_ble_eq_true rfl, Nat.le_of_ble_eq_true rfl⟩ ⟨Nat.le_of_ble_eq_true rfl, Nat.le_of_ble_eq_true rfl⟩ (fun r σ10057 hp => ?_)
      obtain ⟨P10060, oP10060, rP10060, pr10061, h10058, rfl⟩ := hp
      have h10059 := HS.trans h10056 h10058 (by decide)
      have xP10060 := oP10060
      unfold OKP at xP10060
      unfold RA at rP10060
      refine m_aload_n F rfl e_X10_readLine_170 ?_
      refine m_dup F rfl e_X10_readLine_171 ?_
      refine r_get F e_X10_readLine_172 fl_X10_202 h10059 rfl (fun v hv f10062 => ?_)
      obtain ⟨x10063, rfl⟩ := hv
      refine m_iconst F (v := 1) (by decide) e_X10_readLine_175 ?_
      refine m_iadd F e_X10_readLine_176 ?_
      refine Wm.top (fun x10064 _ => ?_)
      refine r_put F (g' := (⟨T, 0, u, h, P10060, L⟩ : RG)) e_X10_readLine_177 fp_X10_202 h10059 (by decide) ⟨_, rfl⟩ (fun _ _ _ _ q => q) (fun _ _ _ q => q) rfl rfl (by decide) (fun σ10065 h10066 g10067 g10068 f10069 => ?_)
      have pg10070 := pr10061.of (g10068 23 (by decide)) (g10068 21 (by decide))
      have h10071 : HS V c _ [0, 2, 17, 18, 19, 20, 21, 22, 23] _ _ := ⟨HR.mono (Z' := Z) (by intro e; first | rfl | assumption | omega) h10066.1, h10066.2⟩
      exact m_vret F hQ e_X10_readLine_180 (⟨P10060, oP10060, (by unfold RP; omega), (pg10070.mono (by omega)), h10071, rfl⟩)
    · first | exact absurd q150 (hx10055 rfl) | contradiction
set_option maxRecDepth 20000 in
theorem q_X10_freshText (l : Launch) (V : VX) (c T Z u h : Nat) (P : NP) (L : Nat → LQ) (N : Nat) (σ : Mem)  (h0 : HR V c ⟨T, Z, u, h, P, L⟩ σ) (hob : OKB L) (hP : OKP P)  : Ct l V yX10_freshText cX10_freshText 2 none 1 0 0 N σ [.ref c] (fun r τ => ∃ P9 : NP, OKP P9 ∧ RP P P9 ∧ HS V c (⟨T, Z, u, h, P9, L⟩ : RG) [0, 1, 2, 4, 5, 6, 7, 8, 9, 10, 11, 12, 13, 14, 15, 16, 17, 18, 19, 20, 21, 22, 23] σ τ ∧ r = none) := by
  refine Ct.of (by decide) (Nat.le_of_ble_eq_true rfl) [(0, .ref c)] rfl (fun X hX F hQ => ?_)
  have hPP := hP
  unfold OKP at hPP
  have h1 : HS V c ⟨T, Z, u, h, P, L⟩ [0, 1, 2, 4, 5, 6, 7, 8, 9, 10, 11, 12, 13, 14, 15, 16, 17, 18, 19, 20, 21, 22, 23] σ σ := HS.start h0
  refine m_iconst F (v := 0) (by decide) e_X10_freshText_0 ?_
  refine m_istore_n F (lv' := [(1, .int 0), (0, .ref c)]) e_X10_freshText_1 (by decide) rfl ?_
  refine m_iload_n F rfl e_X10_freshText_2 ?_
  refine m_iconst F (v := 5) (by decide) e_X10_freshText_3 ?_
  refine m_icmp_ge F e_X10_freshText_4 (fun q => absurd q (by decide)) (fun _ => ?_)
  refine m_aload_n F rfl e_X10_freshText_7 ?_
  refine m_iload_n F rfl e_X10_freshText_8 ?_
  refine m_iconst F (v := 0) (by decide) e_X10_freshText_9 ?_
  refine r_callV F e_X10_freshText_10 (q_X10_reads0 (x_l X) V c T Z u h P L _ _ 0 h1.1 (hob) hP (by omega) (by first | omega | assumption | decide)) cb_X10_reads ml_X10_170 im_X10_reads se_X10_reads h1 rfl rfl (rest := []) rfl (Nat.le_of_ble_eq_true rfl) ⟨Nat.le_of_ble_eq_true rfl, Nat.le_of_ble_eq_true rfl⟩ ⟨Nat.le_of_ble_eq_true rfl, Nat.le_of_ble_eq_true rfl⟩ (fun r σ10072 hp => ?_)
  obtain ⟨h10073, rfl⟩ := hp
  have h10074 := HS.trans h1 h10073 (by decide)
  obtain ⟨P10075, eP10075⟩ : ∃ P9, P9 = (mkP P.n0 P.n2 0 P.n7 P.m0 P.m5 P.w2 P.w7 P.kk P.a P.f P.p) := ⟨_, rfl⟩
  rw [← eP10075] at h10074
  have fP10075 : P10075.n0 = P.n0 ∧ P10075.n2 = P.n2 ∧ P10075.n5 = 0 ∧ P10075.n7 = P.n7 ∧ P10075.m0 = P.m0 ∧ P10075.m5 = P.m5 ∧ P10075.w2 = P.w2 ∧ P10075.w7 = P.w7 ∧ P10075.kk = P.kk ∧ P10075.a = P.a ∧ P10075.f = P.f ∧ P10075.p = P.p := by rw [eP10075]; exact ⟨rfl, rfl, rfl, rfl, rfl, rfl, rfl, rfl, rfl, rfl, rfl, rfl⟩
  refine m_iinc F (v := 1) (lv' := [(1, .int 1), (0, .ref c)]) e_X10_freshText_13 rfl (by decide) (by decide) rfl ?_
  refine m_goto F e_X10_freshText_16 ?_
  refine m_iload_n F rfl e_X10_freshText_2 ?_
  refine m_iconst F (v := 5) (by decide) e_X10_freshText_3 ?_
  refine m_icmp_ge F e_X10_freshText_4 (fun q => absurd q (by decide)) (fun _ => ?_)
  refine m_aload_n F rfl e_X10_freshText_7 ?_
  refine m_iload_n F rfl e_X10_freshText_8 ?_
  refine m_iconst F (v := 0) (by decide) e_X10_freshText_9 ?_
  have oP10079 : OKP P10075 := by unfold OKP; omega
  refine r_callV F e_X10_freshText_10 (q_X10_reads1 (x_l X) V c T Z u h P10075 L _ _ 0 h10074.1 (hob) oP10079 ) cb_X10_reads ml_X10_170 im_X10_reads se_X10_reads h10074 rfl rfl (rest := []) rfl (Nat.le_of_ble_eq_true rfl) ⟨Nat.le_of_ble_eq_true rfl, Nat.le_of_ble_eq_true rfl⟩ ⟨Nat.le_of_ble_eq_true rfl, Nat.le_of_ble_eq_true rfl⟩ (fun r σ10076 hp => ?_)
  obtain ⟨h10077, rfl⟩ := hp
  have h10078 := HS.trans h10074 h10077 (by decide)
  refine m_iinc F (v := 2) (lv' := [(1, .int 2), (0, .ref c)]) e_X10_freshText_13 rfl (by decide) (by decide) rfl ?_
  refine m_goto F e_X10_freshText_16 ?_
  refine m_iload_n F rfl e_X10_freshText_2 ?_
  refine m_iconst F (v := 5) (by decide) e_X10_freshText_3 ?_
  refine m_icmp_ge F e_X10_freshText_4 (fun q => absurd q (by decide)) (fun _ => ?_)
  refine m_aload_n F rfl e_X10_freshText_7 ?_
  refine m_iload_n F rfl e_X10_freshText_8 ?_
  refine m_iconst F (v := 0) (by decide) e_X10_freshText_9 ?_
  refine r_callV F e_X10_freshText_10 (q_X10_reads2 (x_l X) V c T Z u h P10075 L _ _ 0 h10078.1 (hob) oP10079 (by omega) (by first | omega | assumption | decide)) cb_X10_reads ml_X10_170 im_X10_reads se_X10_reads h10078 rfl rfl (rest := []) rfl (Nat.le_of_ble_eq_true rfl) ⟨Nat.le_of_ble_eq_true rfl, Nat.le_of_ble_eq_true rfl⟩ ⟨Nat.le_of_ble_eq_true rfl, Nat.le_of_ble_eq_true rfl⟩ (fun r σ10080 hp => ?_)
  obtain ⟨h10081, rfl⟩ := hp
  have h10082 := HS.trans h10078 h10081 (by decide)
  obtain ⟨P10083, eP10083⟩ : ∃ P9, P9 = (mkP P10075.n0 P10075.n2 P10075.n5 0 P10075.m0 P10075.m5 P10075.w2 P10075.w7 P10075.kk P10075.a P10075.f P10075.p) := ⟨_, rfl⟩
  rw [← eP10083] at h10082
  have fP10083 : P10083.n0 = P10075.n0 ∧ P10083.n2 = P10075.n2 ∧ P10083.n5 = P10075.n5 ∧ P10083.n7 = 0 ∧ P10083.m0 = P10075.m0 ∧ P10083.m5 = P10075.m5 ∧ P10083.w2 = P10075.w2 ∧ P10083.w7 = P10075.w7 ∧ P10083.kk = P10075.kk ∧ P10083.a = P10075.a ∧ P10083.f = P10075.f ∧ P10083.p = P10075.p := by rw [eP10083]; exact ⟨rfl, rfl, rfl, rfl, rfl, rfl, rfl, rfl, rfl, rfl, rfl, rfl⟩
  refine m_iinc F (v := 3) (lv' := [(1, .int 3), (0, .ref c)]) e_X10_freshText_13 rfl (by decide) (by decide) rfl ?_
  refine m_goto F e_X10_freshText_16 ?_
  refine m_iload_n F rfl e_X10_freshText_2 ?_
  refine m_iconst F (v := 5) (by decide) e_X10_freshText_3 ?_
  refine m_icmp_ge F e_X10_freshText_4 (fun q => absurd q (by decide)) (fun _ => ?_)
  refine m_aload_n F rfl e_X10_freshText_7 ?_
  refine m_iload_n F rfl e_X10_freshText_8 ?_
  refine m_iconst F (v := 0) (by decide) e_X10_freshText_9 ?_
  have oP10087 : OKP P10083 := by unfold OKP; omega
  refine r_callV F e_X10_freshText_10 (q_X10_reads3 (x_l X) V c T Z u h P10083 L _ _ 0 h10082.1 (hob) oP10087 (by omega)) cb_X10_reads ml_X10_170 im_X10_reads se_X10_reads h10082 rfl rfl (rest := []) rfl (Nat.le_of_ble_eq_true rfl) ⟨Nat.le_of_ble_eq_true rfl, Nat.le_of_ble_eq_true rfl⟩ ⟨Nat.le_of_ble_eq_true rfl, Nat.le_of_ble_eq_true rfl⟩ (fun r σ10084 hp => ?_)
  obtain ⟨h10085, rfl⟩ := hp
  have h10086 := HS.trans h10082 h10085 (by decide)
  refine m_iinc F (v := 4) (lv' := [(1, .int 4), (0, .ref c)]) e_X10_freshText_13 rfl (by decide) (by decide) rfl ?_
  refine m_goto F e_X10_freshText_16 ?_
  refine m_iload_n F rfl e_X10_freshText_2 ?_
  refine m_iconst F (v := 5) (by decide) e_X10_freshText_3 ?_
  refine m_icmp_ge F e_X10_freshText_4 (fun q => absurd q (by decide)) (fun _ => ?_)
  refine m_aload_n F rfl e_X10_freshText_7 ?_
  refine m_iload_n F rfl e_X10_freshText_8 ?_
  refine m_iconst F (v := 0) (by decide) e_X10_freshText_9 ?_
  refine r_callV F e_X10_freshText_10 (q_X10_reads4 (x_l X) V c T Z u h P10083 L _ _ 0 h10086.1 (hob) oP10087 ) cb_X10_reads ml_X10_170 im_X10_reads se_X10_reads h10086 rfl rfl (rest := []) rfl (Nat.le_of_ble_eq_true rfl) ⟨Nat.le_of_ble_eq_true rfl, Nat.le_of_ble_eq_true rfl⟩ ⟨Nat.le_of_ble_eq_true rfl, Nat.le_of_ble_eq_true rfl⟩ (fun r σ10088 hp => ?_)
  obtain ⟨h10089, rfl⟩ := hp
  have h10090 := HS.trans h10086 h10089 (by decide)
  refine m_iinc F (v := 5) (lv' := [(1, .int 5), (0, .ref c)]) e_X10_freshText_13 rfl (by decide) (by decide) rfl ?_
  refine m_goto F e_X10_freshText_16 ?_
  refine m_iload_n F rfl e_X10_freshText_2 ?_
  refine m_iconst F (v := 5) (by decide) e_X10_freshText_3 ?_
  refine m_icmp_ge F e_X10_freshText_4 (fun _ => ?_) (fun q => absurd (by decide) q)
  exact m_vret F hQ e_X10_freshText_19 (⟨P10083, oP10087, (by unfold RP; omega), h10090, rfl⟩)
